set_option maxHeartbeats 4000000 in
set_option maxRecDepth 100000 in
theorem k_X12_adds (l : Launch) (D : va_G) (κ : Nat → ClassId) (β : Nat) (a12 : Nat) (r12 : Nat → Nat) (v12_keptMany : Int32) (v12_done : Int32) (v12_sheets : Int32) (v12_holes : Int32) (v12_worms : Int32) (v12_laidMany : Int32) (v12_wanted : Int32) (v12_orderMany : Int32) (v12_firstOrder : Int32) (v12_lines : Int32) (v12_marks : Int32) (v12_dots : Int32) (v12_madeIn : Int32) (v12_bound : Int32) (v12_places : Int32) (v12_maps : Int32) (v12_tapeMany : Int32) (v12_stories : Int32) (v12_base : Int32) (v12_at : Int32) (v12_ends : Int32) (v12_fault : Int32) (v12_opened : Int32) (v12_bodies : Int32) (v12_ran : Int32) (v12_ownKind : Int32) (v12_ownNumber : Int32) (f12_may : Nat → Int32) (f12_houseOf : Nat → Int32) (f12_inkOf : Nat → Int32) (sz : Nat) (p1 : Int32) (p2 : Int32) (p3 : Int32) (i1 : Rg 0 40 v12_keptMany) (i2 : Rg 0 40 v12_done) (i3 : Rg 0 8 v12_sheets) (i4 : Rg 0 40 v12_holes) (i5 : Rg 0 40 v12_worms) (i6 : Rg 0 8 v12_laidMany) (i7 : Rg 0 8 v12_wanted) (i8 : Rg 0 20 v12_lines) (i9 : Rg 0 60 v12_marks) (i10 : Rg 0 40 v12_dots) (i11 : Rg 0 20 v12_places) (i12 : Rg 0 8 v12_maps) (i13 : Rg 0 120 v12_tapeMany) (i14 : Rg 0 6 v12_stories) (i15 : Rg 0 50 v12_bodies) (i16 : Rg 0 1000 v12_ran) (i17 : v12_done.toInt ≤ v12_keptMany.toInt) (i18 : v12_dots.toInt ≤ 39) : Met l yX12_adds wsX12_adds ({ frames := 0, cells := 0, slots := 0, locals := 0 } : Room) (PcK D κ β [O12 a12 r12 v12_keptMany v12_done v12_sheets v12_holes v12_worms v12_laidMany v12_wanted v12_orderMany v12_firstOrder v12_lines v12_marks v12_dots v12_madeIn v12_bound v12_places v12_maps v12_tapeMany v12_stories v12_base v12_at v12_ends v12_fault v12_opened v12_bodies v12_ran v12_ownKind v12_ownNumber, (cI κ (r12 0) 55 f12_may), (cI κ (r12 28) 41 f12_houseOf), (cI κ (r12 29) 41 f12_inkOf)] sz [.ref a12, .int p1, .int p2, .int p3]) (QvK D (fun (u : Int32 × (Nat → Int32) × (Nat → Int32) × (Nat → Int32)) => (0 ≤ u.1.toInt ∧ u.1.toInt ≤ 40) ∧ (u.1.toInt = v12_dots.toInt + 1)) (fun (u : Int32 × (Nat → Int32) × (Nat → Int32) × (Nat → Int32)) => [O12 a12 r12 v12_keptMany v12_done v12_sheets v12_holes v12_worms v12_laidMany v12_wanted v12_orderMany v12_firstOrder v12_lines v12_marks u.1 v12_madeIn v12_bound v12_places v12_maps v12_tapeMany v12_stories v12_base v12_at v12_ends v12_fault v12_opened v12_bodies v12_ran v12_ownKind v12_ownNumber, (cI κ (r12 0) 55 u.2.1), (cI κ (r12 28) 41 u.2.2.1), (cI κ (r12 29) 41 u.2.2.2)]) [O12 a12 r12 v12_keptMany v12_done v12_sheets v12_holes v12_worms v12_laidMany v12_wanted v12_orderMany v12_firstOrder v12_lines v12_marks v12_dots v12_madeIn v12_bound v12_places v12_maps v12_tapeMany v12_stories v12_base v12_at v12_ends v12_fault v12_opened v12_bodies v12_ran v12_ownKind v12_ownNumber, (cI κ (r12 0) 55 f12_may), (cI κ (r12 28) 41 f12_houseOf), (cI κ (r12 29) 41 f12_inkOf)] sz) 0 0 (va_A [O12 a12 r12 v12_keptMany v12_done v12_sheets v12_holes v12_worms v12_laidMany v12_wanted v12_orderMany v12_firstOrder v12_lines v12_marks v12_dots v12_madeIn v12_bound v12_places v12_maps v12_tapeMany v12_stories v12_base v12_at v12_ends v12_fault v12_opened v12_bodies v12_ran v12_ownKind v12_ownNumber, (cI κ (r12 0) 55 f12_may), (cI κ (r12 28) 41 f12_houseOf), (cI κ (r12 29) 41 f12_inkOf)] sz) := by
  refine ofK_v (cc := cX12_adds) (maxL := 4) (own := RX12) (by decide) rfl rfl (Nat.le_of_ble_eq_true rfl) ?_
  intro p e s m args below meth c Q A ls hsz hx hb hml hts hown hK hA hAB hP hD hl hname ret
  have hS : va_S A s.heap s.heap [] := va_S.rf
  have hl : lv_has ls 4 [(0, .ref a12), (1, .int p1), (2, .int p2), (3, .int p3)] := hl
  have w0 := hts (.fieldLink RX12 59 "OlderSkinModel" "houseOf" "[I") (List.mem_of_getElem? (i := 1) rfl)
  have w1 := (fun w h => List.mem_cons_of_mem _ (List.mem_append_right _ h) : ∀ w ∈ u_ws RX12 TX12 63, w ∈ wsX12_adds)
  have w2 := hts (.fieldLink RX12 227 "OlderSkinModel" "dots" "I") (List.mem_of_getElem? (i := 2) rfl)
  have w3 := hts (.fieldLink RX12 62 "OlderSkinModel" "inkOf" "[I") (List.mem_of_getElem? (i := 3) rfl)
  have w4 := hts (.fieldLink RX12 9 "OlderSkinModel" "may" "[I") (List.mem_of_getElem? (i := 4) rfl)
  have l0 : (1 : Int32).toInt = 1 := by decide
  have i10 : 0 ≤ v12_dots.toInt ∧ v12_dots.toInt ≤ 40 := i10
  refine lv_aload_n hx hb dX12_adds_0 rfl (lv_at hl 0 rfl) ?_
  refine va_get (D := D) (ci := 12) (v := .ref (r12 28)) (C := RX12) (T := TX12) (N := 63) hx hb hts w1 hown hK.1 hP 0 rfl rfl 28 (by decide) w0 (fun _ h9 => h9) rfl dX12_adds_1 ?_
  refine lv_aload_n hx hb dX12_adds_4 rfl (lv_at hl 0 rfl) ?_
  refine va_get (D := D) (ci := 12) (v := .int v12_dots) (C := RX12) (T := TX12) (N := 63) hx hb hts w1 hown hK.1 hP 0 rfl rfl 27 (by decide) w2 (fun _ h9 => h9) rfl dX12_adds_5 ?_
  refine lv_iload_n hx hb dX12_adds_8 rfl (lv_at hl 1 rfl) ?_
  refine va_iast hx hb hK.1 hP hD hS 2 1 rfl rfl (i := v12_dots) (ix (by omega) (by omega)) dX12_adds_9 (fun H locs hP hD hS => ?_)
  obtain ⟨g1, e2⟩ : ∃ y : Nat → Int32, y = upd f12_houseOf v12_dots.toNatClampNeg p1 := ⟨_, rfl⟩
  rw [← e2] at hP hD
  obtain ⟨hP, hD⟩ : PD D A [O12 a12 r12 v12_keptMany v12_done v12_sheets v12_holes v12_worms v12_laidMany v12_wanted v12_orderMany v12_firstOrder v12_lines v12_marks v12_dots v12_madeIn v12_bound v12_places v12_maps v12_tapeMany v12_stories v12_base v12_at v12_ends v12_fault v12_opened v12_bodies v12_ran v12_ownKind v12_ownNumber, (cI κ (r12 0) 55 f12_may), (cI κ (r12 28) 41 g1), (cI κ (r12 29) 41 f12_inkOf)] H := ⟨hP, hD⟩
  refine lv_aload_n hx hb dX12_adds_10 rfl (lv_at hl 0 rfl) ?_
  refine va_get (D := D) (ci := 12) (v := .ref (r12 29)) (C := RX12) (T := TX12) (N := 63) hx hb hts w1 hown hK.1 hP 0 rfl rfl 29 (by decide) w3 (fun _ h9 => h9) rfl dX12_adds_11 ?_
  refine lv_aload_n hx hb dX12_adds_14 rfl (lv_at hl 0 rfl) ?_
  refine va_get (D := D) (ci := 12) (v := .int v12_dots) (C := RX12) (T := TX12) (N := 63) hx hb hts w1 hown hK.1 hP 0 rfl rfl 27 (by decide) w2 (fun _ h9 => h9) rfl dX12_adds_15 ?_
  refine lv_iload_n hx hb dX12_adds_18 rfl (lv_at hl 2 rfl) ?_
  refine va_iast hx hb hK.1 hP hD hS 3 1 rfl rfl (i := v12_dots) (ix (by omega) (by omega)) dX12_adds_19 (fun H locs hP hD hS => ?_)
  obtain ⟨g3, e4⟩ : ∃ y : Nat → Int32, y = upd f12_inkOf v12_dots.toNatClampNeg p2 := ⟨_, rfl⟩
  rw [← e4] at hP hD
  obtain ⟨hP, hD⟩ : PD D A [O12 a12 r12 v12_keptMany v12_done v12_sheets v12_holes v12_worms v12_laidMany v12_wanted v12_orderMany v12_firstOrder v12_lines v12_marks v12_dots v12_madeIn v12_bound v12_places v12_maps v12_tapeMany v12_stories v12_base v12_at v12_ends v12_fault v12_opened v12_bodies v12_ran v12_ownKind v12_ownNumber, (cI κ (r12 0) 55 f12_may), (cI κ (r12 28) 41 g1), (cI κ (r12 29) 41 g3)] H := ⟨hP, hD⟩
  refine lv_aload_n hx hb dX12_adds_20 rfl (lv_at hl 0 rfl) ?_
  refine va_get (D := D) (ci := 12) (v := .ref (r12 0)) (C := RX12) (T := TX12) (N := 63) hx hb hts w1 hown hK.1 hP 0 rfl rfl 0 (by decide) w4 (fun _ h9 => h9) rfl dX12_adds_21 ?_
  refine lv_aload_n hx hb dX12_adds_24 rfl (lv_at hl 0 rfl) ?_
  refine va_get (D := D) (ci := 12) (v := .int v12_dots) (C := RX12) (T := TX12) (N := 63) hx hb hts w1 hown hK.1 hP 0 rfl rfl 27 (by decide) w2 (fun _ h9 => h9) rfl dX12_adds_25 ?_
  refine lv_iload_n hx hb dX12_adds_28 rfl (lv_at hl 3 rfl) ?_
  refine va_iast hx hb hK.1 hP hD hS 1 1 rfl rfl (i := v12_dots) (ix (by omega) (by omega)) dX12_adds_29 (fun H locs hP hD hS => ?_)
  obtain ⟨g5, e6⟩ : ∃ y : Nat → Int32, y = upd f12_may v12_dots.toNatClampNeg p3 := ⟨_, rfl⟩
  rw [← e6] at hP hD
  obtain ⟨hP, hD⟩ : PD D A [O12 a12 r12 v12_keptMany v12_done v12_sheets v12_holes v12_worms v12_laidMany v12_wanted v12_orderMany v12_firstOrder v12_lines v12_marks v12_dots v12_madeIn v12_bound v12_places v12_maps v12_tapeMany v12_stories v12_base v12_at v12_ends v12_fault v12_opened v12_bodies v12_ran v12_ownKind v12_ownNumber, (cI κ (r12 0) 55 g5), (cI κ (r12 28) 41 g1), (cI κ (r12 29) 41 g3)] H := ⟨hP, hD⟩
  refine lv_aload_n hx hb dX12_adds_30 rfl (lv_at hl 0 rfl) ?_
  refine lv_dup hx hb dX12_adds_31 rfl ?_
  refine va_get (D := D) (ci := 12) (v := .int v12_dots) (C := RX12) (T := TX12) (N := 63) hx hb hts w1 hown hK.1 hP 0 rfl rfl 27 (by decide) w2 (fun _ h9 => h9) rfl dX12_adds_32 ?_
  refine lv_iconst (v := 1) hx hb dX12_adds_35 (by decide) ?_
  refine lv_iadd hx hb dX12_adds_36 ?_
  refine lv_topi (fun x7 e8 => ?_)
  try have h9 : x7.toInt = v12_dots.toInt + (1 : Int32).toInt := ci_add e8 (by omega) (by omega)
  refine va_put (D := D) (ci := 12) (v := .int x7) (ty := .int) (C := RX12) (T := TX12) (N := 63) hx hb hts w1 tyX12 tyX12_ok nmX12 hown hK.1 hP hD hS 0 rfl rfl 27 (by decide) w2 (fun _ h9 => h9) rfl (by decide +kernel) rfl rfl (Nat.le_of_ble_eq_true rfl) dX12_adds_37 (fun H locs hP hD hS => ?_)
  obtain ⟨hP, hD⟩ : PD D A [O12 a12 r12 v12_keptMany v12_done v12_sheets v12_holes v12_worms v12_laidMany v12_wanted v12_orderMany v12_firstOrder v12_lines v12_marks x7 v12_madeIn v12_bound v12_places v12_maps v12_tapeMany v12_stories v12_base v12_at v12_ends v12_fault v12_opened v12_bodies v12_ran v12_ownKind v12_ownNumber, (cI κ (r12 0) 55 g5), (cI κ (r12 28) 41 g1), (cI κ (r12 29) 41 g3)] H := ⟨hP, hD⟩
  have h10 : 0 ≤ x7.toInt ∧ x7.toInt ≤ 40 := by omega
  have hpo : (0 ≤ x7.toInt ∧ x7.toInt ≤ 40) ∧ (x7.toInt = v12_dots.toInt + 1) := ⟨h10, (by omega)⟩
  exact ret _ _ _ _ (x7, g5, g1, g3) dX12_adds_40 hpo hP hD hS
set_option maxHeartbeats 4000000 in
set_option maxRecDepth 100000 in
theorem k_X12_dot (l : Launch) (D : va_G) (κ : Nat → ClassId) (β : Nat) (a12 : Nat) (r12 : Nat → Nat) (v12_keptMany : Int32) (v12_done : Int32) (v12_sheets : Int32) (v12_holes : Int32) (v12_worms : Int32) (v12_laidMany : Int32) (v12_wanted : Int32) (v12_orderMany : Int32) (v12_firstOrder : Int32) (v12_lines : Int32) (v12_marks : Int32) (v12_dots : Int32) (v12_madeIn : Int32) (v12_bound : Int32) (v12_places : Int32) (v12_maps : Int32) (v12_tapeMany : Int32) (v12_stories : Int32) (v12_base : Int32) (v12_at : Int32) (v12_ends : Int32) (v12_fault : Int32) (v12_opened : Int32) (v12_bodies : Int32) (v12_ran : Int32) (v12_ownKind : Int32) (v12_ownNumber : Int32) (f12_may : Nat → Int32) (f12_houseOf : Nat → Int32) (f12_inkOf : Nat → Int32) (sz : Nat) (p1 : Int32) (p2 : Int32) (i1 : Rg 0 40 v12_keptMany) (i2 : Rg 0 40 v12_done) (i3 : Rg 0 8 v12_sheets) (i4 : Rg 0 40 v12_holes) (i5 : Rg 0 40 v12_worms) (i6 : Rg 0 8 v12_laidMany) (i7 : Rg 0 8 v12_wanted) (i8 : Rg 0 20 v12_lines) (i9 : Rg 0 60 v12_marks) (i10 : Rg 0 40 v12_dots) (i11 : Rg 0 20 v12_places) (i12 : Rg 0 8 v12_maps) (i13 : Rg 0 120 v12_tapeMany) (i14 : Rg 0 6 v12_stories) (i15 : Rg 0 50 v12_bodies) (i16 : Rg 0 1000 v12_ran) (i17 : v12_done.toInt ≤ v12_keptMany.toInt) : Met l yX12_dot wsX12_dot ({ frames := 2, cells := 0, slots := 0, locals := 47 } : Room) (PcK D κ β [O12 a12 r12 v12_keptMany v12_done v12_sheets v12_holes v12_worms v12_laidMany v12_wanted v12_orderMany v12_firstOrder v12_lines v12_marks v12_dots v12_madeIn v12_bound v12_places v12_maps v12_tapeMany v12_stories v12_base v12_at v12_ends v12_fault v12_opened v12_bodies v12_ran v12_ownKind v12_ownNumber, (cI κ (r12 0) 55 f12_may), (cI κ (r12 28) 41 f12_houseOf), (cI κ (r12 29) 41 f12_inkOf)] sz [.ref a12, .int p1, .int p2]) (QiK D (fun (r : Int32) (u : Int32 × (Nat → Int32) × (Nat → Int32) × (Nat → Int32)) => 0 ≤ u.1.toInt ∧ u.1.toInt ≤ 40) (fun (u : Int32 × (Nat → Int32) × (Nat → Int32) × (Nat → Int32)) => [O12 a12 r12 v12_keptMany v12_done v12_sheets v12_holes v12_worms v12_laidMany v12_wanted v12_orderMany v12_firstOrder v12_lines v12_marks u.1 v12_madeIn v12_bound v12_places v12_maps v12_tapeMany v12_stories v12_base v12_at v12_ends v12_fault v12_opened v12_bodies v12_ran v12_ownKind v12_ownNumber, (cI κ (r12 0) 55 u.2.1), (cI κ (r12 28) 41 u.2.2.1), (cI κ (r12 29) 41 u.2.2.2)]) [O12 a12 r12 v12_keptMany v12_done v12_sheets v12_holes v12_worms v12_laidMany v12_wanted v12_orderMany v12_firstOrder v12_lines v12_marks v12_dots v12_madeIn v12_bound v12_places v12_maps v12_tapeMany v12_stories v12_base v12_at v12_ends v12_fault v12_opened v12_bodies v12_ran v12_ownKind v12_ownNumber, (cI κ (r12 0) 55 f12_may), (cI κ (r12 28) 41 f12_houseOf), (cI κ (r12 29) 41 f12_inkOf)] sz) 0 0 (va_A [O12 a12 r12 v12_keptMany v12_done v12_sheets v12_holes v12_worms v12_laidMany v12_wanted v12_orderMany v12_firstOrder v12_lines v12_marks v12_dots v12_madeIn v12_bound v12_places v12_maps v12_tapeMany v12_stories v12_base v12_at v12_ends v12_fault v12_opened v12_bodies v12_ran v12_ownKind v12_ownNumber, (cI κ (r12 0) 55 f12_may), (cI κ (r12 28) 41 f12_houseOf), (cI κ (r12 29) 41 f12_inkOf)] sz) := by
  refine ofK_i (cc := cX12_dot) (maxL := 3) (own := RX12) (by decide) rfl rfl (Nat.le_of_ble_eq_true rfl) ?_
  intro p e s m args below meth c Q A ls hsz hx hb hml hts hown hK hA hAB hP hD hl ret
  have hS : va_S A s.heap s.heap [] := va_S.rf
  have hl : lv_has ls 3 [(0, .ref a12), (1, .int p1), (2, .int p2)] := hl
  have w0 := hts (.fieldLink RX12 227 "OlderSkinModel" "dots" "I") (List.mem_of_getElem? (i := 1) rfl)
  have w1 := (fun w h => List.mem_cons_of_mem _ (List.mem_append_right _ h) : ∀ w ∈ u_ws RX12 TX12 63, w ∈ wsX12_dot)
  have l0 : (0 : Int32).toInt = 0 := by decide
  have l1 : ((-1) : Int32).toInt = -1 := by decide
  have l2 : (10 : Int32).toInt = 10 := by decide
  have l3 : (40 : Int32).toInt = 40 := by decide
  have l4 : (1 : Int32).toInt = 1 := by decide
  have l5 : ((-3) : Int32).toInt = -3 := by decide
  have i10 : 0 ≤ v12_dots.toInt ∧ v12_dots.toInt ≤ 40 := i10
  refine lv_iload_n hx hb dX12_dot_0 rfl (lv_at hl 1 rfl) ?_
  refine lv_if_lt (tgt := 19) hx hb dX12_dot_1 (by decide) (fun c1 => ?_) (fun c1 => ?_)
  · have c1 := ci_lt c1
    refine lv_iconst (v := (-1)) hx hb dX12_dot_19 (by decide) ?_
    have hpo : 0 ≤ v12_dots.toInt ∧ v12_dots.toInt ≤ 40 := i10
    exact ret _ _ _ _ (-1) (v12_dots, f12_may, f12_houseOf, f12_inkOf) dX12_dot_20 hpo hP hD hS
  have c1 := ci_nlt c1
  refine lv_iload_n hx hb dX12_dot_4 rfl (lv_at hl 1 rfl) ?_
  refine lv_bipush (v := 10) hx hb dX12_dot_5 (by decide) ?_
  refine lv_idiv hx hb dX12_dot_7 (by decide) ?_
  refine lv_topi (fun x2 e3 => ?_)
  have h4 := ci_divL (n := 10) (by decide) (by decide) e3
  refine lv_iload_n hx hb dX12_dot_8 rfl (lv_at hl 1 rfl) ?_
  refine lv_bipush (v := 10) hx hb dX12_dot_9 (by decide) ?_
  refine lv_irem hx hb dX12_dot_11 (by decide) ?_
  refine lv_topi (fun x5 e6 => ?_)
  have h7 := ci_remL (n := 10) (by decide) (by decide) e6
  refine lv_iload_n hx hb dX12_dot_12 rfl (lv_at hl 2 rfl) ?_
  refine kcm_i hA hAB hP hD hS [false, false, false, false] rfl (fun _ => rfl) (fun hPc hDc => va_runS (As := [.int x2, .int x5, .int p2]) (rest := []) ⟨hx, hb, hml, hown, hts⟩ (k_X12_isDot l D κ β s.heap.size x2 x5 p2) (va_cwS 3 hts gX12_dot_X12_isDot rfl rfl rfl (by decide +kernel) ⟨Nat.le_of_ble_eq_true rfl, Nat.le_of_ble_eq_true rfl⟩) (pk_S hK hS hAB hPc hDc) rfl rfl hl.1 rfl (lv_room (Nat.le_of_ble_eq_true rfl)) dX12_dot_13 ⟨Nat.le_of_ble_eq_true rfl, Nat.le_of_ble_eq_true rfl⟩) (fun x8 u9 H locs hw hPD hS => ?_)
  have h10 : (x8.toInt = 1 ∧ 0 ≤ x2.toInt ∧ x2.toInt ≤ 4 ∧ 0 ≤ x5.toInt ∧ x5.toInt ≤ 7 ∧ 0 ≤ p2.toInt ∧ p2.toInt ≤ 9999) ∨ (x8.toInt = 0 ∧ (x2.toInt < 0 ∨ 4 < x2.toInt ∨ x5.toInt < 0 ∨ 7 < x5.toInt ∨ p2.toInt < 0 ∨ 9999 < p2.toInt)) := hw
  obtain ⟨hP, hD⟩ : PD D A [O12 a12 r12 v12_keptMany v12_done v12_sheets v12_holes v12_worms v12_laidMany v12_wanted v12_orderMany v12_firstOrder v12_lines v12_marks v12_dots v12_madeIn v12_bound v12_places v12_maps v12_tapeMany v12_stories v12_base v12_at v12_ends v12_fault v12_opened v12_bodies v12_ran v12_ownKind v12_ownNumber, (cI κ (r12 0) 55 f12_may), (cI κ (r12 28) 41 f12_houseOf), (cI κ (r12 29) 41 f12_inkOf)] H := hPD
  refine lv_if_ne (tgt := 21) hx hb dX12_dot_16 (by decide) (fun c11 => ?_) (fun c11 => ?_)
  · have c11 := ci_ne c11
    refine lv_aload_n hx hb dX12_dot_21 rfl (lv_at hl 0 rfl) ?_
    refine va_get (D := D) (ci := 12) (v := .int v12_dots) (C := RX12) (T := TX12) (N := 63) hx hb hts w1 hown hK.1 hP 0 rfl rfl 27 (by decide) w0 (fun _ h9 => h9) rfl dX12_dot_22 ?_
    refine lv_bipush (v := 40) hx hb dX12_dot_25 (by decide) ?_
    refine lv_icmp_ne (tgt := 33) hx hb dX12_dot_27 (by decide) (fun c12 => ?_) (fun c12 => ?_)
    · have c12 := ci_ne c12
      refine lv_aload_n hx hb dX12_dot_33 rfl (lv_at hl 0 rfl) ?_
      refine lv_iload_n hx hb dX12_dot_34 rfl (lv_at hl 1 rfl) ?_
      refine lv_bipush (v := 10) hx hb dX12_dot_35 (by decide) ?_
      refine lv_idiv hx hb dX12_dot_37 (by decide) ?_
      refine lv_re e3 ?_
      refine lv_iload_n hx hb dX12_dot_38 rfl (lv_at hl 1 rfl) ?_
      refine lv_bipush (v := 10) hx hb dX12_dot_39 (by decide) ?_
      refine lv_irem hx hb dX12_dot_41 (by decide) ?_
      refine lv_re e6 ?_
      refine lv_iload_n hx hb dX12_dot_42 rfl (lv_at hl 2 rfl) ?_
      refine kcm_v hA hAB hP hD hS [true, true, true, true] rfl (fun _ => rfl) (fun hPc hDc => va_runV (As := [.int x2, .int x5, .int p2]) (rest := []) ⟨hx, hb, hml, hown, hts⟩ (k_X12_adds l D κ β a12 r12 v12_keptMany v12_done v12_sheets v12_holes v12_worms v12_laidMany v12_wanted v12_orderMany v12_firstOrder v12_lines v12_marks v12_dots v12_madeIn v12_bound v12_places v12_maps v12_tapeMany v12_stories v12_base v12_at v12_ends v12_fault v12_opened v12_bodies v12_ran v12_ownKind v12_ownNumber f12_may f12_houseOf f12_inkOf H.size x2 x5 p2 i1 i2 i3 i4 i5 i6 i7 i8 i9 i10 i11 i12 i13 i14 i15 i16 i17 (by omega)) (cwV 3 hts gX12_dot_X12_adds rfl rfl rfl (by decide +kernel) ⟨Nat.le_of_ble_eq_true rfl, Nat.le_of_ble_eq_true rfl⟩) (pk_V hK hS hAB hPc hDc 0 (ci := 12) rfl rfl rfl) rfl rfl hl.1 rfl (lv_room (Nat.le_of_ble_eq_true rfl)) dX12_dot_43 ⟨Nat.le_of_ble_eq_true rfl, Nat.le_of_ble_eq_true rfl⟩) (fun u17 H locs hw hPD hS => ?_)
      obtain ⟨x13, g14, g15, g16⟩ := u17
      obtain ⟨h18, h19⟩ : (0 ≤ x13.toInt ∧ x13.toInt ≤ 40) ∧ (x13.toInt = v12_dots.toInt + 1) := hw
      obtain ⟨hP, hD⟩ : PD D A [O12 a12 r12 v12_keptMany v12_done v12_sheets v12_holes v12_worms v12_laidMany v12_wanted v12_orderMany v12_firstOrder v12_lines v12_marks x13 v12_madeIn v12_bound v12_places v12_maps v12_tapeMany v12_stories v12_base v12_at v12_ends v12_fault v12_opened v12_bodies v12_ran v12_ownKind v12_ownNumber, (cI κ (r12 0) 55 g14), (cI κ (r12 28) 41 g15), (cI κ (r12 29) 41 g16)] H := hPD
      refine lv_aload_n hx hb dX12_dot_46 rfl (lv_at hl 0 rfl) ?_
      refine va_get (D := D) (ci := 12) (v := .int x13) (C := RX12) (T := TX12) (N := 63) hx hb hts w1 hown hK.1 hP 0 rfl rfl 27 (by decide) w0 (fun _ h9 => h9) rfl dX12_dot_47 ?_
      refine lv_iconst (v := 1) hx hb dX12_dot_50 (by decide) ?_
      refine lv_isub hx hb dX12_dot_51 ?_
      refine lv_topi (fun x20 e21 => ?_)
      try have h22 : x20.toInt = x13.toInt - (1 : Int32).toInt := ci_sub e21 (by omega) (by omega)
      have hpo : 0 ≤ x13.toInt ∧ x13.toInt ≤ 40 := h18
      exact ret _ _ _ _ x20 (x13, g14, g15, g16) dX12_dot_52 hpo hP hD hS
    have c12 := ci_eq c12
    refine lv_bipush (v := (-3)) hx hb dX12_dot_30 (by decide) ?_
    have hpo : 0 ≤ v12_dots.toInt ∧ v12_dots.toInt ≤ 40 := i10
    exact ret _ _ _ _ (-3) (v12_dots, f12_may, f12_houseOf, f12_inkOf) dX12_dot_32 hpo hP hD hS
  have c11 := ci_eq c11
  refine lv_iconst (v := (-1)) hx hb dX12_dot_19 (by decide) ?_
  have hpo : 0 ≤ v12_dots.toInt ∧ v12_dots.toInt ≤ 40 := i10
  exact ret _ _ _ _ (-1) (v12_dots, f12_may, f12_houseOf, f12_inkOf) dX12_dot_20 hpo hP hD hS
set_option maxHeartbeats 4000000 in
set_option maxRecDepth 100000 in
theorem k_X12_mend (l : Launch) (D : va_G) (κ : Nat → ClassId) (β : Nat) (a12 : Nat) (r12 : Nat → Nat) (v12_keptMany : Int32) (v12_done : Int32) (v12_sheets : Int32) (v12_holes : Int32) (v12_worms : Int32) (v12_laidMany : Int32) (v12_wanted : Int32) (v12_orderMany : Int32) (v12_firstOrder : Int32) (v12_lines : Int32) (v12_marks : Int32) (v12_dots : Int32) (v12_madeIn : Int32) (v12_bound : Int32) (v12_places : Int32) (v12_maps : Int32) (v12_tapeMany : Int32) (v12_stories : Int32) (v12_base : Int32) (v12_at : Int32) (v12_ends : Int32) (v12_fault : Int32) (v12_opened : Int32) (v12_bodies : Int32) (v12_ran : Int32) (v12_ownKind : Int32) (v12_ownNumber : Int32) (f12_may : Nat → Int32) (f12_changeAt : Nat → Int32) (f12_changeWas : Nat → Int32) (f12_changeIs : Nat → Int32) (sz : Nat) (p1 : Int32) (p2 : Int32) (i1 : Rg 0 40 v12_keptMany) (i2 : Rg 0 40 v12_done) (i3 : Rg 0 8 v12_sheets) (i4 : Rg 0 40 v12_holes) (i5 : Rg 0 40 v12_worms) (i6 : Rg 0 8 v12_laidMany) (i7 : Rg 0 8 v12_wanted) (i8 : Rg 0 20 v12_lines) (i9 : Rg 0 60 v12_marks) (i10 : Rg 0 40 v12_dots) (i11 : Rg 0 20 v12_places) (i12 : Rg 0 8 v12_maps) (i13 : Rg 0 120 v12_tapeMany) (i14 : Rg 0 6 v12_stories) (i15 : Rg 0 50 v12_bodies) (i16 : Rg 0 1000 v12_ran) (hf12_changeAt : ∀ j : Nat, 0 ≤ (f12_changeAt j).toInt ∧ (f12_changeAt j).toInt ≤ 54) (i17 : v12_done.toInt ≤ v12_keptMany.toInt) : Met l yX12_mend wsX12_mend ({ frames := 1, cells := 0, slots := 0, locals := 25 } : Room) (PcK D κ β [O12 a12 r12 v12_keptMany v12_done v12_sheets v12_holes v12_worms v12_laidMany v12_wanted v12_orderMany v12_firstOrder v12_lines v12_marks v12_dots v12_madeIn v12_bound v12_places v12_maps v12_tapeMany v12_stories v12_base v12_at v12_ends v12_fault v12_opened v12_bodies v12_ran v12_ownKind v12_ownNumber, (cI κ (r12 0) 55 f12_may), (cI κ (r12 1) 40 f12_changeAt), (cI κ (r12 2) 40 f12_changeWas), (cI κ (r12 3) 40 f12_changeIs)] sz [.ref a12, .int p1, .int p2]) (QiK D (fun (r : Int32) (u : Int32 × Int32 × (Nat → Int32) × (Nat → Int32) × (Nat → Int32) × (Nat → Int32)) => (0 ≤ u.1.toInt ∧ u.1.toInt ≤ 40) ∧ (0 ≤ u.2.1.toInt ∧ u.2.1.toInt ≤ 40) ∧ (∀ j : Nat, 0 ≤ (u.2.2.2.1 j).toInt ∧ (u.2.2.2.1 j).toInt ≤ 54) ∧ (u.2.1.toInt ≤ u.1.toInt)) (fun (u : Int32 × Int32 × (Nat → Int32) × (Nat → Int32) × (Nat → Int32) × (Nat → Int32)) => [O12 a12 r12 u.1 u.2.1 v12_sheets v12_holes v12_worms v12_laidMany v12_wanted v12_orderMany v12_firstOrder v12_lines v12_marks v12_dots v12_madeIn v12_bound v12_places v12_maps v12_tapeMany v12_stories v12_base v12_at v12_ends v12_fault v12_opened v12_bodies v12_ran v12_ownKind v12_ownNumber, (cI κ (r12 0) 55 u.2.2.1), (cI κ (r12 1) 40 u.2.2.2.1), (cI κ (r12 2) 40 u.2.2.2.2.1), (cI κ (r12 3) 40 u.2.2.2.2.2)]) [O12 a12 r12 v12_keptMany v12_done v12_sheets v12_holes v12_worms v12_laidMany v12_wanted v12_orderMany v12_firstOrder v12_lines v12_marks v12_dots v12_madeIn v12_bound v12_places v12_maps v12_tapeMany v12_stories v12_base v12_at v12_ends v12_fault v12_opened v12_bodies v12_ran v12_ownKind v12_ownNumber, (cI κ (r12 0) 55 f12_may), (cI κ (r12 1) 40 f12_changeAt), (cI κ (r12 2) 40 f12_changeWas), (cI κ (r12 3) 40 f12_changeIs)] sz) 0 0 (va_A [O12 a12 r12 v12_keptMany v12_done v12_sheets v12_holes v12_worms v12_laidMany v12_wanted v12_orderMany v12_firstOrder v12_lines v12_marks v12_dots v12_madeIn v12_bound v12_places v12_maps v12_tapeMany v12_stories v12_base v12_at v12_ends v12_fault v12_opened v12_bodies v12_ran v12_ownKind v12_ownNumber, (cI κ (r12 0) 55 f12_may), (cI κ (r12 1) 40 f12_changeAt), (cI κ (r12 2) 40 f12_changeWas), (cI κ (r12 3) 40 f12_changeIs)] sz) := by
  refine ofK_i (cc := cX12_mend) (maxL := 3) (own := RX12) (by decide) rfl rfl (Nat.le_of_ble_eq_true rfl) ?_
  intro p e s m args below meth c Q A ls hsz hx hb hml hts hown hK hA hAB hP hD hl ret
  have hS : va_S A s.heap s.heap [] := va_S.rf
  have hl : lv_has ls 3 [(0, .ref a12), (1, .int p1), (2, .int p2)] := hl
  have w0 := hts (.fieldLink RX12 227 "OlderSkinModel" "dots" "I") (List.mem_of_getElem? (i := 1) rfl)
  have w1 := (fun w h => List.mem_cons_of_mem _ (List.mem_append_right _ h) : ∀ w ∈ u_ws RX12 TX12 63, w ∈ wsX12_mend)
  have w2 := hts (.constantLong RX12 225 (9999)) (List.mem_of_getElem? (i := 2) rfl)
  have l0 : (0 : Int64).toInt = 0 := by decide
  have l1 : (1 : Int32).toInt = 1 := by decide
  have l2 : (0 : Int32).toInt = 0 := by decide
  have l3 : ((-1) : Int32).toInt = -1 := by decide
  have l4 : (9999 : Int64).toInt = 9999 := by decide
  have i10 : 0 ≤ v12_dots.toInt ∧ v12_dots.toInt ≤ 40 := i10
  refine lv_iload_n hx hb dX12_mend_0 rfl (lv_at hl 1 rfl) ?_
  refine lv_i2l hx hb dX12_mend_1 rfl ?_
  refine lv_topl (fun x1 e2 => ?_)
  have h3 : x1.toInt = p1.toInt := cl_i2l e2
  refine lv_lconst (v := (0 : Int64)) hx hb dX12_mend_2 (by decide) ?_
  refine lv_aload_n hx hb dX12_mend_3 rfl (lv_at hl 0 rfl) ?_
  refine va_get (D := D) (ci := 12) (v := .int v12_dots) (C := RX12) (T := TX12) (N := 63) hx hb hts w1 hown hK.1 hP 0 rfl rfl 27 (by decide) w0 (fun _ h9 => h9) rfl dX12_mend_4 ?_
  refine lv_iconst (v := 1) hx hb dX12_mend_7 (by decide) ?_
  refine lv_isub hx hb dX12_mend_8 ?_
  refine lv_topi (fun x4 e5 => ?_)
  try have h6 : x4.toInt = v12_dots.toInt - (1 : Int32).toInt := ci_sub e5 (by omega) (by omega)
  refine lv_i2l hx hb dX12_mend_9 rfl ?_
  refine lv_topl (fun x7 e8 => ?_)
  have h9 : x7.toInt = x4.toInt := cl_i2l e8
  refine kcm_i hA hAB hP hD hS [false, false, false, false, false] rfl (fun _ => rfl) (fun hPc hDc => va_runS (As := [.long x1, .long (0 : Int64), .long x7]) (rest := []) ⟨hx, hb, hml, hown, hts⟩ (k_X12_within l D κ β s.heap.size x1 (0 : Int64) x7) (va_cwS 3 hts gX12_mend_X12_within rfl rfl rfl (by decide +kernel) ⟨Nat.le_of_ble_eq_true rfl, Nat.le_of_ble_eq_true rfl⟩) (pk_S hK hS hAB hPc hDc) rfl rfl hl.1 rfl (lv_room (Nat.le_of_ble_eq_true rfl)) dX12_mend_10 ⟨Nat.le_of_ble_eq_true rfl, Nat.le_of_ble_eq_true rfl⟩) (fun x10 u11 H locs hw hPD hS => ?_)
  have h12 : (x10.toInt = 1 ∧ (0 : Int64).toInt ≤ x1.toInt ∧ x1.toInt ≤ x7.toInt) ∨ (x10.toInt = 0 ∧ (x1.toInt < (0 : Int64).toInt ∨ x7.toInt < x1.toInt)) := hw
  obtain ⟨hP, hD⟩ : PD D A [O12 a12 r12 v12_keptMany v12_done v12_sheets v12_holes v12_worms v12_laidMany v12_wanted v12_orderMany v12_firstOrder v12_lines v12_marks v12_dots v12_madeIn v12_bound v12_places v12_maps v12_tapeMany v12_stories v12_base v12_at v12_ends v12_fault v12_opened v12_bodies v12_ran v12_ownKind v12_ownNumber, (cI κ (r12 0) 55 f12_may), (cI κ (r12 1) 40 f12_changeAt), (cI κ (r12 2) 40 f12_changeWas), (cI κ (r12 3) 40 f12_changeIs)] H := hPD
  refine lv_if_eq (tgt := 37) hx hb dX12_mend_13 (by decide) (fun c13 => ?_) (fun c13 => ?_)
  · have c13 := ci_eq c13
    refine lv_iconst (v := (-1)) hx hb dX12_mend_37 (by decide) ?_
    have hpo : (0 ≤ v12_keptMany.toInt ∧ v12_keptMany.toInt ≤ 40) ∧ (0 ≤ v12_done.toInt ∧ v12_done.toInt ≤ 40) ∧ (∀ j : Nat, 0 ≤ (f12_changeAt j).toInt ∧ (f12_changeAt j).toInt ≤ 54) ∧ (v12_done.toInt ≤ v12_keptMany.toInt) := ⟨i1, i2, hf12_changeAt, i17⟩
    exact ret _ _ _ _ (-1) (v12_keptMany, v12_done, f12_may, f12_changeAt, f12_changeWas, f12_changeIs) dX12_mend_38 hpo hP hD hS
  have c13 := ci_ne c13
  refine lv_iload_n hx hb dX12_mend_16 rfl (lv_at hl 2 rfl) ?_
  refine lv_i2l hx hb dX12_mend_17 rfl ?_
  refine lv_topl (fun x14 e15 => ?_)
  have h16 : x14.toInt = p2.toInt := cl_i2l e15
  refine lv_lconst (v := (0 : Int64)) hx hb dX12_mend_18 (by decide) ?_
  refine lv_ldc2 (v := (9999 : Int64)) hx hb hown w2 dX12_mend_19 ?_
  refine kcm_i hA hAB hP hD hS [false, false, false, false, false] rfl (fun _ => rfl) (fun hPc hDc => va_runS (As := [.long x14, .long (0 : Int64), .long (9999 : Int64)]) (rest := []) ⟨hx, hb, hml, hown, hts⟩ (k_X12_within l D κ β H.size x14 (0 : Int64) (9999 : Int64)) (va_cwS 3 hts gX12_mend_X12_within rfl rfl rfl (by decide +kernel) ⟨Nat.le_of_ble_eq_true rfl, Nat.le_of_ble_eq_true rfl⟩) (pk_S hK hS hAB hPc hDc) rfl rfl hl.1 rfl (lv_room (Nat.le_of_ble_eq_true rfl)) dX12_mend_22 ⟨Nat.le_of_ble_eq_true rfl, Nat.le_of_ble_eq_true rfl⟩) (fun x17 u18 H locs hw hPD hS => ?_)
  have h19 : (x17.toInt = 1 ∧ (0 : Int64).toInt ≤ x14.toInt ∧ x14.toInt ≤ (9999 : Int64).toInt) ∨ (x17.toInt = 0 ∧ (x14.toInt < (0 : Int64).toInt ∨ (9999 : Int64).toInt < x14.toInt)) := hw
  obtain ⟨hP, hD⟩ : PD D A [O12 a12 r12 v12_keptMany v12_done v12_sheets v12_holes v12_worms v12_laidMany v12_wanted v12_orderMany v12_firstOrder v12_lines v12_marks v12_dots v12_madeIn v12_bound v12_places v12_maps v12_tapeMany v12_stories v12_base v12_at v12_ends v12_fault v12_opened v12_bodies v12_ran v12_ownKind v12_ownNumber, (cI κ (r12 0) 55 f12_may), (cI κ (r12 1) 40 f12_changeAt), (cI κ (r12 2) 40 f12_changeWas), (cI κ (r12 3) 40 f12_changeIs)] H := hPD
  refine lv_if_eq (tgt := 37) hx hb dX12_mend_25 (by decide) (fun c20 => ?_) (fun c20 => ?_)
  · have c20 := ci_eq c20
    refine lv_iconst (v := (-1)) hx hb dX12_mend_37 (by decide) ?_
    have hpo : (0 ≤ v12_keptMany.toInt ∧ v12_keptMany.toInt ≤ 40) ∧ (0 ≤ v12_done.toInt ∧ v12_done.toInt ≤ 40) ∧ (∀ j : Nat, 0 ≤ (f12_changeAt j).toInt ∧ (f12_changeAt j).toInt ≤ 54) ∧ (v12_done.toInt ≤ v12_keptMany.toInt) := ⟨i1, i2, hf12_changeAt, i17⟩
    exact ret _ _ _ _ (-1) (v12_keptMany, v12_done, f12_may, f12_changeAt, f12_changeWas, f12_changeIs) dX12_mend_38 hpo hP hD hS
  have c20 := ci_ne c20
  refine lv_aload_n hx hb dX12_mend_28 rfl (lv_at hl 0 rfl) ?_
  refine lv_iload_n hx hb dX12_mend_29 rfl (lv_at hl 1 rfl) ?_
  refine lv_iload_n hx hb dX12_mend_30 rfl (lv_at hl 2 rfl) ?_
  refine kcm_i hA hAB hP hD hS [true, true, true, true, true] rfl (fun _ => rfl) (fun hPc hDc => va_runV (As := [.int p1, .int p2]) (rest := []) ⟨hx, hb, hml, hown, hts⟩ (k_X12_becomes l D κ β a12 r12 v12_keptMany v12_done v12_sheets v12_holes v12_worms v12_laidMany v12_wanted v12_orderMany v12_firstOrder v12_lines v12_marks v12_dots v12_madeIn v12_bound v12_places v12_maps v12_tapeMany v12_stories v12_base v12_at v12_ends v12_fault v12_opened v12_bodies v12_ran v12_ownKind v12_ownNumber f12_may f12_changeAt f12_changeWas f12_changeIs H.size p1 p2 i1 i2 i3 i4 i5 i6 i7 i8 i9 i10 i11 i12 i13 i14 i15 i16 hf12_changeAt i17 (by omega)) (cwV 2 hts gX12_mend_X12_becomes rfl rfl rfl (by decide +kernel) ⟨Nat.le_of_ble_eq_true rfl, Nat.le_of_ble_eq_true rfl⟩) (pk_V hK hS hAB hPc hDc 0 (ci := 12) rfl rfl rfl) rfl rfl hl.1 rfl (lv_room (Nat.le_of_ble_eq_true rfl)) dX12_mend_31 ⟨Nat.le_of_ble_eq_true rfl, Nat.le_of_ble_eq_true rfl⟩) (fun x27 u28 H locs hw hPD hS => ?_)
  obtain ⟨x21, x22, g23, g24, g25, g26⟩ := u28
  obtain ⟨h29, h30, h31, h32⟩ : (Rg 0 40 x21) ∧ (Rg 0 40 x22) ∧ (∀ j : Nat, 0 ≤ (g24 j).toInt ∧ (g24 j).toInt ≤ 54) ∧ (x22.toInt ≤ x21.toInt) := hw
  obtain ⟨hP, hD⟩ : PD D A [O12 a12 r12 x21 x22 v12_sheets v12_holes v12_worms v12_laidMany v12_wanted v12_orderMany v12_firstOrder v12_lines v12_marks v12_dots v12_madeIn v12_bound v12_places v12_maps v12_tapeMany v12_stories v12_base v12_at v12_ends v12_fault v12_opened v12_bodies v12_ran v12_ownKind v12_ownNumber, (cI κ (r12 0) 55 g23), (cI κ (r12 1) 40 g24), (cI κ (r12 2) 40 g25), (cI κ (r12 3) 40 g26)] H := hPD
  refine lv_goto (tgt := 38) hx hb dX12_mend_34 (by decide) ?_
  have hpo : (0 ≤ x21.toInt ∧ x21.toInt ≤ 40) ∧ (0 ≤ x22.toInt ∧ x22.toInt ≤ 40) ∧ (∀ j : Nat, 0 ≤ (g24 j).toInt ∧ (g24 j).toInt ≤ 54) ∧ (x22.toInt ≤ x21.toInt) := ⟨h29, h30, h31, h32⟩
  exact ret _ _ _ _ x27 (x21, x22, g23, g24, g25, g26) dX12_mend_38 hpo hP hD hS
set_option maxHeartbeats 4000000 in
set_option maxRecDepth 100000 in
theorem k_X12_meanOf (l : Launch) (D : va_G) (κ : Nat → ClassId) (β : Nat) (a12 : Nat) (r12 : Nat → Nat) (v12_keptMany : Int32) (v12_done : Int32) (v12_sheets : Int32) (v12_holes : Int32) (v12_worms : Int32) (v12_laidMany : Int32) (v12_wanted : Int32) (v12_orderMany : Int32) (v12_firstOrder : Int32) (v12_lines : Int32) (v12_marks : Int32) (v12_dots : Int32) (v12_madeIn : Int32) (v12_bound : Int32) (v12_places : Int32) (v12_maps : Int32) (v12_tapeMany : Int32) (v12_stories : Int32) (v12_base : Int32) (v12_at : Int32) (v12_ends : Int32) (v12_fault : Int32) (v12_opened : Int32) (v12_bodies : Int32) (v12_ran : Int32) (v12_ownKind : Int32) (v12_ownNumber : Int32) (f12_may : Nat → Int32) (f12_houseOf : Nat → Int32) (f12_inkOf : Nat → Int32) (sz : Nat) (p1 : Int32) (p2 : Int32) (p3 : Int32) (i1 : Rg 0 40 v12_keptMany) (i2 : Rg 0 40 v12_done) (i3 : Rg 0 8 v12_sheets) (i4 : Rg 0 40 v12_holes) (i5 : Rg 0 40 v12_worms) (i6 : Rg 0 8 v12_laidMany) (i7 : Rg 0 8 v12_wanted) (i8 : Rg 0 20 v12_lines) (i9 : Rg 0 60 v12_marks) (i10 : Rg 0 40 v12_dots) (i11 : Rg 0 20 v12_places) (i12 : Rg 0 8 v12_maps) (i13 : Rg 0 120 v12_tapeMany) (i14 : Rg 0 6 v12_stories) (i15 : Rg 0 50 v12_bodies) (i16 : Rg 0 1000 v12_ran) (i17 : v12_done.toInt ≤ v12_keptMany.toInt) : Met l yX12_meanOf wsX12_meanOf ({ frames := 1, cells := 0, slots := 0, locals := 25 } : Room) (PcK D κ β [O12 a12 r12 v12_keptMany v12_done v12_sheets v12_holes v12_worms v12_laidMany v12_wanted v12_orderMany v12_firstOrder v12_lines v12_marks v12_dots v12_madeIn v12_bound v12_places v12_maps v12_tapeMany v12_stories v12_base v12_at v12_ends v12_fault v12_opened v12_bodies v12_ran v12_ownKind v12_ownNumber, (cI κ (r12 0) 55 f12_may), (cI κ (r12 28) 41 f12_houseOf), (cI κ (r12 29) 41 f12_inkOf)] sz [.ref a12, .int p1, .int p2, .int p3]) (QiK D (fun (r : Int32) (u : Unit) => True) (fun (u : Unit) => [O12 a12 r12 v12_keptMany v12_done v12_sheets v12_holes v12_worms v12_laidMany v12_wanted v12_orderMany v12_firstOrder v12_lines v12_marks v12_dots v12_madeIn v12_bound v12_places v12_maps v12_tapeMany v12_stories v12_base v12_at v12_ends v12_fault v12_opened v12_bodies v12_ran v12_ownKind v12_ownNumber, (cI κ (r12 0) 55 f12_may), (cI κ (r12 28) 41 f12_houseOf), (cI κ (r12 29) 41 f12_inkOf)]) [O12 a12 r12 v12_keptMany v12_done v12_sheets v12_holes v12_worms v12_laidMany v12_wanted v12_orderMany v12_firstOrder v12_lines v12_marks v12_dots v12_madeIn v12_bound v12_places v12_maps v12_tapeMany v12_stories v12_base v12_at v12_ends v12_fault v12_opened v12_bodies v12_ran v12_ownKind v12_ownNumber, (cI κ (r12 0) 55 f12_may), (cI κ (r12 28) 41 f12_houseOf), (cI κ (r12 29) 41 f12_inkOf)] sz) 0 0 (va_A [O12 a12 r12 v12_keptMany v12_done v12_sheets v12_holes v12_worms v12_laidMany v12_wanted v12_orderMany v12_firstOrder v12_lines v12_marks v12_dots v12_madeIn v12_bound v12_places v12_maps v12_tapeMany v12_stories v12_base v12_at v12_ends v12_fault v12_opened v12_bodies v12_ran v12_ownKind v12_ownNumber, (cI κ (r12 0) 55 f12_may), (cI κ (r12 28) 41 f12_houseOf), (cI κ (r12 29) 41 f12_inkOf)] sz) := by
  refine ofK_i (cc := cX12_meanOf) (maxL := 8) (own := RX12) (by decide) rfl rfl (Nat.le_of_ble_eq_true rfl) ?_
  intro p e s m args below meth c Q A ls hsz hx hb hml hts hown hK hA hAB hP hD hl ret
  have hS : va_S A s.heap s.heap [] := va_S.rf
  have hl : lv_has ls 8 [(0, .ref a12), (1, .int p1), (2, .int p2), (3, .int p3)] := hl
  have w0 := hts (.fieldLink RX12 227 "OlderSkinModel" "dots" "I") (List.mem_of_getElem? (i := 1) rfl)
  have w1 := (fun w h => List.mem_cons_of_mem _ (List.mem_append_right _ h) : ∀ w ∈ u_ws RX12 TX12 63, w ∈ wsX12_meanOf)
  have w2 := hts (.fieldLink RX12 62 "OlderSkinModel" "inkOf" "[I") (List.mem_of_getElem? (i := 3) rfl)
  have w3 := hts (.fieldLink RX12 9 "OlderSkinModel" "may" "[I") (List.mem_of_getElem? (i := 4) rfl)
  have w4 := hts (.fieldLink RX12 59 "OlderSkinModel" "houseOf" "[I") (List.mem_of_getElem? (i := 2) rfl)
  have l0 : (0 : Int32).toInt = 0 := by decide
  have l1 : ((-2) : Int32).toInt = -2 := by decide
  have l2 : (5 : Int32).toInt = 5 := by decide
  have l3 : (1 : Int32).toInt = 1 := by decide
  have l4 : ((-1) : Int32).toInt = -1 := by decide
  have i10 : 0 ≤ v12_dots.toInt ∧ v12_dots.toInt ≤ 40 := i10
  refine lv_iconst (v := 0) hx hb dX12_meanOf_0 (by decide) ?_
  refine lv_istore (lv' := [(4, .int 0), (0, .ref a12), (1, .int p1), (2, .int p2), (3, .int p3)]) hx hb dX12_meanOf_1 hl (by decide) rfl (fun ls hl => ?_)
  refine lv_iconst (v := 0) hx hb dX12_meanOf_3 (by decide) ?_
  refine lv_istore (lv' := [(5, .int 0), (4, .int 0), (0, .ref a12), (1, .int p1), (2, .int p2), (3, .int p3)]) hx hb dX12_meanOf_4 hl (by decide) rfl (fun ls hl => ?_)
  refine lv_iconst (v := 0) hx hb dX12_meanOf_6 (by decide) ?_
  refine lv_istore (lv' := [(6, .int 0), (5, .int 0), (4, .int 0), (0, .ref a12), (1, .int p1), (2, .int p2), (3, .int p3)]) hx hb dX12_meanOf_7 hl (by decide) rfl (fun ls hl => ?_)
  have lp9 : ∀ (n9 : Nat) (k1 : Int32) (k2 : Int32) (k3 : Int32), (0 ≤ k1.toInt) → (v12_dots.toInt - k1.toInt).toNat < n9 → ∀ (H : Heap) (locs : List Loc), va_P D vwCl [O12 a12 r12 v12_keptMany v12_done v12_sheets v12_holes v12_worms v12_laidMany v12_wanted v12_orderMany v12_firstOrder v12_lines v12_marks v12_dots v12_madeIn v12_bound v12_places v12_maps v12_tapeMany v12_stories v12_base v12_at v12_ends v12_fault v12_opened v12_bodies v12_ran v12_ownKind v12_ownNumber, (cI κ (r12 0) 55 f12_may), (cI κ (r12 28) 41 f12_houseOf), (cI κ (r12 29) 41 f12_inkOf)] H → va_D A [O12 a12 r12 v12_keptMany v12_done v12_sheets v12_holes v12_worms v12_laidMany v12_wanted v12_orderMany v12_firstOrder v12_lines v12_marks v12_dots v12_madeIn v12_bound v12_places v12_maps v12_tapeMany v12_stories v12_base v12_at v12_ends v12_fault v12_opened v12_bodies v12_ran v12_ownKind v12_ownNumber, (cI κ (r12 0) 55 f12_may), (cI κ (r12 28) 41 f12_houseOf), (cI κ (r12 29) 41 f12_inkOf)] → va_S A s.heap H locs → ∀ ls : Array Slot, lv_has ls 8 [(6, .int k1), (5, .int k2), (4, .int k3), (0, .ref a12), (1, .int p1), (2, .int p2), (3, .int p3)] → W p l e ({ frames := 1, cells := 0, slots := 0, locals := 25 } : Room) s m args below meth c H locs 0 0 Q (F0 m 9 ls []) := by
    intro n9
    induction n9 with
    | zero =>
      intro k1 k2 k3 h4 m5
      exact absurd m5 (Nat.not_lt_zero _)
    | succ n9 ih9 =>
      intro k1 k2 k3 h4 m5 H locs hP hD hS ls hl
      refine lv_iload hx hb dX12_meanOf_9 (lv_at hl 0 rfl) ?_
      refine lv_aload_n hx hb dX12_meanOf_11 rfl (lv_at hl 3 rfl) ?_
      refine va_get (D := D) (ci := 12) (v := .int v12_dots) (C := RX12) (T := TX12) (N := 63) hx hb hts w1 hown hK.1 hP 0 rfl rfl 27 (by decide) w0 (fun _ h9 => h9) rfl dX12_meanOf_12 ?_
      refine lv_icmp_ge (tgt := 105) hx hb dX12_meanOf_15 (by decide) (fun c6 => ?_) (fun c6 => ?_)
      · have c6 := ci_le c6
        refine lv_iload hx hb dX12_meanOf_105 (lv_at hl 1 rfl) ?_
        refine lv_if_ne (tgt := 115) hx hb dX12_meanOf_107 (by decide) (fun c7 => ?_) (fun c7 => ?_)
        · have c7 := ci_ne c7
          refine lv_iload hx hb dX12_meanOf_115 (lv_at hl 2 rfl) ?_
          refine lv_iload hx hb dX12_meanOf_117 (lv_at hl 1 rfl) ?_
          refine lv_idiv hx hb dX12_meanOf_119 (fun q8 => by have q8 := ci_eq q8; omega) ?_
          refine lv_topi (fun x9 e10 => ?_)
          exact ret _ _ _ _ x9 () dX12_meanOf_120 trivial hP hD hS
        have c7 := ci_eq c7
        refine lv_bipush (v := (-2)) hx hb dX12_meanOf_110 (by decide) ?_
        refine lv_goto (tgt := 120) hx hb dX12_meanOf_112 (by decide) ?_
        exact ret _ _ _ _ (-2) () dX12_meanOf_120 trivial hP hD hS
      have c6 := ci_nle c6
      refine lv_iload_n hx hb dX12_meanOf_18 rfl (lv_at hl 4 rfl) ?_
      refine lv_iconst (v := 5) hx hb dX12_meanOf_19 (by decide) ?_
      refine lv_icmp_eq (tgt := 54) hx hb dX12_meanOf_20 (by decide) (fun c11 => ?_) (fun c11 => ?_)
      · have c11 := ci_eq c11
        refine lv_iconst (v := 1) hx hb dX12_meanOf_54 (by decide) ?_
        refine lv_goto (tgt := 59) hx hb dX12_meanOf_55 (by decide) ?_
        refine lv_istore (lv' := [(7, .int 1), (6, .int k1), (5, .int k2), (4, .int k3), (0, .ref a12), (1, .int p1), (2, .int p2), (3, .int p3)]) hx hb dX12_meanOf_59 hl (by decide) rfl (fun ls hl => ?_)
        refine lv_iload hx hb dX12_meanOf_61 (lv_at hl 0 rfl) ?_
        refine lv_if_eq (tgt := 99) hx hb dX12_meanOf_63 (by decide) (fun c12 => ?_) (fun c12 => ?_)
        · have c12 := ci_eq c12
          exfalso
          omega
        have c12 := ci_ne c12
        refine lv_aload_n hx hb dX12_meanOf_66 rfl (lv_at hl 4 rfl) ?_
        refine va_get (D := D) (ci := 12) (v := .ref (r12 29)) (C := RX12) (T := TX12) (N := 63) hx hb hts w1 hown hK.1 hP 0 rfl rfl 29 (by decide) w2 (fun _ h9 => h9) rfl dX12_meanOf_67 ?_
        refine lv_iload hx hb dX12_meanOf_70 (lv_at hl 1 rfl) ?_
        refine va_iald hx hb hK.1 hP 3 1 rfl rfl (i := k1) (ix (by omega) (by omega)) dX12_meanOf_72 ?_
        refine lv_topi (fun x13 e14 => ?_)
        refine lv_i2l hx hb dX12_meanOf_73 rfl ?_
        refine lv_topl (fun x15 e16 => ?_)
        have h17 : x15.toInt = x13.toInt := cl_i2l e16
        refine lv_iload_n hx hb dX12_meanOf_74 rfl (lv_at hl 6 rfl) ?_
        refine lv_i2l hx hb dX12_meanOf_75 rfl ?_
        refine lv_topl (fun x18 e19 => ?_)
        have h20 : x18.toInt = p2.toInt := cl_i2l e19
        refine lv_iload_n hx hb dX12_meanOf_76 rfl (lv_at hl 7 rfl) ?_
        refine lv_i2l hx hb dX12_meanOf_77 rfl ?_
        refine lv_topl (fun x21 e22 => ?_)
        have h23 : x21.toInt = p3.toInt := cl_i2l e22
        refine kcm_i hA hAB hP hD hS [false, false, false, false] rfl (fun _ => rfl) (fun hPc hDc => va_runS (As := [.long x15, .long x18, .long x21]) (rest := []) ⟨hx, hb, hml, hown, hts⟩ (k_X12_within l D κ β H.size x15 x18 x21) (va_cwS 3 hts gX12_meanOf_X12_within rfl rfl rfl (by decide +kernel) ⟨Nat.le_of_ble_eq_true rfl, Nat.le_of_ble_eq_true rfl⟩) (pk_S hK hS hAB hPc hDc) rfl rfl hl.1 rfl (lv_room (Nat.le_of_ble_eq_true rfl)) dX12_meanOf_78 ⟨Nat.le_of_ble_eq_true rfl, Nat.le_of_ble_eq_true rfl⟩) (fun x24 u25 H locs hw hPD hS => ?_)
        have h26 : (x24.toInt = 1 ∧ x18.toInt ≤ x15.toInt ∧ x15.toInt ≤ x21.toInt) ∨ (x24.toInt = 0 ∧ (x15.toInt < x18.toInt ∨ x21.toInt < x15.toInt)) := hw
        obtain ⟨hP, hD⟩ : PD D A [O12 a12 r12 v12_keptMany v12_done v12_sheets v12_holes v12_worms v12_laidMany v12_wanted v12_orderMany v12_firstOrder v12_lines v12_marks v12_dots v12_madeIn v12_bound v12_places v12_maps v12_tapeMany v12_stories v12_base v12_at v12_ends v12_fault v12_opened v12_bodies v12_ran v12_ownKind v12_ownNumber, (cI κ (r12 0) 55 f12_may), (cI κ (r12 28) 41 f12_houseOf), (cI κ (r12 29) 41 f12_inkOf)] H := hPD
        refine lv_if_eq (tgt := 99) hx hb dX12_meanOf_81 (by decide) (fun c27 => ?_) (fun c27 => ?_)
        · have c27 := ci_eq c27
          obtain ⟨x28, e29⟩ : ∃ y : Int32, y = k1 + 1 := ⟨_, rfl⟩
          refine lv_iinc (v := x28) (lv' := [(6, .int x28), (7, .int 1), (5, .int k2), (4, .int k3), (0, .ref a12), (1, .int p1), (2, .int p2), (3, .int p3)]) hx hb dX12_meanOf_99 hl (k := 1) rfl (by rw [e29]; rfl) (by decide) rfl (fun ls hl => ?_)
          try have h30 : x28.toInt = k1.toInt + (1 : Int32).toInt := ci_add e29 (by omega) (by omega)
          refine lv_goto (tgt := 9) hx hb dX12_meanOf_102 (by decide) ?_
          exact ih9 x28 k2 k3 (by omega) (by omega) _ _ hP hD hS _ (lv_sub hl [0, 2, 3, 4, 5, 6, 7] rfl)
        have c27 := ci_ne c27
        refine lv_iload hx hb dX12_meanOf_84 (lv_at hl 3 rfl) ?_
        refine lv_aload_n hx hb dX12_meanOf_86 rfl (lv_at hl 4 rfl) ?_
        refine va_get (D := D) (ci := 12) (v := .ref (r12 0)) (C := RX12) (T := TX12) (N := 63) hx hb hts w1 hown hK.1 hP 0 rfl rfl 0 (by decide) w3 (fun _ h9 => h9) rfl dX12_meanOf_87 ?_
        refine lv_iload hx hb dX12_meanOf_90 (lv_at hl 1 rfl) ?_
        refine va_iald hx hb hK.1 hP 1 1 rfl rfl (i := k1) (ix (by omega) (by omega)) dX12_meanOf_92 ?_
        refine lv_topi (fun x31 e32 => ?_)
        refine lv_iadd hx hb dX12_meanOf_93 ?_
        refine lv_topi (fun x33 e34 => ?_)
        try have h35 : x33.toInt = k3.toInt + x31.toInt := ci_add e34 (by omega) (by omega)
        refine lv_istore (lv' := [(4, .int x33), (7, .int 1), (6, .int k1), (5, .int k2), (0, .ref a12), (1, .int p1), (2, .int p2), (3, .int p3)]) hx hb dX12_meanOf_94 hl (by decide) rfl (fun ls hl => ?_)
        obtain ⟨x36, e37⟩ : ∃ y : Int32, y = k2 + 1 := ⟨_, rfl⟩
        refine lv_iinc (v := x36) (lv' := [(5, .int x36), (4, .int x33), (7, .int 1), (6, .int k1), (0, .ref a12), (1, .int p1), (2, .int p2), (3, .int p3)]) hx hb dX12_meanOf_96 hl (k := 3) rfl (by rw [e37]; rfl) (by decide) rfl (fun ls hl => ?_)
        try have h38 : x36.toInt = k2.toInt + (1 : Int32).toInt := ci_add e37 (by omega) (by omega)
        obtain ⟨x39, e40⟩ : ∃ y : Int32, y = k1 + 1 := ⟨_, rfl⟩
        refine lv_iinc (v := x39) (lv' := [(6, .int x39), (5, .int x36), (4, .int x33), (7, .int 1), (0, .ref a12), (1, .int p1), (2, .int p2), (3, .int p3)]) hx hb dX12_meanOf_99 hl (k := 3) rfl (by rw [e40]; rfl) (by decide) rfl (fun ls hl => ?_)
        try have h41 : x39.toInt = k1.toInt + (1 : Int32).toInt := ci_add e40 (by omega) (by omega)
        refine lv_goto (tgt := 9) hx hb dX12_meanOf_102 (by decide) ?_
        exact ih9 x39 x36 x33 (by omega) (by omega) _ _ hP hD hS _ (lv_sub hl [0, 1, 2, 4, 5, 6, 7] rfl)
      have c11 := ci_ne c11
      refine lv_iload_n hx hb dX12_meanOf_23 rfl (lv_at hl 4 rfl) ?_
      refine lv_if_ge (tgt := 43) hx hb dX12_meanOf_24 (by decide) (fun c42 => ?_) (fun c42 => ?_)
      · have c42 := ci_le c42
        refine lv_aload_n hx hb dX12_meanOf_43 rfl (lv_at hl 3 rfl) ?_
        refine va_get (D := D) (ci := 12) (v := .ref (r12 28)) (C := RX12) (T := TX12) (N := 63) hx hb hts w1 hown hK.1 hP 0 rfl rfl 28 (by decide) w4 (fun _ h9 => h9) rfl dX12_meanOf_44 ?_
        refine lv_iload hx hb dX12_meanOf_47 (lv_at hl 0 rfl) ?_
        refine va_iald hx hb hK.1 hP 2 1 rfl rfl (i := k1) (ix (by omega) (by omega)) dX12_meanOf_49 ?_
        refine lv_topi (fun x43 e44 => ?_)
        refine lv_iload_n hx hb dX12_meanOf_50 rfl (lv_at hl 4 rfl) ?_
        refine lv_icmp_ne (tgt := 58) hx hb dX12_meanOf_51 (by decide) (fun c45 => ?_) (fun c45 => ?_)
        · have c45 := ci_ne c45
          refine lv_iconst (v := 0) hx hb dX12_meanOf_58 (by decide) ?_
          refine lv_istore (lv' := [(7, .int 0), (6, .int k1), (5, .int k2), (4, .int k3), (0, .ref a12), (1, .int p1), (2, .int p2), (3, .int p3)]) hx hb dX12_meanOf_59 hl (by decide) rfl (fun ls hl => ?_)
          refine lv_iload hx hb dX12_meanOf_61 (lv_at hl 0 rfl) ?_
          refine lv_if_eq (tgt := 99) hx hb dX12_meanOf_63 (by decide) (fun c46 => ?_) (fun c46 => ?_)
          · have c46 := ci_eq c46
            obtain ⟨x47, e48⟩ : ∃ y : Int32, y = k1 + 1 := ⟨_, rfl⟩
            refine lv_iinc (v := x47) (lv' := [(6, .int x47), (7, .int 0), (5, .int k2), (4, .int k3), (0, .ref a12), (1, .int p1), (2, .int p2), (3, .int p3)]) hx hb dX12_meanOf_99 hl (k := 1) rfl (by rw [e48]; rfl) (by decide) rfl (fun ls hl => ?_)
            try have h49 : x47.toInt = k1.toInt + (1 : Int32).toInt := ci_add e48 (by omega) (by omega)
            refine lv_goto (tgt := 9) hx hb dX12_meanOf_102 (by decide) ?_
            exact ih9 x47 k2 k3 (by omega) (by omega) _ _ hP hD hS _ (lv_sub hl [0, 2, 3, 4, 5, 6, 7] rfl)
          have c46 := ci_ne c46
          exfalso
          omega
        have c45 := ci_eq c45
        refine lv_iconst (v := 1) hx hb dX12_meanOf_54 (by decide) ?_
        refine lv_goto (tgt := 59) hx hb dX12_meanOf_55 (by decide) ?_
        refine lv_istore (lv' := [(7, .int 1), (6, .int k1), (5, .int k2), (4, .int k3), (0, .ref a12), (1, .int p1), (2, .int p2), (3, .int p3)]) hx hb dX12_meanOf_59 hl (by decide) rfl (fun ls hl => ?_)
        refine lv_iload hx hb dX12_meanOf_61 (lv_at hl 0 rfl) ?_
        refine lv_if_eq (tgt := 99) hx hb dX12_meanOf_63 (by decide) (fun c50 => ?_) (fun c50 => ?_)
        · have c50 := ci_eq c50
          exfalso
          omega
        have c50 := ci_ne c50
        refine lv_aload_n hx hb dX12_meanOf_66 rfl (lv_at hl 4 rfl) ?_
        refine va_get (D := D) (ci := 12) (v := .ref (r12 29)) (C := RX12) (T := TX12) (N := 63) hx hb hts w1 hown hK.1 hP 0 rfl rfl 29 (by decide) w2 (fun _ h9 => h9) rfl dX12_meanOf_67 ?_
        refine lv_iload hx hb dX12_meanOf_70 (lv_at hl 1 rfl) ?_
        refine va_iald hx hb hK.1 hP 3 1 rfl rfl (i := k1) (ix (by omega) (by omega)) dX12_meanOf_72 ?_
        refine lv_topi (fun x51 e52 => ?_)
        refine lv_i2l hx hb dX12_meanOf_73 rfl ?_
        refine lv_topl (fun x53 e54 => ?_)
        have h55 : x53.toInt = x51.toInt := cl_i2l e54
        refine lv_iload_n hx hb dX12_meanOf_74 rfl (lv_at hl 6 rfl) ?_
        refine lv_i2l hx hb dX12_meanOf_75 rfl ?_
        refine lv_topl (fun x56 e57 => ?_)
        have h58 : x56.toInt = p2.toInt := cl_i2l e57
        refine lv_iload_n hx hb dX12_meanOf_76 rfl (lv_at hl 7 rfl) ?_
        refine lv_i2l hx hb dX12_meanOf_77 rfl ?_
        refine lv_topl (fun x59 e60 => ?_)
        have h61 : x59.toInt = p3.toInt := cl_i2l e60
        refine kcm_i hA hAB hP hD hS [false, false, false, false] rfl (fun _ => rfl) (fun hPc hDc => va_runS (As := [.long x53, .long x56, .long x59]) (rest := []) ⟨hx, hb, hml, hown, hts⟩ (k_X12_within l D κ β H.size x53 x56 x59) (va_cwS 3 hts gX12_meanOf_X12_within rfl rfl rfl (by decide +kernel) ⟨Nat.le_of_ble_eq_true rfl, Nat.le_of_ble_eq_true rfl⟩) (pk_S hK hS hAB hPc hDc) rfl rfl hl.1 rfl (lv_room (Nat.le_of_ble_eq_true rfl)) dX12_meanOf_78 ⟨Nat.le_of_ble_eq_true rfl, Nat.le_of_ble_eq_true rfl⟩) (fun x62 u63 H locs hw hPD hS => ?_)
        have h64 : (x62.toInt = 1 ∧ x56.toInt ≤ x53.toInt ∧ x53.toInt ≤ x59.toInt) ∨ (x62.toInt = 0 ∧ (x53.toInt < x56.toInt ∨ x59.toInt < x53.toInt)) := hw
        obtain ⟨hP, hD⟩ : PD D A [O12 a12 r12 v12_keptMany v12_done v12_sheets v12_holes v12_worms v12_laidMany v12_wanted v12_orderMany v12_firstOrder v12_lines v12_marks v12_dots v12_madeIn v12_bound v12_places v12_maps v12_tapeMany v12_stories v12_base v12_at v12_ends v12_fault v12_opened v12_bodies v12_ran v12_ownKind v12_ownNumber, (cI κ (r12 0) 55 f12_may), (cI κ (r12 28) 41 f12_houseOf), (cI κ (r12 29) 41 f12_inkOf)] H := hPD
        refine lv_if_eq (tgt := 99) hx hb dX12_meanOf_81 (by decide) (fun c65 => ?_) (fun c65 => ?_)
        · have c65 := ci_eq c65
          obtain ⟨x66, e67⟩ : ∃ y : Int32, y = k1 + 1 := ⟨_, rfl⟩
          refine lv_iinc (v := x66) (lv' := [(6, .int x66), (7, .int 1), (5, .int k2), (4, .int k3), (0, .ref a12), (1, .int p1), (2, .int p2), (3, .int p3)]) hx hb dX12_meanOf_99 hl (k := 1) rfl (by rw [e67]; rfl) (by decide) rfl (fun ls hl => ?_)
          try have h68 : x66.toInt = k1.toInt + (1 : Int32).toInt := ci_add e67 (by omega) (by omega)
          refine lv_goto (tgt := 9) hx hb dX12_meanOf_102 (by decide) ?_
          exact ih9 x66 k2 k3 (by omega) (by omega) _ _ hP hD hS _ (lv_sub hl [0, 2, 3, 4, 5, 6, 7] rfl)
        have c65 := ci_ne c65
        refine lv_iload hx hb dX12_meanOf_84 (lv_at hl 3 rfl) ?_
        refine lv_aload_n hx hb dX12_meanOf_86 rfl (lv_at hl 4 rfl) ?_
        refine va_get (D := D) (ci := 12) (v := .ref (r12 0)) (C := RX12) (T := TX12) (N := 63) hx hb hts w1 hown hK.1 hP 0 rfl rfl 0 (by decide) w3 (fun _ h9 => h9) rfl dX12_meanOf_87 ?_
        refine lv_iload hx hb dX12_meanOf_90 (lv_at hl 1 rfl) ?_
        refine va_iald hx hb hK.1 hP 1 1 rfl rfl (i := k1) (ix (by omega) (by omega)) dX12_meanOf_92 ?_
        refine lv_topi (fun x69 e70 => ?_)
        refine lv_iadd hx hb dX12_meanOf_93 ?_
        refine lv_topi (fun x71 e72 => ?_)
        try have h73 : x71.toInt = k3.toInt + x69.toInt := ci_add e72 (by omega) (by omega)
        refine lv_istore (lv' := [(4, .int x71), (7, .int 1), (6, .int k1), (5, .int k2), (0, .ref a12), (1, .int p1), (2, .int p2), (3, .int p3)]) hx hb dX12_meanOf_94 hl (by decide) rfl (fun ls hl => ?_)
        obtain ⟨x74, e75⟩ : ∃ y : Int32, y = k2 + 1 := ⟨_, rfl⟩
        refine lv_iinc (v := x74) (lv' := [(5, .int x74), (4, .int x71), (7, .int 1), (6, .int k1), (0, .ref a12), (1, .int p1), (2, .int p2), (3, .int p3)]) hx hb dX12_meanOf_96 hl (k := 3) rfl (by rw [e75]; rfl) (by decide) rfl (fun ls hl => ?_)
        try have h76 : x74.toInt = k2.toInt + (1 : Int32).toInt := ci_add e75 (by omega) (by omega)
        obtain ⟨x77, e78⟩ : ∃ y : Int32, y = k1 + 1 := ⟨_, rfl⟩
        refine lv_iinc (v := x77) (lv' := [(6, .int x77), (5, .int x74), (4, .int x71), (7, .int 1), (0, .ref a12), (1, .int p1), (2, .int p2), (3, .int p3)]) hx hb dX12_meanOf_99 hl (k := 3) rfl (by rw [e78]; rfl) (by decide) rfl (fun ls hl => ?_)
        try have h79 : x77.toInt = k1.toInt + (1 : Int32).toInt := ci_add e78 (by omega) (by omega)
        refine lv_goto (tgt := 9) hx hb dX12_meanOf_102 (by decide) ?_
        exact ih9 x77 x74 x71 (by omega) (by omega) _ _ hP hD hS _ (lv_sub hl [0, 1, 2, 4, 5, 6, 7] rfl)
      have c42 := ci_nle c42
      refine lv_aload_n hx hb dX12_meanOf_27 rfl (lv_at hl 3 rfl) ?_
      refine va_get (D := D) (ci := 12) (v := .ref (r12 28)) (C := RX12) (T := TX12) (N := 63) hx hb hts w1 hown hK.1 hP 0 rfl rfl 28 (by decide) w4 (fun _ h9 => h9) rfl dX12_meanOf_28 ?_
      refine lv_iload hx hb dX12_meanOf_31 (lv_at hl 0 rfl) ?_
      refine va_iald hx hb hK.1 hP 2 1 rfl rfl (i := k1) (ix (by omega) (by omega)) dX12_meanOf_33 ?_
      refine lv_topi (fun x80 e81 => ?_)
      refine lv_iconst (v := (-1)) hx hb dX12_meanOf_34 (by decide) ?_
      refine lv_iload_n hx hb dX12_meanOf_35 rfl (lv_at hl 4 rfl) ?_
      refine lv_isub hx hb dX12_meanOf_36 ?_
      refine lv_topi (fun x82 e83 => ?_)
      try have h84 : x82.toInt = ((-1) : Int32).toInt - p1.toInt := ci_sub e83 (by omega) (by omega)
      refine lv_icmp_eq (tgt := 58) hx hb dX12_meanOf_37 (by decide) (fun c85 => ?_) (fun c85 => ?_)
      · have c85 := ci_eq c85
        refine lv_iconst (v := 0) hx hb dX12_meanOf_58 (by decide) ?_
        refine lv_istore (lv' := [(7, .int 0), (6, .int k1), (5, .int k2), (4, .int k3), (0, .ref a12), (1, .int p1), (2, .int p2), (3, .int p3)]) hx hb dX12_meanOf_59 hl (by decide) rfl (fun ls hl => ?_)
        refine lv_iload hx hb dX12_meanOf_61 (lv_at hl 0 rfl) ?_
        refine lv_if_eq (tgt := 99) hx hb dX12_meanOf_63 (by decide) (fun c86 => ?_) (fun c86 => ?_)
        · have c86 := ci_eq c86
          obtain ⟨x87, e88⟩ : ∃ y : Int32, y = k1 + 1 := ⟨_, rfl⟩
          refine lv_iinc (v := x87) (lv' := [(6, .int x87), (7, .int 0), (5, .int k2), (4, .int k3), (0, .ref a12), (1, .int p1), (2, .int p2), (3, .int p3)]) hx hb dX12_meanOf_99 hl (k := 1) rfl (by rw [e88]; rfl) (by decide) rfl (fun ls hl => ?_)
          try have h89 : x87.toInt = k1.toInt + (1 : Int32).toInt := ci_add e88 (by omega) (by omega)
          refine lv_goto (tgt := 9) hx hb dX12_meanOf_102 (by decide) ?_
          exact ih9 x87 k2 k3 (by omega) (by omega) _ _ hP hD hS _ (lv_sub hl [0, 2, 3, 4, 5, 6, 7] rfl)
        have c86 := ci_ne c86
        exfalso
        omega
      have c85 := ci_ne c85
      refine lv_goto (tgt := 54) hx hb dX12_meanOf_40 (by decide) ?_
      refine lv_iconst (v := 1) hx hb dX12_meanOf_54 (by decide) ?_
      refine lv_goto (tgt := 59) hx hb dX12_meanOf_55 (by decide) ?_
      refine lv_istore (lv' := [(7, .int 1), (6, .int k1), (5, .int k2), (4, .int k3), (0, .ref a12), (1, .int p1), (2, .int p2), (3, .int p3)]) hx hb dX12_meanOf_59 hl (by decide) rfl (fun ls hl => ?_)
      refine lv_iload hx hb dX12_meanOf_61 (lv_at hl 0 rfl) ?_
      refine lv_if_eq (tgt := 99) hx hb dX12_meanOf_63 (by decide) (fun c90 => ?_) (fun c90 => ?_)
      · have c90 := ci_eq c90
        exfalso
        omega
      have c90 := ci_ne c90
      refine lv_aload_n hx hb dX12_meanOf_66 rfl (lv_at hl 4 rfl) ?_
      refine va_get (D := D) (ci := 12) (v := .ref (r12 29)) (C := RX12) (T := TX12) (N := 63) hx hb hts w1 hown hK.1 hP 0 rfl rfl 29 (by decide) w2 (fun _ h9 => h9) rfl dX12_meanOf_67 ?_
      refine lv_iload hx hb dX12_meanOf_70 (lv_at hl 1 rfl) ?_
      refine va_iald hx hb hK.1 hP 3 1 rfl rfl (i := k1) (ix (by omega) (by omega)) dX12_meanOf_72 ?_
      refine lv_topi (fun x91 e92 => ?_)
      refine lv_i2l hx hb dX12_meanOf_73 rfl ?_
      refine lv_topl (fun x93 e94 => ?_)
      have h95 : x93.toInt = x91.toInt := cl_i2l e94
      refine lv_iload_n hx hb dX12_meanOf_74 rfl (lv_at hl 6 rfl) ?_
      refine lv_i2l hx hb dX12_meanOf_75 rfl ?_
      refine lv_topl (fun x96 e97 => ?_)
      have h98 : x96.toInt = p2.toInt := cl_i2l e97
      refine lv_iload_n hx hb dX12_meanOf_76 rfl (lv_at hl 7 rfl) ?_
      refine lv_i2l hx hb dX12_meanOf_77 rfl ?_
      refine lv_topl (fun x99 e100 => ?_)
      have h101 : x99.toInt = p3.toInt := cl_i2l e100
      refine kcm_i hA hAB hP hD hS [false, false, false, false] rfl (fun _ => rfl) (fun hPc hDc => va_runS (As := [.long x93, .long x96, .long x99]) (rest := []) ⟨hx, hb, hml, hown, hts⟩ (k_X12_within l D κ β H.size x93 x96 x99) (va_cwS 3 hts gX12_meanOf_X12_within rfl rfl rfl (by decide +kernel) ⟨Nat.le_of_ble_eq_true rfl, Nat.le_of_ble_eq_true rfl⟩) (pk_S hK hS hAB hPc hDc) rfl rfl hl.1 rfl (lv_room (Nat.le_of_ble_eq_true rfl)) dX12_meanOf_78 ⟨Nat.le_of_ble_eq_true rfl, Nat.le_of_ble_eq_true rfl⟩) (fun x102 u103 H locs hw hPD hS => ?_)
      have h104 : (x102.toInt = 1 ∧ x96.toInt ≤ x93.toInt ∧ x93.toInt ≤ x99.toInt) ∨ (x102.toInt = 0 ∧ (x93.toInt < x96.toInt ∨ x99.toInt < x93.toInt)) := hw
      obtain ⟨hP, hD⟩ : PD D A [O12 a12 r12 v12_keptMany v12_done v12_sheets v12_holes v12_worms v12_laidMany v12_wanted v12_orderMany v12_firstOrder v12_lines v12_marks v12_dots v12_madeIn v12_bound v12_places v12_maps v12_tapeMany v12_stories v12_base v12_at v12_ends v12_fault v12_opened v12_bodies v12_ran v12_ownKind v12_ownNumber, (cI κ (r12 0) 55 f12_may), (cI κ (r12 28) 41 f12_houseOf), (cI κ (r12 29) 41 f12_inkOf)] H := hPD
      refine lv_if_eq (tgt := 99) hx hb dX12_meanOf_81 (by decide) (fun c105 => ?_) (fun c105 => ?_)
      · have c105 := ci_eq c105
        obtain ⟨x106, e107⟩ : ∃ y : Int32, y = k1 + 1 := ⟨_, rfl⟩
        refine lv_iinc (v := x106) (lv' := [(6, .int x106), (7, .int 1), (5, .int k2), (4, .int k3), (0, .ref a12), (1, .int p1), (2, .int p2), (3, .int p3)]) hx hb dX12_meanOf_99 hl (k := 1) rfl (by rw [e107]; rfl) (by decide) rfl (fun ls hl => ?_)
        try have h108 : x106.toInt = k1.toInt + (1 : Int32).toInt := ci_add e107 (by omega) (by omega)
        refine lv_goto (tgt := 9) hx hb dX12_meanOf_102 (by decide) ?_
        exact ih9 x106 k2 k3 (by omega) (by omega) _ _ hP hD hS _ (lv_sub hl [0, 2, 3, 4, 5, 6, 7] rfl)
      have c105 := ci_ne c105
      refine lv_iload hx hb dX12_meanOf_84 (lv_at hl 3 rfl) ?_
      refine lv_aload_n hx hb dX12_meanOf_86 rfl (lv_at hl 4 rfl) ?_
      refine va_get (D := D) (ci := 12) (v := .ref (r12 0)) (C := RX12) (T := TX12) (N := 63) hx hb hts w1 hown hK.1 hP 0 rfl rfl 0 (by decide) w3 (fun _ h9 => h9) rfl dX12_meanOf_87 ?_
      refine lv_iload hx hb dX12_meanOf_90 (lv_at hl 1 rfl) ?_
      refine va_iald hx hb hK.1 hP 1 1 rfl rfl (i := k1) (ix (by omega) (by omega)) dX12_meanOf_92 ?_
      refine lv_topi (fun x109 e110 => ?_)
      refine lv_iadd hx hb dX12_meanOf_93 ?_
      refine lv_topi (fun x111 e112 => ?_)
      try have h113 : x111.toInt = k3.toInt + x109.toInt := ci_add e112 (by omega) (by omega)
      refine lv_istore (lv' := [(4, .int x111), (7, .int 1), (6, .int k1), (5, .int k2), (0, .ref a12), (1, .int p1), (2, .int p2), (3, .int p3)]) hx hb dX12_meanOf_94 hl (by decide) rfl (fun ls hl => ?_)
      obtain ⟨x114, e115⟩ : ∃ y : Int32, y = k2 + 1 := ⟨_, rfl⟩
      refine lv_iinc (v := x114) (lv' := [(5, .int x114), (4, .int x111), (7, .int 1), (6, .int k1), (0, .ref a12), (1, .int p1), (2, .int p2), (3, .int p3)]) hx hb dX12_meanOf_96 hl (k := 3) rfl (by rw [e115]; rfl) (by decide) rfl (fun ls hl => ?_)
      try have h116 : x114.toInt = k2.toInt + (1 : Int32).toInt := ci_add e115 (by omega) (by omega)
      obtain ⟨x117, e118⟩ : ∃ y : Int32, y = k1 + 1 := ⟨_, rfl⟩
      refine lv_iinc (v := x117) (lv' := [(6, .int x117), (5, .int x114), (4, .int x111), (7, .int 1), (0, .ref a12), (1, .int p1), (2, .int p2), (3, .int p3)]) hx hb dX12_meanOf_99 hl (k := 3) rfl (by rw [e118]; rfl) (by decide) rfl (fun ls hl => ?_)
      try have h119 : x117.toInt = k1.toInt + (1 : Int32).toInt := ci_add e118 (by omega) (by omega)
      refine lv_goto (tgt := 9) hx hb dX12_meanOf_102 (by decide) ?_
      exact ih9 x117 x114 x111 (by omega) (by omega) _ _ hP hD hS _ (lv_sub hl [0, 1, 2, 4, 5, 6, 7] rfl)
  exact lp9 ((v12_dots.toInt - (0 : Int32).toInt).toNat + 1) 0 0 0 (by omega) (by omega) _ _ hP hD hS _ hl
set_option maxHeartbeats 4000000 in
set_option maxRecDepth 100000 in
theorem k_X12_mean (l : Launch) (D : va_G) (κ : Nat → ClassId) (β : Nat) (a12 : Nat) (r12 : Nat → Nat) (v12_keptMany : Int32) (v12_done : Int32) (v12_sheets : Int32) (v12_holes : Int32) (v12_worms : Int32) (v12_laidMany : Int32) (v12_wanted : Int32) (v12_orderMany : Int32) (v12_firstOrder : Int32) (v12_lines : Int32) (v12_marks : Int32) (v12_dots : Int32) (v12_madeIn : Int32) (v12_bound : Int32) (v12_places : Int32) (v12_maps : Int32) (v12_tapeMany : Int32) (v12_stories : Int32) (v12_base : Int32) (v12_at : Int32) (v12_ends : Int32) (v12_fault : Int32) (v12_opened : Int32) (v12_bodies : Int32) (v12_ran : Int32) (v12_ownKind : Int32) (v12_ownNumber : Int32) (f12_may : Nat → Int32) (f12_houseOf : Nat → Int32) (f12_inkOf : Nat → Int32) (sz : Nat) (p1 : Int32) (i1 : Rg 0 40 v12_keptMany) (i2 : Rg 0 40 v12_done) (i3 : Rg 0 8 v12_sheets) (i4 : Rg 0 40 v12_holes) (i5 : Rg 0 40 v12_worms) (i6 : Rg 0 8 v12_laidMany) (i7 : Rg 0 8 v12_wanted) (i8 : Rg 0 20 v12_lines) (i9 : Rg 0 60 v12_marks) (i10 : Rg 0 40 v12_dots) (i11 : Rg 0 20 v12_places) (i12 : Rg 0 8 v12_maps) (i13 : Rg 0 120 v12_tapeMany) (i14 : Rg 0 6 v12_stories) (i15 : Rg 0 50 v12_bodies) (i16 : Rg 0 1000 v12_ran) (i17 : v12_done.toInt ≤ v12_keptMany.toInt) : Met l yX12_mean wsX12_mean ({ frames := 2, cells := 0, slots := 0, locals := 52 } : Room) (PcK D κ β [O12 a12 r12 v12_keptMany v12_done v12_sheets v12_holes v12_worms v12_laidMany v12_wanted v12_orderMany v12_firstOrder v12_lines v12_marks v12_dots v12_madeIn v12_bound v12_places v12_maps v12_tapeMany v12_stories v12_base v12_at v12_ends v12_fault v12_opened v12_bodies v12_ran v12_ownKind v12_ownNumber, (cI κ (r12 0) 55 f12_may), (cI κ (r12 28) 41 f12_houseOf), (cI κ (r12 29) 41 f12_inkOf)] sz [.ref a12, .int p1]) (QiK D (fun (r : Int32) (u : Unit) => True) (fun (u : Unit) => [O12 a12 r12 v12_keptMany v12_done v12_sheets v12_holes v12_worms v12_laidMany v12_wanted v12_orderMany v12_firstOrder v12_lines v12_marks v12_dots v12_madeIn v12_bound v12_places v12_maps v12_tapeMany v12_stories v12_base v12_at v12_ends v12_fault v12_opened v12_bodies v12_ran v12_ownKind v12_ownNumber, (cI κ (r12 0) 55 f12_may), (cI κ (r12 28) 41 f12_houseOf), (cI κ (r12 29) 41 f12_inkOf)]) [O12 a12 r12 v12_keptMany v12_done v12_sheets v12_holes v12_worms v12_laidMany v12_wanted v12_orderMany v12_firstOrder v12_lines v12_marks v12_dots v12_madeIn v12_bound v12_places v12_maps v12_tapeMany v12_stories v12_base v12_at v12_ends v12_fault v12_opened v12_bodies v12_ran v12_ownKind v12_ownNumber, (cI κ (r12 0) 55 f12_may), (cI κ (r12 28) 41 f12_houseOf), (cI κ (r12 29) 41 f12_inkOf)] sz) 0 0 (va_A [O12 a12 r12 v12_keptMany v12_done v12_sheets v12_holes v12_worms v12_laidMany v12_wanted v12_orderMany v12_firstOrder v12_lines v12_marks v12_dots v12_madeIn v12_bound v12_places v12_maps v12_tapeMany v12_stories v12_base v12_at v12_ends v12_fault v12_opened v12_bodies v12_ran v12_ownKind v12_ownNumber, (cI κ (r12 0) 55 f12_may), (cI κ (r12 28) 41 f12_houseOf), (cI κ (r12 29) 41 f12_inkOf)] sz) := by
  refine ofK_i (cc := cX12_mean) (maxL := 2) (own := RX12) (by decide) rfl rfl (Nat.le_of_ble_eq_true rfl) ?_
  intro p e s m args below meth c Q A ls hsz hx hb hml hts hown hK hA hAB hP hD hl ret
  have hS : va_S A s.heap s.heap [] := va_S.rf
  have hl : lv_has ls 2 [(0, .ref a12), (1, .int p1)] := hl
  have w0 := hts (.constantLong RX12 195 (5)) (List.mem_of_getElem? (i := 1) rfl)
  have l0 : (0 : Int32).toInt = 0 := by decide
  have l1 : ((-1) : Int32).toInt = -1 := by decide
  have l2 : (10 : Int32).toInt = 10 := by decide
  have l3 : (0 : Int64).toInt = 0 := by decide
  have l4 : (5 : Int64).toInt = 5 := by decide
  have l5 : (7 : Int32).toInt = 7 := by decide
  refine lv_iload_n hx hb dX12_mean_0 rfl (lv_at hl 1 rfl) ?_
  refine lv_if_lt (tgt := 47) hx hb dX12_mean_1 (by decide) (fun c1 => ?_) (fun c1 => ?_)
  · have c1 := ci_lt c1
    refine lv_iconst (v := (-1)) hx hb dX12_mean_47 (by decide) ?_
    exact ret _ _ _ _ (-1) () dX12_mean_48 trivial hP hD hS
  have c1 := ci_nlt c1
  refine lv_iload_n hx hb dX12_mean_4 rfl (lv_at hl 1 rfl) ?_
  refine lv_bipush (v := 10) hx hb dX12_mean_5 (by decide) ?_
  refine lv_idiv hx hb dX12_mean_7 (by decide) ?_
  refine lv_topi (fun x2 e3 => ?_)
  have h4 := ci_divL (n := 10) (by decide) (by decide) e3
  refine lv_i2l hx hb dX12_mean_8 rfl ?_
  refine lv_topl (fun x5 e6 => ?_)
  have h7 : x5.toInt = x2.toInt := cl_i2l e6
  refine lv_lconst (v := (0 : Int64)) hx hb dX12_mean_9 (by decide) ?_
  refine lv_ldc2 (v := (5 : Int64)) hx hb hown w0 dX12_mean_10 ?_
  refine kcm_i hA hAB hP hD hS [false, false, false, false] rfl (fun _ => rfl) (fun hPc hDc => va_runS (As := [.long x5, .long (0 : Int64), .long (5 : Int64)]) (rest := []) ⟨hx, hb, hml, hown, hts⟩ (k_X12_within l D κ β s.heap.size x5 (0 : Int64) (5 : Int64)) (va_cwS 3 hts gX12_mean_X12_within rfl rfl rfl (by decide +kernel) ⟨Nat.le_of_ble_eq_true rfl, Nat.le_of_ble_eq_true rfl⟩) (pk_S hK hS hAB hPc hDc) rfl rfl hl.1 rfl (lv_room (Nat.le_of_ble_eq_true rfl)) dX12_mean_13 ⟨Nat.le_of_ble_eq_true rfl, Nat.le_of_ble_eq_true rfl⟩) (fun x8 u9 H locs hw hPD hS => ?_)
  have h10 : (x8.toInt = 1 ∧ (0 : Int64).toInt ≤ x5.toInt ∧ x5.toInt ≤ (5 : Int64).toInt) ∨ (x8.toInt = 0 ∧ (x5.toInt < (0 : Int64).toInt ∨ (5 : Int64).toInt < x5.toInt)) := hw
  obtain ⟨hP, hD⟩ : PD D A [O12 a12 r12 v12_keptMany v12_done v12_sheets v12_holes v12_worms v12_laidMany v12_wanted v12_orderMany v12_firstOrder v12_lines v12_marks v12_dots v12_madeIn v12_bound v12_places v12_maps v12_tapeMany v12_stories v12_base v12_at v12_ends v12_fault v12_opened v12_bodies v12_ran v12_ownKind v12_ownNumber, (cI κ (r12 0) 55 f12_may), (cI κ (r12 28) 41 f12_houseOf), (cI κ (r12 29) 41 f12_inkOf)] H := hPD
  refine lv_if_eq (tgt := 47) hx hb dX12_mean_16 (by decide) (fun c11 => ?_) (fun c11 => ?_)
  · have c11 := ci_eq c11
    refine lv_iconst (v := (-1)) hx hb dX12_mean_47 (by decide) ?_
    exact ret _ _ _ _ (-1) () dX12_mean_48 trivial hP hD hS
  have c11 := ci_ne c11
  refine lv_iload_n hx hb dX12_mean_19 rfl (lv_at hl 1 rfl) ?_
  refine lv_bipush (v := 10) hx hb dX12_mean_20 (by decide) ?_
  refine lv_irem hx hb dX12_mean_22 (by decide) ?_
  refine lv_topi (fun x12 e13 => ?_)
  have h14 := ci_remL (n := 10) (by decide) (by decide) e13
  refine lv_bipush (v := 7) hx hb dX12_mean_23 (by decide) ?_
  refine lv_icmp_gt (tgt := 47) hx hb dX12_mean_25 (by decide) (fun c15 => ?_) (fun c15 => ?_)
  · have c15 := ci_lt c15
    refine lv_iconst (v := (-1)) hx hb dX12_mean_47 (by decide) ?_
    exact ret _ _ _ _ (-1) () dX12_mean_48 trivial hP hD hS
  have c15 := ci_nlt c15
  refine lv_aload_n hx hb dX12_mean_28 rfl (lv_at hl 0 rfl) ?_
  refine lv_iload_n hx hb dX12_mean_29 rfl (lv_at hl 1 rfl) ?_
  refine lv_bipush (v := 10) hx hb dX12_mean_30 (by decide) ?_
  refine lv_idiv hx hb dX12_mean_32 (by decide) ?_
  refine lv_re e3 ?_
  refine lv_iload_n hx hb dX12_mean_33 rfl (lv_at hl 1 rfl) ?_
  refine lv_bipush (v := 10) hx hb dX12_mean_34 (by decide) ?_
  refine lv_irem hx hb dX12_mean_36 (by decide) ?_
  refine lv_re e13 ?_
  refine lv_iload_n hx hb dX12_mean_37 rfl (lv_at hl 1 rfl) ?_
  refine lv_bipush (v := 10) hx hb dX12_mean_38 (by decide) ?_
  refine lv_irem hx hb dX12_mean_40 (by decide) ?_
  refine lv_re e13 ?_
  refine kcm_i hA hAB hP hD hS [true, true, true, true] rfl (fun _ => rfl) (fun hPc hDc => va_runV (As := [.int x2, .int x12, .int x12]) (rest := []) ⟨hx, hb, hml, hown, hts⟩ (k_X12_meanOf l D κ β a12 r12 v12_keptMany v12_done v12_sheets v12_holes v12_worms v12_laidMany v12_wanted v12_orderMany v12_firstOrder v12_lines v12_marks v12_dots v12_madeIn v12_bound v12_places v12_maps v12_tapeMany v12_stories v12_base v12_at v12_ends v12_fault v12_opened v12_bodies v12_ran v12_ownKind v12_ownNumber f12_may f12_houseOf f12_inkOf H.size x2 x12 x12 i1 i2 i3 i4 i5 i6 i7 i8 i9 i10 i11 i12 i13 i14 i15 i16 i17) (cwV 3 hts gX12_mean_X12_meanOf rfl rfl rfl (by decide +kernel) ⟨Nat.le_of_ble_eq_true rfl, Nat.le_of_ble_eq_true rfl⟩) (pk_V hK hS hAB hPc hDc 0 (ci := 12) rfl rfl rfl) rfl rfl hl.1 rfl (lv_room (Nat.le_of_ble_eq_true rfl)) dX12_mean_41 ⟨Nat.le_of_ble_eq_true rfl, Nat.le_of_ble_eq_true rfl⟩) (fun x16 u17 H locs hw hPD hS => ?_)
  obtain ⟨hP, hD⟩ : PD D A [O12 a12 r12 v12_keptMany v12_done v12_sheets v12_holes v12_worms v12_laidMany v12_wanted v12_orderMany v12_firstOrder v12_lines v12_marks v12_dots v12_madeIn v12_bound v12_places v12_maps v12_tapeMany v12_stories v12_base v12_at v12_ends v12_fault v12_opened v12_bodies v12_ran v12_ownKind v12_ownNumber, (cI κ (r12 0) 55 f12_may), (cI κ (r12 28) 41 f12_houseOf), (cI κ (r12 29) 41 f12_inkOf)] H := hPD
  refine lv_goto (tgt := 48) hx hb dX12_mean_44 (by decide) ?_
  exact ret _ _ _ _ x16 () dX12_mean_48 trivial hP hD hS
set_option maxHeartbeats 4000000 in
set_option maxRecDepth 100000 in
theorem k_X12_odd (l : Launch) (D : va_G) (κ : Nat → ClassId) (β : Nat) (a12 : Nat) (r12 : Nat → Nat) (v12_keptMany : Int32) (v12_done : Int32) (v12_sheets : Int32) (v12_holes : Int32) (v12_worms : Int32) (v12_laidMany : Int32) (v12_wanted : Int32) (v12_orderMany : Int32) (v12_firstOrder : Int32) (v12_lines : Int32) (v12_marks : Int32) (v12_dots : Int32) (v12_madeIn : Int32) (v12_bound : Int32) (v12_places : Int32) (v12_maps : Int32) (v12_tapeMany : Int32) (v12_stories : Int32) (v12_base : Int32) (v12_at : Int32) (v12_ends : Int32) (v12_fault : Int32) (v12_opened : Int32) (v12_bodies : Int32) (v12_ran : Int32) (v12_ownKind : Int32) (v12_ownNumber : Int32) (f12_may : Nat → Int32) (f12_inkOf : Nat → Int32) (sz : Nat) (p1 : Int32) (i1 : Rg 0 40 v12_keptMany) (i2 : Rg 0 40 v12_done) (i3 : Rg 0 8 v12_sheets) (i4 : Rg 0 40 v12_holes) (i5 : Rg 0 40 v12_worms) (i6 : Rg 0 8 v12_laidMany) (i7 : Rg 0 8 v12_wanted) (i8 : Rg 0 20 v12_lines) (i9 : Rg 0 60 v12_marks) (i10 : Rg 0 40 v12_dots) (i11 : Rg 0 20 v12_places) (i12 : Rg 0 8 v12_maps) (i13 : Rg 0 120 v12_tapeMany) (i14 : Rg 0 6 v12_stories) (i15 : Rg 0 50 v12_bodies) (i16 : Rg 0 1000 v12_ran) (i17 : v12_done.toInt ≤ v12_keptMany.toInt) : Met l yX12_odd wsX12_odd ({ frames := 1, cells := 0, slots := 0, locals := 25 } : Room) (PcK D κ β [O12 a12 r12 v12_keptMany v12_done v12_sheets v12_holes v12_worms v12_laidMany v12_wanted v12_orderMany v12_firstOrder v12_lines v12_marks v12_dots v12_madeIn v12_bound v12_places v12_maps v12_tapeMany v12_stories v12_base v12_at v12_ends v12_fault v12_opened v12_bodies v12_ran v12_ownKind v12_ownNumber, (cI κ (r12 0) 55 f12_may), (cI κ (r12 29) 41 f12_inkOf)] sz [.ref a12, .int p1]) (QiK D (fun (r : Int32) (u : Unit) => True) (fun (u : Unit) => [O12 a12 r12 v12_keptMany v12_done v12_sheets v12_holes v12_worms v12_laidMany v12_wanted v12_orderMany v12_firstOrder v12_lines v12_marks v12_dots v12_madeIn v12_bound v12_places v12_maps v12_tapeMany v12_stories v12_base v12_at v12_ends v12_fault v12_opened v12_bodies v12_ran v12_ownKind v12_ownNumber, (cI κ (r12 0) 55 f12_may), (cI κ (r12 29) 41 f12_inkOf)]) [O12 a12 r12 v12_keptMany v12_done v12_sheets v12_holes v12_worms v12_laidMany v12_wanted v12_orderMany v12_firstOrder v12_lines v12_marks v12_dots v12_madeIn v12_bound v12_places v12_maps v12_tapeMany v12_stories v12_base v12_at v12_ends v12_fault v12_opened v12_bodies v12_ran v12_ownKind v12_ownNumber, (cI κ (r12 0) 55 f12_may), (cI κ (r12 29) 41 f12_inkOf)] sz) 0 0 (va_A [O12 a12 r12 v12_keptMany v12_done v12_sheets v12_holes v12_worms v12_laidMany v12_wanted v12_orderMany v12_firstOrder v12_lines v12_marks v12_dots v12_madeIn v12_bound v12_places v12_maps v12_tapeMany v12_stories v12_base v12_at v12_ends v12_fault v12_opened v12_bodies v12_ran v12_ownKind v12_ownNumber, (cI κ (r12 0) 55 f12_may), (cI κ (r12 29) 41 f12_inkOf)] sz) := by
  refine ofK_i (cc := cX12_odd) (maxL := 5) (own := RX12) (by decide) rfl rfl (Nat.le_of_ble_eq_true rfl) ?_
  intro p e s m args below meth c Q A ls hsz hx hb hml hts hown hK hA hAB hP hD hl ret
  have hS : va_S A s.heap s.heap [] := va_S.rf
  have hl : lv_has ls 5 [(0, .ref a12), (1, .int p1)] := hl
  have w0 := hts (.constantLong RX12 247 (6)) (List.mem_of_getElem? (i := 1) rfl)
  have w1 := hts (.fieldLink RX12 227 "OlderSkinModel" "dots" "I") (List.mem_of_getElem? (i := 2) rfl)
  have w2 := (fun w h => List.mem_cons_of_mem _ (List.mem_append_right _ h) : ∀ w ∈ u_ws RX12 TX12 63, w ∈ wsX12_odd)
  have w3 := hts (.fieldLink RX12 62 "OlderSkinModel" "inkOf" "[I") (List.mem_of_getElem? (i := 3) rfl)
  have w4 := hts (.fieldLink RX12 9 "OlderSkinModel" "may" "[I") (List.mem_of_getElem? (i := 4) rfl)
  have l0 : (0 : Int64).toInt = 0 := by decide
  have l1 : (6 : Int64).toInt = 6 := by decide
  have l2 : (0 : Int32).toInt = 0 := by decide
  have l3 : ((-1) : Int32).toInt = -1 := by decide
  have l4 : (1 : Int32).toInt = 1 := by decide
  have l5 : (7 : Int32).toInt = 7 := by decide
  have i10 : 0 ≤ v12_dots.toInt ∧ v12_dots.toInt ≤ 40 := i10
  refine lv_iload_n hx hb dX12_odd_0 rfl (lv_at hl 1 rfl) ?_
  refine lv_i2l hx hb dX12_odd_1 rfl ?_
  refine lv_topl (fun x1 e2 => ?_)
  have h3 : x1.toInt = p1.toInt := cl_i2l e2
  refine lv_lconst (v := (0 : Int64)) hx hb dX12_odd_2 (by decide) ?_
  refine lv_ldc2 (v := (6 : Int64)) hx hb hown w0 dX12_odd_3 ?_
  refine kcm_i hA hAB hP hD hS [false, false, false] rfl (fun _ => rfl) (fun hPc hDc => va_runS (As := [.long x1, .long (0 : Int64), .long (6 : Int64)]) (rest := []) ⟨hx, hb, hml, hown, hts⟩ (k_X12_within l D κ β s.heap.size x1 (0 : Int64) (6 : Int64)) (va_cwS 3 hts gX12_odd_X12_within rfl rfl rfl (by decide +kernel) ⟨Nat.le_of_ble_eq_true rfl, Nat.le_of_ble_eq_true rfl⟩) (pk_S hK hS hAB hPc hDc) rfl rfl hl.1 rfl (lv_room (Nat.le_of_ble_eq_true rfl)) dX12_odd_6 ⟨Nat.le_of_ble_eq_true rfl, Nat.le_of_ble_eq_true rfl⟩) (fun x4 u5 H locs hw hPD hS => ?_)
  have h6 : (x4.toInt = 1 ∧ (0 : Int64).toInt ≤ x1.toInt ∧ x1.toInt ≤ (6 : Int64).toInt) ∨ (x4.toInt = 0 ∧ (x1.toInt < (0 : Int64).toInt ∨ (6 : Int64).toInt < x1.toInt)) := hw
  obtain ⟨hP, hD⟩ : PD D A [O12 a12 r12 v12_keptMany v12_done v12_sheets v12_holes v12_worms v12_laidMany v12_wanted v12_orderMany v12_firstOrder v12_lines v12_marks v12_dots v12_madeIn v12_bound v12_places v12_maps v12_tapeMany v12_stories v12_base v12_at v12_ends v12_fault v12_opened v12_bodies v12_ran v12_ownKind v12_ownNumber, (cI κ (r12 0) 55 f12_may), (cI κ (r12 29) 41 f12_inkOf)] H := hPD
  refine lv_if_ne (tgt := 14) hx hb dX12_odd_9 (by decide) (fun c7 => ?_) (fun c7 => ?_)
  · have c7 := ci_ne c7
    refine lv_iconst (v := (-1)) hx hb dX12_odd_14 (by decide) ?_
    refine lv_istore_n (lv' := [(2, .int (-1)), (0, .ref a12), (1, .int p1)]) hx hb dX12_odd_15 rfl hl (by decide) rfl (fun ls hl => ?_)
    refine lv_iconst (v := 0) hx hb dX12_odd_16 (by decide) ?_
    refine lv_istore_n (lv' := [(3, .int 0), (2, .int (-1)), (0, .ref a12), (1, .int p1)]) hx hb dX12_odd_17 rfl hl (by decide) rfl (fun ls hl => ?_)
    have lp18 : ∀ (n18 : Nat) (k8 : Int32) (k9 : Int32), (0 ≤ k8.toInt) → (v12_dots.toInt - k8.toInt).toNat < n18 → ∀ (H : Heap) (locs : List Loc), va_P D vwCl [O12 a12 r12 v12_keptMany v12_done v12_sheets v12_holes v12_worms v12_laidMany v12_wanted v12_orderMany v12_firstOrder v12_lines v12_marks v12_dots v12_madeIn v12_bound v12_places v12_maps v12_tapeMany v12_stories v12_base v12_at v12_ends v12_fault v12_opened v12_bodies v12_ran v12_ownKind v12_ownNumber, (cI κ (r12 0) 55 f12_may), (cI κ (r12 29) 41 f12_inkOf)] H → va_D A [O12 a12 r12 v12_keptMany v12_done v12_sheets v12_holes v12_worms v12_laidMany v12_wanted v12_orderMany v12_firstOrder v12_lines v12_marks v12_dots v12_madeIn v12_bound v12_places v12_maps v12_tapeMany v12_stories v12_base v12_at v12_ends v12_fault v12_opened v12_bodies v12_ran v12_ownKind v12_ownNumber, (cI κ (r12 0) 55 f12_may), (cI κ (r12 29) 41 f12_inkOf)] → va_S A s.heap H locs → ∀ ls : Array Slot, lv_has ls 5 [(3, .int k8), (2, .int k9), (0, .ref a12), (1, .int p1)] → W p l e ({ frames := 1, cells := 0, slots := 0, locals := 25 } : Room) s m args below meth c H locs 0 0 Q (F0 m 18 ls []) := by
      intro n18
      induction n18 with
      | zero =>
        intro k8 k9 h10 m11
        exact absurd m11 (Nat.not_lt_zero _)
      | succ n18 ih18 =>
        intro k8 k9 h10 m11 H locs hP hD hS ls hl
        refine lv_iload_n hx hb dX12_odd_18 rfl (lv_at hl 0 rfl) ?_
        refine lv_aload_n hx hb dX12_odd_19 rfl (lv_at hl 2 rfl) ?_
        refine va_get (D := D) (ci := 12) (v := .int v12_dots) (C := RX12) (T := TX12) (N := 63) hx hb hts w2 hown hK.1 hP 0 rfl rfl 27 (by decide) w1 (fun _ h9 => h9) rfl dX12_odd_20 ?_
        refine lv_icmp_ge (tgt := 64) hx hb dX12_odd_23 (by decide) (fun c12 => ?_) (fun c12 => ?_)
        · have c12 := ci_le c12
          refine lv_iconst (v := 0) hx hb dX12_odd_64 (by decide) ?_
          refine lv_istore_n (lv' := [(3, .int 0), (2, .int k9), (0, .ref a12), (1, .int p1)]) hx hb dX12_odd_65 rfl hl (by decide) rfl (fun ls hl => ?_)
          refine lv_iconst (v := 0) hx hb dX12_odd_66 (by decide) ?_
          refine lv_istore (lv' := [(4, .int 0), (3, .int 0), (2, .int k9), (0, .ref a12), (1, .int p1)]) hx hb dX12_odd_67 hl (by decide) rfl (fun ls hl => ?_)
          have lp69 : ∀ (n69 : Nat) (k13 : Int32) (k14 : Int32), (0 ≤ k13.toInt) → (v12_dots.toInt - k13.toInt).toNat < n69 → ∀ (H : Heap) (locs : List Loc), va_P D vwCl [O12 a12 r12 v12_keptMany v12_done v12_sheets v12_holes v12_worms v12_laidMany v12_wanted v12_orderMany v12_firstOrder v12_lines v12_marks v12_dots v12_madeIn v12_bound v12_places v12_maps v12_tapeMany v12_stories v12_base v12_at v12_ends v12_fault v12_opened v12_bodies v12_ran v12_ownKind v12_ownNumber, (cI κ (r12 0) 55 f12_may), (cI κ (r12 29) 41 f12_inkOf)] H → va_D A [O12 a12 r12 v12_keptMany v12_done v12_sheets v12_holes v12_worms v12_laidMany v12_wanted v12_orderMany v12_firstOrder v12_lines v12_marks v12_dots v12_madeIn v12_bound v12_places v12_maps v12_tapeMany v12_stories v12_base v12_at v12_ends v12_fault v12_opened v12_bodies v12_ran v12_ownKind v12_ownNumber, (cI κ (r12 0) 55 f12_may), (cI κ (r12 29) 41 f12_inkOf)] → va_S A s.heap H locs → ∀ ls : Array Slot, lv_has ls 5 [(4, .int k13), (3, .int k14), (2, .int k9), (0, .ref a12), (1, .int p1)] → W p l e ({ frames := 1, cells := 0, slots := 0, locals := 25 } : Room) s m args below meth c H locs 0 0 Q (F0 m 69 ls []) := by
            intro n69
            induction n69 with
            | zero =>
              intro k13 k14 h15 m16
              exact absurd m16 (Nat.not_lt_zero _)
            | succ n69 ih69 =>
              intro k13 k14 h15 m16 H locs hP hD hS ls hl
              refine lv_iload hx hb dX12_odd_69 (lv_at hl 0 rfl) ?_
              refine lv_aload_n hx hb dX12_odd_71 rfl (lv_at hl 3 rfl) ?_
              refine va_get (D := D) (ci := 12) (v := .int v12_dots) (C := RX12) (T := TX12) (N := 63) hx hb hts w2 hown hK.1 hP 0 rfl rfl 27 (by decide) w1 (fun _ h9 => h9) rfl dX12_odd_72 ?_
              refine lv_icmp_ge (tgt := 114) hx hb dX12_odd_75 (by decide) (fun c17 => ?_) (fun c17 => ?_)
              · have c17 := ci_le c17
                refine lv_iload_n hx hb dX12_odd_114 rfl (lv_at hl 1 rfl) ?_
                exact ret _ _ _ _ k14 () dX12_odd_115 trivial hP hD hS
              have c17 := ci_nle c17
              refine lv_iload_n hx hb dX12_odd_78 rfl (lv_at hl 1 rfl) ?_
              refine lv_aload_n hx hb dX12_odd_79 rfl (lv_at hl 3 rfl) ?_
              refine va_get (D := D) (ci := 12) (v := .ref (r12 29)) (C := RX12) (T := TX12) (N := 63) hx hb hts w2 hown hK.1 hP 0 rfl rfl 29 (by decide) w3 (fun _ h9 => h9) rfl dX12_odd_80 ?_
              refine lv_iload hx hb dX12_odd_83 (lv_at hl 0 rfl) ?_
              refine va_iald hx hb hK.1 hP 2 1 rfl rfl (i := k13) (ix (by omega) (by omega)) dX12_odd_85 ?_
              refine lv_topi (fun x18 e19 => ?_)
              refine lv_iload_n hx hb dX12_odd_86 rfl (lv_at hl 4 rfl) ?_
              refine lv_icmp_ne (tgt := 105) hx hb dX12_odd_87 (by decide) (fun c20 => ?_) (fun c20 => ?_)
              · have c20 := ci_ne c20
                refine lv_iconst (v := 0) hx hb dX12_odd_105 (by decide) ?_
                refine lv_iadd hx hb dX12_odd_106 ?_
                refine lv_topi (fun x21 e22 => ?_)
                try have h23 : x21.toInt = k14.toInt + (0 : Int32).toInt := ci_add e22 (by omega) (by omega)
                refine lv_istore_n (lv' := [(3, .int x21), (4, .int k13), (2, .int k9), (0, .ref a12), (1, .int p1)]) hx hb dX12_odd_107 rfl hl (by decide) rfl (fun ls hl => ?_)
                obtain ⟨x24, e25⟩ : ∃ y : Int32, y = k13 + 1 := ⟨_, rfl⟩
                refine lv_iinc (v := x24) (lv' := [(4, .int x24), (3, .int x21), (2, .int k9), (0, .ref a12), (1, .int p1)]) hx hb dX12_odd_108 hl (k := 1) rfl (by rw [e25]; rfl) (by decide) rfl (fun ls hl => ?_)
                try have h26 : x24.toInt = k13.toInt + (1 : Int32).toInt := ci_add e25 (by omega) (by omega)
                refine lv_goto (tgt := 69) hx hb dX12_odd_111 (by decide) ?_
                exact ih69 x24 x21 (by omega) (by omega) _ _ hP hD hS _ hl
              have c20 := ci_eq c20
              refine lv_aload_n hx hb dX12_odd_90 rfl (lv_at hl 3 rfl) ?_
              refine va_get (D := D) (ci := 12) (v := .ref (r12 0)) (C := RX12) (T := TX12) (N := 63) hx hb hts w2 hown hK.1 hP 0 rfl rfl 0 (by decide) w4 (fun _ h9 => h9) rfl dX12_odd_91 ?_
              refine lv_iload hx hb dX12_odd_94 (lv_at hl 0 rfl) ?_
              refine va_iald hx hb hK.1 hP 1 1 rfl rfl (i := k13) (ix (by omega) (by omega)) dX12_odd_96 ?_
              refine lv_topi (fun x27 e28 => ?_)
              refine lv_iload_n hx hb dX12_odd_97 rfl (lv_at hl 2 rfl) ?_
              refine lv_icmp_le (tgt := 105) hx hb dX12_odd_98 (by decide) (fun c29 => ?_) (fun c29 => ?_)
              · have c29 := ci_le c29
                refine lv_iconst (v := 0) hx hb dX12_odd_105 (by decide) ?_
                refine lv_iadd hx hb dX12_odd_106 ?_
                refine lv_topi (fun x30 e31 => ?_)
                try have h32 : x30.toInt = k14.toInt + (0 : Int32).toInt := ci_add e31 (by omega) (by omega)
                refine lv_istore_n (lv' := [(3, .int x30), (4, .int k13), (2, .int k9), (0, .ref a12), (1, .int p1)]) hx hb dX12_odd_107 rfl hl (by decide) rfl (fun ls hl => ?_)
                obtain ⟨x33, e34⟩ : ∃ y : Int32, y = k13 + 1 := ⟨_, rfl⟩
                refine lv_iinc (v := x33) (lv' := [(4, .int x33), (3, .int x30), (2, .int k9), (0, .ref a12), (1, .int p1)]) hx hb dX12_odd_108 hl (k := 1) rfl (by rw [e34]; rfl) (by decide) rfl (fun ls hl => ?_)
                try have h35 : x33.toInt = k13.toInt + (1 : Int32).toInt := ci_add e34 (by omega) (by omega)
                refine lv_goto (tgt := 69) hx hb dX12_odd_111 (by decide) ?_
                exact ih69 x33 x30 (by omega) (by omega) _ _ hP hD hS _ hl
              have c29 := ci_nle c29
              refine lv_iconst (v := 1) hx hb dX12_odd_101 (by decide) ?_
              refine lv_goto (tgt := 106) hx hb dX12_odd_102 (by decide) ?_
              refine lv_iadd hx hb dX12_odd_106 ?_
              refine lv_topi (fun x36 e37 => ?_)
              try have h38 : x36.toInt = k14.toInt + (1 : Int32).toInt := ci_add e37 (by omega) (by omega)
              refine lv_istore_n (lv' := [(3, .int x36), (4, .int k13), (2, .int k9), (0, .ref a12), (1, .int p1)]) hx hb dX12_odd_107 rfl hl (by decide) rfl (fun ls hl => ?_)
              obtain ⟨x39, e40⟩ : ∃ y : Int32, y = k13 + 1 := ⟨_, rfl⟩
              refine lv_iinc (v := x39) (lv' := [(4, .int x39), (3, .int x36), (2, .int k9), (0, .ref a12), (1, .int p1)]) hx hb dX12_odd_108 hl (k := 1) rfl (by rw [e40]; rfl) (by decide) rfl (fun ls hl => ?_)
              try have h41 : x39.toInt = k13.toInt + (1 : Int32).toInt := ci_add e40 (by omega) (by omega)
              refine lv_goto (tgt := 69) hx hb dX12_odd_111 (by decide) ?_
              exact ih69 x39 x36 (by omega) (by omega) _ _ hP hD hS _ hl
          exact lp69 ((v12_dots.toInt - (0 : Int32).toInt).toNat + 1) 0 0 (by omega) (by omega) _ _ hP hD hS _ hl
        have c12 := ci_nle c12
        refine lv_aload_n hx hb dX12_odd_26 rfl (lv_at hl 2 rfl) ?_
        refine va_get (D := D) (ci := 12) (v := .ref (r12 29)) (C := RX12) (T := TX12) (N := 63) hx hb hts w2 hown hK.1 hP 0 rfl rfl 29 (by decide) w3 (fun _ h9 => h9) rfl dX12_odd_27 ?_
        refine lv_iload_n hx hb dX12_odd_30 rfl (lv_at hl 0 rfl) ?_
        refine va_iald hx hb hK.1 hP 2 1 rfl rfl (i := k8) (ix (by omega) (by omega)) dX12_odd_31 ?_
        refine lv_topi (fun x42 e43 => ?_)
        refine lv_bipush (v := 7) hx hb dX12_odd_32 (by decide) ?_
        refine lv_icmp_ne (tgt := 56) hx hb dX12_odd_34 (by decide) (fun c44 => ?_) (fun c44 => ?_)
        · have c44 := ci_ne c44
          refine lv_iload_n hx hb dX12_odd_56 rfl (lv_at hl 1 rfl) ?_
          refine lv_istore_n (lv' := [(2, .int k9), (3, .int k8), (0, .ref a12), (1, .int p1)]) hx hb dX12_odd_57 rfl hl (by decide) rfl (fun ls hl => ?_)
          obtain ⟨x45, e46⟩ : ∃ y : Int32, y = k8 + 1 := ⟨_, rfl⟩
          refine lv_iinc (v := x45) (lv' := [(3, .int x45), (2, .int k9), (0, .ref a12), (1, .int p1)]) hx hb dX12_odd_58 hl (k := 1) rfl (by rw [e46]; rfl) (by decide) rfl (fun ls hl => ?_)
          try have h47 : x45.toInt = k8.toInt + (1 : Int32).toInt := ci_add e46 (by omega) (by omega)
          refine lv_goto (tgt := 18) hx hb dX12_odd_61 (by decide) ?_
          exact ih18 x45 k9 (by omega) (by omega) _ _ hP hD hS _ hl
        have c44 := ci_eq c44
        refine lv_aload_n hx hb dX12_odd_37 rfl (lv_at hl 2 rfl) ?_
        refine va_get (D := D) (ci := 12) (v := .ref (r12 0)) (C := RX12) (T := TX12) (N := 63) hx hb hts w2 hown hK.1 hP 0 rfl rfl 0 (by decide) w4 (fun _ h9 => h9) rfl dX12_odd_38 ?_
        refine lv_iload_n hx hb dX12_odd_41 rfl (lv_at hl 0 rfl) ?_
        refine va_iald hx hb hK.1 hP 1 1 rfl rfl (i := k8) (ix (by omega) (by omega)) dX12_odd_42 ?_
        refine lv_topi (fun x48 e49 => ?_)
        refine lv_iload_n hx hb dX12_odd_43 rfl (lv_at hl 1 rfl) ?_
        refine lv_icmp_le (tgt := 56) hx hb dX12_odd_44 (by decide) (fun c50 => ?_) (fun c50 => ?_)
        · have c50 := ci_le c50
          refine lv_iload_n hx hb dX12_odd_56 rfl (lv_at hl 1 rfl) ?_
          refine lv_istore_n (lv' := [(2, .int k9), (3, .int k8), (0, .ref a12), (1, .int p1)]) hx hb dX12_odd_57 rfl hl (by decide) rfl (fun ls hl => ?_)
          obtain ⟨x51, e52⟩ : ∃ y : Int32, y = k8 + 1 := ⟨_, rfl⟩
          refine lv_iinc (v := x51) (lv' := [(3, .int x51), (2, .int k9), (0, .ref a12), (1, .int p1)]) hx hb dX12_odd_58 hl (k := 1) rfl (by rw [e52]; rfl) (by decide) rfl (fun ls hl => ?_)
          try have h53 : x51.toInt = k8.toInt + (1 : Int32).toInt := ci_add e52 (by omega) (by omega)
          refine lv_goto (tgt := 18) hx hb dX12_odd_61 (by decide) ?_
          exact ih18 x51 k9 (by omega) (by omega) _ _ hP hD hS _ hl
        have c50 := ci_nle c50
        refine lv_aload_n hx hb dX12_odd_47 rfl (lv_at hl 2 rfl) ?_
        refine va_get (D := D) (ci := 12) (v := .ref (r12 0)) (C := RX12) (T := TX12) (N := 63) hx hb hts w2 hown hK.1 hP 0 rfl rfl 0 (by decide) w4 (fun _ h9 => h9) rfl dX12_odd_48 ?_
        refine lv_iload_n hx hb dX12_odd_51 rfl (lv_at hl 0 rfl) ?_
        refine va_iald hx hb hK.1 hP 1 1 rfl rfl (i := k8) (ix (by omega) (by omega)) dX12_odd_52 ?_
        refine lv_topi (fun x54 e55 => ?_)
        refine lv_goto (tgt := 57) hx hb dX12_odd_53 (by decide) ?_
        refine lv_istore_n (lv' := [(2, .int x54), (3, .int k8), (0, .ref a12), (1, .int p1)]) hx hb dX12_odd_57 rfl hl (by decide) rfl (fun ls hl => ?_)
        obtain ⟨x56, e57⟩ : ∃ y : Int32, y = k8 + 1 := ⟨_, rfl⟩
        refine lv_iinc (v := x56) (lv' := [(3, .int x56), (2, .int x54), (0, .ref a12), (1, .int p1)]) hx hb dX12_odd_58 hl (k := 1) rfl (by rw [e57]; rfl) (by decide) rfl (fun ls hl => ?_)
        try have h58 : x56.toInt = k8.toInt + (1 : Int32).toInt := ci_add e57 (by omega) (by omega)
        refine lv_goto (tgt := 18) hx hb dX12_odd_61 (by decide) ?_
        exact ih18 x56 x54 (by omega) (by omega) _ _ hP hD hS _ hl
    exact lp18 ((v12_dots.toInt - (0 : Int32).toInt).toNat + 1) 0 (-1) (by omega) (by omega) _ _ hP hD hS _ hl
  have c7 := ci_eq c7
  refine lv_iconst (v := (-1)) hx hb dX12_odd_12 (by decide) ?_
  exact ret _ _ _ _ (-1) () dX12_odd_13 trivial hP hD hS
set_option maxHeartbeats 4000000 in
set_option maxRecDepth 100000 in
theorem k_X12_sumOwn (l : Launch) (D : va_G) (κ : Nat → ClassId) (β : Nat) (a12 : Nat) (r12 : Nat → Nat) (v12_keptMany : Int32) (v12_done : Int32) (v12_sheets : Int32) (v12_holes : Int32) (v12_worms : Int32) (v12_laidMany : Int32) (v12_wanted : Int32) (v12_orderMany : Int32) (v12_firstOrder : Int32) (v12_lines : Int32) (v12_marks : Int32) (v12_dots : Int32) (v12_madeIn : Int32) (v12_bound : Int32) (v12_places : Int32) (v12_maps : Int32) (v12_tapeMany : Int32) (v12_stories : Int32) (v12_base : Int32) (v12_at : Int32) (v12_ends : Int32) (v12_fault : Int32) (v12_opened : Int32) (v12_bodies : Int32) (v12_ran : Int32) (v12_ownKind : Int32) (v12_ownNumber : Int32) (f12_dealt : Nat → Int32) (f12_isOwn : Nat → Int32) (sz : Nat) (p1 : Int32) (i1 : Rg 0 40 v12_keptMany) (i2 : Rg 0 40 v12_done) (i3 : Rg 0 8 v12_sheets) (i4 : Rg 0 40 v12_holes) (i5 : Rg 0 40 v12_worms) (i6 : Rg 0 8 v12_laidMany) (i7 : Rg 0 8 v12_wanted) (i8 : Rg 0 20 v12_lines) (i9 : Rg 0 60 v12_marks) (i10 : Rg 0 40 v12_dots) (i11 : Rg 0 20 v12_places) (i12 : Rg 0 8 v12_maps) (i13 : Rg 0 120 v12_tapeMany) (i14 : Rg 0 6 v12_stories) (i15 : Rg 0 50 v12_bodies) (i16 : Rg 0 1000 v12_ran) (i17 : v12_done.toInt ≤ v12_keptMany.toInt) (i18 : p1.toInt ≤ 40) : Met l yX12_sumOwn wsX12_sumOwn ({ frames := 0, cells := 0, slots := 0, locals := 0 } : Room) (PcK D κ β [O12 a12 r12 v12_keptMany v12_done v12_sheets v12_holes v12_worms v12_laidMany v12_wanted v12_orderMany v12_firstOrder v12_lines v12_marks v12_dots v12_madeIn v12_bound v12_places v12_maps v12_tapeMany v12_stories v12_base v12_at v12_ends v12_fault v12_opened v12_bodies v12_ran v12_ownKind v12_ownNumber, (cI κ (r12 30) 40 f12_dealt), (cZ κ (r12 31) 40 f12_isOwn)] sz [.ref a12, .int p1]) (QiK D (fun (r : Int32) (u : Unit) => True) (fun (u : Unit) => [O12 a12 r12 v12_keptMany v12_done v12_sheets v12_holes v12_worms v12_laidMany v12_wanted v12_orderMany v12_firstOrder v12_lines v12_marks v12_dots v12_madeIn v12_bound v12_places v12_maps v12_tapeMany v12_stories v12_base v12_at v12_ends v12_fault v12_opened v12_bodies v12_ran v12_ownKind v12_ownNumber, (cI κ (r12 30) 40 f12_dealt), (cZ κ (r12 31) 40 f12_isOwn)]) [O12 a12 r12 v12_keptMany v12_done v12_sheets v12_holes v12_worms v12_laidMany v12_wanted v12_orderMany v12_firstOrder v12_lines v12_marks v12_dots v12_madeIn v12_bound v12_places v12_maps v12_tapeMany v12_stories v12_base v12_at v12_ends v12_fault v12_opened v12_bodies v12_ran v12_ownKind v12_ownNumber, (cI κ (r12 30) 40 f12_dealt), (cZ κ (r12 31) 40 f12_isOwn)] sz) 0 0 (va_A [O12 a12 r12 v12_keptMany v12_done v12_sheets v12_holes v12_worms v12_laidMany v12_wanted v12_orderMany v12_firstOrder v12_lines v12_marks v12_dots v12_madeIn v12_bound v12_places v12_maps v12_tapeMany v12_stories v12_base v12_at v12_ends v12_fault v12_opened v12_bodies v12_ran v12_ownKind v12_ownNumber, (cI κ (r12 30) 40 f12_dealt), (cZ κ (r12 31) 40 f12_isOwn)] sz) := by
  refine ofK_i (cc := cX12_sumOwn) (maxL := 4) (own := RX12) (by decide) rfl rfl (Nat.le_of_ble_eq_true rfl) ?_
  intro p e s m args below meth c Q A ls hsz hx hb hml hts hown hK hA hAB hP hD hl ret
  have hS : va_S A s.heap s.heap [] := va_S.rf
  have hl : lv_has ls 4 [(0, .ref a12), (1, .int p1)] := hl
  have w0 := hts (.fieldLink RX12 68 "OlderSkinModel" "isOwn" "[Z") (List.mem_of_getElem? (i := 1) rfl)
  have w1 := (fun w h => List.mem_cons_of_mem _ (List.mem_append_right _ h) : ∀ w ∈ u_ws RX12 TX12 63, w ∈ wsX12_sumOwn)
  have w2 := hts (.fieldLink RX12 65 "OlderSkinModel" "dealt" "[I") (List.mem_of_getElem? (i := 2) rfl)
  have l0 : (0 : Int32).toInt = 0 := by decide
  have l1 : (1 : Int32).toInt = 1 := by decide
  refine lv_iconst (v := 0) hx hb dX12_sumOwn_0 (by decide) ?_
  refine lv_istore_n (lv' := [(2, .int 0), (0, .ref a12), (1, .int p1)]) hx hb dX12_sumOwn_1 rfl hl (by decide) rfl (fun ls hl => ?_)
  refine lv_iconst (v := 0) hx hb dX12_sumOwn_2 (by decide) ?_
  refine lv_istore_n (lv' := [(3, .int 0), (2, .int 0), (0, .ref a12), (1, .int p1)]) hx hb dX12_sumOwn_3 rfl hl (by decide) rfl (fun ls hl => ?_)
  have lp4 : ∀ (n4 : Nat) (k1 : Int32) (k2 : Int32), (0 ≤ k1.toInt) → (p1.toInt - k1.toInt).toNat < n4 → ∀ (H : Heap) (locs : List Loc), va_P D vwCl [O12 a12 r12 v12_keptMany v12_done v12_sheets v12_holes v12_worms v12_laidMany v12_wanted v12_orderMany v12_firstOrder v12_lines v12_marks v12_dots v12_madeIn v12_bound v12_places v12_maps v12_tapeMany v12_stories v12_base v12_at v12_ends v12_fault v12_opened v12_bodies v12_ran v12_ownKind v12_ownNumber, (cI κ (r12 30) 40 f12_dealt), (cZ κ (r12 31) 40 f12_isOwn)] H → va_D A [O12 a12 r12 v12_keptMany v12_done v12_sheets v12_holes v12_worms v12_laidMany v12_wanted v12_orderMany v12_firstOrder v12_lines v12_marks v12_dots v12_madeIn v12_bound v12_places v12_maps v12_tapeMany v12_stories v12_base v12_at v12_ends v12_fault v12_opened v12_bodies v12_ran v12_ownKind v12_ownNumber, (cI κ (r12 30) 40 f12_dealt), (cZ κ (r12 31) 40 f12_isOwn)] → va_S A s.heap H locs → ∀ ls : Array Slot, lv_has ls 4 [(3, .int k1), (2, .int k2), (0, .ref a12), (1, .int p1)] → W p l e ({ frames := 0, cells := 0, slots := 0, locals := 0 } : Room) s m args below meth c H locs 0 0 Q (F0 m 4 ls []) := by
    intro n4
    induction n4 with
    | zero =>
      intro k1 k2 h3 m4
      exact absurd m4 (Nat.not_lt_zero _)
    | succ n4 ih4 =>
      intro k1 k2 h3 m4 H locs hP hD hS ls hl
      refine lv_iload_n hx hb dX12_sumOwn_4 rfl (lv_at hl 0 rfl) ?_
      refine lv_iload_n hx hb dX12_sumOwn_5 rfl (lv_at hl 3 rfl) ?_
      refine lv_icmp_ge (tgt := 37) hx hb dX12_sumOwn_6 (by decide) (fun c5 => ?_) (fun c5 => ?_)
      · have c5 := ci_le c5
        refine lv_iload_n hx hb dX12_sumOwn_37 rfl (lv_at hl 1 rfl) ?_
        exact ret _ _ _ _ k2 () dX12_sumOwn_38 trivial hP hD hS
      have c5 := ci_nle c5
      refine lv_iload_n hx hb dX12_sumOwn_9 rfl (lv_at hl 1 rfl) ?_
      refine lv_aload_n hx hb dX12_sumOwn_10 rfl (lv_at hl 2 rfl) ?_
      refine va_get (D := D) (ci := 12) (v := .ref (r12 31)) (C := RX12) (T := TX12) (N := 63) hx hb hts w1 hown hK.1 hP 0 rfl rfl 31 (by decide) w0 (fun _ h9 => h9) rfl dX12_sumOwn_11 ?_
      refine lv_iload_n hx hb dX12_sumOwn_14 rfl (lv_at hl 0 rfl) ?_
      refine va_zald hx hb hK.1 hP 2 3 rfl rfl (i := k1) (ix (by omega) (by omega)) dX12_sumOwn_15 ?_
      refine lv_topi (fun x6 e7 => ?_)
      refine lv_if_eq (tgt := 28) hx hb dX12_sumOwn_16 (by decide) (fun c8 => ?_) (fun c8 => ?_)
      · have c8 := ci_eq c8
        refine lv_iconst (v := 0) hx hb dX12_sumOwn_28 (by decide) ?_
        refine lv_iadd hx hb dX12_sumOwn_29 ?_
        refine lv_topi (fun x9 e10 => ?_)
        try have h11 : x9.toInt = k2.toInt + (0 : Int32).toInt := ci_add e10 (by omega) (by omega)
        refine lv_istore_n (lv' := [(2, .int x9), (3, .int k1), (0, .ref a12), (1, .int p1)]) hx hb dX12_sumOwn_30 rfl hl (by decide) rfl (fun ls hl => ?_)
        obtain ⟨x12, e13⟩ : ∃ y : Int32, y = k1 + 1 := ⟨_, rfl⟩
        refine lv_iinc (v := x12) (lv' := [(3, .int x12), (2, .int x9), (0, .ref a12), (1, .int p1)]) hx hb dX12_sumOwn_31 hl (k := 1) rfl (by rw [e13]; rfl) (by decide) rfl (fun ls hl => ?_)
        try have h14 : x12.toInt = k1.toInt + (1 : Int32).toInt := ci_add e13 (by omega) (by omega)
        refine lv_goto (tgt := 4) hx hb dX12_sumOwn_34 (by decide) ?_
        exact ih4 x12 x9 (by omega) (by omega) _ _ hP hD hS _ hl
      have c8 := ci_ne c8
      refine lv_aload_n hx hb dX12_sumOwn_19 rfl (lv_at hl 2 rfl) ?_
      refine va_get (D := D) (ci := 12) (v := .ref (r12 30)) (C := RX12) (T := TX12) (N := 63) hx hb hts w1 hown hK.1 hP 0 rfl rfl 30 (by decide) w2 (fun _ h9 => h9) rfl dX12_sumOwn_20 ?_
      refine lv_iload_n hx hb dX12_sumOwn_23 rfl (lv_at hl 0 rfl) ?_
      refine va_iald hx hb hK.1 hP 1 1 rfl rfl (i := k1) (ix (by omega) (by omega)) dX12_sumOwn_24 ?_
      refine lv_topi (fun x15 e16 => ?_)
      refine lv_goto (tgt := 29) hx hb dX12_sumOwn_25 (by decide) ?_
      refine lv_iadd hx hb dX12_sumOwn_29 ?_
      refine lv_topi (fun x17 e18 => ?_)
      try have h19 : x17.toInt = k2.toInt + x15.toInt := ci_add e18 (by omega) (by omega)
      refine lv_istore_n (lv' := [(2, .int x17), (3, .int k1), (0, .ref a12), (1, .int p1)]) hx hb dX12_sumOwn_30 rfl hl (by decide) rfl (fun ls hl => ?_)
      obtain ⟨x20, e21⟩ : ∃ y : Int32, y = k1 + 1 := ⟨_, rfl⟩
      refine lv_iinc (v := x20) (lv' := [(3, .int x20), (2, .int x17), (0, .ref a12), (1, .int p1)]) hx hb dX12_sumOwn_31 hl (k := 1) rfl (by rw [e21]; rfl) (by decide) rfl (fun ls hl => ?_)
      try have h22 : x20.toInt = k1.toInt + (1 : Int32).toInt := ci_add e21 (by omega) (by omega)
      refine lv_goto (tgt := 4) hx hb dX12_sumOwn_34 (by decide) ?_
      exact ih4 x20 x17 (by omega) (by omega) _ _ hP hD hS _ hl
  exact lp4 ((p1.toInt - (0 : Int32).toInt).toNat + 1) 0 0 (by omega) (by omega) _ _ hP hD hS _ hl
set_option maxHeartbeats 4000000 in
set_option maxRecDepth 100000 in
theorem k_X12_chance (l : Launch) (D : va_G) (κ : Nat → ClassId) (β : Nat) (a12 : Nat) (r12 : Nat → Nat) (v12_keptMany : Int32) (v12_done : Int32) (v12_sheets : Int32) (v12_holes : Int32) (v12_worms : Int32) (v12_laidMany : Int32) (v12_wanted : Int32) (v12_orderMany : Int32) (v12_firstOrder : Int32) (v12_lines : Int32) (v12_marks : Int32) (v12_dots : Int32) (v12_madeIn : Int32) (v12_bound : Int32) (v12_places : Int32) (v12_maps : Int32) (v12_tapeMany : Int32) (v12_stories : Int32) (v12_base : Int32) (v12_at : Int32) (v12_ends : Int32) (v12_fault : Int32) (v12_opened : Int32) (v12_bodies : Int32) (v12_ran : Int32) (v12_ownKind : Int32) (v12_ownNumber : Int32) (f12_may : Nat → Int32) (f12_houseOf : Nat → Int32) (f12_inkOf : Nat → Int32) (f12_dealt : Nat → Int32) (f12_isOwn : Nat → Int32) (sz : Nat) (p1 : Int32) (p2 : Int32) (p3 : Int32) (i1 : Rg 0 40 v12_keptMany) (i2 : Rg 0 40 v12_done) (i3 : Rg 0 8 v12_sheets) (i4 : Rg 0 40 v12_holes) (i5 : Rg 0 40 v12_worms) (i6 : Rg 0 8 v12_laidMany) (i7 : Rg 0 8 v12_wanted) (i8 : Rg 0 20 v12_lines) (i9 : Rg 0 60 v12_marks) (i10 : Rg 0 40 v12_dots) (i11 : Rg 0 20 v12_places) (i12 : Rg 0 8 v12_maps) (i13 : Rg 0 120 v12_tapeMany) (i14 : Rg 0 6 v12_stories) (i15 : Rg 0 50 v12_bodies) (i16 : Rg 0 1000 v12_ran) (i17 : v12_done.toInt ≤ v12_keptMany.toInt) : Met l yX12_chance wsX12_chance ({ frames := 2, cells := 0, slots := 0, locals := 52 } : Room) (PcK D κ β [O12 a12 r12 v12_keptMany v12_done v12_sheets v12_holes v12_worms v12_laidMany v12_wanted v12_orderMany v12_firstOrder v12_lines v12_marks v12_dots v12_madeIn v12_bound v12_places v12_maps v12_tapeMany v12_stories v12_base v12_at v12_ends v12_fault v12_opened v12_bodies v12_ran v12_ownKind v12_ownNumber, (cI κ (r12 0) 55 f12_may), (cI κ (r12 28) 41 f12_houseOf), (cI κ (r12 29) 41 f12_inkOf), (cI κ (r12 30) 40 f12_dealt), (cZ κ (r12 31) 40 f12_isOwn)] sz [.ref a12, .int p1, .int p2, .int p3]) (QiK D (fun (r : Int32) (u : (Nat → Int32) × (Nat → Int32)) => True) (fun (u : (Nat → Int32) × (Nat → Int32)) => [O12 a12 r12 v12_keptMany v12_done v12_sheets v12_holes v12_worms v12_laidMany v12_wanted v12_orderMany v12_firstOrder v12_lines v12_marks v12_dots v12_madeIn v12_bound v12_places v12_maps v12_tapeMany v12_stories v12_base v12_at v12_ends v12_fault v12_opened v12_bodies v12_ran v12_ownKind v12_ownNumber, (cI κ (r12 0) 55 f12_may), (cI κ (r12 28) 41 f12_houseOf), (cI κ (r12 29) 41 f12_inkOf), (cI κ (r12 30) 40 u.1), (cZ κ (r12 31) 40 u.2)]) [O12 a12 r12 v12_keptMany v12_done v12_sheets v12_holes v12_worms v12_laidMany v12_wanted v12_orderMany v12_firstOrder v12_lines v12_marks v12_dots v12_madeIn v12_bound v12_places v12_maps v12_tapeMany v12_stories v12_base v12_at v12_ends v12_fault v12_opened v12_bodies v12_ran v12_ownKind v12_ownNumber, (cI κ (r12 0) 55 f12_may), (cI κ (r12 28) 41 f12_houseOf), (cI κ (r12 29) 41 f12_inkOf), (cI κ (r12 30) 40 f12_dealt), (cZ κ (r12 31) 40 f12_isOwn)] sz) 0 0 (va_A [O12 a12 r12 v12_keptMany v12_done v12_sheets v12_holes v12_worms v12_laidMany v12_wanted v12_orderMany v12_firstOrder v12_lines v12_marks v12_dots v12_madeIn v12_bound v12_places v12_maps v12_tapeMany v12_stories v12_base v12_at v12_ends v12_fault v12_opened v12_bodies v12_ran v12_ownKind v12_ownNumber, (cI κ (r12 0) 55 f12_may), (cI κ (r12 28) 41 f12_houseOf), (cI κ (r12 29) 41 f12_inkOf), (cI κ (r12 30) 40 f12_dealt), (cZ κ (r12 31) 40 f12_isOwn)] sz) := by
  refine ofK_i (cc := cX12_chance) (maxL := 12) (own := RX12) (by decide) rfl rfl (Nat.le_of_ble_eq_true rfl) ?_
  intro p e s m args below meth c Q A ls hsz hx hb hml hts hown hK hA hAB hP hD hl ret
  have hS : va_S A s.heap s.heap [] := va_S.rf
  have hl : lv_has ls 12 [(0, .ref a12), (1, .int p1), (2, .int p2), (3, .int p3)] := hl
  have w0 := hts (.constantLong RX12 247 (6)) (List.mem_of_getElem? (i := 1) rfl)
  have w1 := hts (.constantLong RX12 249 (50)) (List.mem_of_getElem? (i := 2) rfl)
  have w2 := hts (.fieldLink RX12 227 "OlderSkinModel" "dots" "I") (List.mem_of_getElem? (i := 3) rfl)
  have w3 := (fun w h => List.mem_cons_of_mem _ (List.mem_append_right _ h) : ∀ w ∈ u_ws RX12 TX12 63, w ∈ wsX12_chance)
  have w4 := hts (.constant RX12 255 (1103515245)) (List.mem_of_getElem? (i := 8) rfl)
  have w5 := hts (.fieldLink RX12 65 "OlderSkinModel" "dealt" "[I") (List.mem_of_getElem? (i := 5) rfl)
  have w6 := hts (.fieldLink RX12 62 "OlderSkinModel" "inkOf" "[I") (List.mem_of_getElem? (i := 4) rfl)
  have w7 := hts (.fieldLink RX12 9 "OlderSkinModel" "may" "[I") (List.mem_of_getElem? (i := 6) rfl)
  have w8 := hts (.fieldLink RX12 68 "OlderSkinModel" "isOwn" "[Z") (List.mem_of_getElem? (i := 7) rfl)
  have l0 : (0 : Int64).toInt = 0 := by decide
  have l1 : (6 : Int64).toInt = 6 := by decide
  have l2 : (0 : Int32).toInt = 0 := by decide
  have l3 : ((-1) : Int32).toInt = -1 := by decide
  have l4 : (1 : Int64).toInt = 1 := by decide
  have l5 : (50 : Int64).toInt = 50 := by decide
  have l6 : (5 : Int32).toInt = 5 := by decide
  have l7 : ((-2) : Int32).toInt = -2 := by decide
  have l8 : (7 : Int32).toInt = 7 := by decide
  have l9 : (1 : Int32).toInt = 1 := by decide
  have l10 : (1103515245 : Int32).toInt = 1103515245 := by decide
  have l11 : (12345 : Int32).toInt = 12345 := by decide
  have l12 : (8 : Int32).toInt = 8 := by decide
  have i10 : 0 ≤ v12_dots.toInt ∧ v12_dots.toInt ≤ 40 := i10
  have rg3 := ci_rng p3
  refine lv_iload_n hx hb dX12_chance_0 rfl (lv_at hl 1 rfl) ?_
  refine lv_i2l hx hb dX12_chance_1 rfl ?_
  refine lv_topl (fun x1 e2 => ?_)
  have h3 : x1.toInt = p1.toInt := cl_i2l e2
  refine lv_lconst (v := (0 : Int64)) hx hb dX12_chance_2 (by decide) ?_
  refine lv_ldc2 (v := (6 : Int64)) hx hb hown w0 dX12_chance_3 ?_
  refine kcm_i hA hAB hP hD hS [false, false, false, false, false, false] rfl (fun _ => rfl) (fun hPc hDc => va_runS (As := [.long x1, .long (0 : Int64), .long (6 : Int64)]) (rest := []) ⟨hx, hb, hml, hown, hts⟩ (k_X12_within l D κ β s.heap.size x1 (0 : Int64) (6 : Int64)) (va_cwS 3 hts gX12_chance_X12_within rfl rfl rfl (by decide +kernel) ⟨Nat.le_of_ble_eq_true rfl, Nat.le_of_ble_eq_true rfl⟩) (pk_S hK hS hAB hPc hDc) rfl rfl hl.1 rfl (lv_room (Nat.le_of_ble_eq_true rfl)) dX12_chance_6 ⟨Nat.le_of_ble_eq_true rfl, Nat.le_of_ble_eq_true rfl⟩) (fun x4 u5 H locs hw hPD hS => ?_)
  have h6 : (x4.toInt = 1 ∧ (0 : Int64).toInt ≤ x1.toInt ∧ x1.toInt ≤ (6 : Int64).toInt) ∨ (x4.toInt = 0 ∧ (x1.toInt < (0 : Int64).toInt ∨ (6 : Int64).toInt < x1.toInt)) := hw
  obtain ⟨hP, hD⟩ : PD D A [O12 a12 r12 v12_keptMany v12_done v12_sheets v12_holes v12_worms v12_laidMany v12_wanted v12_orderMany v12_firstOrder v12_lines v12_marks v12_dots v12_madeIn v12_bound v12_places v12_maps v12_tapeMany v12_stories v12_base v12_at v12_ends v12_fault v12_opened v12_bodies v12_ran v12_ownKind v12_ownNumber, (cI κ (r12 0) 55 f12_may), (cI κ (r12 28) 41 f12_houseOf), (cI κ (r12 29) 41 f12_inkOf), (cI κ (r12 30) 40 f12_dealt), (cZ κ (r12 31) 40 f12_isOwn)] H := hPD
  refine lv_if_eq (tgt := 24) hx hb dX12_chance_9 (by decide) (fun c7 => ?_) (fun c7 => ?_)
  · have c7 := ci_eq c7
    refine lv_iconst (v := (-1)) hx hb dX12_chance_24 (by decide) ?_
    exact ret _ _ _ _ (-1) (f12_dealt, f12_isOwn) dX12_chance_25 trivial hP hD hS
  have c7 := ci_ne c7
  refine lv_iload_n hx hb dX12_chance_12 rfl (lv_at hl 3 rfl) ?_
  refine lv_i2l hx hb dX12_chance_13 rfl ?_
  refine lv_topl (fun x8 e9 => ?_)
  have h10 : x8.toInt = p3.toInt := cl_i2l e9
  refine lv_lconst (v := (1 : Int64)) hx hb dX12_chance_14 (by decide) ?_
  refine lv_ldc2 (v := (50 : Int64)) hx hb hown w1 dX12_chance_15 ?_
  refine kcm_i hA hAB hP hD hS [false, false, false, false, false, false] rfl (fun _ => rfl) (fun hPc hDc => va_runS (As := [.long x8, .long (1 : Int64), .long (50 : Int64)]) (rest := []) ⟨hx, hb, hml, hown, hts⟩ (k_X12_within l D κ β H.size x8 (1 : Int64) (50 : Int64)) (va_cwS 3 hts gX12_chance_X12_within rfl rfl rfl (by decide +kernel) ⟨Nat.le_of_ble_eq_true rfl, Nat.le_of_ble_eq_true rfl⟩) (pk_S hK hS hAB hPc hDc) rfl rfl hl.1 rfl (lv_room (Nat.le_of_ble_eq_true rfl)) dX12_chance_18 ⟨Nat.le_of_ble_eq_true rfl, Nat.le_of_ble_eq_true rfl⟩) (fun x11 u12 H locs hw hPD hS => ?_)
  have h13 : (x11.toInt = 1 ∧ (1 : Int64).toInt ≤ x8.toInt ∧ x8.toInt ≤ (50 : Int64).toInt) ∨ (x11.toInt = 0 ∧ (x8.toInt < (1 : Int64).toInt ∨ (50 : Int64).toInt < x8.toInt)) := hw
  obtain ⟨hP, hD⟩ : PD D A [O12 a12 r12 v12_keptMany v12_done v12_sheets v12_holes v12_worms v12_laidMany v12_wanted v12_orderMany v12_firstOrder v12_lines v12_marks v12_dots v12_madeIn v12_bound v12_places v12_maps v12_tapeMany v12_stories v12_base v12_at v12_ends v12_fault v12_opened v12_bodies v12_ran v12_ownKind v12_ownNumber, (cI κ (r12 0) 55 f12_may), (cI κ (r12 28) 41 f12_houseOf), (cI κ (r12 29) 41 f12_inkOf), (cI κ (r12 30) 40 f12_dealt), (cZ κ (r12 31) 40 f12_isOwn)] H := hPD
  refine lv_if_ne (tgt := 26) hx hb dX12_chance_21 (by decide) (fun c14 => ?_) (fun c14 => ?_)
  · have c14 := ci_ne c14
    refine lv_aload_n hx hb dX12_chance_26 rfl (lv_at hl 0 rfl) ?_
    refine lv_iconst (v := 5) hx hb dX12_chance_27 (by decide) ?_
    refine lv_iload_n hx hb dX12_chance_28 rfl (lv_at hl 1 rfl) ?_
    refine lv_iload_n hx hb dX12_chance_29 rfl (lv_at hl 1 rfl) ?_
    refine kcm_i hA hAB hP hD hS [true, true, true, true, false, false] rfl (fun _ => rfl) (fun hPc hDc => va_runV (As := [.int 5, .int p1, .int p1]) (rest := []) ⟨hx, hb, hml, hown, hts⟩ (k_X12_meanOf l D κ β a12 r12 v12_keptMany v12_done v12_sheets v12_holes v12_worms v12_laidMany v12_wanted v12_orderMany v12_firstOrder v12_lines v12_marks v12_dots v12_madeIn v12_bound v12_places v12_maps v12_tapeMany v12_stories v12_base v12_at v12_ends v12_fault v12_opened v12_bodies v12_ran v12_ownKind v12_ownNumber f12_may f12_houseOf f12_inkOf H.size 5 p1 p1 i1 i2 i3 i4 i5 i6 i7 i8 i9 i10 i11 i12 i13 i14 i15 i16 i17) (cwV 3 hts gX12_chance_X12_meanOf rfl rfl rfl (by decide +kernel) ⟨Nat.le_of_ble_eq_true rfl, Nat.le_of_ble_eq_true rfl⟩) (pk_V hK hS hAB hPc hDc 0 (ci := 12) rfl rfl rfl) rfl rfl hl.1 rfl (lv_room (Nat.le_of_ble_eq_true rfl)) dX12_chance_30 ⟨Nat.le_of_ble_eq_true rfl, Nat.le_of_ble_eq_true rfl⟩) (fun x15 u16 H locs hw hPD hS => ?_)
    obtain ⟨hP, hD⟩ : PD D A [O12 a12 r12 v12_keptMany v12_done v12_sheets v12_holes v12_worms v12_laidMany v12_wanted v12_orderMany v12_firstOrder v12_lines v12_marks v12_dots v12_madeIn v12_bound v12_places v12_maps v12_tapeMany v12_stories v12_base v12_at v12_ends v12_fault v12_opened v12_bodies v12_ran v12_ownKind v12_ownNumber, (cI κ (r12 0) 55 f12_may), (cI κ (r12 28) 41 f12_houseOf), (cI κ (r12 29) 41 f12_inkOf), (cI κ (r12 30) 40 f12_dealt), (cZ κ (r12 31) 40 f12_isOwn)] H := hPD
    refine lv_bipush (v := (-2)) hx hb dX12_chance_33 (by decide) ?_
    refine lv_icmp_eq (tgt := 52) hx hb dX12_chance_35 (by decide) (fun c17 => ?_) (fun c17 => ?_)
    · have c17 := ci_eq c17
      refine lv_bipush (v := (-2)) hx hb dX12_chance_52 (by decide) ?_
      exact ret _ _ _ _ (-2) (f12_dealt, f12_isOwn) dX12_chance_54 trivial hP hD hS
    have c17 := ci_ne c17
    refine lv_aload_n hx hb dX12_chance_38 rfl (lv_at hl 0 rfl) ?_
    refine lv_iconst (v := 5) hx hb dX12_chance_39 (by decide) ?_
    refine lv_bipush (v := 7) hx hb dX12_chance_40 (by decide) ?_
    refine lv_bipush (v := 7) hx hb dX12_chance_42 (by decide) ?_
    refine kcm_i hA hAB hP hD hS [true, true, true, true, false, false] rfl (fun _ => rfl) (fun hPc hDc => va_runV (As := [.int 5, .int 7, .int 7]) (rest := []) ⟨hx, hb, hml, hown, hts⟩ (k_X12_meanOf l D κ β a12 r12 v12_keptMany v12_done v12_sheets v12_holes v12_worms v12_laidMany v12_wanted v12_orderMany v12_firstOrder v12_lines v12_marks v12_dots v12_madeIn v12_bound v12_places v12_maps v12_tapeMany v12_stories v12_base v12_at v12_ends v12_fault v12_opened v12_bodies v12_ran v12_ownKind v12_ownNumber f12_may f12_houseOf f12_inkOf H.size 5 7 7 i1 i2 i3 i4 i5 i6 i7 i8 i9 i10 i11 i12 i13 i14 i15 i16 i17) (cwV 3 hts gX12_chance_X12_meanOf rfl rfl rfl (by decide +kernel) ⟨Nat.le_of_ble_eq_true rfl, Nat.le_of_ble_eq_true rfl⟩) (pk_V hK hS hAB hPc hDc 0 (ci := 12) rfl rfl rfl) rfl rfl hl.1 rfl (lv_room (Nat.le_of_ble_eq_true rfl)) dX12_chance_44 ⟨Nat.le_of_ble_eq_true rfl, Nat.le_of_ble_eq_true rfl⟩) (fun x18 u19 H locs hw hPD hS => ?_)
    obtain ⟨hP, hD⟩ : PD D A [O12 a12 r12 v12_keptMany v12_done v12_sheets v12_holes v12_worms v12_laidMany v12_wanted v12_orderMany v12_firstOrder v12_lines v12_marks v12_dots v12_madeIn v12_bound v12_places v12_maps v12_tapeMany v12_stories v12_base v12_at v12_ends v12_fault v12_opened v12_bodies v12_ran v12_ownKind v12_ownNumber, (cI κ (r12 0) 55 f12_may), (cI κ (r12 28) 41 f12_houseOf), (cI κ (r12 29) 41 f12_inkOf), (cI κ (r12 30) 40 f12_dealt), (cZ κ (r12 31) 40 f12_isOwn)] H := hPD
    refine lv_bipush (v := (-2)) hx hb dX12_chance_47 (by decide) ?_
    refine lv_icmp_ne (tgt := 55) hx hb dX12_chance_49 (by decide) (fun c20 => ?_) (fun c20 => ?_)
    · have c20 := ci_ne c20
      refine lv_iconst (v := 0) hx hb dX12_chance_55 (by decide) ?_
      refine lv_istore (lv' := [(4, .int 0), (0, .ref a12), (1, .int p1), (2, .int p2), (3, .int p3)]) hx hb dX12_chance_56 hl (by decide) rfl (fun ls hl => ?_)
      refine lv_iconst (v := 0) hx hb dX12_chance_58 (by decide) ?_
      refine lv_istore (lv' := [(5, .int 0), (4, .int 0), (0, .ref a12), (1, .int p1), (2, .int p2), (3, .int p3)]) hx hb dX12_chance_59 hl (by decide) rfl (fun ls hl => ?_)
      have lp61 : ∀ (n61 : Nat) (k21 : Int32) (k22 : Int32) (g23 : Nat → Int32) (g24 : Nat → Int32), (0 ≤ k22.toInt ∧ k22.toInt ≤ k21.toInt) → (k21.toInt ≤ v12_dots.toInt) → (0 ≤ k21.toInt) → (v12_dots.toInt - k21.toInt).toNat < n61 → ∀ (H : Heap) (locs : List Loc), va_P D vwCl [O12 a12 r12 v12_keptMany v12_done v12_sheets v12_holes v12_worms v12_laidMany v12_wanted v12_orderMany v12_firstOrder v12_lines v12_marks v12_dots v12_madeIn v12_bound v12_places v12_maps v12_tapeMany v12_stories v12_base v12_at v12_ends v12_fault v12_opened v12_bodies v12_ran v12_ownKind v12_ownNumber, (cI κ (r12 0) 55 f12_may), (cI κ (r12 28) 41 f12_houseOf), (cI κ (r12 29) 41 f12_inkOf), (cI κ (r12 30) 40 g23), (cZ κ (r12 31) 40 g24)] H → va_D A [O12 a12 r12 v12_keptMany v12_done v12_sheets v12_holes v12_worms v12_laidMany v12_wanted v12_orderMany v12_firstOrder v12_lines v12_marks v12_dots v12_madeIn v12_bound v12_places v12_maps v12_tapeMany v12_stories v12_base v12_at v12_ends v12_fault v12_opened v12_bodies v12_ran v12_ownKind v12_ownNumber, (cI κ (r12 0) 55 f12_may), (cI κ (r12 28) 41 f12_houseOf), (cI κ (r12 29) 41 f12_inkOf), (cI κ (r12 30) 40 g23), (cZ κ (r12 31) 40 g24)] → va_S A s.heap H locs → ∀ ls : Array Slot, lv_has ls 12 [(5, .int k21), (4, .int k22), (0, .ref a12), (1, .int p1), (2, .int p2), (3, .int p3)] → W p l e ({ frames := 2, cells := 0, slots := 0, locals := 52 } : Room) s m args below meth c H locs 0 0 Q (F0 m 61 ls []) := by
        intro n61
        induction n61 with
        | zero =>
          intro k21 k22 g23 g24 h25 h26 h27 m28
          exact absurd m28 (Nat.not_lt_zero _)
        | succ n61 ih61 =>
          intro k21 k22 g23 g24 h25 h26 h27 m28 H locs hP hD hS ls hl
          refine lv_iload hx hb dX12_chance_61 (lv_at hl 0 rfl) ?_
          refine lv_aload_n hx hb dX12_chance_63 rfl (lv_at hl 2 rfl) ?_
          refine va_get (D := D) (ci := 12) (v := .int v12_dots) (C := RX12) (T := TX12) (N := 63) hx hb hts w3 hown hK.1 hP 0 rfl rfl 27 (by decide) w2 (fun _ h9 => h9) rfl dX12_chance_64 ?_
          refine lv_icmp_ge (tgt := 139) hx hb dX12_chance_67 (by decide) (fun c29 => ?_) (fun c29 => ?_)
          · have c29 := ci_le c29
            refine lv_aload_n hx hb dX12_chance_139 rfl (lv_at hl 2 rfl) ?_
            refine lv_iload hx hb dX12_chance_140 (lv_at hl 1 rfl) ?_
            refine kcm_i hA hAB hP hD hS [true, false, false, false, true, true] rfl (fun _ => rfl) (fun hPc hDc => va_runV (As := [.int k22]) (rest := []) ⟨hx, hb, hml, hown, hts⟩ (k_X12_sumOwn l D κ β a12 r12 v12_keptMany v12_done v12_sheets v12_holes v12_worms v12_laidMany v12_wanted v12_orderMany v12_firstOrder v12_lines v12_marks v12_dots v12_madeIn v12_bound v12_places v12_maps v12_tapeMany v12_stories v12_base v12_at v12_ends v12_fault v12_opened v12_bodies v12_ran v12_ownKind v12_ownNumber g23 g24 H.size k22 i1 i2 i3 i4 i5 i6 i7 i8 i9 i10 i11 i12 i13 i14 i15 i16 i17 (by omega)) (cwV 1 hts gX12_chance_X12_sumOwn rfl rfl rfl (by decide +kernel) ⟨Nat.le_of_ble_eq_true rfl, Nat.le_of_ble_eq_true rfl⟩) (pk_V hK hS hAB hPc hDc 0 (ci := 12) rfl rfl rfl) rfl rfl hl.1 rfl (lv_room (Nat.le_of_ble_eq_true rfl)) dX12_chance_142 ⟨Nat.le_of_ble_eq_true rfl, Nat.le_of_ble_eq_true rfl⟩) (fun x30 u31 H locs hw hPD hS => ?_)
            obtain ⟨hP, hD⟩ : PD D A [O12 a12 r12 v12_keptMany v12_done v12_sheets v12_holes v12_worms v12_laidMany v12_wanted v12_orderMany v12_firstOrder v12_lines v12_marks v12_dots v12_madeIn v12_bound v12_places v12_maps v12_tapeMany v12_stories v12_base v12_at v12_ends v12_fault v12_opened v12_bodies v12_ran v12_ownKind v12_ownNumber, (cI κ (r12 0) 55 f12_may), (cI κ (r12 28) 41 f12_houseOf), (cI κ (r12 29) 41 f12_inkOf), (cI κ (r12 30) 40 g23), (cZ κ (r12 31) 40 g24)] H := hPD
            refine lv_istore (lv' := [(5, .int x30), (4, .int k22), (0, .ref a12), (1, .int p1), (2, .int p2), (3, .int p3)]) hx hb dX12_chance_145 hl (by decide) rfl (fun ls hl => ?_)
            refine lv_iload_n hx hb dX12_chance_147 rfl (lv_at hl 4 rfl) ?_
            refine lv_istore (lv' := [(6, .int p2), (5, .int x30), (4, .int k22), (0, .ref a12), (1, .int p1), (2, .int p2), (3, .int p3)]) hx hb dX12_chance_148 hl (by decide) rfl (fun ls hl => ?_)
            refine lv_iconst (v := 0) hx hb dX12_chance_150 (by decide) ?_
            refine lv_istore (lv' := [(7, .int 0), (6, .int p2), (5, .int x30), (4, .int k22), (0, .ref a12), (1, .int p1), (2, .int p2), (3, .int p3)]) hx hb dX12_chance_151 hl (by decide) rfl (fun ls hl => ?_)
            refine lv_iconst (v := 0) hx hb dX12_chance_153 (by decide) ?_
            refine lv_istore (lv' := [(8, .int 0), (7, .int 0), (6, .int p2), (5, .int x30), (4, .int k22), (0, .ref a12), (1, .int p1), (2, .int p2), (3, .int p3)]) hx hb dX12_chance_154 hl (by decide) rfl (fun ls hl => ?_)
            have lp156 : ∀ (n156 : Nat) (k32 : Int32) (k33 : Int32) (k34 : Int32) (g35 : Nat → Int32), (0 ≤ k32.toInt) → (p3.toInt - k32.toInt).toNat < n156 → ∀ (H : Heap) (locs : List Loc), va_P D vwCl [O12 a12 r12 v12_keptMany v12_done v12_sheets v12_holes v12_worms v12_laidMany v12_wanted v12_orderMany v12_firstOrder v12_lines v12_marks v12_dots v12_madeIn v12_bound v12_places v12_maps v12_tapeMany v12_stories v12_base v12_at v12_ends v12_fault v12_opened v12_bodies v12_ran v12_ownKind v12_ownNumber, (cI κ (r12 0) 55 f12_may), (cI κ (r12 28) 41 f12_houseOf), (cI κ (r12 29) 41 f12_inkOf), (cI κ (r12 30) 40 g35), (cZ κ (r12 31) 40 g24)] H → va_D A [O12 a12 r12 v12_keptMany v12_done v12_sheets v12_holes v12_worms v12_laidMany v12_wanted v12_orderMany v12_firstOrder v12_lines v12_marks v12_dots v12_madeIn v12_bound v12_places v12_maps v12_tapeMany v12_stories v12_base v12_at v12_ends v12_fault v12_opened v12_bodies v12_ran v12_ownKind v12_ownNumber, (cI κ (r12 0) 55 f12_may), (cI κ (r12 28) 41 f12_houseOf), (cI κ (r12 29) 41 f12_inkOf), (cI κ (r12 30) 40 g35), (cZ κ (r12 31) 40 g24)] → va_S A s.heap H locs → ∀ ls : Array Slot, lv_has ls 12 [(8, .int k32), (7, .int k33), (6, .int k34), (5, .int x30), (4, .int k22), (0, .ref a12), (1, .int p1), (2, .int p2), (3, .int p3)] → W p l e ({ frames := 2, cells := 0, slots := 0, locals := 52 } : Room) s m args below meth c H locs 0 0 Q (F0 m 156 ls []) := by
              intro n156
              induction n156 with
              | zero =>
                intro k32 k33 k34 g35 h36 m37
                exact absurd m37 (Nat.not_lt_zero _)
              | succ n156 ih156 =>
                intro k32 k33 k34 g35 h36 m37 H locs hP hD hS ls hl
                refine lv_iload hx hb dX12_chance_156 (lv_at hl 0 rfl) ?_
                refine lv_iload_n hx hb dX12_chance_158 rfl (lv_at hl 8 rfl) ?_
                refine lv_icmp_ge (tgt := 261) hx hb dX12_chance_159 (by decide) (fun c38 => ?_) (fun c38 => ?_)
                · have c38 := ci_le c38
                  refine lv_iload hx hb dX12_chance_261 (lv_at hl 1 rfl) ?_
                  exact ret _ _ _ _ k33 (g35, g24) dX12_chance_263 trivial hP hD hS
                have c38 := ci_nle c38
                refine lv_iload hx hb dX12_chance_162 (lv_at hl 4 rfl) ?_
                refine lv_iconst (v := 1) hx hb dX12_chance_164 (by decide) ?_
                refine lv_isub hx hb dX12_chance_165 ?_
                refine lv_topi (fun x39 e40 => ?_)
                try have h41 : x39.toInt = k22.toInt - (1 : Int32).toInt := ci_sub e40 (by omega) (by omega)
                refine lv_istore (lv' := [(9, .int x39), (8, .int k32), (7, .int k33), (6, .int k34), (5, .int x30), (4, .int k22), (0, .ref a12), (1, .int p1), (2, .int p2), (3, .int p3)]) hx hb dX12_chance_166 hl (by decide) rfl (fun ls hl => ?_)
                have lp168 : ∀ (n168 : Nat) (k42 : Int32) (k43 : Int32) (g44 : Nat → Int32), (k42.toInt ≤ 39) → (k42.toInt).toNat < n168 → ∀ (H : Heap) (locs : List Loc), va_P D vwCl [O12 a12 r12 v12_keptMany v12_done v12_sheets v12_holes v12_worms v12_laidMany v12_wanted v12_orderMany v12_firstOrder v12_lines v12_marks v12_dots v12_madeIn v12_bound v12_places v12_maps v12_tapeMany v12_stories v12_base v12_at v12_ends v12_fault v12_opened v12_bodies v12_ran v12_ownKind v12_ownNumber, (cI κ (r12 0) 55 f12_may), (cI κ (r12 28) 41 f12_houseOf), (cI κ (r12 29) 41 f12_inkOf), (cI κ (r12 30) 40 g44), (cZ κ (r12 31) 40 g24)] H → va_D A [O12 a12 r12 v12_keptMany v12_done v12_sheets v12_holes v12_worms v12_laidMany v12_wanted v12_orderMany v12_firstOrder v12_lines v12_marks v12_dots v12_madeIn v12_bound v12_places v12_maps v12_tapeMany v12_stories v12_base v12_at v12_ends v12_fault v12_opened v12_bodies v12_ran v12_ownKind v12_ownNumber, (cI κ (r12 0) 55 f12_may), (cI κ (r12 28) 41 f12_houseOf), (cI κ (r12 29) 41 f12_inkOf), (cI κ (r12 30) 40 g44), (cZ κ (r12 31) 40 g24)] → va_S A s.heap H locs → ∀ ls : Array Slot, lv_has ls 12 [(9, .int k42), (8, .int k32), (7, .int k33), (6, .int k43), (5, .int x30), (4, .int k22), (0, .ref a12), (1, .int p1), (2, .int p2), (3, .int p3)] → W p l e ({ frames := 2, cells := 0, slots := 0, locals := 52 } : Room) s m args below meth c H locs 0 0 Q (F0 m 168 ls []) := by
                  intro n168
                  induction n168 with
                  | zero =>
                    intro k42 k43 g44 h45 m46
                    exact absurd m46 (Nat.not_lt_zero _)
                  | succ n168 ih168 =>
                    intro k42 k43 g44 h45 m46 H locs hP hD hS ls hl
                    refine lv_iload hx hb dX12_chance_168 (lv_at hl 0 rfl) ?_
                    refine lv_if_le (tgt := 234) hx hb dX12_chance_170 (by decide) (fun c47 => ?_) (fun c47 => ?_)
                    · have c47 := ci_le c47
                      refine lv_iload hx hb dX12_chance_234 (lv_at hl 2 rfl) ?_
                      refine lv_aload_n hx hb dX12_chance_236 rfl (lv_at hl 6 rfl) ?_
                      refine lv_iload hx hb dX12_chance_237 (lv_at hl 5 rfl) ?_
                      refine kcm_i hA hAB hP hD hS [true, false, false, false, true, true] rfl (fun _ => rfl) (fun hPc hDc => va_runV (As := [.int k22]) (rest := [.int k33]) ⟨hx, hb, hml, hown, hts⟩ (k_X12_sumOwn l D κ β a12 r12 v12_keptMany v12_done v12_sheets v12_holes v12_worms v12_laidMany v12_wanted v12_orderMany v12_firstOrder v12_lines v12_marks v12_dots v12_madeIn v12_bound v12_places v12_maps v12_tapeMany v12_stories v12_base v12_at v12_ends v12_fault v12_opened v12_bodies v12_ran v12_ownKind v12_ownNumber g44 g24 H.size k22 i1 i2 i3 i4 i5 i6 i7 i8 i9 i10 i11 i12 i13 i14 i15 i16 i17 (by omega)) (cwV 1 hts gX12_chance_X12_sumOwn rfl rfl rfl (by decide +kernel) ⟨Nat.le_of_ble_eq_true rfl, Nat.le_of_ble_eq_true rfl⟩) (pk_V hK hS hAB hPc hDc 0 (ci := 12) rfl rfl rfl) rfl rfl hl.1 rfl (lv_room (Nat.le_of_ble_eq_true rfl)) dX12_chance_239 ⟨Nat.le_of_ble_eq_true rfl, Nat.le_of_ble_eq_true rfl⟩) (fun x48 u49 H locs hw hPD hS => ?_)
                      obtain ⟨hP, hD⟩ : PD D A [O12 a12 r12 v12_keptMany v12_done v12_sheets v12_holes v12_worms v12_laidMany v12_wanted v12_orderMany v12_firstOrder v12_lines v12_marks v12_dots v12_madeIn v12_bound v12_places v12_maps v12_tapeMany v12_stories v12_base v12_at v12_ends v12_fault v12_opened v12_bodies v12_ran v12_ownKind v12_ownNumber, (cI κ (r12 0) 55 f12_may), (cI κ (r12 28) 41 f12_houseOf), (cI κ (r12 29) 41 f12_inkOf), (cI κ (r12 30) 40 g44), (cZ κ (r12 31) 40 g24)] H := hPD
                      refine lv_iload hx hb dX12_chance_242 (lv_at hl 4 rfl) ?_
                      refine lv_icmp_lt (tgt := 251) hx hb dX12_chance_244 (by decide) (fun c50 => ?_) (fun c50 => ?_)
                      · have c50 := ci_lt c50
                        refine lv_iconst (v := 0) hx hb dX12_chance_251 (by decide) ?_
                        refine lv_iadd hx hb dX12_chance_252 ?_
                        refine lv_topi (fun x51 e52 => ?_)
                        try have h53 : x51.toInt = k33.toInt + (0 : Int32).toInt := ci_add e52 (by omega) (by omega)
                        refine lv_istore (lv' := [(7, .int x51), (9, .int k42), (8, .int k32), (6, .int k43), (5, .int x30), (4, .int k22), (0, .ref a12), (1, .int p1), (2, .int p2), (3, .int p3)]) hx hb dX12_chance_253 hl (by decide) rfl (fun ls hl => ?_)
                        obtain ⟨x54, e55⟩ : ∃ y : Int32, y = k32 + 1 := ⟨_, rfl⟩
                        refine lv_iinc (v := x54) (lv' := [(8, .int x54), (7, .int x51), (9, .int k42), (6, .int k43), (5, .int x30), (4, .int k22), (0, .ref a12), (1, .int p1), (2, .int p2), (3, .int p3)]) hx hb dX12_chance_255 hl (k := 2) rfl (by rw [e55]; rfl) (by decide) rfl (fun ls hl => ?_)
                        try have h56 : x54.toInt = k32.toInt + (1 : Int32).toInt := ci_add e55 (by omega) (by omega)
                        refine lv_goto (tgt := 156) hx hb dX12_chance_258 (by decide) ?_
                        exact ih156 x54 x51 k43 g44 (by omega) (by omega) _ _ hP hD hS _ (lv_sub hl [0, 1, 3, 4, 5, 6, 7, 8, 9] rfl)
                      have c50 := ci_nlt c50
                      refine lv_iconst (v := 1) hx hb dX12_chance_247 (by decide) ?_
                      refine lv_goto (tgt := 252) hx hb dX12_chance_248 (by decide) ?_
                      refine lv_iadd hx hb dX12_chance_252 ?_
                      refine lv_topi (fun x57 e58 => ?_)
                      try have h59 : x57.toInt = k33.toInt + (1 : Int32).toInt := ci_add e58 (by omega) (by omega)
                      refine lv_istore (lv' := [(7, .int x57), (9, .int k42), (8, .int k32), (6, .int k43), (5, .int x30), (4, .int k22), (0, .ref a12), (1, .int p1), (2, .int p2), (3, .int p3)]) hx hb dX12_chance_253 hl (by decide) rfl (fun ls hl => ?_)
                      obtain ⟨x60, e61⟩ : ∃ y : Int32, y = k32 + 1 := ⟨_, rfl⟩
                      refine lv_iinc (v := x60) (lv' := [(8, .int x60), (7, .int x57), (9, .int k42), (6, .int k43), (5, .int x30), (4, .int k22), (0, .ref a12), (1, .int p1), (2, .int p2), (3, .int p3)]) hx hb dX12_chance_255 hl (k := 2) rfl (by rw [e61]; rfl) (by decide) rfl (fun ls hl => ?_)
                      try have h62 : x60.toInt = k32.toInt + (1 : Int32).toInt := ci_add e61 (by omega) (by omega)
                      refine lv_goto (tgt := 156) hx hb dX12_chance_258 (by decide) ?_
                      exact ih156 x60 x57 k43 g44 (by omega) (by omega) _ _ hP hD hS _ (lv_sub hl [0, 1, 3, 4, 5, 6, 7, 8, 9] rfl)
                    have c47 := ci_nle c47
                    refine lv_iload hx hb dX12_chance_173 (lv_at hl 3 rfl) ?_
                    refine lv_ldc (v := 1103515245) hx hb hown w4 dX12_chance_175 ?_
                    refine lv_imul hx hb dX12_chance_177 ?_
                    refine lv_topi (fun x63 e64 => ?_)
                    try have h65 : x63.toInt = 1103515245 * k43.toInt := ci_mulR (n := 1103515245) (by decide) e64 (by omega) (by omega)
                    refine lv_sipush (v := 12345) hx hb dX12_chance_178 (by decide) ?_
                    refine lv_iadd hx hb dX12_chance_181 ?_
                    refine lv_topi (fun x66 e67 => ?_)
                    try have h68 : x66.toInt = x63.toInt + (12345 : Int32).toInt := ci_add e67 (by omega) (by omega)
                    refine lv_istore (lv' := [(6, .int x66), (9, .int k42), (8, .int k32), (7, .int k33), (5, .int x30), (4, .int k22), (0, .ref a12), (1, .int p1), (2, .int p2), (3, .int p3)]) hx hb dX12_chance_182 hl (by decide) rfl (fun ls hl => ?_)
                    refine lv_iload hx hb dX12_chance_184 (lv_at hl 0 rfl) ?_
                    refine lv_bipush (v := 8) hx hb dX12_chance_186 (by decide) ?_
                    refine lv_iushr hx hb dX12_chance_188 rfl ?_
                    refine lv_topi (fun x69 e70 => ?_)
                    have h71 := ci_ushr8 e70
                    refine lv_iload hx hb dX12_chance_189 (lv_at hl 1 rfl) ?_
                    refine lv_iconst (v := 1) hx hb dX12_chance_191 (by decide) ?_
                    refine lv_iadd hx hb dX12_chance_192 ?_
                    refine lv_topi (fun x72 e73 => ?_)
                    try have h74 : x72.toInt = k42.toInt + (1 : Int32).toInt := ci_add e73 (by omega) (by omega)
                    refine lv_irem hx hb dX12_chance_193 (fun q75 => by have q75 := ci_eq q75; omega) ?_
                    refine lv_topi (fun x76 e77 => ?_)
                    try have h78 := ci_remV (by omega) (by omega) e77
                    refine lv_istore (lv' := [(10, .int x76), (6, .int x66), (9, .int k42), (8, .int k32), (7, .int k33), (5, .int x30), (4, .int k22), (0, .ref a12), (1, .int p1), (2, .int p2), (3, .int p3)]) hx hb dX12_chance_194 hl (by decide) rfl (fun ls hl => ?_)
                    refine lv_aload_n hx hb dX12_chance_196 rfl (lv_at hl 7 rfl) ?_
                    refine va_get (D := D) (ci := 12) (v := .ref (r12 30)) (C := RX12) (T := TX12) (N := 63) hx hb hts w3 hown hK.1 hP 0 rfl rfl 30 (by decide) w5 (fun _ h9 => h9) rfl dX12_chance_197 ?_
                    refine lv_iload hx hb dX12_chance_200 (lv_at hl 2 rfl) ?_
                    refine va_iald hx hb hK.1 hP 4 1 rfl rfl (i := k42) (ix (by omega) (by omega)) dX12_chance_202 ?_
                    refine lv_topi (fun x79 e80 => ?_)
                    refine lv_istore (lv' := [(11, .int x79), (10, .int x76), (6, .int x66), (9, .int k42), (8, .int k32), (7, .int k33), (5, .int x30), (4, .int k22), (0, .ref a12), (1, .int p1), (2, .int p2), (3, .int p3)]) hx hb dX12_chance_203 hl (by decide) rfl (fun ls hl => ?_)
                    refine lv_aload_n hx hb dX12_chance_205 rfl (lv_at hl 8 rfl) ?_
                    refine va_get (D := D) (ci := 12) (v := .ref (r12 30)) (C := RX12) (T := TX12) (N := 63) hx hb hts w3 hown hK.1 hP 0 rfl rfl 30 (by decide) w5 (fun _ h9 => h9) rfl dX12_chance_206 ?_
                    refine lv_iload hx hb dX12_chance_209 (lv_at hl 3 rfl) ?_
                    refine lv_aload_n hx hb dX12_chance_211 rfl (lv_at hl 8 rfl) ?_
                    refine va_get (D := D) (ci := 12) (v := .ref (r12 30)) (C := RX12) (T := TX12) (N := 63) hx hb hts w3 hown hK.1 hP 0 rfl rfl 30 (by decide) w5 (fun _ h9 => h9) rfl dX12_chance_212 ?_
                    refine lv_iload hx hb dX12_chance_215 (lv_at hl 1 rfl) ?_
                    refine va_iald hx hb hK.1 hP 4 1 rfl rfl (i := x76) (ix (by omega) (by omega)) dX12_chance_217 ?_
                    refine lv_topi (fun x81 e82 => ?_)
                    refine va_iast hx hb hK.1 hP hD hS 4 1 rfl rfl (i := k42) (ix (by omega) (by omega)) dX12_chance_218 (fun H locs hP hD hS => ?_)
                    obtain ⟨g83, e84⟩ : ∃ y : Nat → Int32, y = upd g44 k42.toNatClampNeg x81 := ⟨_, rfl⟩
                    rw [← e84] at hP hD
                    obtain ⟨hP, hD⟩ : PD D A [O12 a12 r12 v12_keptMany v12_done v12_sheets v12_holes v12_worms v12_laidMany v12_wanted v12_orderMany v12_firstOrder v12_lines v12_marks v12_dots v12_madeIn v12_bound v12_places v12_maps v12_tapeMany v12_stories v12_base v12_at v12_ends v12_fault v12_opened v12_bodies v12_ran v12_ownKind v12_ownNumber, (cI κ (r12 0) 55 f12_may), (cI κ (r12 28) 41 f12_houseOf), (cI κ (r12 29) 41 f12_inkOf), (cI κ (r12 30) 40 g83), (cZ κ (r12 31) 40 g24)] H := ⟨hP, hD⟩
                    refine lv_aload_n hx hb dX12_chance_219 rfl (lv_at hl 8 rfl) ?_
                    refine va_get (D := D) (ci := 12) (v := .ref (r12 30)) (C := RX12) (T := TX12) (N := 63) hx hb hts w3 hown hK.1 hP 0 rfl rfl 30 (by decide) w5 (fun _ h9 => h9) rfl dX12_chance_220 ?_
                    refine lv_iload hx hb dX12_chance_223 (lv_at hl 1 rfl) ?_
                    refine lv_iload hx hb dX12_chance_225 (lv_at hl 0 rfl) ?_
                    refine va_iast hx hb hK.1 hP hD hS 4 1 rfl rfl (i := x76) (ix (by omega) (by omega)) dX12_chance_227 (fun H locs hP hD hS => ?_)
                    obtain ⟨g85, e86⟩ : ∃ y : Nat → Int32, y = upd g83 x76.toNatClampNeg x79 := ⟨_, rfl⟩
                    rw [← e86] at hP hD
                    obtain ⟨hP, hD⟩ : PD D A [O12 a12 r12 v12_keptMany v12_done v12_sheets v12_holes v12_worms v12_laidMany v12_wanted v12_orderMany v12_firstOrder v12_lines v12_marks v12_dots v12_madeIn v12_bound v12_places v12_maps v12_tapeMany v12_stories v12_base v12_at v12_ends v12_fault v12_opened v12_bodies v12_ran v12_ownKind v12_ownNumber, (cI κ (r12 0) 55 f12_may), (cI κ (r12 28) 41 f12_houseOf), (cI κ (r12 29) 41 f12_inkOf), (cI κ (r12 30) 40 g85), (cZ κ (r12 31) 40 g24)] H := ⟨hP, hD⟩
                    obtain ⟨x87, e88⟩ : ∃ y : Int32, y = k42 + (-1) := ⟨_, rfl⟩
                    refine lv_iinc (v := x87) (lv' := [(9, .int x87), (11, .int x79), (10, .int x76), (6, .int x66), (8, .int k32), (7, .int k33), (5, .int x30), (4, .int k22), (0, .ref a12), (1, .int p1), (2, .int p2), (3, .int p3)]) hx hb dX12_chance_228 hl (k := 3) rfl (by rw [e88]; rfl) (by decide) rfl (fun ls hl => ?_)
                    try have h89 : x87.toInt = k42.toInt + ((-1) : Int32).toInt := ci_add e88 (by omega) (by omega)
                    refine lv_goto (tgt := 168) hx hb dX12_chance_231 (by decide) ?_
                    exact ih168 x87 x66 g85 (by omega) (by omega) _ _ hP hD hS _ (lv_sub hl [0, 4, 5, 3, 6, 7, 8, 9, 10, 11] rfl)
                exact lp168 ((x39.toInt).toNat + 1) x39 k34 g35 (by omega) (by omega) _ _ hP hD hS _ hl
            exact lp156 ((p3.toInt - (0 : Int32).toInt).toNat + 1) 0 0 p2 g23 (by omega) (by omega) _ _ hP hD hS _ hl
          have c29 := ci_nle c29
          refine lv_aload_n hx hb dX12_chance_70 rfl (lv_at hl 2 rfl) ?_
          refine va_get (D := D) (ci := 12) (v := .ref (r12 29)) (C := RX12) (T := TX12) (N := 63) hx hb hts w3 hown hK.1 hP 0 rfl rfl 29 (by decide) w6 (fun _ h9 => h9) rfl dX12_chance_71 ?_
          refine lv_iload hx hb dX12_chance_74 (lv_at hl 0 rfl) ?_
          refine va_iald hx hb hK.1 hP 3 1 rfl rfl (i := k21) (ix (by omega) (by omega)) dX12_chance_76 ?_
          refine lv_topi (fun x90 e91 => ?_)
          refine lv_iload_n hx hb dX12_chance_77 rfl (lv_at hl 3 rfl) ?_
          refine lv_icmp_eq (tgt := 93) hx hb dX12_chance_78 (by decide) (fun c92 => ?_) (fun c92 => ?_)
          · have c92 := ci_eq c92
            refine lv_aload_n hx hb dX12_chance_93 rfl (lv_at hl 2 rfl) ?_
            refine va_get (D := D) (ci := 12) (v := .ref (r12 30)) (C := RX12) (T := TX12) (N := 63) hx hb hts w3 hown hK.1 hP 0 rfl rfl 30 (by decide) w5 (fun _ h9 => h9) rfl dX12_chance_94 ?_
            refine lv_iload hx hb dX12_chance_97 (lv_at hl 1 rfl) ?_
            refine lv_aload_n hx hb dX12_chance_99 rfl (lv_at hl 2 rfl) ?_
            refine va_get (D := D) (ci := 12) (v := .ref (r12 0)) (C := RX12) (T := TX12) (N := 63) hx hb hts w3 hown hK.1 hP 0 rfl rfl 0 (by decide) w7 (fun _ h9 => h9) rfl dX12_chance_100 ?_
            refine lv_iload hx hb dX12_chance_103 (lv_at hl 0 rfl) ?_
            refine va_iald hx hb hK.1 hP 1 1 rfl rfl (i := k21) (ix (by omega) (by omega)) dX12_chance_105 ?_
            refine lv_topi (fun x93 e94 => ?_)
            refine va_iast hx hb hK.1 hP hD hS 4 1 rfl rfl (i := k22) (ix (by omega) (by omega)) dX12_chance_106 (fun H locs hP hD hS => ?_)
            obtain ⟨g95, e96⟩ : ∃ y : Nat → Int32, y = upd g23 k22.toNatClampNeg x93 := ⟨_, rfl⟩
            rw [← e96] at hP hD
            obtain ⟨hP, hD⟩ : PD D A [O12 a12 r12 v12_keptMany v12_done v12_sheets v12_holes v12_worms v12_laidMany v12_wanted v12_orderMany v12_firstOrder v12_lines v12_marks v12_dots v12_madeIn v12_bound v12_places v12_maps v12_tapeMany v12_stories v12_base v12_at v12_ends v12_fault v12_opened v12_bodies v12_ran v12_ownKind v12_ownNumber, (cI κ (r12 0) 55 f12_may), (cI κ (r12 28) 41 f12_houseOf), (cI κ (r12 29) 41 f12_inkOf), (cI κ (r12 30) 40 g95), (cZ κ (r12 31) 40 g24)] H := ⟨hP, hD⟩
            refine lv_aload_n hx hb dX12_chance_107 rfl (lv_at hl 2 rfl) ?_
            refine va_get (D := D) (ci := 12) (v := .ref (r12 31)) (C := RX12) (T := TX12) (N := 63) hx hb hts w3 hown hK.1 hP 0 rfl rfl 31 (by decide) w8 (fun _ h9 => h9) rfl dX12_chance_108 ?_
            refine lv_iload hx hb dX12_chance_111 (lv_at hl 1 rfl) ?_
            refine lv_aload_n hx hb dX12_chance_113 rfl (lv_at hl 2 rfl) ?_
            refine va_get (D := D) (ci := 12) (v := .ref (r12 29)) (C := RX12) (T := TX12) (N := 63) hx hb hts w3 hown hK.1 hP 0 rfl rfl 29 (by decide) w6 (fun _ h9 => h9) rfl dX12_chance_114 ?_
            refine lv_iload hx hb dX12_chance_117 (lv_at hl 0 rfl) ?_
            refine va_iald hx hb hK.1 hP 3 1 rfl rfl (i := k21) (ix (by omega) (by omega)) dX12_chance_119 ?_
            refine lv_topi (fun x97 e98 => ?_)
            refine lv_iload_n hx hb dX12_chance_120 rfl (lv_at hl 3 rfl) ?_
            refine lv_icmp_ne (tgt := 128) hx hb dX12_chance_121 (by decide) (fun c99 => ?_) (fun c99 => ?_)
            · have c99 := ci_ne c99
              refine lv_iconst (v := 0) hx hb dX12_chance_128 (by decide) ?_
              refine va_zast hx hb hK.1 hP hD hS 5 3 rfl rfl (i := k22) (ix (by omega) (by omega)) dX12_chance_129 (fun H locs hP hD hS => ?_)
              obtain ⟨g100, e101⟩ : ∃ y : Nat → Int32, y = upd g24 k22.toNatClampNeg (vp_nar .boolean 0) := ⟨_, rfl⟩
              rw [← e101] at hP hD
              obtain ⟨hP, hD⟩ : PD D A [O12 a12 r12 v12_keptMany v12_done v12_sheets v12_holes v12_worms v12_laidMany v12_wanted v12_orderMany v12_firstOrder v12_lines v12_marks v12_dots v12_madeIn v12_bound v12_places v12_maps v12_tapeMany v12_stories v12_base v12_at v12_ends v12_fault v12_opened v12_bodies v12_ran v12_ownKind v12_ownNumber, (cI κ (r12 0) 55 f12_may), (cI κ (r12 28) 41 f12_houseOf), (cI κ (r12 29) 41 f12_inkOf), (cI κ (r12 30) 40 g95), (cZ κ (r12 31) 40 g100)] H := ⟨hP, hD⟩
              obtain ⟨x102, e103⟩ : ∃ y : Int32, y = k22 + 1 := ⟨_, rfl⟩
              refine lv_iinc (v := x102) (lv' := [(4, .int x102), (5, .int k21), (0, .ref a12), (1, .int p1), (2, .int p2), (3, .int p3)]) hx hb dX12_chance_130 hl (k := 1) rfl (by rw [e103]; rfl) (by decide) rfl (fun ls hl => ?_)
              try have h104 : x102.toInt = k22.toInt + (1 : Int32).toInt := ci_add e103 (by omega) (by omega)
              obtain ⟨x105, e106⟩ : ∃ y : Int32, y = k21 + 1 := ⟨_, rfl⟩
              refine lv_iinc (v := x105) (lv' := [(5, .int x105), (4, .int x102), (0, .ref a12), (1, .int p1), (2, .int p2), (3, .int p3)]) hx hb dX12_chance_133 hl (k := 1) rfl (by rw [e106]; rfl) (by decide) rfl (fun ls hl => ?_)
              try have h107 : x105.toInt = k21.toInt + (1 : Int32).toInt := ci_add e106 (by omega) (by omega)
              refine lv_goto (tgt := 61) hx hb dX12_chance_136 (by decide) ?_
              exact ih61 x105 x102 g95 g100 (by omega) (by omega) (by omega) (by omega) _ _ hP hD hS _ hl
            have c99 := ci_eq c99
            refine lv_iconst (v := 1) hx hb dX12_chance_124 (by decide) ?_
            refine lv_goto (tgt := 129) hx hb dX12_chance_125 (by decide) ?_
            refine va_zast hx hb hK.1 hP hD hS 5 3 rfl rfl (i := k22) (ix (by omega) (by omega)) dX12_chance_129 (fun H locs hP hD hS => ?_)
            obtain ⟨g108, e109⟩ : ∃ y : Nat → Int32, y = upd g24 k22.toNatClampNeg (vp_nar .boolean 1) := ⟨_, rfl⟩
            rw [← e109] at hP hD
            obtain ⟨hP, hD⟩ : PD D A [O12 a12 r12 v12_keptMany v12_done v12_sheets v12_holes v12_worms v12_laidMany v12_wanted v12_orderMany v12_firstOrder v12_lines v12_marks v12_dots v12_madeIn v12_bound v12_places v12_maps v12_tapeMany v12_stories v12_base v12_at v12_ends v12_fault v12_opened v12_bodies v12_ran v12_ownKind v12_ownNumber, (cI κ (r12 0) 55 f12_may), (cI κ (r12 28) 41 f12_houseOf), (cI κ (r12 29) 41 f12_inkOf), (cI κ (r12 30) 40 g95), (cZ κ (r12 31) 40 g108)] H := ⟨hP, hD⟩
            obtain ⟨x110, e111⟩ : ∃ y : Int32, y = k22 + 1 := ⟨_, rfl⟩
            refine lv_iinc (v := x110) (lv' := [(4, .int x110), (5, .int k21), (0, .ref a12), (1, .int p1), (2, .int p2), (3, .int p3)]) hx hb dX12_chance_130 hl (k := 1) rfl (by rw [e111]; rfl) (by decide) rfl (fun ls hl => ?_)
            try have h112 : x110.toInt = k22.toInt + (1 : Int32).toInt := ci_add e111 (by omega) (by omega)
            obtain ⟨x113, e114⟩ : ∃ y : Int32, y = k21 + 1 := ⟨_, rfl⟩
            refine lv_iinc (v := x113) (lv' := [(5, .int x113), (4, .int x110), (0, .ref a12), (1, .int p1), (2, .int p2), (3, .int p3)]) hx hb dX12_chance_133 hl (k := 1) rfl (by rw [e114]; rfl) (by decide) rfl (fun ls hl => ?_)
            try have h115 : x113.toInt = k21.toInt + (1 : Int32).toInt := ci_add e114 (by omega) (by omega)
            refine lv_goto (tgt := 61) hx hb dX12_chance_136 (by decide) ?_
            exact ih61 x113 x110 g95 g108 (by omega) (by omega) (by omega) (by omega) _ _ hP hD hS _ hl
          have c92 := ci_ne c92
          refine lv_aload_n hx hb dX12_chance_81 rfl (lv_at hl 2 rfl) ?_
          refine va_get (D := D) (ci := 12) (v := .ref (r12 29)) (C := RX12) (T := TX12) (N := 63) hx hb hts w3 hown hK.1 hP 0 rfl rfl 29 (by decide) w6 (fun _ h9 => h9) rfl dX12_chance_82 ?_
          refine lv_iload hx hb dX12_chance_85 (lv_at hl 0 rfl) ?_
          refine va_iald hx hb hK.1 hP 3 1 rfl rfl (i := k21) (ix (by omega) (by omega)) dX12_chance_87 ?_
          refine lv_topi (fun x116 e117 => ?_)
          refine lv_bipush (v := 7) hx hb dX12_chance_88 (by decide) ?_
          refine lv_icmp_ne (tgt := 133) hx hb dX12_chance_90 (by decide) (fun c118 => ?_) (fun c118 => ?_)
          · have c118 := ci_ne c118
            obtain ⟨x119, e120⟩ : ∃ y : Int32, y = k21 + 1 := ⟨_, rfl⟩
            refine lv_iinc (v := x119) (lv' := [(5, .int x119), (4, .int k22), (0, .ref a12), (1, .int p1), (2, .int p2), (3, .int p3)]) hx hb dX12_chance_133 hl (k := 0) rfl (by rw [e120]; rfl) (by decide) rfl (fun ls hl => ?_)
            try have h121 : x119.toInt = k21.toInt + (1 : Int32).toInt := ci_add e120 (by omega) (by omega)
            refine lv_goto (tgt := 61) hx hb dX12_chance_136 (by decide) ?_
            exact ih61 x119 k22 g23 g24 (by omega) (by omega) (by omega) (by omega) _ _ hP hD hS _ hl
          have c118 := ci_eq c118
          refine lv_aload_n hx hb dX12_chance_93 rfl (lv_at hl 2 rfl) ?_
          refine va_get (D := D) (ci := 12) (v := .ref (r12 30)) (C := RX12) (T := TX12) (N := 63) hx hb hts w3 hown hK.1 hP 0 rfl rfl 30 (by decide) w5 (fun _ h9 => h9) rfl dX12_chance_94 ?_
          refine lv_iload hx hb dX12_chance_97 (lv_at hl 1 rfl) ?_
          refine lv_aload_n hx hb dX12_chance_99 rfl (lv_at hl 2 rfl) ?_
          refine va_get (D := D) (ci := 12) (v := .ref (r12 0)) (C := RX12) (T := TX12) (N := 63) hx hb hts w3 hown hK.1 hP 0 rfl rfl 0 (by decide) w7 (fun _ h9 => h9) rfl dX12_chance_100 ?_
          refine lv_iload hx hb dX12_chance_103 (lv_at hl 0 rfl) ?_
          refine va_iald hx hb hK.1 hP 1 1 rfl rfl (i := k21) (ix (by omega) (by omega)) dX12_chance_105 ?_
          refine lv_topi (fun x122 e123 => ?_)
          refine va_iast hx hb hK.1 hP hD hS 4 1 rfl rfl (i := k22) (ix (by omega) (by omega)) dX12_chance_106 (fun H locs hP hD hS => ?_)
          obtain ⟨g124, e125⟩ : ∃ y : Nat → Int32, y = upd g23 k22.toNatClampNeg x122 := ⟨_, rfl⟩
          rw [← e125] at hP hD
          obtain ⟨hP, hD⟩ : PD D A [O12 a12 r12 v12_keptMany v12_done v12_sheets v12_holes v12_worms v12_laidMany v12_wanted v12_orderMany v12_firstOrder v12_lines v12_marks v12_dots v12_madeIn v12_bound v12_places v12_maps v12_tapeMany v12_stories v12_base v12_at v12_ends v12_fault v12_opened v12_bodies v12_ran v12_ownKind v12_ownNumber, (cI κ (r12 0) 55 f12_may), (cI κ (r12 28) 41 f12_houseOf), (cI κ (r12 29) 41 f12_inkOf), (cI κ (r12 30) 40 g124), (cZ κ (r12 31) 40 g24)] H := ⟨hP, hD⟩
          refine lv_aload_n hx hb dX12_chance_107 rfl (lv_at hl 2 rfl) ?_
          refine va_get (D := D) (ci := 12) (v := .ref (r12 31)) (C := RX12) (T := TX12) (N := 63) hx hb hts w3 hown hK.1 hP 0 rfl rfl 31 (by decide) w8 (fun _ h9 => h9) rfl dX12_chance_108 ?_
          refine lv_iload hx hb dX12_chance_111 (lv_at hl 1 rfl) ?_
          refine lv_aload_n hx hb dX12_chance_113 rfl (lv_at hl 2 rfl) ?_
          refine va_get (D := D) (ci := 12) (v := .ref (r12 29)) (C := RX12) (T := TX12) (N := 63) hx hb hts w3 hown hK.1 hP 0 rfl rfl 29 (by decide) w6 (fun _ h9 => h9) rfl dX12_chance_114 ?_
          refine lv_iload hx hb dX12_chance_117 (lv_at hl 0 rfl) ?_
          refine va_iald hx hb hK.1 hP 3 1 rfl rfl (i := k21) (ix (by omega) (by omega)) dX12_chance_119 ?_
          refine lv_topi (fun x126 e127 => ?_)
          refine lv_iload_n hx hb dX12_chance_120 rfl (lv_at hl 3 rfl) ?_
          refine lv_icmp_ne (tgt := 128) hx hb dX12_chance_121 (by decide) (fun c128 => ?_) (fun c128 => ?_)
          · have c128 := ci_ne c128
            refine lv_iconst (v := 0) hx hb dX12_chance_128 (by decide) ?_
            refine va_zast hx hb hK.1 hP hD hS 5 3 rfl rfl (i := k22) (ix (by omega) (by omega)) dX12_chance_129 (fun H locs hP hD hS => ?_)
            obtain ⟨g129, e130⟩ : ∃ y : Nat → Int32, y = upd g24 k22.toNatClampNeg (vp_nar .boolean 0) := ⟨_, rfl⟩
            rw [← e130] at hP hD
            obtain ⟨hP, hD⟩ : PD D A [O12 a12 r12 v12_keptMany v12_done v12_sheets v12_holes v12_worms v12_laidMany v12_wanted v12_orderMany v12_firstOrder v12_lines v12_marks v12_dots v12_madeIn v12_bound v12_places v12_maps v12_tapeMany v12_stories v12_base v12_at v12_ends v12_fault v12_opened v12_bodies v12_ran v12_ownKind v12_ownNumber, (cI κ (r12 0) 55 f12_may), (cI κ (r12 28) 41 f12_houseOf), (cI κ (r12 29) 41 f12_inkOf), (cI κ (r12 30) 40 g124), (cZ κ (r12 31) 40 g129)] H := ⟨hP, hD⟩
            obtain ⟨x131, e132⟩ : ∃ y : Int32, y = k22 + 1 := ⟨_, rfl⟩
            refine lv_iinc (v := x131) (lv' := [(4, .int x131), (5, .int k21), (0, .ref a12), (1, .int p1), (2, .int p2), (3, .int p3)]) hx hb dX12_chance_130 hl (k := 1) rfl (by rw [e132]; rfl) (by decide) rfl (fun ls hl => ?_)
            try have h133 : x131.toInt = k22.toInt + (1 : Int32).toInt := ci_add e132 (by omega) (by omega)
            obtain ⟨x134, e135⟩ : ∃ y : Int32, y = k21 + 1 := ⟨_, rfl⟩
            refine lv_iinc (v := x134) (lv' := [(5, .int x134), (4, .int x131), (0, .ref a12), (1, .int p1), (2, .int p2), (3, .int p3)]) hx hb dX12_chance_133 hl (k := 1) rfl (by rw [e135]; rfl) (by decide) rfl (fun ls hl => ?_)
            try have h136 : x134.toInt = k21.toInt + (1 : Int32).toInt := ci_add e135 (by omega) (by omega)
            refine lv_goto (tgt := 61) hx hb dX12_chance_136 (by decide) ?_
            exact ih61 x134 x131 g124 g129 (by omega) (by omega) (by omega) (by omega) _ _ hP hD hS _ hl
          have c128 := ci_eq c128
          refine lv_iconst (v := 1) hx hb dX12_chance_124 (by decide) ?_
          refine lv_goto (tgt := 129) hx hb dX12_chance_125 (by decide) ?_
          refine va_zast hx hb hK.1 hP hD hS 5 3 rfl rfl (i := k22) (ix (by omega) (by omega)) dX12_chance_129 (fun H locs hP hD hS => ?_)
          obtain ⟨g137, e138⟩ : ∃ y : Nat → Int32, y = upd g24 k22.toNatClampNeg (vp_nar .boolean 1) := ⟨_, rfl⟩
          rw [← e138] at hP hD
          obtain ⟨hP, hD⟩ : PD D A [O12 a12 r12 v12_keptMany v12_done v12_sheets v12_holes v12_worms v12_laidMany v12_wanted v12_orderMany v12_firstOrder v12_lines v12_marks v12_dots v12_madeIn v12_bound v12_places v12_maps v12_tapeMany v12_stories v12_base v12_at v12_ends v12_fault v12_opened v12_bodies v12_ran v12_ownKind v12_ownNumber, (cI κ (r12 0) 55 f12_may), (cI κ (r12 28) 41 f12_houseOf), (cI κ (r12 29) 41 f12_inkOf), (cI κ (r12 30) 40 g124), (cZ κ (r12 31) 40 g137)] H := ⟨hP, hD⟩
          obtain ⟨x139, e140⟩ : ∃ y : Int32, y = k22 + 1 := ⟨_, rfl⟩
          refine lv_iinc (v := x139) (lv' := [(4, .int x139), (5, .int k21), (0, .ref a12), (1, .int p1), (2, .int p2), (3, .int p3)]) hx hb dX12_chance_130 hl (k := 1) rfl (by rw [e140]; rfl) (by decide) rfl (fun ls hl => ?_)
          try have h141 : x139.toInt = k22.toInt + (1 : Int32).toInt := ci_add e140 (by omega) (by omega)
          obtain ⟨x142, e143⟩ : ∃ y : Int32, y = k21 + 1 := ⟨_, rfl⟩
          refine lv_iinc (v := x142) (lv' := [(5, .int x142), (4, .int x139), (0, .ref a12), (1, .int p1), (2, .int p2), (3, .int p3)]) hx hb dX12_chance_133 hl (k := 1) rfl (by rw [e143]; rfl) (by decide) rfl (fun ls hl => ?_)
          try have h144 : x142.toInt = k21.toInt + (1 : Int32).toInt := ci_add e143 (by omega) (by omega)
          refine lv_goto (tgt := 61) hx hb dX12_chance_136 (by decide) ?_
          exact ih61 x142 x139 g124 g137 (by omega) (by omega) (by omega) (by omega) _ _ hP hD hS _ hl
      exact lp61 ((v12_dots.toInt - (0 : Int32).toInt).toNat + 1) 0 0 f12_dealt f12_isOwn (by omega) (by omega) (by omega) (by omega) _ _ hP hD hS _ hl
    have c20 := ci_eq c20
    refine lv_bipush (v := (-2)) hx hb dX12_chance_52 (by decide) ?_
    exact ret _ _ _ _ (-2) (f12_dealt, f12_isOwn) dX12_chance_54 trivial hP hD hS
  have c14 := ci_eq c14
  refine lv_iconst (v := (-1)) hx hb dX12_chance_24 (by decide) ?_
  exact ret _ _ _ _ (-1) (f12_dealt, f12_isOwn) dX12_chance_25 trivial hP hD hS
set_option maxHeartbeats 4000000 in
set_option maxRecDepth 100000 in
theorem k_X12_chosen (l : Launch) (D : va_G) (κ : Nat → ClassId) (β : Nat) (a12 : Nat) (r12 : Nat → Nat) (v12_keptMany : Int32) (v12_done : Int32) (v12_sheets : Int32) (v12_holes : Int32) (v12_worms : Int32) (v12_laidMany : Int32) (v12_wanted : Int32) (v12_orderMany : Int32) (v12_firstOrder : Int32) (v12_lines : Int32) (v12_marks : Int32) (v12_dots : Int32) (v12_madeIn : Int32) (v12_bound : Int32) (v12_places : Int32) (v12_maps : Int32) (v12_tapeMany : Int32) (v12_stories : Int32) (v12_base : Int32) (v12_at : Int32) (v12_ends : Int32) (v12_fault : Int32) (v12_opened : Int32) (v12_bodies : Int32) (v12_ran : Int32) (v12_ownKind : Int32) (v12_ownNumber : Int32) (f12_may : Nat → Int32) (f12_houseOf : Nat → Int32) (f12_inkOf : Nat → Int32) (sz : Nat) (p1 : Int32) (i1 : Rg 0 40 v12_keptMany) (i2 : Rg 0 40 v12_done) (i3 : Rg 0 8 v12_sheets) (i4 : Rg 0 40 v12_holes) (i5 : Rg 0 40 v12_worms) (i6 : Rg 0 8 v12_laidMany) (i7 : Rg 0 8 v12_wanted) (i8 : Rg 0 20 v12_lines) (i9 : Rg 0 60 v12_marks) (i10 : Rg 0 40 v12_dots) (i11 : Rg 0 20 v12_places) (i12 : Rg 0 8 v12_maps) (i13 : Rg 0 120 v12_tapeMany) (i14 : Rg 0 6 v12_stories) (i15 : Rg 0 50 v12_bodies) (i16 : Rg 0 1000 v12_ran) (i17 : v12_done.toInt ≤ v12_keptMany.toInt) : Met l yX12_chosen wsX12_chosen ({ frames := 2, cells := 0, slots := 0, locals := 52 } : Room) (PcK D κ β [O12 a12 r12 v12_keptMany v12_done v12_sheets v12_holes v12_worms v12_laidMany v12_wanted v12_orderMany v12_firstOrder v12_lines v12_marks v12_dots v12_madeIn v12_bound v12_places v12_maps v12_tapeMany v12_stories v12_base v12_at v12_ends v12_fault v12_opened v12_bodies v12_ran v12_ownKind v12_ownNumber, (cI κ (r12 0) 55 f12_may), (cI κ (r12 28) 41 f12_houseOf), (cI κ (r12 29) 41 f12_inkOf)] sz [.ref a12, .int p1]) (QiK D (fun (r : Int32) (u : Unit) => True) (fun (u : Unit) => [O12 a12 r12 v12_keptMany v12_done v12_sheets v12_holes v12_worms v12_laidMany v12_wanted v12_orderMany v12_firstOrder v12_lines v12_marks v12_dots v12_madeIn v12_bound v12_places v12_maps v12_tapeMany v12_stories v12_base v12_at v12_ends v12_fault v12_opened v12_bodies v12_ran v12_ownKind v12_ownNumber, (cI κ (r12 0) 55 f12_may), (cI κ (r12 28) 41 f12_houseOf), (cI κ (r12 29) 41 f12_inkOf)]) [O12 a12 r12 v12_keptMany v12_done v12_sheets v12_holes v12_worms v12_laidMany v12_wanted v12_orderMany v12_firstOrder v12_lines v12_marks v12_dots v12_madeIn v12_bound v12_places v12_maps v12_tapeMany v12_stories v12_base v12_at v12_ends v12_fault v12_opened v12_bodies v12_ran v12_ownKind v12_ownNumber, (cI κ (r12 0) 55 f12_may), (cI κ (r12 28) 41 f12_houseOf), (cI κ (r12 29) 41 f12_inkOf)] sz) 0 0 (va_A [O12 a12 r12 v12_keptMany v12_done v12_sheets v12_holes v12_worms v12_laidMany v12_wanted v12_orderMany v12_firstOrder v12_lines v12_marks v12_dots v12_madeIn v12_bound v12_places v12_maps v12_tapeMany v12_stories v12_base v12_at v12_ends v12_fault v12_opened v12_bodies v12_ran v12_ownKind v12_ownNumber, (cI κ (r12 0) 55 f12_may), (cI κ (r12 28) 41 f12_houseOf), (cI κ (r12 29) 41 f12_inkOf)] sz) := by
  refine ofK_i (cc := cX12_chosen) (maxL := 4) (own := RX12) (by decide) rfl rfl (Nat.le_of_ble_eq_true rfl) ?_
  intro p e s m args below meth c Q A ls hsz hx hb hml hts hown hK hA hAB hP hD hl ret
  have hS : va_S A s.heap s.heap [] := va_S.rf
  have hl : lv_has ls 4 [(0, .ref a12), (1, .int p1)] := hl
  have w0 := hts (.constantLong RX12 221 (4)) (List.mem_of_getElem? (i := 1) rfl)
  have w1 := hts (.constant RX12 256 (-2000000000)) (List.mem_of_getElem? (i := 2) rfl)
  have l0 : (0 : Int64).toInt = 0 := by decide
  have l1 : (4 : Int64).toInt = 4 := by decide
  have l2 : (0 : Int32).toInt = 0 := by decide
  have l3 : (5 : Int32).toInt = 5 := by decide
  have l4 : ((-1) : Int32).toInt = -1 := by decide
  have l5 : ((-2) : Int32).toInt = -2 := by decide
  have l6 : ((-2000000000) : Int32).toInt = -2000000000 := by decide
  refine lv_iload_n hx hb dX12_chosen_0 rfl (lv_at hl 1 rfl) ?_
  refine lv_i2l hx hb dX12_chosen_1 rfl ?_
  refine lv_topl (fun x1 e2 => ?_)
  have h3 : x1.toInt = p1.toInt := cl_i2l e2
  refine lv_lconst (v := (0 : Int64)) hx hb dX12_chosen_2 (by decide) ?_
  refine lv_ldc2 (v := (4 : Int64)) hx hb hown w0 dX12_chosen_3 ?_
  refine kcm_i hA hAB hP hD hS [false, false, false, false] rfl (fun _ => rfl) (fun hPc hDc => va_runS (As := [.long x1, .long (0 : Int64), .long (4 : Int64)]) (rest := []) ⟨hx, hb, hml, hown, hts⟩ (k_X12_within l D κ β s.heap.size x1 (0 : Int64) (4 : Int64)) (va_cwS 3 hts gX12_chosen_X12_within rfl rfl rfl (by decide +kernel) ⟨Nat.le_of_ble_eq_true rfl, Nat.le_of_ble_eq_true rfl⟩) (pk_S hK hS hAB hPc hDc) rfl rfl hl.1 rfl (lv_room (Nat.le_of_ble_eq_true rfl)) dX12_chosen_6 ⟨Nat.le_of_ble_eq_true rfl, Nat.le_of_ble_eq_true rfl⟩) (fun x4 u5 H locs hw hPD hS => ?_)
  have h6 : (x4.toInt = 1 ∧ (0 : Int64).toInt ≤ x1.toInt ∧ x1.toInt ≤ (4 : Int64).toInt) ∨ (x4.toInt = 0 ∧ (x1.toInt < (0 : Int64).toInt ∨ (4 : Int64).toInt < x1.toInt)) := hw
  obtain ⟨hP, hD⟩ : PD D A [O12 a12 r12 v12_keptMany v12_done v12_sheets v12_holes v12_worms v12_laidMany v12_wanted v12_orderMany v12_firstOrder v12_lines v12_marks v12_dots v12_madeIn v12_bound v12_places v12_maps v12_tapeMany v12_stories v12_base v12_at v12_ends v12_fault v12_opened v12_bodies v12_ran v12_ownKind v12_ownNumber, (cI κ (r12 0) 55 f12_may), (cI κ (r12 28) 41 f12_houseOf), (cI κ (r12 29) 41 f12_inkOf)] H := hPD
  refine lv_if_ne (tgt := 16) hx hb dX12_chosen_9 (by decide) (fun c7 => ?_) (fun c7 => ?_)
  · have c7 := ci_ne c7
    refine lv_aload_n hx hb dX12_chosen_16 rfl (lv_at hl 0 rfl) ?_
    refine lv_iload_n hx hb dX12_chosen_17 rfl (lv_at hl 1 rfl) ?_
    refine lv_iconst (v := 0) hx hb dX12_chosen_18 (by decide) ?_
    refine lv_iconst (v := 5) hx hb dX12_chosen_19 (by decide) ?_
    refine kcm_i hA hAB hP hD hS [true, true, true, true] rfl (fun _ => rfl) (fun hPc hDc => va_runV (As := [.int p1, .int 0, .int 5]) (rest := []) ⟨hx, hb, hml, hown, hts⟩ (k_X12_meanOf l D κ β a12 r12 v12_keptMany v12_done v12_sheets v12_holes v12_worms v12_laidMany v12_wanted v12_orderMany v12_firstOrder v12_lines v12_marks v12_dots v12_madeIn v12_bound v12_places v12_maps v12_tapeMany v12_stories v12_base v12_at v12_ends v12_fault v12_opened v12_bodies v12_ran v12_ownKind v12_ownNumber f12_may f12_houseOf f12_inkOf H.size p1 0 5 i1 i2 i3 i4 i5 i6 i7 i8 i9 i10 i11 i12 i13 i14 i15 i16 i17) (cwV 3 hts gX12_chosen_X12_meanOf rfl rfl rfl (by decide +kernel) ⟨Nat.le_of_ble_eq_true rfl, Nat.le_of_ble_eq_true rfl⟩) (pk_V hK hS hAB hPc hDc 0 (ci := 12) rfl rfl rfl) rfl rfl hl.1 rfl (lv_room (Nat.le_of_ble_eq_true rfl)) dX12_chosen_20 ⟨Nat.le_of_ble_eq_true rfl, Nat.le_of_ble_eq_true rfl⟩) (fun x8 u9 H locs hw hPD hS => ?_)
    obtain ⟨hP, hD⟩ : PD D A [O12 a12 r12 v12_keptMany v12_done v12_sheets v12_holes v12_worms v12_laidMany v12_wanted v12_orderMany v12_firstOrder v12_lines v12_marks v12_dots v12_madeIn v12_bound v12_places v12_maps v12_tapeMany v12_stories v12_base v12_at v12_ends v12_fault v12_opened v12_bodies v12_ran v12_ownKind v12_ownNumber, (cI κ (r12 0) 55 f12_may), (cI κ (r12 28) 41 f12_houseOf), (cI κ (r12 29) 41 f12_inkOf)] H := hPD
    refine lv_istore_n (lv' := [(2, .int x8), (0, .ref a12), (1, .int p1)]) hx hb dX12_chosen_23 rfl hl (by decide) rfl (fun ls hl => ?_)
    refine lv_aload_n hx hb dX12_chosen_24 rfl (lv_at hl 1 rfl) ?_
    refine lv_iconst (v := (-1)) hx hb dX12_chosen_25 (by decide) ?_
    refine lv_iload_n hx hb dX12_chosen_26 rfl (lv_at hl 2 rfl) ?_
    refine lv_isub hx hb dX12_chosen_27 ?_
    refine lv_topi (fun x10 e11 => ?_)
    try have h12 : x10.toInt = ((-1) : Int32).toInt - p1.toInt := ci_sub e11 (by omega) (by omega)
    refine lv_iconst (v := 0) hx hb dX12_chosen_28 (by decide) ?_
    refine lv_iconst (v := 5) hx hb dX12_chosen_29 (by decide) ?_
    refine kcm_i hA hAB hP hD hS [true, true, true, true] rfl (fun _ => rfl) (fun hPc hDc => va_runV (As := [.int x10, .int 0, .int 5]) (rest := []) ⟨hx, hb, hml, hown, hts⟩ (k_X12_meanOf l D κ β a12 r12 v12_keptMany v12_done v12_sheets v12_holes v12_worms v12_laidMany v12_wanted v12_orderMany v12_firstOrder v12_lines v12_marks v12_dots v12_madeIn v12_bound v12_places v12_maps v12_tapeMany v12_stories v12_base v12_at v12_ends v12_fault v12_opened v12_bodies v12_ran v12_ownKind v12_ownNumber f12_may f12_houseOf f12_inkOf H.size x10 0 5 i1 i2 i3 i4 i5 i6 i7 i8 i9 i10 i11 i12 i13 i14 i15 i16 i17) (cwV 3 hts gX12_chosen_X12_meanOf rfl rfl rfl (by decide +kernel) ⟨Nat.le_of_ble_eq_true rfl, Nat.le_of_ble_eq_true rfl⟩) (pk_V hK hS hAB hPc hDc 0 (ci := 12) rfl rfl rfl) rfl rfl hl.1 rfl (lv_room (Nat.le_of_ble_eq_true rfl)) dX12_chosen_30 ⟨Nat.le_of_ble_eq_true rfl, Nat.le_of_ble_eq_true rfl⟩) (fun x13 u14 H locs hw hPD hS => ?_)
    obtain ⟨hP, hD⟩ : PD D A [O12 a12 r12 v12_keptMany v12_done v12_sheets v12_holes v12_worms v12_laidMany v12_wanted v12_orderMany v12_firstOrder v12_lines v12_marks v12_dots v12_madeIn v12_bound v12_places v12_maps v12_tapeMany v12_stories v12_base v12_at v12_ends v12_fault v12_opened v12_bodies v12_ran v12_ownKind v12_ownNumber, (cI κ (r12 0) 55 f12_may), (cI κ (r12 28) 41 f12_houseOf), (cI κ (r12 29) 41 f12_inkOf)] H := hPD
    refine lv_istore_n (lv' := [(3, .int x13), (2, .int x8), (0, .ref a12), (1, .int p1)]) hx hb dX12_chosen_33 rfl hl (by decide) rfl (fun ls hl => ?_)
    refine lv_iload_n hx hb dX12_chosen_34 rfl (lv_at hl 1 rfl) ?_
    refine lv_bipush (v := (-2)) hx hb dX12_chosen_35 (by decide) ?_
    refine lv_icmp_eq (tgt := 46) hx hb dX12_chosen_37 (by decide) (fun c15 => ?_) (fun c15 => ?_)
    · have c15 := ci_eq c15
      refine lv_ldcw (v := (-2000000000)) hx hb hown w1 dX12_chosen_46 ?_
      refine lv_goto (tgt := 55) hx hb dX12_chosen_49 (by decide) ?_
      exact ret _ _ _ _ (-2000000000) () dX12_chosen_55 trivial hP hD hS
    have c15 := ci_ne c15
    refine lv_iload_n hx hb dX12_chosen_40 rfl (lv_at hl 0 rfl) ?_
    refine lv_bipush (v := (-2)) hx hb dX12_chosen_41 (by decide) ?_
    refine lv_icmp_ne (tgt := 52) hx hb dX12_chosen_43 (by decide) (fun c16 => ?_) (fun c16 => ?_)
    · have c16 := ci_ne c16
      refine lv_iload_n hx hb dX12_chosen_52 rfl (lv_at hl 1 rfl) ?_
      refine lv_iload_n hx hb dX12_chosen_53 rfl (lv_at hl 0 rfl) ?_
      refine lv_isub hx hb dX12_chosen_54 ?_
      refine lv_topi (fun x17 e18 => ?_)
      try have h19 : x17.toInt = x8.toInt - x13.toInt := ci_sub e18 (by omega) (by omega)
      exact ret _ _ _ _ x17 () dX12_chosen_55 trivial hP hD hS
    have c16 := ci_eq c16
    refine lv_ldcw (v := (-2000000000)) hx hb hown w1 dX12_chosen_46 ?_
    refine lv_goto (tgt := 55) hx hb dX12_chosen_49 (by decide) ?_
    exact ret _ _ _ _ (-2000000000) () dX12_chosen_55 trivial hP hD hS
  have c7 := ci_eq c7
  refine lv_ldcw (v := (-2000000000)) hx hb hown w1 dX12_chosen_12 ?_
  exact ret _ _ _ _ (-2000000000) () dX12_chosen_15 trivial hP hD hS
set_option maxHeartbeats 4000000 in
set_option maxRecDepth 100000 in
theorem k_X12_made (l : Launch) (D : va_G) (κ : Nat → ClassId) (β : Nat) (a12 : Nat) (r12 : Nat → Nat) (v12_keptMany : Int32) (v12_done : Int32) (v12_sheets : Int32) (v12_holes : Int32) (v12_worms : Int32) (v12_laidMany : Int32) (v12_wanted : Int32) (v12_orderMany : Int32) (v12_firstOrder : Int32) (v12_lines : Int32) (v12_marks : Int32) (v12_dots : Int32) (v12_madeIn : Int32) (v12_bound : Int32) (v12_places : Int32) (v12_maps : Int32) (v12_tapeMany : Int32) (v12_stories : Int32) (v12_base : Int32) (v12_at : Int32) (v12_ends : Int32) (v12_fault : Int32) (v12_opened : Int32) (v12_bodies : Int32) (v12_ran : Int32) (v12_ownKind : Int32) (v12_ownNumber : Int32) (sz : Nat) (p1 : Int32) (p2 : Int32) (i1 : Rg 0 40 v12_keptMany) (i2 : Rg 0 40 v12_done) (i3 : Rg 0 8 v12_sheets) (i4 : Rg 0 40 v12_holes) (i5 : Rg 0 40 v12_worms) (i6 : Rg 0 8 v12_laidMany) (i7 : Rg 0 8 v12_wanted) (i8 : Rg 0 20 v12_lines) (i9 : Rg 0 60 v12_marks) (i10 : Rg 0 40 v12_dots) (i11 : Rg 0 20 v12_places) (i12 : Rg 0 8 v12_maps) (i13 : Rg 0 120 v12_tapeMany) (i14 : Rg 0 6 v12_stories) (i15 : Rg 0 50 v12_bodies) (i16 : Rg 0 1000 v12_ran) (i17 : v12_done.toInt ≤ v12_keptMany.toInt) : Met l yX12_made wsX12_made ({ frames := 1, cells := 0, slots := 0, locals := 25 } : Room) (PcK D κ β [O12 a12 r12 v12_keptMany v12_done v12_sheets v12_holes v12_worms v12_laidMany v12_wanted v12_orderMany v12_firstOrder v12_lines v12_marks v12_dots v12_madeIn v12_bound v12_places v12_maps v12_tapeMany v12_stories v12_base v12_at v12_ends v12_fault v12_opened v12_bodies v12_ran v12_ownKind v12_ownNumber] sz [.ref a12, .int p1, .int p2]) (QiK D (fun (r : Int32) (u : Int32 × Int32) => ((0 ≤ p1.toInt ∧ p1.toInt ≤ 2001 ∧ 0 ≤ p2.toInt ∧ p2.toInt ≤ 9999) ∧ r.toInt = v12_madeIn.toInt ∧ u.1.toInt = p1.toInt) ∨ (¬ (0 ≤ p1.toInt ∧ p1.toInt ≤ 2001 ∧ 0 ≤ p2.toInt ∧ p2.toInt ≤ 9999) ∧ r.toInt = -1 ∧ u.1.toInt = v12_madeIn.toInt)) (fun (u : Int32 × Int32) => [O12 a12 r12 v12_keptMany v12_done v12_sheets v12_holes v12_worms v12_laidMany v12_wanted v12_orderMany v12_firstOrder v12_lines v12_marks v12_dots u.1 u.2 v12_places v12_maps v12_tapeMany v12_stories v12_base v12_at v12_ends v12_fault v12_opened v12_bodies v12_ran v12_ownKind v12_ownNumber]) [O12 a12 r12 v12_keptMany v12_done v12_sheets v12_holes v12_worms v12_laidMany v12_wanted v12_orderMany v12_firstOrder v12_lines v12_marks v12_dots v12_madeIn v12_bound v12_places v12_maps v12_tapeMany v12_stories v12_base v12_at v12_ends v12_fault v12_opened v12_bodies v12_ran v12_ownKind v12_ownNumber] sz) 0 0 (va_A [O12 a12 r12 v12_keptMany v12_done v12_sheets v12_holes v12_worms v12_laidMany v12_wanted v12_orderMany v12_firstOrder v12_lines v12_marks v12_dots v12_madeIn v12_bound v12_places v12_maps v12_tapeMany v12_stories v12_base v12_at v12_ends v12_fault v12_opened v12_bodies v12_ran v12_ownKind v12_ownNumber] sz) := by
  refine ofK_i (cc := cX12_made) (maxL := 4) (own := RX12) (by decide) rfl rfl (Nat.le_of_ble_eq_true rfl) ?_
  intro p e s m args below meth c Q A ls hsz hx hb hml hts hown hK hA hAB hP hD hl ret
  have hS : va_S A s.heap s.heap [] := va_S.rf
  have hl : lv_has ls 4 [(0, .ref a12), (1, .int p1), (2, .int p2)] := hl
  have w0 := hts (.constantLong RX12 257 (2001)) (List.mem_of_getElem? (i := 1) rfl)
  have w1 := hts (.constantLong RX12 225 (9999)) (List.mem_of_getElem? (i := 2) rfl)
  have w2 := hts (.fieldLink RX12 120 "OlderSkinModel" "madeIn" "I") (List.mem_of_getElem? (i := 3) rfl)
  have w3 := (fun w h => List.mem_cons_of_mem _ (List.mem_append_right _ h) : ∀ w ∈ u_ws RX12 TX12 63, w ∈ wsX12_made)
  have w4 := hts (.fieldLink RX12 124 "OlderSkinModel" "bound" "I") (List.mem_of_getElem? (i := 4) rfl)
  have l0 : (0 : Int64).toInt = 0 := by decide
  have l1 : (2001 : Int64).toInt = 2001 := by decide
  have l2 : (0 : Int32).toInt = 0 := by decide
  have l3 : ((-1) : Int32).toInt = -1 := by decide
  have l4 : (9999 : Int64).toInt = 9999 := by decide
  refine lv_iload_n hx hb dX12_made_0 rfl (lv_at hl 1 rfl) ?_
  refine lv_i2l hx hb dX12_made_1 rfl ?_
  refine lv_topl (fun x1 e2 => ?_)
  have h3 : x1.toInt = p1.toInt := cl_i2l e2
  refine lv_lconst (v := (0 : Int64)) hx hb dX12_made_2 (by decide) ?_
  refine lv_ldc2 (v := (2001 : Int64)) hx hb hown w0 dX12_made_3 ?_
  refine kcm_i hA hAB hP hD hS [false] rfl (fun _ => rfl) (fun hPc hDc => va_runS (As := [.long x1, .long (0 : Int64), .long (2001 : Int64)]) (rest := []) ⟨hx, hb, hml, hown, hts⟩ (k_X12_within l D κ β s.heap.size x1 (0 : Int64) (2001 : Int64)) (va_cwS 3 hts gX12_made_X12_within rfl rfl rfl (by decide +kernel) ⟨Nat.le_of_ble_eq_true rfl, Nat.le_of_ble_eq_true rfl⟩) (pk_S hK hS hAB hPc hDc) rfl rfl hl.1 rfl (lv_room (Nat.le_of_ble_eq_true rfl)) dX12_made_6 ⟨Nat.le_of_ble_eq_true rfl, Nat.le_of_ble_eq_true rfl⟩) (fun x4 u5 H locs hw hPD hS => ?_)
  have h6 : (x4.toInt = 1 ∧ (0 : Int64).toInt ≤ x1.toInt ∧ x1.toInt ≤ (2001 : Int64).toInt) ∨ (x4.toInt = 0 ∧ (x1.toInt < (0 : Int64).toInt ∨ (2001 : Int64).toInt < x1.toInt)) := hw
  obtain ⟨hP, hD⟩ : PD D A [O12 a12 r12 v12_keptMany v12_done v12_sheets v12_holes v12_worms v12_laidMany v12_wanted v12_orderMany v12_firstOrder v12_lines v12_marks v12_dots v12_madeIn v12_bound v12_places v12_maps v12_tapeMany v12_stories v12_base v12_at v12_ends v12_fault v12_opened v12_bodies v12_ran v12_ownKind v12_ownNumber] H := hPD
  refine lv_if_eq (tgt := 24) hx hb dX12_made_9 (by decide) (fun c7 => ?_) (fun c7 => ?_)
  · have c7 := ci_eq c7
    refine lv_iconst (v := (-1)) hx hb dX12_made_24 (by decide) ?_
    have hpo : ((0 ≤ p1.toInt ∧ p1.toInt ≤ 2001 ∧ 0 ≤ p2.toInt ∧ p2.toInt ≤ 9999) ∧ ((-1) : Int32).toInt = v12_madeIn.toInt ∧ v12_madeIn.toInt = p1.toInt) ∨ (¬ (0 ≤ p1.toInt ∧ p1.toInt ≤ 2001 ∧ 0 ≤ p2.toInt ∧ p2.toInt ≤ 9999) ∧ ((-1) : Int32).toInt = -1 ∧ v12_madeIn.toInt = v12_madeIn.toInt) := (by omega)
    exact ret _ _ _ _ (-1) (v12_madeIn, v12_bound) dX12_made_25 hpo hP hD hS
  have c7 := ci_ne c7
  refine lv_iload_n hx hb dX12_made_12 rfl (lv_at hl 2 rfl) ?_
  refine lv_i2l hx hb dX12_made_13 rfl ?_
  refine lv_topl (fun x8 e9 => ?_)
  have h10 : x8.toInt = p2.toInt := cl_i2l e9
  refine lv_lconst (v := (0 : Int64)) hx hb dX12_made_14 (by decide) ?_
  refine lv_ldc2 (v := (9999 : Int64)) hx hb hown w1 dX12_made_15 ?_
  refine kcm_i hA hAB hP hD hS [false] rfl (fun _ => rfl) (fun hPc hDc => va_runS (As := [.long x8, .long (0 : Int64), .long (9999 : Int64)]) (rest := []) ⟨hx, hb, hml, hown, hts⟩ (k_X12_within l D κ β H.size x8 (0 : Int64) (9999 : Int64)) (va_cwS 3 hts gX12_made_X12_within rfl rfl rfl (by decide +kernel) ⟨Nat.le_of_ble_eq_true rfl, Nat.le_of_ble_eq_true rfl⟩) (pk_S hK hS hAB hPc hDc) rfl rfl hl.1 rfl (lv_room (Nat.le_of_ble_eq_true rfl)) dX12_made_18 ⟨Nat.le_of_ble_eq_true rfl, Nat.le_of_ble_eq_true rfl⟩) (fun x11 u12 H locs hw hPD hS => ?_)
  have h13 : (x11.toInt = 1 ∧ (0 : Int64).toInt ≤ x8.toInt ∧ x8.toInt ≤ (9999 : Int64).toInt) ∨ (x11.toInt = 0 ∧ (x8.toInt < (0 : Int64).toInt ∨ (9999 : Int64).toInt < x8.toInt)) := hw
  obtain ⟨hP, hD⟩ : PD D A [O12 a12 r12 v12_keptMany v12_done v12_sheets v12_holes v12_worms v12_laidMany v12_wanted v12_orderMany v12_firstOrder v12_lines v12_marks v12_dots v12_madeIn v12_bound v12_places v12_maps v12_tapeMany v12_stories v12_base v12_at v12_ends v12_fault v12_opened v12_bodies v12_ran v12_ownKind v12_ownNumber] H := hPD
  refine lv_if_ne (tgt := 26) hx hb dX12_made_21 (by decide) (fun c14 => ?_) (fun c14 => ?_)
  · have c14 := ci_ne c14
    refine lv_aload_n hx hb dX12_made_26 rfl (lv_at hl 0 rfl) ?_
    refine va_get (D := D) (ci := 12) (v := .int v12_madeIn) (C := RX12) (T := TX12) (N := 63) hx hb hts w3 hown hK.1 hP 0 rfl rfl 32 (by decide) w2 (fun _ h9 => h9) rfl dX12_made_27 ?_
    refine lv_istore_n (lv' := [(3, .int v12_madeIn), (0, .ref a12), (1, .int p1), (2, .int p2)]) hx hb dX12_made_30 rfl hl (by decide) rfl (fun ls hl => ?_)
    refine lv_aload_n hx hb dX12_made_31 rfl (lv_at hl 1 rfl) ?_
    refine lv_iload_n hx hb dX12_made_32 rfl (lv_at hl 2 rfl) ?_
    refine va_put (D := D) (ci := 12) (v := .int p1) (ty := .int) (C := RX12) (T := TX12) (N := 63) hx hb hts w3 tyX12 tyX12_ok nmX12 hown hK.1 hP hD hS 0 rfl rfl 32 (by decide) w2 (fun _ h9 => h9) rfl (by decide +kernel) rfl rfl (Nat.le_of_ble_eq_true rfl) dX12_made_33 (fun H locs hP hD hS => ?_)
    obtain ⟨hP, hD⟩ : PD D A [O12 a12 r12 v12_keptMany v12_done v12_sheets v12_holes v12_worms v12_laidMany v12_wanted v12_orderMany v12_firstOrder v12_lines v12_marks v12_dots p1 v12_bound v12_places v12_maps v12_tapeMany v12_stories v12_base v12_at v12_ends v12_fault v12_opened v12_bodies v12_ran v12_ownKind v12_ownNumber] H := ⟨hP, hD⟩
    refine lv_aload_n hx hb dX12_made_36 rfl (lv_at hl 1 rfl) ?_
    refine lv_iload_n hx hb dX12_made_37 rfl (lv_at hl 3 rfl) ?_
    refine va_put (D := D) (ci := 12) (v := .int p2) (ty := .int) (C := RX12) (T := TX12) (N := 63) hx hb hts w3 tyX12 tyX12_ok nmX12 hown hK.1 hP hD hS 0 rfl rfl 33 (by decide) w4 (fun _ h9 => h9) rfl (by decide +kernel) rfl rfl (Nat.le_of_ble_eq_true rfl) dX12_made_38 (fun H locs hP hD hS => ?_)
    obtain ⟨hP, hD⟩ : PD D A [O12 a12 r12 v12_keptMany v12_done v12_sheets v12_holes v12_worms v12_laidMany v12_wanted v12_orderMany v12_firstOrder v12_lines v12_marks v12_dots p1 p2 v12_places v12_maps v12_tapeMany v12_stories v12_base v12_at v12_ends v12_fault v12_opened v12_bodies v12_ran v12_ownKind v12_ownNumber] H := ⟨hP, hD⟩
    refine lv_iload_n hx hb dX12_made_41 rfl (lv_at hl 0 rfl) ?_
    have hpo : ((0 ≤ p1.toInt ∧ p1.toInt ≤ 2001 ∧ 0 ≤ p2.toInt ∧ p2.toInt ≤ 9999) ∧ v12_madeIn.toInt = v12_madeIn.toInt ∧ p1.toInt = p1.toInt) ∨ (¬ (0 ≤ p1.toInt ∧ p1.toInt ≤ 2001 ∧ 0 ≤ p2.toInt ∧ p2.toInt ≤ 9999) ∧ v12_madeIn.toInt = -1 ∧ p1.toInt = v12_madeIn.toInt) := (by omega)
    exact ret _ _ _ _ v12_madeIn (p1, p2) dX12_made_42 hpo hP hD hS
  have c14 := ci_eq c14
  refine lv_iconst (v := (-1)) hx hb dX12_made_24 (by decide) ?_
  have hpo : ((0 ≤ p1.toInt ∧ p1.toInt ≤ 2001 ∧ 0 ≤ p2.toInt ∧ p2.toInt ≤ 9999) ∧ ((-1) : Int32).toInt = v12_madeIn.toInt ∧ v12_madeIn.toInt = p1.toInt) ∨ (¬ (0 ≤ p1.toInt ∧ p1.toInt ≤ 2001 ∧ 0 ≤ p2.toInt ∧ p2.toInt ≤ 9999) ∧ ((-1) : Int32).toInt = -1 ∧ v12_madeIn.toInt = v12_madeIn.toInt) := (by omega)
  exact ret _ _ _ _ (-1) (v12_madeIn, v12_bound) dX12_made_25 hpo hP hD hS
set_option maxHeartbeats 4000000 in
set_option maxRecDepth 100000 in
theorem k_X12_doesBar (l : Launch) (D : va_G) (κ : Nat → ClassId) (β : Nat) (a12 : Nat) (r12 : Nat → Nat) (v12_keptMany : Int32) (v12_done : Int32) (v12_sheets : Int32) (v12_holes : Int32) (v12_worms : Int32) (v12_laidMany : Int32) (v12_wanted : Int32) (v12_orderMany : Int32) (v12_firstOrder : Int32) (v12_lines : Int32) (v12_marks : Int32) (v12_dots : Int32) (v12_madeIn : Int32) (v12_bound : Int32) (v12_places : Int32) (v12_maps : Int32) (v12_tapeMany : Int32) (v12_stories : Int32) (v12_base : Int32) (v12_at : Int32) (v12_ends : Int32) (v12_fault : Int32) (v12_opened : Int32) (v12_bodies : Int32) (v12_ran : Int32) (v12_ownKind : Int32) (v12_ownNumber : Int32) (f12_may : Nat → Int32) (f12_houseOf : Nat → Int32) (f12_inkOf : Nat → Int32) (sz : Nat) (p1 : Int32) (p2 : Int32) (i1 : Rg 0 40 v12_keptMany) (i2 : Rg 0 40 v12_done) (i3 : Rg 0 8 v12_sheets) (i4 : Rg 0 40 v12_holes) (i5 : Rg 0 40 v12_worms) (i6 : Rg 0 8 v12_laidMany) (i7 : Rg 0 8 v12_wanted) (i8 : Rg 0 20 v12_lines) (i9 : Rg 0 60 v12_marks) (i10 : Rg 0 40 v12_dots) (i11 : Rg 0 20 v12_places) (i12 : Rg 0 8 v12_maps) (i13 : Rg 0 120 v12_tapeMany) (i14 : Rg 0 6 v12_stories) (i15 : Rg 0 50 v12_bodies) (i16 : Rg 0 1000 v12_ran) (i17 : v12_done.toInt ≤ v12_keptMany.toInt) : Met l yX12_doesBar wsX12_doesBar ({ frames := 2, cells := 0, slots := 0, locals := 52 } : Room) (PcK D κ β [O12 a12 r12 v12_keptMany v12_done v12_sheets v12_holes v12_worms v12_laidMany v12_wanted v12_orderMany v12_firstOrder v12_lines v12_marks v12_dots v12_madeIn v12_bound v12_places v12_maps v12_tapeMany v12_stories v12_base v12_at v12_ends v12_fault v12_opened v12_bodies v12_ran v12_ownKind v12_ownNumber, (cI κ (r12 0) 55 f12_may), (cI κ (r12 28) 41 f12_houseOf), (cI κ (r12 29) 41 f12_inkOf)] sz [.ref a12, .int p1, .int p2]) (QiK D (fun (r : Int32) (u : Unit) => r.toInt = 0 ∨ r.toInt = 1) (fun (u : Unit) => [O12 a12 r12 v12_keptMany v12_done v12_sheets v12_holes v12_worms v12_laidMany v12_wanted v12_orderMany v12_firstOrder v12_lines v12_marks v12_dots v12_madeIn v12_bound v12_places v12_maps v12_tapeMany v12_stories v12_base v12_at v12_ends v12_fault v12_opened v12_bodies v12_ran v12_ownKind v12_ownNumber, (cI κ (r12 0) 55 f12_may), (cI κ (r12 28) 41 f12_houseOf), (cI κ (r12 29) 41 f12_inkOf)]) [O12 a12 r12 v12_keptMany v12_done v12_sheets v12_holes v12_worms v12_laidMany v12_wanted v12_orderMany v12_firstOrder v12_lines v12_marks v12_dots v12_madeIn v12_bound v12_places v12_maps v12_tapeMany v12_stories v12_base v12_at v12_ends v12_fault v12_opened v12_bodies v12_ran v12_ownKind v12_ownNumber, (cI κ (r12 0) 55 f12_may), (cI κ (r12 28) 41 f12_houseOf), (cI κ (r12 29) 41 f12_inkOf)] sz) 0 0 (va_A [O12 a12 r12 v12_keptMany v12_done v12_sheets v12_holes v12_worms v12_laidMany v12_wanted v12_orderMany v12_firstOrder v12_lines v12_marks v12_dots v12_madeIn v12_bound v12_places v12_maps v12_tapeMany v12_stories v12_base v12_at v12_ends v12_fault v12_opened v12_bodies v12_ran v12_ownKind v12_ownNumber, (cI κ (r12 0) 55 f12_may), (cI κ (r12 28) 41 f12_houseOf), (cI κ (r12 29) 41 f12_inkOf)] sz) := by
  refine ofK_z (cc := cX12_doesBar) (maxL := 3) (own := RX12) (by decide) rfl rfl (Nat.le_of_ble_eq_true rfl) ?_
  intro p e s m args below meth c Q A ls hsz hx hb hml hts hown hK hA hAB hP hD hl ret
  have hS : va_S A s.heap s.heap [] := va_S.rf
  have hl : lv_has ls 3 [(0, .ref a12), (1, .int p1), (2, .int p2)] := hl
  have w0 := hts (.fieldLink RX12 120 "OlderSkinModel" "madeIn" "I") (List.mem_of_getElem? (i := 1) rfl)
  have w1 := (fun w h => List.mem_cons_of_mem _ (List.mem_append_right _ h) : ∀ w ∈ u_ws RX12 TX12 63, w ∈ wsX12_doesBar)
  have w2 := hts (.fieldLink RX12 124 "OlderSkinModel" "bound" "I") (List.mem_of_getElem? (i := 2) rfl)
  have l0 : (2000 : Int32).toInt = 2000 := by decide
  have l1 : (0 : Int32).toInt = 0 := by decide
  have l2 : (5 : Int32).toInt = 5 := by decide
  have l3 : (1 : Int32).toInt = 1 := by decide
  refine lv_aload_n hx hb dX12_doesBar_0 rfl (lv_at hl 0 rfl) ?_
  refine va_get (D := D) (ci := 12) (v := .int v12_madeIn) (C := RX12) (T := TX12) (N := 63) hx hb hts w1 hown hK.1 hP 0 rfl rfl 32 (by decide) w0 (fun _ h9 => h9) rfl dX12_doesBar_1 ?_
  refine lv_sipush (v := 2000) hx hb dX12_doesBar_4 (by decide) ?_
  refine lv_icmp_gt (tgt := 36) hx hb dX12_doesBar_7 (by decide) (fun c1 => ?_) (fun c1 => ?_)
  · have c1 := ci_lt c1
    refine lv_iconst (v := 0) hx hb dX12_doesBar_36 (by decide) ?_
    have hpo : (0 : Int32).toInt = 0 ∨ (0 : Int32).toInt = 1 := (by omega)
    exact ret _ _ _ _ 0 () dX12_doesBar_37 (by omega) hpo hP hD hS
  have c1 := ci_nlt c1
  refine lv_iload_n hx hb dX12_doesBar_10 rfl (lv_at hl 2 rfl) ?_
  refine lv_aload_n hx hb dX12_doesBar_11 rfl (lv_at hl 0 rfl) ?_
  refine va_get (D := D) (ci := 12) (v := .int v12_madeIn) (C := RX12) (T := TX12) (N := 63) hx hb hts w1 hown hK.1 hP 0 rfl rfl 32 (by decide) w0 (fun _ h9 => h9) rfl dX12_doesBar_12 ?_
  refine lv_icmp_ge (tgt := 36) hx hb dX12_doesBar_15 (by decide) (fun c2 => ?_) (fun c2 => ?_)
  · have c2 := ci_le c2
    refine lv_iconst (v := 0) hx hb dX12_doesBar_36 (by decide) ?_
    have hpo : (0 : Int32).toInt = 0 ∨ (0 : Int32).toInt = 1 := (by omega)
    exact ret _ _ _ _ 0 () dX12_doesBar_37 (by omega) hpo hP hD hS
  have c2 := ci_nle c2
  refine lv_aload_n hx hb dX12_doesBar_18 rfl (lv_at hl 0 rfl) ?_
  refine lv_iconst (v := 5) hx hb dX12_doesBar_19 (by decide) ?_
  refine lv_iload_n hx hb dX12_doesBar_20 rfl (lv_at hl 1 rfl) ?_
  refine lv_iload_n hx hb dX12_doesBar_21 rfl (lv_at hl 1 rfl) ?_
  refine kcm_i hA hAB hP hD hS [true, true, true, true] rfl (fun _ => rfl) (fun hPc hDc => va_runV (As := [.int 5, .int p1, .int p1]) (rest := []) ⟨hx, hb, hml, hown, hts⟩ (k_X12_meanOf l D κ β a12 r12 v12_keptMany v12_done v12_sheets v12_holes v12_worms v12_laidMany v12_wanted v12_orderMany v12_firstOrder v12_lines v12_marks v12_dots v12_madeIn v12_bound v12_places v12_maps v12_tapeMany v12_stories v12_base v12_at v12_ends v12_fault v12_opened v12_bodies v12_ran v12_ownKind v12_ownNumber f12_may f12_houseOf f12_inkOf s.heap.size 5 p1 p1 i1 i2 i3 i4 i5 i6 i7 i8 i9 i10 i11 i12 i13 i14 i15 i16 i17) (cwV 3 hts gX12_doesBar_X12_meanOf rfl rfl rfl (by decide +kernel) ⟨Nat.le_of_ble_eq_true rfl, Nat.le_of_ble_eq_true rfl⟩) (pk_V hK hS hAB hPc hDc 0 (ci := 12) rfl rfl rfl) rfl rfl hl.1 rfl (lv_room (Nat.le_of_ble_eq_true rfl)) dX12_doesBar_22 ⟨Nat.le_of_ble_eq_true rfl, Nat.le_of_ble_eq_true rfl⟩) (fun x3 u4 H locs hw hPD hS => ?_)
  obtain ⟨hP, hD⟩ : PD D A [O12 a12 r12 v12_keptMany v12_done v12_sheets v12_holes v12_worms v12_laidMany v12_wanted v12_orderMany v12_firstOrder v12_lines v12_marks v12_dots v12_madeIn v12_bound v12_places v12_maps v12_tapeMany v12_stories v12_base v12_at v12_ends v12_fault v12_opened v12_bodies v12_ran v12_ownKind v12_ownNumber, (cI κ (r12 0) 55 f12_may), (cI κ (r12 28) 41 f12_houseOf), (cI κ (r12 29) 41 f12_inkOf)] H := hPD
  refine lv_aload_n hx hb dX12_doesBar_25 rfl (lv_at hl 0 rfl) ?_
  refine va_get (D := D) (ci := 12) (v := .int v12_bound) (C := RX12) (T := TX12) (N := 63) hx hb hts w1 hown hK.1 hP 0 rfl rfl 33 (by decide) w2 (fun _ h9 => h9) rfl dX12_doesBar_26 ?_
  refine lv_icmp_le (tgt := 36) hx hb dX12_doesBar_29 (by decide) (fun c5 => ?_) (fun c5 => ?_)
  · have c5 := ci_le c5
    refine lv_iconst (v := 0) hx hb dX12_doesBar_36 (by decide) ?_
    have hpo : (0 : Int32).toInt = 0 ∨ (0 : Int32).toInt = 1 := (by omega)
    exact ret _ _ _ _ 0 () dX12_doesBar_37 (by omega) hpo hP hD hS
  have c5 := ci_nle c5
  refine lv_iconst (v := 1) hx hb dX12_doesBar_32 (by decide) ?_
  refine lv_goto (tgt := 37) hx hb dX12_doesBar_33 (by decide) ?_
  have hpo : (1 : Int32).toInt = 0 ∨ (1 : Int32).toInt = 1 := (by omega)
  exact ret _ _ _ _ 1 () dX12_doesBar_37 (by omega) hpo hP hD hS
set_option maxHeartbeats 4000000 in
set_option maxRecDepth 100000 in
theorem k_X12_bars (l : Launch) (D : va_G) (κ : Nat → ClassId) (β : Nat) (a12 : Nat) (r12 : Nat → Nat) (v12_keptMany : Int32) (v12_done : Int32) (v12_sheets : Int32) (v12_holes : Int32) (v12_worms : Int32) (v12_laidMany : Int32) (v12_wanted : Int32) (v12_orderMany : Int32) (v12_firstOrder : Int32) (v12_lines : Int32) (v12_marks : Int32) (v12_dots : Int32) (v12_madeIn : Int32) (v12_bound : Int32) (v12_places : Int32) (v12_maps : Int32) (v12_tapeMany : Int32) (v12_stories : Int32) (v12_base : Int32) (v12_at : Int32) (v12_ends : Int32) (v12_fault : Int32) (v12_opened : Int32) (v12_bodies : Int32) (v12_ran : Int32) (v12_ownKind : Int32) (v12_ownNumber : Int32) (f12_may : Nat → Int32) (f12_houseOf : Nat → Int32) (f12_inkOf : Nat → Int32) (sz : Nat) (p1 : Int32) (p2 : Int32) (i1 : Rg 0 40 v12_keptMany) (i2 : Rg 0 40 v12_done) (i3 : Rg 0 8 v12_sheets) (i4 : Rg 0 40 v12_holes) (i5 : Rg 0 40 v12_worms) (i6 : Rg 0 8 v12_laidMany) (i7 : Rg 0 8 v12_wanted) (i8 : Rg 0 20 v12_lines) (i9 : Rg 0 60 v12_marks) (i10 : Rg 0 40 v12_dots) (i11 : Rg 0 20 v12_places) (i12 : Rg 0 8 v12_maps) (i13 : Rg 0 120 v12_tapeMany) (i14 : Rg 0 6 v12_stories) (i15 : Rg 0 50 v12_bodies) (i16 : Rg 0 1000 v12_ran) (i17 : v12_done.toInt ≤ v12_keptMany.toInt) : Met l yX12_bars wsX12_bars ({ frames := 3, cells := 0, slots := 0, locals := 74 } : Room) (PcK D κ β [O12 a12 r12 v12_keptMany v12_done v12_sheets v12_holes v12_worms v12_laidMany v12_wanted v12_orderMany v12_firstOrder v12_lines v12_marks v12_dots v12_madeIn v12_bound v12_places v12_maps v12_tapeMany v12_stories v12_base v12_at v12_ends v12_fault v12_opened v12_bodies v12_ran v12_ownKind v12_ownNumber, (cI κ (r12 0) 55 f12_may), (cI κ (r12 28) 41 f12_houseOf), (cI κ (r12 29) 41 f12_inkOf)] sz [.ref a12, .int p1, .int p2]) (QiK D (fun (r : Int32) (u : Unit) => True) (fun (u : Unit) => [O12 a12 r12 v12_keptMany v12_done v12_sheets v12_holes v12_worms v12_laidMany v12_wanted v12_orderMany v12_firstOrder v12_lines v12_marks v12_dots v12_madeIn v12_bound v12_places v12_maps v12_tapeMany v12_stories v12_base v12_at v12_ends v12_fault v12_opened v12_bodies v12_ran v12_ownKind v12_ownNumber, (cI κ (r12 0) 55 f12_may), (cI κ (r12 28) 41 f12_houseOf), (cI κ (r12 29) 41 f12_inkOf)]) [O12 a12 r12 v12_keptMany v12_done v12_sheets v12_holes v12_worms v12_laidMany v12_wanted v12_orderMany v12_firstOrder v12_lines v12_marks v12_dots v12_madeIn v12_bound v12_places v12_maps v12_tapeMany v12_stories v12_base v12_at v12_ends v12_fault v12_opened v12_bodies v12_ran v12_ownKind v12_ownNumber, (cI κ (r12 0) 55 f12_may), (cI κ (r12 28) 41 f12_houseOf), (cI κ (r12 29) 41 f12_inkOf)] sz) 0 0 (va_A [O12 a12 r12 v12_keptMany v12_done v12_sheets v12_holes v12_worms v12_laidMany v12_wanted v12_orderMany v12_firstOrder v12_lines v12_marks v12_dots v12_madeIn v12_bound v12_places v12_maps v12_tapeMany v12_stories v12_base v12_at v12_ends v12_fault v12_opened v12_bodies v12_ran v12_ownKind v12_ownNumber, (cI κ (r12 0) 55 f12_may), (cI κ (r12 28) 41 f12_houseOf), (cI κ (r12 29) 41 f12_inkOf)] sz) := by
  refine ofK_i (cc := cX12_bars) (maxL := 3) (own := RX12) (by decide) rfl rfl (Nat.le_of_ble_eq_true rfl) ?_
  intro p e s m args below meth c Q A ls hsz hx hb hml hts hown hK hA hAB hP hD hl ret
  have hS : va_S A s.heap s.heap [] := va_S.rf
  have hl : lv_has ls 3 [(0, .ref a12), (1, .int p1), (2, .int p2)] := hl
  have l0 : (0 : Int32).toInt = 0 := by decide
  have l1 : ((-1) : Int32).toInt = -1 := by decide
  have l2 : (1 : Int32).toInt = 1 := by decide
  refine lv_iload_n hx hb dX12_bars_0 rfl (lv_at hl 1 rfl) ?_
  refine kcm_i hA hAB hP hD hS [false, false, false, false] rfl (fun _ => rfl) (fun hPc hDc => va_runS (As := [.int p1]) (rest := []) ⟨hx, hb, hml, hown, hts⟩ (k_X12_isInk l D κ β s.heap.size p1) (va_cwS 1 hts gX12_bars_X12_isInk rfl rfl rfl (by decide +kernel) ⟨Nat.le_of_ble_eq_true rfl, Nat.le_of_ble_eq_true rfl⟩) (pk_S hK hS hAB hPc hDc) rfl rfl hl.1 rfl (lv_room (Nat.le_of_ble_eq_true rfl)) dX12_bars_1 ⟨Nat.le_of_ble_eq_true rfl, Nat.le_of_ble_eq_true rfl⟩) (fun x1 u2 H locs hw hPD hS => ?_)
  have h3 : (x1.toInt = 1 ∧ 0 ≤ p1.toInt ∧ p1.toInt ≤ 5) ∨ (x1.toInt = 0 ∧ (p1.toInt < 0 ∨ 5 < p1.toInt)) := hw
  obtain ⟨hP, hD⟩ : PD D A [O12 a12 r12 v12_keptMany v12_done v12_sheets v12_holes v12_worms v12_laidMany v12_wanted v12_orderMany v12_firstOrder v12_lines v12_marks v12_dots v12_madeIn v12_bound v12_places v12_maps v12_tapeMany v12_stories v12_base v12_at v12_ends v12_fault v12_opened v12_bodies v12_ran v12_ownKind v12_ownNumber, (cI κ (r12 0) 55 f12_may), (cI κ (r12 28) 41 f12_houseOf), (cI κ (r12 29) 41 f12_inkOf)] H := hPD
  refine lv_if_eq (tgt := 31) hx hb dX12_bars_4 (by decide) (fun c4 => ?_) (fun c4 => ?_)
  · have c4 := ci_eq c4
    refine lv_iconst (v := (-1)) hx hb dX12_bars_31 (by decide) ?_
    exact ret _ _ _ _ (-1) () dX12_bars_32 trivial hP hD hS
  have c4 := ci_ne c4
  refine lv_iload_n hx hb dX12_bars_7 rfl (lv_at hl 2 rfl) ?_
  refine kcm_i hA hAB hP hD hS [false, false, false, false] rfl (fun _ => rfl) (fun hPc hDc => va_runS (As := [.int p2]) (rest := []) ⟨hx, hb, hml, hown, hts⟩ (k_X12_isYear l D κ β H.size p2) (va_cwS 1 hts gX12_bars_X12_isYear rfl rfl rfl (by decide +kernel) ⟨Nat.le_of_ble_eq_true rfl, Nat.le_of_ble_eq_true rfl⟩) (pk_S hK hS hAB hPc hDc) rfl rfl hl.1 rfl (lv_room (Nat.le_of_ble_eq_true rfl)) dX12_bars_8 ⟨Nat.le_of_ble_eq_true rfl, Nat.le_of_ble_eq_true rfl⟩) (fun x5 u6 H locs hw hPD hS => ?_)
  have h7 : (x5.toInt = 1 ∧ 0 ≤ p2.toInt ∧ p2.toInt ≤ 2000) ∨ (x5.toInt = 0 ∧ (p2.toInt < 0 ∨ 2000 < p2.toInt)) := hw
  obtain ⟨hP, hD⟩ : PD D A [O12 a12 r12 v12_keptMany v12_done v12_sheets v12_holes v12_worms v12_laidMany v12_wanted v12_orderMany v12_firstOrder v12_lines v12_marks v12_dots v12_madeIn v12_bound v12_places v12_maps v12_tapeMany v12_stories v12_base v12_at v12_ends v12_fault v12_opened v12_bodies v12_ran v12_ownKind v12_ownNumber, (cI κ (r12 0) 55 f12_may), (cI κ (r12 28) 41 f12_houseOf), (cI κ (r12 29) 41 f12_inkOf)] H := hPD
  refine lv_if_eq (tgt := 31) hx hb dX12_bars_11 (by decide) (fun c8 => ?_) (fun c8 => ?_)
  · have c8 := ci_eq c8
    refine lv_iconst (v := (-1)) hx hb dX12_bars_31 (by decide) ?_
    exact ret _ _ _ _ (-1) () dX12_bars_32 trivial hP hD hS
  have c8 := ci_ne c8
  refine lv_aload_n hx hb dX12_bars_14 rfl (lv_at hl 0 rfl) ?_
  refine lv_iload_n hx hb dX12_bars_15 rfl (lv_at hl 1 rfl) ?_
  refine lv_iload_n hx hb dX12_bars_16 rfl (lv_at hl 2 rfl) ?_
  refine kcm_i hA hAB hP hD hS [true, true, true, true] rfl (fun _ => rfl) (fun hPc hDc => va_runV (As := [.int p1, .int p2]) (rest := []) ⟨hx, hb, hml, hown, hts⟩ (k_X12_doesBar l D κ β a12 r12 v12_keptMany v12_done v12_sheets v12_holes v12_worms v12_laidMany v12_wanted v12_orderMany v12_firstOrder v12_lines v12_marks v12_dots v12_madeIn v12_bound v12_places v12_maps v12_tapeMany v12_stories v12_base v12_at v12_ends v12_fault v12_opened v12_bodies v12_ran v12_ownKind v12_ownNumber f12_may f12_houseOf f12_inkOf H.size p1 p2 i1 i2 i3 i4 i5 i6 i7 i8 i9 i10 i11 i12 i13 i14 i15 i16 i17) (cwV 2 hts gX12_bars_X12_doesBar rfl rfl rfl (by decide +kernel) ⟨Nat.le_of_ble_eq_true rfl, Nat.le_of_ble_eq_true rfl⟩) (pk_V hK hS hAB hPc hDc 0 (ci := 12) rfl rfl rfl) rfl rfl hl.1 rfl (lv_room (Nat.le_of_ble_eq_true rfl)) dX12_bars_17 ⟨Nat.le_of_ble_eq_true rfl, Nat.le_of_ble_eq_true rfl⟩) (fun x9 u10 H locs hw hPD hS => ?_)
  have h11 : x9.toInt = 0 ∨ x9.toInt = 1 := hw
  obtain ⟨hP, hD⟩ : PD D A [O12 a12 r12 v12_keptMany v12_done v12_sheets v12_holes v12_worms v12_laidMany v12_wanted v12_orderMany v12_firstOrder v12_lines v12_marks v12_dots v12_madeIn v12_bound v12_places v12_maps v12_tapeMany v12_stories v12_base v12_at v12_ends v12_fault v12_opened v12_bodies v12_ran v12_ownKind v12_ownNumber, (cI κ (r12 0) 55 f12_may), (cI κ (r12 28) 41 f12_houseOf), (cI κ (r12 29) 41 f12_inkOf)] H := hPD
  refine lv_if_eq (tgt := 27) hx hb dX12_bars_20 (by decide) (fun c12 => ?_) (fun c12 => ?_)
  · have c12 := ci_eq c12
    refine lv_iconst (v := 0) hx hb dX12_bars_27 (by decide) ?_
    refine lv_goto (tgt := 32) hx hb dX12_bars_28 (by decide) ?_
    exact ret _ _ _ _ 0 () dX12_bars_32 trivial hP hD hS
  have c12 := ci_ne c12
  refine lv_iconst (v := 1) hx hb dX12_bars_23 (by decide) ?_
  refine lv_goto (tgt := 32) hx hb dX12_bars_24 (by decide) ?_
  exact ret _ _ _ _ 1 () dX12_bars_32 trivial hP hD hS
set_option maxHeartbeats 4000000 in
set_option maxRecDepth 100000 in
theorem k_X12_place (l : Launch) (D : va_G) (κ : Nat → ClassId) (β : Nat) (a12 : Nat) (r12 : Nat → Nat) (v12_keptMany : Int32) (v12_done : Int32) (v12_sheets : Int32) (v12_holes : Int32) (v12_worms : Int32) (v12_laidMany : Int32) (v12_wanted : Int32) (v12_orderMany : Int32) (v12_firstOrder : Int32) (v12_lines : Int32) (v12_marks : Int32) (v12_dots : Int32) (v12_madeIn : Int32) (v12_bound : Int32) (v12_places : Int32) (v12_maps : Int32) (v12_tapeMany : Int32) (v12_stories : Int32) (v12_base : Int32) (v12_at : Int32) (v12_ends : Int32) (v12_fault : Int32) (v12_opened : Int32) (v12_bodies : Int32) (v12_ran : Int32) (v12_ownKind : Int32) (v12_ownNumber : Int32) (f12_known : Nat → Int32) (f12_truly : Nat → Int32) (f12_drawn : Nat → Int32) (sz : Nat) (p1 : Int32) (p2 : Int32) (p3 : Int32) (i1 : Rg 0 40 v12_keptMany) (i2 : Rg 0 40 v12_done) (i3 : Rg 0 8 v12_sheets) (i4 : Rg 0 40 v12_holes) (i5 : Rg 0 40 v12_worms) (i6 : Rg 0 8 v12_laidMany) (i7 : Rg 0 8 v12_wanted) (i8 : Rg 0 20 v12_lines) (i9 : Rg 0 60 v12_marks) (i10 : Rg 0 40 v12_dots) (i11 : Rg 0 20 v12_places) (i12 : Rg 0 8 v12_maps) (i13 : Rg 0 120 v12_tapeMany) (i14 : Rg 0 6 v12_stories) (i15 : Rg 0 50 v12_bodies) (i16 : Rg 0 1000 v12_ran) (i17 : v12_done.toInt ≤ v12_keptMany.toInt) : Met l yX12_place wsX12_place ({ frames := 2, cells := 0, slots := 0, locals := 45 } : Room) (PcK D κ β [O12 a12 r12 v12_keptMany v12_done v12_sheets v12_holes v12_worms v12_laidMany v12_wanted v12_orderMany v12_firstOrder v12_lines v12_marks v12_dots v12_madeIn v12_bound v12_places v12_maps v12_tapeMany v12_stories v12_base v12_at v12_ends v12_fault v12_opened v12_bodies v12_ran v12_ownKind v12_ownNumber, (cI κ (r12 35) 20 f12_known), (cI κ (r12 36) 20 f12_truly), (cI κ (r12 37) 20 f12_drawn)] sz [.ref a12, .int p1, .int p2, .int p3]) (QiK D (fun (r : Int32) (u : Int32 × (Nat → Int32) × (Nat → Int32) × (Nat → Int32)) => (0 ≤ u.1.toInt ∧ u.1.toInt ≤ 20) ∧ ((¬ (0 ≤ p1.toInt ∧ p1.toInt ≤ 2000 ∧ 0 ≤ p2.toInt ∧ p2.toInt ≤ 9999 ∧ 0 ≤ p3.toInt ∧ p3.toInt ≤ 9999) ∧ r.toInt = -1 ∧ u.1.toInt = v12_places.toInt) ∨ ((0 ≤ p1.toInt ∧ p1.toInt ≤ 2000 ∧ 0 ≤ p2.toInt ∧ p2.toInt ≤ 9999 ∧ 0 ≤ p3.toInt ∧ p3.toInt ≤ 9999) ∧ v12_places.toInt = 20 ∧ r.toInt = -3 ∧ u.1.toInt = v12_places.toInt) ∨ ((0 ≤ p1.toInt ∧ p1.toInt ≤ 2000 ∧ 0 ≤ p2.toInt ∧ p2.toInt ≤ 9999 ∧ 0 ≤ p3.toInt ∧ p3.toInt ≤ 9999) ∧ v12_places.toInt < 20 ∧ r.toInt = v12_places.toInt ∧ u.1.toInt = v12_places.toInt + 1))) (fun (u : Int32 × (Nat → Int32) × (Nat → Int32) × (Nat → Int32)) => [O12 a12 r12 v12_keptMany v12_done v12_sheets v12_holes v12_worms v12_laidMany v12_wanted v12_orderMany v12_firstOrder v12_lines v12_marks v12_dots v12_madeIn v12_bound u.1 v12_maps v12_tapeMany v12_stories v12_base v12_at v12_ends v12_fault v12_opened v12_bodies v12_ran v12_ownKind v12_ownNumber, (cI κ (r12 35) 20 u.2.1), (cI κ (r12 36) 20 u.2.2.1), (cI κ (r12 37) 20 u.2.2.2)]) [O12 a12 r12 v12_keptMany v12_done v12_sheets v12_holes v12_worms v12_laidMany v12_wanted v12_orderMany v12_firstOrder v12_lines v12_marks v12_dots v12_madeIn v12_bound v12_places v12_maps v12_tapeMany v12_stories v12_base v12_at v12_ends v12_fault v12_opened v12_bodies v12_ran v12_ownKind v12_ownNumber, (cI κ (r12 35) 20 f12_known), (cI κ (r12 36) 20 f12_truly), (cI κ (r12 37) 20 f12_drawn)] sz) 0 0 (va_A [O12 a12 r12 v12_keptMany v12_done v12_sheets v12_holes v12_worms v12_laidMany v12_wanted v12_orderMany v12_firstOrder v12_lines v12_marks v12_dots v12_madeIn v12_bound v12_places v12_maps v12_tapeMany v12_stories v12_base v12_at v12_ends v12_fault v12_opened v12_bodies v12_ran v12_ownKind v12_ownNumber, (cI κ (r12 35) 20 f12_known), (cI κ (r12 36) 20 f12_truly), (cI κ (r12 37) 20 f12_drawn)] sz) := by
  refine ofK_i (cc := cX12_place) (maxL := 4) (own := RX12) (by decide) rfl rfl (Nat.le_of_ble_eq_true rfl) ?_
  intro p e s m args below meth c Q A ls hsz hx hb hml hts hown hK hA hAB hP hD hl ret
  have hS : va_S A s.heap s.heap [] := va_S.rf
  have hl : lv_has ls 4 [(0, .ref a12), (1, .int p1), (2, .int p2), (3, .int p3)] := hl
  have w0 := hts (.constantLong RX12 225 (9999)) (List.mem_of_getElem? (i := 1) rfl)
  have w1 := hts (.fieldLink RX12 262 "OlderSkinModel" "places" "I") (List.mem_of_getElem? (i := 2) rfl)
  have w2 := (fun w h => List.mem_cons_of_mem _ (List.mem_append_right _ h) : ∀ w ∈ u_ws RX12 TX12 63, w ∈ wsX12_place)
  have w3 := hts (.fieldLink RX12 71 "OlderSkinModel" "known" "[I") (List.mem_of_getElem? (i := 3) rfl)
  have w4 := hts (.fieldLink RX12 74 "OlderSkinModel" "truly" "[I") (List.mem_of_getElem? (i := 4) rfl)
  have w5 := hts (.fieldLink RX12 77 "OlderSkinModel" "drawn" "[I") (List.mem_of_getElem? (i := 5) rfl)
  have l0 : (0 : Int32).toInt = 0 := by decide
  have l1 : ((-1) : Int32).toInt = -1 := by decide
  have l2 : (0 : Int64).toInt = 0 := by decide
  have l3 : (9999 : Int64).toInt = 9999 := by decide
  have l4 : (20 : Int32).toInt = 20 := by decide
  have l5 : (1 : Int32).toInt = 1 := by decide
  have l6 : ((-3) : Int32).toInt = -3 := by decide
  have i11 : 0 ≤ v12_places.toInt ∧ v12_places.toInt ≤ 20 := i11
  refine lv_iload_n hx hb dX12_place_0 rfl (lv_at hl 1 rfl) ?_
  refine kcm_i hA hAB hP hD hS [false, false, false, false] rfl (fun _ => rfl) (fun hPc hDc => va_runS (As := [.int p1]) (rest := []) ⟨hx, hb, hml, hown, hts⟩ (k_X12_isYear l D κ β s.heap.size p1) (va_cwS 1 hts gX12_place_X12_isYear rfl rfl rfl (by decide +kernel) ⟨Nat.le_of_ble_eq_true rfl, Nat.le_of_ble_eq_true rfl⟩) (pk_S hK hS hAB hPc hDc) rfl rfl hl.1 rfl (lv_room (Nat.le_of_ble_eq_true rfl)) dX12_place_1 ⟨Nat.le_of_ble_eq_true rfl, Nat.le_of_ble_eq_true rfl⟩) (fun x1 u2 H locs hw hPD hS => ?_)
  have h3 : (x1.toInt = 1 ∧ 0 ≤ p1.toInt ∧ p1.toInt ≤ 2000) ∨ (x1.toInt = 0 ∧ (p1.toInt < 0 ∨ 2000 < p1.toInt)) := hw
  obtain ⟨hP, hD⟩ : PD D A [O12 a12 r12 v12_keptMany v12_done v12_sheets v12_holes v12_worms v12_laidMany v12_wanted v12_orderMany v12_firstOrder v12_lines v12_marks v12_dots v12_madeIn v12_bound v12_places v12_maps v12_tapeMany v12_stories v12_base v12_at v12_ends v12_fault v12_opened v12_bodies v12_ran v12_ownKind v12_ownNumber, (cI κ (r12 35) 20 f12_known), (cI κ (r12 36) 20 f12_truly), (cI κ (r12 37) 20 f12_drawn)] H := hPD
  refine lv_if_eq (tgt := 31) hx hb dX12_place_4 (by decide) (fun c4 => ?_) (fun c4 => ?_)
  · have c4 := ci_eq c4
    refine lv_iconst (v := (-1)) hx hb dX12_place_31 (by decide) ?_
    have hpo : (0 ≤ v12_places.toInt ∧ v12_places.toInt ≤ 20) ∧ ((¬ (0 ≤ p1.toInt ∧ p1.toInt ≤ 2000 ∧ 0 ≤ p2.toInt ∧ p2.toInt ≤ 9999 ∧ 0 ≤ p3.toInt ∧ p3.toInt ≤ 9999) ∧ ((-1) : Int32).toInt = -1 ∧ v12_places.toInt = v12_places.toInt) ∨ ((0 ≤ p1.toInt ∧ p1.toInt ≤ 2000 ∧ 0 ≤ p2.toInt ∧ p2.toInt ≤ 9999 ∧ 0 ≤ p3.toInt ∧ p3.toInt ≤ 9999) ∧ v12_places.toInt = 20 ∧ ((-1) : Int32).toInt = -3 ∧ v12_places.toInt = v12_places.toInt) ∨ ((0 ≤ p1.toInt ∧ p1.toInt ≤ 2000 ∧ 0 ≤ p2.toInt ∧ p2.toInt ≤ 9999 ∧ 0 ≤ p3.toInt ∧ p3.toInt ≤ 9999) ∧ v12_places.toInt < 20 ∧ ((-1) : Int32).toInt = v12_places.toInt ∧ v12_places.toInt = v12_places.toInt + 1)) := ⟨i11, (by omega)⟩
    exact ret _ _ _ _ (-1) (v12_places, f12_known, f12_truly, f12_drawn) dX12_place_32 hpo hP hD hS
  have c4 := ci_ne c4
  refine lv_iload_n hx hb dX12_place_7 rfl (lv_at hl 2 rfl) ?_
  refine lv_i2l hx hb dX12_place_8 rfl ?_
  refine lv_topl (fun x5 e6 => ?_)
  have h7 : x5.toInt = p2.toInt := cl_i2l e6
  refine lv_lconst (v := (0 : Int64)) hx hb dX12_place_9 (by decide) ?_
  refine lv_ldc2 (v := (9999 : Int64)) hx hb hown w0 dX12_place_10 ?_
  refine kcm_i hA hAB hP hD hS [false, false, false, false] rfl (fun _ => rfl) (fun hPc hDc => va_runS (As := [.long x5, .long (0 : Int64), .long (9999 : Int64)]) (rest := []) ⟨hx, hb, hml, hown, hts⟩ (k_X12_within l D κ β H.size x5 (0 : Int64) (9999 : Int64)) (va_cwS 3 hts gX12_place_X12_within rfl rfl rfl (by decide +kernel) ⟨Nat.le_of_ble_eq_true rfl, Nat.le_of_ble_eq_true rfl⟩) (pk_S hK hS hAB hPc hDc) rfl rfl hl.1 rfl (lv_room (Nat.le_of_ble_eq_true rfl)) dX12_place_13 ⟨Nat.le_of_ble_eq_true rfl, Nat.le_of_ble_eq_true rfl⟩) (fun x8 u9 H locs hw hPD hS => ?_)
  have h10 : (x8.toInt = 1 ∧ (0 : Int64).toInt ≤ x5.toInt ∧ x5.toInt ≤ (9999 : Int64).toInt) ∨ (x8.toInt = 0 ∧ (x5.toInt < (0 : Int64).toInt ∨ (9999 : Int64).toInt < x5.toInt)) := hw
  obtain ⟨hP, hD⟩ : PD D A [O12 a12 r12 v12_keptMany v12_done v12_sheets v12_holes v12_worms v12_laidMany v12_wanted v12_orderMany v12_firstOrder v12_lines v12_marks v12_dots v12_madeIn v12_bound v12_places v12_maps v12_tapeMany v12_stories v12_base v12_at v12_ends v12_fault v12_opened v12_bodies v12_ran v12_ownKind v12_ownNumber, (cI κ (r12 35) 20 f12_known), (cI κ (r12 36) 20 f12_truly), (cI κ (r12 37) 20 f12_drawn)] H := hPD
  refine lv_if_eq (tgt := 31) hx hb dX12_place_16 (by decide) (fun c11 => ?_) (fun c11 => ?_)
  · have c11 := ci_eq c11
    refine lv_iconst (v := (-1)) hx hb dX12_place_31 (by decide) ?_
    have hpo : (0 ≤ v12_places.toInt ∧ v12_places.toInt ≤ 20) ∧ ((¬ (0 ≤ p1.toInt ∧ p1.toInt ≤ 2000 ∧ 0 ≤ p2.toInt ∧ p2.toInt ≤ 9999 ∧ 0 ≤ p3.toInt ∧ p3.toInt ≤ 9999) ∧ ((-1) : Int32).toInt = -1 ∧ v12_places.toInt = v12_places.toInt) ∨ ((0 ≤ p1.toInt ∧ p1.toInt ≤ 2000 ∧ 0 ≤ p2.toInt ∧ p2.toInt ≤ 9999 ∧ 0 ≤ p3.toInt ∧ p3.toInt ≤ 9999) ∧ v12_places.toInt = 20 ∧ ((-1) : Int32).toInt = -3 ∧ v12_places.toInt = v12_places.toInt) ∨ ((0 ≤ p1.toInt ∧ p1.toInt ≤ 2000 ∧ 0 ≤ p2.toInt ∧ p2.toInt ≤ 9999 ∧ 0 ≤ p3.toInt ∧ p3.toInt ≤ 9999) ∧ v12_places.toInt < 20 ∧ ((-1) : Int32).toInt = v12_places.toInt ∧ v12_places.toInt = v12_places.toInt + 1)) := ⟨i11, (by omega)⟩
    exact ret _ _ _ _ (-1) (v12_places, f12_known, f12_truly, f12_drawn) dX12_place_32 hpo hP hD hS
  have c11 := ci_ne c11
  refine lv_iload_n hx hb dX12_place_19 rfl (lv_at hl 3 rfl) ?_
  refine lv_i2l hx hb dX12_place_20 rfl ?_
  refine lv_topl (fun x12 e13 => ?_)
  have h14 : x12.toInt = p3.toInt := cl_i2l e13
  refine lv_lconst (v := (0 : Int64)) hx hb dX12_place_21 (by decide) ?_
  refine lv_ldc2 (v := (9999 : Int64)) hx hb hown w0 dX12_place_22 ?_
  refine kcm_i hA hAB hP hD hS [false, false, false, false] rfl (fun _ => rfl) (fun hPc hDc => va_runS (As := [.long x12, .long (0 : Int64), .long (9999 : Int64)]) (rest := []) ⟨hx, hb, hml, hown, hts⟩ (k_X12_within l D κ β H.size x12 (0 : Int64) (9999 : Int64)) (va_cwS 3 hts gX12_place_X12_within rfl rfl rfl (by decide +kernel) ⟨Nat.le_of_ble_eq_true rfl, Nat.le_of_ble_eq_true rfl⟩) (pk_S hK hS hAB hPc hDc) rfl rfl hl.1 rfl (lv_room (Nat.le_of_ble_eq_true rfl)) dX12_place_25 ⟨Nat.le_of_ble_eq_true rfl, Nat.le_of_ble_eq_true rfl⟩) (fun x15 u16 H locs hw hPD hS => ?_)
  have h17 : (x15.toInt = 1 ∧ (0 : Int64).toInt ≤ x12.toInt ∧ x12.toInt ≤ (9999 : Int64).toInt) ∨ (x15.toInt = 0 ∧ (x12.toInt < (0 : Int64).toInt ∨ (9999 : Int64).toInt < x12.toInt)) := hw
  obtain ⟨hP, hD⟩ : PD D A [O12 a12 r12 v12_keptMany v12_done v12_sheets v12_holes v12_worms v12_laidMany v12_wanted v12_orderMany v12_firstOrder v12_lines v12_marks v12_dots v12_madeIn v12_bound v12_places v12_maps v12_tapeMany v12_stories v12_base v12_at v12_ends v12_fault v12_opened v12_bodies v12_ran v12_ownKind v12_ownNumber, (cI κ (r12 35) 20 f12_known), (cI κ (r12 36) 20 f12_truly), (cI κ (r12 37) 20 f12_drawn)] H := hPD
  refine lv_if_ne (tgt := 33) hx hb dX12_place_28 (by decide) (fun c18 => ?_) (fun c18 => ?_)
  · have c18 := ci_ne c18
    refine lv_aload_n hx hb dX12_place_33 rfl (lv_at hl 0 rfl) ?_
    refine va_get (D := D) (ci := 12) (v := .int v12_places) (C := RX12) (T := TX12) (N := 63) hx hb hts w2 hown hK.1 hP 0 rfl rfl 34 (by decide) w1 (fun _ h9 => h9) rfl dX12_place_34 ?_
    refine lv_bipush (v := 20) hx hb dX12_place_37 (by decide) ?_
    refine lv_icmp_ne (tgt := 45) hx hb dX12_place_39 (by decide) (fun c19 => ?_) (fun c19 => ?_)
    · have c19 := ci_ne c19
      refine lv_aload_n hx hb dX12_place_45 rfl (lv_at hl 0 rfl) ?_
      refine va_get (D := D) (ci := 12) (v := .ref (r12 35)) (C := RX12) (T := TX12) (N := 63) hx hb hts w2 hown hK.1 hP 0 rfl rfl 35 (by decide) w3 (fun _ h9 => h9) rfl dX12_place_46 ?_
      refine lv_aload_n hx hb dX12_place_49 rfl (lv_at hl 0 rfl) ?_
      refine va_get (D := D) (ci := 12) (v := .int v12_places) (C := RX12) (T := TX12) (N := 63) hx hb hts w2 hown hK.1 hP 0 rfl rfl 34 (by decide) w1 (fun _ h9 => h9) rfl dX12_place_50 ?_
      refine lv_iload_n hx hb dX12_place_53 rfl (lv_at hl 1 rfl) ?_
      refine va_iast hx hb hK.1 hP hD hS 1 1 rfl rfl (i := v12_places) (ix (by omega) (by omega)) dX12_place_54 (fun H locs hP hD hS => ?_)
      obtain ⟨g20, e21⟩ : ∃ y : Nat → Int32, y = upd f12_known v12_places.toNatClampNeg p1 := ⟨_, rfl⟩
      rw [← e21] at hP hD
      obtain ⟨hP, hD⟩ : PD D A [O12 a12 r12 v12_keptMany v12_done v12_sheets v12_holes v12_worms v12_laidMany v12_wanted v12_orderMany v12_firstOrder v12_lines v12_marks v12_dots v12_madeIn v12_bound v12_places v12_maps v12_tapeMany v12_stories v12_base v12_at v12_ends v12_fault v12_opened v12_bodies v12_ran v12_ownKind v12_ownNumber, (cI κ (r12 35) 20 g20), (cI κ (r12 36) 20 f12_truly), (cI κ (r12 37) 20 f12_drawn)] H := ⟨hP, hD⟩
      refine lv_aload_n hx hb dX12_place_55 rfl (lv_at hl 0 rfl) ?_
      refine va_get (D := D) (ci := 12) (v := .ref (r12 36)) (C := RX12) (T := TX12) (N := 63) hx hb hts w2 hown hK.1 hP 0 rfl rfl 36 (by decide) w4 (fun _ h9 => h9) rfl dX12_place_56 ?_
      refine lv_aload_n hx hb dX12_place_59 rfl (lv_at hl 0 rfl) ?_
      refine va_get (D := D) (ci := 12) (v := .int v12_places) (C := RX12) (T := TX12) (N := 63) hx hb hts w2 hown hK.1 hP 0 rfl rfl 34 (by decide) w1 (fun _ h9 => h9) rfl dX12_place_60 ?_
      refine lv_iload_n hx hb dX12_place_63 rfl (lv_at hl 2 rfl) ?_
      refine va_iast hx hb hK.1 hP hD hS 2 1 rfl rfl (i := v12_places) (ix (by omega) (by omega)) dX12_place_64 (fun H locs hP hD hS => ?_)
      obtain ⟨g22, e23⟩ : ∃ y : Nat → Int32, y = upd f12_truly v12_places.toNatClampNeg p2 := ⟨_, rfl⟩
      rw [← e23] at hP hD
      obtain ⟨hP, hD⟩ : PD D A [O12 a12 r12 v12_keptMany v12_done v12_sheets v12_holes v12_worms v12_laidMany v12_wanted v12_orderMany v12_firstOrder v12_lines v12_marks v12_dots v12_madeIn v12_bound v12_places v12_maps v12_tapeMany v12_stories v12_base v12_at v12_ends v12_fault v12_opened v12_bodies v12_ran v12_ownKind v12_ownNumber, (cI κ (r12 35) 20 g20), (cI κ (r12 36) 20 g22), (cI κ (r12 37) 20 f12_drawn)] H := ⟨hP, hD⟩
      refine lv_aload_n hx hb dX12_place_65 rfl (lv_at hl 0 rfl) ?_
      refine va_get (D := D) (ci := 12) (v := .ref (r12 37)) (C := RX12) (T := TX12) (N := 63) hx hb hts w2 hown hK.1 hP 0 rfl rfl 37 (by decide) w5 (fun _ h9 => h9) rfl dX12_place_66 ?_
      refine lv_aload_n hx hb dX12_place_69 rfl (lv_at hl 0 rfl) ?_
      refine va_get (D := D) (ci := 12) (v := .int v12_places) (C := RX12) (T := TX12) (N := 63) hx hb hts w2 hown hK.1 hP 0 rfl rfl 34 (by decide) w1 (fun _ h9 => h9) rfl dX12_place_70 ?_
      refine lv_iload_n hx hb dX12_place_73 rfl (lv_at hl 3 rfl) ?_
      refine va_iast hx hb hK.1 hP hD hS 3 1 rfl rfl (i := v12_places) (ix (by omega) (by omega)) dX12_place_74 (fun H locs hP hD hS => ?_)
      obtain ⟨g24, e25⟩ : ∃ y : Nat → Int32, y = upd f12_drawn v12_places.toNatClampNeg p3 := ⟨_, rfl⟩
      rw [← e25] at hP hD
      obtain ⟨hP, hD⟩ : PD D A [O12 a12 r12 v12_keptMany v12_done v12_sheets v12_holes v12_worms v12_laidMany v12_wanted v12_orderMany v12_firstOrder v12_lines v12_marks v12_dots v12_madeIn v12_bound v12_places v12_maps v12_tapeMany v12_stories v12_base v12_at v12_ends v12_fault v12_opened v12_bodies v12_ran v12_ownKind v12_ownNumber, (cI κ (r12 35) 20 g20), (cI κ (r12 36) 20 g22), (cI κ (r12 37) 20 g24)] H := ⟨hP, hD⟩
      refine lv_aload_n hx hb dX12_place_75 rfl (lv_at hl 0 rfl) ?_
      refine lv_dup hx hb dX12_place_76 rfl ?_
      refine va_get (D := D) (ci := 12) (v := .int v12_places) (C := RX12) (T := TX12) (N := 63) hx hb hts w2 hown hK.1 hP 0 rfl rfl 34 (by decide) w1 (fun _ h9 => h9) rfl dX12_place_77 ?_
      refine lv_iconst (v := 1) hx hb dX12_place_80 (by decide) ?_
      refine lv_iadd hx hb dX12_place_81 ?_
      refine lv_topi (fun x26 e27 => ?_)
      try have h28 : x26.toInt = v12_places.toInt + (1 : Int32).toInt := ci_add e27 (by omega) (by omega)
      refine va_put (D := D) (ci := 12) (v := .int x26) (ty := .int) (C := RX12) (T := TX12) (N := 63) hx hb hts w2 tyX12 tyX12_ok nmX12 hown hK.1 hP hD hS 0 rfl rfl 34 (by decide) w1 (fun _ h9 => h9) rfl (by decide +kernel) rfl rfl (Nat.le_of_ble_eq_true rfl) dX12_place_82 (fun H locs hP hD hS => ?_)
      obtain ⟨hP, hD⟩ : PD D A [O12 a12 r12 v12_keptMany v12_done v12_sheets v12_holes v12_worms v12_laidMany v12_wanted v12_orderMany v12_firstOrder v12_lines v12_marks v12_dots v12_madeIn v12_bound x26 v12_maps v12_tapeMany v12_stories v12_base v12_at v12_ends v12_fault v12_opened v12_bodies v12_ran v12_ownKind v12_ownNumber, (cI κ (r12 35) 20 g20), (cI κ (r12 36) 20 g22), (cI κ (r12 37) 20 g24)] H := ⟨hP, hD⟩
      have h29 : 0 ≤ x26.toInt ∧ x26.toInt ≤ 20 := by omega
      refine lv_aload_n hx hb dX12_place_85 rfl (lv_at hl 0 rfl) ?_
      refine va_get (D := D) (ci := 12) (v := .int x26) (C := RX12) (T := TX12) (N := 63) hx hb hts w2 hown hK.1 hP 0 rfl rfl 34 (by decide) w1 (fun _ h9 => h9) rfl dX12_place_86 ?_
      refine lv_iconst (v := 1) hx hb dX12_place_89 (by decide) ?_
      refine lv_isub hx hb dX12_place_90 ?_
      refine lv_topi (fun x30 e31 => ?_)
      try have h32 : x30.toInt = x26.toInt - (1 : Int32).toInt := ci_sub e31 (by omega) (by omega)
      have hpo : (0 ≤ x26.toInt ∧ x26.toInt ≤ 20) ∧ ((¬ (0 ≤ p1.toInt ∧ p1.toInt ≤ 2000 ∧ 0 ≤ p2.toInt ∧ p2.toInt ≤ 9999 ∧ 0 ≤ p3.toInt ∧ p3.toInt ≤ 9999) ∧ x30.toInt = -1 ∧ x26.toInt = v12_places.toInt) ∨ ((0 ≤ p1.toInt ∧ p1.toInt ≤ 2000 ∧ 0 ≤ p2.toInt ∧ p2.toInt ≤ 9999 ∧ 0 ≤ p3.toInt ∧ p3.toInt ≤ 9999) ∧ v12_places.toInt = 20 ∧ x30.toInt = -3 ∧ x26.toInt = v12_places.toInt) ∨ ((0 ≤ p1.toInt ∧ p1.toInt ≤ 2000 ∧ 0 ≤ p2.toInt ∧ p2.toInt ≤ 9999 ∧ 0 ≤ p3.toInt ∧ p3.toInt ≤ 9999) ∧ v12_places.toInt < 20 ∧ x30.toInt = v12_places.toInt ∧ x26.toInt = v12_places.toInt + 1)) := ⟨h29, (by omega)⟩
      exact ret _ _ _ _ x30 (x26, g20, g22, g24) dX12_place_91 hpo hP hD hS
    have c19 := ci_eq c19
    refine lv_bipush (v := (-3)) hx hb dX12_place_42 (by decide) ?_
    have hpo : (0 ≤ v12_places.toInt ∧ v12_places.toInt ≤ 20) ∧ ((¬ (0 ≤ p1.toInt ∧ p1.toInt ≤ 2000 ∧ 0 ≤ p2.toInt ∧ p2.toInt ≤ 9999 ∧ 0 ≤ p3.toInt ∧ p3.toInt ≤ 9999) ∧ ((-3) : Int32).toInt = -1 ∧ v12_places.toInt = v12_places.toInt) ∨ ((0 ≤ p1.toInt ∧ p1.toInt ≤ 2000 ∧ 0 ≤ p2.toInt ∧ p2.toInt ≤ 9999 ∧ 0 ≤ p3.toInt ∧ p3.toInt ≤ 9999) ∧ v12_places.toInt = 20 ∧ ((-3) : Int32).toInt = -3 ∧ v12_places.toInt = v12_places.toInt) ∨ ((0 ≤ p1.toInt ∧ p1.toInt ≤ 2000 ∧ 0 ≤ p2.toInt ∧ p2.toInt ≤ 9999 ∧ 0 ≤ p3.toInt ∧ p3.toInt ≤ 9999) ∧ v12_places.toInt < 20 ∧ ((-3) : Int32).toInt = v12_places.toInt ∧ v12_places.toInt = v12_places.toInt + 1)) := ⟨i11, (by omega)⟩
    exact ret _ _ _ _ (-3) (v12_places, f12_known, f12_truly, f12_drawn) dX12_place_44 hpo hP hD hS
  have c18 := ci_eq c18
  refine lv_iconst (v := (-1)) hx hb dX12_place_31 (by decide) ?_
  have hpo : (0 ≤ v12_places.toInt ∧ v12_places.toInt ≤ 20) ∧ ((¬ (0 ≤ p1.toInt ∧ p1.toInt ≤ 2000 ∧ 0 ≤ p2.toInt ∧ p2.toInt ≤ 9999 ∧ 0 ≤ p3.toInt ∧ p3.toInt ≤ 9999) ∧ ((-1) : Int32).toInt = -1 ∧ v12_places.toInt = v12_places.toInt) ∨ ((0 ≤ p1.toInt ∧ p1.toInt ≤ 2000 ∧ 0 ≤ p2.toInt ∧ p2.toInt ≤ 9999 ∧ 0 ≤ p3.toInt ∧ p3.toInt ≤ 9999) ∧ v12_places.toInt = 20 ∧ ((-1) : Int32).toInt = -3 ∧ v12_places.toInt = v12_places.toInt) ∨ ((0 ≤ p1.toInt ∧ p1.toInt ≤ 2000 ∧ 0 ≤ p2.toInt ∧ p2.toInt ≤ 9999 ∧ 0 ≤ p3.toInt ∧ p3.toInt ≤ 9999) ∧ v12_places.toInt < 20 ∧ ((-1) : Int32).toInt = v12_places.toInt ∧ v12_places.toInt = v12_places.toInt + 1)) := ⟨i11, (by omega)⟩
  exact ret _ _ _ _ (-1) (v12_places, f12_known, f12_truly, f12_drawn) dX12_place_32 hpo hP hD hS
set_option maxHeartbeats 4000000 in
set_option maxRecDepth 100000 in
theorem k_X12_apart (l : Launch) (D : va_G) (κ : Nat → ClassId) (β : Nat) (sz : Nat) (p1 : Int32) (p2 : Int32) : Met l yX12_apart wsX12_apart ({ frames := 1, cells := 0, slots := 0, locals := 20 } : Room) (PcK D κ β [] sz [.int p1, .int p2]) (QiK D (fun (r : Int32) (u : Unit) => True) (fun (u : Unit) => []) [] sz) 0 0 (va_A [] sz) := by
  refine ofK_i (cc := cX12_apart) (maxL := 2) (own := RX12) (by decide) rfl rfl (Nat.le_of_ble_eq_true rfl) ?_
  intro p e s m args below meth c Q A ls hsz hx hb hml hts hown hK hA hAB hP hD hl ret
  have hS : va_S A s.heap s.heap [] := va_S.rf
  have hl : lv_has ls 2 [(0, .int p1), (1, .int p2)] := hl
  have l0 : (100 : Int32).toInt = 100 := by decide
  refine lv_iload_n hx hb dX12_apart_0 rfl (lv_at hl 0 rfl) ?_
  refine lv_bipush (v := 100) hx hb dX12_apart_1 (by decide) ?_
  refine lv_idiv hx hb dX12_apart_3 (by decide) ?_
  refine lv_topi (fun x1 e2 => ?_)
  have h3 := ci_divL (n := 100) (by decide) (by decide) e2
  refine lv_iload_n hx hb dX12_apart_4 rfl (lv_at hl 1 rfl) ?_
  refine lv_bipush (v := 100) hx hb dX12_apart_5 (by decide) ?_
  refine lv_idiv hx hb dX12_apart_7 (by decide) ?_
  refine lv_topi (fun x4 e5 => ?_)
  have h6 := ci_divL (n := 100) (by decide) (by decide) e5
  refine lv_isub hx hb dX12_apart_8 ?_
  refine lv_topi (fun x7 e8 => ?_)
  try have h9 : x7.toInt = x1.toInt - x4.toInt := ci_sub e8 (by omega) (by omega)
  refine kcm_i hA hAB hP hD hS [] rfl (fun _ => rfl) (fun hPc hDc => va_runS (As := [.int x7]) (rest := []) ⟨hx, hb, hml, hown, hts⟩ (k_X12_size l D κ β s.heap.size x7) (va_cwS 1 hts gX12_apart_X12_size rfl rfl rfl (by decide +kernel) ⟨Nat.le_of_ble_eq_true rfl, Nat.le_of_ble_eq_true rfl⟩) (pk_S hK hS hAB hPc hDc) rfl rfl hl.1 rfl (lv_room (Nat.le_of_ble_eq_true rfl)) dX12_apart_9 ⟨Nat.le_of_ble_eq_true rfl, Nat.le_of_ble_eq_true rfl⟩) (fun x10 u11 H locs hw hPD hS => ?_)
  obtain ⟨hP, hD⟩ : PD D A [] H := hPD
  refine lv_iload_n hx hb dX12_apart_12 rfl (lv_at hl 0 rfl) ?_
  refine lv_bipush (v := 100) hx hb dX12_apart_13 (by decide) ?_
  refine lv_irem hx hb dX12_apart_15 (by decide) ?_
  refine lv_topi (fun x12 e13 => ?_)
  have h14 := ci_remL (n := 100) (by decide) (by decide) e13
  refine lv_iload_n hx hb dX12_apart_16 rfl (lv_at hl 1 rfl) ?_
  refine lv_bipush (v := 100) hx hb dX12_apart_17 (by decide) ?_
  refine lv_irem hx hb dX12_apart_19 (by decide) ?_
  refine lv_topi (fun x15 e16 => ?_)
  have h17 := ci_remL (n := 100) (by decide) (by decide) e16
  refine lv_isub hx hb dX12_apart_20 ?_
  refine lv_topi (fun x18 e19 => ?_)
  try have h20 : x18.toInt = x12.toInt - x15.toInt := ci_sub e19 (by omega) (by omega)
  refine kcm_i hA hAB hP hD hS [] rfl (fun _ => rfl) (fun hPc hDc => va_runS (As := [.int x18]) (rest := [.int x10]) ⟨hx, hb, hml, hown, hts⟩ (k_X12_size l D κ β H.size x18) (va_cwS 1 hts gX12_apart_X12_size rfl rfl rfl (by decide +kernel) ⟨Nat.le_of_ble_eq_true rfl, Nat.le_of_ble_eq_true rfl⟩) (pk_S hK hS hAB hPc hDc) rfl rfl hl.1 rfl (lv_room (Nat.le_of_ble_eq_true rfl)) dX12_apart_21 ⟨Nat.le_of_ble_eq_true rfl, Nat.le_of_ble_eq_true rfl⟩) (fun x21 u22 H locs hw hPD hS => ?_)
  obtain ⟨hP, hD⟩ : PD D A [] H := hPD
  refine lv_iadd hx hb dX12_apart_24 ?_
  refine lv_topi (fun x23 e24 => ?_)
  try have h25 : x23.toInt = x10.toInt + x21.toInt := ci_add e24 (by omega) (by omega)
  exact ret _ _ _ _ x23 () dX12_apart_25 trivial hP hD hS
set_option maxHeartbeats 4000000 in
set_option maxRecDepth 100000 in
theorem k_X12_lateMany (l : Launch) (D : va_G) (κ : Nat → ClassId) (β : Nat) (a12 : Nat) (r12 : Nat → Nat) (v12_keptMany : Int32) (v12_done : Int32) (v12_sheets : Int32) (v12_holes : Int32) (v12_worms : Int32) (v12_laidMany : Int32) (v12_wanted : Int32) (v12_orderMany : Int32) (v12_firstOrder : Int32) (v12_lines : Int32) (v12_marks : Int32) (v12_dots : Int32) (v12_madeIn : Int32) (v12_bound : Int32) (v12_places : Int32) (v12_maps : Int32) (v12_tapeMany : Int32) (v12_stories : Int32) (v12_base : Int32) (v12_at : Int32) (v12_ends : Int32) (v12_fault : Int32) (v12_opened : Int32) (v12_bodies : Int32) (v12_ran : Int32) (v12_ownKind : Int32) (v12_ownNumber : Int32) (f12_known : Nat → Int32) (sz : Nat) (p1 : Int32) (i1 : Rg 0 40 v12_keptMany) (i2 : Rg 0 40 v12_done) (i3 : Rg 0 8 v12_sheets) (i4 : Rg 0 40 v12_holes) (i5 : Rg 0 40 v12_worms) (i6 : Rg 0 8 v12_laidMany) (i7 : Rg 0 8 v12_wanted) (i8 : Rg 0 20 v12_lines) (i9 : Rg 0 60 v12_marks) (i10 : Rg 0 40 v12_dots) (i11 : Rg 0 20 v12_places) (i12 : Rg 0 8 v12_maps) (i13 : Rg 0 120 v12_tapeMany) (i14 : Rg 0 6 v12_stories) (i15 : Rg 0 50 v12_bodies) (i16 : Rg 0 1000 v12_ran) (i17 : v12_done.toInt ≤ v12_keptMany.toInt) : Met l yX12_lateMany wsX12_lateMany ({ frames := 0, cells := 0, slots := 0, locals := 0 } : Room) (PcK D κ β [O12 a12 r12 v12_keptMany v12_done v12_sheets v12_holes v12_worms v12_laidMany v12_wanted v12_orderMany v12_firstOrder v12_lines v12_marks v12_dots v12_madeIn v12_bound v12_places v12_maps v12_tapeMany v12_stories v12_base v12_at v12_ends v12_fault v12_opened v12_bodies v12_ran v12_ownKind v12_ownNumber, (cI κ (r12 35) 20 f12_known)] sz [.ref a12, .int p1]) (QiK D (fun (r : Int32) (u : Unit) => True) (fun (u : Unit) => [O12 a12 r12 v12_keptMany v12_done v12_sheets v12_holes v12_worms v12_laidMany v12_wanted v12_orderMany v12_firstOrder v12_lines v12_marks v12_dots v12_madeIn v12_bound v12_places v12_maps v12_tapeMany v12_stories v12_base v12_at v12_ends v12_fault v12_opened v12_bodies v12_ran v12_ownKind v12_ownNumber, (cI κ (r12 35) 20 f12_known)]) [O12 a12 r12 v12_keptMany v12_done v12_sheets v12_holes v12_worms v12_laidMany v12_wanted v12_orderMany v12_firstOrder v12_lines v12_marks v12_dots v12_madeIn v12_bound v12_places v12_maps v12_tapeMany v12_stories v12_base v12_at v12_ends v12_fault v12_opened v12_bodies v12_ran v12_ownKind v12_ownNumber, (cI κ (r12 35) 20 f12_known)] sz) 0 0 (va_A [O12 a12 r12 v12_keptMany v12_done v12_sheets v12_holes v12_worms v12_laidMany v12_wanted v12_orderMany v12_firstOrder v12_lines v12_marks v12_dots v12_madeIn v12_bound v12_places v12_maps v12_tapeMany v12_stories v12_base v12_at v12_ends v12_fault v12_opened v12_bodies v12_ran v12_ownKind v12_ownNumber, (cI κ (r12 35) 20 f12_known)] sz) := by
  refine ofK_i (cc := cX12_lateMany) (maxL := 4) (own := RX12) (by decide) rfl rfl (Nat.le_of_ble_eq_true rfl) ?_
  intro p e s m args below meth c Q A ls hsz hx hb hml hts hown hK hA hAB hP hD hl ret
  have hS : va_S A s.heap s.heap [] := va_S.rf
  have hl : lv_has ls 4 [(0, .ref a12), (1, .int p1)] := hl
  have w0 := hts (.fieldLink RX12 262 "OlderSkinModel" "places" "I") (List.mem_of_getElem? (i := 1) rfl)
  have w1 := (fun w h => List.mem_cons_of_mem _ (List.mem_append_right _ h) : ∀ w ∈ u_ws RX12 TX12 63, w ∈ wsX12_lateMany)
  have w2 := hts (.fieldLink RX12 71 "OlderSkinModel" "known" "[I") (List.mem_of_getElem? (i := 2) rfl)
  have l0 : (0 : Int32).toInt = 0 := by decide
  have l1 : (1 : Int32).toInt = 1 := by decide
  have i11 : 0 ≤ v12_places.toInt ∧ v12_places.toInt ≤ 20 := i11
  refine lv_iconst (v := 0) hx hb dX12_lateMany_0 (by decide) ?_
  refine lv_istore_n (lv' := [(2, .int 0), (0, .ref a12), (1, .int p1)]) hx hb dX12_lateMany_1 rfl hl (by decide) rfl (fun ls hl => ?_)
  refine lv_iconst (v := 0) hx hb dX12_lateMany_2 (by decide) ?_
  refine lv_istore_n (lv' := [(3, .int 0), (2, .int 0), (0, .ref a12), (1, .int p1)]) hx hb dX12_lateMany_3 rfl hl (by decide) rfl (fun ls hl => ?_)
  have lp4 : ∀ (n4 : Nat) (k1 : Int32) (k2 : Int32), (0 ≤ k1.toInt) → (v12_places.toInt - k1.toInt).toNat < n4 → ∀ (H : Heap) (locs : List Loc), va_P D vwCl [O12 a12 r12 v12_keptMany v12_done v12_sheets v12_holes v12_worms v12_laidMany v12_wanted v12_orderMany v12_firstOrder v12_lines v12_marks v12_dots v12_madeIn v12_bound v12_places v12_maps v12_tapeMany v12_stories v12_base v12_at v12_ends v12_fault v12_opened v12_bodies v12_ran v12_ownKind v12_ownNumber, (cI κ (r12 35) 20 f12_known)] H → va_D A [O12 a12 r12 v12_keptMany v12_done v12_sheets v12_holes v12_worms v12_laidMany v12_wanted v12_orderMany v12_firstOrder v12_lines v12_marks v12_dots v12_madeIn v12_bound v12_places v12_maps v12_tapeMany v12_stories v12_base v12_at v12_ends v12_fault v12_opened v12_bodies v12_ran v12_ownKind v12_ownNumber, (cI κ (r12 35) 20 f12_known)] → va_S A s.heap H locs → ∀ ls : Array Slot, lv_has ls 4 [(3, .int k1), (2, .int k2), (0, .ref a12), (1, .int p1)] → W p l e ({ frames := 0, cells := 0, slots := 0, locals := 0 } : Room) s m args below meth c H locs 0 0 Q (F0 m 4 ls []) := by
    intro n4
    induction n4 with
    | zero =>
      intro k1 k2 h3 m4
      exact absurd m4 (Nat.not_lt_zero _)
    | succ n4 ih4 =>
      intro k1 k2 h3 m4 H locs hP hD hS ls hl
      refine lv_iload_n hx hb dX12_lateMany_4 rfl (lv_at hl 0 rfl) ?_
      refine lv_aload_n hx hb dX12_lateMany_5 rfl (lv_at hl 2 rfl) ?_
      refine va_get (D := D) (ci := 12) (v := .int v12_places) (C := RX12) (T := TX12) (N := 63) hx hb hts w1 hown hK.1 hP 0 rfl rfl 34 (by decide) w0 (fun _ h9 => h9) rfl dX12_lateMany_6 ?_
      refine lv_icmp_ge (tgt := 36) hx hb dX12_lateMany_9 (by decide) (fun c5 => ?_) (fun c5 => ?_)
      · have c5 := ci_le c5
        refine lv_iload_n hx hb dX12_lateMany_36 rfl (lv_at hl 1 rfl) ?_
        exact ret _ _ _ _ k2 () dX12_lateMany_37 trivial hP hD hS
      have c5 := ci_nle c5
      refine lv_iload_n hx hb dX12_lateMany_12 rfl (lv_at hl 1 rfl) ?_
      refine lv_aload_n hx hb dX12_lateMany_13 rfl (lv_at hl 2 rfl) ?_
      refine va_get (D := D) (ci := 12) (v := .ref (r12 35)) (C := RX12) (T := TX12) (N := 63) hx hb hts w1 hown hK.1 hP 0 rfl rfl 35 (by decide) w2 (fun _ h9 => h9) rfl dX12_lateMany_14 ?_
      refine lv_iload_n hx hb dX12_lateMany_17 rfl (lv_at hl 0 rfl) ?_
      refine va_iald hx hb hK.1 hP 1 1 rfl rfl (i := k1) (ix (by omega) (by omega)) dX12_lateMany_18 ?_
      refine lv_topi (fun x6 e7 => ?_)
      refine lv_iload_n hx hb dX12_lateMany_19 rfl (lv_at hl 3 rfl) ?_
      refine lv_icmp_le (tgt := 27) hx hb dX12_lateMany_20 (by decide) (fun c8 => ?_) (fun c8 => ?_)
      · have c8 := ci_le c8
        refine lv_iconst (v := 0) hx hb dX12_lateMany_27 (by decide) ?_
        refine lv_iadd hx hb dX12_lateMany_28 ?_
        refine lv_topi (fun x9 e10 => ?_)
        try have h11 : x9.toInt = k2.toInt + (0 : Int32).toInt := ci_add e10 (by omega) (by omega)
        refine lv_istore_n (lv' := [(2, .int x9), (3, .int k1), (0, .ref a12), (1, .int p1)]) hx hb dX12_lateMany_29 rfl hl (by decide) rfl (fun ls hl => ?_)
        obtain ⟨x12, e13⟩ : ∃ y : Int32, y = k1 + 1 := ⟨_, rfl⟩
        refine lv_iinc (v := x12) (lv' := [(3, .int x12), (2, .int x9), (0, .ref a12), (1, .int p1)]) hx hb dX12_lateMany_30 hl (k := 1) rfl (by rw [e13]; rfl) (by decide) rfl (fun ls hl => ?_)
        try have h14 : x12.toInt = k1.toInt + (1 : Int32).toInt := ci_add e13 (by omega) (by omega)
        refine lv_goto (tgt := 4) hx hb dX12_lateMany_33 (by decide) ?_
        exact ih4 x12 x9 (by omega) (by omega) _ _ hP hD hS _ hl
      have c8 := ci_nle c8
      refine lv_iconst (v := 1) hx hb dX12_lateMany_23 (by decide) ?_
      refine lv_goto (tgt := 28) hx hb dX12_lateMany_24 (by decide) ?_
      refine lv_iadd hx hb dX12_lateMany_28 ?_
      refine lv_topi (fun x15 e16 => ?_)
      try have h17 : x15.toInt = k2.toInt + (1 : Int32).toInt := ci_add e16 (by omega) (by omega)
      refine lv_istore_n (lv' := [(2, .int x15), (3, .int k1), (0, .ref a12), (1, .int p1)]) hx hb dX12_lateMany_29 rfl hl (by decide) rfl (fun ls hl => ?_)
      obtain ⟨x18, e19⟩ : ∃ y : Int32, y = k1 + 1 := ⟨_, rfl⟩
      refine lv_iinc (v := x18) (lv' := [(3, .int x18), (2, .int x15), (0, .ref a12), (1, .int p1)]) hx hb dX12_lateMany_30 hl (k := 1) rfl (by rw [e19]; rfl) (by decide) rfl (fun ls hl => ?_)
      try have h20 : x18.toInt = k1.toInt + (1 : Int32).toInt := ci_add e19 (by omega) (by omega)
      refine lv_goto (tgt := 4) hx hb dX12_lateMany_33 (by decide) ?_
      exact ih4 x18 x15 (by omega) (by omega) _ _ hP hD hS _ hl
  exact lp4 ((v12_places.toInt - (0 : Int32).toInt).toNat + 1) 0 0 (by omega) (by omega) _ _ hP hD hS _ hl
set_option maxHeartbeats 4000000 in
set_option maxRecDepth 100000 in
theorem k_X12_lateOff (l : Launch) (D : va_G) (κ : Nat → ClassId) (β : Nat) (a12 : Nat) (r12 : Nat → Nat) (v12_keptMany : Int32) (v12_done : Int32) (v12_sheets : Int32) (v12_holes : Int32) (v12_worms : Int32) (v12_laidMany : Int32) (v12_wanted : Int32) (v12_orderMany : Int32) (v12_firstOrder : Int32) (v12_lines : Int32) (v12_marks : Int32) (v12_dots : Int32) (v12_madeIn : Int32) (v12_bound : Int32) (v12_places : Int32) (v12_maps : Int32) (v12_tapeMany : Int32) (v12_stories : Int32) (v12_base : Int32) (v12_at : Int32) (v12_ends : Int32) (v12_fault : Int32) (v12_opened : Int32) (v12_bodies : Int32) (v12_ran : Int32) (v12_ownKind : Int32) (v12_ownNumber : Int32) (f12_known : Nat → Int32) (f12_truly : Nat → Int32) (f12_drawn : Nat → Int32) (sz : Nat) (p1 : Int32) (i1 : Rg 0 40 v12_keptMany) (i2 : Rg 0 40 v12_done) (i3 : Rg 0 8 v12_sheets) (i4 : Rg 0 40 v12_holes) (i5 : Rg 0 40 v12_worms) (i6 : Rg 0 8 v12_laidMany) (i7 : Rg 0 8 v12_wanted) (i8 : Rg 0 20 v12_lines) (i9 : Rg 0 60 v12_marks) (i10 : Rg 0 40 v12_dots) (i11 : Rg 0 20 v12_places) (i12 : Rg 0 8 v12_maps) (i13 : Rg 0 120 v12_tapeMany) (i14 : Rg 0 6 v12_stories) (i15 : Rg 0 50 v12_bodies) (i16 : Rg 0 1000 v12_ran) (i17 : v12_done.toInt ≤ v12_keptMany.toInt) : Met l yX12_lateOff wsX12_lateOff ({ frames := 2, cells := 0, slots := 0, locals := 41 } : Room) (PcK D κ β [O12 a12 r12 v12_keptMany v12_done v12_sheets v12_holes v12_worms v12_laidMany v12_wanted v12_orderMany v12_firstOrder v12_lines v12_marks v12_dots v12_madeIn v12_bound v12_places v12_maps v12_tapeMany v12_stories v12_base v12_at v12_ends v12_fault v12_opened v12_bodies v12_ran v12_ownKind v12_ownNumber, (cI κ (r12 35) 20 f12_known), (cI κ (r12 36) 20 f12_truly), (cI κ (r12 37) 20 f12_drawn)] sz [.ref a12, .int p1]) (QiK D (fun (r : Int32) (u : Unit) => True) (fun (u : Unit) => [O12 a12 r12 v12_keptMany v12_done v12_sheets v12_holes v12_worms v12_laidMany v12_wanted v12_orderMany v12_firstOrder v12_lines v12_marks v12_dots v12_madeIn v12_bound v12_places v12_maps v12_tapeMany v12_stories v12_base v12_at v12_ends v12_fault v12_opened v12_bodies v12_ran v12_ownKind v12_ownNumber, (cI κ (r12 35) 20 f12_known), (cI κ (r12 36) 20 f12_truly), (cI κ (r12 37) 20 f12_drawn)]) [O12 a12 r12 v12_keptMany v12_done v12_sheets v12_holes v12_worms v12_laidMany v12_wanted v12_orderMany v12_firstOrder v12_lines v12_marks v12_dots v12_madeIn v12_bound v12_places v12_maps v12_tapeMany v12_stories v12_base v12_at v12_ends v12_fault v12_opened v12_bodies v12_ran v12_ownKind v12_ownNumber, (cI κ (r12 35) 20 f12_known), (cI κ (r12 36) 20 f12_truly), (cI κ (r12 37) 20 f12_drawn)] sz) 0 0 (va_A [O12 a12 r12 v12_keptMany v12_done v12_sheets v12_holes v12_worms v12_laidMany v12_wanted v12_orderMany v12_firstOrder v12_lines v12_marks v12_dots v12_madeIn v12_bound v12_places v12_maps v12_tapeMany v12_stories v12_base v12_at v12_ends v12_fault v12_opened v12_bodies v12_ran v12_ownKind v12_ownNumber, (cI κ (r12 35) 20 f12_known), (cI κ (r12 36) 20 f12_truly), (cI κ (r12 37) 20 f12_drawn)] sz) := by
  refine ofK_i (cc := cX12_lateOff) (maxL := 4) (own := RX12) (by decide) rfl rfl (Nat.le_of_ble_eq_true rfl) ?_
  intro p e s m args below meth c Q A ls hsz hx hb hml hts hown hK hA hAB hP hD hl ret
  have hS : va_S A s.heap s.heap [] := va_S.rf
  have hl : lv_has ls 4 [(0, .ref a12), (1, .int p1)] := hl
  have w0 := hts (.fieldLink RX12 262 "OlderSkinModel" "places" "I") (List.mem_of_getElem? (i := 1) rfl)
  have w1 := (fun w h => List.mem_cons_of_mem _ (List.mem_append_right _ h) : ∀ w ∈ u_ws RX12 TX12 63, w ∈ wsX12_lateOff)
  have w2 := hts (.fieldLink RX12 71 "OlderSkinModel" "known" "[I") (List.mem_of_getElem? (i := 2) rfl)
  have w3 := hts (.fieldLink RX12 74 "OlderSkinModel" "truly" "[I") (List.mem_of_getElem? (i := 3) rfl)
  have w4 := hts (.fieldLink RX12 77 "OlderSkinModel" "drawn" "[I") (List.mem_of_getElem? (i := 4) rfl)
  have l0 : (0 : Int32).toInt = 0 := by decide
  have l1 : (1 : Int32).toInt = 1 := by decide
  have i11 : 0 ≤ v12_places.toInt ∧ v12_places.toInt ≤ 20 := i11
  refine lv_iconst (v := 0) hx hb dX12_lateOff_0 (by decide) ?_
  refine lv_istore_n (lv' := [(2, .int 0), (0, .ref a12), (1, .int p1)]) hx hb dX12_lateOff_1 rfl hl (by decide) rfl (fun ls hl => ?_)
  refine lv_iconst (v := 0) hx hb dX12_lateOff_2 (by decide) ?_
  refine lv_istore_n (lv' := [(3, .int 0), (2, .int 0), (0, .ref a12), (1, .int p1)]) hx hb dX12_lateOff_3 rfl hl (by decide) rfl (fun ls hl => ?_)
  have lp4 : ∀ (n4 : Nat) (k1 : Int32) (k2 : Int32), (0 ≤ k1.toInt) → (v12_places.toInt - k1.toInt).toNat < n4 → ∀ (H : Heap) (locs : List Loc), va_P D vwCl [O12 a12 r12 v12_keptMany v12_done v12_sheets v12_holes v12_worms v12_laidMany v12_wanted v12_orderMany v12_firstOrder v12_lines v12_marks v12_dots v12_madeIn v12_bound v12_places v12_maps v12_tapeMany v12_stories v12_base v12_at v12_ends v12_fault v12_opened v12_bodies v12_ran v12_ownKind v12_ownNumber, (cI κ (r12 35) 20 f12_known), (cI κ (r12 36) 20 f12_truly), (cI κ (r12 37) 20 f12_drawn)] H → va_D A [O12 a12 r12 v12_keptMany v12_done v12_sheets v12_holes v12_worms v12_laidMany v12_wanted v12_orderMany v12_firstOrder v12_lines v12_marks v12_dots v12_madeIn v12_bound v12_places v12_maps v12_tapeMany v12_stories v12_base v12_at v12_ends v12_fault v12_opened v12_bodies v12_ran v12_ownKind v12_ownNumber, (cI κ (r12 35) 20 f12_known), (cI κ (r12 36) 20 f12_truly), (cI κ (r12 37) 20 f12_drawn)] → va_S A s.heap H locs → ∀ ls : Array Slot, lv_has ls 4 [(3, .int k1), (2, .int k2), (0, .ref a12), (1, .int p1)] → W p l e ({ frames := 2, cells := 0, slots := 0, locals := 41 } : Room) s m args below meth c H locs 0 0 Q (F0 m 4 ls []) := by
    intro n4
    induction n4 with
    | zero =>
      intro k1 k2 h3 m4
      exact absurd m4 (Nat.not_lt_zero _)
    | succ n4 ih4 =>
      intro k1 k2 h3 m4 H locs hP hD hS ls hl
      refine lv_iload_n hx hb dX12_lateOff_4 rfl (lv_at hl 0 rfl) ?_
      refine lv_aload_n hx hb dX12_lateOff_5 rfl (lv_at hl 2 rfl) ?_
      refine va_get (D := D) (ci := 12) (v := .int v12_places) (C := RX12) (T := TX12) (N := 63) hx hb hts w1 hown hK.1 hP 0 rfl rfl 34 (by decide) w0 (fun _ h9 => h9) rfl dX12_lateOff_6 ?_
      refine lv_icmp_ge (tgt := 50) hx hb dX12_lateOff_9 (by decide) (fun c5 => ?_) (fun c5 => ?_)
      · have c5 := ci_le c5
        refine lv_iload_n hx hb dX12_lateOff_50 rfl (lv_at hl 1 rfl) ?_
        exact ret _ _ _ _ k2 () dX12_lateOff_51 trivial hP hD hS
      have c5 := ci_nle c5
      refine lv_iload_n hx hb dX12_lateOff_12 rfl (lv_at hl 1 rfl) ?_
      refine lv_aload_n hx hb dX12_lateOff_13 rfl (lv_at hl 2 rfl) ?_
      refine va_get (D := D) (ci := 12) (v := .ref (r12 35)) (C := RX12) (T := TX12) (N := 63) hx hb hts w1 hown hK.1 hP 0 rfl rfl 35 (by decide) w2 (fun _ h9 => h9) rfl dX12_lateOff_14 ?_
      refine lv_iload_n hx hb dX12_lateOff_17 rfl (lv_at hl 0 rfl) ?_
      refine va_iald hx hb hK.1 hP 1 1 rfl rfl (i := k1) (ix (by omega) (by omega)) dX12_lateOff_18 ?_
      refine lv_topi (fun x6 e7 => ?_)
      refine lv_iload_n hx hb dX12_lateOff_19 rfl (lv_at hl 3 rfl) ?_
      refine lv_icmp_le (tgt := 41) hx hb dX12_lateOff_20 (by decide) (fun c8 => ?_) (fun c8 => ?_)
      · have c8 := ci_le c8
        refine lv_iconst (v := 0) hx hb dX12_lateOff_41 (by decide) ?_
        refine lv_iadd hx hb dX12_lateOff_42 ?_
        refine lv_topi (fun x9 e10 => ?_)
        try have h11 : x9.toInt = k2.toInt + (0 : Int32).toInt := ci_add e10 (by omega) (by omega)
        refine lv_istore_n (lv' := [(2, .int x9), (3, .int k1), (0, .ref a12), (1, .int p1)]) hx hb dX12_lateOff_43 rfl hl (by decide) rfl (fun ls hl => ?_)
        obtain ⟨x12, e13⟩ : ∃ y : Int32, y = k1 + 1 := ⟨_, rfl⟩
        refine lv_iinc (v := x12) (lv' := [(3, .int x12), (2, .int x9), (0, .ref a12), (1, .int p1)]) hx hb dX12_lateOff_44 hl (k := 1) rfl (by rw [e13]; rfl) (by decide) rfl (fun ls hl => ?_)
        try have h14 : x12.toInt = k1.toInt + (1 : Int32).toInt := ci_add e13 (by omega) (by omega)
        refine lv_goto (tgt := 4) hx hb dX12_lateOff_47 (by decide) ?_
        exact ih4 x12 x9 (by omega) (by omega) _ _ hP hD hS _ hl
      have c8 := ci_nle c8
      refine lv_aload_n hx hb dX12_lateOff_23 rfl (lv_at hl 2 rfl) ?_
      refine va_get (D := D) (ci := 12) (v := .ref (r12 36)) (C := RX12) (T := TX12) (N := 63) hx hb hts w1 hown hK.1 hP 0 rfl rfl 36 (by decide) w3 (fun _ h9 => h9) rfl dX12_lateOff_24 ?_
      refine lv_iload_n hx hb dX12_lateOff_27 rfl (lv_at hl 0 rfl) ?_
      refine va_iald hx hb hK.1 hP 2 1 rfl rfl (i := k1) (ix (by omega) (by omega)) dX12_lateOff_28 ?_
      refine lv_topi (fun x15 e16 => ?_)
      refine lv_aload_n hx hb dX12_lateOff_29 rfl (lv_at hl 2 rfl) ?_
      refine va_get (D := D) (ci := 12) (v := .ref (r12 37)) (C := RX12) (T := TX12) (N := 63) hx hb hts w1 hown hK.1 hP 0 rfl rfl 37 (by decide) w4 (fun _ h9 => h9) rfl dX12_lateOff_30 ?_
      refine lv_iload_n hx hb dX12_lateOff_33 rfl (lv_at hl 0 rfl) ?_
      refine va_iald hx hb hK.1 hP 3 1 rfl rfl (i := k1) (ix (by omega) (by omega)) dX12_lateOff_34 ?_
      refine lv_topi (fun x17 e18 => ?_)
      refine kcm_i hA hAB hP hD hS [false, false, false, false] rfl (fun _ => rfl) (fun hPc hDc => va_runS (As := [.int x15, .int x17]) (rest := [.int k2]) ⟨hx, hb, hml, hown, hts⟩ (k_X12_apart l D κ β H.size x15 x17) (va_cwS 2 hts gX12_lateOff_X12_apart rfl rfl rfl (by decide +kernel) ⟨Nat.le_of_ble_eq_true rfl, Nat.le_of_ble_eq_true rfl⟩) (pk_S hK hS hAB hPc hDc) rfl rfl hl.1 rfl (lv_room (Nat.le_of_ble_eq_true rfl)) dX12_lateOff_35 ⟨Nat.le_of_ble_eq_true rfl, Nat.le_of_ble_eq_true rfl⟩) (fun x19 u20 H locs hw hPD hS => ?_)
      obtain ⟨hP, hD⟩ : PD D A [O12 a12 r12 v12_keptMany v12_done v12_sheets v12_holes v12_worms v12_laidMany v12_wanted v12_orderMany v12_firstOrder v12_lines v12_marks v12_dots v12_madeIn v12_bound v12_places v12_maps v12_tapeMany v12_stories v12_base v12_at v12_ends v12_fault v12_opened v12_bodies v12_ran v12_ownKind v12_ownNumber, (cI κ (r12 35) 20 f12_known), (cI κ (r12 36) 20 f12_truly), (cI κ (r12 37) 20 f12_drawn)] H := hPD
      refine lv_goto (tgt := 42) hx hb dX12_lateOff_38 (by decide) ?_
      refine lv_iadd hx hb dX12_lateOff_42 ?_
      refine lv_topi (fun x21 e22 => ?_)
      try have h23 : x21.toInt = k2.toInt + x19.toInt := ci_add e22 (by omega) (by omega)
      refine lv_istore_n (lv' := [(2, .int x21), (3, .int k1), (0, .ref a12), (1, .int p1)]) hx hb dX12_lateOff_43 rfl hl (by decide) rfl (fun ls hl => ?_)
      obtain ⟨x24, e25⟩ : ∃ y : Int32, y = k1 + 1 := ⟨_, rfl⟩
      refine lv_iinc (v := x24) (lv' := [(3, .int x24), (2, .int x21), (0, .ref a12), (1, .int p1)]) hx hb dX12_lateOff_44 hl (k := 1) rfl (by rw [e25]; rfl) (by decide) rfl (fun ls hl => ?_)
      try have h26 : x24.toInt = k1.toInt + (1 : Int32).toInt := ci_add e25 (by omega) (by omega)
      refine lv_goto (tgt := 4) hx hb dX12_lateOff_47 (by decide) ?_
      exact ih4 x24 x21 (by omega) (by omega) _ _ hP hD hS _ hl
  exact lp4 ((v12_places.toInt - (0 : Int32).toInt).toNat + 1) 0 0 (by omega) (by omega) _ _ hP hD hS _ hl
set_option maxHeartbeats 4000000 in
set_option maxRecDepth 100000 in
theorem k_X12_late (l : Launch) (D : va_G) (κ : Nat → ClassId) (β : Nat) (a12 : Nat) (r12 : Nat → Nat) (v12_keptMany : Int32) (v12_done : Int32) (v12_sheets : Int32) (v12_holes : Int32) (v12_worms : Int32) (v12_laidMany : Int32) (v12_wanted : Int32) (v12_orderMany : Int32) (v12_firstOrder : Int32) (v12_lines : Int32) (v12_marks : Int32) (v12_dots : Int32) (v12_madeIn : Int32) (v12_bound : Int32) (v12_places : Int32) (v12_maps : Int32) (v12_tapeMany : Int32) (v12_stories : Int32) (v12_base : Int32) (v12_at : Int32) (v12_ends : Int32) (v12_fault : Int32) (v12_opened : Int32) (v12_bodies : Int32) (v12_ran : Int32) (v12_ownKind : Int32) (v12_ownNumber : Int32) (f12_known : Nat → Int32) (f12_truly : Nat → Int32) (f12_drawn : Nat → Int32) (sz : Nat) (p1 : Int32) (p2 : Int32) (i1 : Rg 0 40 v12_keptMany) (i2 : Rg 0 40 v12_done) (i3 : Rg 0 8 v12_sheets) (i4 : Rg 0 40 v12_holes) (i5 : Rg 0 40 v12_worms) (i6 : Rg 0 8 v12_laidMany) (i7 : Rg 0 8 v12_wanted) (i8 : Rg 0 20 v12_lines) (i9 : Rg 0 60 v12_marks) (i10 : Rg 0 40 v12_dots) (i11 : Rg 0 20 v12_places) (i12 : Rg 0 8 v12_maps) (i13 : Rg 0 120 v12_tapeMany) (i14 : Rg 0 6 v12_stories) (i15 : Rg 0 50 v12_bodies) (i16 : Rg 0 1000 v12_ran) (i17 : v12_done.toInt ≤ v12_keptMany.toInt) : Met l yX12_late wsX12_late ({ frames := 3, cells := 0, slots := 0, locals := 64 } : Room) (PcK D κ β [O12 a12 r12 v12_keptMany v12_done v12_sheets v12_holes v12_worms v12_laidMany v12_wanted v12_orderMany v12_firstOrder v12_lines v12_marks v12_dots v12_madeIn v12_bound v12_places v12_maps v12_tapeMany v12_stories v12_base v12_at v12_ends v12_fault v12_opened v12_bodies v12_ran v12_ownKind v12_ownNumber, (cI κ (r12 35) 20 f12_known), (cI κ (r12 36) 20 f12_truly), (cI κ (r12 37) 20 f12_drawn)] sz [.ref a12, .int p1, .int p2]) (QiK D (fun (r : Int32) (u : Unit) => True) (fun (u : Unit) => [O12 a12 r12 v12_keptMany v12_done v12_sheets v12_holes v12_worms v12_laidMany v12_wanted v12_orderMany v12_firstOrder v12_lines v12_marks v12_dots v12_madeIn v12_bound v12_places v12_maps v12_tapeMany v12_stories v12_base v12_at v12_ends v12_fault v12_opened v12_bodies v12_ran v12_ownKind v12_ownNumber, (cI κ (r12 35) 20 f12_known), (cI κ (r12 36) 20 f12_truly), (cI κ (r12 37) 20 f12_drawn)]) [O12 a12 r12 v12_keptMany v12_done v12_sheets v12_holes v12_worms v12_laidMany v12_wanted v12_orderMany v12_firstOrder v12_lines v12_marks v12_dots v12_madeIn v12_bound v12_places v12_maps v12_tapeMany v12_stories v12_base v12_at v12_ends v12_fault v12_opened v12_bodies v12_ran v12_ownKind v12_ownNumber, (cI κ (r12 35) 20 f12_known), (cI κ (r12 36) 20 f12_truly), (cI κ (r12 37) 20 f12_drawn)] sz) 0 0 (va_A [O12 a12 r12 v12_keptMany v12_done v12_sheets v12_holes v12_worms v12_laidMany v12_wanted v12_orderMany v12_firstOrder v12_lines v12_marks v12_dots v12_madeIn v12_bound v12_places v12_maps v12_tapeMany v12_stories v12_base v12_at v12_ends v12_fault v12_opened v12_bodies v12_ran v12_ownKind v12_ownNumber, (cI κ (r12 35) 20 f12_known), (cI κ (r12 36) 20 f12_truly), (cI κ (r12 37) 20 f12_drawn)] sz) := by
  refine ofK_i (cc := cX12_late) (maxL := 3) (own := RX12) (by decide) rfl rfl (Nat.le_of_ble_eq_true rfl) ?_
  intro p e s m args below meth c Q A ls hsz hx hb hml hts hown hK hA hAB hP hD hl ret
  have hS : va_S A s.heap s.heap [] := va_S.rf
  have hl : lv_has ls 3 [(0, .ref a12), (1, .int p1), (2, .int p2)] := hl
  have l0 : (0 : Int32).toInt = 0 := by decide
  have l1 : ((-1) : Int32).toInt = -1 := by decide
  have l2 : (0 : Int64).toInt = 0 := by decide
  have l3 : (1 : Int64).toInt = 1 := by decide
  refine lv_iload_n hx hb dX12_late_0 rfl (lv_at hl 1 rfl) ?_
  refine kcm_i hA hAB hP hD hS [false, false, false, false] rfl (fun _ => rfl) (fun hPc hDc => va_runS (As := [.int p1]) (rest := []) ⟨hx, hb, hml, hown, hts⟩ (k_X12_isYear l D κ β s.heap.size p1) (va_cwS 1 hts gX12_late_X12_isYear rfl rfl rfl (by decide +kernel) ⟨Nat.le_of_ble_eq_true rfl, Nat.le_of_ble_eq_true rfl⟩) (pk_S hK hS hAB hPc hDc) rfl rfl hl.1 rfl (lv_room (Nat.le_of_ble_eq_true rfl)) dX12_late_1 ⟨Nat.le_of_ble_eq_true rfl, Nat.le_of_ble_eq_true rfl⟩) (fun x1 u2 H locs hw hPD hS => ?_)
  have h3 : (x1.toInt = 1 ∧ 0 ≤ p1.toInt ∧ p1.toInt ≤ 2000) ∨ (x1.toInt = 0 ∧ (p1.toInt < 0 ∨ 2000 < p1.toInt)) := hw
  obtain ⟨hP, hD⟩ : PD D A [O12 a12 r12 v12_keptMany v12_done v12_sheets v12_holes v12_worms v12_laidMany v12_wanted v12_orderMany v12_firstOrder v12_lines v12_marks v12_dots v12_madeIn v12_bound v12_places v12_maps v12_tapeMany v12_stories v12_base v12_at v12_ends v12_fault v12_opened v12_bodies v12_ran v12_ownKind v12_ownNumber, (cI κ (r12 35) 20 f12_known), (cI κ (r12 36) 20 f12_truly), (cI κ (r12 37) 20 f12_drawn)] H := hPD
  refine lv_if_eq (tgt := 37) hx hb dX12_late_4 (by decide) (fun c4 => ?_) (fun c4 => ?_)
  · have c4 := ci_eq c4
    refine lv_iconst (v := (-1)) hx hb dX12_late_37 (by decide) ?_
    exact ret _ _ _ _ (-1) () dX12_late_38 trivial hP hD hS
  have c4 := ci_ne c4
  refine lv_iload_n hx hb dX12_late_7 rfl (lv_at hl 2 rfl) ?_
  refine lv_i2l hx hb dX12_late_8 rfl ?_
  refine lv_topl (fun x5 e6 => ?_)
  have h7 : x5.toInt = p2.toInt := cl_i2l e6
  refine lv_lconst (v := (0 : Int64)) hx hb dX12_late_9 (by decide) ?_
  refine lv_lconst (v := (1 : Int64)) hx hb dX12_late_10 (by decide) ?_
  refine kcm_i hA hAB hP hD hS [false, false, false, false] rfl (fun _ => rfl) (fun hPc hDc => va_runS (As := [.long x5, .long (0 : Int64), .long (1 : Int64)]) (rest := []) ⟨hx, hb, hml, hown, hts⟩ (k_X12_within l D κ β H.size x5 (0 : Int64) (1 : Int64)) (va_cwS 3 hts gX12_late_X12_within rfl rfl rfl (by decide +kernel) ⟨Nat.le_of_ble_eq_true rfl, Nat.le_of_ble_eq_true rfl⟩) (pk_S hK hS hAB hPc hDc) rfl rfl hl.1 rfl (lv_room (Nat.le_of_ble_eq_true rfl)) dX12_late_11 ⟨Nat.le_of_ble_eq_true rfl, Nat.le_of_ble_eq_true rfl⟩) (fun x8 u9 H locs hw hPD hS => ?_)
  have h10 : (x8.toInt = 1 ∧ (0 : Int64).toInt ≤ x5.toInt ∧ x5.toInt ≤ (1 : Int64).toInt) ∨ (x8.toInt = 0 ∧ (x5.toInt < (0 : Int64).toInt ∨ (1 : Int64).toInt < x5.toInt)) := hw
  obtain ⟨hP, hD⟩ : PD D A [O12 a12 r12 v12_keptMany v12_done v12_sheets v12_holes v12_worms v12_laidMany v12_wanted v12_orderMany v12_firstOrder v12_lines v12_marks v12_dots v12_madeIn v12_bound v12_places v12_maps v12_tapeMany v12_stories v12_base v12_at v12_ends v12_fault v12_opened v12_bodies v12_ran v12_ownKind v12_ownNumber, (cI κ (r12 35) 20 f12_known), (cI κ (r12 36) 20 f12_truly), (cI κ (r12 37) 20 f12_drawn)] H := hPD
  refine lv_if_eq (tgt := 37) hx hb dX12_late_14 (by decide) (fun c11 => ?_) (fun c11 => ?_)
  · have c11 := ci_eq c11
    refine lv_iconst (v := (-1)) hx hb dX12_late_37 (by decide) ?_
    exact ret _ _ _ _ (-1) () dX12_late_38 trivial hP hD hS
  have c11 := ci_ne c11
  refine lv_iload_n hx hb dX12_late_17 rfl (lv_at hl 2 rfl) ?_
  refine lv_if_ne (tgt := 29) hx hb dX12_late_18 (by decide) (fun c12 => ?_) (fun c12 => ?_)
  · have c12 := ci_ne c12
    refine lv_aload_n hx hb dX12_late_29 rfl (lv_at hl 0 rfl) ?_
    refine lv_iload_n hx hb dX12_late_30 rfl (lv_at hl 1 rfl) ?_
    refine kcm_i hA hAB hP hD hS [true, true, true, true] rfl (fun _ => rfl) (fun hPc hDc => va_runV (As := [.int p1]) (rest := []) ⟨hx, hb, hml, hown, hts⟩ (k_X12_lateOff l D κ β a12 r12 v12_keptMany v12_done v12_sheets v12_holes v12_worms v12_laidMany v12_wanted v12_orderMany v12_firstOrder v12_lines v12_marks v12_dots v12_madeIn v12_bound v12_places v12_maps v12_tapeMany v12_stories v12_base v12_at v12_ends v12_fault v12_opened v12_bodies v12_ran v12_ownKind v12_ownNumber f12_known f12_truly f12_drawn H.size p1 i1 i2 i3 i4 i5 i6 i7 i8 i9 i10 i11 i12 i13 i14 i15 i16 i17) (cwV 1 hts gX12_late_X12_lateOff rfl rfl rfl (by decide +kernel) ⟨Nat.le_of_ble_eq_true rfl, Nat.le_of_ble_eq_true rfl⟩) (pk_V hK hS hAB hPc hDc 0 (ci := 12) rfl rfl rfl) rfl rfl hl.1 rfl (lv_room (Nat.le_of_ble_eq_true rfl)) dX12_late_31 ⟨Nat.le_of_ble_eq_true rfl, Nat.le_of_ble_eq_true rfl⟩) (fun x13 u14 H locs hw hPD hS => ?_)
    obtain ⟨hP, hD⟩ : PD D A [O12 a12 r12 v12_keptMany v12_done v12_sheets v12_holes v12_worms v12_laidMany v12_wanted v12_orderMany v12_firstOrder v12_lines v12_marks v12_dots v12_madeIn v12_bound v12_places v12_maps v12_tapeMany v12_stories v12_base v12_at v12_ends v12_fault v12_opened v12_bodies v12_ran v12_ownKind v12_ownNumber, (cI κ (r12 35) 20 f12_known), (cI κ (r12 36) 20 f12_truly), (cI κ (r12 37) 20 f12_drawn)] H := hPD
    refine lv_goto (tgt := 38) hx hb dX12_late_34 (by decide) ?_
    exact ret _ _ _ _ x13 () dX12_late_38 trivial hP hD hS
  have c12 := ci_eq c12
  refine lv_aload_n hx hb dX12_late_21 rfl (lv_at hl 0 rfl) ?_
  refine lv_iload_n hx hb dX12_late_22 rfl (lv_at hl 1 rfl) ?_
  refine kcm_i hA hAB hP hD hS [true, true, false, false] rfl (fun _ => rfl) (fun hPc hDc => va_runV (As := [.int p1]) (rest := []) ⟨hx, hb, hml, hown, hts⟩ (k_X12_lateMany l D κ β a12 r12 v12_keptMany v12_done v12_sheets v12_holes v12_worms v12_laidMany v12_wanted v12_orderMany v12_firstOrder v12_lines v12_marks v12_dots v12_madeIn v12_bound v12_places v12_maps v12_tapeMany v12_stories v12_base v12_at v12_ends v12_fault v12_opened v12_bodies v12_ran v12_ownKind v12_ownNumber f12_known H.size p1 i1 i2 i3 i4 i5 i6 i7 i8 i9 i10 i11 i12 i13 i14 i15 i16 i17) (cwV 1 hts gX12_late_X12_lateMany rfl rfl rfl (by decide +kernel) ⟨Nat.le_of_ble_eq_true rfl, Nat.le_of_ble_eq_true rfl⟩) (pk_V hK hS hAB hPc hDc 0 (ci := 12) rfl rfl rfl) rfl rfl hl.1 rfl (lv_room (Nat.le_of_ble_eq_true rfl)) dX12_late_23 ⟨Nat.le_of_ble_eq_true rfl, Nat.le_of_ble_eq_true rfl⟩) (fun x15 u16 H locs hw hPD hS => ?_)
  obtain ⟨hP, hD⟩ : PD D A [O12 a12 r12 v12_keptMany v12_done v12_sheets v12_holes v12_worms v12_laidMany v12_wanted v12_orderMany v12_firstOrder v12_lines v12_marks v12_dots v12_madeIn v12_bound v12_places v12_maps v12_tapeMany v12_stories v12_base v12_at v12_ends v12_fault v12_opened v12_bodies v12_ran v12_ownKind v12_ownNumber, (cI κ (r12 35) 20 f12_known), (cI κ (r12 36) 20 f12_truly), (cI κ (r12 37) 20 f12_drawn)] H := hPD
  refine lv_goto (tgt := 38) hx hb dX12_late_26 (by decide) ?_
  exact ret _ _ _ _ x15 () dX12_late_38 trivial hP hD hS
set_option maxHeartbeats 4000000 in
set_option maxRecDepth 100000 in
theorem k_X12_well (l : Launch) (D : va_G) (κ : Nat → ClassId) (β : Nat) (a12 : Nat) (r12 : Nat → Nat) (v12_keptMany : Int32) (v12_done : Int32) (v12_sheets : Int32) (v12_holes : Int32) (v12_worms : Int32) (v12_laidMany : Int32) (v12_wanted : Int32) (v12_orderMany : Int32) (v12_firstOrder : Int32) (v12_lines : Int32) (v12_marks : Int32) (v12_dots : Int32) (v12_madeIn : Int32) (v12_bound : Int32) (v12_places : Int32) (v12_maps : Int32) (v12_tapeMany : Int32) (v12_stories : Int32) (v12_base : Int32) (v12_at : Int32) (v12_ends : Int32) (v12_fault : Int32) (v12_opened : Int32) (v12_bodies : Int32) (v12_ran : Int32) (v12_ownKind : Int32) (v12_ownNumber : Int32) (f12_known : Nat → Int32) (f12_truly : Nat → Int32) (f12_drawn : Nat → Int32) (sz : Nat) (p1 : Int32) (p2 : Int32) (p3 : Int32) (i1 : Rg 0 40 v12_keptMany) (i2 : Rg 0 40 v12_done) (i3 : Rg 0 8 v12_sheets) (i4 : Rg 0 40 v12_holes) (i5 : Rg 0 40 v12_worms) (i6 : Rg 0 8 v12_laidMany) (i7 : Rg 0 8 v12_wanted) (i8 : Rg 0 20 v12_lines) (i9 : Rg 0 60 v12_marks) (i10 : Rg 0 40 v12_dots) (i11 : Rg 0 20 v12_places) (i12 : Rg 0 8 v12_maps) (i13 : Rg 0 120 v12_tapeMany) (i14 : Rg 0 6 v12_stories) (i15 : Rg 0 50 v12_bodies) (i16 : Rg 0 1000 v12_ran) (i17 : v12_done.toInt ≤ v12_keptMany.toInt) : Met l yX12_well wsX12_well ({ frames := 3, cells := 0, slots := 0, locals := 64 } : Room) (PcK D κ β [O12 a12 r12 v12_keptMany v12_done v12_sheets v12_holes v12_worms v12_laidMany v12_wanted v12_orderMany v12_firstOrder v12_lines v12_marks v12_dots v12_madeIn v12_bound v12_places v12_maps v12_tapeMany v12_stories v12_base v12_at v12_ends v12_fault v12_opened v12_bodies v12_ran v12_ownKind v12_ownNumber, (cI κ (r12 35) 20 f12_known), (cI κ (r12 36) 20 f12_truly), (cI κ (r12 37) 20 f12_drawn)] sz [.ref a12, .int p1, .int p2, .int p3]) (QiK D (fun (r : Int32) (u : Unit) => True) (fun (u : Unit) => [O12 a12 r12 v12_keptMany v12_done v12_sheets v12_holes v12_worms v12_laidMany v12_wanted v12_orderMany v12_firstOrder v12_lines v12_marks v12_dots v12_madeIn v12_bound v12_places v12_maps v12_tapeMany v12_stories v12_base v12_at v12_ends v12_fault v12_opened v12_bodies v12_ran v12_ownKind v12_ownNumber, (cI κ (r12 35) 20 f12_known), (cI κ (r12 36) 20 f12_truly), (cI κ (r12 37) 20 f12_drawn)]) [O12 a12 r12 v12_keptMany v12_done v12_sheets v12_holes v12_worms v12_laidMany v12_wanted v12_orderMany v12_firstOrder v12_lines v12_marks v12_dots v12_madeIn v12_bound v12_places v12_maps v12_tapeMany v12_stories v12_base v12_at v12_ends v12_fault v12_opened v12_bodies v12_ran v12_ownKind v12_ownNumber, (cI κ (r12 35) 20 f12_known), (cI κ (r12 36) 20 f12_truly), (cI κ (r12 37) 20 f12_drawn)] sz) 0 0 (va_A [O12 a12 r12 v12_keptMany v12_done v12_sheets v12_holes v12_worms v12_laidMany v12_wanted v12_orderMany v12_firstOrder v12_lines v12_marks v12_dots v12_madeIn v12_bound v12_places v12_maps v12_tapeMany v12_stories v12_base v12_at v12_ends v12_fault v12_opened v12_bodies v12_ran v12_ownKind v12_ownNumber, (cI κ (r12 35) 20 f12_known), (cI κ (r12 36) 20 f12_truly), (cI κ (r12 37) 20 f12_drawn)] sz) := by
  refine ofK_i (cc := cX12_well) (maxL := 11) (own := RX12) (by decide) rfl rfl (Nat.le_of_ble_eq_true rfl) ?_
  intro p e s m args below meth c Q A ls hsz hx hb hml hts hown hK hA hAB hP hD hl ret
  have hS : va_S A s.heap s.heap [] := va_S.rf
  have hl : lv_has ls 11 [(0, .ref a12), (1, .int p1), (2, .int p2), (3, .int p3)] := hl
  have w0 := hts (.constantLong RX12 249 (50)) (List.mem_of_getElem? (i := 1) rfl)
  have w1 := hts (.fieldLink RX12 262 "OlderSkinModel" "places" "I") (List.mem_of_getElem? (i := 2) rfl)
  have w2 := (fun w h => List.mem_cons_of_mem _ (List.mem_append_right _ h) : ∀ w ∈ u_ws RX12 TX12 63, w ∈ wsX12_well)
  have w3 := hts (.fieldLink RX12 71 "OlderSkinModel" "known" "[I") (List.mem_of_getElem? (i := 3) rfl)
  have w4 := hts (.constant RX12 255 (1103515245)) (List.mem_of_getElem? (i := 4) rfl)
  have w5 := hts (.fieldLink RX12 74 "OlderSkinModel" "truly" "[I") (List.mem_of_getElem? (i := 5) rfl)
  have l0 : (0 : Int32).toInt = 0 := by decide
  have l1 : ((-1) : Int32).toInt = -1 := by decide
  have l2 : (1 : Int64).toInt = 1 := by decide
  have l3 : (50 : Int64).toInt = 50 := by decide
  have l4 : (1 : Int32).toInt = 1 := by decide
  have l5 : (1103515245 : Int32).toInt = 1103515245 := by decide
  have l6 : (12345 : Int32).toInt = 12345 := by decide
  have l7 : (8 : Int32).toInt = 8 := by decide
  have l8 : (100 : Int32).toInt = 100 := by decide
  have l9 : ((-2) : Int32).toInt = -2 := by decide
  have i11 : 0 ≤ v12_places.toInt ∧ v12_places.toInt ≤ 20 := i11
  have rg3 := ci_rng p3
  refine lv_iload_n hx hb dX12_well_0 rfl (lv_at hl 1 rfl) ?_
  refine kcm_i hA hAB hP hD hS [false, false, false, false] rfl (fun _ => rfl) (fun hPc hDc => va_runS (As := [.int p1]) (rest := []) ⟨hx, hb, hml, hown, hts⟩ (k_X12_isYear l D κ β s.heap.size p1) (va_cwS 1 hts gX12_well_X12_isYear rfl rfl rfl (by decide +kernel) ⟨Nat.le_of_ble_eq_true rfl, Nat.le_of_ble_eq_true rfl⟩) (pk_S hK hS hAB hPc hDc) rfl rfl hl.1 rfl (lv_room (Nat.le_of_ble_eq_true rfl)) dX12_well_1 ⟨Nat.le_of_ble_eq_true rfl, Nat.le_of_ble_eq_true rfl⟩) (fun x1 u2 H locs hw hPD hS => ?_)
  have h3 : (x1.toInt = 1 ∧ 0 ≤ p1.toInt ∧ p1.toInt ≤ 2000) ∨ (x1.toInt = 0 ∧ (p1.toInt < 0 ∨ 2000 < p1.toInt)) := hw
  obtain ⟨hP, hD⟩ : PD D A [O12 a12 r12 v12_keptMany v12_done v12_sheets v12_holes v12_worms v12_laidMany v12_wanted v12_orderMany v12_firstOrder v12_lines v12_marks v12_dots v12_madeIn v12_bound v12_places v12_maps v12_tapeMany v12_stories v12_base v12_at v12_ends v12_fault v12_opened v12_bodies v12_ran v12_ownKind v12_ownNumber, (cI κ (r12 35) 20 f12_known), (cI κ (r12 36) 20 f12_truly), (cI κ (r12 37) 20 f12_drawn)] H := hPD
  refine lv_if_eq (tgt := 19) hx hb dX12_well_4 (by decide) (fun c4 => ?_) (fun c4 => ?_)
  · have c4 := ci_eq c4
    refine lv_iconst (v := (-1)) hx hb dX12_well_19 (by decide) ?_
    exact ret _ _ _ _ (-1) () dX12_well_20 trivial hP hD hS
  have c4 := ci_ne c4
  refine lv_iload_n hx hb dX12_well_7 rfl (lv_at hl 3 rfl) ?_
  refine lv_i2l hx hb dX12_well_8 rfl ?_
  refine lv_topl (fun x5 e6 => ?_)
  have h7 : x5.toInt = p3.toInt := cl_i2l e6
  refine lv_lconst (v := (1 : Int64)) hx hb dX12_well_9 (by decide) ?_
  refine lv_ldc2 (v := (50 : Int64)) hx hb hown w0 dX12_well_10 ?_
  refine kcm_i hA hAB hP hD hS [false, false, false, false] rfl (fun _ => rfl) (fun hPc hDc => va_runS (As := [.long x5, .long (1 : Int64), .long (50 : Int64)]) (rest := []) ⟨hx, hb, hml, hown, hts⟩ (k_X12_within l D κ β H.size x5 (1 : Int64) (50 : Int64)) (va_cwS 3 hts gX12_well_X12_within rfl rfl rfl (by decide +kernel) ⟨Nat.le_of_ble_eq_true rfl, Nat.le_of_ble_eq_true rfl⟩) (pk_S hK hS hAB hPc hDc) rfl rfl hl.1 rfl (lv_room (Nat.le_of_ble_eq_true rfl)) dX12_well_13 ⟨Nat.le_of_ble_eq_true rfl, Nat.le_of_ble_eq_true rfl⟩) (fun x8 u9 H locs hw hPD hS => ?_)
  have h10 : (x8.toInt = 1 ∧ (1 : Int64).toInt ≤ x5.toInt ∧ x5.toInt ≤ (50 : Int64).toInt) ∨ (x8.toInt = 0 ∧ (x5.toInt < (1 : Int64).toInt ∨ (50 : Int64).toInt < x5.toInt)) := hw
  obtain ⟨hP, hD⟩ : PD D A [O12 a12 r12 v12_keptMany v12_done v12_sheets v12_holes v12_worms v12_laidMany v12_wanted v12_orderMany v12_firstOrder v12_lines v12_marks v12_dots v12_madeIn v12_bound v12_places v12_maps v12_tapeMany v12_stories v12_base v12_at v12_ends v12_fault v12_opened v12_bodies v12_ran v12_ownKind v12_ownNumber, (cI κ (r12 35) 20 f12_known), (cI κ (r12 36) 20 f12_truly), (cI κ (r12 37) 20 f12_drawn)] H := hPD
  refine lv_if_ne (tgt := 21) hx hb dX12_well_16 (by decide) (fun c11 => ?_) (fun c11 => ?_)
  · have c11 := ci_ne c11
    refine lv_aload_n hx hb dX12_well_21 rfl (lv_at hl 0 rfl) ?_
    refine lv_iload_n hx hb dX12_well_22 rfl (lv_at hl 1 rfl) ?_
    refine kcm_i hA hAB hP hD hS [true, true, false, false] rfl (fun _ => rfl) (fun hPc hDc => va_runV (As := [.int p1]) (rest := []) ⟨hx, hb, hml, hown, hts⟩ (k_X12_lateMany l D κ β a12 r12 v12_keptMany v12_done v12_sheets v12_holes v12_worms v12_laidMany v12_wanted v12_orderMany v12_firstOrder v12_lines v12_marks v12_dots v12_madeIn v12_bound v12_places v12_maps v12_tapeMany v12_stories v12_base v12_at v12_ends v12_fault v12_opened v12_bodies v12_ran v12_ownKind v12_ownNumber f12_known H.size p1 i1 i2 i3 i4 i5 i6 i7 i8 i9 i10 i11 i12 i13 i14 i15 i16 i17) (cwV 1 hts gX12_well_X12_lateMany rfl rfl rfl (by decide +kernel) ⟨Nat.le_of_ble_eq_true rfl, Nat.le_of_ble_eq_true rfl⟩) (pk_V hK hS hAB hPc hDc 0 (ci := 12) rfl rfl rfl) rfl rfl hl.1 rfl (lv_room (Nat.le_of_ble_eq_true rfl)) dX12_well_23 ⟨Nat.le_of_ble_eq_true rfl, Nat.le_of_ble_eq_true rfl⟩) (fun x12 u13 H locs hw hPD hS => ?_)
    obtain ⟨hP, hD⟩ : PD D A [O12 a12 r12 v12_keptMany v12_done v12_sheets v12_holes v12_worms v12_laidMany v12_wanted v12_orderMany v12_firstOrder v12_lines v12_marks v12_dots v12_madeIn v12_bound v12_places v12_maps v12_tapeMany v12_stories v12_base v12_at v12_ends v12_fault v12_opened v12_bodies v12_ran v12_ownKind v12_ownNumber, (cI κ (r12 35) 20 f12_known), (cI κ (r12 36) 20 f12_truly), (cI κ (r12 37) 20 f12_drawn)] H := hPD
    refine lv_if_ne (tgt := 32) hx hb dX12_well_26 (by decide) (fun c14 => ?_) (fun c14 => ?_)
    · have c14 := ci_ne c14
      refine lv_aload_n hx hb dX12_well_32 rfl (lv_at hl 0 rfl) ?_
      refine lv_iload_n hx hb dX12_well_33 rfl (lv_at hl 1 rfl) ?_
      refine kcm_i hA hAB hP hD hS [true, true, true, true] rfl (fun _ => rfl) (fun hPc hDc => va_runV (As := [.int p1]) (rest := []) ⟨hx, hb, hml, hown, hts⟩ (k_X12_lateOff l D κ β a12 r12 v12_keptMany v12_done v12_sheets v12_holes v12_worms v12_laidMany v12_wanted v12_orderMany v12_firstOrder v12_lines v12_marks v12_dots v12_madeIn v12_bound v12_places v12_maps v12_tapeMany v12_stories v12_base v12_at v12_ends v12_fault v12_opened v12_bodies v12_ran v12_ownKind v12_ownNumber f12_known f12_truly f12_drawn H.size p1 i1 i2 i3 i4 i5 i6 i7 i8 i9 i10 i11 i12 i13 i14 i15 i16 i17) (cwV 1 hts gX12_well_X12_lateOff rfl rfl rfl (by decide +kernel) ⟨Nat.le_of_ble_eq_true rfl, Nat.le_of_ble_eq_true rfl⟩) (pk_V hK hS hAB hPc hDc 0 (ci := 12) rfl rfl rfl) rfl rfl hl.1 rfl (lv_room (Nat.le_of_ble_eq_true rfl)) dX12_well_34 ⟨Nat.le_of_ble_eq_true rfl, Nat.le_of_ble_eq_true rfl⟩) (fun x15 u16 H locs hw hPD hS => ?_)
      obtain ⟨hP, hD⟩ : PD D A [O12 a12 r12 v12_keptMany v12_done v12_sheets v12_holes v12_worms v12_laidMany v12_wanted v12_orderMany v12_firstOrder v12_lines v12_marks v12_dots v12_madeIn v12_bound v12_places v12_maps v12_tapeMany v12_stories v12_base v12_at v12_ends v12_fault v12_opened v12_bodies v12_ran v12_ownKind v12_ownNumber, (cI κ (r12 35) 20 f12_known), (cI κ (r12 36) 20 f12_truly), (cI κ (r12 37) 20 f12_drawn)] H := hPD
      refine lv_istore (lv' := [(4, .int x15), (0, .ref a12), (1, .int p1), (2, .int p2), (3, .int p3)]) hx hb dX12_well_37 hl (by decide) rfl (fun ls hl => ?_)
      refine lv_iload_n hx hb dX12_well_39 rfl (lv_at hl 3 rfl) ?_
      refine lv_istore (lv' := [(5, .int p2), (4, .int x15), (0, .ref a12), (1, .int p1), (2, .int p2), (3, .int p3)]) hx hb dX12_well_40 hl (by decide) rfl (fun ls hl => ?_)
      refine lv_iconst (v := 0) hx hb dX12_well_42 (by decide) ?_
      refine lv_istore (lv' := [(6, .int 0), (5, .int p2), (4, .int x15), (0, .ref a12), (1, .int p1), (2, .int p2), (3, .int p3)]) hx hb dX12_well_43 hl (by decide) rfl (fun ls hl => ?_)
      refine lv_iconst (v := 0) hx hb dX12_well_45 (by decide) ?_
      refine lv_istore (lv' := [(7, .int 0), (6, .int 0), (5, .int p2), (4, .int x15), (0, .ref a12), (1, .int p1), (2, .int p2), (3, .int p3)]) hx hb dX12_well_46 hl (by decide) rfl (fun ls hl => ?_)
      have lp48 : ∀ (n48 : Nat) (k17 : Int32) (k18 : Int32) (k19 : Int32), (0 ≤ k17.toInt) → (p3.toInt - k17.toInt).toNat < n48 → ∀ (H : Heap) (locs : List Loc), va_P D vwCl [O12 a12 r12 v12_keptMany v12_done v12_sheets v12_holes v12_worms v12_laidMany v12_wanted v12_orderMany v12_firstOrder v12_lines v12_marks v12_dots v12_madeIn v12_bound v12_places v12_maps v12_tapeMany v12_stories v12_base v12_at v12_ends v12_fault v12_opened v12_bodies v12_ran v12_ownKind v12_ownNumber, (cI κ (r12 35) 20 f12_known), (cI κ (r12 36) 20 f12_truly), (cI κ (r12 37) 20 f12_drawn)] H → va_D A [O12 a12 r12 v12_keptMany v12_done v12_sheets v12_holes v12_worms v12_laidMany v12_wanted v12_orderMany v12_firstOrder v12_lines v12_marks v12_dots v12_madeIn v12_bound v12_places v12_maps v12_tapeMany v12_stories v12_base v12_at v12_ends v12_fault v12_opened v12_bodies v12_ran v12_ownKind v12_ownNumber, (cI κ (r12 35) 20 f12_known), (cI κ (r12 36) 20 f12_truly), (cI κ (r12 37) 20 f12_drawn)] → va_S A s.heap H locs → ∀ ls : Array Slot, lv_has ls 11 [(7, .int k17), (6, .int k18), (5, .int k19), (4, .int x15), (0, .ref a12), (1, .int p1), (2, .int p2), (3, .int p3)] → W p l e ({ frames := 3, cells := 0, slots := 0, locals := 64 } : Room) s m args below meth c H locs 0 0 Q (F0 m 48 ls []) := by
        intro n48
        induction n48 with
        | zero =>
          intro k17 k18 k19 h20 m21
          exact absurd m21 (Nat.not_lt_zero _)
        | succ n48 ih48 =>
          intro k17 k18 k19 h20 m21 H locs hP hD hS ls hl
          refine lv_iload hx hb dX12_well_48 (lv_at hl 0 rfl) ?_
          refine lv_iload_n hx hb dX12_well_50 rfl (lv_at hl 7 rfl) ?_
          refine lv_icmp_ge (tgt := 173) hx hb dX12_well_51 (by decide) (fun c22 => ?_) (fun c22 => ?_)
          · have c22 := ci_le c22
            refine lv_iload hx hb dX12_well_173 (lv_at hl 1 rfl) ?_
            exact ret _ _ _ _ k18 () dX12_well_175 trivial hP hD hS
          have c22 := ci_nle c22
          refine lv_iconst (v := 0) hx hb dX12_well_54 (by decide) ?_
          refine lv_istore (lv' := [(8, .int 0), (7, .int k17), (6, .int k18), (5, .int k19), (4, .int x15), (0, .ref a12), (1, .int p1), (2, .int p2), (3, .int p3)]) hx hb dX12_well_55 hl (by decide) rfl (fun ls hl => ?_)
          refine lv_iconst (v := 0) hx hb dX12_well_57 (by decide) ?_
          refine lv_istore (lv' := [(9, .int 0), (8, .int 0), (7, .int k17), (6, .int k18), (5, .int k19), (4, .int x15), (0, .ref a12), (1, .int p1), (2, .int p2), (3, .int p3)]) hx hb dX12_well_58 hl (by decide) rfl (fun ls hl => ?_)
          have lp60 : ∀ (n60 : Nat) (k23 : Int32) (k24 : Int32) (k25 : Int32), (0 ≤ k23.toInt) → (v12_places.toInt - k23.toInt).toNat < n60 → ∀ (H : Heap) (locs : List Loc), va_P D vwCl [O12 a12 r12 v12_keptMany v12_done v12_sheets v12_holes v12_worms v12_laidMany v12_wanted v12_orderMany v12_firstOrder v12_lines v12_marks v12_dots v12_madeIn v12_bound v12_places v12_maps v12_tapeMany v12_stories v12_base v12_at v12_ends v12_fault v12_opened v12_bodies v12_ran v12_ownKind v12_ownNumber, (cI κ (r12 35) 20 f12_known), (cI κ (r12 36) 20 f12_truly), (cI κ (r12 37) 20 f12_drawn)] H → va_D A [O12 a12 r12 v12_keptMany v12_done v12_sheets v12_holes v12_worms v12_laidMany v12_wanted v12_orderMany v12_firstOrder v12_lines v12_marks v12_dots v12_madeIn v12_bound v12_places v12_maps v12_tapeMany v12_stories v12_base v12_at v12_ends v12_fault v12_opened v12_bodies v12_ran v12_ownKind v12_ownNumber, (cI κ (r12 35) 20 f12_known), (cI κ (r12 36) 20 f12_truly), (cI κ (r12 37) 20 f12_drawn)] → va_S A s.heap H locs → ∀ ls : Array Slot, lv_has ls 11 [(9, .int k23), (8, .int k24), (7, .int k17), (6, .int k18), (5, .int k25), (4, .int x15), (0, .ref a12), (1, .int p1), (2, .int p2), (3, .int p3)] → W p l e ({ frames := 3, cells := 0, slots := 0, locals := 64 } : Room) s m args below meth c H locs 0 0 Q (F0 m 60 ls []) := by
            intro n60
            induction n60 with
            | zero =>
              intro k23 k24 k25 h26 m27
              exact absurd m27 (Nat.not_lt_zero _)
            | succ n60 ih60 =>
              intro k23 k24 k25 h26 m27 H locs hP hD hS ls hl
              refine lv_iload hx hb dX12_well_60 (lv_at hl 0 rfl) ?_
              refine lv_aload_n hx hb dX12_well_62 rfl (lv_at hl 6 rfl) ?_
              refine va_get (D := D) (ci := 12) (v := .int v12_places) (C := RX12) (T := TX12) (N := 63) hx hb hts w2 hown hK.1 hP 0 rfl rfl 34 (by decide) w1 (fun _ h9 => h9) rfl dX12_well_63 ?_
              refine lv_icmp_ge (tgt := 150) hx hb dX12_well_66 (by decide) (fun c28 => ?_) (fun c28 => ?_)
              · have c28 := ci_le c28
                refine lv_iload hx hb dX12_well_150 (lv_at hl 3 rfl) ?_
                refine lv_iload hx hb dX12_well_152 (lv_at hl 1 rfl) ?_
                refine lv_iload hx hb dX12_well_154 (lv_at hl 5 rfl) ?_
                refine lv_icmp_gt (tgt := 163) hx hb dX12_well_156 (by decide) (fun c29 => ?_) (fun c29 => ?_)
                · have c29 := ci_lt c29
                  refine lv_iconst (v := 0) hx hb dX12_well_163 (by decide) ?_
                  refine lv_iadd hx hb dX12_well_164 ?_
                  refine lv_topi (fun x30 e31 => ?_)
                  try have h32 : x30.toInt = k18.toInt + (0 : Int32).toInt := ci_add e31 (by omega) (by omega)
                  refine lv_istore (lv' := [(6, .int x30), (9, .int k23), (8, .int k24), (7, .int k17), (5, .int k25), (4, .int x15), (0, .ref a12), (1, .int p1), (2, .int p2), (3, .int p3)]) hx hb dX12_well_165 hl (by decide) rfl (fun ls hl => ?_)
                  obtain ⟨x33, e34⟩ : ∃ y : Int32, y = k17 + 1 := ⟨_, rfl⟩
                  refine lv_iinc (v := x33) (lv' := [(7, .int x33), (6, .int x30), (9, .int k23), (8, .int k24), (5, .int k25), (4, .int x15), (0, .ref a12), (1, .int p1), (2, .int p2), (3, .int p3)]) hx hb dX12_well_167 hl (k := 3) rfl (by rw [e34]; rfl) (by decide) rfl (fun ls hl => ?_)
                  try have h35 : x33.toInt = k17.toInt + (1 : Int32).toInt := ci_add e34 (by omega) (by omega)
                  refine lv_goto (tgt := 48) hx hb dX12_well_170 (by decide) ?_
                  exact ih48 x33 x30 k25 (by omega) (by omega) _ _ hP hD hS _ (lv_sub hl [0, 1, 4, 5, 6, 7, 8, 9] rfl)
                have c29 := ci_nlt c29
                refine lv_iconst (v := 1) hx hb dX12_well_159 (by decide) ?_
                refine lv_goto (tgt := 164) hx hb dX12_well_160 (by decide) ?_
                refine lv_iadd hx hb dX12_well_164 ?_
                refine lv_topi (fun x36 e37 => ?_)
                try have h38 : x36.toInt = k18.toInt + (1 : Int32).toInt := ci_add e37 (by omega) (by omega)
                refine lv_istore (lv' := [(6, .int x36), (9, .int k23), (8, .int k24), (7, .int k17), (5, .int k25), (4, .int x15), (0, .ref a12), (1, .int p1), (2, .int p2), (3, .int p3)]) hx hb dX12_well_165 hl (by decide) rfl (fun ls hl => ?_)
                obtain ⟨x39, e40⟩ : ∃ y : Int32, y = k17 + 1 := ⟨_, rfl⟩
                refine lv_iinc (v := x39) (lv' := [(7, .int x39), (6, .int x36), (9, .int k23), (8, .int k24), (5, .int k25), (4, .int x15), (0, .ref a12), (1, .int p1), (2, .int p2), (3, .int p3)]) hx hb dX12_well_167 hl (k := 3) rfl (by rw [e40]; rfl) (by decide) rfl (fun ls hl => ?_)
                try have h41 : x39.toInt = k17.toInt + (1 : Int32).toInt := ci_add e40 (by omega) (by omega)
                refine lv_goto (tgt := 48) hx hb dX12_well_170 (by decide) ?_
                exact ih48 x39 x36 k25 (by omega) (by omega) _ _ hP hD hS _ (lv_sub hl [0, 1, 4, 5, 6, 7, 8, 9] rfl)
              have c28 := ci_nle c28
              refine lv_aload_n hx hb dX12_well_69 rfl (lv_at hl 6 rfl) ?_
              refine va_get (D := D) (ci := 12) (v := .ref (r12 35)) (C := RX12) (T := TX12) (N := 63) hx hb hts w2 hown hK.1 hP 0 rfl rfl 35 (by decide) w3 (fun _ h9 => h9) rfl dX12_well_70 ?_
              refine lv_iload hx hb dX12_well_73 (lv_at hl 0 rfl) ?_
              refine va_iald hx hb hK.1 hP 1 1 rfl rfl (i := k23) (ix (by omega) (by omega)) dX12_well_75 ?_
              refine lv_topi (fun x42 e43 => ?_)
              refine lv_iload_n hx hb dX12_well_76 rfl (lv_at hl 7 rfl) ?_
              refine lv_icmp_gt (tgt := 83) hx hb dX12_well_77 (by decide) (fun c44 => ?_) (fun c44 => ?_)
              · have c44 := ci_lt c44
                refine lv_iload hx hb dX12_well_83 (lv_at hl 4 rfl) ?_
                refine lv_ldc (v := 1103515245) hx hb hown w4 dX12_well_85 ?_
                refine lv_imul hx hb dX12_well_87 ?_
                refine lv_topi (fun x45 e46 => ?_)
                try have h47 : x45.toInt = 1103515245 * k25.toInt := ci_mulR (n := 1103515245) (by decide) e46 (by omega) (by omega)
                refine lv_sipush (v := 12345) hx hb dX12_well_88 (by decide) ?_
                refine lv_iadd hx hb dX12_well_91 ?_
                refine lv_topi (fun x48 e49 => ?_)
                try have h50 : x48.toInt = x45.toInt + (12345 : Int32).toInt := ci_add e49 (by omega) (by omega)
                refine lv_istore (lv' := [(5, .int x48), (9, .int k23), (8, .int k24), (7, .int k17), (6, .int k18), (4, .int x15), (0, .ref a12), (1, .int p1), (2, .int p2), (3, .int p3)]) hx hb dX12_well_92 hl (by decide) rfl (fun ls hl => ?_)
                refine lv_iload hx hb dX12_well_94 (lv_at hl 0 rfl) ?_
                refine lv_bipush (v := 8) hx hb dX12_well_96 (by decide) ?_
                refine lv_iushr hx hb dX12_well_98 rfl ?_
                refine lv_topi (fun x51 e52 => ?_)
                have h53 := ci_ushr8 e52
                refine lv_bipush (v := 100) hx hb dX12_well_99 (by decide) ?_
                refine lv_irem hx hb dX12_well_101 (by decide) ?_
                refine lv_topi (fun x54 e55 => ?_)
                have h56 := ci_remL (n := 100) (by decide) (by decide) e55
                refine lv_istore (lv' := [(10, .int x54), (5, .int x48), (9, .int k23), (8, .int k24), (7, .int k17), (6, .int k18), (4, .int x15), (0, .ref a12), (1, .int p1), (2, .int p2), (3, .int p3)]) hx hb dX12_well_102 hl (by decide) rfl (fun ls hl => ?_)
                refine lv_iload hx hb dX12_well_104 (lv_at hl 1 rfl) ?_
                refine lv_ldc (v := 1103515245) hx hb hown w4 dX12_well_106 ?_
                refine lv_imul hx hb dX12_well_108 ?_
                refine lv_topi (fun x57 e58 => ?_)
                try have h59 : x57.toInt = 1103515245 * x48.toInt := ci_mulR (n := 1103515245) (by decide) e58 (by omega) (by omega)
                refine lv_sipush (v := 12345) hx hb dX12_well_109 (by decide) ?_
                refine lv_iadd hx hb dX12_well_112 ?_
                refine lv_topi (fun x60 e61 => ?_)
                try have h62 : x60.toInt = x57.toInt + (12345 : Int32).toInt := ci_add e61 (by omega) (by omega)
                refine lv_istore (lv' := [(5, .int x60), (10, .int x54), (9, .int k23), (8, .int k24), (7, .int k17), (6, .int k18), (4, .int x15), (0, .ref a12), (1, .int p1), (2, .int p2), (3, .int p3)]) hx hb dX12_well_113 hl (by decide) rfl (fun ls hl => ?_)
                refine lv_iload hx hb dX12_well_115 (lv_at hl 3 rfl) ?_
                refine lv_aload_n hx hb dX12_well_117 rfl (lv_at hl 7 rfl) ?_
                refine va_get (D := D) (ci := 12) (v := .ref (r12 36)) (C := RX12) (T := TX12) (N := 63) hx hb hts w2 hown hK.1 hP 0 rfl rfl 36 (by decide) w5 (fun _ h9 => h9) rfl dX12_well_118 ?_
                refine lv_iload hx hb dX12_well_121 (lv_at hl 2 rfl) ?_
                refine va_iald hx hb hK.1 hP 2 1 rfl rfl (i := k23) (ix (by omega) (by omega)) dX12_well_123 ?_
                refine lv_topi (fun x63 e64 => ?_)
                refine lv_bipush (v := 100) hx hb dX12_well_124 (by decide) ?_
                refine lv_iload hx hb dX12_well_126 (lv_at hl 1 rfl) ?_
                refine lv_imul hx hb dX12_well_128 ?_
                refine lv_topi (fun x65 e66 => ?_)
                try have h67 : x65.toInt = 100 * x54.toInt := ci_mulL (n := 100) (by decide) e66 (by omega) (by omega)
                refine lv_iload hx hb dX12_well_129 (lv_at hl 0 rfl) ?_
                refine lv_bipush (v := 8) hx hb dX12_well_131 (by decide) ?_
                refine lv_iushr hx hb dX12_well_133 rfl ?_
                refine lv_topi (fun x68 e69 => ?_)
                have h70 := ci_ushr8 e69
                refine lv_bipush (v := 100) hx hb dX12_well_134 (by decide) ?_
                refine lv_irem hx hb dX12_well_136 (by decide) ?_
                refine lv_topi (fun x71 e72 => ?_)
                have h73 := ci_remL (n := 100) (by decide) (by decide) e72
                refine lv_iadd hx hb dX12_well_137 ?_
                refine lv_topi (fun x74 e75 => ?_)
                try have h76 : x74.toInt = x65.toInt + x71.toInt := ci_add e75 (by omega) (by omega)
                refine kcm_i hA hAB hP hD hS [false, false, false, false] rfl (fun _ => rfl) (fun hPc hDc => va_runS (As := [.int x63, .int x74]) (rest := [.int k24]) ⟨hx, hb, hml, hown, hts⟩ (k_X12_apart l D κ β H.size x63 x74) (va_cwS 2 hts gX12_well_X12_apart rfl rfl rfl (by decide +kernel) ⟨Nat.le_of_ble_eq_true rfl, Nat.le_of_ble_eq_true rfl⟩) (pk_S hK hS hAB hPc hDc) rfl rfl hl.1 rfl (lv_room (Nat.le_of_ble_eq_true rfl)) dX12_well_138 ⟨Nat.le_of_ble_eq_true rfl, Nat.le_of_ble_eq_true rfl⟩) (fun x77 u78 H locs hw hPD hS => ?_)
                obtain ⟨hP, hD⟩ : PD D A [O12 a12 r12 v12_keptMany v12_done v12_sheets v12_holes v12_worms v12_laidMany v12_wanted v12_orderMany v12_firstOrder v12_lines v12_marks v12_dots v12_madeIn v12_bound v12_places v12_maps v12_tapeMany v12_stories v12_base v12_at v12_ends v12_fault v12_opened v12_bodies v12_ran v12_ownKind v12_ownNumber, (cI κ (r12 35) 20 f12_known), (cI κ (r12 36) 20 f12_truly), (cI κ (r12 37) 20 f12_drawn)] H := hPD
                refine lv_iadd hx hb dX12_well_141 ?_
                refine lv_topi (fun x79 e80 => ?_)
                try have h81 : x79.toInt = k24.toInt + x77.toInt := ci_add e80 (by omega) (by omega)
                refine lv_istore (lv' := [(8, .int x79), (5, .int x60), (10, .int x54), (9, .int k23), (7, .int k17), (6, .int k18), (4, .int x15), (0, .ref a12), (1, .int p1), (2, .int p2), (3, .int p3)]) hx hb dX12_well_142 hl (by decide) rfl (fun ls hl => ?_)
                obtain ⟨x82, e83⟩ : ∃ y : Int32, y = k23 + 1 := ⟨_, rfl⟩
                refine lv_iinc (v := x82) (lv' := [(9, .int x82), (8, .int x79), (5, .int x60), (10, .int x54), (7, .int k17), (6, .int k18), (4, .int x15), (0, .ref a12), (1, .int p1), (2, .int p2), (3, .int p3)]) hx hb dX12_well_144 hl (k := 3) rfl (by rw [e83]; rfl) (by decide) rfl (fun ls hl => ?_)
                try have h84 : x82.toInt = k23.toInt + (1 : Int32).toInt := ci_add e83 (by omega) (by omega)
                refine lv_goto (tgt := 60) hx hb dX12_well_147 (by decide) ?_
                exact ih60 x82 x79 x60 (by omega) (by omega) _ _ hP hD hS _ (lv_sub hl [0, 1, 4, 5, 2, 6, 7, 8, 9, 10] rfl)
              have c44 := ci_nlt c44
              refine lv_goto (tgt := 144) hx hb dX12_well_80 (by decide) ?_
              obtain ⟨x85, e86⟩ : ∃ y : Int32, y = k23 + 1 := ⟨_, rfl⟩
              refine lv_iinc (v := x85) (lv' := [(9, .int x85), (8, .int k24), (7, .int k17), (6, .int k18), (5, .int k25), (4, .int x15), (0, .ref a12), (1, .int p1), (2, .int p2), (3, .int p3)]) hx hb dX12_well_144 hl (k := 0) rfl (by rw [e86]; rfl) (by decide) rfl (fun ls hl => ?_)
              try have h87 : x85.toInt = k23.toInt + (1 : Int32).toInt := ci_add e86 (by omega) (by omega)
              refine lv_goto (tgt := 60) hx hb dX12_well_147 (by decide) ?_
              exact ih60 x85 k24 k25 (by omega) (by omega) _ _ hP hD hS _ hl
          exact lp60 ((v12_places.toInt - (0 : Int32).toInt).toNat + 1) 0 0 k19 (by omega) (by omega) _ _ hP hD hS _ hl
      exact lp48 ((p3.toInt - (0 : Int32).toInt).toNat + 1) 0 0 p2 (by omega) (by omega) _ _ hP hD hS _ hl
    have c14 := ci_eq c14
    refine lv_bipush (v := (-2)) hx hb dX12_well_29 (by decide) ?_
    exact ret _ _ _ _ (-2) () dX12_well_31 trivial hP hD hS
  have c11 := ci_eq c11
  refine lv_iconst (v := (-1)) hx hb dX12_well_19 (by decide) ?_
  exact ret _ _ _ _ (-1) () dX12_well_20 trivial hP hD hS
set_option maxHeartbeats 4000000 in
set_option maxRecDepth 100000 in
theorem k_X12_map (l : Launch) (D : va_G) (κ : Nat → ClassId) (β : Nat) (a12 : Nat) (r12 : Nat → Nat) (v12_keptMany : Int32) (v12_done : Int32) (v12_sheets : Int32) (v12_holes : Int32) (v12_worms : Int32) (v12_laidMany : Int32) (v12_wanted : Int32) (v12_orderMany : Int32) (v12_firstOrder : Int32) (v12_lines : Int32) (v12_marks : Int32) (v12_dots : Int32) (v12_madeIn : Int32) (v12_bound : Int32) (v12_places : Int32) (v12_maps : Int32) (v12_tapeMany : Int32) (v12_stories : Int32) (v12_base : Int32) (v12_at : Int32) (v12_ends : Int32) (v12_fault : Int32) (v12_opened : Int32) (v12_bodies : Int32) (v12_ran : Int32) (v12_ownKind : Int32) (v12_ownNumber : Int32) (f12_yearOf : Nat → Int32) (f12_slips : Nat → Int32) (sz : Nat) (p1 : Int32) (p2 : Int32) (i1 : Rg 0 40 v12_keptMany) (i2 : Rg 0 40 v12_done) (i3 : Rg 0 8 v12_sheets) (i4 : Rg 0 40 v12_holes) (i5 : Rg 0 40 v12_worms) (i6 : Rg 0 8 v12_laidMany) (i7 : Rg 0 8 v12_wanted) (i8 : Rg 0 20 v12_lines) (i9 : Rg 0 60 v12_marks) (i10 : Rg 0 40 v12_dots) (i11 : Rg 0 20 v12_places) (i12 : Rg 0 8 v12_maps) (i13 : Rg 0 120 v12_tapeMany) (i14 : Rg 0 6 v12_stories) (i15 : Rg 0 50 v12_bodies) (i16 : Rg 0 1000 v12_ran) (hf12_slips : ∀ j : Nat, 0 ≤ (f12_slips j).toInt ∧ (f12_slips j).toInt ≤ 65535) (i17 : v12_done.toInt ≤ v12_keptMany.toInt) : Met l yX12_map wsX12_map ({ frames := 2, cells := 0, slots := 0, locals := 45 } : Room) (PcK D κ β [O12 a12 r12 v12_keptMany v12_done v12_sheets v12_holes v12_worms v12_laidMany v12_wanted v12_orderMany v12_firstOrder v12_lines v12_marks v12_dots v12_madeIn v12_bound v12_places v12_maps v12_tapeMany v12_stories v12_base v12_at v12_ends v12_fault v12_opened v12_bodies v12_ran v12_ownKind v12_ownNumber, (cI κ (r12 39) 8 f12_yearOf), (cI κ (r12 40) 8 f12_slips)] sz [.ref a12, .int p1, .int p2]) (QiK D (fun (r : Int32) (u : Int32 × (Nat → Int32) × (Nat → Int32)) => (0 ≤ u.1.toInt ∧ u.1.toInt ≤ 8) ∧ (∀ j : Nat, 0 ≤ (u.2.2 j).toInt ∧ (u.2.2 j).toInt ≤ 65535) ∧ ((¬ (0 ≤ p1.toInt ∧ p1.toInt ≤ 2000 ∧ 0 ≤ p2.toInt ∧ p2.toInt ≤ 65535) ∧ r.toInt = -1 ∧ u.1.toInt = v12_maps.toInt) ∨ ((0 ≤ p1.toInt ∧ p1.toInt ≤ 2000 ∧ 0 ≤ p2.toInt ∧ p2.toInt ≤ 65535) ∧ v12_maps.toInt = 8 ∧ r.toInt = -3 ∧ u.1.toInt = v12_maps.toInt) ∨ ((0 ≤ p1.toInt ∧ p1.toInt ≤ 2000 ∧ 0 ≤ p2.toInt ∧ p2.toInt ≤ 65535) ∧ v12_maps.toInt < 8 ∧ r.toInt = v12_maps.toInt ∧ u.1.toInt = v12_maps.toInt + 1)) ∧ (u.2.1 = mapF p1 p2 v12_maps f12_yearOf p1) ∧ (u.2.2 = mapF p1 p2 v12_maps f12_slips p2)) (fun (u : Int32 × (Nat → Int32) × (Nat → Int32)) => [O12 a12 r12 v12_keptMany v12_done v12_sheets v12_holes v12_worms v12_laidMany v12_wanted v12_orderMany v12_firstOrder v12_lines v12_marks v12_dots v12_madeIn v12_bound v12_places u.1 v12_tapeMany v12_stories v12_base v12_at v12_ends v12_fault v12_opened v12_bodies v12_ran v12_ownKind v12_ownNumber, (cI κ (r12 39) 8 u.2.1), (cI κ (r12 40) 8 u.2.2)]) [O12 a12 r12 v12_keptMany v12_done v12_sheets v12_holes v12_worms v12_laidMany v12_wanted v12_orderMany v12_firstOrder v12_lines v12_marks v12_dots v12_madeIn v12_bound v12_places v12_maps v12_tapeMany v12_stories v12_base v12_at v12_ends v12_fault v12_opened v12_bodies v12_ran v12_ownKind v12_ownNumber, (cI κ (r12 39) 8 f12_yearOf), (cI κ (r12 40) 8 f12_slips)] sz) 0 0 (va_A [O12 a12 r12 v12_keptMany v12_done v12_sheets v12_holes v12_worms v12_laidMany v12_wanted v12_orderMany v12_firstOrder v12_lines v12_marks v12_dots v12_madeIn v12_bound v12_places v12_maps v12_tapeMany v12_stories v12_base v12_at v12_ends v12_fault v12_opened v12_bodies v12_ran v12_ownKind v12_ownNumber, (cI κ (r12 39) 8 f12_yearOf), (cI κ (r12 40) 8 f12_slips)] sz) := by
  refine ofK_i (cc := cX12_map) (maxL := 3) (own := RX12) (by decide) rfl rfl (Nat.le_of_ble_eq_true rfl) ?_
  intro p e s m args below meth c Q A ls hsz hx hb hml hts hown hK hA hAB hP hD hl ret
  have hS : va_S A s.heap s.heap [] := va_S.rf
  have hl : lv_has ls 3 [(0, .ref a12), (1, .int p1), (2, .int p2)] := hl
  have w0 := hts (.constantLong RX12 280 (65535)) (List.mem_of_getElem? (i := 1) rfl)
  have w1 := hts (.fieldLink RX12 277 "OlderSkinModel" "maps" "I") (List.mem_of_getElem? (i := 2) rfl)
  have w2 := (fun w h => List.mem_cons_of_mem _ (List.mem_append_right _ h) : ∀ w ∈ u_ws RX12 TX12 63, w ∈ wsX12_map)
  have w3 := hts (.fieldLink RX12 80 "OlderSkinModel" "yearOf" "[I") (List.mem_of_getElem? (i := 3) rfl)
  have w4 := hts (.fieldLink RX12 83 "OlderSkinModel" "slips" "[I") (List.mem_of_getElem? (i := 4) rfl)
  have l0 : (0 : Int32).toInt = 0 := by decide
  have l1 : ((-1) : Int32).toInt = -1 := by decide
  have l2 : (0 : Int64).toInt = 0 := by decide
  have l3 : (65535 : Int64).toInt = 65535 := by decide
  have l4 : (8 : Int32).toInt = 8 := by decide
  have l5 : (1 : Int32).toInt = 1 := by decide
  have l6 : ((-3) : Int32).toInt = -3 := by decide
  have i12 : 0 ≤ v12_maps.toInt ∧ v12_maps.toInt ≤ 8 := i12
  refine lv_iload_n hx hb dX12_map_0 rfl (lv_at hl 1 rfl) ?_
  refine kcm_i hA hAB hP hD hS [false, false, false] rfl (fun _ => rfl) (fun hPc hDc => va_runS (As := [.int p1]) (rest := []) ⟨hx, hb, hml, hown, hts⟩ (k_X12_isYear l D κ β s.heap.size p1) (va_cwS 1 hts gX12_map_X12_isYear rfl rfl rfl (by decide +kernel) ⟨Nat.le_of_ble_eq_true rfl, Nat.le_of_ble_eq_true rfl⟩) (pk_S hK hS hAB hPc hDc) rfl rfl hl.1 rfl (lv_room (Nat.le_of_ble_eq_true rfl)) dX12_map_1 ⟨Nat.le_of_ble_eq_true rfl, Nat.le_of_ble_eq_true rfl⟩) (fun x1 u2 H locs hw hPD hS => ?_)
  have h3 : (x1.toInt = 1 ∧ 0 ≤ p1.toInt ∧ p1.toInt ≤ 2000) ∨ (x1.toInt = 0 ∧ (p1.toInt < 0 ∨ 2000 < p1.toInt)) := hw
  obtain ⟨hP, hD⟩ : PD D A [O12 a12 r12 v12_keptMany v12_done v12_sheets v12_holes v12_worms v12_laidMany v12_wanted v12_orderMany v12_firstOrder v12_lines v12_marks v12_dots v12_madeIn v12_bound v12_places v12_maps v12_tapeMany v12_stories v12_base v12_at v12_ends v12_fault v12_opened v12_bodies v12_ran v12_ownKind v12_ownNumber, (cI κ (r12 39) 8 f12_yearOf), (cI κ (r12 40) 8 f12_slips)] H := hPD
  refine lv_if_eq (tgt := 19) hx hb dX12_map_4 (by decide) (fun c4 => ?_) (fun c4 => ?_)
  · have c4 := ci_eq c4
    refine lv_iconst (v := (-1)) hx hb dX12_map_19 (by decide) ?_
    have hpo : (0 ≤ v12_maps.toInt ∧ v12_maps.toInt ≤ 8) ∧ (∀ j : Nat, 0 ≤ (f12_slips j).toInt ∧ (f12_slips j).toInt ≤ 65535) ∧ ((¬ (0 ≤ p1.toInt ∧ p1.toInt ≤ 2000 ∧ 0 ≤ p2.toInt ∧ p2.toInt ≤ 65535) ∧ ((-1) : Int32).toInt = -1 ∧ v12_maps.toInt = v12_maps.toInt) ∨ ((0 ≤ p1.toInt ∧ p1.toInt ≤ 2000 ∧ 0 ≤ p2.toInt ∧ p2.toInt ≤ 65535) ∧ v12_maps.toInt = 8 ∧ ((-1) : Int32).toInt = -3 ∧ v12_maps.toInt = v12_maps.toInt) ∨ ((0 ≤ p1.toInt ∧ p1.toInt ≤ 2000 ∧ 0 ≤ p2.toInt ∧ p2.toInt ≤ 65535) ∧ v12_maps.toInt < 8 ∧ ((-1) : Int32).toInt = v12_maps.toInt ∧ v12_maps.toInt = v12_maps.toInt + 1)) ∧ (f12_yearOf = mapF p1 p2 v12_maps f12_yearOf p1) ∧ (f12_slips = mapF p1 p2 v12_maps f12_slips p2) := ⟨i12, hf12_slips, (by omega), (by first | (rw [mapF_ok (by omega), addF_ok (by omega)]; assumption) | exact ((mapF_ok (by omega)).trans (addF_no (by omega))).symm | exact (mapF_no (by omega)).symm), (by first | (rw [mapF_ok (by omega), addF_ok (by omega)]; assumption) | exact ((mapF_ok (by omega)).trans (addF_no (by omega))).symm | exact (mapF_no (by omega)).symm)⟩
    exact ret _ _ _ _ (-1) (v12_maps, f12_yearOf, f12_slips) dX12_map_20 hpo hP hD hS
  have c4 := ci_ne c4
  refine lv_iload_n hx hb dX12_map_7 rfl (lv_at hl 2 rfl) ?_
  refine lv_i2l hx hb dX12_map_8 rfl ?_
  refine lv_topl (fun x5 e6 => ?_)
  have h7 : x5.toInt = p2.toInt := cl_i2l e6
  refine lv_lconst (v := (0 : Int64)) hx hb dX12_map_9 (by decide) ?_
  refine lv_ldc2 (v := (65535 : Int64)) hx hb hown w0 dX12_map_10 ?_
  refine kcm_i hA hAB hP hD hS [false, false, false] rfl (fun _ => rfl) (fun hPc hDc => va_runS (As := [.long x5, .long (0 : Int64), .long (65535 : Int64)]) (rest := []) ⟨hx, hb, hml, hown, hts⟩ (k_X12_within l D κ β H.size x5 (0 : Int64) (65535 : Int64)) (va_cwS 3 hts gX12_map_X12_within rfl rfl rfl (by decide +kernel) ⟨Nat.le_of_ble_eq_true rfl, Nat.le_of_ble_eq_true rfl⟩) (pk_S hK hS hAB hPc hDc) rfl rfl hl.1 rfl (lv_room (Nat.le_of_ble_eq_true rfl)) dX12_map_13 ⟨Nat.le_of_ble_eq_true rfl, Nat.le_of_ble_eq_true rfl⟩) (fun x8 u9 H locs hw hPD hS => ?_)
  have h10 : (x8.toInt = 1 ∧ (0 : Int64).toInt ≤ x5.toInt ∧ x5.toInt ≤ (65535 : Int64).toInt) ∨ (x8.toInt = 0 ∧ (x5.toInt < (0 : Int64).toInt ∨ (65535 : Int64).toInt < x5.toInt)) := hw
  obtain ⟨hP, hD⟩ : PD D A [O12 a12 r12 v12_keptMany v12_done v12_sheets v12_holes v12_worms v12_laidMany v12_wanted v12_orderMany v12_firstOrder v12_lines v12_marks v12_dots v12_madeIn v12_bound v12_places v12_maps v12_tapeMany v12_stories v12_base v12_at v12_ends v12_fault v12_opened v12_bodies v12_ran v12_ownKind v12_ownNumber, (cI κ (r12 39) 8 f12_yearOf), (cI κ (r12 40) 8 f12_slips)] H := hPD
  refine lv_if_ne (tgt := 21) hx hb dX12_map_16 (by decide) (fun c11 => ?_) (fun c11 => ?_)
  · have c11 := ci_ne c11
    refine lv_aload_n hx hb dX12_map_21 rfl (lv_at hl 0 rfl) ?_
    refine va_get (D := D) (ci := 12) (v := .int v12_maps) (C := RX12) (T := TX12) (N := 63) hx hb hts w2 hown hK.1 hP 0 rfl rfl 38 (by decide) w1 (fun _ h9 => h9) rfl dX12_map_22 ?_
    refine lv_bipush (v := 8) hx hb dX12_map_25 (by decide) ?_
    refine lv_icmp_ne (tgt := 33) hx hb dX12_map_27 (by decide) (fun c12 => ?_) (fun c12 => ?_)
    · have c12 := ci_ne c12
      refine lv_aload_n hx hb dX12_map_33 rfl (lv_at hl 0 rfl) ?_
      refine va_get (D := D) (ci := 12) (v := .ref (r12 39)) (C := RX12) (T := TX12) (N := 63) hx hb hts w2 hown hK.1 hP 0 rfl rfl 39 (by decide) w3 (fun _ h9 => h9) rfl dX12_map_34 ?_
      refine lv_aload_n hx hb dX12_map_37 rfl (lv_at hl 0 rfl) ?_
      refine va_get (D := D) (ci := 12) (v := .int v12_maps) (C := RX12) (T := TX12) (N := 63) hx hb hts w2 hown hK.1 hP 0 rfl rfl 38 (by decide) w1 (fun _ h9 => h9) rfl dX12_map_38 ?_
      refine lv_iload_n hx hb dX12_map_41 rfl (lv_at hl 1 rfl) ?_
      refine va_iast hx hb hK.1 hP hD hS 1 1 rfl rfl (i := v12_maps) (ix (by omega) (by omega)) dX12_map_42 (fun H locs hP hD hS => ?_)
      obtain ⟨g13, e14⟩ : ∃ y : Nat → Int32, y = upd f12_yearOf v12_maps.toNatClampNeg p1 := ⟨_, rfl⟩
      rw [← e14] at hP hD
      obtain ⟨hP, hD⟩ : PD D A [O12 a12 r12 v12_keptMany v12_done v12_sheets v12_holes v12_worms v12_laidMany v12_wanted v12_orderMany v12_firstOrder v12_lines v12_marks v12_dots v12_madeIn v12_bound v12_places v12_maps v12_tapeMany v12_stories v12_base v12_at v12_ends v12_fault v12_opened v12_bodies v12_ran v12_ownKind v12_ownNumber, (cI κ (r12 39) 8 g13), (cI κ (r12 40) 8 f12_slips)] H := ⟨hP, hD⟩
      refine lv_aload_n hx hb dX12_map_43 rfl (lv_at hl 0 rfl) ?_
      refine va_get (D := D) (ci := 12) (v := .ref (r12 40)) (C := RX12) (T := TX12) (N := 63) hx hb hts w2 hown hK.1 hP 0 rfl rfl 40 (by decide) w4 (fun _ h9 => h9) rfl dX12_map_44 ?_
      refine lv_aload_n hx hb dX12_map_47 rfl (lv_at hl 0 rfl) ?_
      refine va_get (D := D) (ci := 12) (v := .int v12_maps) (C := RX12) (T := TX12) (N := 63) hx hb hts w2 hown hK.1 hP 0 rfl rfl 38 (by decide) w1 (fun _ h9 => h9) rfl dX12_map_48 ?_
      refine lv_iload_n hx hb dX12_map_51 rfl (lv_at hl 2 rfl) ?_
      refine va_iast hx hb hK.1 hP hD hS 2 1 rfl rfl (i := v12_maps) (ix (by omega) (by omega)) dX12_map_52 (fun H locs hP hD hS => ?_)
      obtain ⟨g15, e16⟩ : ∃ y : Nat → Int32, y = upd f12_slips v12_maps.toNatClampNeg p2 := ⟨_, rfl⟩
      rw [← e16] at hP hD
      obtain ⟨hP, hD⟩ : PD D A [O12 a12 r12 v12_keptMany v12_done v12_sheets v12_holes v12_worms v12_laidMany v12_wanted v12_orderMany v12_firstOrder v12_lines v12_marks v12_dots v12_madeIn v12_bound v12_places v12_maps v12_tapeMany v12_stories v12_base v12_at v12_ends v12_fault v12_opened v12_bodies v12_ran v12_ownKind v12_ownNumber, (cI κ (r12 39) 8 g13), (cI κ (r12 40) 8 g15)] H := ⟨hP, hD⟩
      have h17 : ∀ j : Nat, 0 ≤ (g15 j).toInt ∧ (g15 j).toInt ≤ 65535 := by rw [e16]; exact all_upd (P := fun z => 0 ≤ z.toInt ∧ z.toInt ≤ 65535) hf12_slips (by omega)
      refine lv_aload_n hx hb dX12_map_53 rfl (lv_at hl 0 rfl) ?_
      refine lv_dup hx hb dX12_map_54 rfl ?_
      refine va_get (D := D) (ci := 12) (v := .int v12_maps) (C := RX12) (T := TX12) (N := 63) hx hb hts w2 hown hK.1 hP 0 rfl rfl 38 (by decide) w1 (fun _ h9 => h9) rfl dX12_map_55 ?_
      refine lv_iconst (v := 1) hx hb dX12_map_58 (by decide) ?_
      refine lv_iadd hx hb dX12_map_59 ?_
      refine lv_topi (fun x18 e19 => ?_)
      try have h20 : x18.toInt = v12_maps.toInt + (1 : Int32).toInt := ci_add e19 (by omega) (by omega)
      refine va_put (D := D) (ci := 12) (v := .int x18) (ty := .int) (C := RX12) (T := TX12) (N := 63) hx hb hts w2 tyX12 tyX12_ok nmX12 hown hK.1 hP hD hS 0 rfl rfl 38 (by decide) w1 (fun _ h9 => h9) rfl (by decide +kernel) rfl rfl (Nat.le_of_ble_eq_true rfl) dX12_map_60 (fun H locs hP hD hS => ?_)
      obtain ⟨hP, hD⟩ : PD D A [O12 a12 r12 v12_keptMany v12_done v12_sheets v12_holes v12_worms v12_laidMany v12_wanted v12_orderMany v12_firstOrder v12_lines v12_marks v12_dots v12_madeIn v12_bound v12_places x18 v12_tapeMany v12_stories v12_base v12_at v12_ends v12_fault v12_opened v12_bodies v12_ran v12_ownKind v12_ownNumber, (cI κ (r12 39) 8 g13), (cI κ (r12 40) 8 g15)] H := ⟨hP, hD⟩
      have h21 : 0 ≤ x18.toInt ∧ x18.toInt ≤ 8 := by omega
      refine lv_aload_n hx hb dX12_map_63 rfl (lv_at hl 0 rfl) ?_
      refine va_get (D := D) (ci := 12) (v := .int x18) (C := RX12) (T := TX12) (N := 63) hx hb hts w2 hown hK.1 hP 0 rfl rfl 38 (by decide) w1 (fun _ h9 => h9) rfl dX12_map_64 ?_
      refine lv_iconst (v := 1) hx hb dX12_map_67 (by decide) ?_
      refine lv_isub hx hb dX12_map_68 ?_
      refine lv_topi (fun x22 e23 => ?_)
      try have h24 : x22.toInt = x18.toInt - (1 : Int32).toInt := ci_sub e23 (by omega) (by omega)
      have hpo : (0 ≤ x18.toInt ∧ x18.toInt ≤ 8) ∧ (∀ j : Nat, 0 ≤ (g15 j).toInt ∧ (g15 j).toInt ≤ 65535) ∧ ((¬ (0 ≤ p1.toInt ∧ p1.toInt ≤ 2000 ∧ 0 ≤ p2.toInt ∧ p2.toInt ≤ 65535) ∧ x22.toInt = -1 ∧ x18.toInt = v12_maps.toInt) ∨ ((0 ≤ p1.toInt ∧ p1.toInt ≤ 2000 ∧ 0 ≤ p2.toInt ∧ p2.toInt ≤ 65535) ∧ v12_maps.toInt = 8 ∧ x22.toInt = -3 ∧ x18.toInt = v12_maps.toInt) ∨ ((0 ≤ p1.toInt ∧ p1.toInt ≤ 2000 ∧ 0 ≤ p2.toInt ∧ p2.toInt ≤ 65535) ∧ v12_maps.toInt < 8 ∧ x22.toInt = v12_maps.toInt ∧ x18.toInt = v12_maps.toInt + 1)) ∧ (g13 = mapF p1 p2 v12_maps f12_yearOf p1) ∧ (g15 = mapF p1 p2 v12_maps f12_slips p2) := ⟨h21, h17, (by omega), (by first | (rw [mapF_ok (by omega), addF_ok (by omega)]; assumption) | exact ((mapF_ok (by omega)).trans (addF_no (by omega))).symm | exact (mapF_no (by omega)).symm), (by first | (rw [mapF_ok (by omega), addF_ok (by omega)]; assumption) | exact ((mapF_ok (by omega)).trans (addF_no (by omega))).symm | exact (mapF_no (by omega)).symm)⟩
      exact ret _ _ _ _ x22 (x18, g13, g15) dX12_map_69 hpo hP hD hS
    have c12 := ci_eq c12
    refine lv_bipush (v := (-3)) hx hb dX12_map_30 (by decide) ?_
    have hpo : (0 ≤ v12_maps.toInt ∧ v12_maps.toInt ≤ 8) ∧ (∀ j : Nat, 0 ≤ (f12_slips j).toInt ∧ (f12_slips j).toInt ≤ 65535) ∧ ((¬ (0 ≤ p1.toInt ∧ p1.toInt ≤ 2000 ∧ 0 ≤ p2.toInt ∧ p2.toInt ≤ 65535) ∧ ((-3) : Int32).toInt = -1 ∧ v12_maps.toInt = v12_maps.toInt) ∨ ((0 ≤ p1.toInt ∧ p1.toInt ≤ 2000 ∧ 0 ≤ p2.toInt ∧ p2.toInt ≤ 65535) ∧ v12_maps.toInt = 8 ∧ ((-3) : Int32).toInt = -3 ∧ v12_maps.toInt = v12_maps.toInt) ∨ ((0 ≤ p1.toInt ∧ p1.toInt ≤ 2000 ∧ 0 ≤ p2.toInt ∧ p2.toInt ≤ 65535) ∧ v12_maps.toInt < 8 ∧ ((-3) : Int32).toInt = v12_maps.toInt ∧ v12_maps.toInt = v12_maps.toInt + 1)) ∧ (f12_yearOf = mapF p1 p2 v12_maps f12_yearOf p1) ∧ (f12_slips = mapF p1 p2 v12_maps f12_slips p2) := ⟨i12, hf12_slips, (by omega), (by first | (rw [mapF_ok (by omega), addF_ok (by omega)]; assumption) | exact ((mapF_ok (by omega)).trans (addF_no (by omega))).symm | exact (mapF_no (by omega)).symm), (by first | (rw [mapF_ok (by omega), addF_ok (by omega)]; assumption) | exact ((mapF_ok (by omega)).trans (addF_no (by omega))).symm | exact (mapF_no (by omega)).symm)⟩
    exact ret _ _ _ _ (-3) (v12_maps, f12_yearOf, f12_slips) dX12_map_32 hpo hP hD hS
  have c11 := ci_eq c11
  refine lv_iconst (v := (-1)) hx hb dX12_map_19 (by decide) ?_
  have hpo : (0 ≤ v12_maps.toInt ∧ v12_maps.toInt ≤ 8) ∧ (∀ j : Nat, 0 ≤ (f12_slips j).toInt ∧ (f12_slips j).toInt ≤ 65535) ∧ ((¬ (0 ≤ p1.toInt ∧ p1.toInt ≤ 2000 ∧ 0 ≤ p2.toInt ∧ p2.toInt ≤ 65535) ∧ ((-1) : Int32).toInt = -1 ∧ v12_maps.toInt = v12_maps.toInt) ∨ ((0 ≤ p1.toInt ∧ p1.toInt ≤ 2000 ∧ 0 ≤ p2.toInt ∧ p2.toInt ≤ 65535) ∧ v12_maps.toInt = 8 ∧ ((-1) : Int32).toInt = -3 ∧ v12_maps.toInt = v12_maps.toInt) ∨ ((0 ≤ p1.toInt ∧ p1.toInt ≤ 2000 ∧ 0 ≤ p2.toInt ∧ p2.toInt ≤ 65535) ∧ v12_maps.toInt < 8 ∧ ((-1) : Int32).toInt = v12_maps.toInt ∧ v12_maps.toInt = v12_maps.toInt + 1)) ∧ (f12_yearOf = mapF p1 p2 v12_maps f12_yearOf p1) ∧ (f12_slips = mapF p1 p2 v12_maps f12_slips p2) := ⟨i12, hf12_slips, (by omega), (by first | (rw [mapF_ok (by omega), addF_ok (by omega)]; assumption) | exact ((mapF_ok (by omega)).trans (addF_no (by omega))).symm | exact (mapF_no (by omega)).symm), (by first | (rw [mapF_ok (by omega), addF_ok (by omega)]; assumption) | exact ((mapF_ok (by omega)).trans (addF_no (by omega))).symm | exact (mapF_no (by omega)).symm)⟩
  exact ret _ _ _ _ (-1) (v12_maps, f12_yearOf, f12_slips) dX12_map_20 hpo hP hD hS
set_option maxHeartbeats 4000000 in
set_option maxRecDepth 100000 in
theorem k_X12_feed (l : Launch) (D : va_G) (κ : Nat → ClassId) (β : Nat) (a12 : Nat) (r12 : Nat → Nat) (v12_keptMany : Int32) (v12_done : Int32) (v12_sheets : Int32) (v12_holes : Int32) (v12_worms : Int32) (v12_laidMany : Int32) (v12_wanted : Int32) (v12_orderMany : Int32) (v12_firstOrder : Int32) (v12_lines : Int32) (v12_marks : Int32) (v12_dots : Int32) (v12_madeIn : Int32) (v12_bound : Int32) (v12_places : Int32) (v12_maps : Int32) (v12_tapeMany : Int32) (v12_stories : Int32) (v12_base : Int32) (v12_at : Int32) (v12_ends : Int32) (v12_fault : Int32) (v12_opened : Int32) (v12_bodies : Int32) (v12_ran : Int32) (v12_ownKind : Int32) (v12_ownNumber : Int32) (f12_tape : Nat → Int32) (sz : Nat) (p1 : Int32) (p2 : Int32) (i1 : Rg 0 40 v12_keptMany) (i2 : Rg 0 40 v12_done) (i3 : Rg 0 8 v12_sheets) (i4 : Rg 0 40 v12_holes) (i5 : Rg 0 40 v12_worms) (i6 : Rg 0 8 v12_laidMany) (i7 : Rg 0 8 v12_wanted) (i8 : Rg 0 20 v12_lines) (i9 : Rg 0 60 v12_marks) (i10 : Rg 0 40 v12_dots) (i11 : Rg 0 20 v12_places) (i12 : Rg 0 8 v12_maps) (i13 : Rg 0 120 v12_tapeMany) (i14 : Rg 0 6 v12_stories) (i15 : Rg 0 50 v12_bodies) (i16 : Rg 0 1000 v12_ran) (i17 : v12_done.toInt ≤ v12_keptMany.toInt) : Met l yX12_feed wsX12_feed ({ frames := 1, cells := 0, slots := 0, locals := 25 } : Room) (PcK D κ β [O12 a12 r12 v12_keptMany v12_done v12_sheets v12_holes v12_worms v12_laidMany v12_wanted v12_orderMany v12_firstOrder v12_lines v12_marks v12_dots v12_madeIn v12_bound v12_places v12_maps v12_tapeMany v12_stories v12_base v12_at v12_ends v12_fault v12_opened v12_bodies v12_ran v12_ownKind v12_ownNumber, (cI κ (r12 41) 120 f12_tape)] sz [.ref a12, .int p1, .int p2]) (QiK D (fun (r : Int32) (u : Int32 × (Nat → Int32)) => 0 ≤ u.1.toInt ∧ u.1.toInt ≤ 120) (fun (u : Int32 × (Nat → Int32)) => [O12 a12 r12 v12_keptMany v12_done v12_sheets v12_holes v12_worms v12_laidMany v12_wanted v12_orderMany v12_firstOrder v12_lines v12_marks v12_dots v12_madeIn v12_bound v12_places v12_maps u.1 v12_stories v12_base v12_at v12_ends v12_fault v12_opened v12_bodies v12_ran v12_ownKind v12_ownNumber, (cI κ (r12 41) 120 u.2)]) [O12 a12 r12 v12_keptMany v12_done v12_sheets v12_holes v12_worms v12_laidMany v12_wanted v12_orderMany v12_firstOrder v12_lines v12_marks v12_dots v12_madeIn v12_bound v12_places v12_maps v12_tapeMany v12_stories v12_base v12_at v12_ends v12_fault v12_opened v12_bodies v12_ran v12_ownKind v12_ownNumber, (cI κ (r12 41) 120 f12_tape)] sz) 0 0 (va_A [O12 a12 r12 v12_keptMany v12_done v12_sheets v12_holes v12_worms v12_laidMany v12_wanted v12_orderMany v12_firstOrder v12_lines v12_marks v12_dots v12_madeIn v12_bound v12_places v12_maps v12_tapeMany v12_stories v12_base v12_at v12_ends v12_fault v12_opened v12_bodies v12_ran v12_ownKind v12_ownNumber, (cI κ (r12 41) 120 f12_tape)] sz) := by
  refine ofK_i (cc := cX12_feed) (maxL := 4) (own := RX12) (by decide) rfl rfl (Nat.le_of_ble_eq_true rfl) ?_
  intro p e s m args below meth c Q A ls hsz hx hb hml hts hown hK hA hAB hP hD hl ret
  have hS : va_S A s.heap s.heap [] := va_S.rf
  have hl : lv_has ls 4 [(0, .ref a12), (1, .int p1), (2, .int p2)] := hl
  have w0 := hts (.constantLong RX12 221 (4)) (List.mem_of_getElem? (i := 1) rfl)
  have w1 := hts (.fieldLink RX12 294 "OlderSkinModel" "tapeMany" "I") (List.mem_of_getElem? (i := 2) rfl)
  have w2 := (fun w h => List.mem_cons_of_mem _ (List.mem_append_right _ h) : ∀ w ∈ u_ws RX12 TX12 63, w ∈ wsX12_feed)
  have w3 := hts (.fieldLink RX12 86 "OlderSkinModel" "tape" "[I") (List.mem_of_getElem? (i := 3) rfl)
  have l0 : (1 : Int64).toInt = 1 := by decide
  have l1 : (4 : Int64).toInt = 4 := by decide
  have l2 : (0 : Int32).toInt = 0 := by decide
  have l3 : (120 : Int32).toInt = 120 := by decide
  have l4 : (8 : Int32).toInt = 8 := by decide
  have l5 : (255 : Int32).toInt = 255 := by decide
  have l6 : (1 : Int32).toInt = 1 := by decide
  have l7 : ((-3) : Int32).toInt = -3 := by decide
  have l8 : ((-1) : Int32).toInt = -1 := by decide
  have i13 : 0 ≤ v12_tapeMany.toInt ∧ v12_tapeMany.toInt ≤ 120 := i13
  refine lv_iload_n hx hb dX12_feed_0 rfl (lv_at hl 1 rfl) ?_
  refine lv_i2l hx hb dX12_feed_1 rfl ?_
  refine lv_topl (fun x1 e2 => ?_)
  have h3 : x1.toInt = p1.toInt := cl_i2l e2
  refine lv_lconst (v := (1 : Int64)) hx hb dX12_feed_2 (by decide) ?_
  refine lv_ldc2 (v := (4 : Int64)) hx hb hown w0 dX12_feed_3 ?_
  refine kcm_i hA hAB hP hD hS [false, false] rfl (fun _ => rfl) (fun hPc hDc => va_runS (As := [.long x1, .long (1 : Int64), .long (4 : Int64)]) (rest := []) ⟨hx, hb, hml, hown, hts⟩ (k_X12_within l D κ β s.heap.size x1 (1 : Int64) (4 : Int64)) (va_cwS 3 hts gX12_feed_X12_within rfl rfl rfl (by decide +kernel) ⟨Nat.le_of_ble_eq_true rfl, Nat.le_of_ble_eq_true rfl⟩) (pk_S hK hS hAB hPc hDc) rfl rfl hl.1 rfl (lv_room (Nat.le_of_ble_eq_true rfl)) dX12_feed_6 ⟨Nat.le_of_ble_eq_true rfl, Nat.le_of_ble_eq_true rfl⟩) (fun x4 u5 H locs hw hPD hS => ?_)
  have h6 : (x4.toInt = 1 ∧ (1 : Int64).toInt ≤ x1.toInt ∧ x1.toInt ≤ (4 : Int64).toInt) ∨ (x4.toInt = 0 ∧ (x1.toInt < (1 : Int64).toInt ∨ (4 : Int64).toInt < x1.toInt)) := hw
  obtain ⟨hP, hD⟩ : PD D A [O12 a12 r12 v12_keptMany v12_done v12_sheets v12_holes v12_worms v12_laidMany v12_wanted v12_orderMany v12_firstOrder v12_lines v12_marks v12_dots v12_madeIn v12_bound v12_places v12_maps v12_tapeMany v12_stories v12_base v12_at v12_ends v12_fault v12_opened v12_bodies v12_ran v12_ownKind v12_ownNumber, (cI κ (r12 41) 120 f12_tape)] H := hPD
  refine lv_if_ne (tgt := 14) hx hb dX12_feed_9 (by decide) (fun c7 => ?_) (fun c7 => ?_)
  · have c7 := ci_ne c7
    refine lv_aload_n hx hb dX12_feed_14 rfl (lv_at hl 0 rfl) ?_
    refine va_get (D := D) (ci := 12) (v := .int v12_tapeMany) (C := RX12) (T := TX12) (N := 63) hx hb hts w2 hown hK.1 hP 0 rfl rfl 42 (by decide) w1 (fun _ h9 => h9) rfl dX12_feed_15 ?_
    refine lv_iload_n hx hb dX12_feed_18 rfl (lv_at hl 1 rfl) ?_
    refine lv_iadd hx hb dX12_feed_19 ?_
    refine lv_topi (fun x8 e9 => ?_)
    try have h10 : x8.toInt = v12_tapeMany.toInt + p1.toInt := ci_add e9 (by omega) (by omega)
    refine lv_bipush (v := 120) hx hb dX12_feed_20 (by decide) ?_
    refine lv_icmp_le (tgt := 28) hx hb dX12_feed_22 (by decide) (fun c11 => ?_) (fun c11 => ?_)
    · have c11 := ci_le c11
      refine lv_iconst (v := 0) hx hb dX12_feed_28 (by decide) ?_
      refine lv_istore_n (lv' := [(3, .int 0), (0, .ref a12), (1, .int p1), (2, .int p2)]) hx hb dX12_feed_29 rfl hl (by decide) rfl (fun ls hl => ?_)
      have lp30 : ∀ (n30 : Nat) (k12 : Int32) (v13 : Int32) (g14 : Nat → Int32), (0 ≤ v13.toInt ∧ v13.toInt ≤ 120) → (k12.toInt ≤ p1.toInt) → (v13.toInt - k12.toInt = v12_tapeMany.toInt) → (0 ≤ k12.toInt) → (p1.toInt - k12.toInt).toNat < n30 → ∀ (H : Heap) (locs : List Loc), va_P D vwCl [O12 a12 r12 v12_keptMany v12_done v12_sheets v12_holes v12_worms v12_laidMany v12_wanted v12_orderMany v12_firstOrder v12_lines v12_marks v12_dots v12_madeIn v12_bound v12_places v12_maps v13 v12_stories v12_base v12_at v12_ends v12_fault v12_opened v12_bodies v12_ran v12_ownKind v12_ownNumber, (cI κ (r12 41) 120 g14)] H → va_D A [O12 a12 r12 v12_keptMany v12_done v12_sheets v12_holes v12_worms v12_laidMany v12_wanted v12_orderMany v12_firstOrder v12_lines v12_marks v12_dots v12_madeIn v12_bound v12_places v12_maps v13 v12_stories v12_base v12_at v12_ends v12_fault v12_opened v12_bodies v12_ran v12_ownKind v12_ownNumber, (cI κ (r12 41) 120 g14)] → va_S A s.heap H locs → ∀ ls : Array Slot, lv_has ls 4 [(3, .int k12), (0, .ref a12), (1, .int p1), (2, .int p2)] → W p l e ({ frames := 1, cells := 0, slots := 0, locals := 25 } : Room) s m args below meth c H locs 0 0 Q (F0 m 30 ls []) := by
        intro n30
        induction n30 with
        | zero =>
          intro k12 v13 g14 h15 h16 h17 h18 m19
          exact absurd m19 (Nat.not_lt_zero _)
        | succ n30 ih30 =>
          intro k12 v13 g14 h15 h16 h17 h18 m19 H locs hP hD hS ls hl
          refine lv_iload_n hx hb dX12_feed_30 rfl (lv_at hl 0 rfl) ?_
          refine lv_iload_n hx hb dX12_feed_31 rfl (lv_at hl 2 rfl) ?_
          refine lv_icmp_ge (tgt := 70) hx hb dX12_feed_32 (by decide) (fun c20 => ?_) (fun c20 => ?_)
          · have c20 := ci_le c20
            refine lv_aload_n hx hb dX12_feed_70 rfl (lv_at hl 1 rfl) ?_
            refine va_get (D := D) (ci := 12) (v := .int v13) (C := RX12) (T := TX12) (N := 63) hx hb hts w2 hown hK.1 hP 0 rfl rfl 42 (by decide) w1 (fun _ h9 => h9) rfl dX12_feed_71 ?_
            have hpo : 0 ≤ v13.toInt ∧ v13.toInt ≤ 120 := h15
            exact ret _ _ _ _ v13 (v13, g14) dX12_feed_74 hpo hP hD hS
          have c20 := ci_nle c20
          refine lv_aload_n hx hb dX12_feed_35 rfl (lv_at hl 1 rfl) ?_
          refine va_get (D := D) (ci := 12) (v := .ref (r12 41)) (C := RX12) (T := TX12) (N := 63) hx hb hts w2 hown hK.1 hP 0 rfl rfl 41 (by decide) w3 (fun _ h9 => h9) rfl dX12_feed_36 ?_
          refine lv_aload_n hx hb dX12_feed_39 rfl (lv_at hl 1 rfl) ?_
          refine va_get (D := D) (ci := 12) (v := .int v13) (C := RX12) (T := TX12) (N := 63) hx hb hts w2 hown hK.1 hP 0 rfl rfl 42 (by decide) w1 (fun _ h9 => h9) rfl dX12_feed_40 ?_
          refine lv_iload_n hx hb dX12_feed_43 rfl (lv_at hl 3 rfl) ?_
          refine lv_bipush (v := 8) hx hb dX12_feed_44 (by decide) ?_
          refine lv_iload_n hx hb dX12_feed_46 rfl (lv_at hl 0 rfl) ?_
          refine lv_imul hx hb dX12_feed_47 ?_
          refine lv_topi (fun x21 e22 => ?_)
          try have h23 : x21.toInt = 8 * k12.toInt := ci_mulL (n := 8) (by decide) e22 (by omega) (by omega)
          refine lv_ishr hx hb dX12_feed_48 ?_
          refine lv_topi (fun x24 e25 => ?_)
          refine lv_sipush (v := 255) hx hb dX12_feed_49 (by decide) ?_
          refine lv_iand hx hb dX12_feed_52 ?_
          refine lv_topi (fun x26 e27 => ?_)
          refine va_iast hx hb hK.1 hP hD hS 1 1 rfl rfl (i := v13) (ix (by omega) (by omega)) dX12_feed_53 (fun H locs hP hD hS => ?_)
          obtain ⟨g28, e29⟩ : ∃ y : Nat → Int32, y = upd g14 v13.toNatClampNeg x26 := ⟨_, rfl⟩
          rw [← e29] at hP hD
          obtain ⟨hP, hD⟩ : PD D A [O12 a12 r12 v12_keptMany v12_done v12_sheets v12_holes v12_worms v12_laidMany v12_wanted v12_orderMany v12_firstOrder v12_lines v12_marks v12_dots v12_madeIn v12_bound v12_places v12_maps v13 v12_stories v12_base v12_at v12_ends v12_fault v12_opened v12_bodies v12_ran v12_ownKind v12_ownNumber, (cI κ (r12 41) 120 g28)] H := ⟨hP, hD⟩
          refine lv_aload_n hx hb dX12_feed_54 rfl (lv_at hl 1 rfl) ?_
          refine lv_dup hx hb dX12_feed_55 rfl ?_
          refine va_get (D := D) (ci := 12) (v := .int v13) (C := RX12) (T := TX12) (N := 63) hx hb hts w2 hown hK.1 hP 0 rfl rfl 42 (by decide) w1 (fun _ h9 => h9) rfl dX12_feed_56 ?_
          refine lv_iconst (v := 1) hx hb dX12_feed_59 (by decide) ?_
          refine lv_iadd hx hb dX12_feed_60 ?_
          refine lv_topi (fun x30 e31 => ?_)
          try have h32 : x30.toInt = v13.toInt + (1 : Int32).toInt := ci_add e31 (by omega) (by omega)
          refine va_put (D := D) (ci := 12) (v := .int x30) (ty := .int) (C := RX12) (T := TX12) (N := 63) hx hb hts w2 tyX12 tyX12_ok nmX12 hown hK.1 hP hD hS 0 rfl rfl 42 (by decide) w1 (fun _ h9 => h9) rfl (by decide +kernel) rfl rfl (Nat.le_of_ble_eq_true rfl) dX12_feed_61 (fun H locs hP hD hS => ?_)
          obtain ⟨hP, hD⟩ : PD D A [O12 a12 r12 v12_keptMany v12_done v12_sheets v12_holes v12_worms v12_laidMany v12_wanted v12_orderMany v12_firstOrder v12_lines v12_marks v12_dots v12_madeIn v12_bound v12_places v12_maps x30 v12_stories v12_base v12_at v12_ends v12_fault v12_opened v12_bodies v12_ran v12_ownKind v12_ownNumber, (cI κ (r12 41) 120 g28)] H := ⟨hP, hD⟩
          have h33 : 0 ≤ x30.toInt ∧ x30.toInt ≤ 120 := by omega
          obtain ⟨x34, e35⟩ : ∃ y : Int32, y = k12 + 1 := ⟨_, rfl⟩
          refine lv_iinc (v := x34) (lv' := [(3, .int x34), (0, .ref a12), (1, .int p1), (2, .int p2)]) hx hb dX12_feed_64 hl (k := 0) rfl (by rw [e35]; rfl) (by decide) rfl (fun ls hl => ?_)
          try have h36 : x34.toInt = k12.toInt + (1 : Int32).toInt := ci_add e35 (by omega) (by omega)
          refine lv_goto (tgt := 30) hx hb dX12_feed_67 (by decide) ?_
          exact ih30 x34 x30 g28 h33 (by omega) (by omega) (by omega) (by omega) _ _ hP hD hS _ hl
      exact lp30 ((p1.toInt - (0 : Int32).toInt).toNat + 1) 0 v12_tapeMany f12_tape i13 (by omega) (by omega) (by omega) (by omega) _ _ hP hD hS _ hl
    have c11 := ci_nle c11
    refine lv_bipush (v := (-3)) hx hb dX12_feed_25 (by decide) ?_
    have hpo : 0 ≤ v12_tapeMany.toInt ∧ v12_tapeMany.toInt ≤ 120 := i13
    exact ret _ _ _ _ (-3) (v12_tapeMany, f12_tape) dX12_feed_27 hpo hP hD hS
  have c7 := ci_eq c7
  refine lv_iconst (v := (-1)) hx hb dX12_feed_12 (by decide) ?_
  have hpo : 0 ≤ v12_tapeMany.toInt ∧ v12_tapeMany.toInt ≤ 120 := i13
  exact ret _ _ _ _ (-1) (v12_tapeMany, f12_tape) dX12_feed_13 hpo hP hD hS
set_option maxHeartbeats 4000000 in
set_option maxRecDepth 100000 in
theorem k_X12_body (l : Launch) (D : va_G) (κ : Nat → ClassId) (β : Nat) (a12 : Nat) (r12 : Nat → Nat) (v12_keptMany : Int32) (v12_done : Int32) (v12_sheets : Int32) (v12_holes : Int32) (v12_worms : Int32) (v12_laidMany : Int32) (v12_wanted : Int32) (v12_orderMany : Int32) (v12_firstOrder : Int32) (v12_lines : Int32) (v12_marks : Int32) (v12_dots : Int32) (v12_madeIn : Int32) (v12_bound : Int32) (v12_places : Int32) (v12_maps : Int32) (v12_tapeMany : Int32) (v12_stories : Int32) (v12_base : Int32) (v12_at : Int32) (v12_ends : Int32) (v12_fault : Int32) (v12_opened : Int32) (v12_bodies : Int32) (v12_ran : Int32) (v12_ownKind : Int32) (v12_ownNumber : Int32) (f12_bodyKind : Nat → Int32) (sz : Nat) (p1 : Int32) (i1 : Rg 0 40 v12_keptMany) (i2 : Rg 0 40 v12_done) (i3 : Rg 0 8 v12_sheets) (i4 : Rg 0 40 v12_holes) (i5 : Rg 0 40 v12_worms) (i6 : Rg 0 8 v12_laidMany) (i7 : Rg 0 8 v12_wanted) (i8 : Rg 0 20 v12_lines) (i9 : Rg 0 60 v12_marks) (i10 : Rg 0 40 v12_dots) (i11 : Rg 0 20 v12_places) (i12 : Rg 0 8 v12_maps) (i13 : Rg 0 120 v12_tapeMany) (i14 : Rg 0 6 v12_stories) (i15 : Rg 0 50 v12_bodies) (i16 : Rg 0 1000 v12_ran) (i17 : v12_done.toInt ≤ v12_keptMany.toInt) : Met l yX12_body wsX12_body ({ frames := 1, cells := 0, slots := 0, locals := 25 } : Room) (PcK D κ β [O12 a12 r12 v12_keptMany v12_done v12_sheets v12_holes v12_worms v12_laidMany v12_wanted v12_orderMany v12_firstOrder v12_lines v12_marks v12_dots v12_madeIn v12_bound v12_places v12_maps v12_tapeMany v12_stories v12_base v12_at v12_ends v12_fault v12_opened v12_bodies v12_ran v12_ownKind v12_ownNumber, (cI κ (r12 54) 50 f12_bodyKind)] sz [.ref a12, .int p1]) (QiK D (fun (r : Int32) (u : Int32 × (Nat → Int32)) => (0 ≤ u.1.toInt ∧ u.1.toInt ≤ 50) ∧ ((¬ (0 ≤ p1.toInt ∧ p1.toInt ≤ 7) ∧ r.toInt = -1 ∧ u.1.toInt = v12_bodies.toInt) ∨ ((0 ≤ p1.toInt ∧ p1.toInt ≤ 7) ∧ v12_bodies.toInt = 50 ∧ r.toInt = -3 ∧ u.1.toInt = v12_bodies.toInt) ∨ ((0 ≤ p1.toInt ∧ p1.toInt ≤ 7) ∧ v12_bodies.toInt < 50 ∧ r.toInt = v12_bodies.toInt ∧ u.1.toInt = v12_bodies.toInt + 1))) (fun (u : Int32 × (Nat → Int32)) => [O12 a12 r12 v12_keptMany v12_done v12_sheets v12_holes v12_worms v12_laidMany v12_wanted v12_orderMany v12_firstOrder v12_lines v12_marks v12_dots v12_madeIn v12_bound v12_places v12_maps v12_tapeMany v12_stories v12_base v12_at v12_ends v12_fault v12_opened u.1 v12_ran v12_ownKind v12_ownNumber, (cI κ (r12 54) 50 u.2)]) [O12 a12 r12 v12_keptMany v12_done v12_sheets v12_holes v12_worms v12_laidMany v12_wanted v12_orderMany v12_firstOrder v12_lines v12_marks v12_dots v12_madeIn v12_bound v12_places v12_maps v12_tapeMany v12_stories v12_base v12_at v12_ends v12_fault v12_opened v12_bodies v12_ran v12_ownKind v12_ownNumber, (cI κ (r12 54) 50 f12_bodyKind)] sz) 0 0 (va_A [O12 a12 r12 v12_keptMany v12_done v12_sheets v12_holes v12_worms v12_laidMany v12_wanted v12_orderMany v12_firstOrder v12_lines v12_marks v12_dots v12_madeIn v12_bound v12_places v12_maps v12_tapeMany v12_stories v12_base v12_at v12_ends v12_fault v12_opened v12_bodies v12_ran v12_ownKind v12_ownNumber, (cI κ (r12 54) 50 f12_bodyKind)] sz) := by
  refine ofK_i (cc := cX12_body) (maxL := 2) (own := RX12) (by decide) rfl rfl (Nat.le_of_ble_eq_true rfl) ?_
  intro p e s m args below meth c Q A ls hsz hx hb hml hts hown hK hA hAB hP hD hl ret
  have hS : va_S A s.heap s.heap [] := va_S.rf
  have hl : lv_has ls 2 [(0, .ref a12), (1, .int p1)] := hl
  have w0 := hts (.constantLong RX12 223 (7)) (List.mem_of_getElem? (i := 1) rfl)
  have w1 := hts (.fieldLink RX12 379 "OlderSkinModel" "bodies" "I") (List.mem_of_getElem? (i := 2) rfl)
  have w2 := (fun w h => List.mem_cons_of_mem _ (List.mem_append_right _ h) : ∀ w ∈ u_ws RX12 TX12 63, w ∈ wsX12_body)
  have w3 := hts (.fieldLink RX12 101 "OlderSkinModel" "bodyKind" "[I") (List.mem_of_getElem? (i := 3) rfl)
  have l0 : (0 : Int64).toInt = 0 := by decide
  have l1 : (7 : Int64).toInt = 7 := by decide
  have l2 : (0 : Int32).toInt = 0 := by decide
  have l3 : (50 : Int32).toInt = 50 := by decide
  have l4 : (1 : Int32).toInt = 1 := by decide
  have l5 : ((-3) : Int32).toInt = -3 := by decide
  have l6 : ((-1) : Int32).toInt = -1 := by decide
  have i15 : 0 ≤ v12_bodies.toInt ∧ v12_bodies.toInt ≤ 50 := i15
  refine lv_iload_n hx hb dX12_body_0 rfl (lv_at hl 1 rfl) ?_
  refine lv_i2l hx hb dX12_body_1 rfl ?_
  refine lv_topl (fun x1 e2 => ?_)
  have h3 : x1.toInt = p1.toInt := cl_i2l e2
  refine lv_lconst (v := (0 : Int64)) hx hb dX12_body_2 (by decide) ?_
  refine lv_ldc2 (v := (7 : Int64)) hx hb hown w0 dX12_body_3 ?_
  refine kcm_i hA hAB hP hD hS [false, false] rfl (fun _ => rfl) (fun hPc hDc => va_runS (As := [.long x1, .long (0 : Int64), .long (7 : Int64)]) (rest := []) ⟨hx, hb, hml, hown, hts⟩ (k_X12_within l D κ β s.heap.size x1 (0 : Int64) (7 : Int64)) (va_cwS 3 hts gX12_body_X12_within rfl rfl rfl (by decide +kernel) ⟨Nat.le_of_ble_eq_true rfl, Nat.le_of_ble_eq_true rfl⟩) (pk_S hK hS hAB hPc hDc) rfl rfl hl.1 rfl (lv_room (Nat.le_of_ble_eq_true rfl)) dX12_body_6 ⟨Nat.le_of_ble_eq_true rfl, Nat.le_of_ble_eq_true rfl⟩) (fun x4 u5 H locs hw hPD hS => ?_)
  have h6 : (x4.toInt = 1 ∧ (0 : Int64).toInt ≤ x1.toInt ∧ x1.toInt ≤ (7 : Int64).toInt) ∨ (x4.toInt = 0 ∧ (x1.toInt < (0 : Int64).toInt ∨ (7 : Int64).toInt < x1.toInt)) := hw
  obtain ⟨hP, hD⟩ : PD D A [O12 a12 r12 v12_keptMany v12_done v12_sheets v12_holes v12_worms v12_laidMany v12_wanted v12_orderMany v12_firstOrder v12_lines v12_marks v12_dots v12_madeIn v12_bound v12_places v12_maps v12_tapeMany v12_stories v12_base v12_at v12_ends v12_fault v12_opened v12_bodies v12_ran v12_ownKind v12_ownNumber, (cI κ (r12 54) 50 f12_bodyKind)] H := hPD
  refine lv_if_ne (tgt := 14) hx hb dX12_body_9 (by decide) (fun c7 => ?_) (fun c7 => ?_)
  · have c7 := ci_ne c7
    refine lv_aload_n hx hb dX12_body_14 rfl (lv_at hl 0 rfl) ?_
    refine va_get (D := D) (ci := 12) (v := .int v12_bodies) (C := RX12) (T := TX12) (N := 63) hx hb hts w2 hown hK.1 hP 0 rfl rfl 53 (by decide) w1 (fun _ h9 => h9) rfl dX12_body_15 ?_
    refine lv_bipush (v := 50) hx hb dX12_body_18 (by decide) ?_
    refine lv_icmp_ne (tgt := 26) hx hb dX12_body_20 (by decide) (fun c8 => ?_) (fun c8 => ?_)
    · have c8 := ci_ne c8
      refine lv_aload_n hx hb dX12_body_26 rfl (lv_at hl 0 rfl) ?_
      refine va_get (D := D) (ci := 12) (v := .ref (r12 54)) (C := RX12) (T := TX12) (N := 63) hx hb hts w2 hown hK.1 hP 0 rfl rfl 54 (by decide) w3 (fun _ h9 => h9) rfl dX12_body_27 ?_
      refine lv_aload_n hx hb dX12_body_30 rfl (lv_at hl 0 rfl) ?_
      refine va_get (D := D) (ci := 12) (v := .int v12_bodies) (C := RX12) (T := TX12) (N := 63) hx hb hts w2 hown hK.1 hP 0 rfl rfl 53 (by decide) w1 (fun _ h9 => h9) rfl dX12_body_31 ?_
      refine lv_iload_n hx hb dX12_body_34 rfl (lv_at hl 1 rfl) ?_
      refine va_iast hx hb hK.1 hP hD hS 1 1 rfl rfl (i := v12_bodies) (ix (by omega) (by omega)) dX12_body_35 (fun H locs hP hD hS => ?_)
      obtain ⟨g9, e10⟩ : ∃ y : Nat → Int32, y = upd f12_bodyKind v12_bodies.toNatClampNeg p1 := ⟨_, rfl⟩
      rw [← e10] at hP hD
      obtain ⟨hP, hD⟩ : PD D A [O12 a12 r12 v12_keptMany v12_done v12_sheets v12_holes v12_worms v12_laidMany v12_wanted v12_orderMany v12_firstOrder v12_lines v12_marks v12_dots v12_madeIn v12_bound v12_places v12_maps v12_tapeMany v12_stories v12_base v12_at v12_ends v12_fault v12_opened v12_bodies v12_ran v12_ownKind v12_ownNumber, (cI κ (r12 54) 50 g9)] H := ⟨hP, hD⟩
      refine lv_aload_n hx hb dX12_body_36 rfl (lv_at hl 0 rfl) ?_
      refine lv_dup hx hb dX12_body_37 rfl ?_
      refine va_get (D := D) (ci := 12) (v := .int v12_bodies) (C := RX12) (T := TX12) (N := 63) hx hb hts w2 hown hK.1 hP 0 rfl rfl 53 (by decide) w1 (fun _ h9 => h9) rfl dX12_body_38 ?_
      refine lv_iconst (v := 1) hx hb dX12_body_41 (by decide) ?_
      refine lv_iadd hx hb dX12_body_42 ?_
      refine lv_topi (fun x11 e12 => ?_)
      try have h13 : x11.toInt = v12_bodies.toInt + (1 : Int32).toInt := ci_add e12 (by omega) (by omega)
      refine va_put (D := D) (ci := 12) (v := .int x11) (ty := .int) (C := RX12) (T := TX12) (N := 63) hx hb hts w2 tyX12 tyX12_ok nmX12 hown hK.1 hP hD hS 0 rfl rfl 53 (by decide) w1 (fun _ h9 => h9) rfl (by decide +kernel) rfl rfl (Nat.le_of_ble_eq_true rfl) dX12_body_43 (fun H locs hP hD hS => ?_)
      obtain ⟨hP, hD⟩ : PD D A [O12 a12 r12 v12_keptMany v12_done v12_sheets v12_holes v12_worms v12_laidMany v12_wanted v12_orderMany v12_firstOrder v12_lines v12_marks v12_dots v12_madeIn v12_bound v12_places v12_maps v12_tapeMany v12_stories v12_base v12_at v12_ends v12_fault v12_opened x11 v12_ran v12_ownKind v12_ownNumber, (cI κ (r12 54) 50 g9)] H := ⟨hP, hD⟩
      have h14 : 0 ≤ x11.toInt ∧ x11.toInt ≤ 50 := by omega
      refine lv_aload_n hx hb dX12_body_46 rfl (lv_at hl 0 rfl) ?_
      refine va_get (D := D) (ci := 12) (v := .int x11) (C := RX12) (T := TX12) (N := 63) hx hb hts w2 hown hK.1 hP 0 rfl rfl 53 (by decide) w1 (fun _ h9 => h9) rfl dX12_body_47 ?_
      refine lv_iconst (v := 1) hx hb dX12_body_50 (by decide) ?_
      refine lv_isub hx hb dX12_body_51 ?_
      refine lv_topi (fun x15 e16 => ?_)
      try have h17 : x15.toInt = x11.toInt - (1 : Int32).toInt := ci_sub e16 (by omega) (by omega)
      have hpo : (0 ≤ x11.toInt ∧ x11.toInt ≤ 50) ∧ ((¬ (0 ≤ p1.toInt ∧ p1.toInt ≤ 7) ∧ x15.toInt = -1 ∧ x11.toInt = v12_bodies.toInt) ∨ ((0 ≤ p1.toInt ∧ p1.toInt ≤ 7) ∧ v12_bodies.toInt = 50 ∧ x15.toInt = -3 ∧ x11.toInt = v12_bodies.toInt) ∨ ((0 ≤ p1.toInt ∧ p1.toInt ≤ 7) ∧ v12_bodies.toInt < 50 ∧ x15.toInt = v12_bodies.toInt ∧ x11.toInt = v12_bodies.toInt + 1)) := ⟨h14, (by omega)⟩
      exact ret _ _ _ _ x15 (x11, g9) dX12_body_52 hpo hP hD hS
    have c8 := ci_eq c8
    refine lv_bipush (v := (-3)) hx hb dX12_body_23 (by decide) ?_
    have hpo : (0 ≤ v12_bodies.toInt ∧ v12_bodies.toInt ≤ 50) ∧ ((¬ (0 ≤ p1.toInt ∧ p1.toInt ≤ 7) ∧ ((-3) : Int32).toInt = -1 ∧ v12_bodies.toInt = v12_bodies.toInt) ∨ ((0 ≤ p1.toInt ∧ p1.toInt ≤ 7) ∧ v12_bodies.toInt = 50 ∧ ((-3) : Int32).toInt = -3 ∧ v12_bodies.toInt = v12_bodies.toInt) ∨ ((0 ≤ p1.toInt ∧ p1.toInt ≤ 7) ∧ v12_bodies.toInt < 50 ∧ ((-3) : Int32).toInt = v12_bodies.toInt ∧ v12_bodies.toInt = v12_bodies.toInt + 1)) := ⟨i15, (by omega)⟩
    exact ret _ _ _ _ (-3) (v12_bodies, f12_bodyKind) dX12_body_25 hpo hP hD hS
  have c7 := ci_eq c7
  refine lv_iconst (v := (-1)) hx hb dX12_body_12 (by decide) ?_
  have hpo : (0 ≤ v12_bodies.toInt ∧ v12_bodies.toInt ≤ 50) ∧ ((¬ (0 ≤ p1.toInt ∧ p1.toInt ≤ 7) ∧ ((-1) : Int32).toInt = -1 ∧ v12_bodies.toInt = v12_bodies.toInt) ∨ ((0 ≤ p1.toInt ∧ p1.toInt ≤ 7) ∧ v12_bodies.toInt = 50 ∧ ((-1) : Int32).toInt = -3 ∧ v12_bodies.toInt = v12_bodies.toInt) ∨ ((0 ≤ p1.toInt ∧ p1.toInt ≤ 7) ∧ v12_bodies.toInt < 50 ∧ ((-1) : Int32).toInt = v12_bodies.toInt ∧ v12_bodies.toInt = v12_bodies.toInt + 1)) := ⟨i15, (by omega)⟩
  exact ret _ _ _ _ (-1) (v12_bodies, f12_bodyKind) dX12_body_13 hpo hP hD hS
set_option maxHeartbeats 4000000 in
set_option maxRecDepth 100000 in
theorem k_X12_kindOf (l : Launch) (D : va_G) (κ : Nat → ClassId) (β : Nat) (a12 : Nat) (r12 : Nat → Nat) (v12_keptMany : Int32) (v12_done : Int32) (v12_sheets : Int32) (v12_holes : Int32) (v12_worms : Int32) (v12_laidMany : Int32) (v12_wanted : Int32) (v12_orderMany : Int32) (v12_firstOrder : Int32) (v12_lines : Int32) (v12_marks : Int32) (v12_dots : Int32) (v12_madeIn : Int32) (v12_bound : Int32) (v12_places : Int32) (v12_maps : Int32) (v12_tapeMany : Int32) (v12_stories : Int32) (v12_base : Int32) (v12_at : Int32) (v12_ends : Int32) (v12_fault : Int32) (v12_opened : Int32) (v12_bodies : Int32) (v12_ran : Int32) (v12_ownKind : Int32) (v12_ownNumber : Int32) (f12_bodyKind : Nat → Int32) (sz : Nat) (p1 : Int32) (i1 : Rg 0 40 v12_keptMany) (i2 : Rg 0 40 v12_done) (i3 : Rg 0 8 v12_sheets) (i4 : Rg 0 40 v12_holes) (i5 : Rg 0 40 v12_worms) (i6 : Rg 0 8 v12_laidMany) (i7 : Rg 0 8 v12_wanted) (i8 : Rg 0 20 v12_lines) (i9 : Rg 0 60 v12_marks) (i10 : Rg 0 40 v12_dots) (i11 : Rg 0 20 v12_places) (i12 : Rg 0 8 v12_maps) (i13 : Rg 0 120 v12_tapeMany) (i14 : Rg 0 6 v12_stories) (i15 : Rg 0 50 v12_bodies) (i16 : Rg 0 1000 v12_ran) (i17 : v12_done.toInt ≤ v12_keptMany.toInt) (i18 : 0 ≤ p1.toInt ∧ p1.toInt ≤ 49) : Met l yX12_kindOf wsX12_kindOf ({ frames := 0, cells := 0, slots := 0, locals := 0 } : Room) (PcK D κ β [O12 a12 r12 v12_keptMany v12_done v12_sheets v12_holes v12_worms v12_laidMany v12_wanted v12_orderMany v12_firstOrder v12_lines v12_marks v12_dots v12_madeIn v12_bound v12_places v12_maps v12_tapeMany v12_stories v12_base v12_at v12_ends v12_fault v12_opened v12_bodies v12_ran v12_ownKind v12_ownNumber, (cI κ (r12 54) 50 f12_bodyKind)] sz [.ref a12, .int p1]) (QiK D (fun (r : Int32) (u : Unit) => True) (fun (u : Unit) => [O12 a12 r12 v12_keptMany v12_done v12_sheets v12_holes v12_worms v12_laidMany v12_wanted v12_orderMany v12_firstOrder v12_lines v12_marks v12_dots v12_madeIn v12_bound v12_places v12_maps v12_tapeMany v12_stories v12_base v12_at v12_ends v12_fault v12_opened v12_bodies v12_ran v12_ownKind v12_ownNumber, (cI κ (r12 54) 50 f12_bodyKind)]) [O12 a12 r12 v12_keptMany v12_done v12_sheets v12_holes v12_worms v12_laidMany v12_wanted v12_orderMany v12_firstOrder v12_lines v12_marks v12_dots v12_madeIn v12_bound v12_places v12_maps v12_tapeMany v12_stories v12_base v12_at v12_ends v12_fault v12_opened v12_bodies v12_ran v12_ownKind v12_ownNumber, (cI κ (r12 54) 50 f12_bodyKind)] sz) 0 0 (va_A [O12 a12 r12 v12_keptMany v12_done v12_sheets v12_holes v12_worms v12_laidMany v12_wanted v12_orderMany v12_firstOrder v12_lines v12_marks v12_dots v12_madeIn v12_bound v12_places v12_maps v12_tapeMany v12_stories v12_base v12_at v12_ends v12_fault v12_opened v12_bodies v12_ran v12_ownKind v12_ownNumber, (cI κ (r12 54) 50 f12_bodyKind)] sz) := by
  refine ofK_i (cc := cX12_kindOf) (maxL := 2) (own := RX12) (by decide) rfl rfl (Nat.le_of_ble_eq_true rfl) ?_
  intro p e s m args below meth c Q A ls hsz hx hb hml hts hown hK hA hAB hP hD hl ret
  have hS : va_S A s.heap s.heap [] := va_S.rf
  have hl : lv_has ls 2 [(0, .ref a12), (1, .int p1)] := hl
  have w0 := hts (.fieldLink RX12 101 "OlderSkinModel" "bodyKind" "[I") (List.mem_of_getElem? (i := 1) rfl)
  have w1 := (fun w h => List.mem_cons_of_mem _ (List.mem_append_right _ h) : ∀ w ∈ u_ws RX12 TX12 63, w ∈ wsX12_kindOf)
  refine lv_aload_n hx hb dX12_kindOf_0 rfl (lv_at hl 0 rfl) ?_
  refine va_get (D := D) (ci := 12) (v := .ref (r12 54)) (C := RX12) (T := TX12) (N := 63) hx hb hts w1 hown hK.1 hP 0 rfl rfl 54 (by decide) w0 (fun _ h9 => h9) rfl dX12_kindOf_1 ?_
  refine lv_iload_n hx hb dX12_kindOf_4 rfl (lv_at hl 1 rfl) ?_
  refine va_iald hx hb hK.1 hP 1 1 rfl rfl (i := p1) (ix (by omega) (by omega)) dX12_kindOf_5 ?_
  refine lv_topi (fun x1 e2 => ?_)
  exact ret _ _ _ _ x1 () dX12_kindOf_6 trivial hP hD hS
set_option maxHeartbeats 4000000 in
set_option maxRecDepth 100000 in
theorem k_X12_begins (l : Launch) (D : va_G) (κ : Nat → ClassId) (β : Nat) (a12 : Nat) (r12 : Nat → Nat) (v12_keptMany : Int32) (v12_done : Int32) (v12_sheets : Int32) (v12_holes : Int32) (v12_worms : Int32) (v12_laidMany : Int32) (v12_wanted : Int32) (v12_orderMany : Int32) (v12_firstOrder : Int32) (v12_lines : Int32) (v12_marks : Int32) (v12_dots : Int32) (v12_madeIn : Int32) (v12_bound : Int32) (v12_places : Int32) (v12_maps : Int32) (v12_tapeMany : Int32) (v12_stories : Int32) (v12_base : Int32) (v12_at : Int32) (v12_ends : Int32) (v12_fault : Int32) (v12_opened : Int32) (v12_bodies : Int32) (v12_ran : Int32) (v12_ownKind : Int32) (v12_ownNumber : Int32) (f12_trace : Nat → Int32) (sz : Nat) (p1 : Int32) (i1 : Rg 0 40 v12_keptMany) (i2 : Rg 0 40 v12_done) (i3 : Rg 0 8 v12_sheets) (i4 : Rg 0 40 v12_holes) (i5 : Rg 0 40 v12_worms) (i6 : Rg 0 8 v12_laidMany) (i7 : Rg 0 8 v12_wanted) (i8 : Rg 0 20 v12_lines) (i9 : Rg 0 60 v12_marks) (i10 : Rg 0 40 v12_dots) (i11 : Rg 0 20 v12_places) (i12 : Rg 0 8 v12_maps) (i13 : Rg 0 120 v12_tapeMany) (i14 : Rg 0 6 v12_stories) (i15 : Rg 0 50 v12_bodies) (i16 : Rg 0 1000 v12_ran) (i17 : v12_done.toInt ≤ v12_keptMany.toInt) (i18 : v12_ran.toInt ≤ 900) : Met l yX12_begins wsX12_begins ({ frames := 0, cells := 0, slots := 0, locals := 0 } : Room) (PcK D κ β [O12 a12 r12 v12_keptMany v12_done v12_sheets v12_holes v12_worms v12_laidMany v12_wanted v12_orderMany v12_firstOrder v12_lines v12_marks v12_dots v12_madeIn v12_bound v12_places v12_maps v12_tapeMany v12_stories v12_base v12_at v12_ends v12_fault v12_opened v12_bodies v12_ran v12_ownKind v12_ownNumber, (cI κ (r12 55) 24 f12_trace)] sz [.ref a12, .int p1]) (QvK D (fun (u : Int32 × (Nat → Int32)) => (0 ≤ u.1.toInt ∧ u.1.toInt ≤ 1000) ∧ (u.1.toInt = v12_ran.toInt + 1)) (fun (u : Int32 × (Nat → Int32)) => [O12 a12 r12 v12_keptMany v12_done v12_sheets v12_holes v12_worms v12_laidMany v12_wanted v12_orderMany v12_firstOrder v12_lines v12_marks v12_dots v12_madeIn v12_bound v12_places v12_maps v12_tapeMany v12_stories v12_base v12_at v12_ends v12_fault v12_opened v12_bodies u.1 v12_ownKind v12_ownNumber, (cI κ (r12 55) 24 u.2)]) [O12 a12 r12 v12_keptMany v12_done v12_sheets v12_holes v12_worms v12_laidMany v12_wanted v12_orderMany v12_firstOrder v12_lines v12_marks v12_dots v12_madeIn v12_bound v12_places v12_maps v12_tapeMany v12_stories v12_base v12_at v12_ends v12_fault v12_opened v12_bodies v12_ran v12_ownKind v12_ownNumber, (cI κ (r12 55) 24 f12_trace)] sz) 0 0 (va_A [O12 a12 r12 v12_keptMany v12_done v12_sheets v12_holes v12_worms v12_laidMany v12_wanted v12_orderMany v12_firstOrder v12_lines v12_marks v12_dots v12_madeIn v12_bound v12_places v12_maps v12_tapeMany v12_stories v12_base v12_at v12_ends v12_fault v12_opened v12_bodies v12_ran v12_ownKind v12_ownNumber, (cI κ (r12 55) 24 f12_trace)] sz) := by
  refine ofK_v (cc := cX12_begins) (maxL := 2) (own := RX12) (by decide) rfl rfl (Nat.le_of_ble_eq_true rfl) ?_
  intro p e s m args below meth c Q A ls hsz hx hb hml hts hown hK hA hAB hP hD hl hname ret
  have hS : va_S A s.heap s.heap [] := va_S.rf
  have hl : lv_has ls 2 [(0, .ref a12), (1, .int p1)] := hl
  have w0 := hts (.fieldLink RX12 382 "OlderSkinModel" "ran" "I") (List.mem_of_getElem? (i := 1) rfl)
  have w1 := (fun w h => List.mem_cons_of_mem _ (List.mem_append_right _ h) : ∀ w ∈ u_ws RX12 TX12 63, w ∈ wsX12_begins)
  have w2 := hts (.fieldLink RX12 104 "OlderSkinModel" "trace" "[I") (List.mem_of_getElem? (i := 2) rfl)
  have l0 : (24 : Int32).toInt = 24 := by decide
  have l1 : (0 : Int32).toInt = 0 := by decide
  have l2 : (1 : Int32).toInt = 1 := by decide
  have i16 : 0 ≤ v12_ran.toInt ∧ v12_ran.toInt ≤ 1000 := i16
  refine lv_aload_n hx hb dX12_begins_0 rfl (lv_at hl 0 rfl) ?_
  refine va_get (D := D) (ci := 12) (v := .int v12_ran) (C := RX12) (T := TX12) (N := 63) hx hb hts w1 hown hK.1 hP 0 rfl rfl 56 (by decide) w0 (fun _ h9 => h9) rfl dX12_begins_1 ?_
  refine lv_bipush (v := 24) hx hb dX12_begins_4 (by decide) ?_
  refine lv_icmp_ge (tgt := 19) hx hb dX12_begins_6 (by decide) (fun c1 => ?_) (fun c1 => ?_)
  · have c1 := ci_le c1
    refine lv_aload_n hx hb dX12_begins_19 rfl (lv_at hl 0 rfl) ?_
    refine lv_dup hx hb dX12_begins_20 rfl ?_
    refine va_get (D := D) (ci := 12) (v := .int v12_ran) (C := RX12) (T := TX12) (N := 63) hx hb hts w1 hown hK.1 hP 0 rfl rfl 56 (by decide) w0 (fun _ h9 => h9) rfl dX12_begins_21 ?_
    refine lv_iconst (v := 1) hx hb dX12_begins_24 (by decide) ?_
    refine lv_iadd hx hb dX12_begins_25 ?_
    refine lv_topi (fun x2 e3 => ?_)
    try have h4 : x2.toInt = v12_ran.toInt + (1 : Int32).toInt := ci_add e3 (by omega) (by omega)
    refine va_put (D := D) (ci := 12) (v := .int x2) (ty := .int) (C := RX12) (T := TX12) (N := 63) hx hb hts w1 tyX12 tyX12_ok nmX12 hown hK.1 hP hD hS 0 rfl rfl 56 (by decide) w0 (fun _ h9 => h9) rfl (by decide +kernel) rfl rfl (Nat.le_of_ble_eq_true rfl) dX12_begins_26 (fun H locs hP hD hS => ?_)
    obtain ⟨hP, hD⟩ : PD D A [O12 a12 r12 v12_keptMany v12_done v12_sheets v12_holes v12_worms v12_laidMany v12_wanted v12_orderMany v12_firstOrder v12_lines v12_marks v12_dots v12_madeIn v12_bound v12_places v12_maps v12_tapeMany v12_stories v12_base v12_at v12_ends v12_fault v12_opened v12_bodies x2 v12_ownKind v12_ownNumber, (cI κ (r12 55) 24 f12_trace)] H := ⟨hP, hD⟩
    have h5 : 0 ≤ x2.toInt ∧ x2.toInt ≤ 1000 := by omega
    have hpo : (0 ≤ x2.toInt ∧ x2.toInt ≤ 1000) ∧ (x2.toInt = v12_ran.toInt + 1) := ⟨h5, (by omega)⟩
    exact ret _ _ _ _ (x2, f12_trace) dX12_begins_29 hpo hP hD hS
  have c1 := ci_nle c1
  refine lv_aload_n hx hb dX12_begins_9 rfl (lv_at hl 0 rfl) ?_
  refine va_get (D := D) (ci := 12) (v := .ref (r12 55)) (C := RX12) (T := TX12) (N := 63) hx hb hts w1 hown hK.1 hP 0 rfl rfl 55 (by decide) w2 (fun _ h9 => h9) rfl dX12_begins_10 ?_
  refine lv_aload_n hx hb dX12_begins_13 rfl (lv_at hl 0 rfl) ?_
  refine va_get (D := D) (ci := 12) (v := .int v12_ran) (C := RX12) (T := TX12) (N := 63) hx hb hts w1 hown hK.1 hP 0 rfl rfl 56 (by decide) w0 (fun _ h9 => h9) rfl dX12_begins_14 ?_
  refine lv_iload_n hx hb dX12_begins_17 rfl (lv_at hl 1 rfl) ?_
  refine va_iast hx hb hK.1 hP hD hS 1 1 rfl rfl (i := v12_ran) (ix (by omega) (by omega)) dX12_begins_18 (fun H locs hP hD hS => ?_)
  obtain ⟨g6, e7⟩ : ∃ y : Nat → Int32, y = upd f12_trace v12_ran.toNatClampNeg p1 := ⟨_, rfl⟩
  rw [← e7] at hP hD
  obtain ⟨hP, hD⟩ : PD D A [O12 a12 r12 v12_keptMany v12_done v12_sheets v12_holes v12_worms v12_laidMany v12_wanted v12_orderMany v12_firstOrder v12_lines v12_marks v12_dots v12_madeIn v12_bound v12_places v12_maps v12_tapeMany v12_stories v12_base v12_at v12_ends v12_fault v12_opened v12_bodies v12_ran v12_ownKind v12_ownNumber, (cI κ (r12 55) 24 g6)] H := ⟨hP, hD⟩
  refine lv_aload_n hx hb dX12_begins_19 rfl (lv_at hl 0 rfl) ?_
  refine lv_dup hx hb dX12_begins_20 rfl ?_
  refine va_get (D := D) (ci := 12) (v := .int v12_ran) (C := RX12) (T := TX12) (N := 63) hx hb hts w1 hown hK.1 hP 0 rfl rfl 56 (by decide) w0 (fun _ h9 => h9) rfl dX12_begins_21 ?_
  refine lv_iconst (v := 1) hx hb dX12_begins_24 (by decide) ?_
  refine lv_iadd hx hb dX12_begins_25 ?_
  refine lv_topi (fun x8 e9 => ?_)
  try have h10 : x8.toInt = v12_ran.toInt + (1 : Int32).toInt := ci_add e9 (by omega) (by omega)
  refine va_put (D := D) (ci := 12) (v := .int x8) (ty := .int) (C := RX12) (T := TX12) (N := 63) hx hb hts w1 tyX12 tyX12_ok nmX12 hown hK.1 hP hD hS 0 rfl rfl 56 (by decide) w0 (fun _ h9 => h9) rfl (by decide +kernel) rfl rfl (Nat.le_of_ble_eq_true rfl) dX12_begins_26 (fun H locs hP hD hS => ?_)
  obtain ⟨hP, hD⟩ : PD D A [O12 a12 r12 v12_keptMany v12_done v12_sheets v12_holes v12_worms v12_laidMany v12_wanted v12_orderMany v12_firstOrder v12_lines v12_marks v12_dots v12_madeIn v12_bound v12_places v12_maps v12_tapeMany v12_stories v12_base v12_at v12_ends v12_fault v12_opened v12_bodies x8 v12_ownKind v12_ownNumber, (cI κ (r12 55) 24 g6)] H := ⟨hP, hD⟩
  have h11 : 0 ≤ x8.toInt ∧ x8.toInt ≤ 1000 := by omega
  have hpo : (0 ≤ x8.toInt ∧ x8.toInt ≤ 1000) ∧ (x8.toInt = v12_ran.toInt + 1) := ⟨h11, (by omega)⟩
  exact ret _ _ _ _ (x8, g6) dX12_begins_29 hpo hP hD hS
set_option maxHeartbeats 4000000 in
set_option maxRecDepth 100000 in
theorem k_X12_trace (l : Launch) (D : va_G) (κ : Nat → ClassId) (β : Nat) (a12 : Nat) (r12 : Nat → Nat) (v12_keptMany : Int32) (v12_done : Int32) (v12_sheets : Int32) (v12_holes : Int32) (v12_worms : Int32) (v12_laidMany : Int32) (v12_wanted : Int32) (v12_orderMany : Int32) (v12_firstOrder : Int32) (v12_lines : Int32) (v12_marks : Int32) (v12_dots : Int32) (v12_madeIn : Int32) (v12_bound : Int32) (v12_places : Int32) (v12_maps : Int32) (v12_tapeMany : Int32) (v12_stories : Int32) (v12_base : Int32) (v12_at : Int32) (v12_ends : Int32) (v12_fault : Int32) (v12_opened : Int32) (v12_bodies : Int32) (v12_ran : Int32) (v12_ownKind : Int32) (v12_ownNumber : Int32) (f12_trace : Nat → Int32) (sz : Nat) (p1 : Int32) (i1 : Rg 0 40 v12_keptMany) (i2 : Rg 0 40 v12_done) (i3 : Rg 0 8 v12_sheets) (i4 : Rg 0 40 v12_holes) (i5 : Rg 0 40 v12_worms) (i6 : Rg 0 8 v12_laidMany) (i7 : Rg 0 8 v12_wanted) (i8 : Rg 0 20 v12_lines) (i9 : Rg 0 60 v12_marks) (i10 : Rg 0 40 v12_dots) (i11 : Rg 0 20 v12_places) (i12 : Rg 0 8 v12_maps) (i13 : Rg 0 120 v12_tapeMany) (i14 : Rg 0 6 v12_stories) (i15 : Rg 0 50 v12_bodies) (i16 : Rg 0 1000 v12_ran) (i17 : v12_done.toInt ≤ v12_keptMany.toInt) : Met l yX12_trace wsX12_trace ({ frames := 0, cells := 0, slots := 0, locals := 0 } : Room) (PcK D κ β [O12 a12 r12 v12_keptMany v12_done v12_sheets v12_holes v12_worms v12_laidMany v12_wanted v12_orderMany v12_firstOrder v12_lines v12_marks v12_dots v12_madeIn v12_bound v12_places v12_maps v12_tapeMany v12_stories v12_base v12_at v12_ends v12_fault v12_opened v12_bodies v12_ran v12_ownKind v12_ownNumber, (cI κ (r12 55) 24 f12_trace)] sz [.ref a12, .int p1]) (QiK D (fun (r : Int32) (u : Unit) => True) (fun (u : Unit) => [O12 a12 r12 v12_keptMany v12_done v12_sheets v12_holes v12_worms v12_laidMany v12_wanted v12_orderMany v12_firstOrder v12_lines v12_marks v12_dots v12_madeIn v12_bound v12_places v12_maps v12_tapeMany v12_stories v12_base v12_at v12_ends v12_fault v12_opened v12_bodies v12_ran v12_ownKind v12_ownNumber, (cI κ (r12 55) 24 f12_trace)]) [O12 a12 r12 v12_keptMany v12_done v12_sheets v12_holes v12_worms v12_laidMany v12_wanted v12_orderMany v12_firstOrder v12_lines v12_marks v12_dots v12_madeIn v12_bound v12_places v12_maps v12_tapeMany v12_stories v12_base v12_at v12_ends v12_fault v12_opened v12_bodies v12_ran v12_ownKind v12_ownNumber, (cI κ (r12 55) 24 f12_trace)] sz) 0 0 (va_A [O12 a12 r12 v12_keptMany v12_done v12_sheets v12_holes v12_worms v12_laidMany v12_wanted v12_orderMany v12_firstOrder v12_lines v12_marks v12_dots v12_madeIn v12_bound v12_places v12_maps v12_tapeMany v12_stories v12_base v12_at v12_ends v12_fault v12_opened v12_bodies v12_ran v12_ownKind v12_ownNumber, (cI κ (r12 55) 24 f12_trace)] sz) := by
  refine ofK_i (cc := cX12_trace) (maxL := 2) (own := RX12) (by decide) rfl rfl (Nat.le_of_ble_eq_true rfl) ?_
  intro p e s m args below meth c Q A ls hsz hx hb hml hts hown hK hA hAB hP hD hl ret
  have hS : va_S A s.heap s.heap [] := va_S.rf
  have hl : lv_has ls 2 [(0, .ref a12), (1, .int p1)] := hl
  have w0 := hts (.fieldLink RX12 382 "OlderSkinModel" "ran" "I") (List.mem_of_getElem? (i := 1) rfl)
  have w1 := (fun w h => List.mem_cons_of_mem _ (List.mem_append_right _ h) : ∀ w ∈ u_ws RX12 TX12 63, w ∈ wsX12_trace)
  have w2 := hts (.fieldLink RX12 104 "OlderSkinModel" "trace" "[I") (List.mem_of_getElem? (i := 2) rfl)
  have l0 : (0 : Int32).toInt = 0 := by decide
  have l1 : ((-1) : Int32).toInt = -1 := by decide
  have l2 : (24 : Int32).toInt = 24 := by decide
  have i16 : 0 ≤ v12_ran.toInt ∧ v12_ran.toInt ≤ 1000 := i16
  refine lv_iload_n hx hb dX12_trace_0 rfl (lv_at hl 1 rfl) ?_
  refine lv_if_lt (tgt := 27) hx hb dX12_trace_1 (by decide) (fun c1 => ?_) (fun c1 => ?_)
  · have c1 := ci_lt c1
    refine lv_iconst (v := (-1)) hx hb dX12_trace_27 (by decide) ?_
    exact ret _ _ _ _ (-1) () dX12_trace_28 trivial hP hD hS
  have c1 := ci_nlt c1
  refine lv_iload_n hx hb dX12_trace_4 rfl (lv_at hl 1 rfl) ?_
  refine lv_aload_n hx hb dX12_trace_5 rfl (lv_at hl 0 rfl) ?_
  refine va_get (D := D) (ci := 12) (v := .int v12_ran) (C := RX12) (T := TX12) (N := 63) hx hb hts w1 hown hK.1 hP 0 rfl rfl 56 (by decide) w0 (fun _ h9 => h9) rfl dX12_trace_6 ?_
  refine lv_icmp_ge (tgt := 27) hx hb dX12_trace_9 (by decide) (fun c2 => ?_) (fun c2 => ?_)
  · have c2 := ci_le c2
    refine lv_iconst (v := (-1)) hx hb dX12_trace_27 (by decide) ?_
    exact ret _ _ _ _ (-1) () dX12_trace_28 trivial hP hD hS
  have c2 := ci_nle c2
  refine lv_iload_n hx hb dX12_trace_12 rfl (lv_at hl 1 rfl) ?_
  refine lv_bipush (v := 24) hx hb dX12_trace_13 (by decide) ?_
  refine lv_icmp_ge (tgt := 27) hx hb dX12_trace_15 (by decide) (fun c3 => ?_) (fun c3 => ?_)
  · have c3 := ci_le c3
    refine lv_iconst (v := (-1)) hx hb dX12_trace_27 (by decide) ?_
    exact ret _ _ _ _ (-1) () dX12_trace_28 trivial hP hD hS
  have c3 := ci_nle c3
  refine lv_aload_n hx hb dX12_trace_18 rfl (lv_at hl 0 rfl) ?_
  refine va_get (D := D) (ci := 12) (v := .ref (r12 55)) (C := RX12) (T := TX12) (N := 63) hx hb hts w1 hown hK.1 hP 0 rfl rfl 55 (by decide) w2 (fun _ h9 => h9) rfl dX12_trace_19 ?_
  refine lv_iload_n hx hb dX12_trace_22 rfl (lv_at hl 1 rfl) ?_
  refine va_iald hx hb hK.1 hP 1 1 rfl rfl (i := p1) (ix (by omega) (by omega)) dX12_trace_23 ?_
  refine lv_topi (fun x4 e5 => ?_)
  refine lv_goto (tgt := 28) hx hb dX12_trace_24 (by decide) ?_
  exact ret _ _ _ _ x4 () dX12_trace_28 trivial hP hD hS
set_option maxHeartbeats 4000000 in
set_option maxRecDepth 100000 in
theorem k_X12_keep (l : Launch) (D : va_G) (κ : Nat → ClassId) (β : Nat) (a12 : Nat) (r12 : Nat → Nat) (v12_keptMany : Int32) (v12_done : Int32) (v12_sheets : Int32) (v12_holes : Int32) (v12_worms : Int32) (v12_laidMany : Int32) (v12_wanted : Int32) (v12_orderMany : Int32) (v12_firstOrder : Int32) (v12_lines : Int32) (v12_marks : Int32) (v12_dots : Int32) (v12_madeIn : Int32) (v12_bound : Int32) (v12_places : Int32) (v12_maps : Int32) (v12_tapeMany : Int32) (v12_stories : Int32) (v12_base : Int32) (v12_at : Int32) (v12_ends : Int32) (v12_fault : Int32) (v12_opened : Int32) (v12_bodies : Int32) (v12_ran : Int32) (v12_ownKind : Int32) (v12_ownNumber : Int32) (f12_shelf : Nat → Int32) (f12_many : Nat → Int32) (sz : Nat) (p1 : Int32) (p2 : Int32) (i1 : Rg 0 40 v12_keptMany) (i2 : Rg 0 40 v12_done) (i3 : Rg 0 8 v12_sheets) (i4 : Rg 0 40 v12_holes) (i5 : Rg 0 40 v12_worms) (i6 : Rg 0 8 v12_laidMany) (i7 : Rg 0 8 v12_wanted) (i8 : Rg 0 20 v12_lines) (i9 : Rg 0 60 v12_marks) (i10 : Rg 0 40 v12_dots) (i11 : Rg 0 20 v12_places) (i12 : Rg 0 8 v12_maps) (i13 : Rg 0 120 v12_tapeMany) (i14 : Rg 0 6 v12_stories) (i15 : Rg 0 50 v12_bodies) (i16 : Rg 0 1000 v12_ran) (hf12_many : ∀ j : Nat, 0 ≤ (f12_many j).toInt ∧ (f12_many j).toInt ≤ 60) (i17 : v12_done.toInt ≤ v12_keptMany.toInt) : Met l yX12_keep wsX12_keep ({ frames := 2, cells := 0, slots := 0, locals := 46 } : Room) (PcK D κ β [O12 a12 r12 v12_keptMany v12_done v12_sheets v12_holes v12_worms v12_laidMany v12_wanted v12_orderMany v12_firstOrder v12_lines v12_marks v12_dots v12_madeIn v12_bound v12_places v12_maps v12_tapeMany v12_stories v12_base v12_at v12_ends v12_fault v12_opened v12_bodies v12_ran v12_ownKind v12_ownNumber, (cI κ (r12 59) 6 f12_shelf), (cI κ (r12 60) 6 f12_many)] sz [.ref a12, .int p1, .int p2]) (QiK D (fun (r : Int32) (u : (Nat → Int32) × (Nat → Int32)) => (∀ j : Nat, 0 ≤ (u.2 j).toInt ∧ (u.2 j).toInt ≤ 60) ∧ (((0 ≤ p1.toInt ∧ p1.toInt ≤ 5 ∧ (p2.toInt = -1 ∨ (0 ≤ p2.toInt ∧ p2.toInt < v12_bodies.toInt))) ∧ r.toInt = 1) ∨ (¬ (0 ≤ p1.toInt ∧ p1.toInt ≤ 5 ∧ (p2.toInt = -1 ∨ (0 ≤ p2.toInt ∧ p2.toInt < v12_bodies.toInt))) ∧ r.toInt = -1))) (fun (u : (Nat → Int32) × (Nat → Int32)) => [O12 a12 r12 v12_keptMany v12_done v12_sheets v12_holes v12_worms v12_laidMany v12_wanted v12_orderMany v12_firstOrder v12_lines v12_marks v12_dots v12_madeIn v12_bound v12_places v12_maps v12_tapeMany v12_stories v12_base v12_at v12_ends v12_fault v12_opened v12_bodies v12_ran v12_ownKind v12_ownNumber, (cI κ (r12 59) 6 u.1), (cI κ (r12 60) 6 u.2)]) [O12 a12 r12 v12_keptMany v12_done v12_sheets v12_holes v12_worms v12_laidMany v12_wanted v12_orderMany v12_firstOrder v12_lines v12_marks v12_dots v12_madeIn v12_bound v12_places v12_maps v12_tapeMany v12_stories v12_base v12_at v12_ends v12_fault v12_opened v12_bodies v12_ran v12_ownKind v12_ownNumber, (cI κ (r12 59) 6 f12_shelf), (cI κ (r12 60) 6 f12_many)] sz) 0 0 (va_A [O12 a12 r12 v12_keptMany v12_done v12_sheets v12_holes v12_worms v12_laidMany v12_wanted v12_orderMany v12_firstOrder v12_lines v12_marks v12_dots v12_madeIn v12_bound v12_places v12_maps v12_tapeMany v12_stories v12_base v12_at v12_ends v12_fault v12_opened v12_bodies v12_ran v12_ownKind v12_ownNumber, (cI κ (r12 59) 6 f12_shelf), (cI κ (r12 60) 6 f12_many)] sz) := by
  refine ofK_i (cc := cX12_keep) (maxL := 3) (own := RX12) (by decide) rfl rfl (Nat.le_of_ble_eq_true rfl) ?_
  intro p e s m args below meth c Q A ls hsz hx hb hml hts hown hK hA hAB hP hD hl ret
  have hS : va_S A s.heap s.heap [] := va_S.rf
  have hl : lv_has ls 3 [(0, .ref a12), (1, .int p1), (2, .int p2)] := hl
  have w0 := hts (.fieldLink RX12 107 "OlderSkinModel" "shelf" "[I") (List.mem_of_getElem? (i := 1) rfl)
  have w1 := (fun w h => List.mem_cons_of_mem _ (List.mem_append_right _ h) : ∀ w ∈ u_ws RX12 TX12 63, w ∈ wsX12_keep)
  have w2 := hts (.fieldLink RX12 110 "OlderSkinModel" "many" "[I") (List.mem_of_getElem? (i := 2) rfl)
  have l0 : (0 : Int32).toInt = 0 := by decide
  have l1 : ((-1) : Int32).toInt = -1 := by decide
  have l2 : (1 : Int32).toInt = 1 := by decide
  have i15 : 0 ≤ v12_bodies.toInt ∧ v12_bodies.toInt ≤ 50 := i15
  refine lv_iload_n hx hb dX12_keep_0 rfl (lv_at hl 1 rfl) ?_
  refine kcm_i hA hAB hP hD hS [false, false, false] rfl (fun _ => rfl) (fun hPc hDc => va_runS (As := [.int p1]) (rest := []) ⟨hx, hb, hml, hown, hts⟩ (k_X12_isShelf l D κ β s.heap.size p1) (va_cwS 1 hts gX12_keep_X12_isShelf rfl rfl rfl (by decide +kernel) ⟨Nat.le_of_ble_eq_true rfl, Nat.le_of_ble_eq_true rfl⟩) (pk_S hK hS hAB hPc hDc) rfl rfl hl.1 rfl (lv_room (Nat.le_of_ble_eq_true rfl)) dX12_keep_1 ⟨Nat.le_of_ble_eq_true rfl, Nat.le_of_ble_eq_true rfl⟩) (fun x1 u2 H locs hw hPD hS => ?_)
  have h3 : (x1.toInt = 1 ∧ 0 ≤ p1.toInt ∧ p1.toInt ≤ 5) ∨ (x1.toInt = 0 ∧ (p1.toInt < 0 ∨ 5 < p1.toInt)) := hw
  obtain ⟨hP, hD⟩ : PD D A [O12 a12 r12 v12_keptMany v12_done v12_sheets v12_holes v12_worms v12_laidMany v12_wanted v12_orderMany v12_firstOrder v12_lines v12_marks v12_dots v12_madeIn v12_bound v12_places v12_maps v12_tapeMany v12_stories v12_base v12_at v12_ends v12_fault v12_opened v12_bodies v12_ran v12_ownKind v12_ownNumber, (cI κ (r12 59) 6 f12_shelf), (cI κ (r12 60) 6 f12_many)] H := hPD
  refine lv_if_eq (tgt := 20) hx hb dX12_keep_4 (by decide) (fun c4 => ?_) (fun c4 => ?_)
  · have c4 := ci_eq c4
    refine lv_iconst (v := (-1)) hx hb dX12_keep_20 (by decide) ?_
    have hpo : (∀ j : Nat, 0 ≤ (f12_many j).toInt ∧ (f12_many j).toInt ≤ 60) ∧ (((0 ≤ p1.toInt ∧ p1.toInt ≤ 5 ∧ (p2.toInt = -1 ∨ (0 ≤ p2.toInt ∧ p2.toInt < v12_bodies.toInt))) ∧ ((-1) : Int32).toInt = 1) ∨ (¬ (0 ≤ p1.toInt ∧ p1.toInt ≤ 5 ∧ (p2.toInt = -1 ∨ (0 ≤ p2.toInt ∧ p2.toInt < v12_bodies.toInt))) ∧ ((-1) : Int32).toInt = -1)) := ⟨hf12_many, (by omega)⟩
    exact ret _ _ _ _ (-1) (f12_shelf, f12_many) dX12_keep_21 hpo hP hD hS
  have c4 := ci_ne c4
  refine lv_iload_n hx hb dX12_keep_7 rfl (lv_at hl 2 rfl) ?_
  refine lv_iconst (v := (-1)) hx hb dX12_keep_8 (by decide) ?_
  refine lv_icmp_eq (tgt := 22) hx hb dX12_keep_9 (by decide) (fun c5 => ?_) (fun c5 => ?_)
  · have c5 := ci_eq c5
    refine lv_aload_n hx hb dX12_keep_22 rfl (lv_at hl 0 rfl) ?_
    refine va_get (D := D) (ci := 12) (v := .ref (r12 59)) (C := RX12) (T := TX12) (N := 63) hx hb hts w1 hown hK.1 hP 0 rfl rfl 59 (by decide) w0 (fun _ h9 => h9) rfl dX12_keep_23 ?_
    refine lv_iload_n hx hb dX12_keep_26 rfl (lv_at hl 1 rfl) ?_
    refine lv_iload_n hx hb dX12_keep_27 rfl (lv_at hl 2 rfl) ?_
    refine va_iast hx hb hK.1 hP hD hS 1 1 rfl rfl (i := p1) (ix (by omega) (by omega)) dX12_keep_28 (fun H locs hP hD hS => ?_)
    obtain ⟨g6, e7⟩ : ∃ y : Nat → Int32, y = upd f12_shelf p1.toNatClampNeg p2 := ⟨_, rfl⟩
    rw [← e7] at hP hD
    obtain ⟨hP, hD⟩ : PD D A [O12 a12 r12 v12_keptMany v12_done v12_sheets v12_holes v12_worms v12_laidMany v12_wanted v12_orderMany v12_firstOrder v12_lines v12_marks v12_dots v12_madeIn v12_bound v12_places v12_maps v12_tapeMany v12_stories v12_base v12_at v12_ends v12_fault v12_opened v12_bodies v12_ran v12_ownKind v12_ownNumber, (cI κ (r12 59) 6 g6), (cI κ (r12 60) 6 f12_many)] H := ⟨hP, hD⟩
    refine lv_aload_n hx hb dX12_keep_29 rfl (lv_at hl 0 rfl) ?_
    refine va_get (D := D) (ci := 12) (v := .ref (r12 60)) (C := RX12) (T := TX12) (N := 63) hx hb hts w1 hown hK.1 hP 0 rfl rfl 60 (by decide) w2 (fun _ h9 => h9) rfl dX12_keep_30 ?_
    refine lv_iload_n hx hb dX12_keep_33 rfl (lv_at hl 1 rfl) ?_
    refine lv_iconst (v := 0) hx hb dX12_keep_34 (by decide) ?_
    refine va_iast hx hb hK.1 hP hD hS 2 1 rfl rfl (i := p1) (ix (by omega) (by omega)) dX12_keep_35 (fun H locs hP hD hS => ?_)
    obtain ⟨g8, e9⟩ : ∃ y : Nat → Int32, y = upd f12_many p1.toNatClampNeg 0 := ⟨_, rfl⟩
    rw [← e9] at hP hD
    obtain ⟨hP, hD⟩ : PD D A [O12 a12 r12 v12_keptMany v12_done v12_sheets v12_holes v12_worms v12_laidMany v12_wanted v12_orderMany v12_firstOrder v12_lines v12_marks v12_dots v12_madeIn v12_bound v12_places v12_maps v12_tapeMany v12_stories v12_base v12_at v12_ends v12_fault v12_opened v12_bodies v12_ran v12_ownKind v12_ownNumber, (cI κ (r12 59) 6 g6), (cI κ (r12 60) 6 g8)] H := ⟨hP, hD⟩
    have h10 : ∀ j : Nat, 0 ≤ (g8 j).toInt ∧ (g8 j).toInt ≤ 60 := by rw [e9]; exact all_upd (P := fun z => 0 ≤ z.toInt ∧ z.toInt ≤ 60) hf12_many (by omega)
    refine lv_iconst (v := 1) hx hb dX12_keep_36 (by decide) ?_
    have hpo : (∀ j : Nat, 0 ≤ (g8 j).toInt ∧ (g8 j).toInt ≤ 60) ∧ (((0 ≤ p1.toInt ∧ p1.toInt ≤ 5 ∧ (p2.toInt = -1 ∨ (0 ≤ p2.toInt ∧ p2.toInt < v12_bodies.toInt))) ∧ (1 : Int32).toInt = 1) ∨ (¬ (0 ≤ p1.toInt ∧ p1.toInt ≤ 5 ∧ (p2.toInt = -1 ∨ (0 ≤ p2.toInt ∧ p2.toInt < v12_bodies.toInt))) ∧ (1 : Int32).toInt = -1)) := ⟨h10, (by omega)⟩
    exact ret _ _ _ _ 1 (g6, g8) dX12_keep_37 hpo hP hD hS
  have c5 := ci_ne c5
  refine lv_aload_n hx hb dX12_keep_12 rfl (lv_at hl 0 rfl) ?_
  refine lv_iload_n hx hb dX12_keep_13 rfl (lv_at hl 2 rfl) ?_
  refine kcm_i hA hAB hP hD hS [true, false, false] rfl (fun _ => rfl) (fun hPc hDc => va_runV (As := [.int p2]) (rest := []) ⟨hx, hb, hml, hown, hts⟩ (k_X12_isBody l D κ β a12 r12 v12_keptMany v12_done v12_sheets v12_holes v12_worms v12_laidMany v12_wanted v12_orderMany v12_firstOrder v12_lines v12_marks v12_dots v12_madeIn v12_bound v12_places v12_maps v12_tapeMany v12_stories v12_base v12_at v12_ends v12_fault v12_opened v12_bodies v12_ran v12_ownKind v12_ownNumber H.size p2 i1 i2 i3 i4 i5 i6 i7 i8 i9 i10 i11 i12 i13 i14 i15 i16 i17) (cwV 1 hts gX12_keep_X12_isBody rfl rfl rfl (by decide +kernel) ⟨Nat.le_of_ble_eq_true rfl, Nat.le_of_ble_eq_true rfl⟩) (pk_V hK hS hAB hPc hDc 0 (ci := 12) rfl rfl rfl) rfl rfl hl.1 rfl (lv_room (Nat.le_of_ble_eq_true rfl)) dX12_keep_14 ⟨Nat.le_of_ble_eq_true rfl, Nat.le_of_ble_eq_true rfl⟩) (fun x11 u12 H locs hw hPD hS => ?_)
  have h13 : (x11.toInt = 1 ∧ 0 ≤ p2.toInt ∧ p2.toInt < v12_bodies.toInt) ∨ (x11.toInt = 0 ∧ (p2.toInt < 0 ∨ v12_bodies.toInt ≤ p2.toInt)) := hw
  obtain ⟨hP, hD⟩ : PD D A [O12 a12 r12 v12_keptMany v12_done v12_sheets v12_holes v12_worms v12_laidMany v12_wanted v12_orderMany v12_firstOrder v12_lines v12_marks v12_dots v12_madeIn v12_bound v12_places v12_maps v12_tapeMany v12_stories v12_base v12_at v12_ends v12_fault v12_opened v12_bodies v12_ran v12_ownKind v12_ownNumber, (cI κ (r12 59) 6 f12_shelf), (cI κ (r12 60) 6 f12_many)] H := hPD
  refine lv_if_ne (tgt := 22) hx hb dX12_keep_17 (by decide) (fun c14 => ?_) (fun c14 => ?_)
  · have c14 := ci_ne c14
    refine lv_aload_n hx hb dX12_keep_22 rfl (lv_at hl 0 rfl) ?_
    refine va_get (D := D) (ci := 12) (v := .ref (r12 59)) (C := RX12) (T := TX12) (N := 63) hx hb hts w1 hown hK.1 hP 0 rfl rfl 59 (by decide) w0 (fun _ h9 => h9) rfl dX12_keep_23 ?_
    refine lv_iload_n hx hb dX12_keep_26 rfl (lv_at hl 1 rfl) ?_
    refine lv_iload_n hx hb dX12_keep_27 rfl (lv_at hl 2 rfl) ?_
    refine va_iast hx hb hK.1 hP hD hS 1 1 rfl rfl (i := p1) (ix (by omega) (by omega)) dX12_keep_28 (fun H locs hP hD hS => ?_)
    obtain ⟨g15, e16⟩ : ∃ y : Nat → Int32, y = upd f12_shelf p1.toNatClampNeg p2 := ⟨_, rfl⟩
    rw [← e16] at hP hD
    obtain ⟨hP, hD⟩ : PD D A [O12 a12 r12 v12_keptMany v12_done v12_sheets v12_holes v12_worms v12_laidMany v12_wanted v12_orderMany v12_firstOrder v12_lines v12_marks v12_dots v12_madeIn v12_bound v12_places v12_maps v12_tapeMany v12_stories v12_base v12_at v12_ends v12_fault v12_opened v12_bodies v12_ran v12_ownKind v12_ownNumber, (cI κ (r12 59) 6 g15), (cI κ (r12 60) 6 f12_many)] H := ⟨hP, hD⟩
    refine lv_aload_n hx hb dX12_keep_29 rfl (lv_at hl 0 rfl) ?_
    refine va_get (D := D) (ci := 12) (v := .ref (r12 60)) (C := RX12) (T := TX12) (N := 63) hx hb hts w1 hown hK.1 hP 0 rfl rfl 60 (by decide) w2 (fun _ h9 => h9) rfl dX12_keep_30 ?_
    refine lv_iload_n hx hb dX12_keep_33 rfl (lv_at hl 1 rfl) ?_
    refine lv_iconst (v := 0) hx hb dX12_keep_34 (by decide) ?_
    refine va_iast hx hb hK.1 hP hD hS 2 1 rfl rfl (i := p1) (ix (by omega) (by omega)) dX12_keep_35 (fun H locs hP hD hS => ?_)
    obtain ⟨g17, e18⟩ : ∃ y : Nat → Int32, y = upd f12_many p1.toNatClampNeg 0 := ⟨_, rfl⟩
    rw [← e18] at hP hD
    obtain ⟨hP, hD⟩ : PD D A [O12 a12 r12 v12_keptMany v12_done v12_sheets v12_holes v12_worms v12_laidMany v12_wanted v12_orderMany v12_firstOrder v12_lines v12_marks v12_dots v12_madeIn v12_bound v12_places v12_maps v12_tapeMany v12_stories v12_base v12_at v12_ends v12_fault v12_opened v12_bodies v12_ran v12_ownKind v12_ownNumber, (cI κ (r12 59) 6 g15), (cI κ (r12 60) 6 g17)] H := ⟨hP, hD⟩
    have h19 : ∀ j : Nat, 0 ≤ (g17 j).toInt ∧ (g17 j).toInt ≤ 60 := by rw [e18]; exact all_upd (P := fun z => 0 ≤ z.toInt ∧ z.toInt ≤ 60) hf12_many (by omega)
    refine lv_iconst (v := 1) hx hb dX12_keep_36 (by decide) ?_
    have hpo : (∀ j : Nat, 0 ≤ (g17 j).toInt ∧ (g17 j).toInt ≤ 60) ∧ (((0 ≤ p1.toInt ∧ p1.toInt ≤ 5 ∧ (p2.toInt = -1 ∨ (0 ≤ p2.toInt ∧ p2.toInt < v12_bodies.toInt))) ∧ (1 : Int32).toInt = 1) ∨ (¬ (0 ≤ p1.toInt ∧ p1.toInt ≤ 5 ∧ (p2.toInt = -1 ∨ (0 ≤ p2.toInt ∧ p2.toInt < v12_bodies.toInt))) ∧ (1 : Int32).toInt = -1)) := ⟨h19, (by omega)⟩
    exact ret _ _ _ _ 1 (g15, g17) dX12_keep_37 hpo hP hD hS
  have c14 := ci_eq c14
  refine lv_iconst (v := (-1)) hx hb dX12_keep_20 (by decide) ?_
  have hpo : (∀ j : Nat, 0 ≤ (f12_many j).toInt ∧ (f12_many j).toInt ≤ 60) ∧ (((0 ≤ p1.toInt ∧ p1.toInt ≤ 5 ∧ (p2.toInt = -1 ∨ (0 ≤ p2.toInt ∧ p2.toInt < v12_bodies.toInt))) ∧ ((-1) : Int32).toInt = 1) ∨ (¬ (0 ≤ p1.toInt ∧ p1.toInt ≤ 5 ∧ (p2.toInt = -1 ∨ (0 ≤ p2.toInt ∧ p2.toInt < v12_bodies.toInt))) ∧ ((-1) : Int32).toInt = -1)) := ⟨hf12_many, (by omega)⟩
  exact ret _ _ _ _ (-1) (f12_shelf, f12_many) dX12_keep_21 hpo hP hD hS
set_option maxHeartbeats 4000000 in
set_option maxRecDepth 100000 in
theorem k_X12_refusal (l : Launch) (D : va_G) (κ : Nat → ClassId) (β : Nat) (a12 : Nat) (r12 : Nat → Nat) (v12_keptMany : Int32) (v12_done : Int32) (v12_sheets : Int32) (v12_holes : Int32) (v12_worms : Int32) (v12_laidMany : Int32) (v12_wanted : Int32) (v12_orderMany : Int32) (v12_firstOrder : Int32) (v12_lines : Int32) (v12_marks : Int32) (v12_dots : Int32) (v12_madeIn : Int32) (v12_bound : Int32) (v12_places : Int32) (v12_maps : Int32) (v12_tapeMany : Int32) (v12_stories : Int32) (v12_base : Int32) (v12_at : Int32) (v12_ends : Int32) (v12_fault : Int32) (v12_opened : Int32) (v12_bodies : Int32) (v12_ran : Int32) (v12_ownKind : Int32) (v12_ownNumber : Int32) (f12_shelf : Nat → Int32) (f12_many : Nat → Int32) (sz : Nat) (p1 : Int32) (p2 : Int32) (i1 : Rg 0 40 v12_keptMany) (i2 : Rg 0 40 v12_done) (i3 : Rg 0 8 v12_sheets) (i4 : Rg 0 40 v12_holes) (i5 : Rg 0 40 v12_worms) (i6 : Rg 0 8 v12_laidMany) (i7 : Rg 0 8 v12_wanted) (i8 : Rg 0 20 v12_lines) (i9 : Rg 0 60 v12_marks) (i10 : Rg 0 40 v12_dots) (i11 : Rg 0 20 v12_places) (i12 : Rg 0 8 v12_maps) (i13 : Rg 0 120 v12_tapeMany) (i14 : Rg 0 6 v12_stories) (i15 : Rg 0 50 v12_bodies) (i16 : Rg 0 1000 v12_ran) (hf12_many : ∀ j : Nat, 0 ≤ (f12_many j).toInt ∧ (f12_many j).toInt ≤ 60) (i17 : v12_done.toInt ≤ v12_keptMany.toInt) : Met l yX12_refusal wsX12_refusal ({ frames := 2, cells := 0, slots := 0, locals := 45 } : Room) (PcK D κ β [O12 a12 r12 v12_keptMany v12_done v12_sheets v12_holes v12_worms v12_laidMany v12_wanted v12_orderMany v12_firstOrder v12_lines v12_marks v12_dots v12_madeIn v12_bound v12_places v12_maps v12_tapeMany v12_stories v12_base v12_at v12_ends v12_fault v12_opened v12_bodies v12_ran v12_ownKind v12_ownNumber, (cI κ (r12 59) 6 f12_shelf), (cI κ (r12 60) 6 f12_many)] sz [.ref a12, .int p1, .int p2]) (QiK D (fun (r : Int32) (u : Unit) => r.toInt ≠ 0 ∨ (0 ≤ p1.toInt ∧ p1.toInt ≤ 5 ∧ 0 ≤ p2.toInt ∧ p2.toInt ≤ 59)) (fun (u : Unit) => [O12 a12 r12 v12_keptMany v12_done v12_sheets v12_holes v12_worms v12_laidMany v12_wanted v12_orderMany v12_firstOrder v12_lines v12_marks v12_dots v12_madeIn v12_bound v12_places v12_maps v12_tapeMany v12_stories v12_base v12_at v12_ends v12_fault v12_opened v12_bodies v12_ran v12_ownKind v12_ownNumber, (cI κ (r12 59) 6 f12_shelf), (cI κ (r12 60) 6 f12_many)]) [O12 a12 r12 v12_keptMany v12_done v12_sheets v12_holes v12_worms v12_laidMany v12_wanted v12_orderMany v12_firstOrder v12_lines v12_marks v12_dots v12_madeIn v12_bound v12_places v12_maps v12_tapeMany v12_stories v12_base v12_at v12_ends v12_fault v12_opened v12_bodies v12_ran v12_ownKind v12_ownNumber, (cI κ (r12 59) 6 f12_shelf), (cI κ (r12 60) 6 f12_many)] sz) 0 0 (va_A [O12 a12 r12 v12_keptMany v12_done v12_sheets v12_holes v12_worms v12_laidMany v12_wanted v12_orderMany v12_firstOrder v12_lines v12_marks v12_dots v12_madeIn v12_bound v12_places v12_maps v12_tapeMany v12_stories v12_base v12_at v12_ends v12_fault v12_opened v12_bodies v12_ran v12_ownKind v12_ownNumber, (cI κ (r12 59) 6 f12_shelf), (cI κ (r12 60) 6 f12_many)] sz) := by
  refine ofK_i (cc := cX12_refusal) (maxL := 3) (own := RX12) (by decide) rfl rfl (Nat.le_of_ble_eq_true rfl) ?_
  intro p e s m args below meth c Q A ls hsz hx hb hml hts hown hK hA hAB hP hD hl ret
  have hS : va_S A s.heap s.heap [] := va_S.rf
  have hl : lv_has ls 3 [(0, .ref a12), (1, .int p1), (2, .int p2)] := hl
  have w0 := hts (.fieldLink RX12 107 "OlderSkinModel" "shelf" "[I") (List.mem_of_getElem? (i := 1) rfl)
  have w1 := (fun w h => List.mem_cons_of_mem _ (List.mem_append_right _ h) : ∀ w ∈ u_ws RX12 TX12 63, w ∈ wsX12_refusal)
  have w2 := hts (.fieldLink RX12 110 "OlderSkinModel" "many" "[I") (List.mem_of_getElem? (i := 2) rfl)
  have l0 : (0 : Int32).toInt = 0 := by decide
  have l1 : (50 : Int32).toInt = 50 := by decide
  have l2 : ((-13) : Int32).toInt = -13 := by decide
  have l3 : ((-12) : Int32).toInt = -12 := by decide
  have l4 : ((-11) : Int32).toInt = -11 := by decide
  have l5 : ((-1) : Int32).toInt = -1 := by decide
  refine lv_iload_n hx hb dX12_refusal_0 rfl (lv_at hl 1 rfl) ?_
  refine kcm_i hA hAB hP hD hS [false, false, false] rfl (fun _ => rfl) (fun hPc hDc => va_runS (As := [.int p1]) (rest := []) ⟨hx, hb, hml, hown, hts⟩ (k_X12_isShelf l D κ β s.heap.size p1) (va_cwS 1 hts gX12_refusal_X12_isShelf rfl rfl rfl (by decide +kernel) ⟨Nat.le_of_ble_eq_true rfl, Nat.le_of_ble_eq_true rfl⟩) (pk_S hK hS hAB hPc hDc) rfl rfl hl.1 rfl (lv_room (Nat.le_of_ble_eq_true rfl)) dX12_refusal_1 ⟨Nat.le_of_ble_eq_true rfl, Nat.le_of_ble_eq_true rfl⟩) (fun x1 u2 H locs hw hPD hS => ?_)
  have h3 : (x1.toInt = 1 ∧ 0 ≤ p1.toInt ∧ p1.toInt ≤ 5) ∨ (x1.toInt = 0 ∧ (p1.toInt < 0 ∨ 5 < p1.toInt)) := hw
  obtain ⟨hP, hD⟩ : PD D A [O12 a12 r12 v12_keptMany v12_done v12_sheets v12_holes v12_worms v12_laidMany v12_wanted v12_orderMany v12_firstOrder v12_lines v12_marks v12_dots v12_madeIn v12_bound v12_places v12_maps v12_tapeMany v12_stories v12_base v12_at v12_ends v12_fault v12_opened v12_bodies v12_ran v12_ownKind v12_ownNumber, (cI κ (r12 59) 6 f12_shelf), (cI κ (r12 60) 6 f12_many)] H := hPD
  refine lv_if_ne (tgt := 9) hx hb dX12_refusal_4 (by decide) (fun c4 => ?_) (fun c4 => ?_)
  · have c4 := ci_ne c4
    refine lv_aload_n hx hb dX12_refusal_9 rfl (lv_at hl 0 rfl) ?_
    refine va_get (D := D) (ci := 12) (v := .ref (r12 59)) (C := RX12) (T := TX12) (N := 63) hx hb hts w1 hown hK.1 hP 0 rfl rfl 59 (by decide) w0 (fun _ h9 => h9) rfl dX12_refusal_10 ?_
    refine lv_iload_n hx hb dX12_refusal_13 rfl (lv_at hl 1 rfl) ?_
    refine va_iald hx hb hK.1 hP 1 1 rfl rfl (i := p1) (ix (by omega) (by omega)) dX12_refusal_14 ?_
    refine lv_topi (fun x5 e6 => ?_)
    refine lv_if_ge (tgt := 21) hx hb dX12_refusal_15 (by decide) (fun c7 => ?_) (fun c7 => ?_)
    · have c7 := ci_le c7
      refine lv_aload_n hx hb dX12_refusal_21 rfl (lv_at hl 0 rfl) ?_
      refine va_get (D := D) (ci := 12) (v := .ref (r12 59)) (C := RX12) (T := TX12) (N := 63) hx hb hts w1 hown hK.1 hP 0 rfl rfl 59 (by decide) w0 (fun _ h9 => h9) rfl dX12_refusal_22 ?_
      refine lv_iload_n hx hb dX12_refusal_25 rfl (lv_at hl 1 rfl) ?_
      refine va_iald hx hb hK.1 hP 1 1 rfl rfl (i := p1) (ix (by omega) (by omega)) dX12_refusal_26 ?_
      refine lv_topi (fun x8 e9 => ?_)
      refine lv_bipush (v := 50) hx hb dX12_refusal_27 (by decide) ?_
      refine lv_icmp_ge (tgt := 35) hx hb dX12_refusal_29 (by decide) (fun c10 => ?_) (fun c10 => ?_)
      · have c10 := ci_le c10
        refine lv_iload_n hx hb dX12_refusal_35 rfl (lv_at hl 2 rfl) ?_
        refine lv_if_lt (tgt := 53) hx hb dX12_refusal_36 (by decide) (fun c11 => ?_) (fun c11 => ?_)
        · have c11 := ci_lt c11
          refine lv_bipush (v := (-13)) hx hb dX12_refusal_53 (by decide) ?_
          have hpo : ((-13) : Int32).toInt ≠ 0 ∨ (0 ≤ p1.toInt ∧ p1.toInt ≤ 5 ∧ 0 ≤ p2.toInt ∧ p2.toInt ≤ 59) := (by omega)
          exact ret _ _ _ _ (-13) () dX12_refusal_55 hpo hP hD hS
        have c11 := ci_nlt c11
        refine lv_iload_n hx hb dX12_refusal_39 rfl (lv_at hl 2 rfl) ?_
        refine lv_aload_n hx hb dX12_refusal_40 rfl (lv_at hl 0 rfl) ?_
        refine va_get (D := D) (ci := 12) (v := .ref (r12 60)) (C := RX12) (T := TX12) (N := 63) hx hb hts w1 hown hK.1 hP 0 rfl rfl 60 (by decide) w2 (fun _ h9 => h9) rfl dX12_refusal_41 ?_
        refine lv_iload_n hx hb dX12_refusal_44 rfl (lv_at hl 1 rfl) ?_
        refine va_iald hx hb hK.1 hP 2 1 rfl rfl (i := p1) (ix (by omega) (by omega)) dX12_refusal_45 ?_
        refine lv_topi (fun x12 e13 => ?_)
        have h14 : 0 ≤ x12.toInt ∧ x12.toInt ≤ 60 := by rw [e13]; exact hf12_many _
        refine lv_icmp_ge (tgt := 53) hx hb dX12_refusal_46 (by decide) (fun c15 => ?_) (fun c15 => ?_)
        · have c15 := ci_le c15
          refine lv_bipush (v := (-13)) hx hb dX12_refusal_53 (by decide) ?_
          have hpo : ((-13) : Int32).toInt ≠ 0 ∨ (0 ≤ p1.toInt ∧ p1.toInt ≤ 5 ∧ 0 ≤ p2.toInt ∧ p2.toInt ≤ 59) := (by omega)
          exact ret _ _ _ _ (-13) () dX12_refusal_55 hpo hP hD hS
        have c15 := ci_nle c15
        refine lv_iconst (v := 0) hx hb dX12_refusal_49 (by decide) ?_
        refine lv_goto (tgt := 55) hx hb dX12_refusal_50 (by decide) ?_
        have hpo : (0 : Int32).toInt ≠ 0 ∨ (0 ≤ p1.toInt ∧ p1.toInt ≤ 5 ∧ 0 ≤ p2.toInt ∧ p2.toInt ≤ 59) := (by omega)
        exact ret _ _ _ _ 0 () dX12_refusal_55 hpo hP hD hS
      have c10 := ci_nle c10
      refine lv_bipush (v := (-12)) hx hb dX12_refusal_32 (by decide) ?_
      have hpo : ((-12) : Int32).toInt ≠ 0 ∨ (0 ≤ p1.toInt ∧ p1.toInt ≤ 5 ∧ 0 ≤ p2.toInt ∧ p2.toInt ≤ 59) := (by omega)
      exact ret _ _ _ _ (-12) () dX12_refusal_34 hpo hP hD hS
    have c7 := ci_nle c7
    refine lv_bipush (v := (-11)) hx hb dX12_refusal_18 (by decide) ?_
    have hpo : ((-11) : Int32).toInt ≠ 0 ∨ (0 ≤ p1.toInt ∧ p1.toInt ≤ 5 ∧ 0 ≤ p2.toInt ∧ p2.toInt ≤ 59) := (by omega)
    exact ret _ _ _ _ (-11) () dX12_refusal_20 hpo hP hD hS
  have c4 := ci_eq c4
  refine lv_iconst (v := (-1)) hx hb dX12_refusal_7 (by decide) ?_
  have hpo : ((-1) : Int32).toInt ≠ 0 ∨ (0 ≤ p1.toInt ∧ p1.toInt ≤ 5 ∧ 0 ≤ p2.toInt ∧ p2.toInt ≤ 59) := (by omega)
  exact ret _ _ _ _ (-1) () dX12_refusal_8 hpo hP hD hS
set_option maxHeartbeats 4000000 in
set_option maxRecDepth 100000 in
theorem k_X12_asSort (l : Launch) (D : va_G) (κ : Nat → ClassId) (β : Nat) (sz : Nat) (p1 : Int32) (p2 : Int64) : Met l yX12_asSort wsX12_asSort ({ frames := 0, cells := 0, slots := 0, locals := 0 } : Room) (PcK D κ β [] sz [.int p1, .long p2]) (QlK D (fun (r : Int64) (u : Unit) => True) (fun (u : Unit) => []) [] sz) 0 0 (va_A [] sz) := by
  refine ofK_l (cc := cX12_asSort) (maxL := 3) (own := RX12) (by decide) rfl rfl (Nat.le_of_ble_eq_true rfl) ?_
  intro p e s m args below meth c Q A ls hsz hx hb hml hts hown hK hA hAB hP hD hl ret
  have hS : va_S A s.heap s.heap [] := va_S.rf
  have hl : lv_has ls 3 [(0, .int p1), (1, .long p2)] := hl
  have l0 : (0 : Int32).toInt = 0 := by decide
  have l1 : (1 : Int32).toInt = 1 := by decide
  have l2 : (2 : Int32).toInt = 2 := by decide
  have l3 : (4 : Int32).toInt = 4 := by decide
  have l4 : (0 : Int64).toInt = 0 := by decide
  have l5 : (1 : Int64).toInt = 1 := by decide
  refine lv_iload_n hx hb dX12_asSort_0 rfl (lv_at hl 0 rfl) ?_
  refine lv_if_ne (tgt := 11) hx hb dX12_asSort_1 (by decide) (fun c1 => ?_) (fun c1 => ?_)
  · have c1 := ci_ne c1
    refine lv_iload_n hx hb dX12_asSort_11 rfl (lv_at hl 0 rfl) ?_
    refine lv_iconst (v := 1) hx hb dX12_asSort_12 (by decide) ?_
    refine lv_icmp_ne (tgt := 23) hx hb dX12_asSort_13 (by decide) (fun c2 => ?_) (fun c2 => ?_)
    · have c2 := ci_ne c2
      refine lv_iload_n hx hb dX12_asSort_23 rfl (lv_at hl 0 rfl) ?_
      refine lv_iconst (v := 2) hx hb dX12_asSort_24 (by decide) ?_
      refine lv_icmp_ne (tgt := 34) hx hb dX12_asSort_25 (by decide) (fun c3 => ?_) (fun c3 => ?_)
      · have c3 := ci_ne c3
        refine lv_iload_n hx hb dX12_asSort_34 rfl (lv_at hl 0 rfl) ?_
        refine lv_iconst (v := 4) hx hb dX12_asSort_35 (by decide) ?_
        refine lv_icmp_ne (tgt := 53) hx hb dX12_asSort_36 (by decide) (fun c4 => ?_) (fun c4 => ?_)
        · have c4 := ci_ne c4
          refine lv_lload_n hx hb dX12_asSort_53 rfl (lv_at hl 1 rfl) ?_
          exact ret _ _ _ _ p2 () dX12_asSort_54 trivial hP hD hS
        have c4 := ci_eq c4
        refine lv_lload_n hx hb dX12_asSort_39 rfl (lv_at hl 1 rfl) ?_
        refine lv_lconst (v := (0 : Int64)) hx hb dX12_asSort_40 (by decide) ?_
        refine W.lcmp hx hb dX12_asSort_41 ?_
        refine lv_topi (fun x5 e6 => ?_)
        have h7 := cl_cmp e6
        refine lv_if_eq (tgt := 49) hx hb dX12_asSort_42 (by decide) (fun c8 => ?_) (fun c8 => ?_)
        · have c8 := ci_eq c8
          refine lv_lconst (v := (0 : Int64)) hx hb dX12_asSort_49 (by decide) ?_
          refine lv_goto (tgt := 54) hx hb dX12_asSort_50 (by decide) ?_
          exact ret _ _ _ _ (0 : Int64) () dX12_asSort_54 trivial hP hD hS
        have c8 := ci_ne c8
        refine lv_lconst (v := (1 : Int64)) hx hb dX12_asSort_45 (by decide) ?_
        refine lv_goto (tgt := 54) hx hb dX12_asSort_46 (by decide) ?_
        exact ret _ _ _ _ (1 : Int64) () dX12_asSort_54 trivial hP hD hS
      have c3 := ci_eq c3
      refine lv_lload_n hx hb dX12_asSort_28 rfl (lv_at hl 1 rfl) ?_
      refine lv_l2i hx hb dX12_asSort_29 rfl ?_
      refine lv_topi (fun x9 e10 => ?_)
      refine lv_i2l hx hb dX12_asSort_30 rfl ?_
      refine lv_topl (fun x11 e12 => ?_)
      have h13 : x11.toInt = x9.toInt := cl_i2l e12
      refine lv_goto (tgt := 54) hx hb dX12_asSort_31 (by decide) ?_
      exact ret _ _ _ _ x11 () dX12_asSort_54 trivial hP hD hS
    have c2 := ci_eq c2
    refine lv_lload_n hx hb dX12_asSort_16 rfl (lv_at hl 1 rfl) ?_
    refine lv_l2i hx hb dX12_asSort_17 rfl ?_
    refine lv_topi (fun x14 e15 => ?_)
    refine lv_i2s hx hb dX12_asSort_18 rfl ?_
    refine lv_topi (fun x16 e17 => ?_)
    refine lv_i2l hx hb dX12_asSort_19 rfl ?_
    refine lv_topl (fun x18 e19 => ?_)
    have h20 : x18.toInt = x16.toInt := cl_i2l e19
    refine lv_goto (tgt := 54) hx hb dX12_asSort_20 (by decide) ?_
    exact ret _ _ _ _ x18 () dX12_asSort_54 trivial hP hD hS
  have c1 := ci_eq c1
  refine lv_lload_n hx hb dX12_asSort_4 rfl (lv_at hl 1 rfl) ?_
  refine lv_l2i hx hb dX12_asSort_5 rfl ?_
  refine lv_topi (fun x21 e22 => ?_)
  refine lv_i2b hx hb dX12_asSort_6 rfl ?_
  refine lv_topi (fun x23 e24 => ?_)
  refine lv_i2l hx hb dX12_asSort_7 rfl ?_
  refine lv_topl (fun x25 e26 => ?_)
  have h27 : x25.toInt = x23.toInt := cl_i2l e26
  refine lv_goto (tgt := 54) hx hb dX12_asSort_8 (by decide) ?_
  exact ret _ _ _ _ x25 () dX12_asSort_54 trivial hP hD hS
set_option maxHeartbeats 4000000 in
set_option maxRecDepth 100000 in
theorem k_X12_put (l : Launch) (D : va_G) (κ : Nat → ClassId) (β : Nat) (a12 : Nat) (r12 : Nat → Nat) (v12_keptMany : Int32) (v12_done : Int32) (v12_sheets : Int32) (v12_holes : Int32) (v12_worms : Int32) (v12_laidMany : Int32) (v12_wanted : Int32) (v12_orderMany : Int32) (v12_firstOrder : Int32) (v12_lines : Int32) (v12_marks : Int32) (v12_dots : Int32) (v12_madeIn : Int32) (v12_bound : Int32) (v12_places : Int32) (v12_maps : Int32) (v12_tapeMany : Int32) (v12_stories : Int32) (v12_base : Int32) (v12_at : Int32) (v12_ends : Int32) (v12_fault : Int32) (v12_opened : Int32) (v12_bodies : Int32) (v12_ran : Int32) (v12_ownKind : Int32) (v12_ownNumber : Int32) (f12_shelf : Nat → Int32) (f12_many : Nat → Int32) (f12_items : Nat → Int64) (sz : Nat) (p1 : Int32) (p2 : Int32) (p3 : Int64) (i1 : Rg 0 40 v12_keptMany) (i2 : Rg 0 40 v12_done) (i3 : Rg 0 8 v12_sheets) (i4 : Rg 0 40 v12_holes) (i5 : Rg 0 40 v12_worms) (i6 : Rg 0 8 v12_laidMany) (i7 : Rg 0 8 v12_wanted) (i8 : Rg 0 20 v12_lines) (i9 : Rg 0 60 v12_marks) (i10 : Rg 0 40 v12_dots) (i11 : Rg 0 20 v12_places) (i12 : Rg 0 8 v12_maps) (i13 : Rg 0 120 v12_tapeMany) (i14 : Rg 0 6 v12_stories) (i15 : Rg 0 50 v12_bodies) (i16 : Rg 0 1000 v12_ran) (hf12_many : ∀ j : Nat, 0 ≤ (f12_many j).toInt ∧ (f12_many j).toInt ≤ 60) (i17 : v12_done.toInt ≤ v12_keptMany.toInt) : Met l yX12_put wsX12_put ({ frames := 3, cells := 0, slots := 0, locals := 67 } : Room) (PcK D κ β [O12 a12 r12 v12_keptMany v12_done v12_sheets v12_holes v12_worms v12_laidMany v12_wanted v12_orderMany v12_firstOrder v12_lines v12_marks v12_dots v12_madeIn v12_bound v12_places v12_maps v12_tapeMany v12_stories v12_base v12_at v12_ends v12_fault v12_opened v12_bodies v12_ran v12_ownKind v12_ownNumber, (cI κ (r12 59) 6 f12_shelf), (cI κ (r12 60) 6 f12_many), (cJ κ (r12 61) 360 f12_items)] sz [.ref a12, .int p1, .int p2, .long p3]) (QiK D (fun (r : Int32) (u : (Nat → Int64)) => True) (fun (u : (Nat → Int64)) => [O12 a12 r12 v12_keptMany v12_done v12_sheets v12_holes v12_worms v12_laidMany v12_wanted v12_orderMany v12_firstOrder v12_lines v12_marks v12_dots v12_madeIn v12_bound v12_places v12_maps v12_tapeMany v12_stories v12_base v12_at v12_ends v12_fault v12_opened v12_bodies v12_ran v12_ownKind v12_ownNumber, (cI κ (r12 59) 6 f12_shelf), (cI κ (r12 60) 6 f12_many), (cJ κ (r12 61) 360 u)]) [O12 a12 r12 v12_keptMany v12_done v12_sheets v12_holes v12_worms v12_laidMany v12_wanted v12_orderMany v12_firstOrder v12_lines v12_marks v12_dots v12_madeIn v12_bound v12_places v12_maps v12_tapeMany v12_stories v12_base v12_at v12_ends v12_fault v12_opened v12_bodies v12_ran v12_ownKind v12_ownNumber, (cI κ (r12 59) 6 f12_shelf), (cI κ (r12 60) 6 f12_many), (cJ κ (r12 61) 360 f12_items)] sz) 0 0 (va_A [O12 a12 r12 v12_keptMany v12_done v12_sheets v12_holes v12_worms v12_laidMany v12_wanted v12_orderMany v12_firstOrder v12_lines v12_marks v12_dots v12_madeIn v12_bound v12_places v12_maps v12_tapeMany v12_stories v12_base v12_at v12_ends v12_fault v12_opened v12_bodies v12_ran v12_ownKind v12_ownNumber, (cI κ (r12 59) 6 f12_shelf), (cI κ (r12 60) 6 f12_many), (cJ κ (r12 61) 360 f12_items)] sz) := by
  refine ofK_i (cc := cX12_put) (maxL := 6) (own := RX12) (by decide) rfl rfl (Nat.le_of_ble_eq_true rfl) ?_
  intro p e s m args below meth c Q A ls hsz hx hb hml hts hown hK hA hAB hP hD hl ret
  have hS : va_S A s.heap s.heap [] := va_S.rf
  have hl : lv_has ls 6 [(0, .ref a12), (1, .int p1), (2, .int p2), (3, .long p3)] := hl
  have w0 := hts (.fieldLink RX12 113 "OlderSkinModel" "items" "[J") (List.mem_of_getElem? (i := 1) rfl)
  have w1 := (fun w h => List.mem_cons_of_mem _ (List.mem_append_right _ h) : ∀ w ∈ u_ws RX12 TX12 63, w ∈ wsX12_put)
  have w2 := hts (.fieldLink RX12 107 "OlderSkinModel" "shelf" "[I") (List.mem_of_getElem? (i := 2) rfl)
  have l0 : (0 : Int32).toInt = 0 := by decide
  have l1 : (1 : Int32).toInt = 1 := by decide
  have l2 : (60 : Int32).toInt = 60 := by decide
  have l3 : (50 : Int32).toInt = 50 := by decide
  refine lv_aload_n hx hb dX12_put_0 rfl (lv_at hl 0 rfl) ?_
  refine lv_iload_n hx hb dX12_put_1 rfl (lv_at hl 1 rfl) ?_
  refine lv_iload_n hx hb dX12_put_2 rfl (lv_at hl 2 rfl) ?_
  refine kcm_i hA hAB hP hD hS [true, true, true, false] rfl (fun _ => rfl) (fun hPc hDc => va_runV (As := [.int p1, .int p2]) (rest := []) ⟨hx, hb, hml, hown, hts⟩ (k_X12_refusal l D κ β a12 r12 v12_keptMany v12_done v12_sheets v12_holes v12_worms v12_laidMany v12_wanted v12_orderMany v12_firstOrder v12_lines v12_marks v12_dots v12_madeIn v12_bound v12_places v12_maps v12_tapeMany v12_stories v12_base v12_at v12_ends v12_fault v12_opened v12_bodies v12_ran v12_ownKind v12_ownNumber f12_shelf f12_many s.heap.size p1 p2 i1 i2 i3 i4 i5 i6 i7 i8 i9 i10 i11 i12 i13 i14 i15 i16 hf12_many i17) (cwV 2 hts gX12_put_X12_refusal rfl rfl rfl (by decide +kernel) ⟨Nat.le_of_ble_eq_true rfl, Nat.le_of_ble_eq_true rfl⟩) (pk_V hK hS hAB hPc hDc 0 (ci := 12) rfl rfl rfl) rfl rfl hl.1 rfl (lv_room (Nat.le_of_ble_eq_true rfl)) dX12_put_3 ⟨Nat.le_of_ble_eq_true rfl, Nat.le_of_ble_eq_true rfl⟩) (fun x1 u2 H locs hw hPD hS => ?_)
  have h3 : x1.toInt ≠ 0 ∨ (0 ≤ p1.toInt ∧ p1.toInt ≤ 5 ∧ 0 ≤ p2.toInt ∧ p2.toInt ≤ 59) := hw
  obtain ⟨hP, hD⟩ : PD D A [O12 a12 r12 v12_keptMany v12_done v12_sheets v12_holes v12_worms v12_laidMany v12_wanted v12_orderMany v12_firstOrder v12_lines v12_marks v12_dots v12_madeIn v12_bound v12_places v12_maps v12_tapeMany v12_stories v12_base v12_at v12_ends v12_fault v12_opened v12_bodies v12_ran v12_ownKind v12_ownNumber, (cI κ (r12 59) 6 f12_shelf), (cI κ (r12 60) 6 f12_many), (cJ κ (r12 61) 360 f12_items)] H := hPD
  refine lv_istore (lv' := [(5, .int x1), (0, .ref a12), (1, .int p1), (2, .int p2), (3, .long p3)]) hx hb dX12_put_6 hl (by decide) rfl (fun ls hl => ?_)
  refine lv_iload hx hb dX12_put_8 (lv_at hl 0 rfl) ?_
  refine lv_if_ne (tgt := 37) hx hb dX12_put_10 (by decide) (fun c4 => ?_) (fun c4 => ?_)
  · have c4 := ci_ne c4
    refine lv_iload hx hb dX12_put_37 (lv_at hl 0 rfl) ?_
    refine lv_if_ne (tgt := 46) hx hb dX12_put_39 (by decide) (fun c5 => ?_) (fun c5 => ?_)
    · have c5 := ci_ne c5
      refine lv_iload hx hb dX12_put_46 (lv_at hl 0 rfl) ?_
      exact ret _ _ _ _ x1 f12_items dX12_put_48 trivial hP hD hS
    have c5 := ci_eq c5
    refine lv_iconst (v := 1) hx hb dX12_put_42 (by decide) ?_
    refine lv_goto (tgt := 48) hx hb dX12_put_43 (by decide) ?_
    exact ret _ _ _ _ 1 f12_items dX12_put_48 trivial hP hD hS
  have c4 := ci_eq c4
  refine lv_aload_n hx hb dX12_put_13 rfl (lv_at hl 1 rfl) ?_
  refine va_get (D := D) (ci := 12) (v := .ref (r12 61)) (C := RX12) (T := TX12) (N := 63) hx hb hts w1 hown hK.1 hP 0 rfl rfl 61 (by decide) w0 (fun _ h9 => h9) rfl dX12_put_14 ?_
  refine lv_bipush (v := 60) hx hb dX12_put_17 (by decide) ?_
  refine lv_iload_n hx hb dX12_put_19 rfl (lv_at hl 2 rfl) ?_
  refine lv_imul hx hb dX12_put_20 ?_
  refine lv_topi (fun x6 e7 => ?_)
  try have h8 : x6.toInt = 60 * p1.toInt := ci_mulL (n := 60) (by decide) e7 (by omega) (by omega)
  refine lv_iload_n hx hb dX12_put_21 rfl (lv_at hl 3 rfl) ?_
  refine lv_iadd hx hb dX12_put_22 ?_
  refine lv_topi (fun x9 e10 => ?_)
  try have h11 : x9.toInt = x6.toInt + p2.toInt := ci_add e10 (by omega) (by omega)
  refine lv_aload_n hx hb dX12_put_23 rfl (lv_at hl 1 rfl) ?_
  refine va_get (D := D) (ci := 12) (v := .ref (r12 59)) (C := RX12) (T := TX12) (N := 63) hx hb hts w1 hown hK.1 hP 0 rfl rfl 59 (by decide) w2 (fun _ h9 => h9) rfl dX12_put_24 ?_
  refine lv_iload_n hx hb dX12_put_27 rfl (lv_at hl 2 rfl) ?_
  refine va_iald hx hb hK.1 hP 1 1 rfl rfl (i := p1) (ix (by omega) (by omega)) dX12_put_28 ?_
  refine lv_topi (fun x12 e13 => ?_)
  refine lv_bipush (v := 50) hx hb dX12_put_29 (by decide) ?_
  refine lv_isub hx hb dX12_put_31 ?_
  refine lv_topi (fun x14 e15 => ?_)
  try have h16 : x14.toInt = x12.toInt - (50 : Int32).toInt := ci_sub e15 (by omega) (by omega)
  refine lv_lload_n hx hb dX12_put_32 rfl (lv_at hl 4 rfl) ?_
  refine kcm_l hA hAB hP hD hS [false, false, false, false] rfl (fun _ => rfl) (fun hPc hDc => va_runS (As := [.int x14, .long p3]) (rest := [.int x9, .ref (r12 61)]) ⟨hx, hb, hml, hown, hts⟩ (k_X12_asSort l D κ β H.size x14 p3) (va_cwS 2 hts gX12_put_X12_asSort rfl rfl rfl (by decide +kernel) ⟨Nat.le_of_ble_eq_true rfl, Nat.le_of_ble_eq_true rfl⟩) (pk_S hK hS hAB hPc hDc) rfl rfl hl.1 rfl (lv_room (Nat.le_of_ble_eq_true rfl)) dX12_put_33 ⟨Nat.le_of_ble_eq_true rfl, Nat.le_of_ble_eq_true rfl⟩) (fun x17 u18 H locs hw hPD hS => ?_)
  obtain ⟨hP, hD⟩ : PD D A [O12 a12 r12 v12_keptMany v12_done v12_sheets v12_holes v12_worms v12_laidMany v12_wanted v12_orderMany v12_firstOrder v12_lines v12_marks v12_dots v12_madeIn v12_bound v12_places v12_maps v12_tapeMany v12_stories v12_base v12_at v12_ends v12_fault v12_opened v12_bodies v12_ran v12_ownKind v12_ownNumber, (cI κ (r12 59) 6 f12_shelf), (cI κ (r12 60) 6 f12_many), (cJ κ (r12 61) 360 f12_items)] H := hPD
  refine va_last hx hb hK.1 hP hD hS 3 2 rfl rfl (i := x9) (ix (by omega) (by omega)) dX12_put_36 (fun H locs hP hD hS => ?_)
  obtain ⟨g19, e20⟩ : ∃ y : Nat → Int64, y = vp_updL f12_items x9.toNatClampNeg x17 := ⟨_, rfl⟩
  rw [← e20] at hP hD
  obtain ⟨hP, hD⟩ : PD D A [O12 a12 r12 v12_keptMany v12_done v12_sheets v12_holes v12_worms v12_laidMany v12_wanted v12_orderMany v12_firstOrder v12_lines v12_marks v12_dots v12_madeIn v12_bound v12_places v12_maps v12_tapeMany v12_stories v12_base v12_at v12_ends v12_fault v12_opened v12_bodies v12_ran v12_ownKind v12_ownNumber, (cI κ (r12 59) 6 f12_shelf), (cI κ (r12 60) 6 f12_many), (cJ κ (r12 61) 360 g19)] H := ⟨hP, hD⟩
  refine lv_iload hx hb dX12_put_37 (lv_at hl 0 rfl) ?_
  refine lv_if_ne (tgt := 46) hx hb dX12_put_39 (by decide) (fun c21 => ?_) (fun c21 => ?_)
  · have c21 := ci_ne c21
    refine lv_iload hx hb dX12_put_46 (lv_at hl 0 rfl) ?_
    exact ret _ _ _ _ x1 g19 dX12_put_48 trivial hP hD hS
  have c21 := ci_eq c21
  refine lv_iconst (v := 1) hx hb dX12_put_42 (by decide) ?_
  refine lv_goto (tgt := 48) hx hb dX12_put_43 (by decide) ?_
  exact ret _ _ _ _ 1 g19 dX12_put_48 trivial hP hD hS
set_option maxHeartbeats 4000000 in
set_option maxRecDepth 100000 in
theorem k_X12_element (l : Launch) (D : va_G) (κ : Nat → ClassId) (β : Nat) (a12 : Nat) (r12 : Nat → Nat) (v12_keptMany : Int32) (v12_done : Int32) (v12_sheets : Int32) (v12_holes : Int32) (v12_worms : Int32) (v12_laidMany : Int32) (v12_wanted : Int32) (v12_orderMany : Int32) (v12_firstOrder : Int32) (v12_lines : Int32) (v12_marks : Int32) (v12_dots : Int32) (v12_madeIn : Int32) (v12_bound : Int32) (v12_places : Int32) (v12_maps : Int32) (v12_tapeMany : Int32) (v12_stories : Int32) (v12_base : Int32) (v12_at : Int32) (v12_ends : Int32) (v12_fault : Int32) (v12_opened : Int32) (v12_bodies : Int32) (v12_ran : Int32) (v12_ownKind : Int32) (v12_ownNumber : Int32) (f12_shelf : Nat → Int32) (f12_many : Nat → Int32) (f12_items : Nat → Int64) (sz : Nat) (p1 : Int32) (p2 : Int32) (i1 : Rg 0 40 v12_keptMany) (i2 : Rg 0 40 v12_done) (i3 : Rg 0 8 v12_sheets) (i4 : Rg 0 40 v12_holes) (i5 : Rg 0 40 v12_worms) (i6 : Rg 0 8 v12_laidMany) (i7 : Rg 0 8 v12_wanted) (i8 : Rg 0 20 v12_lines) (i9 : Rg 0 60 v12_marks) (i10 : Rg 0 40 v12_dots) (i11 : Rg 0 20 v12_places) (i12 : Rg 0 8 v12_maps) (i13 : Rg 0 120 v12_tapeMany) (i14 : Rg 0 6 v12_stories) (i15 : Rg 0 50 v12_bodies) (i16 : Rg 0 1000 v12_ran) (hf12_many : ∀ j : Nat, 0 ≤ (f12_many j).toInt ∧ (f12_many j).toInt ≤ 60) (i17 : v12_done.toInt ≤ v12_keptMany.toInt) : Met l yX12_element wsX12_element ({ frames := 3, cells := 0, slots := 0, locals := 67 } : Room) (PcK D κ β [O12 a12 r12 v12_keptMany v12_done v12_sheets v12_holes v12_worms v12_laidMany v12_wanted v12_orderMany v12_firstOrder v12_lines v12_marks v12_dots v12_madeIn v12_bound v12_places v12_maps v12_tapeMany v12_stories v12_base v12_at v12_ends v12_fault v12_opened v12_bodies v12_ran v12_ownKind v12_ownNumber, (cI κ (r12 59) 6 f12_shelf), (cI κ (r12 60) 6 f12_many), (cJ κ (r12 61) 360 f12_items)] sz [.ref a12, .int p1, .int p2]) (QlK D (fun (r : Int64) (u : Unit) => True) (fun (u : Unit) => [O12 a12 r12 v12_keptMany v12_done v12_sheets v12_holes v12_worms v12_laidMany v12_wanted v12_orderMany v12_firstOrder v12_lines v12_marks v12_dots v12_madeIn v12_bound v12_places v12_maps v12_tapeMany v12_stories v12_base v12_at v12_ends v12_fault v12_opened v12_bodies v12_ran v12_ownKind v12_ownNumber, (cI κ (r12 59) 6 f12_shelf), (cI κ (r12 60) 6 f12_many), (cJ κ (r12 61) 360 f12_items)]) [O12 a12 r12 v12_keptMany v12_done v12_sheets v12_holes v12_worms v12_laidMany v12_wanted v12_orderMany v12_firstOrder v12_lines v12_marks v12_dots v12_madeIn v12_bound v12_places v12_maps v12_tapeMany v12_stories v12_base v12_at v12_ends v12_fault v12_opened v12_bodies v12_ran v12_ownKind v12_ownNumber, (cI κ (r12 59) 6 f12_shelf), (cI κ (r12 60) 6 f12_many), (cJ κ (r12 61) 360 f12_items)] sz) 0 0 (va_A [O12 a12 r12 v12_keptMany v12_done v12_sheets v12_holes v12_worms v12_laidMany v12_wanted v12_orderMany v12_firstOrder v12_lines v12_marks v12_dots v12_madeIn v12_bound v12_places v12_maps v12_tapeMany v12_stories v12_base v12_at v12_ends v12_fault v12_opened v12_bodies v12_ran v12_ownKind v12_ownNumber, (cI κ (r12 59) 6 f12_shelf), (cI κ (r12 60) 6 f12_many), (cJ κ (r12 61) 360 f12_items)] sz) := by
  refine ofK_l (cc := cX12_element) (maxL := 3) (own := RX12) (by decide) rfl rfl (Nat.le_of_ble_eq_true rfl) ?_
  intro p e s m args below meth c Q A ls hsz hx hb hml hts hown hK hA hAB hP hD hl ret
  have hS : va_S A s.heap s.heap [] := va_S.rf
  have hl : lv_has ls 3 [(0, .ref a12), (1, .int p1), (2, .int p2)] := hl
  have w0 := hts (.fieldLink RX12 113 "OlderSkinModel" "items" "[J") (List.mem_of_getElem? (i := 2) rfl)
  have w1 := (fun w h => List.mem_cons_of_mem _ (List.mem_append_right _ h) : ∀ w ∈ u_ws RX12 TX12 63, w ∈ wsX12_element)
  have w2 := hts (.constantLong RX12 419 (-9223372036854775808)) (List.mem_of_getElem? (i := 1) rfl)
  have l0 : (0 : Int32).toInt = 0 := by decide
  have l1 : (60 : Int32).toInt = 60 := by decide
  have l2 : ((-9223372036854775808) : Int64).toInt = -9223372036854775808 := by decide
  refine lv_aload_n hx hb dX12_element_0 rfl (lv_at hl 0 rfl) ?_
  refine lv_iload_n hx hb dX12_element_1 rfl (lv_at hl 1 rfl) ?_
  refine lv_iload_n hx hb dX12_element_2 rfl (lv_at hl 2 rfl) ?_
  refine kcm_i hA hAB hP hD hS [true, true, true, false] rfl (fun _ => rfl) (fun hPc hDc => va_runV (As := [.int p1, .int p2]) (rest := []) ⟨hx, hb, hml, hown, hts⟩ (k_X12_refusal l D κ β a12 r12 v12_keptMany v12_done v12_sheets v12_holes v12_worms v12_laidMany v12_wanted v12_orderMany v12_firstOrder v12_lines v12_marks v12_dots v12_madeIn v12_bound v12_places v12_maps v12_tapeMany v12_stories v12_base v12_at v12_ends v12_fault v12_opened v12_bodies v12_ran v12_ownKind v12_ownNumber f12_shelf f12_many s.heap.size p1 p2 i1 i2 i3 i4 i5 i6 i7 i8 i9 i10 i11 i12 i13 i14 i15 i16 hf12_many i17) (cwV 2 hts gX12_element_X12_refusal rfl rfl rfl (by decide +kernel) ⟨Nat.le_of_ble_eq_true rfl, Nat.le_of_ble_eq_true rfl⟩) (pk_V hK hS hAB hPc hDc 0 (ci := 12) rfl rfl rfl) rfl rfl hl.1 rfl (lv_room (Nat.le_of_ble_eq_true rfl)) dX12_element_3 ⟨Nat.le_of_ble_eq_true rfl, Nat.le_of_ble_eq_true rfl⟩) (fun x1 u2 H locs hw hPD hS => ?_)
  have h3 : x1.toInt ≠ 0 ∨ (0 ≤ p1.toInt ∧ p1.toInt ≤ 5 ∧ 0 ≤ p2.toInt ∧ p2.toInt ≤ 59) := hw
  obtain ⟨hP, hD⟩ : PD D A [O12 a12 r12 v12_keptMany v12_done v12_sheets v12_holes v12_worms v12_laidMany v12_wanted v12_orderMany v12_firstOrder v12_lines v12_marks v12_dots v12_madeIn v12_bound v12_places v12_maps v12_tapeMany v12_stories v12_base v12_at v12_ends v12_fault v12_opened v12_bodies v12_ran v12_ownKind v12_ownNumber, (cI κ (r12 59) 6 f12_shelf), (cI κ (r12 60) 6 f12_many), (cJ κ (r12 61) 360 f12_items)] H := hPD
  refine lv_if_eq (tgt := 15) hx hb dX12_element_6 (by decide) (fun c4 => ?_) (fun c4 => ?_)
  · have c4 := ci_eq c4
    refine lv_aload_n hx hb dX12_element_15 rfl (lv_at hl 0 rfl) ?_
    refine va_get (D := D) (ci := 12) (v := .ref (r12 61)) (C := RX12) (T := TX12) (N := 63) hx hb hts w1 hown hK.1 hP 0 rfl rfl 61 (by decide) w0 (fun _ h9 => h9) rfl dX12_element_16 ?_
    refine lv_bipush (v := 60) hx hb dX12_element_19 (by decide) ?_
    refine lv_iload_n hx hb dX12_element_21 rfl (lv_at hl 1 rfl) ?_
    refine lv_imul hx hb dX12_element_22 ?_
    refine lv_topi (fun x5 e6 => ?_)
    try have h7 : x5.toInt = 60 * p1.toInt := ci_mulL (n := 60) (by decide) e6 (by omega) (by omega)
    refine lv_iload_n hx hb dX12_element_23 rfl (lv_at hl 2 rfl) ?_
    refine lv_iadd hx hb dX12_element_24 ?_
    refine lv_topi (fun x8 e9 => ?_)
    try have h10 : x8.toInt = x5.toInt + p2.toInt := ci_add e9 (by omega) (by omega)
    refine va_lald hx hb hK.1 hP 3 2 rfl rfl (i := x8) (ix (by omega) (by omega)) dX12_element_25 ?_
    refine lv_topl (fun x11 e12 => ?_)
    exact ret _ _ _ _ x11 () dX12_element_26 trivial hP hD hS
  have c4 := ci_ne c4
  refine lv_ldc2 (v := ((-9223372036854775808) : Int64)) hx hb hown w2 dX12_element_9 ?_
  refine lv_goto (tgt := 26) hx hb dX12_element_12 (by decide) ?_
  exact ret _ _ _ _ ((-9223372036854775808) : Int64) () dX12_element_26 trivial hP hD hS
set_option maxHeartbeats 4000000 in
set_option maxRecDepth 100000 in
theorem k_X12_orNone (l : Launch) (D : va_G) (κ : Nat → ClassId) (β : Nat) (sz : Nat) (p1 : Int32) : Met l yX12_orNone wsX12_orNone ({ frames := 0, cells := 0, slots := 0, locals := 0 } : Room) (PcK D κ β [] sz [.int p1]) (QiK D (fun (r : Int32) (u : Unit) => True) (fun (u : Unit) => []) [] sz) 0 0 (va_A [] sz) := by
  refine ofK_i (cc := cX12_orNone) (maxL := 1) (own := RX12) (by decide) rfl rfl (Nat.le_of_ble_eq_true rfl) ?_
  intro p e s m args below meth c Q A ls hsz hx hb hml hts hown hK hA hAB hP hD hl ret
  have hS : va_S A s.heap s.heap [] := va_S.rf
  have hl : lv_has ls 1 [(0, .int p1)] := hl
  have l0 : (0 : Int32).toInt = 0 := by decide
  refine lv_iload_n hx hb dX12_orNone_0 rfl (lv_at hl 0 rfl) ?_
  refine lv_if_ge (tgt := 8) hx hb dX12_orNone_1 (by decide) (fun c1 => ?_) (fun c1 => ?_)
  · have c1 := ci_le c1
    refine lv_iload_n hx hb dX12_orNone_8 rfl (lv_at hl 0 rfl) ?_
    exact ret _ _ _ _ p1 () dX12_orNone_9 trivial hP hD hS
  have c1 := ci_nle c1
  refine lv_iconst (v := 0) hx hb dX12_orNone_4 (by decide) ?_
  refine lv_goto (tgt := 9) hx hb dX12_orNone_5 (by decide) ?_
  exact ret _ _ _ _ 0 () dX12_orNone_9 trivial hP hD hS
