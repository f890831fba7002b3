set_option maxHeartbeats 4000000 in
set_option maxRecDepth 100000 in
theorem k_X12_adds (l : Launch) (D : va_G) (κ : Nat → ClassId) (β : Nat) (a12 : Nat) (r12 : Nat → Nat) (v12_keptMany : Int32) (v12_done : Int32) (v12_sheets : Int32) (v12_holes : Int32) (v12_worms : Int32) (v12_laidMany : Int32) (v12_wanted : Int32) (v12_orderMany : Int32) (v12_firstOrder : Int32) (v12_lines : Int32) (v12_marks : Int32) (v12_dots : Int32) (v12_madeIn : Int32) (v12_bound : Int32) (v12_places : Int32) (v12_maps : Int32) (v12_tapeMany : Int32) (v12_stories : Int32) (v12_base : Int32) (v12_at : Int32) (v12_ends : Int32) (v12_fault : Int32) (v12_opened : Int32) (v12_bodies : Int32) (v12_ran : Int32) (v12_ownKind : Int32) (v12_ownNumber : Int32) (f12_may : Nat → Int32) (f12_houseOf : Nat → Int32) (f12_inkOf : Nat → Int32) (sz : Nat) (p1 : Int32) (p2 : Int32) (p3 : Int32) (i1 : Rg 0 40 v12_keptMany) (i2 : Rg 0 40 v12_done) (i3 : Rg 0 8 v12_sheets) (i4 : Rg 0 40 v12_holes) (i5 : Rg 0 40 v12_worms) (i6 : Rg 0 8 v12_laidMany) (i7 : Rg 0 8 v12_wanted) (i8 : Rg 0 20 v12_lines) (i9 : Rg 0 60 v12_marks) (i10 : Rg 0 40 v12_dots) (i11 : Rg 0 20 v12_places) (i12 : Rg 0 8 v12_maps) (i13 : Rg 0 120 v12_tapeMany) (i14 : Rg 0 6 v12_stories) (i15 : Rg 0 50 v12_bodies) (i16 : Rg 0 1000 v12_ran) (i17 : v12_done.toInt ≤ v12_keptMany.toInt) (i18 : v12_dots.toInt ≤ 39) (i19 : v12_keptMany.toInt = 0) (i20 : v12_done.toInt = 0) (i21 : v12_sheets.toInt = 0) (i22 : v12_holes.toInt = 0) (i23 : v12_worms.toInt = 0) (i24 : v12_lines.toInt = 0) (i25 : v12_marks.toInt = 0) (i26 : v12_dots.toInt = 0) (i27 : v12_madeIn.toInt = 2001) (i28 : v12_places.toInt = 0) (i29 : v12_maps.toInt = 0) (i30 : v12_tapeMany.toInt = 0) (i31 : v12_stories.toInt = 0) (i32 : v12_bodies.toInt = 0) : Met l yX12_adds wsX12_adds ({ frames := 0, cells := 0, slots := 0, locals := 0 } : Room) (PcK D κ β [O12 a12 r12 v12_keptMany v12_done v12_sheets v12_holes v12_worms v12_laidMany v12_wanted v12_orderMany v12_firstOrder v12_lines v12_marks v12_dots v12_madeIn v12_bound v12_places v12_maps v12_tapeMany v12_stories v12_base v12_at v12_ends v12_fault v12_opened v12_bodies v12_ran v12_ownKind v12_ownNumber, (cI κ (r12 0) 55 f12_may), (cI κ (r12 28) 41 f12_houseOf), (cI κ (r12 29) 41 f12_inkOf)] sz [.ref a12, .int p1, .int p2, .int p3]) (QvK D (fun (u : Int32 × (Nat → Int32) × (Nat → Int32) × (Nat → Int32)) => (0 ≤ u.1.toInt ∧ u.1.toInt ≤ 40) ∧ (u.1.toInt = v12_dots.toInt + 1)) (fun (u : Int32 × (Nat → Int32) × (Nat → Int32) × (Nat → Int32)) => [O12 a12 r12 v12_keptMany v12_done v12_sheets v12_holes v12_worms v12_laidMany v12_wanted v12_orderMany v12_firstOrder v12_lines v12_marks u.1 v12_madeIn v12_bound v12_places v12_maps v12_tapeMany v12_stories v12_base v12_at v12_ends v12_fault v12_opened v12_bodies v12_ran v12_ownKind v12_ownNumber, (cI κ (r12 0) 55 u.2.1), (cI κ (r12 28) 41 u.2.2.1), (cI κ (r12 29) 41 u.2.2.2)]) [O12 a12 r12 v12_keptMany v12_done v12_sheets v12_holes v12_worms v12_laidMany v12_wanted v12_orderMany v12_firstOrder v12_lines v12_marks v12_dots v12_madeIn v12_bound v12_places v12_maps v12_tapeMany v12_stories v12_base v12_at v12_ends v12_fault v12_opened v12_bodies v12_ran v12_ownKind v12_ownNumber, (cI κ (r12 0) 55 f12_may), (cI κ (r12 28) 41 f12_houseOf), (cI κ (r12 29) 41 f12_inkOf)] sz) 0 0 (va_A [O12 a12 r12 v12_keptMany v12_done v12_sheets v12_holes v12_worms v12_laidMany v12_wanted v12_orderMany v12_firstOrder v12_lines v12_marks v12_dots v12_madeIn v12_bound v12_places v12_maps v12_tapeMany v12_stories v12_base v12_at v12_ends v12_fault v12_opened v12_bodies v12_ran v12_ownKind v12_ownNumber, (cI κ (r12 0) 55 f12_may), (cI κ (r12 28) 41 f12_houseOf), (cI κ (r12 29) 41 f12_inkOf)] sz) := by
  refine ofK_v (cc := cX12_adds) (maxL := 4) (own := RX12) (by decide) rfl rfl (Nat.le_of_ble_eq_true rfl) ?_
  intro p e s m args below meth c Q A ls hsz hx hb hml hts hown hK hA hAB hP hD hl hname ret
  have hS : va_S A s.heap s.heap [] := va_S.rf
  have hl : lv_has ls 4 [(0, .ref a12), (1, .int p1), (2, .int p2), (3, .int p3)] := hl
  have w0 := hts (.fieldLink RX12 59 "OlderSkinModel" "houseOf" "[I") (List.mem_of_getElem? (i := 1) rfl)
  have w1 := (fun w h => List.mem_cons_of_mem _ (List.mem_append_right _ h) : ∀ w ∈ u_ws RX12 TX12 63, w ∈ wsX12_adds)
  have w2 := hts (.fieldLink RX12 227 "OlderSkinModel" "dots" "I") (List.mem_of_getElem? (i := 2) rfl)
  have w3 := hts (.fieldLink RX12 62 "OlderSkinModel" "inkOf" "[I") (List.mem_of_getElem? (i := 3) rfl)
  have w4 := hts (.fieldLink RX12 9 "OlderSkinModel" "may" "[I") (List.mem_of_getElem? (i := 4) rfl)
  have l0 : (1 : Int32).toInt = 1 := by decide
  have i10 : 0 ≤ v12_dots.toInt ∧ v12_dots.toInt ≤ 40 := i10
  refine lv_aload_n hx hb dX12_adds_0 rfl (lv_at hl 0 rfl) ?_
  refine va_get (D := D) (ci := 12) (v := .ref (r12 28)) (C := RX12) (T := TX12) (N := 63) hx hb hts w1 hown hK.1 hP 0 rfl rfl 28 (by decide) w0 (fun _ h9 => h9) rfl dX12_adds_1 ?_
  refine lv_aload_n hx hb dX12_adds_4 rfl (lv_at hl 0 rfl) ?_
  refine va_get (D := D) (ci := 12) (v := .int v12_dots) (C := RX12) (T := TX12) (N := 63) hx hb hts w1 hown hK.1 hP 0 rfl rfl 27 (by decide) w2 (fun _ h9 => h9) rfl dX12_adds_5 ?_
  refine lv_iload_n hx hb dX12_adds_8 rfl (lv_at hl 1 rfl) ?_
  refine va_iast hx hb hK.1 hP hD hS 2 1 rfl rfl (i := v12_dots) (ix (by omega) (by omega)) dX12_adds_9 (fun H locs hP hD hS => ?_)
  obtain ⟨g1, e2⟩ : ∃ y : Nat → Int32, y = upd f12_houseOf v12_dots.toNatClampNeg p1 := ⟨_, rfl⟩
  rw [← e2] at hP hD
  obtain ⟨hP, hD⟩ : PD D A [O12 a12 r12 v12_keptMany v12_done v12_sheets v12_holes v12_worms v12_laidMany v12_wanted v12_orderMany v12_firstOrder v12_lines v12_marks v12_dots v12_madeIn v12_bound v12_places v12_maps v12_tapeMany v12_stories v12_base v12_at v12_ends v12_fault v12_opened v12_bodies v12_ran v12_ownKind v12_ownNumber, (cI κ (r12 0) 55 f12_may), (cI κ (r12 28) 41 g1), (cI κ (r12 29) 41 f12_inkOf)] H := ⟨hP, hD⟩
  refine lv_aload_n hx hb dX12_adds_10 rfl (lv_at hl 0 rfl) ?_
  refine va_get (D := D) (ci := 12) (v := .ref (r12 29)) (C := RX12) (T := TX12) (N := 63) hx hb hts w1 hown hK.1 hP 0 rfl rfl 29 (by decide) w3 (fun _ h9 => h9) rfl dX12_adds_11 ?_
  refine lv_aload_n hx hb dX12_adds_14 rfl (lv_at hl 0 rfl) ?_
  refine va_get (D := D) (ci := 12) (v := .int v12_dots) (C := RX12) (T := TX12) (N := 63) hx hb hts w1 hown hK.1 hP 0 rfl rfl 27 (by decide) w2 (fun _ h9 => h9) rfl dX12_adds_15 ?_
  refine lv_iload_n hx hb dX12_adds_18 rfl (lv_at hl 2 rfl) ?_
  refine va_iast hx hb hK.1 hP hD hS 3 1 rfl rfl (i := v12_dots) (ix (by omega) (by omega)) dX12_adds_19 (fun H locs hP hD hS => ?_)
  obtain ⟨g3, e4⟩ : ∃ y : Nat → Int32, y = upd f12_inkOf v12_dots.toNatClampNeg p2 := ⟨_, rfl⟩
  rw [← e4] at hP hD
  obtain ⟨hP, hD⟩ : PD D A [O12 a12 r12 v12_keptMany v12_done v12_sheets v12_holes v12_worms v12_laidMany v12_wanted v12_orderMany v12_firstOrder v12_lines v12_marks v12_dots v12_madeIn v12_bound v12_places v12_maps v12_tapeMany v12_stories v12_base v12_at v12_ends v12_fault v12_opened v12_bodies v12_ran v12_ownKind v12_ownNumber, (cI κ (r12 0) 55 f12_may), (cI κ (r12 28) 41 g1), (cI κ (r12 29) 41 g3)] H := ⟨hP, hD⟩
  refine lv_aload_n hx hb dX12_adds_20 rfl (lv_at hl 0 rfl) ?_
  refine va_get (D := D) (ci := 12) (v := .ref (r12 0)) (C := RX12) (T := TX12) (N := 63) hx hb hts w1 hown hK.1 hP 0 rfl rfl 0 (by decide) w4 (fun _ h9 => h9) rfl dX12_adds_21 ?_
  refine lv_aload_n hx hb dX12_adds_24 rfl (lv_at hl 0 rfl) ?_
  refine va_get (D := D) (ci := 12) (v := .int v12_dots) (C := RX12) (T := TX12) (N := 63) hx hb hts w1 hown hK.1 hP 0 rfl rfl 27 (by decide) w2 (fun _ h9 => h9) rfl dX12_adds_25 ?_
  refine lv_iload_n hx hb dX12_adds_28 rfl (lv_at hl 3 rfl) ?_
  refine va_iast hx hb hK.1 hP hD hS 1 1 rfl rfl (i := v12_dots) (ix (by omega) (by omega)) dX12_adds_29 (fun H locs hP hD hS => ?_)
  obtain ⟨g5, e6⟩ : ∃ y : Nat → Int32, y = upd f12_may v12_dots.toNatClampNeg p3 := ⟨_, rfl⟩
  rw [← e6] at hP hD
  obtain ⟨hP, hD⟩ : PD D A [O12 a12 r12 v12_keptMany v12_done v12_sheets v12_holes v12_worms v12_laidMany v12_wanted v12_orderMany v12_firstOrder v12_lines v12_marks v12_dots v12_madeIn v12_bound v12_places v12_maps v12_tapeMany v12_stories v12_base v12_at v12_ends v12_fault v12_opened v12_bodies v12_ran v12_ownKind v12_ownNumber, (cI κ (r12 0) 55 g5), (cI κ (r12 28) 41 g1), (cI κ (r12 29) 41 g3)] H := ⟨hP, hD⟩
  refine lv_aload_n hx hb dX12_adds_30 rfl (lv_at hl 0 rfl) ?_
  refine lv_dup hx hb dX12_adds_31 rfl ?_
  refine va_get (D := D) (ci := 12) (v := .int v12_dots) (C := RX12) (T := TX12) (N := 63) hx hb hts w1 hown hK.1 hP 0 rfl rfl 27 (by decide) w2 (fun _ h9 => h9) rfl dX12_adds_32 ?_
  refine lv_iconst (v := 1) hx hb dX12_adds_35 (by decide) ?_
  refine lv_iadd hx hb dX12_adds_36 ?_
  refine lv_topi (fun x7 e8 => ?_)
  try have h9 : x7.toInt = v12_dots.toInt + (1 : Int32).toInt := ci_add e8 (by omega) (by omega)
  refine va_put (D := D) (ci := 12) (v := .int x7) (ty := .int) (C := RX12) (T := TX12) (N := 63) hx hb hts w1 tyX12 tyX12_ok nmX12 hown hK.1 hP hD hS 0 rfl rfl 27 (by decide) w2 (fun _ h9 => h9) rfl (by decide +kernel) rfl rfl (Nat.le_of_ble_eq_true rfl) dX12_adds_37 (fun H locs hP hD hS => ?_)
  obtain ⟨hP, hD⟩ : PD D A [O12 a12 r12 v12_keptMany v12_done v12_sheets v12_holes v12_worms v12_laidMany v12_wanted v12_orderMany v12_firstOrder v12_lines v12_marks x7 v12_madeIn v12_bound v12_places v12_maps v12_tapeMany v12_stories v12_base v12_at v12_ends v12_fault v12_opened v12_bodies v12_ran v12_ownKind v12_ownNumber, (cI κ (r12 0) 55 g5), (cI κ (r12 28) 41 g1), (cI κ (r12 29) 41 g3)] H := ⟨hP, hD⟩
  have h10 : 0 ≤ x7.toInt ∧ x7.toInt ≤ 40 := by omega
  have hpo : (0 ≤ x7.toInt ∧ x7.toInt ≤ 40) ∧ (x7.toInt = v12_dots.toInt + 1) := ⟨h10, (by omega)⟩
  exact ret _ _ _ _ (x7, g5, g1, g3) dX12_adds_40 hpo hP hD hS
set_option maxHeartbeats 4000000 in
set_option maxRecDepth 100000 in
theorem k_X12_dot (l : Launch) (D : va_G) (κ : Nat → ClassId) (β : Nat) (a12 : Nat) (r12 : Nat → Nat) (v12_keptMany : Int32) (v12_done : Int32) (v12_sheets : Int32) (v12_holes : Int32) (v12_worms : Int32) (v12_laidMany : Int32) (v12_wanted : Int32) (v12_orderMany : Int32) (v12_firstOrder : Int32) (v12_lines : Int32) (v12_marks : Int32) (v12_dots : Int32) (v12_madeIn : Int32) (v12_bound : Int32) (v12_places : Int32) (v12_maps : Int32) (v12_tapeMany : Int32) (v12_stories : Int32) (v12_base : Int32) (v12_at : Int32) (v12_ends : Int32) (v12_fault : Int32) (v12_opened : Int32) (v12_bodies : Int32) (v12_ran : Int32) (v12_ownKind : Int32) (v12_ownNumber : Int32) (f12_may : Nat → Int32) (f12_houseOf : Nat → Int32) (f12_inkOf : Nat → Int32) (sz : Nat) (p1 : Int32) (p2 : Int32) (i1 : Rg 0 40 v12_keptMany) (i2 : Rg 0 40 v12_done) (i3 : Rg 0 8 v12_sheets) (i4 : Rg 0 40 v12_holes) (i5 : Rg 0 40 v12_worms) (i6 : Rg 0 8 v12_laidMany) (i7 : Rg 0 8 v12_wanted) (i8 : Rg 0 20 v12_lines) (i9 : Rg 0 60 v12_marks) (i10 : Rg 0 40 v12_dots) (i11 : Rg 0 20 v12_places) (i12 : Rg 0 8 v12_maps) (i13 : Rg 0 120 v12_tapeMany) (i14 : Rg 0 6 v12_stories) (i15 : Rg 0 50 v12_bodies) (i16 : Rg 0 1000 v12_ran) (i17 : v12_done.toInt ≤ v12_keptMany.toInt) (i18 : v12_keptMany.toInt = 0) (i19 : v12_done.toInt = 0) (i20 : v12_sheets.toInt = 0) (i21 : v12_holes.toInt = 0) (i22 : v12_worms.toInt = 0) (i23 : v12_lines.toInt = 0) (i24 : v12_marks.toInt = 0) (i25 : v12_dots.toInt = 0) (i26 : v12_madeIn.toInt = 2001) (i27 : v12_places.toInt = 0) (i28 : v12_maps.toInt = 0) (i29 : v12_tapeMany.toInt = 0) (i30 : v12_stories.toInt = 0) (i31 : v12_bodies.toInt = 0) : Met l yX12_dot wsX12_dot ({ frames := 2, cells := 0, slots := 0, locals := 47 } : Room) (PcK D κ β [O12 a12 r12 v12_keptMany v12_done v12_sheets v12_holes v12_worms v12_laidMany v12_wanted v12_orderMany v12_firstOrder v12_lines v12_marks v12_dots v12_madeIn v12_bound v12_places v12_maps v12_tapeMany v12_stories v12_base v12_at v12_ends v12_fault v12_opened v12_bodies v12_ran v12_ownKind v12_ownNumber, (cI κ (r12 0) 55 f12_may), (cI κ (r12 28) 41 f12_houseOf), (cI κ (r12 29) 41 f12_inkOf)] sz [.ref a12, .int p1, .int p2]) (QiK D (fun (r : Int32) (u : Int32 × (Nat → Int32) × (Nat → Int32) × (Nat → Int32)) => (0 ≤ u.1.toInt ∧ u.1.toInt ≤ 40) ∧ (((0 ≤ p1.toInt ∧ p1.toInt / 10 ≤ 4 ∧ p1.toInt % 10 ≤ 7 ∧ 0 ≤ p2.toInt ∧ p2.toInt ≤ 9999) ∧ r.toInt = 0) ∨ (¬ (0 ≤ p1.toInt ∧ p1.toInt / 10 ≤ 4 ∧ p1.toInt % 10 ≤ 7 ∧ 0 ≤ p2.toInt ∧ p2.toInt ≤ 9999) ∧ r.toInt = -1))) (fun (u : Int32 × (Nat → Int32) × (Nat → Int32) × (Nat → Int32)) => [O12 a12 r12 v12_keptMany v12_done v12_sheets v12_holes v12_worms v12_laidMany v12_wanted v12_orderMany v12_firstOrder v12_lines v12_marks u.1 v12_madeIn v12_bound v12_places v12_maps v12_tapeMany v12_stories v12_base v12_at v12_ends v12_fault v12_opened v12_bodies v12_ran v12_ownKind v12_ownNumber, (cI κ (r12 0) 55 u.2.1), (cI κ (r12 28) 41 u.2.2.1), (cI κ (r12 29) 41 u.2.2.2)]) [O12 a12 r12 v12_keptMany v12_done v12_sheets v12_holes v12_worms v12_laidMany v12_wanted v12_orderMany v12_firstOrder v12_lines v12_marks v12_dots v12_madeIn v12_bound v12_places v12_maps v12_tapeMany v12_stories v12_base v12_at v12_ends v12_fault v12_opened v12_bodies v12_ran v12_ownKind v12_ownNumber, (cI κ (r12 0) 55 f12_may), (cI κ (r12 28) 41 f12_houseOf), (cI κ (r12 29) 41 f12_inkOf)] sz) 0 0 (va_A [O12 a12 r12 v12_keptMany v12_done v12_sheets v12_holes v12_worms v12_laidMany v12_wanted v12_orderMany v12_firstOrder v12_lines v12_marks v12_dots v12_madeIn v12_bound v12_places v12_maps v12_tapeMany v12_stories v12_base v12_at v12_ends v12_fault v12_opened v12_bodies v12_ran v12_ownKind v12_ownNumber, (cI κ (r12 0) 55 f12_may), (cI κ (r12 28) 41 f12_houseOf), (cI κ (r12 29) 41 f12_inkOf)] sz) := by
  refine ofK_i (cc := cX12_dot) (maxL := 3) (own := RX12) (by decide) rfl rfl (Nat.le_of_ble_eq_true rfl) ?_
  intro p e s m args below meth c Q A ls hsz hx hb hml hts hown hK hA hAB hP hD hl ret
  have hS : va_S A s.heap s.heap [] := va_S.rf
  have hl : lv_has ls 3 [(0, .ref a12), (1, .int p1), (2, .int p2)] := hl
  have w0 := hts (.fieldLink RX12 227 "OlderSkinModel" "dots" "I") (List.mem_of_getElem? (i := 1) rfl)
  have w1 := (fun w h => List.mem_cons_of_mem _ (List.mem_append_right _ h) : ∀ w ∈ u_ws RX12 TX12 63, w ∈ wsX12_dot)
  have l0 : (0 : Int32).toInt = 0 := by decide
  have l1 : ((-1) : Int32).toInt = -1 := by decide
  have l2 : (10 : Int32).toInt = 10 := by decide
  have l3 : (40 : Int32).toInt = 40 := by decide
  have l4 : (1 : Int32).toInt = 1 := by decide
  have l5 : ((-3) : Int32).toInt = -3 := by decide
  have i10 : 0 ≤ v12_dots.toInt ∧ v12_dots.toInt ≤ 40 := i10
  refine lv_iload_n hx hb dX12_dot_0 rfl (lv_at hl 1 rfl) ?_
  refine lv_if_lt (tgt := 19) hx hb dX12_dot_1 (by decide) (fun c1 => ?_) (fun c1 => ?_)
  · have c1 := ci_lt c1
    refine lv_iconst (v := (-1)) hx hb dX12_dot_19 (by decide) ?_
    have hpo : (0 ≤ v12_dots.toInt ∧ v12_dots.toInt ≤ 40) ∧ (((0 ≤ p1.toInt ∧ p1.toInt / 10 ≤ 4 ∧ p1.toInt % 10 ≤ 7 ∧ 0 ≤ p2.toInt ∧ p2.toInt ≤ 9999) ∧ ((-1) : Int32).toInt = 0) ∨ (¬ (0 ≤ p1.toInt ∧ p1.toInt / 10 ≤ 4 ∧ p1.toInt % 10 ≤ 7 ∧ 0 ≤ p2.toInt ∧ p2.toInt ≤ 9999) ∧ ((-1) : Int32).toInt = -1)) := ⟨i10, (by omega)⟩
    exact ret _ _ _ _ (-1) (v12_dots, f12_may, f12_houseOf, f12_inkOf) dX12_dot_20 hpo hP hD hS
  have c1 := ci_nlt c1
  refine lv_iload_n hx hb dX12_dot_4 rfl (lv_at hl 1 rfl) ?_
  refine lv_bipush (v := 10) hx hb dX12_dot_5 (by decide) ?_
  refine lv_idiv hx hb dX12_dot_7 (by decide) ?_
  refine lv_topi (fun x2 e3 => ?_)
  have h4 := ci_divL (n := 10) (by decide) (by decide) e3
  refine lv_iload_n hx hb dX12_dot_8 rfl (lv_at hl 1 rfl) ?_
  refine lv_bipush (v := 10) hx hb dX12_dot_9 (by decide) ?_
  refine lv_irem hx hb dX12_dot_11 (by decide) ?_
  refine lv_topi (fun x5 e6 => ?_)
  have h7 := ci_remL (n := 10) (by decide) (by decide) e6
  refine lv_iload_n hx hb dX12_dot_12 rfl (lv_at hl 2 rfl) ?_
  refine kcm_i hA hAB hP hD hS [false, false, false, false] rfl (fun _ => rfl) (fun hPc hDc => va_runS (As := [.int x2, .int x5, .int p2]) (rest := []) ⟨hx, hb, hml, hown, hts⟩ (k_X12_isDot l D κ β s.heap.size x2 x5 p2) (va_cwS 3 hts gX12_dot_X12_isDot rfl rfl rfl (by decide +kernel) ⟨Nat.le_of_ble_eq_true rfl, Nat.le_of_ble_eq_true rfl⟩) (pk_S hK hS hAB hPc hDc) rfl rfl hl.1 rfl (lv_room (Nat.le_of_ble_eq_true rfl)) dX12_dot_13 ⟨Nat.le_of_ble_eq_true rfl, Nat.le_of_ble_eq_true rfl⟩) (fun x8 u9 H locs hw hPD hS => ?_)
  have h10 : (x8.toInt = 1 ∧ 0 ≤ x2.toInt ∧ x2.toInt ≤ 4 ∧ 0 ≤ x5.toInt ∧ x5.toInt ≤ 7 ∧ 0 ≤ p2.toInt ∧ p2.toInt ≤ 9999) ∨ (x8.toInt = 0 ∧ (x2.toInt < 0 ∨ 4 < x2.toInt ∨ x5.toInt < 0 ∨ 7 < x5.toInt ∨ p2.toInt < 0 ∨ 9999 < p2.toInt)) := hw
  obtain ⟨hP, hD⟩ : PD D A [O12 a12 r12 v12_keptMany v12_done v12_sheets v12_holes v12_worms v12_laidMany v12_wanted v12_orderMany v12_firstOrder v12_lines v12_marks v12_dots v12_madeIn v12_bound v12_places v12_maps v12_tapeMany v12_stories v12_base v12_at v12_ends v12_fault v12_opened v12_bodies v12_ran v12_ownKind v12_ownNumber, (cI κ (r12 0) 55 f12_may), (cI κ (r12 28) 41 f12_houseOf), (cI κ (r12 29) 41 f12_inkOf)] H := hPD
  refine lv_if_ne (tgt := 21) hx hb dX12_dot_16 (by decide) (fun c11 => ?_) (fun c11 => ?_)
  · have c11 := ci_ne c11
    refine lv_aload_n hx hb dX12_dot_21 rfl (lv_at hl 0 rfl) ?_
    refine va_get (D := D) (ci := 12) (v := .int v12_dots) (C := RX12) (T := TX12) (N := 63) hx hb hts w1 hown hK.1 hP 0 rfl rfl 27 (by decide) w0 (fun _ h9 => h9) rfl dX12_dot_22 ?_
    refine lv_bipush (v := 40) hx hb dX12_dot_25 (by decide) ?_
    refine lv_icmp_ne (tgt := 33) hx hb dX12_dot_27 (by decide) (fun c12 => ?_) (fun c12 => ?_)
    · have c12 := ci_ne c12
      refine lv_aload_n hx hb dX12_dot_33 rfl (lv_at hl 0 rfl) ?_
      refine lv_iload_n hx hb dX12_dot_34 rfl (lv_at hl 1 rfl) ?_
      refine lv_bipush (v := 10) hx hb dX12_dot_35 (by decide) ?_
      refine lv_idiv hx hb dX12_dot_37 (by decide) ?_
      refine lv_re e3 ?_
      refine lv_iload_n hx hb dX12_dot_38 rfl (lv_at hl 1 rfl) ?_
      refine lv_bipush (v := 10) hx hb dX12_dot_39 (by decide) ?_
      refine lv_irem hx hb dX12_dot_41 (by decide) ?_
      refine lv_re e6 ?_
      refine lv_iload_n hx hb dX12_dot_42 rfl (lv_at hl 2 rfl) ?_
      refine kcm_v hA hAB hP hD hS [true, true, true, true] rfl (fun _ => rfl) (fun hPc hDc => va_runV (As := [.int x2, .int x5, .int p2]) (rest := []) ⟨hx, hb, hml, hown, hts⟩ (k_X12_adds l D κ β a12 r12 v12_keptMany v12_done v12_sheets v12_holes v12_worms v12_laidMany v12_wanted v12_orderMany v12_firstOrder v12_lines v12_marks v12_dots v12_madeIn v12_bound v12_places v12_maps v12_tapeMany v12_stories v12_base v12_at v12_ends v12_fault v12_opened v12_bodies v12_ran v12_ownKind v12_ownNumber f12_may f12_houseOf f12_inkOf H.size x2 x5 p2 i1 i2 i3 i4 i5 i6 i7 i8 i9 i10 i11 i12 i13 i14 i15 i16 i17 (by omega) (by omega) (by omega) (by omega) (by omega) (by omega) (by omega) (by omega) (by omega) (by omega) (by omega) (by omega) (by omega) (by omega) (by omega)) (cwV 3 hts gX12_dot_X12_adds rfl rfl rfl (by decide +kernel) ⟨Nat.le_of_ble_eq_true rfl, Nat.le_of_ble_eq_true rfl⟩) (pk_V hK hS hAB hPc hDc 0 (ci := 12) rfl rfl rfl) rfl rfl hl.1 rfl (lv_room (Nat.le_of_ble_eq_true rfl)) dX12_dot_43 ⟨Nat.le_of_ble_eq_true rfl, Nat.le_of_ble_eq_true rfl⟩) (fun u17 H locs hw hPD hS => ?_)
      obtain ⟨x13, g14, g15, g16⟩ := u17
      obtain ⟨h18, h19⟩ : (0 ≤ x13.toInt ∧ x13.toInt ≤ 40) ∧ (x13.toInt = v12_dots.toInt + 1) := hw
      obtain ⟨hP, hD⟩ : PD D A [O12 a12 r12 v12_keptMany v12_done v12_sheets v12_holes v12_worms v12_laidMany v12_wanted v12_orderMany v12_firstOrder v12_lines v12_marks x13 v12_madeIn v12_bound v12_places v12_maps v12_tapeMany v12_stories v12_base v12_at v12_ends v12_fault v12_opened v12_bodies v12_ran v12_ownKind v12_ownNumber, (cI κ (r12 0) 55 g14), (cI κ (r12 28) 41 g15), (cI κ (r12 29) 41 g16)] H := hPD
      refine lv_aload_n hx hb dX12_dot_46 rfl (lv_at hl 0 rfl) ?_
      refine va_get (D := D) (ci := 12) (v := .int x13) (C := RX12) (T := TX12) (N := 63) hx hb hts w1 hown hK.1 hP 0 rfl rfl 27 (by decide) w0 (fun _ h9 => h9) rfl dX12_dot_47 ?_
      refine lv_iconst (v := 1) hx hb dX12_dot_50 (by decide) ?_
      refine lv_isub hx hb dX12_dot_51 ?_
      refine lv_topi (fun x20 e21 => ?_)
      try have h22 : x20.toInt = x13.toInt - (1 : Int32).toInt := ci_sub e21 (by omega) (by omega)
      have hpo : (0 ≤ x13.toInt ∧ x13.toInt ≤ 40) ∧ (((0 ≤ p1.toInt ∧ p1.toInt / 10 ≤ 4 ∧ p1.toInt % 10 ≤ 7 ∧ 0 ≤ p2.toInt ∧ p2.toInt ≤ 9999) ∧ x20.toInt = 0) ∨ (¬ (0 ≤ p1.toInt ∧ p1.toInt / 10 ≤ 4 ∧ p1.toInt % 10 ≤ 7 ∧ 0 ≤ p2.toInt ∧ p2.toInt ≤ 9999) ∧ x20.toInt = -1)) := ⟨h18, (by omega)⟩
      exact ret _ _ _ _ x20 (x13, g14, g15, g16) dX12_dot_52 hpo hP hD hS
    have c12 := ci_eq c12
    refine lv_bipush (v := (-3)) hx hb dX12_dot_30 (by decide) ?_
    have hpo : (0 ≤ v12_dots.toInt ∧ v12_dots.toInt ≤ 40) ∧ (((0 ≤ p1.toInt ∧ p1.toInt / 10 ≤ 4 ∧ p1.toInt % 10 ≤ 7 ∧ 0 ≤ p2.toInt ∧ p2.toInt ≤ 9999) ∧ ((-3) : Int32).toInt = 0) ∨ (¬ (0 ≤ p1.toInt ∧ p1.toInt / 10 ≤ 4 ∧ p1.toInt % 10 ≤ 7 ∧ 0 ≤ p2.toInt ∧ p2.toInt ≤ 9999) ∧ ((-3) : Int32).toInt = -1)) := ⟨i10, (by omega)⟩
    exact ret _ _ _ _ (-3) (v12_dots, f12_may, f12_houseOf, f12_inkOf) dX12_dot_32 hpo hP hD hS
  have c11 := ci_eq c11
  refine lv_iconst (v := (-1)) hx hb dX12_dot_19 (by decide) ?_
  have hpo : (0 ≤ v12_dots.toInt ∧ v12_dots.toInt ≤ 40) ∧ (((0 ≤ p1.toInt ∧ p1.toInt / 10 ≤ 4 ∧ p1.toInt % 10 ≤ 7 ∧ 0 ≤ p2.toInt ∧ p2.toInt ≤ 9999) ∧ ((-1) : Int32).toInt = 0) ∨ (¬ (0 ≤ p1.toInt ∧ p1.toInt / 10 ≤ 4 ∧ p1.toInt % 10 ≤ 7 ∧ 0 ≤ p2.toInt ∧ p2.toInt ≤ 9999) ∧ ((-1) : Int32).toInt = -1)) := ⟨i10, (by omega)⟩
  exact ret _ _ _ _ (-1) (v12_dots, f12_may, f12_houseOf, f12_inkOf) dX12_dot_20 hpo hP hD hS
set_option maxHeartbeats 4000000 in
set_option maxRecDepth 100000 in
theorem k_X12_mend (l : Launch) (D : va_G) (κ : Nat → ClassId) (β : Nat) (a12 : Nat) (r12 : Nat → Nat) (v12_keptMany : Int32) (v12_done : Int32) (v12_sheets : Int32) (v12_holes : Int32) (v12_worms : Int32) (v12_laidMany : Int32) (v12_wanted : Int32) (v12_orderMany : Int32) (v12_firstOrder : Int32) (v12_lines : Int32) (v12_marks : Int32) (v12_dots : Int32) (v12_madeIn : Int32) (v12_bound : Int32) (v12_places : Int32) (v12_maps : Int32) (v12_tapeMany : Int32) (v12_stories : Int32) (v12_base : Int32) (v12_at : Int32) (v12_ends : Int32) (v12_fault : Int32) (v12_opened : Int32) (v12_bodies : Int32) (v12_ran : Int32) (v12_ownKind : Int32) (v12_ownNumber : Int32) (sz : Nat) (p1 : Int32) (p2 : Int32) (i1 : Rg 0 40 v12_keptMany) (i2 : Rg 0 40 v12_done) (i3 : Rg 0 8 v12_sheets) (i4 : Rg 0 40 v12_holes) (i5 : Rg 0 40 v12_worms) (i6 : Rg 0 8 v12_laidMany) (i7 : Rg 0 8 v12_wanted) (i8 : Rg 0 20 v12_lines) (i9 : Rg 0 60 v12_marks) (i10 : Rg 0 40 v12_dots) (i11 : Rg 0 20 v12_places) (i12 : Rg 0 8 v12_maps) (i13 : Rg 0 120 v12_tapeMany) (i14 : Rg 0 6 v12_stories) (i15 : Rg 0 50 v12_bodies) (i16 : Rg 0 1000 v12_ran) (i17 : v12_done.toInt ≤ v12_keptMany.toInt) (i18 : v12_keptMany.toInt = 0) (i19 : v12_done.toInt = 0) (i20 : v12_sheets.toInt = 0) (i21 : v12_holes.toInt = 0) (i22 : v12_worms.toInt = 0) (i23 : v12_lines.toInt = 0) (i24 : v12_marks.toInt = 0) (i25 : v12_dots.toInt = 0) (i26 : v12_madeIn.toInt = 2001) (i27 : v12_places.toInt = 0) (i28 : v12_maps.toInt = 0) (i29 : v12_tapeMany.toInt = 0) (i30 : v12_stories.toInt = 0) (i31 : v12_bodies.toInt = 0) : Met l yX12_mend wsX12_mend ({ frames := 2, cells := 0, slots := 0, locals := 54 } : Room) (PcK D κ β [O12 a12 r12 v12_keptMany v12_done v12_sheets v12_holes v12_worms v12_laidMany v12_wanted v12_orderMany v12_firstOrder v12_lines v12_marks v12_dots v12_madeIn v12_bound v12_places v12_maps v12_tapeMany v12_stories v12_base v12_at v12_ends v12_fault v12_opened v12_bodies v12_ran v12_ownKind v12_ownNumber] sz [.ref a12, .int p1, .int p2]) (QiK D (fun (r : Int32) (u : Unit) => r.toInt = -1) (fun (u : Unit) => [O12 a12 r12 v12_keptMany v12_done v12_sheets v12_holes v12_worms v12_laidMany v12_wanted v12_orderMany v12_firstOrder v12_lines v12_marks v12_dots v12_madeIn v12_bound v12_places v12_maps v12_tapeMany v12_stories v12_base v12_at v12_ends v12_fault v12_opened v12_bodies v12_ran v12_ownKind v12_ownNumber]) [O12 a12 r12 v12_keptMany v12_done v12_sheets v12_holes v12_worms v12_laidMany v12_wanted v12_orderMany v12_firstOrder v12_lines v12_marks v12_dots v12_madeIn v12_bound v12_places v12_maps v12_tapeMany v12_stories v12_base v12_at v12_ends v12_fault v12_opened v12_bodies v12_ran v12_ownKind v12_ownNumber] sz) 0 0 (va_A [O12 a12 r12 v12_keptMany v12_done v12_sheets v12_holes v12_worms v12_laidMany v12_wanted v12_orderMany v12_firstOrder v12_lines v12_marks v12_dots v12_madeIn v12_bound v12_places v12_maps v12_tapeMany v12_stories v12_base v12_at v12_ends v12_fault v12_opened v12_bodies v12_ran v12_ownKind v12_ownNumber] sz) := by
  refine ofK_i (cc := cX12_mend) (maxL := 3) (own := RX12) (by decide) rfl rfl (Nat.le_of_ble_eq_true rfl) ?_
  intro p e s m args below meth c Q A ls hsz hx hb hml hts hown hK hA hAB hP hD hl ret
  have hS : va_S A s.heap s.heap [] := va_S.rf
  have hl : lv_has ls 3 [(0, .ref a12), (1, .int p1), (2, .int p2)] := hl
  have w0 := hts (.fieldLink RX12 227 "OlderSkinModel" "dots" "I") (List.mem_of_getElem? (i := 1) rfl)
  have w1 := (fun w h => List.mem_cons_of_mem _ (List.mem_append_right _ h) : ∀ w ∈ u_ws RX12 TX12 63, w ∈ wsX12_mend)
  have w2 := hts (.constantLong RX12 225 (9999)) (List.mem_of_getElem? (i := 2) rfl)
  have l0 : (0 : Int64).toInt = 0 := by decide
  have l1 : (1 : Int32).toInt = 1 := by decide
  have l2 : (0 : Int32).toInt = 0 := by decide
  have l3 : ((-1) : Int32).toInt = -1 := by decide
  have l4 : (9999 : Int64).toInt = 9999 := by decide
  have i10 : 0 ≤ v12_dots.toInt ∧ v12_dots.toInt ≤ 40 := i10
  refine lv_iload_n hx hb dX12_mend_0 rfl (lv_at hl 1 rfl) ?_
  refine lv_i2l hx hb dX12_mend_1 rfl ?_
  refine lv_topl (fun x1 e2 => ?_)
  have h3 : x1.toInt = p1.toInt := cl_i2l e2
  refine lv_lconst (v := (0 : Int64)) hx hb dX12_mend_2 (by decide) ?_
  refine lv_aload_n hx hb dX12_mend_3 rfl (lv_at hl 0 rfl) ?_
  refine va_get (D := D) (ci := 12) (v := .int v12_dots) (C := RX12) (T := TX12) (N := 63) hx hb hts w1 hown hK.1 hP 0 rfl rfl 27 (by decide) w0 (fun _ h9 => h9) rfl dX12_mend_4 ?_
  refine lv_iconst (v := 1) hx hb dX12_mend_7 (by decide) ?_
  refine lv_isub hx hb dX12_mend_8 ?_
  refine lv_topi (fun x4 e5 => ?_)
  try have h6 : x4.toInt = v12_dots.toInt - (1 : Int32).toInt := ci_sub e5 (by omega) (by omega)
  refine lv_i2l hx hb dX12_mend_9 rfl ?_
  refine lv_topl (fun x7 e8 => ?_)
  have h9 : x7.toInt = x4.toInt := cl_i2l e8
  refine kcm_i hA hAB hP hD hS [false] rfl (fun _ => rfl) (fun hPc hDc => va_runS (As := [.long x1, .long (0 : Int64), .long x7]) (rest := []) ⟨hx, hb, hml, hown, hts⟩ (k_X12_within l D κ β s.heap.size x1 (0 : Int64) x7) (va_cwS 3 hts gX12_mend_X12_within rfl rfl rfl (by decide +kernel) ⟨Nat.le_of_ble_eq_true rfl, Nat.le_of_ble_eq_true rfl⟩) (pk_S hK hS hAB hPc hDc) rfl rfl hl.1 rfl (lv_room (Nat.le_of_ble_eq_true rfl)) dX12_mend_10 ⟨Nat.le_of_ble_eq_true rfl, Nat.le_of_ble_eq_true rfl⟩) (fun x10 u11 H locs hw hPD hS => ?_)
  have h12 : (x10.toInt = 1 ∧ (0 : Int64).toInt ≤ x1.toInt ∧ x1.toInt ≤ x7.toInt) ∨ (x10.toInt = 0 ∧ (x1.toInt < (0 : Int64).toInt ∨ x7.toInt < x1.toInt)) := hw
  obtain ⟨hP, hD⟩ : PD D A [O12 a12 r12 v12_keptMany v12_done v12_sheets v12_holes v12_worms v12_laidMany v12_wanted v12_orderMany v12_firstOrder v12_lines v12_marks v12_dots v12_madeIn v12_bound v12_places v12_maps v12_tapeMany v12_stories v12_base v12_at v12_ends v12_fault v12_opened v12_bodies v12_ran v12_ownKind v12_ownNumber] H := hPD
  refine lv_if_eq (tgt := 37) hx hb dX12_mend_13 (by decide) (fun c13 => ?_) (fun c13 => ?_)
  · have c13 := ci_eq c13
    refine lv_iconst (v := (-1)) hx hb dX12_mend_37 (by decide) ?_
    have hpo : ((-1) : Int32).toInt = -1 := (by omega)
    exact ret _ _ _ _ (-1) () dX12_mend_38 hpo hP hD hS
  have c13 := ci_ne c13
  refine lv_iload_n hx hb dX12_mend_16 rfl (lv_at hl 2 rfl) ?_
  refine lv_i2l hx hb dX12_mend_17 rfl ?_
  refine lv_topl (fun x14 e15 => ?_)
  have h16 : x14.toInt = p2.toInt := cl_i2l e15
  refine lv_lconst (v := (0 : Int64)) hx hb dX12_mend_18 (by decide) ?_
  refine lv_ldc2 (v := (9999 : Int64)) hx hb hown w2 dX12_mend_19 ?_
  refine kcm_i hA hAB hP hD hS [false] rfl (fun _ => rfl) (fun hPc hDc => va_runS (As := [.long x14, .long (0 : Int64), .long (9999 : Int64)]) (rest := []) ⟨hx, hb, hml, hown, hts⟩ (k_X12_within l D κ β H.size x14 (0 : Int64) (9999 : Int64)) (va_cwS 3 hts gX12_mend_X12_within rfl rfl rfl (by decide +kernel) ⟨Nat.le_of_ble_eq_true rfl, Nat.le_of_ble_eq_true rfl⟩) (pk_S hK hS hAB hPc hDc) rfl rfl hl.1 rfl (lv_room (Nat.le_of_ble_eq_true rfl)) dX12_mend_22 ⟨Nat.le_of_ble_eq_true rfl, Nat.le_of_ble_eq_true rfl⟩) (fun x17 u18 H locs hw hPD hS => ?_)
  have h19 : (x17.toInt = 1 ∧ (0 : Int64).toInt ≤ x14.toInt ∧ x14.toInt ≤ (9999 : Int64).toInt) ∨ (x17.toInt = 0 ∧ (x14.toInt < (0 : Int64).toInt ∨ (9999 : Int64).toInt < x14.toInt)) := hw
  obtain ⟨hP, hD⟩ : PD D A [O12 a12 r12 v12_keptMany v12_done v12_sheets v12_holes v12_worms v12_laidMany v12_wanted v12_orderMany v12_firstOrder v12_lines v12_marks v12_dots v12_madeIn v12_bound v12_places v12_maps v12_tapeMany v12_stories v12_base v12_at v12_ends v12_fault v12_opened v12_bodies v12_ran v12_ownKind v12_ownNumber] H := hPD
  refine lv_if_eq (tgt := 37) hx hb dX12_mend_25 (by decide) (fun c20 => ?_) (fun c20 => ?_)
  · have c20 := ci_eq c20
    refine lv_iconst (v := (-1)) hx hb dX12_mend_37 (by decide) ?_
    have hpo : ((-1) : Int32).toInt = -1 := (by omega)
    exact ret _ _ _ _ (-1) () dX12_mend_38 hpo hP hD hS
  have c20 := ci_ne c20
  refine lv_aload_n hx hb dX12_mend_28 rfl (lv_at hl 0 rfl) ?_
  refine lv_iload_n hx hb dX12_mend_29 rfl (lv_at hl 1 rfl) ?_
  refine lv_iload_n hx hb dX12_mend_30 rfl (lv_at hl 2 rfl) ?_
  refine kcm_i hA hAB hP hD hS [true] rfl (fun _ => rfl) (fun hPc hDc => va_runV (As := [.int p1, .int p2]) (rest := []) ⟨hx, hb, hml, hown, hts⟩ (k_X12_becomes l D κ β a12 r12 v12_keptMany v12_done v12_sheets v12_holes v12_worms v12_laidMany v12_wanted v12_orderMany v12_firstOrder v12_lines v12_marks v12_dots v12_madeIn v12_bound v12_places v12_maps v12_tapeMany v12_stories v12_base v12_at v12_ends v12_fault v12_opened v12_bodies v12_ran v12_ownKind v12_ownNumber H.size p1 p2 i1 i2 i3 i4 i5 i6 i7 i8 i9 i10 i11 i12 i13 i14 i15 i16 i17 (by omega)) (cwV 2 hts gX12_mend_X12_becomes rfl rfl rfl (by decide +kernel) ⟨Nat.le_of_ble_eq_true rfl, Nat.le_of_ble_eq_true rfl⟩) (pk_V hK hS hAB hPc hDc 0 (ci := 12) rfl rfl rfl) rfl rfl hl.1 rfl (lv_room (Nat.le_of_ble_eq_true rfl)) dX12_mend_31 ⟨Nat.le_of_ble_eq_true rfl, Nat.le_of_ble_eq_true rfl⟩) (fun x21 u22 H locs hw hPD hS => ?_)
  obtain ⟨hP, hD⟩ : PD D A [O12 a12 r12 v12_keptMany v12_done v12_sheets v12_holes v12_worms v12_laidMany v12_wanted v12_orderMany v12_firstOrder v12_lines v12_marks v12_dots v12_madeIn v12_bound v12_places v12_maps v12_tapeMany v12_stories v12_base v12_at v12_ends v12_fault v12_opened v12_bodies v12_ran v12_ownKind v12_ownNumber] H := hPD
  refine lv_goto (tgt := 38) hx hb dX12_mend_34 (by decide) ?_
  have hpo : x21.toInt = -1 := (by omega)
  exact ret _ _ _ _ x21 () dX12_mend_38 hpo hP hD hS
set_option maxHeartbeats 4000000 in
set_option maxRecDepth 100000 in
theorem k_X12_meanOf (l : Launch) (D : va_G) (κ : Nat → ClassId) (β : Nat) (a12 : Nat) (r12 : Nat → Nat) (v12_keptMany : Int32) (v12_done : Int32) (v12_sheets : Int32) (v12_holes : Int32) (v12_worms : Int32) (v12_laidMany : Int32) (v12_wanted : Int32) (v12_orderMany : Int32) (v12_firstOrder : Int32) (v12_lines : Int32) (v12_marks : Int32) (v12_dots : Int32) (v12_madeIn : Int32) (v12_bound : Int32) (v12_places : Int32) (v12_maps : Int32) (v12_tapeMany : Int32) (v12_stories : Int32) (v12_base : Int32) (v12_at : Int32) (v12_ends : Int32) (v12_fault : Int32) (v12_opened : Int32) (v12_bodies : Int32) (v12_ran : Int32) (v12_ownKind : Int32) (v12_ownNumber : Int32) (sz : Nat) (p1 : Int32) (p2 : Int32) (p3 : Int32) (i1 : Rg 0 40 v12_keptMany) (i2 : Rg 0 40 v12_done) (i3 : Rg 0 8 v12_sheets) (i4 : Rg 0 40 v12_holes) (i5 : Rg 0 40 v12_worms) (i6 : Rg 0 8 v12_laidMany) (i7 : Rg 0 8 v12_wanted) (i8 : Rg 0 20 v12_lines) (i9 : Rg 0 60 v12_marks) (i10 : Rg 0 40 v12_dots) (i11 : Rg 0 20 v12_places) (i12 : Rg 0 8 v12_maps) (i13 : Rg 0 120 v12_tapeMany) (i14 : Rg 0 6 v12_stories) (i15 : Rg 0 50 v12_bodies) (i16 : Rg 0 1000 v12_ran) (i17 : v12_done.toInt ≤ v12_keptMany.toInt) (i18 : v12_keptMany.toInt = 0) (i19 : v12_done.toInt = 0) (i20 : v12_sheets.toInt = 0) (i21 : v12_holes.toInt = 0) (i22 : v12_worms.toInt = 0) (i23 : v12_lines.toInt = 0) (i24 : v12_marks.toInt = 0) (i25 : v12_dots.toInt = 0) (i26 : v12_madeIn.toInt = 2001) (i27 : v12_places.toInt = 0) (i28 : v12_maps.toInt = 0) (i29 : v12_tapeMany.toInt = 0) (i30 : v12_stories.toInt = 0) (i31 : v12_bodies.toInt = 0) : Met l yX12_meanOf wsX12_meanOf ({ frames := 0, cells := 0, slots := 0, locals := 0 } : Room) (PcK D κ β [O12 a12 r12 v12_keptMany v12_done v12_sheets v12_holes v12_worms v12_laidMany v12_wanted v12_orderMany v12_firstOrder v12_lines v12_marks v12_dots v12_madeIn v12_bound v12_places v12_maps v12_tapeMany v12_stories v12_base v12_at v12_ends v12_fault v12_opened v12_bodies v12_ran v12_ownKind v12_ownNumber] sz [.ref a12, .int p1, .int p2, .int p3]) (QiK D (fun (r : Int32) (u : Unit) => r.toInt = -2) (fun (u : Unit) => [O12 a12 r12 v12_keptMany v12_done v12_sheets v12_holes v12_worms v12_laidMany v12_wanted v12_orderMany v12_firstOrder v12_lines v12_marks v12_dots v12_madeIn v12_bound v12_places v12_maps v12_tapeMany v12_stories v12_base v12_at v12_ends v12_fault v12_opened v12_bodies v12_ran v12_ownKind v12_ownNumber]) [O12 a12 r12 v12_keptMany v12_done v12_sheets v12_holes v12_worms v12_laidMany v12_wanted v12_orderMany v12_firstOrder v12_lines v12_marks v12_dots v12_madeIn v12_bound v12_places v12_maps v12_tapeMany v12_stories v12_base v12_at v12_ends v12_fault v12_opened v12_bodies v12_ran v12_ownKind v12_ownNumber] sz) 0 0 (va_A [O12 a12 r12 v12_keptMany v12_done v12_sheets v12_holes v12_worms v12_laidMany v12_wanted v12_orderMany v12_firstOrder v12_lines v12_marks v12_dots v12_madeIn v12_bound v12_places v12_maps v12_tapeMany v12_stories v12_base v12_at v12_ends v12_fault v12_opened v12_bodies v12_ran v12_ownKind v12_ownNumber] sz) := by
  refine ofK_i (cc := cX12_meanOf) (maxL := 8) (own := RX12) (by decide) rfl rfl (Nat.le_of_ble_eq_true rfl) ?_
  intro p e s m args below meth c Q A ls hsz hx hb hml hts hown hK hA hAB hP hD hl ret
  have hS : va_S A s.heap s.heap [] := va_S.rf
  have hl : lv_has ls 8 [(0, .ref a12), (1, .int p1), (2, .int p2), (3, .int p3)] := hl
  have w0 := hts (.fieldLink RX12 227 "OlderSkinModel" "dots" "I") (List.mem_of_getElem? (i := 1) rfl)
  have w1 := (fun w h => List.mem_cons_of_mem _ (List.mem_append_right _ h) : ∀ w ∈ u_ws RX12 TX12 63, w ∈ wsX12_meanOf)
  have l0 : (0 : Int32).toInt = 0 := by decide
  have l1 : ((-2) : Int32).toInt = -2 := by decide
  have i10 : 0 ≤ v12_dots.toInt ∧ v12_dots.toInt ≤ 40 := i10
  refine lv_iconst (v := 0) hx hb dX12_meanOf_0 (by decide) ?_
  refine lv_istore (lv' := [(4, .int 0), (0, .ref a12), (1, .int p1), (2, .int p2), (3, .int p3)]) hx hb dX12_meanOf_1 hl (by decide) rfl (fun ls hl => ?_)
  refine lv_iconst (v := 0) hx hb dX12_meanOf_3 (by decide) ?_
  refine lv_istore (lv' := [(5, .int 0), (4, .int 0), (0, .ref a12), (1, .int p1), (2, .int p2), (3, .int p3)]) hx hb dX12_meanOf_4 hl (by decide) rfl (fun ls hl => ?_)
  refine lv_iconst (v := 0) hx hb dX12_meanOf_6 (by decide) ?_
  refine lv_istore (lv' := [(6, .int 0), (5, .int 0), (4, .int 0), (0, .ref a12), (1, .int p1), (2, .int p2), (3, .int p3)]) hx hb dX12_meanOf_7 hl (by decide) rfl (fun ls hl => ?_)
  have lp9 : ∀ (n9 : Nat), (0 ≤ (0 : Int32).toInt) → (v12_dots.toInt - (0 : Int32).toInt).toNat < n9 → ∀ (H : Heap) (locs : List Loc), va_P D vwCl [O12 a12 r12 v12_keptMany v12_done v12_sheets v12_holes v12_worms v12_laidMany v12_wanted v12_orderMany v12_firstOrder v12_lines v12_marks v12_dots v12_madeIn v12_bound v12_places v12_maps v12_tapeMany v12_stories v12_base v12_at v12_ends v12_fault v12_opened v12_bodies v12_ran v12_ownKind v12_ownNumber] H → va_D A [O12 a12 r12 v12_keptMany v12_done v12_sheets v12_holes v12_worms v12_laidMany v12_wanted v12_orderMany v12_firstOrder v12_lines v12_marks v12_dots v12_madeIn v12_bound v12_places v12_maps v12_tapeMany v12_stories v12_base v12_at v12_ends v12_fault v12_opened v12_bodies v12_ran v12_ownKind v12_ownNumber] → va_S A s.heap H locs → ∀ ls : Array Slot, lv_has ls 8 [(6, .int 0), (5, .int 0), (4, .int 0), (0, .ref a12), (1, .int p1), (2, .int p2), (3, .int p3)] → W p l e ({ frames := 0, cells := 0, slots := 0, locals := 0 } : Room) s m args below meth c H locs 0 0 Q (F0 m 9 ls []) := by
    intro n9
    induction n9 with
    | zero =>
      intro h1 m2
      exact absurd m2 (Nat.not_lt_zero _)
    | succ n9 ih9 =>
      intro h1 m2 H locs hP hD hS ls hl
      refine lv_iload hx hb dX12_meanOf_9 (lv_at hl 0 rfl) ?_
      refine lv_aload_n hx hb dX12_meanOf_11 rfl (lv_at hl 3 rfl) ?_
      refine va_get (D := D) (ci := 12) (v := .int v12_dots) (C := RX12) (T := TX12) (N := 63) hx hb hts w1 hown hK.1 hP 0 rfl rfl 27 (by decide) w0 (fun _ h9 => h9) rfl dX12_meanOf_12 ?_
      refine lv_icmp_ge (tgt := 105) hx hb dX12_meanOf_15 (by decide) (fun c3 => ?_) (fun c3 => ?_)
      · have c3 := ci_le c3
        refine lv_iload hx hb dX12_meanOf_105 (lv_at hl 1 rfl) ?_
        refine lv_if_ne (tgt := 115) hx hb dX12_meanOf_107 (by decide) (fun c4 => ?_) (fun c4 => ?_)
        · have c4 := ci_ne c4
          exfalso
          omega
        have c4 := ci_eq c4
        refine lv_bipush (v := (-2)) hx hb dX12_meanOf_110 (by decide) ?_
        refine lv_goto (tgt := 120) hx hb dX12_meanOf_112 (by decide) ?_
        have hpo : ((-2) : Int32).toInt = -2 := (by omega)
        exact ret _ _ _ _ (-2) () dX12_meanOf_120 hpo hP hD hS
      have c3 := ci_nle c3
      exfalso
      omega
  exact lp9 ((v12_dots.toInt - (0 : Int32).toInt).toNat + 1) (by omega) (by omega) _ _ hP hD hS _ hl
set_option maxHeartbeats 4000000 in
set_option maxRecDepth 100000 in
theorem k_X12_mean (l : Launch) (D : va_G) (κ : Nat → ClassId) (β : Nat) (a12 : Nat) (r12 : Nat → Nat) (v12_keptMany : Int32) (v12_done : Int32) (v12_sheets : Int32) (v12_holes : Int32) (v12_worms : Int32) (v12_laidMany : Int32) (v12_wanted : Int32) (v12_orderMany : Int32) (v12_firstOrder : Int32) (v12_lines : Int32) (v12_marks : Int32) (v12_dots : Int32) (v12_madeIn : Int32) (v12_bound : Int32) (v12_places : Int32) (v12_maps : Int32) (v12_tapeMany : Int32) (v12_stories : Int32) (v12_base : Int32) (v12_at : Int32) (v12_ends : Int32) (v12_fault : Int32) (v12_opened : Int32) (v12_bodies : Int32) (v12_ran : Int32) (v12_ownKind : Int32) (v12_ownNumber : Int32) (sz : Nat) (p1 : Int32) (i1 : Rg 0 40 v12_keptMany) (i2 : Rg 0 40 v12_done) (i3 : Rg 0 8 v12_sheets) (i4 : Rg 0 40 v12_holes) (i5 : Rg 0 40 v12_worms) (i6 : Rg 0 8 v12_laidMany) (i7 : Rg 0 8 v12_wanted) (i8 : Rg 0 20 v12_lines) (i9 : Rg 0 60 v12_marks) (i10 : Rg 0 40 v12_dots) (i11 : Rg 0 20 v12_places) (i12 : Rg 0 8 v12_maps) (i13 : Rg 0 120 v12_tapeMany) (i14 : Rg 0 6 v12_stories) (i15 : Rg 0 50 v12_bodies) (i16 : Rg 0 1000 v12_ran) (i17 : v12_done.toInt ≤ v12_keptMany.toInt) (i18 : v12_keptMany.toInt = 0) (i19 : v12_done.toInt = 0) (i20 : v12_sheets.toInt = 0) (i21 : v12_holes.toInt = 0) (i22 : v12_worms.toInt = 0) (i23 : v12_lines.toInt = 0) (i24 : v12_marks.toInt = 0) (i25 : v12_dots.toInt = 0) (i26 : v12_madeIn.toInt = 2001) (i27 : v12_places.toInt = 0) (i28 : v12_maps.toInt = 0) (i29 : v12_tapeMany.toInt = 0) (i30 : v12_stories.toInt = 0) (i31 : v12_bodies.toInt = 0) : Met l yX12_mean wsX12_mean ({ frames := 1, cells := 0, slots := 0, locals := 27 } : Room) (PcK D κ β [O12 a12 r12 v12_keptMany v12_done v12_sheets v12_holes v12_worms v12_laidMany v12_wanted v12_orderMany v12_firstOrder v12_lines v12_marks v12_dots v12_madeIn v12_bound v12_places v12_maps v12_tapeMany v12_stories v12_base v12_at v12_ends v12_fault v12_opened v12_bodies v12_ran v12_ownKind v12_ownNumber] sz [.ref a12, .int p1]) (QiK D (fun (r : Int32) (u : Unit) => ((0 ≤ p1.toInt ∧ p1.toInt / 10 ≤ 5 ∧ p1.toInt % 10 ≤ 7) ∧ r.toInt = -2) ∨ (¬ (0 ≤ p1.toInt ∧ p1.toInt / 10 ≤ 5 ∧ p1.toInt % 10 ≤ 7) ∧ r.toInt = -1)) (fun (u : Unit) => [O12 a12 r12 v12_keptMany v12_done v12_sheets v12_holes v12_worms v12_laidMany v12_wanted v12_orderMany v12_firstOrder v12_lines v12_marks v12_dots v12_madeIn v12_bound v12_places v12_maps v12_tapeMany v12_stories v12_base v12_at v12_ends v12_fault v12_opened v12_bodies v12_ran v12_ownKind v12_ownNumber]) [O12 a12 r12 v12_keptMany v12_done v12_sheets v12_holes v12_worms v12_laidMany v12_wanted v12_orderMany v12_firstOrder v12_lines v12_marks v12_dots v12_madeIn v12_bound v12_places v12_maps v12_tapeMany v12_stories v12_base v12_at v12_ends v12_fault v12_opened v12_bodies v12_ran v12_ownKind v12_ownNumber] sz) 0 0 (va_A [O12 a12 r12 v12_keptMany v12_done v12_sheets v12_holes v12_worms v12_laidMany v12_wanted v12_orderMany v12_firstOrder v12_lines v12_marks v12_dots v12_madeIn v12_bound v12_places v12_maps v12_tapeMany v12_stories v12_base v12_at v12_ends v12_fault v12_opened v12_bodies v12_ran v12_ownKind v12_ownNumber] sz) := by
  refine ofK_i (cc := cX12_mean) (maxL := 2) (own := RX12) (by decide) rfl rfl (Nat.le_of_ble_eq_true rfl) ?_
  intro p e s m args below meth c Q A ls hsz hx hb hml hts hown hK hA hAB hP hD hl ret
  have hS : va_S A s.heap s.heap [] := va_S.rf
  have hl : lv_has ls 2 [(0, .ref a12), (1, .int p1)] := hl
  have w0 := hts (.constantLong RX12 195 (5)) (List.mem_of_getElem? (i := 1) rfl)
  have l0 : (0 : Int32).toInt = 0 := by decide
  have l1 : ((-1) : Int32).toInt = -1 := by decide
  have l2 : (10 : Int32).toInt = 10 := by decide
  have l3 : (0 : Int64).toInt = 0 := by decide
  have l4 : (5 : Int64).toInt = 5 := by decide
  have l5 : (7 : Int32).toInt = 7 := by decide
  refine lv_iload_n hx hb dX12_mean_0 rfl (lv_at hl 1 rfl) ?_
  refine lv_if_lt (tgt := 47) hx hb dX12_mean_1 (by decide) (fun c1 => ?_) (fun c1 => ?_)
  · have c1 := ci_lt c1
    refine lv_iconst (v := (-1)) hx hb dX12_mean_47 (by decide) ?_
    have hpo : ((0 ≤ p1.toInt ∧ p1.toInt / 10 ≤ 5 ∧ p1.toInt % 10 ≤ 7) ∧ ((-1) : Int32).toInt = -2) ∨ (¬ (0 ≤ p1.toInt ∧ p1.toInt / 10 ≤ 5 ∧ p1.toInt % 10 ≤ 7) ∧ ((-1) : Int32).toInt = -1) := (by omega)
    exact ret _ _ _ _ (-1) () dX12_mean_48 hpo hP hD hS
  have c1 := ci_nlt c1
  refine lv_iload_n hx hb dX12_mean_4 rfl (lv_at hl 1 rfl) ?_
  refine lv_bipush (v := 10) hx hb dX12_mean_5 (by decide) ?_
  refine lv_idiv hx hb dX12_mean_7 (by decide) ?_
  refine lv_topi (fun x2 e3 => ?_)
  have h4 := ci_divL (n := 10) (by decide) (by decide) e3
  refine lv_i2l hx hb dX12_mean_8 rfl ?_
  refine lv_topl (fun x5 e6 => ?_)
  have h7 : x5.toInt = x2.toInt := cl_i2l e6
  refine lv_lconst (v := (0 : Int64)) hx hb dX12_mean_9 (by decide) ?_
  refine lv_ldc2 (v := (5 : Int64)) hx hb hown w0 dX12_mean_10 ?_
  refine kcm_i hA hAB hP hD hS [false] rfl (fun _ => rfl) (fun hPc hDc => va_runS (As := [.long x5, .long (0 : Int64), .long (5 : Int64)]) (rest := []) ⟨hx, hb, hml, hown, hts⟩ (k_X12_within l D κ β s.heap.size x5 (0 : Int64) (5 : Int64)) (va_cwS 3 hts gX12_mean_X12_within rfl rfl rfl (by decide +kernel) ⟨Nat.le_of_ble_eq_true rfl, Nat.le_of_ble_eq_true rfl⟩) (pk_S hK hS hAB hPc hDc) rfl rfl hl.1 rfl (lv_room (Nat.le_of_ble_eq_true rfl)) dX12_mean_13 ⟨Nat.le_of_ble_eq_true rfl, Nat.le_of_ble_eq_true rfl⟩) (fun x8 u9 H locs hw hPD hS => ?_)
  have h10 : (x8.toInt = 1 ∧ (0 : Int64).toInt ≤ x5.toInt ∧ x5.toInt ≤ (5 : Int64).toInt) ∨ (x8.toInt = 0 ∧ (x5.toInt < (0 : Int64).toInt ∨ (5 : Int64).toInt < x5.toInt)) := hw
  obtain ⟨hP, hD⟩ : PD D A [O12 a12 r12 v12_keptMany v12_done v12_sheets v12_holes v12_worms v12_laidMany v12_wanted v12_orderMany v12_firstOrder v12_lines v12_marks v12_dots v12_madeIn v12_bound v12_places v12_maps v12_tapeMany v12_stories v12_base v12_at v12_ends v12_fault v12_opened v12_bodies v12_ran v12_ownKind v12_ownNumber] H := hPD
  refine lv_if_eq (tgt := 47) hx hb dX12_mean_16 (by decide) (fun c11 => ?_) (fun c11 => ?_)
  · have c11 := ci_eq c11
    refine lv_iconst (v := (-1)) hx hb dX12_mean_47 (by decide) ?_
    have hpo : ((0 ≤ p1.toInt ∧ p1.toInt / 10 ≤ 5 ∧ p1.toInt % 10 ≤ 7) ∧ ((-1) : Int32).toInt = -2) ∨ (¬ (0 ≤ p1.toInt ∧ p1.toInt / 10 ≤ 5 ∧ p1.toInt % 10 ≤ 7) ∧ ((-1) : Int32).toInt = -1) := (by omega)
    exact ret _ _ _ _ (-1) () dX12_mean_48 hpo hP hD hS
  have c11 := ci_ne c11
  refine lv_iload_n hx hb dX12_mean_19 rfl (lv_at hl 1 rfl) ?_
  refine lv_bipush (v := 10) hx hb dX12_mean_20 (by decide) ?_
  refine lv_irem hx hb dX12_mean_22 (by decide) ?_
  refine lv_topi (fun x12 e13 => ?_)
  have h14 := ci_remL (n := 10) (by decide) (by decide) e13
  refine lv_bipush (v := 7) hx hb dX12_mean_23 (by decide) ?_
  refine lv_icmp_gt (tgt := 47) hx hb dX12_mean_25 (by decide) (fun c15 => ?_) (fun c15 => ?_)
  · have c15 := ci_lt c15
    refine lv_iconst (v := (-1)) hx hb dX12_mean_47 (by decide) ?_
    have hpo : ((0 ≤ p1.toInt ∧ p1.toInt / 10 ≤ 5 ∧ p1.toInt % 10 ≤ 7) ∧ ((-1) : Int32).toInt = -2) ∨ (¬ (0 ≤ p1.toInt ∧ p1.toInt / 10 ≤ 5 ∧ p1.toInt % 10 ≤ 7) ∧ ((-1) : Int32).toInt = -1) := (by omega)
    exact ret _ _ _ _ (-1) () dX12_mean_48 hpo hP hD hS
  have c15 := ci_nlt c15
  refine lv_aload_n hx hb dX12_mean_28 rfl (lv_at hl 0 rfl) ?_
  refine lv_iload_n hx hb dX12_mean_29 rfl (lv_at hl 1 rfl) ?_
  refine lv_bipush (v := 10) hx hb dX12_mean_30 (by decide) ?_
  refine lv_idiv hx hb dX12_mean_32 (by decide) ?_
  refine lv_re e3 ?_
  refine lv_iload_n hx hb dX12_mean_33 rfl (lv_at hl 1 rfl) ?_
  refine lv_bipush (v := 10) hx hb dX12_mean_34 (by decide) ?_
  refine lv_irem hx hb dX12_mean_36 (by decide) ?_
  refine lv_re e13 ?_
  refine lv_iload_n hx hb dX12_mean_37 rfl (lv_at hl 1 rfl) ?_
  refine lv_bipush (v := 10) hx hb dX12_mean_38 (by decide) ?_
  refine lv_irem hx hb dX12_mean_40 (by decide) ?_
  refine lv_re e13 ?_
  refine kcm_i hA hAB hP hD hS [true] rfl (fun _ => rfl) (fun hPc hDc => va_runV (As := [.int x2, .int x12, .int x12]) (rest := []) ⟨hx, hb, hml, hown, hts⟩ (k_X12_meanOf l D κ β a12 r12 v12_keptMany v12_done v12_sheets v12_holes v12_worms v12_laidMany v12_wanted v12_orderMany v12_firstOrder v12_lines v12_marks v12_dots v12_madeIn v12_bound v12_places v12_maps v12_tapeMany v12_stories v12_base v12_at v12_ends v12_fault v12_opened v12_bodies v12_ran v12_ownKind v12_ownNumber H.size x2 x12 x12 i1 i2 i3 i4 i5 i6 i7 i8 i9 i10 i11 i12 i13 i14 i15 i16 i17 (by omega) (by omega) (by omega) (by omega) (by omega) (by omega) (by omega) (by omega) (by omega) (by omega) (by omega) (by omega) (by omega) (by omega)) (cwV 3 hts gX12_mean_X12_meanOf rfl rfl rfl (by decide +kernel) ⟨Nat.le_of_ble_eq_true rfl, Nat.le_of_ble_eq_true rfl⟩) (pk_V hK hS hAB hPc hDc 0 (ci := 12) rfl rfl rfl) rfl rfl hl.1 rfl (lv_room (Nat.le_of_ble_eq_true rfl)) dX12_mean_41 ⟨Nat.le_of_ble_eq_true rfl, Nat.le_of_ble_eq_true rfl⟩) (fun x16 u17 H locs hw hPD hS => ?_)
  have h18 : x16.toInt = -2 := hw
  obtain ⟨hP, hD⟩ : PD D A [O12 a12 r12 v12_keptMany v12_done v12_sheets v12_holes v12_worms v12_laidMany v12_wanted v12_orderMany v12_firstOrder v12_lines v12_marks v12_dots v12_madeIn v12_bound v12_places v12_maps v12_tapeMany v12_stories v12_base v12_at v12_ends v12_fault v12_opened v12_bodies v12_ran v12_ownKind v12_ownNumber] H := hPD
  refine lv_goto (tgt := 48) hx hb dX12_mean_44 (by decide) ?_
  have hpo : ((0 ≤ p1.toInt ∧ p1.toInt / 10 ≤ 5 ∧ p1.toInt % 10 ≤ 7) ∧ x16.toInt = -2) ∨ (¬ (0 ≤ p1.toInt ∧ p1.toInt / 10 ≤ 5 ∧ p1.toInt % 10 ≤ 7) ∧ x16.toInt = -1) := (by omega)
  exact ret _ _ _ _ x16 () dX12_mean_48 hpo hP hD hS
set_option maxHeartbeats 4000000 in
set_option maxRecDepth 100000 in
theorem k_X12_odd (l : Launch) (D : va_G) (κ : Nat → ClassId) (β : Nat) (a12 : Nat) (r12 : Nat → Nat) (v12_keptMany : Int32) (v12_done : Int32) (v12_sheets : Int32) (v12_holes : Int32) (v12_worms : Int32) (v12_laidMany : Int32) (v12_wanted : Int32) (v12_orderMany : Int32) (v12_firstOrder : Int32) (v12_lines : Int32) (v12_marks : Int32) (v12_dots : Int32) (v12_madeIn : Int32) (v12_bound : Int32) (v12_places : Int32) (v12_maps : Int32) (v12_tapeMany : Int32) (v12_stories : Int32) (v12_base : Int32) (v12_at : Int32) (v12_ends : Int32) (v12_fault : Int32) (v12_opened : Int32) (v12_bodies : Int32) (v12_ran : Int32) (v12_ownKind : Int32) (v12_ownNumber : Int32) (sz : Nat) (p1 : Int32) (i1 : Rg 0 40 v12_keptMany) (i2 : Rg 0 40 v12_done) (i3 : Rg 0 8 v12_sheets) (i4 : Rg 0 40 v12_holes) (i5 : Rg 0 40 v12_worms) (i6 : Rg 0 8 v12_laidMany) (i7 : Rg 0 8 v12_wanted) (i8 : Rg 0 20 v12_lines) (i9 : Rg 0 60 v12_marks) (i10 : Rg 0 40 v12_dots) (i11 : Rg 0 20 v12_places) (i12 : Rg 0 8 v12_maps) (i13 : Rg 0 120 v12_tapeMany) (i14 : Rg 0 6 v12_stories) (i15 : Rg 0 50 v12_bodies) (i16 : Rg 0 1000 v12_ran) (i17 : v12_done.toInt ≤ v12_keptMany.toInt) (i18 : v12_keptMany.toInt = 0) (i19 : v12_done.toInt = 0) (i20 : v12_sheets.toInt = 0) (i21 : v12_holes.toInt = 0) (i22 : v12_worms.toInt = 0) (i23 : v12_lines.toInt = 0) (i24 : v12_marks.toInt = 0) (i25 : v12_dots.toInt = 0) (i26 : v12_madeIn.toInt = 2001) (i27 : v12_places.toInt = 0) (i28 : v12_maps.toInt = 0) (i29 : v12_tapeMany.toInt = 0) (i30 : v12_stories.toInt = 0) (i31 : v12_bodies.toInt = 0) : Met l yX12_odd wsX12_odd ({ frames := 1, cells := 0, slots := 0, locals := 25 } : Room) (PcK D κ β [O12 a12 r12 v12_keptMany v12_done v12_sheets v12_holes v12_worms v12_laidMany v12_wanted v12_orderMany v12_firstOrder v12_lines v12_marks v12_dots v12_madeIn v12_bound v12_places v12_maps v12_tapeMany v12_stories v12_base v12_at v12_ends v12_fault v12_opened v12_bodies v12_ran v12_ownKind v12_ownNumber] sz [.ref a12, .int p1]) (QiK D (fun (r : Int32) (u : Unit) => ((0 ≤ p1.toInt ∧ p1.toInt ≤ 6) ∧ r.toInt = 0) ∨ (¬ (0 ≤ p1.toInt ∧ p1.toInt ≤ 6) ∧ r.toInt = -1)) (fun (u : Unit) => [O12 a12 r12 v12_keptMany v12_done v12_sheets v12_holes v12_worms v12_laidMany v12_wanted v12_orderMany v12_firstOrder v12_lines v12_marks v12_dots v12_madeIn v12_bound v12_places v12_maps v12_tapeMany v12_stories v12_base v12_at v12_ends v12_fault v12_opened v12_bodies v12_ran v12_ownKind v12_ownNumber]) [O12 a12 r12 v12_keptMany v12_done v12_sheets v12_holes v12_worms v12_laidMany v12_wanted v12_orderMany v12_firstOrder v12_lines v12_marks v12_dots v12_madeIn v12_bound v12_places v12_maps v12_tapeMany v12_stories v12_base v12_at v12_ends v12_fault v12_opened v12_bodies v12_ran v12_ownKind v12_ownNumber] sz) 0 0 (va_A [O12 a12 r12 v12_keptMany v12_done v12_sheets v12_holes v12_worms v12_laidMany v12_wanted v12_orderMany v12_firstOrder v12_lines v12_marks v12_dots v12_madeIn v12_bound v12_places v12_maps v12_tapeMany v12_stories v12_base v12_at v12_ends v12_fault v12_opened v12_bodies v12_ran v12_ownKind v12_ownNumber] sz) := by
  refine ofK_i (cc := cX12_odd) (maxL := 5) (own := RX12) (by decide) rfl rfl (Nat.le_of_ble_eq_true rfl) ?_
  intro p e s m args below meth c Q A ls hsz hx hb hml hts hown hK hA hAB hP hD hl ret
  have hS : va_S A s.heap s.heap [] := va_S.rf
  have hl : lv_has ls 5 [(0, .ref a12), (1, .int p1)] := hl
  have w0 := hts (.constantLong RX12 247 (6)) (List.mem_of_getElem? (i := 1) rfl)
  have w1 := hts (.fieldLink RX12 227 "OlderSkinModel" "dots" "I") (List.mem_of_getElem? (i := 2) rfl)
  have w2 := (fun w h => List.mem_cons_of_mem _ (List.mem_append_right _ h) : ∀ w ∈ u_ws RX12 TX12 63, w ∈ wsX12_odd)
  have l0 : (0 : Int64).toInt = 0 := by decide
  have l1 : (6 : Int64).toInt = 6 := by decide
  have l2 : (0 : Int32).toInt = 0 := by decide
  have l3 : ((-1) : Int32).toInt = -1 := by decide
  have i10 : 0 ≤ v12_dots.toInt ∧ v12_dots.toInt ≤ 40 := i10
  refine lv_iload_n hx hb dX12_odd_0 rfl (lv_at hl 1 rfl) ?_
  refine lv_i2l hx hb dX12_odd_1 rfl ?_
  refine lv_topl (fun x1 e2 => ?_)
  have h3 : x1.toInt = p1.toInt := cl_i2l e2
  refine lv_lconst (v := (0 : Int64)) hx hb dX12_odd_2 (by decide) ?_
  refine lv_ldc2 (v := (6 : Int64)) hx hb hown w0 dX12_odd_3 ?_
  refine kcm_i hA hAB hP hD hS [false] rfl (fun _ => rfl) (fun hPc hDc => va_runS (As := [.long x1, .long (0 : Int64), .long (6 : Int64)]) (rest := []) ⟨hx, hb, hml, hown, hts⟩ (k_X12_within l D κ β s.heap.size x1 (0 : Int64) (6 : Int64)) (va_cwS 3 hts gX12_odd_X12_within rfl rfl rfl (by decide +kernel) ⟨Nat.le_of_ble_eq_true rfl, Nat.le_of_ble_eq_true rfl⟩) (pk_S hK hS hAB hPc hDc) rfl rfl hl.1 rfl (lv_room (Nat.le_of_ble_eq_true rfl)) dX12_odd_6 ⟨Nat.le_of_ble_eq_true rfl, Nat.le_of_ble_eq_true rfl⟩) (fun x4 u5 H locs hw hPD hS => ?_)
  have h6 : (x4.toInt = 1 ∧ (0 : Int64).toInt ≤ x1.toInt ∧ x1.toInt ≤ (6 : Int64).toInt) ∨ (x4.toInt = 0 ∧ (x1.toInt < (0 : Int64).toInt ∨ (6 : Int64).toInt < x1.toInt)) := hw
  obtain ⟨hP, hD⟩ : PD D A [O12 a12 r12 v12_keptMany v12_done v12_sheets v12_holes v12_worms v12_laidMany v12_wanted v12_orderMany v12_firstOrder v12_lines v12_marks v12_dots v12_madeIn v12_bound v12_places v12_maps v12_tapeMany v12_stories v12_base v12_at v12_ends v12_fault v12_opened v12_bodies v12_ran v12_ownKind v12_ownNumber] H := hPD
  refine lv_if_ne (tgt := 14) hx hb dX12_odd_9 (by decide) (fun c7 => ?_) (fun c7 => ?_)
  · have c7 := ci_ne c7
    refine lv_iconst (v := (-1)) hx hb dX12_odd_14 (by decide) ?_
    refine lv_istore_n (lv' := [(2, .int (-1)), (0, .ref a12), (1, .int p1)]) hx hb dX12_odd_15 rfl hl (by decide) rfl (fun ls hl => ?_)
    refine lv_iconst (v := 0) hx hb dX12_odd_16 (by decide) ?_
    refine lv_istore_n (lv' := [(3, .int 0), (2, .int (-1)), (0, .ref a12), (1, .int p1)]) hx hb dX12_odd_17 rfl hl (by decide) rfl (fun ls hl => ?_)
    have lp18 : ∀ (n18 : Nat), (0 ≤ (0 : Int32).toInt) → (v12_dots.toInt - (0 : Int32).toInt).toNat < n18 → ∀ (H : Heap) (locs : List Loc), va_P D vwCl [O12 a12 r12 v12_keptMany v12_done v12_sheets v12_holes v12_worms v12_laidMany v12_wanted v12_orderMany v12_firstOrder v12_lines v12_marks v12_dots v12_madeIn v12_bound v12_places v12_maps v12_tapeMany v12_stories v12_base v12_at v12_ends v12_fault v12_opened v12_bodies v12_ran v12_ownKind v12_ownNumber] H → va_D A [O12 a12 r12 v12_keptMany v12_done v12_sheets v12_holes v12_worms v12_laidMany v12_wanted v12_orderMany v12_firstOrder v12_lines v12_marks v12_dots v12_madeIn v12_bound v12_places v12_maps v12_tapeMany v12_stories v12_base v12_at v12_ends v12_fault v12_opened v12_bodies v12_ran v12_ownKind v12_ownNumber] → va_S A s.heap H locs → ∀ ls : Array Slot, lv_has ls 5 [(3, .int 0), (2, .int (-1)), (0, .ref a12), (1, .int p1)] → W p l e ({ frames := 1, cells := 0, slots := 0, locals := 25 } : Room) s m args below meth c H locs 0 0 Q (F0 m 18 ls []) := by
      intro n18
      induction n18 with
      | zero =>
        intro h8 m9
        exact absurd m9 (Nat.not_lt_zero _)
      | succ n18 ih18 =>
        intro h8 m9 H locs hP hD hS ls hl
        refine lv_iload_n hx hb dX12_odd_18 rfl (lv_at hl 0 rfl) ?_
        refine lv_aload_n hx hb dX12_odd_19 rfl (lv_at hl 2 rfl) ?_
        refine va_get (D := D) (ci := 12) (v := .int v12_dots) (C := RX12) (T := TX12) (N := 63) hx hb hts w2 hown hK.1 hP 0 rfl rfl 27 (by decide) w1 (fun _ h9 => h9) rfl dX12_odd_20 ?_
        refine lv_icmp_ge (tgt := 64) hx hb dX12_odd_23 (by decide) (fun c10 => ?_) (fun c10 => ?_)
        · have c10 := ci_le c10
          refine lv_iconst (v := 0) hx hb dX12_odd_64 (by decide) ?_
          refine lv_istore_n (lv' := [(3, .int 0), (2, .int (-1)), (0, .ref a12), (1, .int p1)]) hx hb dX12_odd_65 rfl hl (by decide) rfl (fun ls hl => ?_)
          refine lv_iconst (v := 0) hx hb dX12_odd_66 (by decide) ?_
          refine lv_istore (lv' := [(4, .int 0), (3, .int 0), (2, .int (-1)), (0, .ref a12), (1, .int p1)]) hx hb dX12_odd_67 hl (by decide) rfl (fun ls hl => ?_)
          have lp69 : ∀ (n69 : Nat), (0 ≤ (0 : Int32).toInt) → (v12_dots.toInt - (0 : Int32).toInt).toNat < n69 → ∀ (H : Heap) (locs : List Loc), va_P D vwCl [O12 a12 r12 v12_keptMany v12_done v12_sheets v12_holes v12_worms v12_laidMany v12_wanted v12_orderMany v12_firstOrder v12_lines v12_marks v12_dots v12_madeIn v12_bound v12_places v12_maps v12_tapeMany v12_stories v12_base v12_at v12_ends v12_fault v12_opened v12_bodies v12_ran v12_ownKind v12_ownNumber] H → va_D A [O12 a12 r12 v12_keptMany v12_done v12_sheets v12_holes v12_worms v12_laidMany v12_wanted v12_orderMany v12_firstOrder v12_lines v12_marks v12_dots v12_madeIn v12_bound v12_places v12_maps v12_tapeMany v12_stories v12_base v12_at v12_ends v12_fault v12_opened v12_bodies v12_ran v12_ownKind v12_ownNumber] → va_S A s.heap H locs → ∀ ls : Array Slot, lv_has ls 5 [(4, .int 0), (3, .int 0), (2, .int (-1)), (0, .ref a12), (1, .int p1)] → W p l e ({ frames := 1, cells := 0, slots := 0, locals := 25 } : Room) s m args below meth c H locs 0 0 Q (F0 m 69 ls []) := by
            intro n69
            induction n69 with
            | zero =>
              intro h11 m12
              exact absurd m12 (Nat.not_lt_zero _)
            | succ n69 ih69 =>
              intro h11 m12 H locs hP hD hS ls hl
              refine lv_iload hx hb dX12_odd_69 (lv_at hl 0 rfl) ?_
              refine lv_aload_n hx hb dX12_odd_71 rfl (lv_at hl 3 rfl) ?_
              refine va_get (D := D) (ci := 12) (v := .int v12_dots) (C := RX12) (T := TX12) (N := 63) hx hb hts w2 hown hK.1 hP 0 rfl rfl 27 (by decide) w1 (fun _ h9 => h9) rfl dX12_odd_72 ?_
              refine lv_icmp_ge (tgt := 114) hx hb dX12_odd_75 (by decide) (fun c13 => ?_) (fun c13 => ?_)
              · have c13 := ci_le c13
                refine lv_iload_n hx hb dX12_odd_114 rfl (lv_at hl 1 rfl) ?_
                have hpo : ((0 ≤ p1.toInt ∧ p1.toInt ≤ 6) ∧ (0 : Int32).toInt = 0) ∨ (¬ (0 ≤ p1.toInt ∧ p1.toInt ≤ 6) ∧ (0 : Int32).toInt = -1) := (by omega)
                exact ret _ _ _ _ 0 () dX12_odd_115 hpo hP hD hS
              have c13 := ci_nle c13
              exfalso
              omega
          exact lp69 ((v12_dots.toInt - (0 : Int32).toInt).toNat + 1) (by omega) (by omega) _ _ hP hD hS _ hl
        have c10 := ci_nle c10
        exfalso
        omega
    exact lp18 ((v12_dots.toInt - (0 : Int32).toInt).toNat + 1) (by omega) (by omega) _ _ hP hD hS _ hl
  have c7 := ci_eq c7
  refine lv_iconst (v := (-1)) hx hb dX12_odd_12 (by decide) ?_
  have hpo : ((0 ≤ p1.toInt ∧ p1.toInt ≤ 6) ∧ ((-1) : Int32).toInt = 0) ∨ (¬ (0 ≤ p1.toInt ∧ p1.toInt ≤ 6) ∧ ((-1) : Int32).toInt = -1) := (by omega)
  exact ret _ _ _ _ (-1) () dX12_odd_13 hpo hP hD hS
set_option maxHeartbeats 4000000 in
set_option maxRecDepth 100000 in
theorem k_X12_sumOwn (l : Launch) (D : va_G) (κ : Nat → ClassId) (β : Nat) (a12 : Nat) (r12 : Nat → Nat) (v12_keptMany : Int32) (v12_done : Int32) (v12_sheets : Int32) (v12_holes : Int32) (v12_worms : Int32) (v12_laidMany : Int32) (v12_wanted : Int32) (v12_orderMany : Int32) (v12_firstOrder : Int32) (v12_lines : Int32) (v12_marks : Int32) (v12_dots : Int32) (v12_madeIn : Int32) (v12_bound : Int32) (v12_places : Int32) (v12_maps : Int32) (v12_tapeMany : Int32) (v12_stories : Int32) (v12_base : Int32) (v12_at : Int32) (v12_ends : Int32) (v12_fault : Int32) (v12_opened : Int32) (v12_bodies : Int32) (v12_ran : Int32) (v12_ownKind : Int32) (v12_ownNumber : Int32) (sz : Nat) (p1 : Int32) (i1 : Rg 0 40 v12_keptMany) (i2 : Rg 0 40 v12_done) (i3 : Rg 0 8 v12_sheets) (i4 : Rg 0 40 v12_holes) (i5 : Rg 0 40 v12_worms) (i6 : Rg 0 8 v12_laidMany) (i7 : Rg 0 8 v12_wanted) (i8 : Rg 0 20 v12_lines) (i9 : Rg 0 60 v12_marks) (i10 : Rg 0 40 v12_dots) (i11 : Rg 0 20 v12_places) (i12 : Rg 0 8 v12_maps) (i13 : Rg 0 120 v12_tapeMany) (i14 : Rg 0 6 v12_stories) (i15 : Rg 0 50 v12_bodies) (i16 : Rg 0 1000 v12_ran) (i17 : v12_done.toInt ≤ v12_keptMany.toInt) (i18 : (1 : Int) ≤ 0) : Met l yX12_sumOwn wsX12_sumOwn ({ frames := 1, cells := 0, slots := 0, locals := 30 } : Room) (PcK D κ β [O12 a12 r12 v12_keptMany v12_done v12_sheets v12_holes v12_worms v12_laidMany v12_wanted v12_orderMany v12_firstOrder v12_lines v12_marks v12_dots v12_madeIn v12_bound v12_places v12_maps v12_tapeMany v12_stories v12_base v12_at v12_ends v12_fault v12_opened v12_bodies v12_ran v12_ownKind v12_ownNumber] sz [.ref a12, .int p1]) (QiK D (fun (r : Int32) (u : Unit) => True) (fun (u : Unit) => [O12 a12 r12 v12_keptMany v12_done v12_sheets v12_holes v12_worms v12_laidMany v12_wanted v12_orderMany v12_firstOrder v12_lines v12_marks v12_dots v12_madeIn v12_bound v12_places v12_maps v12_tapeMany v12_stories v12_base v12_at v12_ends v12_fault v12_opened v12_bodies v12_ran v12_ownKind v12_ownNumber]) [O12 a12 r12 v12_keptMany v12_done v12_sheets v12_holes v12_worms v12_laidMany v12_wanted v12_orderMany v12_firstOrder v12_lines v12_marks v12_dots v12_madeIn v12_bound v12_places v12_maps v12_tapeMany v12_stories v12_base v12_at v12_ends v12_fault v12_opened v12_bodies v12_ran v12_ownKind v12_ownNumber] sz) 0 0 (va_A [O12 a12 r12 v12_keptMany v12_done v12_sheets v12_holes v12_worms v12_laidMany v12_wanted v12_orderMany v12_firstOrder v12_lines v12_marks v12_dots v12_madeIn v12_bound v12_places v12_maps v12_tapeMany v12_stories v12_base v12_at v12_ends v12_fault v12_opened v12_bodies v12_ran v12_ownKind v12_ownNumber] sz) := by
  refine ofK_i (cc := cX12_sumOwn) (maxL := 4) (own := RX12) (by decide) rfl rfl (Nat.le_of_ble_eq_true rfl) ?_
  intro p e s m args below meth c Q A ls hsz hx hb hml hts hown hK hA hAB hP hD hl ret
  have hS : va_S A s.heap s.heap [] := va_S.rf
  have hl : lv_has ls 4 [(0, .ref a12), (1, .int p1)] := hl
  exfalso
  omega
set_option maxHeartbeats 4000000 in
set_option maxRecDepth 100000 in
theorem k_X12_chance (l : Launch) (D : va_G) (κ : Nat → ClassId) (β : Nat) (a12 : Nat) (r12 : Nat → Nat) (v12_keptMany : Int32) (v12_done : Int32) (v12_sheets : Int32) (v12_holes : Int32) (v12_worms : Int32) (v12_laidMany : Int32) (v12_wanted : Int32) (v12_orderMany : Int32) (v12_firstOrder : Int32) (v12_lines : Int32) (v12_marks : Int32) (v12_dots : Int32) (v12_madeIn : Int32) (v12_bound : Int32) (v12_places : Int32) (v12_maps : Int32) (v12_tapeMany : Int32) (v12_stories : Int32) (v12_base : Int32) (v12_at : Int32) (v12_ends : Int32) (v12_fault : Int32) (v12_opened : Int32) (v12_bodies : Int32) (v12_ran : Int32) (v12_ownKind : Int32) (v12_ownNumber : Int32) (sz : Nat) (p1 : Int32) (p2 : Int32) (p3 : Int32) (i1 : Rg 0 40 v12_keptMany) (i2 : Rg 0 40 v12_done) (i3 : Rg 0 8 v12_sheets) (i4 : Rg 0 40 v12_holes) (i5 : Rg 0 40 v12_worms) (i6 : Rg 0 8 v12_laidMany) (i7 : Rg 0 8 v12_wanted) (i8 : Rg 0 20 v12_lines) (i9 : Rg 0 60 v12_marks) (i10 : Rg 0 40 v12_dots) (i11 : Rg 0 20 v12_places) (i12 : Rg 0 8 v12_maps) (i13 : Rg 0 120 v12_tapeMany) (i14 : Rg 0 6 v12_stories) (i15 : Rg 0 50 v12_bodies) (i16 : Rg 0 1000 v12_ran) (i17 : v12_done.toInt ≤ v12_keptMany.toInt) (i18 : v12_keptMany.toInt = 0) (i19 : v12_done.toInt = 0) (i20 : v12_sheets.toInt = 0) (i21 : v12_holes.toInt = 0) (i22 : v12_worms.toInt = 0) (i23 : v12_lines.toInt = 0) (i24 : v12_marks.toInt = 0) (i25 : v12_dots.toInt = 0) (i26 : v12_madeIn.toInt = 2001) (i27 : v12_places.toInt = 0) (i28 : v12_maps.toInt = 0) (i29 : v12_tapeMany.toInt = 0) (i30 : v12_stories.toInt = 0) (i31 : v12_bodies.toInt = 0) : Met l yX12_chance wsX12_chance ({ frames := 1, cells := 0, slots := 0, locals := 27 } : Room) (PcK D κ β [O12 a12 r12 v12_keptMany v12_done v12_sheets v12_holes v12_worms v12_laidMany v12_wanted v12_orderMany v12_firstOrder v12_lines v12_marks v12_dots v12_madeIn v12_bound v12_places v12_maps v12_tapeMany v12_stories v12_base v12_at v12_ends v12_fault v12_opened v12_bodies v12_ran v12_ownKind v12_ownNumber] sz [.ref a12, .int p1, .int p2, .int p3]) (QiK D (fun (r : Int32) (u : Unit) => ((0 ≤ p1.toInt ∧ p1.toInt ≤ 6 ∧ 1 ≤ p3.toInt ∧ p3.toInt ≤ 50) ∧ r.toInt = -2) ∨ (¬ (0 ≤ p1.toInt ∧ p1.toInt ≤ 6 ∧ 1 ≤ p3.toInt ∧ p3.toInt ≤ 50) ∧ r.toInt = -1)) (fun (u : Unit) => [O12 a12 r12 v12_keptMany v12_done v12_sheets v12_holes v12_worms v12_laidMany v12_wanted v12_orderMany v12_firstOrder v12_lines v12_marks v12_dots v12_madeIn v12_bound v12_places v12_maps v12_tapeMany v12_stories v12_base v12_at v12_ends v12_fault v12_opened v12_bodies v12_ran v12_ownKind v12_ownNumber]) [O12 a12 r12 v12_keptMany v12_done v12_sheets v12_holes v12_worms v12_laidMany v12_wanted v12_orderMany v12_firstOrder v12_lines v12_marks v12_dots v12_madeIn v12_bound v12_places v12_maps v12_tapeMany v12_stories v12_base v12_at v12_ends v12_fault v12_opened v12_bodies v12_ran v12_ownKind v12_ownNumber] sz) 0 0 (va_A [O12 a12 r12 v12_keptMany v12_done v12_sheets v12_holes v12_worms v12_laidMany v12_wanted v12_orderMany v12_firstOrder v12_lines v12_marks v12_dots v12_madeIn v12_bound v12_places v12_maps v12_tapeMany v12_stories v12_base v12_at v12_ends v12_fault v12_opened v12_bodies v12_ran v12_ownKind v12_ownNumber] sz) := by
  refine ofK_i (cc := cX12_chance) (maxL := 12) (own := RX12) (by decide) rfl rfl (Nat.le_of_ble_eq_true rfl) ?_
  intro p e s m args below meth c Q A ls hsz hx hb hml hts hown hK hA hAB hP hD hl ret
  have hS : va_S A s.heap s.heap [] := va_S.rf
  have hl : lv_has ls 12 [(0, .ref a12), (1, .int p1), (2, .int p2), (3, .int p3)] := hl
  have w0 := hts (.constantLong RX12 247 (6)) (List.mem_of_getElem? (i := 1) rfl)
  have w1 := hts (.constantLong RX12 249 (50)) (List.mem_of_getElem? (i := 2) rfl)
  have l0 : (0 : Int64).toInt = 0 := by decide
  have l1 : (6 : Int64).toInt = 6 := by decide
  have l2 : (0 : Int32).toInt = 0 := by decide
  have l3 : ((-1) : Int32).toInt = -1 := by decide
  have l4 : (1 : Int64).toInt = 1 := by decide
  have l5 : (50 : Int64).toInt = 50 := by decide
  have l6 : (5 : Int32).toInt = 5 := by decide
  have l7 : ((-2) : Int32).toInt = -2 := by decide
  have i10 : 0 ≤ v12_dots.toInt ∧ v12_dots.toInt ≤ 40 := i10
  have rg3 := ci_rng p3
  refine lv_iload_n hx hb dX12_chance_0 rfl (lv_at hl 1 rfl) ?_
  refine lv_i2l hx hb dX12_chance_1 rfl ?_
  refine lv_topl (fun x1 e2 => ?_)
  have h3 : x1.toInt = p1.toInt := cl_i2l e2
  refine lv_lconst (v := (0 : Int64)) hx hb dX12_chance_2 (by decide) ?_
  refine lv_ldc2 (v := (6 : Int64)) hx hb hown w0 dX12_chance_3 ?_
  refine kcm_i hA hAB hP hD hS [false] rfl (fun _ => rfl) (fun hPc hDc => va_runS (As := [.long x1, .long (0 : Int64), .long (6 : Int64)]) (rest := []) ⟨hx, hb, hml, hown, hts⟩ (k_X12_within l D κ β s.heap.size x1 (0 : Int64) (6 : Int64)) (va_cwS 3 hts gX12_chance_X12_within rfl rfl rfl (by decide +kernel) ⟨Nat.le_of_ble_eq_true rfl, Nat.le_of_ble_eq_true rfl⟩) (pk_S hK hS hAB hPc hDc) rfl rfl hl.1 rfl (lv_room (Nat.le_of_ble_eq_true rfl)) dX12_chance_6 ⟨Nat.le_of_ble_eq_true rfl, Nat.le_of_ble_eq_true rfl⟩) (fun x4 u5 H locs hw hPD hS => ?_)
  have h6 : (x4.toInt = 1 ∧ (0 : Int64).toInt ≤ x1.toInt ∧ x1.toInt ≤ (6 : Int64).toInt) ∨ (x4.toInt = 0 ∧ (x1.toInt < (0 : Int64).toInt ∨ (6 : Int64).toInt < x1.toInt)) := hw
  obtain ⟨hP, hD⟩ : PD D A [O12 a12 r12 v12_keptMany v12_done v12_sheets v12_holes v12_worms v12_laidMany v12_wanted v12_orderMany v12_firstOrder v12_lines v12_marks v12_dots v12_madeIn v12_bound v12_places v12_maps v12_tapeMany v12_stories v12_base v12_at v12_ends v12_fault v12_opened v12_bodies v12_ran v12_ownKind v12_ownNumber] H := hPD
  refine lv_if_eq (tgt := 24) hx hb dX12_chance_9 (by decide) (fun c7 => ?_) (fun c7 => ?_)
  · have c7 := ci_eq c7
    refine lv_iconst (v := (-1)) hx hb dX12_chance_24 (by decide) ?_
    have hpo : ((0 ≤ p1.toInt ∧ p1.toInt ≤ 6 ∧ 1 ≤ p3.toInt ∧ p3.toInt ≤ 50) ∧ ((-1) : Int32).toInt = -2) ∨ (¬ (0 ≤ p1.toInt ∧ p1.toInt ≤ 6 ∧ 1 ≤ p3.toInt ∧ p3.toInt ≤ 50) ∧ ((-1) : Int32).toInt = -1) := (by omega)
    exact ret _ _ _ _ (-1) () dX12_chance_25 hpo hP hD hS
  have c7 := ci_ne c7
  refine lv_iload_n hx hb dX12_chance_12 rfl (lv_at hl 3 rfl) ?_
  refine lv_i2l hx hb dX12_chance_13 rfl ?_
  refine lv_topl (fun x8 e9 => ?_)
  have h10 : x8.toInt = p3.toInt := cl_i2l e9
  refine lv_lconst (v := (1 : Int64)) hx hb dX12_chance_14 (by decide) ?_
  refine lv_ldc2 (v := (50 : Int64)) hx hb hown w1 dX12_chance_15 ?_
  refine kcm_i hA hAB hP hD hS [false] rfl (fun _ => rfl) (fun hPc hDc => va_runS (As := [.long x8, .long (1 : Int64), .long (50 : Int64)]) (rest := []) ⟨hx, hb, hml, hown, hts⟩ (k_X12_within l D κ β H.size x8 (1 : Int64) (50 : Int64)) (va_cwS 3 hts gX12_chance_X12_within rfl rfl rfl (by decide +kernel) ⟨Nat.le_of_ble_eq_true rfl, Nat.le_of_ble_eq_true rfl⟩) (pk_S hK hS hAB hPc hDc) rfl rfl hl.1 rfl (lv_room (Nat.le_of_ble_eq_true rfl)) dX12_chance_18 ⟨Nat.le_of_ble_eq_true rfl, Nat.le_of_ble_eq_true rfl⟩) (fun x11 u12 H locs hw hPD hS => ?_)
  have h13 : (x11.toInt = 1 ∧ (1 : Int64).toInt ≤ x8.toInt ∧ x8.toInt ≤ (50 : Int64).toInt) ∨ (x11.toInt = 0 ∧ (x8.toInt < (1 : Int64).toInt ∨ (50 : Int64).toInt < x8.toInt)) := hw
  obtain ⟨hP, hD⟩ : PD D A [O12 a12 r12 v12_keptMany v12_done v12_sheets v12_holes v12_worms v12_laidMany v12_wanted v12_orderMany v12_firstOrder v12_lines v12_marks v12_dots v12_madeIn v12_bound v12_places v12_maps v12_tapeMany v12_stories v12_base v12_at v12_ends v12_fault v12_opened v12_bodies v12_ran v12_ownKind v12_ownNumber] H := hPD
  refine lv_if_ne (tgt := 26) hx hb dX12_chance_21 (by decide) (fun c14 => ?_) (fun c14 => ?_)
  · have c14 := ci_ne c14
    refine lv_aload_n hx hb dX12_chance_26 rfl (lv_at hl 0 rfl) ?_
    refine lv_iconst (v := 5) hx hb dX12_chance_27 (by decide) ?_
    refine lv_iload_n hx hb dX12_chance_28 rfl (lv_at hl 1 rfl) ?_
    refine lv_iload_n hx hb dX12_chance_29 rfl (lv_at hl 1 rfl) ?_
    refine kcm_i hA hAB hP hD hS [true] rfl (fun _ => rfl) (fun hPc hDc => va_runV (As := [.int 5, .int p1, .int p1]) (rest := []) ⟨hx, hb, hml, hown, hts⟩ (k_X12_meanOf l D κ β a12 r12 v12_keptMany v12_done v12_sheets v12_holes v12_worms v12_laidMany v12_wanted v12_orderMany v12_firstOrder v12_lines v12_marks v12_dots v12_madeIn v12_bound v12_places v12_maps v12_tapeMany v12_stories v12_base v12_at v12_ends v12_fault v12_opened v12_bodies v12_ran v12_ownKind v12_ownNumber H.size 5 p1 p1 i1 i2 i3 i4 i5 i6 i7 i8 i9 i10 i11 i12 i13 i14 i15 i16 i17 (by omega) (by omega) (by omega) (by omega) (by omega) (by omega) (by omega) (by omega) (by omega) (by omega) (by omega) (by omega) (by omega) (by omega)) (cwV 3 hts gX12_chance_X12_meanOf rfl rfl rfl (by decide +kernel) ⟨Nat.le_of_ble_eq_true rfl, Nat.le_of_ble_eq_true rfl⟩) (pk_V hK hS hAB hPc hDc 0 (ci := 12) rfl rfl rfl) rfl rfl hl.1 rfl (lv_room (Nat.le_of_ble_eq_true rfl)) dX12_chance_30 ⟨Nat.le_of_ble_eq_true rfl, Nat.le_of_ble_eq_true rfl⟩) (fun x15 u16 H locs hw hPD hS => ?_)
    have h17 : x15.toInt = -2 := hw
    obtain ⟨hP, hD⟩ : PD D A [O12 a12 r12 v12_keptMany v12_done v12_sheets v12_holes v12_worms v12_laidMany v12_wanted v12_orderMany v12_firstOrder v12_lines v12_marks v12_dots v12_madeIn v12_bound v12_places v12_maps v12_tapeMany v12_stories v12_base v12_at v12_ends v12_fault v12_opened v12_bodies v12_ran v12_ownKind v12_ownNumber] H := hPD
    refine lv_bipush (v := (-2)) hx hb dX12_chance_33 (by decide) ?_
    refine lv_icmp_eq (tgt := 52) hx hb dX12_chance_35 (by decide) (fun c18 => ?_) (fun c18 => ?_)
    · have c18 := ci_eq c18
      refine lv_bipush (v := (-2)) hx hb dX12_chance_52 (by decide) ?_
      have hpo : ((0 ≤ p1.toInt ∧ p1.toInt ≤ 6 ∧ 1 ≤ p3.toInt ∧ p3.toInt ≤ 50) ∧ ((-2) : Int32).toInt = -2) ∨ (¬ (0 ≤ p1.toInt ∧ p1.toInt ≤ 6 ∧ 1 ≤ p3.toInt ∧ p3.toInt ≤ 50) ∧ ((-2) : Int32).toInt = -1) := (by omega)
      exact ret _ _ _ _ (-2) () dX12_chance_54 hpo hP hD hS
    have c18 := ci_ne c18
    exfalso
    omega
  have c14 := ci_eq c14
  refine lv_iconst (v := (-1)) hx hb dX12_chance_24 (by decide) ?_
  have hpo : ((0 ≤ p1.toInt ∧ p1.toInt ≤ 6 ∧ 1 ≤ p3.toInt ∧ p3.toInt ≤ 50) ∧ ((-1) : Int32).toInt = -2) ∨ (¬ (0 ≤ p1.toInt ∧ p1.toInt ≤ 6 ∧ 1 ≤ p3.toInt ∧ p3.toInt ≤ 50) ∧ ((-1) : Int32).toInt = -1) := (by omega)
  exact ret _ _ _ _ (-1) () dX12_chance_25 hpo hP hD hS
set_option maxHeartbeats 4000000 in
set_option maxRecDepth 100000 in
theorem k_X12_chosen (l : Launch) (D : va_G) (κ : Nat → ClassId) (β : Nat) (a12 : Nat) (r12 : Nat → Nat) (v12_keptMany : Int32) (v12_done : Int32) (v12_sheets : Int32) (v12_holes : Int32) (v12_worms : Int32) (v12_laidMany : Int32) (v12_wanted : Int32) (v12_orderMany : Int32) (v12_firstOrder : Int32) (v12_lines : Int32) (v12_marks : Int32) (v12_dots : Int32) (v12_madeIn : Int32) (v12_bound : Int32) (v12_places : Int32) (v12_maps : Int32) (v12_tapeMany : Int32) (v12_stories : Int32) (v12_base : Int32) (v12_at : Int32) (v12_ends : Int32) (v12_fault : Int32) (v12_opened : Int32) (v12_bodies : Int32) (v12_ran : Int32) (v12_ownKind : Int32) (v12_ownNumber : Int32) (sz : Nat) (p1 : Int32) (i1 : Rg 0 40 v12_keptMany) (i2 : Rg 0 40 v12_done) (i3 : Rg 0 8 v12_sheets) (i4 : Rg 0 40 v12_holes) (i5 : Rg 0 40 v12_worms) (i6 : Rg 0 8 v12_laidMany) (i7 : Rg 0 8 v12_wanted) (i8 : Rg 0 20 v12_lines) (i9 : Rg 0 60 v12_marks) (i10 : Rg 0 40 v12_dots) (i11 : Rg 0 20 v12_places) (i12 : Rg 0 8 v12_maps) (i13 : Rg 0 120 v12_tapeMany) (i14 : Rg 0 6 v12_stories) (i15 : Rg 0 50 v12_bodies) (i16 : Rg 0 1000 v12_ran) (i17 : v12_done.toInt ≤ v12_keptMany.toInt) (i18 : v12_keptMany.toInt = 0) (i19 : v12_done.toInt = 0) (i20 : v12_sheets.toInt = 0) (i21 : v12_holes.toInt = 0) (i22 : v12_worms.toInt = 0) (i23 : v12_lines.toInt = 0) (i24 : v12_marks.toInt = 0) (i25 : v12_dots.toInt = 0) (i26 : v12_madeIn.toInt = 2001) (i27 : v12_places.toInt = 0) (i28 : v12_maps.toInt = 0) (i29 : v12_tapeMany.toInt = 0) (i30 : v12_stories.toInt = 0) (i31 : v12_bodies.toInt = 0) : Met l yX12_chosen wsX12_chosen ({ frames := 1, cells := 0, slots := 0, locals := 27 } : Room) (PcK D κ β [O12 a12 r12 v12_keptMany v12_done v12_sheets v12_holes v12_worms v12_laidMany v12_wanted v12_orderMany v12_firstOrder v12_lines v12_marks v12_dots v12_madeIn v12_bound v12_places v12_maps v12_tapeMany v12_stories v12_base v12_at v12_ends v12_fault v12_opened v12_bodies v12_ran v12_ownKind v12_ownNumber] sz [.ref a12, .int p1]) (QiK D (fun (r : Int32) (u : Unit) => r.toInt = -2000000000) (fun (u : Unit) => [O12 a12 r12 v12_keptMany v12_done v12_sheets v12_holes v12_worms v12_laidMany v12_wanted v12_orderMany v12_firstOrder v12_lines v12_marks v12_dots v12_madeIn v12_bound v12_places v12_maps v12_tapeMany v12_stories v12_base v12_at v12_ends v12_fault v12_opened v12_bodies v12_ran v12_ownKind v12_ownNumber]) [O12 a12 r12 v12_keptMany v12_done v12_sheets v12_holes v12_worms v12_laidMany v12_wanted v12_orderMany v12_firstOrder v12_lines v12_marks v12_dots v12_madeIn v12_bound v12_places v12_maps v12_tapeMany v12_stories v12_base v12_at v12_ends v12_fault v12_opened v12_bodies v12_ran v12_ownKind v12_ownNumber] sz) 0 0 (va_A [O12 a12 r12 v12_keptMany v12_done v12_sheets v12_holes v12_worms v12_laidMany v12_wanted v12_orderMany v12_firstOrder v12_lines v12_marks v12_dots v12_madeIn v12_bound v12_places v12_maps v12_tapeMany v12_stories v12_base v12_at v12_ends v12_fault v12_opened v12_bodies v12_ran v12_ownKind v12_ownNumber] sz) := by
  refine ofK_i (cc := cX12_chosen) (maxL := 4) (own := RX12) (by decide) rfl rfl (Nat.le_of_ble_eq_true rfl) ?_
  intro p e s m args below meth c Q A ls hsz hx hb hml hts hown hK hA hAB hP hD hl ret
  have hS : va_S A s.heap s.heap [] := va_S.rf
  have hl : lv_has ls 4 [(0, .ref a12), (1, .int p1)] := hl
  have w0 := hts (.constantLong RX12 221 (4)) (List.mem_of_getElem? (i := 1) rfl)
  have w1 := hts (.constant RX12 256 (-2000000000)) (List.mem_of_getElem? (i := 2) rfl)
  have l0 : (0 : Int64).toInt = 0 := by decide
  have l1 : (4 : Int64).toInt = 4 := by decide
  have l2 : (0 : Int32).toInt = 0 := by decide
  have l3 : (5 : Int32).toInt = 5 := by decide
  have l4 : ((-1) : Int32).toInt = -1 := by decide
  have l5 : ((-2) : Int32).toInt = -2 := by decide
  have l6 : ((-2000000000) : Int32).toInt = -2000000000 := by decide
  refine lv_iload_n hx hb dX12_chosen_0 rfl (lv_at hl 1 rfl) ?_
  refine lv_i2l hx hb dX12_chosen_1 rfl ?_
  refine lv_topl (fun x1 e2 => ?_)
  have h3 : x1.toInt = p1.toInt := cl_i2l e2
  refine lv_lconst (v := (0 : Int64)) hx hb dX12_chosen_2 (by decide) ?_
  refine lv_ldc2 (v := (4 : Int64)) hx hb hown w0 dX12_chosen_3 ?_
  refine kcm_i hA hAB hP hD hS [false] rfl (fun _ => rfl) (fun hPc hDc => va_runS (As := [.long x1, .long (0 : Int64), .long (4 : Int64)]) (rest := []) ⟨hx, hb, hml, hown, hts⟩ (k_X12_within l D κ β s.heap.size x1 (0 : Int64) (4 : Int64)) (va_cwS 3 hts gX12_chosen_X12_within rfl rfl rfl (by decide +kernel) ⟨Nat.le_of_ble_eq_true rfl, Nat.le_of_ble_eq_true rfl⟩) (pk_S hK hS hAB hPc hDc) rfl rfl hl.1 rfl (lv_room (Nat.le_of_ble_eq_true rfl)) dX12_chosen_6 ⟨Nat.le_of_ble_eq_true rfl, Nat.le_of_ble_eq_true rfl⟩) (fun x4 u5 H locs hw hPD hS => ?_)
  have h6 : (x4.toInt = 1 ∧ (0 : Int64).toInt ≤ x1.toInt ∧ x1.toInt ≤ (4 : Int64).toInt) ∨ (x4.toInt = 0 ∧ (x1.toInt < (0 : Int64).toInt ∨ (4 : Int64).toInt < x1.toInt)) := hw
  obtain ⟨hP, hD⟩ : PD D A [O12 a12 r12 v12_keptMany v12_done v12_sheets v12_holes v12_worms v12_laidMany v12_wanted v12_orderMany v12_firstOrder v12_lines v12_marks v12_dots v12_madeIn v12_bound v12_places v12_maps v12_tapeMany v12_stories v12_base v12_at v12_ends v12_fault v12_opened v12_bodies v12_ran v12_ownKind v12_ownNumber] H := hPD
  refine lv_if_ne (tgt := 16) hx hb dX12_chosen_9 (by decide) (fun c7 => ?_) (fun c7 => ?_)
  · have c7 := ci_ne c7
    refine lv_aload_n hx hb dX12_chosen_16 rfl (lv_at hl 0 rfl) ?_
    refine lv_iload_n hx hb dX12_chosen_17 rfl (lv_at hl 1 rfl) ?_
    refine lv_iconst (v := 0) hx hb dX12_chosen_18 (by decide) ?_
    refine lv_iconst (v := 5) hx hb dX12_chosen_19 (by decide) ?_
    refine kcm_i hA hAB hP hD hS [true] rfl (fun _ => rfl) (fun hPc hDc => va_runV (As := [.int p1, .int 0, .int 5]) (rest := []) ⟨hx, hb, hml, hown, hts⟩ (k_X12_meanOf l D κ β a12 r12 v12_keptMany v12_done v12_sheets v12_holes v12_worms v12_laidMany v12_wanted v12_orderMany v12_firstOrder v12_lines v12_marks v12_dots v12_madeIn v12_bound v12_places v12_maps v12_tapeMany v12_stories v12_base v12_at v12_ends v12_fault v12_opened v12_bodies v12_ran v12_ownKind v12_ownNumber H.size p1 0 5 i1 i2 i3 i4 i5 i6 i7 i8 i9 i10 i11 i12 i13 i14 i15 i16 i17 (by omega) (by omega) (by omega) (by omega) (by omega) (by omega) (by omega) (by omega) (by omega) (by omega) (by omega) (by omega) (by omega) (by omega)) (cwV 3 hts gX12_chosen_X12_meanOf rfl rfl rfl (by decide +kernel) ⟨Nat.le_of_ble_eq_true rfl, Nat.le_of_ble_eq_true rfl⟩) (pk_V hK hS hAB hPc hDc 0 (ci := 12) rfl rfl rfl) rfl rfl hl.1 rfl (lv_room (Nat.le_of_ble_eq_true rfl)) dX12_chosen_20 ⟨Nat.le_of_ble_eq_true rfl, Nat.le_of_ble_eq_true rfl⟩) (fun x8 u9 H locs hw hPD hS => ?_)
    have h10 : x8.toInt = -2 := hw
    obtain ⟨hP, hD⟩ : PD D A [O12 a12 r12 v12_keptMany v12_done v12_sheets v12_holes v12_worms v12_laidMany v12_wanted v12_orderMany v12_firstOrder v12_lines v12_marks v12_dots v12_madeIn v12_bound v12_places v12_maps v12_tapeMany v12_stories v12_base v12_at v12_ends v12_fault v12_opened v12_bodies v12_ran v12_ownKind v12_ownNumber] H := hPD
    refine lv_istore_n (lv' := [(2, .int x8), (0, .ref a12), (1, .int p1)]) hx hb dX12_chosen_23 rfl hl (by decide) rfl (fun ls hl => ?_)
    refine lv_aload_n hx hb dX12_chosen_24 rfl (lv_at hl 1 rfl) ?_
    refine lv_iconst (v := (-1)) hx hb dX12_chosen_25 (by decide) ?_
    refine lv_iload_n hx hb dX12_chosen_26 rfl (lv_at hl 2 rfl) ?_
    refine lv_isub hx hb dX12_chosen_27 ?_
    refine lv_topi (fun x11 e12 => ?_)
    try have h13 : x11.toInt = ((-1) : Int32).toInt - p1.toInt := ci_sub e12 (by omega) (by omega)
    refine lv_iconst (v := 0) hx hb dX12_chosen_28 (by decide) ?_
    refine lv_iconst (v := 5) hx hb dX12_chosen_29 (by decide) ?_
    refine kcm_i hA hAB hP hD hS [true] rfl (fun _ => rfl) (fun hPc hDc => va_runV (As := [.int x11, .int 0, .int 5]) (rest := []) ⟨hx, hb, hml, hown, hts⟩ (k_X12_meanOf l D κ β a12 r12 v12_keptMany v12_done v12_sheets v12_holes v12_worms v12_laidMany v12_wanted v12_orderMany v12_firstOrder v12_lines v12_marks v12_dots v12_madeIn v12_bound v12_places v12_maps v12_tapeMany v12_stories v12_base v12_at v12_ends v12_fault v12_opened v12_bodies v12_ran v12_ownKind v12_ownNumber H.size x11 0 5 i1 i2 i3 i4 i5 i6 i7 i8 i9 i10 i11 i12 i13 i14 i15 i16 i17 (by omega) (by omega) (by omega) (by omega) (by omega) (by omega) (by omega) (by omega) (by omega) (by omega) (by omega) (by omega) (by omega) (by omega)) (cwV 3 hts gX12_chosen_X12_meanOf rfl rfl rfl (by decide +kernel) ⟨Nat.le_of_ble_eq_true rfl, Nat.le_of_ble_eq_true rfl⟩) (pk_V hK hS hAB hPc hDc 0 (ci := 12) rfl rfl rfl) rfl rfl hl.1 rfl (lv_room (Nat.le_of_ble_eq_true rfl)) dX12_chosen_30 ⟨Nat.le_of_ble_eq_true rfl, Nat.le_of_ble_eq_true rfl⟩) (fun x14 u15 H locs hw hPD hS => ?_)
    have h16 : x14.toInt = -2 := hw
    obtain ⟨hP, hD⟩ : PD D A [O12 a12 r12 v12_keptMany v12_done v12_sheets v12_holes v12_worms v12_laidMany v12_wanted v12_orderMany v12_firstOrder v12_lines v12_marks v12_dots v12_madeIn v12_bound v12_places v12_maps v12_tapeMany v12_stories v12_base v12_at v12_ends v12_fault v12_opened v12_bodies v12_ran v12_ownKind v12_ownNumber] H := hPD
    refine lv_istore_n (lv' := [(3, .int x14), (2, .int x8), (0, .ref a12), (1, .int p1)]) hx hb dX12_chosen_33 rfl hl (by decide) rfl (fun ls hl => ?_)
    refine lv_iload_n hx hb dX12_chosen_34 rfl (lv_at hl 1 rfl) ?_
    refine lv_bipush (v := (-2)) hx hb dX12_chosen_35 (by decide) ?_
    refine lv_icmp_eq (tgt := 46) hx hb dX12_chosen_37 (by decide) (fun c17 => ?_) (fun c17 => ?_)
    · have c17 := ci_eq c17
      refine lv_ldcw (v := (-2000000000)) hx hb hown w1 dX12_chosen_46 ?_
      refine lv_goto (tgt := 55) hx hb dX12_chosen_49 (by decide) ?_
      have hpo : ((-2000000000) : Int32).toInt = -2000000000 := (by omega)
      exact ret _ _ _ _ (-2000000000) () dX12_chosen_55 hpo hP hD hS
    have c17 := ci_ne c17
    refine lv_iload_n hx hb dX12_chosen_40 rfl (lv_at hl 0 rfl) ?_
    refine lv_bipush (v := (-2)) hx hb dX12_chosen_41 (by decide) ?_
    refine lv_icmp_ne (tgt := 52) hx hb dX12_chosen_43 (by decide) (fun c18 => ?_) (fun c18 => ?_)
    · have c18 := ci_ne c18
      refine lv_iload_n hx hb dX12_chosen_52 rfl (lv_at hl 1 rfl) ?_
      refine lv_iload_n hx hb dX12_chosen_53 rfl (lv_at hl 0 rfl) ?_
      refine lv_isub hx hb dX12_chosen_54 ?_
      refine lv_topi (fun x19 e20 => ?_)
      try have h21 : x19.toInt = x8.toInt - x14.toInt := ci_sub e20 (by omega) (by omega)
      have hpo : x19.toInt = -2000000000 := (by omega)
      exact ret _ _ _ _ x19 () dX12_chosen_55 hpo hP hD hS
    have c18 := ci_eq c18
    refine lv_ldcw (v := (-2000000000)) hx hb hown w1 dX12_chosen_46 ?_
    refine lv_goto (tgt := 55) hx hb dX12_chosen_49 (by decide) ?_
    have hpo : ((-2000000000) : Int32).toInt = -2000000000 := (by omega)
    exact ret _ _ _ _ (-2000000000) () dX12_chosen_55 hpo hP hD hS
  have c7 := ci_eq c7
  refine lv_ldcw (v := (-2000000000)) hx hb hown w1 dX12_chosen_12 ?_
  have hpo : ((-2000000000) : Int32).toInt = -2000000000 := (by omega)
  exact ret _ _ _ _ (-2000000000) () dX12_chosen_15 hpo hP hD hS
set_option maxHeartbeats 4000000 in
set_option maxRecDepth 100000 in
theorem k_X12_made (l : Launch) (D : va_G) (κ : Nat → ClassId) (β : Nat) (a12 : Nat) (r12 : Nat → Nat) (v12_keptMany : Int32) (v12_done : Int32) (v12_sheets : Int32) (v12_holes : Int32) (v12_worms : Int32) (v12_laidMany : Int32) (v12_wanted : Int32) (v12_orderMany : Int32) (v12_firstOrder : Int32) (v12_lines : Int32) (v12_marks : Int32) (v12_dots : Int32) (v12_madeIn : Int32) (v12_bound : Int32) (v12_places : Int32) (v12_maps : Int32) (v12_tapeMany : Int32) (v12_stories : Int32) (v12_base : Int32) (v12_at : Int32) (v12_ends : Int32) (v12_fault : Int32) (v12_opened : Int32) (v12_bodies : Int32) (v12_ran : Int32) (v12_ownKind : Int32) (v12_ownNumber : Int32) (sz : Nat) (p1 : Int32) (p2 : Int32) (i1 : Rg 0 40 v12_keptMany) (i2 : Rg 0 40 v12_done) (i3 : Rg 0 8 v12_sheets) (i4 : Rg 0 40 v12_holes) (i5 : Rg 0 40 v12_worms) (i6 : Rg 0 8 v12_laidMany) (i7 : Rg 0 8 v12_wanted) (i8 : Rg 0 20 v12_lines) (i9 : Rg 0 60 v12_marks) (i10 : Rg 0 40 v12_dots) (i11 : Rg 0 20 v12_places) (i12 : Rg 0 8 v12_maps) (i13 : Rg 0 120 v12_tapeMany) (i14 : Rg 0 6 v12_stories) (i15 : Rg 0 50 v12_bodies) (i16 : Rg 0 1000 v12_ran) (i17 : v12_done.toInt ≤ v12_keptMany.toInt) (i18 : v12_keptMany.toInt = 0) (i19 : v12_done.toInt = 0) (i20 : v12_sheets.toInt = 0) (i21 : v12_holes.toInt = 0) (i22 : v12_worms.toInt = 0) (i23 : v12_lines.toInt = 0) (i24 : v12_marks.toInt = 0) (i25 : v12_dots.toInt = 0) (i26 : v12_madeIn.toInt = 2001) (i27 : v12_places.toInt = 0) (i28 : v12_maps.toInt = 0) (i29 : v12_tapeMany.toInt = 0) (i30 : v12_stories.toInt = 0) (i31 : v12_bodies.toInt = 0) : Met l yX12_made wsX12_made ({ frames := 1, cells := 0, slots := 0, locals := 25 } : Room) (PcK D κ β [O12 a12 r12 v12_keptMany v12_done v12_sheets v12_holes v12_worms v12_laidMany v12_wanted v12_orderMany v12_firstOrder v12_lines v12_marks v12_dots v12_madeIn v12_bound v12_places v12_maps v12_tapeMany v12_stories v12_base v12_at v12_ends v12_fault v12_opened v12_bodies v12_ran v12_ownKind v12_ownNumber] sz [.ref a12, .int p1, .int p2]) (QiK D (fun (r : Int32) (u : Int32 × Int32) => ((0 ≤ p1.toInt ∧ p1.toInt ≤ 2001 ∧ 0 ≤ p2.toInt ∧ p2.toInt ≤ 9999) ∧ r.toInt = v12_madeIn.toInt ∧ u.1.toInt = p1.toInt) ∨ (¬ (0 ≤ p1.toInt ∧ p1.toInt ≤ 2001 ∧ 0 ≤ p2.toInt ∧ p2.toInt ≤ 9999) ∧ r.toInt = -1 ∧ u.1.toInt = v12_madeIn.toInt)) (fun (u : Int32 × Int32) => [O12 a12 r12 v12_keptMany v12_done v12_sheets v12_holes v12_worms v12_laidMany v12_wanted v12_orderMany v12_firstOrder v12_lines v12_marks v12_dots u.1 u.2 v12_places v12_maps v12_tapeMany v12_stories v12_base v12_at v12_ends v12_fault v12_opened v12_bodies v12_ran v12_ownKind v12_ownNumber]) [O12 a12 r12 v12_keptMany v12_done v12_sheets v12_holes v12_worms v12_laidMany v12_wanted v12_orderMany v12_firstOrder v12_lines v12_marks v12_dots v12_madeIn v12_bound v12_places v12_maps v12_tapeMany v12_stories v12_base v12_at v12_ends v12_fault v12_opened v12_bodies v12_ran v12_ownKind v12_ownNumber] sz) 0 0 (va_A [O12 a12 r12 v12_keptMany v12_done v12_sheets v12_holes v12_worms v12_laidMany v12_wanted v12_orderMany v12_firstOrder v12_lines v12_marks v12_dots v12_madeIn v12_bound v12_places v12_maps v12_tapeMany v12_stories v12_base v12_at v12_ends v12_fault v12_opened v12_bodies v12_ran v12_ownKind v12_ownNumber] sz) := by
  refine ofK_i (cc := cX12_made) (maxL := 4) (own := RX12) (by decide) rfl rfl (Nat.le_of_ble_eq_true rfl) ?_
  intro p e s m args below meth c Q A ls hsz hx hb hml hts hown hK hA hAB hP hD hl ret
  have hS : va_S A s.heap s.heap [] := va_S.rf
  have hl : lv_has ls 4 [(0, .ref a12), (1, .int p1), (2, .int p2)] := hl
  have w0 := hts (.constantLong RX12 257 (2001)) (List.mem_of_getElem? (i := 1) rfl)
  have w1 := hts (.constantLong RX12 225 (9999)) (List.mem_of_getElem? (i := 2) rfl)
  have w2 := hts (.fieldLink RX12 120 "OlderSkinModel" "madeIn" "I") (List.mem_of_getElem? (i := 3) rfl)
  have w3 := (fun w h => List.mem_cons_of_mem _ (List.mem_append_right _ h) : ∀ w ∈ u_ws RX12 TX12 63, w ∈ wsX12_made)
  have w4 := hts (.fieldLink RX12 124 "OlderSkinModel" "bound" "I") (List.mem_of_getElem? (i := 4) rfl)
  have l0 : (0 : Int64).toInt = 0 := by decide
  have l1 : (2001 : Int64).toInt = 2001 := by decide
  have l2 : (0 : Int32).toInt = 0 := by decide
  have l3 : ((-1) : Int32).toInt = -1 := by decide
  have l4 : (9999 : Int64).toInt = 9999 := by decide
  refine lv_iload_n hx hb dX12_made_0 rfl (lv_at hl 1 rfl) ?_
  refine lv_i2l hx hb dX12_made_1 rfl ?_
  refine lv_topl (fun x1 e2 => ?_)
  have h3 : x1.toInt = p1.toInt := cl_i2l e2
  refine lv_lconst (v := (0 : Int64)) hx hb dX12_made_2 (by decide) ?_
  refine lv_ldc2 (v := (2001 : Int64)) hx hb hown w0 dX12_made_3 ?_
  refine kcm_i hA hAB hP hD hS [false] rfl (fun _ => rfl) (fun hPc hDc => va_runS (As := [.long x1, .long (0 : Int64), .long (2001 : Int64)]) (rest := []) ⟨hx, hb, hml, hown, hts⟩ (k_X12_within l D κ β s.heap.size x1 (0 : Int64) (2001 : Int64)) (va_cwS 3 hts gX12_made_X12_within rfl rfl rfl (by decide +kernel) ⟨Nat.le_of_ble_eq_true rfl, Nat.le_of_ble_eq_true rfl⟩) (pk_S hK hS hAB hPc hDc) rfl rfl hl.1 rfl (lv_room (Nat.le_of_ble_eq_true rfl)) dX12_made_6 ⟨Nat.le_of_ble_eq_true rfl, Nat.le_of_ble_eq_true rfl⟩) (fun x4 u5 H locs hw hPD hS => ?_)
  have h6 : (x4.toInt = 1 ∧ (0 : Int64).toInt ≤ x1.toInt ∧ x1.toInt ≤ (2001 : Int64).toInt) ∨ (x4.toInt = 0 ∧ (x1.toInt < (0 : Int64).toInt ∨ (2001 : Int64).toInt < x1.toInt)) := hw
  obtain ⟨hP, hD⟩ : PD D A [O12 a12 r12 v12_keptMany v12_done v12_sheets v12_holes v12_worms v12_laidMany v12_wanted v12_orderMany v12_firstOrder v12_lines v12_marks v12_dots v12_madeIn v12_bound v12_places v12_maps v12_tapeMany v12_stories v12_base v12_at v12_ends v12_fault v12_opened v12_bodies v12_ran v12_ownKind v12_ownNumber] H := hPD
  refine lv_if_eq (tgt := 24) hx hb dX12_made_9 (by decide) (fun c7 => ?_) (fun c7 => ?_)
  · have c7 := ci_eq c7
    refine lv_iconst (v := (-1)) hx hb dX12_made_24 (by decide) ?_
    have hpo : ((0 ≤ p1.toInt ∧ p1.toInt ≤ 2001 ∧ 0 ≤ p2.toInt ∧ p2.toInt ≤ 9999) ∧ ((-1) : Int32).toInt = v12_madeIn.toInt ∧ v12_madeIn.toInt = p1.toInt) ∨ (¬ (0 ≤ p1.toInt ∧ p1.toInt ≤ 2001 ∧ 0 ≤ p2.toInt ∧ p2.toInt ≤ 9999) ∧ ((-1) : Int32).toInt = -1 ∧ v12_madeIn.toInt = v12_madeIn.toInt) := (by omega)
    exact ret _ _ _ _ (-1) (v12_madeIn, v12_bound) dX12_made_25 hpo hP hD hS
  have c7 := ci_ne c7
  refine lv_iload_n hx hb dX12_made_12 rfl (lv_at hl 2 rfl) ?_
  refine lv_i2l hx hb dX12_made_13 rfl ?_
  refine lv_topl (fun x8 e9 => ?_)
  have h10 : x8.toInt = p2.toInt := cl_i2l e9
  refine lv_lconst (v := (0 : Int64)) hx hb dX12_made_14 (by decide) ?_
  refine lv_ldc2 (v := (9999 : Int64)) hx hb hown w1 dX12_made_15 ?_
  refine kcm_i hA hAB hP hD hS [false] rfl (fun _ => rfl) (fun hPc hDc => va_runS (As := [.long x8, .long (0 : Int64), .long (9999 : Int64)]) (rest := []) ⟨hx, hb, hml, hown, hts⟩ (k_X12_within l D κ β H.size x8 (0 : Int64) (9999 : Int64)) (va_cwS 3 hts gX12_made_X12_within rfl rfl rfl (by decide +kernel) ⟨Nat.le_of_ble_eq_true rfl, Nat.le_of_ble_eq_true rfl⟩) (pk_S hK hS hAB hPc hDc) rfl rfl hl.1 rfl (lv_room (Nat.le_of_ble_eq_true rfl)) dX12_made_18 ⟨Nat.le_of_ble_eq_true rfl, Nat.le_of_ble_eq_true rfl⟩) (fun x11 u12 H locs hw hPD hS => ?_)
  have h13 : (x11.toInt = 1 ∧ (0 : Int64).toInt ≤ x8.toInt ∧ x8.toInt ≤ (9999 : Int64).toInt) ∨ (x11.toInt = 0 ∧ (x8.toInt < (0 : Int64).toInt ∨ (9999 : Int64).toInt < x8.toInt)) := hw
  obtain ⟨hP, hD⟩ : PD D A [O12 a12 r12 v12_keptMany v12_done v12_sheets v12_holes v12_worms v12_laidMany v12_wanted v12_orderMany v12_firstOrder v12_lines v12_marks v12_dots v12_madeIn v12_bound v12_places v12_maps v12_tapeMany v12_stories v12_base v12_at v12_ends v12_fault v12_opened v12_bodies v12_ran v12_ownKind v12_ownNumber] H := hPD
  refine lv_if_ne (tgt := 26) hx hb dX12_made_21 (by decide) (fun c14 => ?_) (fun c14 => ?_)
  · have c14 := ci_ne c14
    refine lv_aload_n hx hb dX12_made_26 rfl (lv_at hl 0 rfl) ?_
    refine va_get (D := D) (ci := 12) (v := .int v12_madeIn) (C := RX12) (T := TX12) (N := 63) hx hb hts w3 hown hK.1 hP 0 rfl rfl 32 (by decide) w2 (fun _ h9 => h9) rfl dX12_made_27 ?_
    refine lv_istore_n (lv' := [(3, .int v12_madeIn), (0, .ref a12), (1, .int p1), (2, .int p2)]) hx hb dX12_made_30 rfl hl (by decide) rfl (fun ls hl => ?_)
    refine lv_aload_n hx hb dX12_made_31 rfl (lv_at hl 1 rfl) ?_
    refine lv_iload_n hx hb dX12_made_32 rfl (lv_at hl 2 rfl) ?_
    refine va_put (D := D) (ci := 12) (v := .int p1) (ty := .int) (C := RX12) (T := TX12) (N := 63) hx hb hts w3 tyX12 tyX12_ok nmX12 hown hK.1 hP hD hS 0 rfl rfl 32 (by decide) w2 (fun _ h9 => h9) rfl (by decide +kernel) rfl rfl (Nat.le_of_ble_eq_true rfl) dX12_made_33 (fun H locs hP hD hS => ?_)
    obtain ⟨hP, hD⟩ : PD D A [O12 a12 r12 v12_keptMany v12_done v12_sheets v12_holes v12_worms v12_laidMany v12_wanted v12_orderMany v12_firstOrder v12_lines v12_marks v12_dots p1 v12_bound v12_places v12_maps v12_tapeMany v12_stories v12_base v12_at v12_ends v12_fault v12_opened v12_bodies v12_ran v12_ownKind v12_ownNumber] H := ⟨hP, hD⟩
    refine lv_aload_n hx hb dX12_made_36 rfl (lv_at hl 1 rfl) ?_
    refine lv_iload_n hx hb dX12_made_37 rfl (lv_at hl 3 rfl) ?_
    refine va_put (D := D) (ci := 12) (v := .int p2) (ty := .int) (C := RX12) (T := TX12) (N := 63) hx hb hts w3 tyX12 tyX12_ok nmX12 hown hK.1 hP hD hS 0 rfl rfl 33 (by decide) w4 (fun _ h9 => h9) rfl (by decide +kernel) rfl rfl (Nat.le_of_ble_eq_true rfl) dX12_made_38 (fun H locs hP hD hS => ?_)
    obtain ⟨hP, hD⟩ : PD D A [O12 a12 r12 v12_keptMany v12_done v12_sheets v12_holes v12_worms v12_laidMany v12_wanted v12_orderMany v12_firstOrder v12_lines v12_marks v12_dots p1 p2 v12_places v12_maps v12_tapeMany v12_stories v12_base v12_at v12_ends v12_fault v12_opened v12_bodies v12_ran v12_ownKind v12_ownNumber] H := ⟨hP, hD⟩
    refine lv_iload_n hx hb dX12_made_41 rfl (lv_at hl 0 rfl) ?_
    have hpo : ((0 ≤ p1.toInt ∧ p1.toInt ≤ 2001 ∧ 0 ≤ p2.toInt ∧ p2.toInt ≤ 9999) ∧ v12_madeIn.toInt = v12_madeIn.toInt ∧ p1.toInt = p1.toInt) ∨ (¬ (0 ≤ p1.toInt ∧ p1.toInt ≤ 2001 ∧ 0 ≤ p2.toInt ∧ p2.toInt ≤ 9999) ∧ v12_madeIn.toInt = -1 ∧ p1.toInt = v12_madeIn.toInt) := (by omega)
    exact ret _ _ _ _ v12_madeIn (p1, p2) dX12_made_42 hpo hP hD hS
  have c14 := ci_eq c14
  refine lv_iconst (v := (-1)) hx hb dX12_made_24 (by decide) ?_
  have hpo : ((0 ≤ p1.toInt ∧ p1.toInt ≤ 2001 ∧ 0 ≤ p2.toInt ∧ p2.toInt ≤ 9999) ∧ ((-1) : Int32).toInt = v12_madeIn.toInt ∧ v12_madeIn.toInt = p1.toInt) ∨ (¬ (0 ≤ p1.toInt ∧ p1.toInt ≤ 2001 ∧ 0 ≤ p2.toInt ∧ p2.toInt ≤ 9999) ∧ ((-1) : Int32).toInt = -1 ∧ v12_madeIn.toInt = v12_madeIn.toInt) := (by omega)
  exact ret _ _ _ _ (-1) (v12_madeIn, v12_bound) dX12_made_25 hpo hP hD hS
set_option maxHeartbeats 4000000 in
set_option maxRecDepth 100000 in
theorem k_X12_doesBar (l : Launch) (D : va_G) (κ : Nat → ClassId) (β : Nat) (a12 : Nat) (r12 : Nat → Nat) (v12_keptMany : Int32) (v12_done : Int32) (v12_sheets : Int32) (v12_holes : Int32) (v12_worms : Int32) (v12_laidMany : Int32) (v12_wanted : Int32) (v12_orderMany : Int32) (v12_firstOrder : Int32) (v12_lines : Int32) (v12_marks : Int32) (v12_dots : Int32) (v12_madeIn : Int32) (v12_bound : Int32) (v12_places : Int32) (v12_maps : Int32) (v12_tapeMany : Int32) (v12_stories : Int32) (v12_base : Int32) (v12_at : Int32) (v12_ends : Int32) (v12_fault : Int32) (v12_opened : Int32) (v12_bodies : Int32) (v12_ran : Int32) (v12_ownKind : Int32) (v12_ownNumber : Int32) (sz : Nat) (p1 : Int32) (p2 : Int32) (i1 : Rg 0 40 v12_keptMany) (i2 : Rg 0 40 v12_done) (i3 : Rg 0 8 v12_sheets) (i4 : Rg 0 40 v12_holes) (i5 : Rg 0 40 v12_worms) (i6 : Rg 0 8 v12_laidMany) (i7 : Rg 0 8 v12_wanted) (i8 : Rg 0 20 v12_lines) (i9 : Rg 0 60 v12_marks) (i10 : Rg 0 40 v12_dots) (i11 : Rg 0 20 v12_places) (i12 : Rg 0 8 v12_maps) (i13 : Rg 0 120 v12_tapeMany) (i14 : Rg 0 6 v12_stories) (i15 : Rg 0 50 v12_bodies) (i16 : Rg 0 1000 v12_ran) (i17 : v12_done.toInt ≤ v12_keptMany.toInt) (i18 : v12_keptMany.toInt = 0) (i19 : v12_done.toInt = 0) (i20 : v12_sheets.toInt = 0) (i21 : v12_holes.toInt = 0) (i22 : v12_worms.toInt = 0) (i23 : v12_lines.toInt = 0) (i24 : v12_marks.toInt = 0) (i25 : v12_dots.toInt = 0) (i26 : v12_madeIn.toInt = 2001) (i27 : v12_places.toInt = 0) (i28 : v12_maps.toInt = 0) (i29 : v12_tapeMany.toInt = 0) (i30 : v12_stories.toInt = 0) (i31 : v12_bodies.toInt = 0) : Met l yX12_doesBar wsX12_doesBar ({ frames := 1, cells := 0, slots := 0, locals := 27 } : Room) (PcK D κ β [O12 a12 r12 v12_keptMany v12_done v12_sheets v12_holes v12_worms v12_laidMany v12_wanted v12_orderMany v12_firstOrder v12_lines v12_marks v12_dots v12_madeIn v12_bound v12_places v12_maps v12_tapeMany v12_stories v12_base v12_at v12_ends v12_fault v12_opened v12_bodies v12_ran v12_ownKind v12_ownNumber] sz [.ref a12, .int p1, .int p2]) (QiK D (fun (r : Int32) (u : Unit) => r.toInt = 0) (fun (u : Unit) => [O12 a12 r12 v12_keptMany v12_done v12_sheets v12_holes v12_worms v12_laidMany v12_wanted v12_orderMany v12_firstOrder v12_lines v12_marks v12_dots v12_madeIn v12_bound v12_places v12_maps v12_tapeMany v12_stories v12_base v12_at v12_ends v12_fault v12_opened v12_bodies v12_ran v12_ownKind v12_ownNumber]) [O12 a12 r12 v12_keptMany v12_done v12_sheets v12_holes v12_worms v12_laidMany v12_wanted v12_orderMany v12_firstOrder v12_lines v12_marks v12_dots v12_madeIn v12_bound v12_places v12_maps v12_tapeMany v12_stories v12_base v12_at v12_ends v12_fault v12_opened v12_bodies v12_ran v12_ownKind v12_ownNumber] sz) 0 0 (va_A [O12 a12 r12 v12_keptMany v12_done v12_sheets v12_holes v12_worms v12_laidMany v12_wanted v12_orderMany v12_firstOrder v12_lines v12_marks v12_dots v12_madeIn v12_bound v12_places v12_maps v12_tapeMany v12_stories v12_base v12_at v12_ends v12_fault v12_opened v12_bodies v12_ran v12_ownKind v12_ownNumber] sz) := by
  refine ofK_z (cc := cX12_doesBar) (maxL := 3) (own := RX12) (by decide) rfl rfl (Nat.le_of_ble_eq_true rfl) ?_
  intro p e s m args below meth c Q A ls hsz hx hb hml hts hown hK hA hAB hP hD hl ret
  have hS : va_S A s.heap s.heap [] := va_S.rf
  have hl : lv_has ls 3 [(0, .ref a12), (1, .int p1), (2, .int p2)] := hl
  have w0 := hts (.fieldLink RX12 120 "OlderSkinModel" "madeIn" "I") (List.mem_of_getElem? (i := 1) rfl)
  have w1 := (fun w h => List.mem_cons_of_mem _ (List.mem_append_right _ h) : ∀ w ∈ u_ws RX12 TX12 63, w ∈ wsX12_doesBar)
  have w2 := hts (.fieldLink RX12 124 "OlderSkinModel" "bound" "I") (List.mem_of_getElem? (i := 2) rfl)
  have l0 : (2000 : Int32).toInt = 2000 := by decide
  have l1 : (0 : Int32).toInt = 0 := by decide
  have l2 : (5 : Int32).toInt = 5 := by decide
  have l3 : (1 : Int32).toInt = 1 := by decide
  refine lv_aload_n hx hb dX12_doesBar_0 rfl (lv_at hl 0 rfl) ?_
  refine va_get (D := D) (ci := 12) (v := .int v12_madeIn) (C := RX12) (T := TX12) (N := 63) hx hb hts w1 hown hK.1 hP 0 rfl rfl 32 (by decide) w0 (fun _ h9 => h9) rfl dX12_doesBar_1 ?_
  refine lv_sipush (v := 2000) hx hb dX12_doesBar_4 (by decide) ?_
  refine lv_icmp_gt (tgt := 36) hx hb dX12_doesBar_7 (by decide) (fun c1 => ?_) (fun c1 => ?_)
  · have c1 := ci_lt c1
    refine lv_iconst (v := 0) hx hb dX12_doesBar_36 (by decide) ?_
    have hpo : (0 : Int32).toInt = 0 := (by omega)
    exact ret _ _ _ _ 0 () dX12_doesBar_37 (by omega) hpo hP hD hS
  have c1 := ci_nlt c1
  refine lv_iload_n hx hb dX12_doesBar_10 rfl (lv_at hl 2 rfl) ?_
  refine lv_aload_n hx hb dX12_doesBar_11 rfl (lv_at hl 0 rfl) ?_
  refine va_get (D := D) (ci := 12) (v := .int v12_madeIn) (C := RX12) (T := TX12) (N := 63) hx hb hts w1 hown hK.1 hP 0 rfl rfl 32 (by decide) w0 (fun _ h9 => h9) rfl dX12_doesBar_12 ?_
  refine lv_icmp_ge (tgt := 36) hx hb dX12_doesBar_15 (by decide) (fun c2 => ?_) (fun c2 => ?_)
  · have c2 := ci_le c2
    refine lv_iconst (v := 0) hx hb dX12_doesBar_36 (by decide) ?_
    have hpo : (0 : Int32).toInt = 0 := (by omega)
    exact ret _ _ _ _ 0 () dX12_doesBar_37 (by omega) hpo hP hD hS
  have c2 := ci_nle c2
  refine lv_aload_n hx hb dX12_doesBar_18 rfl (lv_at hl 0 rfl) ?_
  refine lv_iconst (v := 5) hx hb dX12_doesBar_19 (by decide) ?_
  refine lv_iload_n hx hb dX12_doesBar_20 rfl (lv_at hl 1 rfl) ?_
  refine lv_iload_n hx hb dX12_doesBar_21 rfl (lv_at hl 1 rfl) ?_
  refine kcm_i hA hAB hP hD hS [true] rfl (fun _ => rfl) (fun hPc hDc => va_runV (As := [.int 5, .int p1, .int p1]) (rest := []) ⟨hx, hb, hml, hown, hts⟩ (k_X12_meanOf l D κ β a12 r12 v12_keptMany v12_done v12_sheets v12_holes v12_worms v12_laidMany v12_wanted v12_orderMany v12_firstOrder v12_lines v12_marks v12_dots v12_madeIn v12_bound v12_places v12_maps v12_tapeMany v12_stories v12_base v12_at v12_ends v12_fault v12_opened v12_bodies v12_ran v12_ownKind v12_ownNumber s.heap.size 5 p1 p1 i1 i2 i3 i4 i5 i6 i7 i8 i9 i10 i11 i12 i13 i14 i15 i16 i17 (by omega) (by omega) (by omega) (by omega) (by omega) (by omega) (by omega) (by omega) (by omega) (by omega) (by omega) (by omega) (by omega) (by omega)) (cwV 3 hts gX12_doesBar_X12_meanOf rfl rfl rfl (by decide +kernel) ⟨Nat.le_of_ble_eq_true rfl, Nat.le_of_ble_eq_true rfl⟩) (pk_V hK hS hAB hPc hDc 0 (ci := 12) rfl rfl rfl) rfl rfl hl.1 rfl (lv_room (Nat.le_of_ble_eq_true rfl)) dX12_doesBar_22 ⟨Nat.le_of_ble_eq_true rfl, Nat.le_of_ble_eq_true rfl⟩) (fun x3 u4 H locs hw hPD hS => ?_)
  have h5 : x3.toInt = -2 := hw
  obtain ⟨hP, hD⟩ : PD D A [O12 a12 r12 v12_keptMany v12_done v12_sheets v12_holes v12_worms v12_laidMany v12_wanted v12_orderMany v12_firstOrder v12_lines v12_marks v12_dots v12_madeIn v12_bound v12_places v12_maps v12_tapeMany v12_stories v12_base v12_at v12_ends v12_fault v12_opened v12_bodies v12_ran v12_ownKind v12_ownNumber] H := hPD
  refine lv_aload_n hx hb dX12_doesBar_25 rfl (lv_at hl 0 rfl) ?_
  refine va_get (D := D) (ci := 12) (v := .int v12_bound) (C := RX12) (T := TX12) (N := 63) hx hb hts w1 hown hK.1 hP 0 rfl rfl 33 (by decide) w2 (fun _ h9 => h9) rfl dX12_doesBar_26 ?_
  refine lv_icmp_le (tgt := 36) hx hb dX12_doesBar_29 (by decide) (fun c6 => ?_) (fun c6 => ?_)
  · have c6 := ci_le c6
    refine lv_iconst (v := 0) hx hb dX12_doesBar_36 (by decide) ?_
    have hpo : (0 : Int32).toInt = 0 := (by omega)
    exact ret _ _ _ _ 0 () dX12_doesBar_37 (by omega) hpo hP hD hS
  have c6 := ci_nle c6
  refine lv_iconst (v := 1) hx hb dX12_doesBar_32 (by decide) ?_
  refine lv_goto (tgt := 37) hx hb dX12_doesBar_33 (by decide) ?_
  have hpo : (1 : Int32).toInt = 0 := (by omega)
  exact ret _ _ _ _ 1 () dX12_doesBar_37 (by omega) hpo hP hD hS
set_option maxHeartbeats 4000000 in
set_option maxRecDepth 100000 in
theorem k_X12_bars (l : Launch) (D : va_G) (κ : Nat → ClassId) (β : Nat) (a12 : Nat) (r12 : Nat → Nat) (v12_keptMany : Int32) (v12_done : Int32) (v12_sheets : Int32) (v12_holes : Int32) (v12_worms : Int32) (v12_laidMany : Int32) (v12_wanted : Int32) (v12_orderMany : Int32) (v12_firstOrder : Int32) (v12_lines : Int32) (v12_marks : Int32) (v12_dots : Int32) (v12_madeIn : Int32) (v12_bound : Int32) (v12_places : Int32) (v12_maps : Int32) (v12_tapeMany : Int32) (v12_stories : Int32) (v12_base : Int32) (v12_at : Int32) (v12_ends : Int32) (v12_fault : Int32) (v12_opened : Int32) (v12_bodies : Int32) (v12_ran : Int32) (v12_ownKind : Int32) (v12_ownNumber : Int32) (sz : Nat) (p1 : Int32) (p2 : Int32) (i1 : Rg 0 40 v12_keptMany) (i2 : Rg 0 40 v12_done) (i3 : Rg 0 8 v12_sheets) (i4 : Rg 0 40 v12_holes) (i5 : Rg 0 40 v12_worms) (i6 : Rg 0 8 v12_laidMany) (i7 : Rg 0 8 v12_wanted) (i8 : Rg 0 20 v12_lines) (i9 : Rg 0 60 v12_marks) (i10 : Rg 0 40 v12_dots) (i11 : Rg 0 20 v12_places) (i12 : Rg 0 8 v12_maps) (i13 : Rg 0 120 v12_tapeMany) (i14 : Rg 0 6 v12_stories) (i15 : Rg 0 50 v12_bodies) (i16 : Rg 0 1000 v12_ran) (i17 : v12_done.toInt ≤ v12_keptMany.toInt) (i18 : v12_keptMany.toInt = 0) (i19 : v12_done.toInt = 0) (i20 : v12_sheets.toInt = 0) (i21 : v12_holes.toInt = 0) (i22 : v12_worms.toInt = 0) (i23 : v12_lines.toInt = 0) (i24 : v12_marks.toInt = 0) (i25 : v12_dots.toInt = 0) (i26 : v12_madeIn.toInt = 2001) (i27 : v12_places.toInt = 0) (i28 : v12_maps.toInt = 0) (i29 : v12_tapeMany.toInt = 0) (i30 : v12_stories.toInt = 0) (i31 : v12_bodies.toInt = 0) : Met l yX12_bars wsX12_bars ({ frames := 2, cells := 0, slots := 0, locals := 49 } : Room) (PcK D κ β [O12 a12 r12 v12_keptMany v12_done v12_sheets v12_holes v12_worms v12_laidMany v12_wanted v12_orderMany v12_firstOrder v12_lines v12_marks v12_dots v12_madeIn v12_bound v12_places v12_maps v12_tapeMany v12_stories v12_base v12_at v12_ends v12_fault v12_opened v12_bodies v12_ran v12_ownKind v12_ownNumber] sz [.ref a12, .int p1, .int p2]) (QiK D (fun (r : Int32) (u : Unit) => ((0 ≤ p1.toInt ∧ p1.toInt ≤ 5 ∧ 0 ≤ p2.toInt ∧ p2.toInt ≤ 2000) ∧ r.toInt = 0) ∨ (¬ (0 ≤ p1.toInt ∧ p1.toInt ≤ 5 ∧ 0 ≤ p2.toInt ∧ p2.toInt ≤ 2000) ∧ r.toInt = -1)) (fun (u : Unit) => [O12 a12 r12 v12_keptMany v12_done v12_sheets v12_holes v12_worms v12_laidMany v12_wanted v12_orderMany v12_firstOrder v12_lines v12_marks v12_dots v12_madeIn v12_bound v12_places v12_maps v12_tapeMany v12_stories v12_base v12_at v12_ends v12_fault v12_opened v12_bodies v12_ran v12_ownKind v12_ownNumber]) [O12 a12 r12 v12_keptMany v12_done v12_sheets v12_holes v12_worms v12_laidMany v12_wanted v12_orderMany v12_firstOrder v12_lines v12_marks v12_dots v12_madeIn v12_bound v12_places v12_maps v12_tapeMany v12_stories v12_base v12_at v12_ends v12_fault v12_opened v12_bodies v12_ran v12_ownKind v12_ownNumber] sz) 0 0 (va_A [O12 a12 r12 v12_keptMany v12_done v12_sheets v12_holes v12_worms v12_laidMany v12_wanted v12_orderMany v12_firstOrder v12_lines v12_marks v12_dots v12_madeIn v12_bound v12_places v12_maps v12_tapeMany v12_stories v12_base v12_at v12_ends v12_fault v12_opened v12_bodies v12_ran v12_ownKind v12_ownNumber] sz) := by
  refine ofK_i (cc := cX12_bars) (maxL := 3) (own := RX12) (by decide) rfl rfl (Nat.le_of_ble_eq_true rfl) ?_
  intro p e s m args below meth c Q A ls hsz hx hb hml hts hown hK hA hAB hP hD hl ret
  have hS : va_S A s.heap s.heap [] := va_S.rf
  have hl : lv_has ls 3 [(0, .ref a12), (1, .int p1), (2, .int p2)] := hl
  have l0 : (0 : Int32).toInt = 0 := by decide
  have l1 : ((-1) : Int32).toInt = -1 := by decide
  refine lv_iload_n hx hb dX12_bars_0 rfl (lv_at hl 1 rfl) ?_
  refine kcm_i hA hAB hP hD hS [false] rfl (fun _ => rfl) (fun hPc hDc => va_runS (As := [.int p1]) (rest := []) ⟨hx, hb, hml, hown, hts⟩ (k_X12_isInk l D κ β s.heap.size p1) (va_cwS 1 hts gX12_bars_X12_isInk rfl rfl rfl (by decide +kernel) ⟨Nat.le_of_ble_eq_true rfl, Nat.le_of_ble_eq_true rfl⟩) (pk_S hK hS hAB hPc hDc) rfl rfl hl.1 rfl (lv_room (Nat.le_of_ble_eq_true rfl)) dX12_bars_1 ⟨Nat.le_of_ble_eq_true rfl, Nat.le_of_ble_eq_true rfl⟩) (fun x1 u2 H locs hw hPD hS => ?_)
  have h3 : (x1.toInt = 1 ∧ 0 ≤ p1.toInt ∧ p1.toInt ≤ 5) ∨ (x1.toInt = 0 ∧ (p1.toInt < 0 ∨ 5 < p1.toInt)) := hw
  obtain ⟨hP, hD⟩ : PD D A [O12 a12 r12 v12_keptMany v12_done v12_sheets v12_holes v12_worms v12_laidMany v12_wanted v12_orderMany v12_firstOrder v12_lines v12_marks v12_dots v12_madeIn v12_bound v12_places v12_maps v12_tapeMany v12_stories v12_base v12_at v12_ends v12_fault v12_opened v12_bodies v12_ran v12_ownKind v12_ownNumber] H := hPD
  refine lv_if_eq (tgt := 31) hx hb dX12_bars_4 (by decide) (fun c4 => ?_) (fun c4 => ?_)
  · have c4 := ci_eq c4
    refine lv_iconst (v := (-1)) hx hb dX12_bars_31 (by decide) ?_
    have hpo : ((0 ≤ p1.toInt ∧ p1.toInt ≤ 5 ∧ 0 ≤ p2.toInt ∧ p2.toInt ≤ 2000) ∧ ((-1) : Int32).toInt = 0) ∨ (¬ (0 ≤ p1.toInt ∧ p1.toInt ≤ 5 ∧ 0 ≤ p2.toInt ∧ p2.toInt ≤ 2000) ∧ ((-1) : Int32).toInt = -1) := (by omega)
    exact ret _ _ _ _ (-1) () dX12_bars_32 hpo hP hD hS
  have c4 := ci_ne c4
  refine lv_iload_n hx hb dX12_bars_7 rfl (lv_at hl 2 rfl) ?_
  refine kcm_i hA hAB hP hD hS [false] rfl (fun _ => rfl) (fun hPc hDc => va_runS (As := [.int p2]) (rest := []) ⟨hx, hb, hml, hown, hts⟩ (k_X12_isYear l D κ β H.size p2) (va_cwS 1 hts gX12_bars_X12_isYear rfl rfl rfl (by decide +kernel) ⟨Nat.le_of_ble_eq_true rfl, Nat.le_of_ble_eq_true rfl⟩) (pk_S hK hS hAB hPc hDc) rfl rfl hl.1 rfl (lv_room (Nat.le_of_ble_eq_true rfl)) dX12_bars_8 ⟨Nat.le_of_ble_eq_true rfl, Nat.le_of_ble_eq_true rfl⟩) (fun x5 u6 H locs hw hPD hS => ?_)
  have h7 : (x5.toInt = 1 ∧ 0 ≤ p2.toInt ∧ p2.toInt ≤ 2000) ∨ (x5.toInt = 0 ∧ (p2.toInt < 0 ∨ 2000 < p2.toInt)) := hw
  obtain ⟨hP, hD⟩ : PD D A [O12 a12 r12 v12_keptMany v12_done v12_sheets v12_holes v12_worms v12_laidMany v12_wanted v12_orderMany v12_firstOrder v12_lines v12_marks v12_dots v12_madeIn v12_bound v12_places v12_maps v12_tapeMany v12_stories v12_base v12_at v12_ends v12_fault v12_opened v12_bodies v12_ran v12_ownKind v12_ownNumber] H := hPD
  refine lv_if_eq (tgt := 31) hx hb dX12_bars_11 (by decide) (fun c8 => ?_) (fun c8 => ?_)
  · have c8 := ci_eq c8
    refine lv_iconst (v := (-1)) hx hb dX12_bars_31 (by decide) ?_
    have hpo : ((0 ≤ p1.toInt ∧ p1.toInt ≤ 5 ∧ 0 ≤ p2.toInt ∧ p2.toInt ≤ 2000) ∧ ((-1) : Int32).toInt = 0) ∨ (¬ (0 ≤ p1.toInt ∧ p1.toInt ≤ 5 ∧ 0 ≤ p2.toInt ∧ p2.toInt ≤ 2000) ∧ ((-1) : Int32).toInt = -1) := (by omega)
    exact ret _ _ _ _ (-1) () dX12_bars_32 hpo hP hD hS
  have c8 := ci_ne c8
  refine lv_aload_n hx hb dX12_bars_14 rfl (lv_at hl 0 rfl) ?_
  refine lv_iload_n hx hb dX12_bars_15 rfl (lv_at hl 1 rfl) ?_
  refine lv_iload_n hx hb dX12_bars_16 rfl (lv_at hl 2 rfl) ?_
  refine kcm_i hA hAB hP hD hS [true] rfl (fun _ => rfl) (fun hPc hDc => va_runV (As := [.int p1, .int p2]) (rest := []) ⟨hx, hb, hml, hown, hts⟩ (k_X12_doesBar l D κ β a12 r12 v12_keptMany v12_done v12_sheets v12_holes v12_worms v12_laidMany v12_wanted v12_orderMany v12_firstOrder v12_lines v12_marks v12_dots v12_madeIn v12_bound v12_places v12_maps v12_tapeMany v12_stories v12_base v12_at v12_ends v12_fault v12_opened v12_bodies v12_ran v12_ownKind v12_ownNumber H.size p1 p2 i1 i2 i3 i4 i5 i6 i7 i8 i9 i10 i11 i12 i13 i14 i15 i16 i17 (by omega) (by omega) (by omega) (by omega) (by omega) (by omega) (by omega) (by omega) (by omega) (by omega) (by omega) (by omega) (by omega) (by omega)) (cwV 2 hts gX12_bars_X12_doesBar rfl rfl rfl (by decide +kernel) ⟨Nat.le_of_ble_eq_true rfl, Nat.le_of_ble_eq_true rfl⟩) (pk_V hK hS hAB hPc hDc 0 (ci := 12) rfl rfl rfl) rfl rfl hl.1 rfl (lv_room (Nat.le_of_ble_eq_true rfl)) dX12_bars_17 ⟨Nat.le_of_ble_eq_true rfl, Nat.le_of_ble_eq_true rfl⟩) (fun x9 u10 H locs hw hPD hS => ?_)
  have h11 : x9.toInt = 0 := hw
  obtain ⟨hP, hD⟩ : PD D A [O12 a12 r12 v12_keptMany v12_done v12_sheets v12_holes v12_worms v12_laidMany v12_wanted v12_orderMany v12_firstOrder v12_lines v12_marks v12_dots v12_madeIn v12_bound v12_places v12_maps v12_tapeMany v12_stories v12_base v12_at v12_ends v12_fault v12_opened v12_bodies v12_ran v12_ownKind v12_ownNumber] H := hPD
  refine lv_if_eq (tgt := 27) hx hb dX12_bars_20 (by decide) (fun c12 => ?_) (fun c12 => ?_)
  · have c12 := ci_eq c12
    refine lv_iconst (v := 0) hx hb dX12_bars_27 (by decide) ?_
    refine lv_goto (tgt := 32) hx hb dX12_bars_28 (by decide) ?_
    have hpo : ((0 ≤ p1.toInt ∧ p1.toInt ≤ 5 ∧ 0 ≤ p2.toInt ∧ p2.toInt ≤ 2000) ∧ (0 : Int32).toInt = 0) ∨ (¬ (0 ≤ p1.toInt ∧ p1.toInt ≤ 5 ∧ 0 ≤ p2.toInt ∧ p2.toInt ≤ 2000) ∧ (0 : Int32).toInt = -1) := (by omega)
    exact ret _ _ _ _ 0 () dX12_bars_32 hpo hP hD hS
  have c12 := ci_ne c12
  exfalso
  omega
set_option maxHeartbeats 4000000 in
set_option maxRecDepth 100000 in
theorem k_X12_place (l : Launch) (D : va_G) (κ : Nat → ClassId) (β : Nat) (a12 : Nat) (r12 : Nat → Nat) (v12_keptMany : Int32) (v12_done : Int32) (v12_sheets : Int32) (v12_holes : Int32) (v12_worms : Int32) (v12_laidMany : Int32) (v12_wanted : Int32) (v12_orderMany : Int32) (v12_firstOrder : Int32) (v12_lines : Int32) (v12_marks : Int32) (v12_dots : Int32) (v12_madeIn : Int32) (v12_bound : Int32) (v12_places : Int32) (v12_maps : Int32) (v12_tapeMany : Int32) (v12_stories : Int32) (v12_base : Int32) (v12_at : Int32) (v12_ends : Int32) (v12_fault : Int32) (v12_opened : Int32) (v12_bodies : Int32) (v12_ran : Int32) (v12_ownKind : Int32) (v12_ownNumber : Int32) (f12_known : Nat → Int32) (f12_truly : Nat → Int32) (f12_drawn : Nat → Int32) (sz : Nat) (p1 : Int32) (p2 : Int32) (p3 : Int32) (i1 : Rg 0 40 v12_keptMany) (i2 : Rg 0 40 v12_done) (i3 : Rg 0 8 v12_sheets) (i4 : Rg 0 40 v12_holes) (i5 : Rg 0 40 v12_worms) (i6 : Rg 0 8 v12_laidMany) (i7 : Rg 0 8 v12_wanted) (i8 : Rg 0 20 v12_lines) (i9 : Rg 0 60 v12_marks) (i10 : Rg 0 40 v12_dots) (i11 : Rg 0 20 v12_places) (i12 : Rg 0 8 v12_maps) (i13 : Rg 0 120 v12_tapeMany) (i14 : Rg 0 6 v12_stories) (i15 : Rg 0 50 v12_bodies) (i16 : Rg 0 1000 v12_ran) (i17 : v12_done.toInt ≤ v12_keptMany.toInt) (i18 : v12_keptMany.toInt = 0) (i19 : v12_done.toInt = 0) (i20 : v12_sheets.toInt = 0) (i21 : v12_holes.toInt = 0) (i22 : v12_worms.toInt = 0) (i23 : v12_lines.toInt = 0) (i24 : v12_marks.toInt = 0) (i25 : v12_dots.toInt = 0) (i26 : v12_madeIn.toInt = 2001) (i27 : v12_places.toInt = 0) (i28 : v12_maps.toInt = 0) (i29 : v12_tapeMany.toInt = 0) (i30 : v12_stories.toInt = 0) (i31 : v12_bodies.toInt = 0) : Met l yX12_place wsX12_place ({ frames := 2, cells := 0, slots := 0, locals := 45 } : Room) (PcK D κ β [O12 a12 r12 v12_keptMany v12_done v12_sheets v12_holes v12_worms v12_laidMany v12_wanted v12_orderMany v12_firstOrder v12_lines v12_marks v12_dots v12_madeIn v12_bound v12_places v12_maps v12_tapeMany v12_stories v12_base v12_at v12_ends v12_fault v12_opened v12_bodies v12_ran v12_ownKind v12_ownNumber, (cI κ (r12 35) 20 f12_known), (cI κ (r12 36) 20 f12_truly), (cI κ (r12 37) 20 f12_drawn)] sz [.ref a12, .int p1, .int p2, .int p3]) (QiK D (fun (r : Int32) (u : Int32 × (Nat → Int32) × (Nat → Int32) × (Nat → Int32)) => (0 ≤ u.1.toInt ∧ u.1.toInt ≤ 20) ∧ ((¬ (0 ≤ p1.toInt ∧ p1.toInt ≤ 2000 ∧ 0 ≤ p2.toInt ∧ p2.toInt ≤ 9999 ∧ 0 ≤ p3.toInt ∧ p3.toInt ≤ 9999) ∧ r.toInt = -1 ∧ u.1.toInt = v12_places.toInt) ∨ ((0 ≤ p1.toInt ∧ p1.toInt ≤ 2000 ∧ 0 ≤ p2.toInt ∧ p2.toInt ≤ 9999 ∧ 0 ≤ p3.toInt ∧ p3.toInt ≤ 9999) ∧ v12_places.toInt = 20 ∧ r.toInt = -3 ∧ u.1.toInt = v12_places.toInt) ∨ ((0 ≤ p1.toInt ∧ p1.toInt ≤ 2000 ∧ 0 ≤ p2.toInt ∧ p2.toInt ≤ 9999 ∧ 0 ≤ p3.toInt ∧ p3.toInt ≤ 9999) ∧ v12_places.toInt < 20 ∧ r.toInt = v12_places.toInt ∧ u.1.toInt = v12_places.toInt + 1))) (fun (u : Int32 × (Nat → Int32) × (Nat → Int32) × (Nat → Int32)) => [O12 a12 r12 v12_keptMany v12_done v12_sheets v12_holes v12_worms v12_laidMany v12_wanted v12_orderMany v12_firstOrder v12_lines v12_marks v12_dots v12_madeIn v12_bound u.1 v12_maps v12_tapeMany v12_stories v12_base v12_at v12_ends v12_fault v12_opened v12_bodies v12_ran v12_ownKind v12_ownNumber, (cI κ (r12 35) 20 u.2.1), (cI κ (r12 36) 20 u.2.2.1), (cI κ (r12 37) 20 u.2.2.2)]) [O12 a12 r12 v12_keptMany v12_done v12_sheets v12_holes v12_worms v12_laidMany v12_wanted v12_orderMany v12_firstOrder v12_lines v12_marks v12_dots v12_madeIn v12_bound v12_places v12_maps v12_tapeMany v12_stories v12_base v12_at v12_ends v12_fault v12_opened v12_bodies v12_ran v12_ownKind v12_ownNumber, (cI κ (r12 35) 20 f12_known), (cI κ (r12 36) 20 f12_truly), (cI κ (r12 37) 20 f12_drawn)] sz) 0 0 (va_A [O12 a12 r12 v12_keptMany v12_done v12_sheets v12_holes v12_worms v12_laidMany v12_wanted v12_orderMany v12_firstOrder v12_lines v12_marks v12_dots v12_madeIn v12_bound v12_places v12_maps v12_tapeMany v12_stories v12_base v12_at v12_ends v12_fault v12_opened v12_bodies v12_ran v12_ownKind v12_ownNumber, (cI κ (r12 35) 20 f12_known), (cI κ (r12 36) 20 f12_truly), (cI κ (r12 37) 20 f12_drawn)] sz) := by
  refine ofK_i (cc := cX12_place) (maxL := 4) (own := RX12) (by decide) rfl rfl (Nat.le_of_ble_eq_true rfl) ?_
  intro p e s m args below meth c Q A ls hsz hx hb hml hts hown hK hA hAB hP hD hl ret
  have hS : va_S A s.heap s.heap [] := va_S.rf
  have hl : lv_has ls 4 [(0, .ref a12), (1, .int p1), (2, .int p2), (3, .int p3)] := hl
  have w0 := hts (.constantLong RX12 225 (9999)) (List.mem_of_getElem? (i := 1) rfl)
  have w1 := hts (.fieldLink RX12 262 "OlderSkinModel" "places" "I") (List.mem_of_getElem? (i := 2) rfl)
  have w2 := (fun w h => List.mem_cons_of_mem _ (List.mem_append_right _ h) : ∀ w ∈ u_ws RX12 TX12 63, w ∈ wsX12_place)
  have w3 := hts (.fieldLink RX12 71 "OlderSkinModel" "known" "[I") (List.mem_of_getElem? (i := 3) rfl)
  have w4 := hts (.fieldLink RX12 74 "OlderSkinModel" "truly" "[I") (List.mem_of_getElem? (i := 4) rfl)
  have w5 := hts (.fieldLink RX12 77 "OlderSkinModel" "drawn" "[I") (List.mem_of_getElem? (i := 5) rfl)
  have l0 : (0 : Int32).toInt = 0 := by decide
  have l1 : ((-1) : Int32).toInt = -1 := by decide
  have l2 : (0 : Int64).toInt = 0 := by decide
  have l3 : (9999 : Int64).toInt = 9999 := by decide
  have l4 : (20 : Int32).toInt = 20 := by decide
  have l5 : (1 : Int32).toInt = 1 := by decide
  have l6 : ((-3) : Int32).toInt = -3 := by decide
  have i11 : 0 ≤ v12_places.toInt ∧ v12_places.toInt ≤ 20 := i11
  refine lv_iload_n hx hb dX12_place_0 rfl (lv_at hl 1 rfl) ?_
  refine kcm_i hA hAB hP hD hS [false, false, false, false] rfl (fun _ => rfl) (fun hPc hDc => va_runS (As := [.int p1]) (rest := []) ⟨hx, hb, hml, hown, hts⟩ (k_X12_isYear l D κ β s.heap.size p1) (va_cwS 1 hts gX12_place_X12_isYear rfl rfl rfl (by decide +kernel) ⟨Nat.le_of_ble_eq_true rfl, Nat.le_of_ble_eq_true rfl⟩) (pk_S hK hS hAB hPc hDc) rfl rfl hl.1 rfl (lv_room (Nat.le_of_ble_eq_true rfl)) dX12_place_1 ⟨Nat.le_of_ble_eq_true rfl, Nat.le_of_ble_eq_true rfl⟩) (fun x1 u2 H locs hw hPD hS => ?_)
  have h3 : (x1.toInt = 1 ∧ 0 ≤ p1.toInt ∧ p1.toInt ≤ 2000) ∨ (x1.toInt = 0 ∧ (p1.toInt < 0 ∨ 2000 < p1.toInt)) := hw
  obtain ⟨hP, hD⟩ : PD D A [O12 a12 r12 v12_keptMany v12_done v12_sheets v12_holes v12_worms v12_laidMany v12_wanted v12_orderMany v12_firstOrder v12_lines v12_marks v12_dots v12_madeIn v12_bound v12_places v12_maps v12_tapeMany v12_stories v12_base v12_at v12_ends v12_fault v12_opened v12_bodies v12_ran v12_ownKind v12_ownNumber, (cI κ (r12 35) 20 f12_known), (cI κ (r12 36) 20 f12_truly), (cI κ (r12 37) 20 f12_drawn)] H := hPD
  refine lv_if_eq (tgt := 31) hx hb dX12_place_4 (by decide) (fun c4 => ?_) (fun c4 => ?_)
  · have c4 := ci_eq c4
    refine lv_iconst (v := (-1)) hx hb dX12_place_31 (by decide) ?_
    have hpo : (0 ≤ v12_places.toInt ∧ v12_places.toInt ≤ 20) ∧ ((¬ (0 ≤ p1.toInt ∧ p1.toInt ≤ 2000 ∧ 0 ≤ p2.toInt ∧ p2.toInt ≤ 9999 ∧ 0 ≤ p3.toInt ∧ p3.toInt ≤ 9999) ∧ ((-1) : Int32).toInt = -1 ∧ v12_places.toInt = v12_places.toInt) ∨ ((0 ≤ p1.toInt ∧ p1.toInt ≤ 2000 ∧ 0 ≤ p2.toInt ∧ p2.toInt ≤ 9999 ∧ 0 ≤ p3.toInt ∧ p3.toInt ≤ 9999) ∧ v12_places.toInt = 20 ∧ ((-1) : Int32).toInt = -3 ∧ v12_places.toInt = v12_places.toInt) ∨ ((0 ≤ p1.toInt ∧ p1.toInt ≤ 2000 ∧ 0 ≤ p2.toInt ∧ p2.toInt ≤ 9999 ∧ 0 ≤ p3.toInt ∧ p3.toInt ≤ 9999) ∧ v12_places.toInt < 20 ∧ ((-1) : Int32).toInt = v12_places.toInt ∧ v12_places.toInt = v12_places.toInt + 1)) := ⟨i11, (by omega)⟩
    exact ret _ _ _ _ (-1) (v12_places, f12_known, f12_truly, f12_drawn) dX12_place_32 hpo hP hD hS
  have c4 := ci_ne c4
  refine lv_iload_n hx hb dX12_place_7 rfl (lv_at hl 2 rfl) ?_
  refine lv_i2l hx hb dX12_place_8 rfl ?_
  refine lv_topl (fun x5 e6 => ?_)
  have h7 : x5.toInt = p2.toInt := cl_i2l e6
  refine lv_lconst (v := (0 : Int64)) hx hb dX12_place_9 (by decide) ?_
  refine lv_ldc2 (v := (9999 : Int64)) hx hb hown w0 dX12_place_10 ?_
  refine kcm_i hA hAB hP hD hS [false, false, false, false] rfl (fun _ => rfl) (fun hPc hDc => va_runS (As := [.long x5, .long (0 : Int64), .long (9999 : Int64)]) (rest := []) ⟨hx, hb, hml, hown, hts⟩ (k_X12_within l D κ β H.size x5 (0 : Int64) (9999 : Int64)) (va_cwS 3 hts gX12_place_X12_within rfl rfl rfl (by decide +kernel) ⟨Nat.le_of_ble_eq_true rfl, Nat.le_of_ble_eq_true rfl⟩) (pk_S hK hS hAB hPc hDc) rfl rfl hl.1 rfl (lv_room (Nat.le_of_ble_eq_true rfl)) dX12_place_13 ⟨Nat.le_of_ble_eq_true rfl, Nat.le_of_ble_eq_true rfl⟩) (fun x8 u9 H locs hw hPD hS => ?_)
  have h10 : (x8.toInt = 1 ∧ (0 : Int64).toInt ≤ x5.toInt ∧ x5.toInt ≤ (9999 : Int64).toInt) ∨ (x8.toInt = 0 ∧ (x5.toInt < (0 : Int64).toInt ∨ (9999 : Int64).toInt < x5.toInt)) := hw
  obtain ⟨hP, hD⟩ : PD D A [O12 a12 r12 v12_keptMany v12_done v12_sheets v12_holes v12_worms v12_laidMany v12_wanted v12_orderMany v12_firstOrder v12_lines v12_marks v12_dots v12_madeIn v12_bound v12_places v12_maps v12_tapeMany v12_stories v12_base v12_at v12_ends v12_fault v12_opened v12_bodies v12_ran v12_ownKind v12_ownNumber, (cI κ (r12 35) 20 f12_known), (cI κ (r12 36) 20 f12_truly), (cI κ (r12 37) 20 f12_drawn)] H := hPD
  refine lv_if_eq (tgt := 31) hx hb dX12_place_16 (by decide) (fun c11 => ?_) (fun c11 => ?_)
  · have c11 := ci_eq c11
    refine lv_iconst (v := (-1)) hx hb dX12_place_31 (by decide) ?_
    have hpo : (0 ≤ v12_places.toInt ∧ v12_places.toInt ≤ 20) ∧ ((¬ (0 ≤ p1.toInt ∧ p1.toInt ≤ 2000 ∧ 0 ≤ p2.toInt ∧ p2.toInt ≤ 9999 ∧ 0 ≤ p3.toInt ∧ p3.toInt ≤ 9999) ∧ ((-1) : Int32).toInt = -1 ∧ v12_places.toInt = v12_places.toInt) ∨ ((0 ≤ p1.toInt ∧ p1.toInt ≤ 2000 ∧ 0 ≤ p2.toInt ∧ p2.toInt ≤ 9999 ∧ 0 ≤ p3.toInt ∧ p3.toInt ≤ 9999) ∧ v12_places.toInt = 20 ∧ ((-1) : Int32).toInt = -3 ∧ v12_places.toInt = v12_places.toInt) ∨ ((0 ≤ p1.toInt ∧ p1.toInt ≤ 2000 ∧ 0 ≤ p2.toInt ∧ p2.toInt ≤ 9999 ∧ 0 ≤ p3.toInt ∧ p3.toInt ≤ 9999) ∧ v12_places.toInt < 20 ∧ ((-1) : Int32).toInt = v12_places.toInt ∧ v12_places.toInt = v12_places.toInt + 1)) := ⟨i11, (by omega)⟩
    exact ret _ _ _ _ (-1) (v12_places, f12_known, f12_truly, f12_drawn) dX12_place_32 hpo hP hD hS
  have c11 := ci_ne c11
  refine lv_iload_n hx hb dX12_place_19 rfl (lv_at hl 3 rfl) ?_
  refine lv_i2l hx hb dX12_place_20 rfl ?_
  refine lv_topl (fun x12 e13 => ?_)
  have h14 : x12.toInt = p3.toInt := cl_i2l e13
  refine lv_lconst (v := (0 : Int64)) hx hb dX12_place_21 (by decide) ?_
  refine lv_ldc2 (v := (9999 : Int64)) hx hb hown w0 dX12_place_22 ?_
  refine kcm_i hA hAB hP hD hS [false, false, false, false] rfl (fun _ => rfl) (fun hPc hDc => va_runS (As := [.long x12, .long (0 : Int64), .long (9999 : Int64)]) (rest := []) ⟨hx, hb, hml, hown, hts⟩ (k_X12_within l D κ β H.size x12 (0 : Int64) (9999 : Int64)) (va_cwS 3 hts gX12_place_X12_within rfl rfl rfl (by decide +kernel) ⟨Nat.le_of_ble_eq_true rfl, Nat.le_of_ble_eq_true rfl⟩) (pk_S hK hS hAB hPc hDc) rfl rfl hl.1 rfl (lv_room (Nat.le_of_ble_eq_true rfl)) dX12_place_25 ⟨Nat.le_of_ble_eq_true rfl, Nat.le_of_ble_eq_true rfl⟩) (fun x15 u16 H locs hw hPD hS => ?_)
  have h17 : (x15.toInt = 1 ∧ (0 : Int64).toInt ≤ x12.toInt ∧ x12.toInt ≤ (9999 : Int64).toInt) ∨ (x15.toInt = 0 ∧ (x12.toInt < (0 : Int64).toInt ∨ (9999 : Int64).toInt < x12.toInt)) := hw
  obtain ⟨hP, hD⟩ : PD D A [O12 a12 r12 v12_keptMany v12_done v12_sheets v12_holes v12_worms v12_laidMany v12_wanted v12_orderMany v12_firstOrder v12_lines v12_marks v12_dots v12_madeIn v12_bound v12_places v12_maps v12_tapeMany v12_stories v12_base v12_at v12_ends v12_fault v12_opened v12_bodies v12_ran v12_ownKind v12_ownNumber, (cI κ (r12 35) 20 f12_known), (cI κ (r12 36) 20 f12_truly), (cI κ (r12 37) 20 f12_drawn)] H := hPD
  refine lv_if_ne (tgt := 33) hx hb dX12_place_28 (by decide) (fun c18 => ?_) (fun c18 => ?_)
  · have c18 := ci_ne c18
    refine lv_aload_n hx hb dX12_place_33 rfl (lv_at hl 0 rfl) ?_
    refine va_get (D := D) (ci := 12) (v := .int v12_places) (C := RX12) (T := TX12) (N := 63) hx hb hts w2 hown hK.1 hP 0 rfl rfl 34 (by decide) w1 (fun _ h9 => h9) rfl dX12_place_34 ?_
    refine lv_bipush (v := 20) hx hb dX12_place_37 (by decide) ?_
    refine lv_icmp_ne (tgt := 45) hx hb dX12_place_39 (by decide) (fun c19 => ?_) (fun c19 => ?_)
    · have c19 := ci_ne c19
      refine lv_aload_n hx hb dX12_place_45 rfl (lv_at hl 0 rfl) ?_
      refine va_get (D := D) (ci := 12) (v := .ref (r12 35)) (C := RX12) (T := TX12) (N := 63) hx hb hts w2 hown hK.1 hP 0 rfl rfl 35 (by decide) w3 (fun _ h9 => h9) rfl dX12_place_46 ?_
      refine lv_aload_n hx hb dX12_place_49 rfl (lv_at hl 0 rfl) ?_
      refine va_get (D := D) (ci := 12) (v := .int v12_places) (C := RX12) (T := TX12) (N := 63) hx hb hts w2 hown hK.1 hP 0 rfl rfl 34 (by decide) w1 (fun _ h9 => h9) rfl dX12_place_50 ?_
      refine lv_iload_n hx hb dX12_place_53 rfl (lv_at hl 1 rfl) ?_
      refine va_iast hx hb hK.1 hP hD hS 1 1 rfl rfl (i := v12_places) (ix (by omega) (by omega)) dX12_place_54 (fun H locs hP hD hS => ?_)
      obtain ⟨g20, e21⟩ : ∃ y : Nat → Int32, y = upd f12_known v12_places.toNatClampNeg p1 := ⟨_, rfl⟩
      rw [← e21] at hP hD
      obtain ⟨hP, hD⟩ : PD D A [O12 a12 r12 v12_keptMany v12_done v12_sheets v12_holes v12_worms v12_laidMany v12_wanted v12_orderMany v12_firstOrder v12_lines v12_marks v12_dots v12_madeIn v12_bound v12_places v12_maps v12_tapeMany v12_stories v12_base v12_at v12_ends v12_fault v12_opened v12_bodies v12_ran v12_ownKind v12_ownNumber, (cI κ (r12 35) 20 g20), (cI κ (r12 36) 20 f12_truly), (cI κ (r12 37) 20 f12_drawn)] H := ⟨hP, hD⟩
      refine lv_aload_n hx hb dX12_place_55 rfl (lv_at hl 0 rfl) ?_
      refine va_get (D := D) (ci := 12) (v := .ref (r12 36)) (C := RX12) (T := TX12) (N := 63) hx hb hts w2 hown hK.1 hP 0 rfl rfl 36 (by decide) w4 (fun _ h9 => h9) rfl dX12_place_56 ?_
      refine lv_aload_n hx hb dX12_place_59 rfl (lv_at hl 0 rfl) ?_
      refine va_get (D := D) (ci := 12) (v := .int v12_places) (C := RX12) (T := TX12) (N := 63) hx hb hts w2 hown hK.1 hP 0 rfl rfl 34 (by decide) w1 (fun _ h9 => h9) rfl dX12_place_60 ?_
      refine lv_iload_n hx hb dX12_place_63 rfl (lv_at hl 2 rfl) ?_
      refine va_iast hx hb hK.1 hP hD hS 2 1 rfl rfl (i := v12_places) (ix (by omega) (by omega)) dX12_place_64 (fun H locs hP hD hS => ?_)
      obtain ⟨g22, e23⟩ : ∃ y : Nat → Int32, y = upd f12_truly v12_places.toNatClampNeg p2 := ⟨_, rfl⟩
      rw [← e23] at hP hD
      obtain ⟨hP, hD⟩ : PD D A [O12 a12 r12 v12_keptMany v12_done v12_sheets v12_holes v12_worms v12_laidMany v12_wanted v12_orderMany v12_firstOrder v12_lines v12_marks v12_dots v12_madeIn v12_bound v12_places v12_maps v12_tapeMany v12_stories v12_base v12_at v12_ends v12_fault v12_opened v12_bodies v12_ran v12_ownKind v12_ownNumber, (cI κ (r12 35) 20 g20), (cI κ (r12 36) 20 g22), (cI κ (r12 37) 20 f12_drawn)] H := ⟨hP, hD⟩
      refine lv_aload_n hx hb dX12_place_65 rfl (lv_at hl 0 rfl) ?_
      refine va_get (D := D) (ci := 12) (v := .ref (r12 37)) (C := RX12) (T := TX12) (N := 63) hx hb hts w2 hown hK.1 hP 0 rfl rfl 37 (by decide) w5 (fun _ h9 => h9) rfl dX12_place_66 ?_
      refine lv_aload_n hx hb dX12_place_69 rfl (lv_at hl 0 rfl) ?_
      refine va_get (D := D) (ci := 12) (v := .int v12_places) (C := RX12) (T := TX12) (N := 63) hx hb hts w2 hown hK.1 hP 0 rfl rfl 34 (by decide) w1 (fun _ h9 => h9) rfl dX12_place_70 ?_
      refine lv_iload_n hx hb dX12_place_73 rfl (lv_at hl 3 rfl) ?_
      refine va_iast hx hb hK.1 hP hD hS 3 1 rfl rfl (i := v12_places) (ix (by omega) (by omega)) dX12_place_74 (fun H locs hP hD hS => ?_)
      obtain ⟨g24, e25⟩ : ∃ y : Nat → Int32, y = upd f12_drawn v12_places.toNatClampNeg p3 := ⟨_, rfl⟩
      rw [← e25] at hP hD
      obtain ⟨hP, hD⟩ : PD D A [O12 a12 r12 v12_keptMany v12_done v12_sheets v12_holes v12_worms v12_laidMany v12_wanted v12_orderMany v12_firstOrder v12_lines v12_marks v12_dots v12_madeIn v12_bound v12_places v12_maps v12_tapeMany v12_stories v12_base v12_at v12_ends v12_fault v12_opened v12_bodies v12_ran v12_ownKind v12_ownNumber, (cI κ (r12 35) 20 g20), (cI κ (r12 36) 20 g22), (cI κ (r12 37) 20 g24)] H := ⟨hP, hD⟩
      refine lv_aload_n hx hb dX12_place_75 rfl (lv_at hl 0 rfl) ?_
      refine lv_dup hx hb dX12_place_76 rfl ?_
      refine va_get (D := D) (ci := 12) (v := .int v12_places) (C := RX12) (T := TX12) (N := 63) hx hb hts w2 hown hK.1 hP 0 rfl rfl 34 (by decide) w1 (fun _ h9 => h9) rfl dX12_place_77 ?_
      refine lv_iconst (v := 1) hx hb dX12_place_80 (by decide) ?_
      refine lv_iadd hx hb dX12_place_81 ?_
      refine lv_topi (fun x26 e27 => ?_)
      try have h28 : x26.toInt = v12_places.toInt + (1 : Int32).toInt := ci_add e27 (by omega) (by omega)
      refine va_put (D := D) (ci := 12) (v := .int x26) (ty := .int) (C := RX12) (T := TX12) (N := 63) hx hb hts w2 tyX12 tyX12_ok nmX12 hown hK.1 hP hD hS 0 rfl rfl 34 (by decide) w1 (fun _ h9 => h9) rfl (by decide +kernel) rfl rfl (Nat.le_of_ble_eq_true rfl) dX12_place_82 (fun H locs hP hD hS => ?_)
      obtain ⟨hP, hD⟩ : PD D A [O12 a12 r12 v12_keptMany v12_done v12_sheets v12_holes v12_worms v12_laidMany v12_wanted v12_orderMany v12_firstOrder v12_lines v12_marks v12_dots v12_madeIn v12_bound x26 v12_maps v12_tapeMany v12_stories v12_base v12_at v12_ends v12_fault v12_opened v12_bodies v12_ran v12_ownKind v12_ownNumber, (cI κ (r12 35) 20 g20), (cI κ (r12 36) 20 g22), (cI κ (r12 37) 20 g24)] H := ⟨hP, hD⟩
      have h29 : 0 ≤ x26.toInt ∧ x26.toInt ≤ 20 := by omega
      refine lv_aload_n hx hb dX12_place_85 rfl (lv_at hl 0 rfl) ?_
      refine va_get (D := D) (ci := 12) (v := .int x26) (C := RX12) (T := TX12) (N := 63) hx hb hts w2 hown hK.1 hP 0 rfl rfl 34 (by decide) w1 (fun _ h9 => h9) rfl dX12_place_86 ?_
      refine lv_iconst (v := 1) hx hb dX12_place_89 (by decide) ?_
      refine lv_isub hx hb dX12_place_90 ?_
      refine lv_topi (fun x30 e31 => ?_)
      try have h32 : x30.toInt = x26.toInt - (1 : Int32).toInt := ci_sub e31 (by omega) (by omega)
      have hpo : (0 ≤ x26.toInt ∧ x26.toInt ≤ 20) ∧ ((¬ (0 ≤ p1.toInt ∧ p1.toInt ≤ 2000 ∧ 0 ≤ p2.toInt ∧ p2.toInt ≤ 9999 ∧ 0 ≤ p3.toInt ∧ p3.toInt ≤ 9999) ∧ x30.toInt = -1 ∧ x26.toInt = v12_places.toInt) ∨ ((0 ≤ p1.toInt ∧ p1.toInt ≤ 2000 ∧ 0 ≤ p2.toInt ∧ p2.toInt ≤ 9999 ∧ 0 ≤ p3.toInt ∧ p3.toInt ≤ 9999) ∧ v12_places.toInt = 20 ∧ x30.toInt = -3 ∧ x26.toInt = v12_places.toInt) ∨ ((0 ≤ p1.toInt ∧ p1.toInt ≤ 2000 ∧ 0 ≤ p2.toInt ∧ p2.toInt ≤ 9999 ∧ 0 ≤ p3.toInt ∧ p3.toInt ≤ 9999) ∧ v12_places.toInt < 20 ∧ x30.toInt = v12_places.toInt ∧ x26.toInt = v12_places.toInt + 1)) := ⟨h29, (by omega)⟩
      exact ret _ _ _ _ x30 (x26, g20, g22, g24) dX12_place_91 hpo hP hD hS
    have c19 := ci_eq c19
    refine lv_bipush (v := (-3)) hx hb dX12_place_42 (by decide) ?_
    have hpo : (0 ≤ v12_places.toInt ∧ v12_places.toInt ≤ 20) ∧ ((¬ (0 ≤ p1.toInt ∧ p1.toInt ≤ 2000 ∧ 0 ≤ p2.toInt ∧ p2.toInt ≤ 9999 ∧ 0 ≤ p3.toInt ∧ p3.toInt ≤ 9999) ∧ ((-3) : Int32).toInt = -1 ∧ v12_places.toInt = v12_places.toInt) ∨ ((0 ≤ p1.toInt ∧ p1.toInt ≤ 2000 ∧ 0 ≤ p2.toInt ∧ p2.toInt ≤ 9999 ∧ 0 ≤ p3.toInt ∧ p3.toInt ≤ 9999) ∧ v12_places.toInt = 20 ∧ ((-3) : Int32).toInt = -3 ∧ v12_places.toInt = v12_places.toInt) ∨ ((0 ≤ p1.toInt ∧ p1.toInt ≤ 2000 ∧ 0 ≤ p2.toInt ∧ p2.toInt ≤ 9999 ∧ 0 ≤ p3.toInt ∧ p3.toInt ≤ 9999) ∧ v12_places.toInt < 20 ∧ ((-3) : Int32).toInt = v12_places.toInt ∧ v12_places.toInt = v12_places.toInt + 1)) := ⟨i11, (by omega)⟩
    exact ret _ _ _ _ (-3) (v12_places, f12_known, f12_truly, f12_drawn) dX12_place_44 hpo hP hD hS
  have c18 := ci_eq c18
  refine lv_iconst (v := (-1)) hx hb dX12_place_31 (by decide) ?_
  have hpo : (0 ≤ v12_places.toInt ∧ v12_places.toInt ≤ 20) ∧ ((¬ (0 ≤ p1.toInt ∧ p1.toInt ≤ 2000 ∧ 0 ≤ p2.toInt ∧ p2.toInt ≤ 9999 ∧ 0 ≤ p3.toInt ∧ p3.toInt ≤ 9999) ∧ ((-1) : Int32).toInt = -1 ∧ v12_places.toInt = v12_places.toInt) ∨ ((0 ≤ p1.toInt ∧ p1.toInt ≤ 2000 ∧ 0 ≤ p2.toInt ∧ p2.toInt ≤ 9999 ∧ 0 ≤ p3.toInt ∧ p3.toInt ≤ 9999) ∧ v12_places.toInt = 20 ∧ ((-1) : Int32).toInt = -3 ∧ v12_places.toInt = v12_places.toInt) ∨ ((0 ≤ p1.toInt ∧ p1.toInt ≤ 2000 ∧ 0 ≤ p2.toInt ∧ p2.toInt ≤ 9999 ∧ 0 ≤ p3.toInt ∧ p3.toInt ≤ 9999) ∧ v12_places.toInt < 20 ∧ ((-1) : Int32).toInt = v12_places.toInt ∧ v12_places.toInt = v12_places.toInt + 1)) := ⟨i11, (by omega)⟩
  exact ret _ _ _ _ (-1) (v12_places, f12_known, f12_truly, f12_drawn) dX12_place_32 hpo hP hD hS
set_option maxHeartbeats 4000000 in
set_option maxRecDepth 100000 in
theorem k_X12_apart (l : Launch) (D : va_G) (κ : Nat → ClassId) (β : Nat) (sz : Nat) (p1 : Int32) (p2 : Int32) (i1 : (1 : Int) ≤ 0) : Met l yX12_apart wsX12_apart ({ frames := 1, cells := 0, slots := 0, locals := 30 } : Room) (PcK D κ β [] sz [.int p1, .int p2]) (QiK D (fun (r : Int32) (u : Unit) => True) (fun (u : Unit) => []) [] sz) 0 0 (va_A [] sz) := by
  refine ofK_i (cc := cX12_apart) (maxL := 2) (own := RX12) (by decide) rfl rfl (Nat.le_of_ble_eq_true rfl) ?_
  intro p e s m args below meth c Q A ls hsz hx hb hml hts hown hK hA hAB hP hD hl ret
  have hS : va_S A s.heap s.heap [] := va_S.rf
  have hl : lv_has ls 2 [(0, .int p1), (1, .int p2)] := hl
  exfalso
  omega
set_option maxHeartbeats 4000000 in
set_option maxRecDepth 100000 in
theorem k_X12_lateMany (l : Launch) (D : va_G) (κ : Nat → ClassId) (β : Nat) (a12 : Nat) (r12 : Nat → Nat) (v12_keptMany : Int32) (v12_done : Int32) (v12_sheets : Int32) (v12_holes : Int32) (v12_worms : Int32) (v12_laidMany : Int32) (v12_wanted : Int32) (v12_orderMany : Int32) (v12_firstOrder : Int32) (v12_lines : Int32) (v12_marks : Int32) (v12_dots : Int32) (v12_madeIn : Int32) (v12_bound : Int32) (v12_places : Int32) (v12_maps : Int32) (v12_tapeMany : Int32) (v12_stories : Int32) (v12_base : Int32) (v12_at : Int32) (v12_ends : Int32) (v12_fault : Int32) (v12_opened : Int32) (v12_bodies : Int32) (v12_ran : Int32) (v12_ownKind : Int32) (v12_ownNumber : Int32) (sz : Nat) (p1 : Int32) (i1 : Rg 0 40 v12_keptMany) (i2 : Rg 0 40 v12_done) (i3 : Rg 0 8 v12_sheets) (i4 : Rg 0 40 v12_holes) (i5 : Rg 0 40 v12_worms) (i6 : Rg 0 8 v12_laidMany) (i7 : Rg 0 8 v12_wanted) (i8 : Rg 0 20 v12_lines) (i9 : Rg 0 60 v12_marks) (i10 : Rg 0 40 v12_dots) (i11 : Rg 0 20 v12_places) (i12 : Rg 0 8 v12_maps) (i13 : Rg 0 120 v12_tapeMany) (i14 : Rg 0 6 v12_stories) (i15 : Rg 0 50 v12_bodies) (i16 : Rg 0 1000 v12_ran) (i17 : v12_done.toInt ≤ v12_keptMany.toInt) (i18 : v12_keptMany.toInt = 0) (i19 : v12_done.toInt = 0) (i20 : v12_sheets.toInt = 0) (i21 : v12_holes.toInt = 0) (i22 : v12_worms.toInt = 0) (i23 : v12_lines.toInt = 0) (i24 : v12_marks.toInt = 0) (i25 : v12_dots.toInt = 0) (i26 : v12_madeIn.toInt = 2001) (i27 : v12_places.toInt = 0) (i28 : v12_maps.toInt = 0) (i29 : v12_tapeMany.toInt = 0) (i30 : v12_stories.toInt = 0) (i31 : v12_bodies.toInt = 0) : Met l yX12_lateMany wsX12_lateMany ({ frames := 0, cells := 0, slots := 0, locals := 0 } : Room) (PcK D κ β [O12 a12 r12 v12_keptMany v12_done v12_sheets v12_holes v12_worms v12_laidMany v12_wanted v12_orderMany v12_firstOrder v12_lines v12_marks v12_dots v12_madeIn v12_bound v12_places v12_maps v12_tapeMany v12_stories v12_base v12_at v12_ends v12_fault v12_opened v12_bodies v12_ran v12_ownKind v12_ownNumber] sz [.ref a12, .int p1]) (QiK D (fun (r : Int32) (u : Unit) => r.toInt = 0) (fun (u : Unit) => [O12 a12 r12 v12_keptMany v12_done v12_sheets v12_holes v12_worms v12_laidMany v12_wanted v12_orderMany v12_firstOrder v12_lines v12_marks v12_dots v12_madeIn v12_bound v12_places v12_maps v12_tapeMany v12_stories v12_base v12_at v12_ends v12_fault v12_opened v12_bodies v12_ran v12_ownKind v12_ownNumber]) [O12 a12 r12 v12_keptMany v12_done v12_sheets v12_holes v12_worms v12_laidMany v12_wanted v12_orderMany v12_firstOrder v12_lines v12_marks v12_dots v12_madeIn v12_bound v12_places v12_maps v12_tapeMany v12_stories v12_base v12_at v12_ends v12_fault v12_opened v12_bodies v12_ran v12_ownKind v12_ownNumber] sz) 0 0 (va_A [O12 a12 r12 v12_keptMany v12_done v12_sheets v12_holes v12_worms v12_laidMany v12_wanted v12_orderMany v12_firstOrder v12_lines v12_marks v12_dots v12_madeIn v12_bound v12_places v12_maps v12_tapeMany v12_stories v12_base v12_at v12_ends v12_fault v12_opened v12_bodies v12_ran v12_ownKind v12_ownNumber] sz) := by
  refine ofK_i (cc := cX12_lateMany) (maxL := 4) (own := RX12) (by decide) rfl rfl (Nat.le_of_ble_eq_true rfl) ?_
  intro p e s m args below meth c Q A ls hsz hx hb hml hts hown hK hA hAB hP hD hl ret
  have hS : va_S A s.heap s.heap [] := va_S.rf
  have hl : lv_has ls 4 [(0, .ref a12), (1, .int p1)] := hl
  have w0 := hts (.fieldLink RX12 262 "OlderSkinModel" "places" "I") (List.mem_of_getElem? (i := 1) rfl)
  have w1 := (fun w h => List.mem_cons_of_mem _ (List.mem_append_right _ h) : ∀ w ∈ u_ws RX12 TX12 63, w ∈ wsX12_lateMany)
  have l0 : (0 : Int32).toInt = 0 := by decide
  have i11 : 0 ≤ v12_places.toInt ∧ v12_places.toInt ≤ 20 := i11
  refine lv_iconst (v := 0) hx hb dX12_lateMany_0 (by decide) ?_
  refine lv_istore_n (lv' := [(2, .int 0), (0, .ref a12), (1, .int p1)]) hx hb dX12_lateMany_1 rfl hl (by decide) rfl (fun ls hl => ?_)
  refine lv_iconst (v := 0) hx hb dX12_lateMany_2 (by decide) ?_
  refine lv_istore_n (lv' := [(3, .int 0), (2, .int 0), (0, .ref a12), (1, .int p1)]) hx hb dX12_lateMany_3 rfl hl (by decide) rfl (fun ls hl => ?_)
  have lp4 : ∀ (n4 : Nat), (0 ≤ (0 : Int32).toInt) → (v12_places.toInt - (0 : Int32).toInt).toNat < n4 → ∀ (H : Heap) (locs : List Loc), va_P D vwCl [O12 a12 r12 v12_keptMany v12_done v12_sheets v12_holes v12_worms v12_laidMany v12_wanted v12_orderMany v12_firstOrder v12_lines v12_marks v12_dots v12_madeIn v12_bound v12_places v12_maps v12_tapeMany v12_stories v12_base v12_at v12_ends v12_fault v12_opened v12_bodies v12_ran v12_ownKind v12_ownNumber] H → va_D A [O12 a12 r12 v12_keptMany v12_done v12_sheets v12_holes v12_worms v12_laidMany v12_wanted v12_orderMany v12_firstOrder v12_lines v12_marks v12_dots v12_madeIn v12_bound v12_places v12_maps v12_tapeMany v12_stories v12_base v12_at v12_ends v12_fault v12_opened v12_bodies v12_ran v12_ownKind v12_ownNumber] → va_S A s.heap H locs → ∀ ls : Array Slot, lv_has ls 4 [(3, .int 0), (2, .int 0), (0, .ref a12), (1, .int p1)] → W p l e ({ frames := 0, cells := 0, slots := 0, locals := 0 } : Room) s m args below meth c H locs 0 0 Q (F0 m 4 ls []) := by
    intro n4
    induction n4 with
    | zero =>
      intro h1 m2
      exact absurd m2 (Nat.not_lt_zero _)
    | succ n4 ih4 =>
      intro h1 m2 H locs hP hD hS ls hl
      refine lv_iload_n hx hb dX12_lateMany_4 rfl (lv_at hl 0 rfl) ?_
      refine lv_aload_n hx hb dX12_lateMany_5 rfl (lv_at hl 2 rfl) ?_
      refine va_get (D := D) (ci := 12) (v := .int v12_places) (C := RX12) (T := TX12) (N := 63) hx hb hts w1 hown hK.1 hP 0 rfl rfl 34 (by decide) w0 (fun _ h9 => h9) rfl dX12_lateMany_6 ?_
      refine lv_icmp_ge (tgt := 36) hx hb dX12_lateMany_9 (by decide) (fun c3 => ?_) (fun c3 => ?_)
      · have c3 := ci_le c3
        refine lv_iload_n hx hb dX12_lateMany_36 rfl (lv_at hl 1 rfl) ?_
        have hpo : (0 : Int32).toInt = 0 := (by omega)
        exact ret _ _ _ _ 0 () dX12_lateMany_37 hpo hP hD hS
      have c3 := ci_nle c3
      exfalso
      omega
  exact lp4 ((v12_places.toInt - (0 : Int32).toInt).toNat + 1) (by omega) (by omega) _ _ hP hD hS _ hl
set_option maxHeartbeats 4000000 in
set_option maxRecDepth 100000 in
theorem k_X12_lateOff (l : Launch) (D : va_G) (κ : Nat → ClassId) (β : Nat) (a12 : Nat) (r12 : Nat → Nat) (v12_keptMany : Int32) (v12_done : Int32) (v12_sheets : Int32) (v12_holes : Int32) (v12_worms : Int32) (v12_laidMany : Int32) (v12_wanted : Int32) (v12_orderMany : Int32) (v12_firstOrder : Int32) (v12_lines : Int32) (v12_marks : Int32) (v12_dots : Int32) (v12_madeIn : Int32) (v12_bound : Int32) (v12_places : Int32) (v12_maps : Int32) (v12_tapeMany : Int32) (v12_stories : Int32) (v12_base : Int32) (v12_at : Int32) (v12_ends : Int32) (v12_fault : Int32) (v12_opened : Int32) (v12_bodies : Int32) (v12_ran : Int32) (v12_ownKind : Int32) (v12_ownNumber : Int32) (sz : Nat) (p1 : Int32) (i1 : Rg 0 40 v12_keptMany) (i2 : Rg 0 40 v12_done) (i3 : Rg 0 8 v12_sheets) (i4 : Rg 0 40 v12_holes) (i5 : Rg 0 40 v12_worms) (i6 : Rg 0 8 v12_laidMany) (i7 : Rg 0 8 v12_wanted) (i8 : Rg 0 20 v12_lines) (i9 : Rg 0 60 v12_marks) (i10 : Rg 0 40 v12_dots) (i11 : Rg 0 20 v12_places) (i12 : Rg 0 8 v12_maps) (i13 : Rg 0 120 v12_tapeMany) (i14 : Rg 0 6 v12_stories) (i15 : Rg 0 50 v12_bodies) (i16 : Rg 0 1000 v12_ran) (i17 : v12_done.toInt ≤ v12_keptMany.toInt) (i18 : v12_keptMany.toInt = 0) (i19 : v12_done.toInt = 0) (i20 : v12_sheets.toInt = 0) (i21 : v12_holes.toInt = 0) (i22 : v12_worms.toInt = 0) (i23 : v12_lines.toInt = 0) (i24 : v12_marks.toInt = 0) (i25 : v12_dots.toInt = 0) (i26 : v12_madeIn.toInt = 2001) (i27 : v12_places.toInt = 0) (i28 : v12_maps.toInt = 0) (i29 : v12_tapeMany.toInt = 0) (i30 : v12_stories.toInt = 0) (i31 : v12_bodies.toInt = 0) : Met l yX12_lateOff wsX12_lateOff ({ frames := 0, cells := 0, slots := 0, locals := 0 } : Room) (PcK D κ β [O12 a12 r12 v12_keptMany v12_done v12_sheets v12_holes v12_worms v12_laidMany v12_wanted v12_orderMany v12_firstOrder v12_lines v12_marks v12_dots v12_madeIn v12_bound v12_places v12_maps v12_tapeMany v12_stories v12_base v12_at v12_ends v12_fault v12_opened v12_bodies v12_ran v12_ownKind v12_ownNumber] sz [.ref a12, .int p1]) (QiK D (fun (r : Int32) (u : Unit) => r.toInt = 0) (fun (u : Unit) => [O12 a12 r12 v12_keptMany v12_done v12_sheets v12_holes v12_worms v12_laidMany v12_wanted v12_orderMany v12_firstOrder v12_lines v12_marks v12_dots v12_madeIn v12_bound v12_places v12_maps v12_tapeMany v12_stories v12_base v12_at v12_ends v12_fault v12_opened v12_bodies v12_ran v12_ownKind v12_ownNumber]) [O12 a12 r12 v12_keptMany v12_done v12_sheets v12_holes v12_worms v12_laidMany v12_wanted v12_orderMany v12_firstOrder v12_lines v12_marks v12_dots v12_madeIn v12_bound v12_places v12_maps v12_tapeMany v12_stories v12_base v12_at v12_ends v12_fault v12_opened v12_bodies v12_ran v12_ownKind v12_ownNumber] sz) 0 0 (va_A [O12 a12 r12 v12_keptMany v12_done v12_sheets v12_holes v12_worms v12_laidMany v12_wanted v12_orderMany v12_firstOrder v12_lines v12_marks v12_dots v12_madeIn v12_bound v12_places v12_maps v12_tapeMany v12_stories v12_base v12_at v12_ends v12_fault v12_opened v12_bodies v12_ran v12_ownKind v12_ownNumber] sz) := by
  refine ofK_i (cc := cX12_lateOff) (maxL := 4) (own := RX12) (by decide) rfl rfl (Nat.le_of_ble_eq_true rfl) ?_
  intro p e s m args below meth c Q A ls hsz hx hb hml hts hown hK hA hAB hP hD hl ret
  have hS : va_S A s.heap s.heap [] := va_S.rf
  have hl : lv_has ls 4 [(0, .ref a12), (1, .int p1)] := hl
  have w0 := hts (.fieldLink RX12 262 "OlderSkinModel" "places" "I") (List.mem_of_getElem? (i := 1) rfl)
  have w1 := (fun w h => List.mem_cons_of_mem _ (List.mem_append_right _ h) : ∀ w ∈ u_ws RX12 TX12 63, w ∈ wsX12_lateOff)
  have l0 : (0 : Int32).toInt = 0 := by decide
  have i11 : 0 ≤ v12_places.toInt ∧ v12_places.toInt ≤ 20 := i11
  refine lv_iconst (v := 0) hx hb dX12_lateOff_0 (by decide) ?_
  refine lv_istore_n (lv' := [(2, .int 0), (0, .ref a12), (1, .int p1)]) hx hb dX12_lateOff_1 rfl hl (by decide) rfl (fun ls hl => ?_)
  refine lv_iconst (v := 0) hx hb dX12_lateOff_2 (by decide) ?_
  refine lv_istore_n (lv' := [(3, .int 0), (2, .int 0), (0, .ref a12), (1, .int p1)]) hx hb dX12_lateOff_3 rfl hl (by decide) rfl (fun ls hl => ?_)
  have lp4 : ∀ (n4 : Nat), (0 ≤ (0 : Int32).toInt) → (v12_places.toInt - (0 : Int32).toInt).toNat < n4 → ∀ (H : Heap) (locs : List Loc), va_P D vwCl [O12 a12 r12 v12_keptMany v12_done v12_sheets v12_holes v12_worms v12_laidMany v12_wanted v12_orderMany v12_firstOrder v12_lines v12_marks v12_dots v12_madeIn v12_bound v12_places v12_maps v12_tapeMany v12_stories v12_base v12_at v12_ends v12_fault v12_opened v12_bodies v12_ran v12_ownKind v12_ownNumber] H → va_D A [O12 a12 r12 v12_keptMany v12_done v12_sheets v12_holes v12_worms v12_laidMany v12_wanted v12_orderMany v12_firstOrder v12_lines v12_marks v12_dots v12_madeIn v12_bound v12_places v12_maps v12_tapeMany v12_stories v12_base v12_at v12_ends v12_fault v12_opened v12_bodies v12_ran v12_ownKind v12_ownNumber] → va_S A s.heap H locs → ∀ ls : Array Slot, lv_has ls 4 [(3, .int 0), (2, .int 0), (0, .ref a12), (1, .int p1)] → W p l e ({ frames := 0, cells := 0, slots := 0, locals := 0 } : Room) s m args below meth c H locs 0 0 Q (F0 m 4 ls []) := by
    intro n4
    induction n4 with
    | zero =>
      intro h1 m2
      exact absurd m2 (Nat.not_lt_zero _)
    | succ n4 ih4 =>
      intro h1 m2 H locs hP hD hS ls hl
      refine lv_iload_n hx hb dX12_lateOff_4 rfl (lv_at hl 0 rfl) ?_
      refine lv_aload_n hx hb dX12_lateOff_5 rfl (lv_at hl 2 rfl) ?_
      refine va_get (D := D) (ci := 12) (v := .int v12_places) (C := RX12) (T := TX12) (N := 63) hx hb hts w1 hown hK.1 hP 0 rfl rfl 34 (by decide) w0 (fun _ h9 => h9) rfl dX12_lateOff_6 ?_
      refine lv_icmp_ge (tgt := 50) hx hb dX12_lateOff_9 (by decide) (fun c3 => ?_) (fun c3 => ?_)
      · have c3 := ci_le c3
        refine lv_iload_n hx hb dX12_lateOff_50 rfl (lv_at hl 1 rfl) ?_
        have hpo : (0 : Int32).toInt = 0 := (by omega)
        exact ret _ _ _ _ 0 () dX12_lateOff_51 hpo hP hD hS
      have c3 := ci_nle c3
      exfalso
      omega
  exact lp4 ((v12_places.toInt - (0 : Int32).toInt).toNat + 1) (by omega) (by omega) _ _ hP hD hS _ hl
set_option maxHeartbeats 4000000 in
set_option maxRecDepth 100000 in
theorem k_X12_late (l : Launch) (D : va_G) (κ : Nat → ClassId) (β : Nat) (a12 : Nat) (r12 : Nat → Nat) (v12_keptMany : Int32) (v12_done : Int32) (v12_sheets : Int32) (v12_holes : Int32) (v12_worms : Int32) (v12_laidMany : Int32) (v12_wanted : Int32) (v12_orderMany : Int32) (v12_firstOrder : Int32) (v12_lines : Int32) (v12_marks : Int32) (v12_dots : Int32) (v12_madeIn : Int32) (v12_bound : Int32) (v12_places : Int32) (v12_maps : Int32) (v12_tapeMany : Int32) (v12_stories : Int32) (v12_base : Int32) (v12_at : Int32) (v12_ends : Int32) (v12_fault : Int32) (v12_opened : Int32) (v12_bodies : Int32) (v12_ran : Int32) (v12_ownKind : Int32) (v12_ownNumber : Int32) (sz : Nat) (p1 : Int32) (p2 : Int32) (i1 : Rg 0 40 v12_keptMany) (i2 : Rg 0 40 v12_done) (i3 : Rg 0 8 v12_sheets) (i4 : Rg 0 40 v12_holes) (i5 : Rg 0 40 v12_worms) (i6 : Rg 0 8 v12_laidMany) (i7 : Rg 0 8 v12_wanted) (i8 : Rg 0 20 v12_lines) (i9 : Rg 0 60 v12_marks) (i10 : Rg 0 40 v12_dots) (i11 : Rg 0 20 v12_places) (i12 : Rg 0 8 v12_maps) (i13 : Rg 0 120 v12_tapeMany) (i14 : Rg 0 6 v12_stories) (i15 : Rg 0 50 v12_bodies) (i16 : Rg 0 1000 v12_ran) (i17 : v12_done.toInt ≤ v12_keptMany.toInt) (i18 : v12_keptMany.toInt = 0) (i19 : v12_done.toInt = 0) (i20 : v12_sheets.toInt = 0) (i21 : v12_holes.toInt = 0) (i22 : v12_worms.toInt = 0) (i23 : v12_lines.toInt = 0) (i24 : v12_marks.toInt = 0) (i25 : v12_dots.toInt = 0) (i26 : v12_madeIn.toInt = 2001) (i27 : v12_places.toInt = 0) (i28 : v12_maps.toInt = 0) (i29 : v12_tapeMany.toInt = 0) (i30 : v12_stories.toInt = 0) (i31 : v12_bodies.toInt = 0) : Met l yX12_late wsX12_late ({ frames := 2, cells := 0, slots := 0, locals := 45 } : Room) (PcK D κ β [O12 a12 r12 v12_keptMany v12_done v12_sheets v12_holes v12_worms v12_laidMany v12_wanted v12_orderMany v12_firstOrder v12_lines v12_marks v12_dots v12_madeIn v12_bound v12_places v12_maps v12_tapeMany v12_stories v12_base v12_at v12_ends v12_fault v12_opened v12_bodies v12_ran v12_ownKind v12_ownNumber] sz [.ref a12, .int p1, .int p2]) (QiK D (fun (r : Int32) (u : Unit) => ((0 ≤ p1.toInt ∧ p1.toInt ≤ 2000 ∧ 0 ≤ p2.toInt ∧ p2.toInt ≤ 1) ∧ r.toInt = 0) ∨ (¬ (0 ≤ p1.toInt ∧ p1.toInt ≤ 2000 ∧ 0 ≤ p2.toInt ∧ p2.toInt ≤ 1) ∧ r.toInt = -1)) (fun (u : Unit) => [O12 a12 r12 v12_keptMany v12_done v12_sheets v12_holes v12_worms v12_laidMany v12_wanted v12_orderMany v12_firstOrder v12_lines v12_marks v12_dots v12_madeIn v12_bound v12_places v12_maps v12_tapeMany v12_stories v12_base v12_at v12_ends v12_fault v12_opened v12_bodies v12_ran v12_ownKind v12_ownNumber]) [O12 a12 r12 v12_keptMany v12_done v12_sheets v12_holes v12_worms v12_laidMany v12_wanted v12_orderMany v12_firstOrder v12_lines v12_marks v12_dots v12_madeIn v12_bound v12_places v12_maps v12_tapeMany v12_stories v12_base v12_at v12_ends v12_fault v12_opened v12_bodies v12_ran v12_ownKind v12_ownNumber] sz) 0 0 (va_A [O12 a12 r12 v12_keptMany v12_done v12_sheets v12_holes v12_worms v12_laidMany v12_wanted v12_orderMany v12_firstOrder v12_lines v12_marks v12_dots v12_madeIn v12_bound v12_places v12_maps v12_tapeMany v12_stories v12_base v12_at v12_ends v12_fault v12_opened v12_bodies v12_ran v12_ownKind v12_ownNumber] sz) := by
  refine ofK_i (cc := cX12_late) (maxL := 3) (own := RX12) (by decide) rfl rfl (Nat.le_of_ble_eq_true rfl) ?_
  intro p e s m args below meth c Q A ls hsz hx hb hml hts hown hK hA hAB hP hD hl ret
  have hS : va_S A s.heap s.heap [] := va_S.rf
  have hl : lv_has ls 3 [(0, .ref a12), (1, .int p1), (2, .int p2)] := hl
  have l0 : (0 : Int32).toInt = 0 := by decide
  have l1 : ((-1) : Int32).toInt = -1 := by decide
  have l2 : (0 : Int64).toInt = 0 := by decide
  have l3 : (1 : Int64).toInt = 1 := by decide
  refine lv_iload_n hx hb dX12_late_0 rfl (lv_at hl 1 rfl) ?_
  refine kcm_i hA hAB hP hD hS [false] rfl (fun _ => rfl) (fun hPc hDc => va_runS (As := [.int p1]) (rest := []) ⟨hx, hb, hml, hown, hts⟩ (k_X12_isYear l D κ β s.heap.size p1) (va_cwS 1 hts gX12_late_X12_isYear rfl rfl rfl (by decide +kernel) ⟨Nat.le_of_ble_eq_true rfl, Nat.le_of_ble_eq_true rfl⟩) (pk_S hK hS hAB hPc hDc) rfl rfl hl.1 rfl (lv_room (Nat.le_of_ble_eq_true rfl)) dX12_late_1 ⟨Nat.le_of_ble_eq_true rfl, Nat.le_of_ble_eq_true rfl⟩) (fun x1 u2 H locs hw hPD hS => ?_)
  have h3 : (x1.toInt = 1 ∧ 0 ≤ p1.toInt ∧ p1.toInt ≤ 2000) ∨ (x1.toInt = 0 ∧ (p1.toInt < 0 ∨ 2000 < p1.toInt)) := hw
  obtain ⟨hP, hD⟩ : PD D A [O12 a12 r12 v12_keptMany v12_done v12_sheets v12_holes v12_worms v12_laidMany v12_wanted v12_orderMany v12_firstOrder v12_lines v12_marks v12_dots v12_madeIn v12_bound v12_places v12_maps v12_tapeMany v12_stories v12_base v12_at v12_ends v12_fault v12_opened v12_bodies v12_ran v12_ownKind v12_ownNumber] H := hPD
  refine lv_if_eq (tgt := 37) hx hb dX12_late_4 (by decide) (fun c4 => ?_) (fun c4 => ?_)
  · have c4 := ci_eq c4
    refine lv_iconst (v := (-1)) hx hb dX12_late_37 (by decide) ?_
    have hpo : ((0 ≤ p1.toInt ∧ p1.toInt ≤ 2000 ∧ 0 ≤ p2.toInt ∧ p2.toInt ≤ 1) ∧ ((-1) : Int32).toInt = 0) ∨ (¬ (0 ≤ p1.toInt ∧ p1.toInt ≤ 2000 ∧ 0 ≤ p2.toInt ∧ p2.toInt ≤ 1) ∧ ((-1) : Int32).toInt = -1) := (by omega)
    exact ret _ _ _ _ (-1) () dX12_late_38 hpo hP hD hS
  have c4 := ci_ne c4
  refine lv_iload_n hx hb dX12_late_7 rfl (lv_at hl 2 rfl) ?_
  refine lv_i2l hx hb dX12_late_8 rfl ?_
  refine lv_topl (fun x5 e6 => ?_)
  have h7 : x5.toInt = p2.toInt := cl_i2l e6
  refine lv_lconst (v := (0 : Int64)) hx hb dX12_late_9 (by decide) ?_
  refine lv_lconst (v := (1 : Int64)) hx hb dX12_late_10 (by decide) ?_
  refine kcm_i hA hAB hP hD hS [false] rfl (fun _ => rfl) (fun hPc hDc => va_runS (As := [.long x5, .long (0 : Int64), .long (1 : Int64)]) (rest := []) ⟨hx, hb, hml, hown, hts⟩ (k_X12_within l D κ β H.size x5 (0 : Int64) (1 : Int64)) (va_cwS 3 hts gX12_late_X12_within rfl rfl rfl (by decide +kernel) ⟨Nat.le_of_ble_eq_true rfl, Nat.le_of_ble_eq_true rfl⟩) (pk_S hK hS hAB hPc hDc) rfl rfl hl.1 rfl (lv_room (Nat.le_of_ble_eq_true rfl)) dX12_late_11 ⟨Nat.le_of_ble_eq_true rfl, Nat.le_of_ble_eq_true rfl⟩) (fun x8 u9 H locs hw hPD hS => ?_)
  have h10 : (x8.toInt = 1 ∧ (0 : Int64).toInt ≤ x5.toInt ∧ x5.toInt ≤ (1 : Int64).toInt) ∨ (x8.toInt = 0 ∧ (x5.toInt < (0 : Int64).toInt ∨ (1 : Int64).toInt < x5.toInt)) := hw
  obtain ⟨hP, hD⟩ : PD D A [O12 a12 r12 v12_keptMany v12_done v12_sheets v12_holes v12_worms v12_laidMany v12_wanted v12_orderMany v12_firstOrder v12_lines v12_marks v12_dots v12_madeIn v12_bound v12_places v12_maps v12_tapeMany v12_stories v12_base v12_at v12_ends v12_fault v12_opened v12_bodies v12_ran v12_ownKind v12_ownNumber] H := hPD
  refine lv_if_eq (tgt := 37) hx hb dX12_late_14 (by decide) (fun c11 => ?_) (fun c11 => ?_)
  · have c11 := ci_eq c11
    refine lv_iconst (v := (-1)) hx hb dX12_late_37 (by decide) ?_
    have hpo : ((0 ≤ p1.toInt ∧ p1.toInt ≤ 2000 ∧ 0 ≤ p2.toInt ∧ p2.toInt ≤ 1) ∧ ((-1) : Int32).toInt = 0) ∨ (¬ (0 ≤ p1.toInt ∧ p1.toInt ≤ 2000 ∧ 0 ≤ p2.toInt ∧ p2.toInt ≤ 1) ∧ ((-1) : Int32).toInt = -1) := (by omega)
    exact ret _ _ _ _ (-1) () dX12_late_38 hpo hP hD hS
  have c11 := ci_ne c11
  refine lv_iload_n hx hb dX12_late_17 rfl (lv_at hl 2 rfl) ?_
  refine lv_if_ne (tgt := 29) hx hb dX12_late_18 (by decide) (fun c12 => ?_) (fun c12 => ?_)
  · have c12 := ci_ne c12
    refine lv_aload_n hx hb dX12_late_29 rfl (lv_at hl 0 rfl) ?_
    refine lv_iload_n hx hb dX12_late_30 rfl (lv_at hl 1 rfl) ?_
    refine kcm_i hA hAB hP hD hS [true] rfl (fun _ => rfl) (fun hPc hDc => va_runV (As := [.int p1]) (rest := []) ⟨hx, hb, hml, hown, hts⟩ (k_X12_lateOff l D κ β a12 r12 v12_keptMany v12_done v12_sheets v12_holes v12_worms v12_laidMany v12_wanted v12_orderMany v12_firstOrder v12_lines v12_marks v12_dots v12_madeIn v12_bound v12_places v12_maps v12_tapeMany v12_stories v12_base v12_at v12_ends v12_fault v12_opened v12_bodies v12_ran v12_ownKind v12_ownNumber H.size p1 i1 i2 i3 i4 i5 i6 i7 i8 i9 i10 i11 i12 i13 i14 i15 i16 i17 (by omega) (by omega) (by omega) (by omega) (by omega) (by omega) (by omega) (by omega) (by omega) (by omega) (by omega) (by omega) (by omega) (by omega)) (cwV 1 hts gX12_late_X12_lateOff rfl rfl rfl (by decide +kernel) ⟨Nat.le_of_ble_eq_true rfl, Nat.le_of_ble_eq_true rfl⟩) (pk_V hK hS hAB hPc hDc 0 (ci := 12) rfl rfl rfl) rfl rfl hl.1 rfl (lv_room (Nat.le_of_ble_eq_true rfl)) dX12_late_31 ⟨Nat.le_of_ble_eq_true rfl, Nat.le_of_ble_eq_true rfl⟩) (fun x13 u14 H locs hw hPD hS => ?_)
    have h15 : x13.toInt = 0 := hw
    obtain ⟨hP, hD⟩ : PD D A [O12 a12 r12 v12_keptMany v12_done v12_sheets v12_holes v12_worms v12_laidMany v12_wanted v12_orderMany v12_firstOrder v12_lines v12_marks v12_dots v12_madeIn v12_bound v12_places v12_maps v12_tapeMany v12_stories v12_base v12_at v12_ends v12_fault v12_opened v12_bodies v12_ran v12_ownKind v12_ownNumber] H := hPD
    refine lv_goto (tgt := 38) hx hb dX12_late_34 (by decide) ?_
    have hpo : ((0 ≤ p1.toInt ∧ p1.toInt ≤ 2000 ∧ 0 ≤ p2.toInt ∧ p2.toInt ≤ 1) ∧ x13.toInt = 0) ∨ (¬ (0 ≤ p1.toInt ∧ p1.toInt ≤ 2000 ∧ 0 ≤ p2.toInt ∧ p2.toInt ≤ 1) ∧ x13.toInt = -1) := (by omega)
    exact ret _ _ _ _ x13 () dX12_late_38 hpo hP hD hS
  have c12 := ci_eq c12
  refine lv_aload_n hx hb dX12_late_21 rfl (lv_at hl 0 rfl) ?_
  refine lv_iload_n hx hb dX12_late_22 rfl (lv_at hl 1 rfl) ?_
  refine kcm_i hA hAB hP hD hS [true] rfl (fun _ => rfl) (fun hPc hDc => va_runV (As := [.int p1]) (rest := []) ⟨hx, hb, hml, hown, hts⟩ (k_X12_lateMany l D κ β a12 r12 v12_keptMany v12_done v12_sheets v12_holes v12_worms v12_laidMany v12_wanted v12_orderMany v12_firstOrder v12_lines v12_marks v12_dots v12_madeIn v12_bound v12_places v12_maps v12_tapeMany v12_stories v12_base v12_at v12_ends v12_fault v12_opened v12_bodies v12_ran v12_ownKind v12_ownNumber H.size p1 i1 i2 i3 i4 i5 i6 i7 i8 i9 i10 i11 i12 i13 i14 i15 i16 i17 (by omega) (by omega) (by omega) (by omega) (by omega) (by omega) (by omega) (by omega) (by omega) (by omega) (by omega) (by omega) (by omega) (by omega)) (cwV 1 hts gX12_late_X12_lateMany rfl rfl rfl (by decide +kernel) ⟨Nat.le_of_ble_eq_true rfl, Nat.le_of_ble_eq_true rfl⟩) (pk_V hK hS hAB hPc hDc 0 (ci := 12) rfl rfl rfl) rfl rfl hl.1 rfl (lv_room (Nat.le_of_ble_eq_true rfl)) dX12_late_23 ⟨Nat.le_of_ble_eq_true rfl, Nat.le_of_ble_eq_true rfl⟩) (fun x16 u17 H locs hw hPD hS => ?_)
  have h18 : x16.toInt = 0 := hw
  obtain ⟨hP, hD⟩ : PD D A [O12 a12 r12 v12_keptMany v12_done v12_sheets v12_holes v12_worms v12_laidMany v12_wanted v12_orderMany v12_firstOrder v12_lines v12_marks v12_dots v12_madeIn v12_bound v12_places v12_maps v12_tapeMany v12_stories v12_base v12_at v12_ends v12_fault v12_opened v12_bodies v12_ran v12_ownKind v12_ownNumber] H := hPD
  refine lv_goto (tgt := 38) hx hb dX12_late_26 (by decide) ?_
  have hpo : ((0 ≤ p1.toInt ∧ p1.toInt ≤ 2000 ∧ 0 ≤ p2.toInt ∧ p2.toInt ≤ 1) ∧ x16.toInt = 0) ∨ (¬ (0 ≤ p1.toInt ∧ p1.toInt ≤ 2000 ∧ 0 ≤ p2.toInt ∧ p2.toInt ≤ 1) ∧ x16.toInt = -1) := (by omega)
  exact ret _ _ _ _ x16 () dX12_late_38 hpo hP hD hS
set_option maxHeartbeats 4000000 in
set_option maxRecDepth 100000 in
theorem k_X12_well (l : Launch) (D : va_G) (κ : Nat → ClassId) (β : Nat) (a12 : Nat) (r12 : Nat → Nat) (v12_keptMany : Int32) (v12_done : Int32) (v12_sheets : Int32) (v12_holes : Int32) (v12_worms : Int32) (v12_laidMany : Int32) (v12_wanted : Int32) (v12_orderMany : Int32) (v12_firstOrder : Int32) (v12_lines : Int32) (v12_marks : Int32) (v12_dots : Int32) (v12_madeIn : Int32) (v12_bound : Int32) (v12_places : Int32) (v12_maps : Int32) (v12_tapeMany : Int32) (v12_stories : Int32) (v12_base : Int32) (v12_at : Int32) (v12_ends : Int32) (v12_fault : Int32) (v12_opened : Int32) (v12_bodies : Int32) (v12_ran : Int32) (v12_ownKind : Int32) (v12_ownNumber : Int32) (sz : Nat) (p1 : Int32) (p2 : Int32) (p3 : Int32) (i1 : Rg 0 40 v12_keptMany) (i2 : Rg 0 40 v12_done) (i3 : Rg 0 8 v12_sheets) (i4 : Rg 0 40 v12_holes) (i5 : Rg 0 40 v12_worms) (i6 : Rg 0 8 v12_laidMany) (i7 : Rg 0 8 v12_wanted) (i8 : Rg 0 20 v12_lines) (i9 : Rg 0 60 v12_marks) (i10 : Rg 0 40 v12_dots) (i11 : Rg 0 20 v12_places) (i12 : Rg 0 8 v12_maps) (i13 : Rg 0 120 v12_tapeMany) (i14 : Rg 0 6 v12_stories) (i15 : Rg 0 50 v12_bodies) (i16 : Rg 0 1000 v12_ran) (i17 : v12_done.toInt ≤ v12_keptMany.toInt) (i18 : v12_keptMany.toInt = 0) (i19 : v12_done.toInt = 0) (i20 : v12_sheets.toInt = 0) (i21 : v12_holes.toInt = 0) (i22 : v12_worms.toInt = 0) (i23 : v12_lines.toInt = 0) (i24 : v12_marks.toInt = 0) (i25 : v12_dots.toInt = 0) (i26 : v12_madeIn.toInt = 2001) (i27 : v12_places.toInt = 0) (i28 : v12_maps.toInt = 0) (i29 : v12_tapeMany.toInt = 0) (i30 : v12_stories.toInt = 0) (i31 : v12_bodies.toInt = 0) : Met l yX12_well wsX12_well ({ frames := 2, cells := 0, slots := 0, locals := 45 } : Room) (PcK D κ β [O12 a12 r12 v12_keptMany v12_done v12_sheets v12_holes v12_worms v12_laidMany v12_wanted v12_orderMany v12_firstOrder v12_lines v12_marks v12_dots v12_madeIn v12_bound v12_places v12_maps v12_tapeMany v12_stories v12_base v12_at v12_ends v12_fault v12_opened v12_bodies v12_ran v12_ownKind v12_ownNumber] sz [.ref a12, .int p1, .int p2, .int p3]) (QiK D (fun (r : Int32) (u : Unit) => ((0 ≤ p1.toInt ∧ p1.toInt ≤ 2000 ∧ 1 ≤ p3.toInt ∧ p3.toInt ≤ 50) ∧ r.toInt = -2) ∨ (¬ (0 ≤ p1.toInt ∧ p1.toInt ≤ 2000 ∧ 1 ≤ p3.toInt ∧ p3.toInt ≤ 50) ∧ r.toInt = -1)) (fun (u : Unit) => [O12 a12 r12 v12_keptMany v12_done v12_sheets v12_holes v12_worms v12_laidMany v12_wanted v12_orderMany v12_firstOrder v12_lines v12_marks v12_dots v12_madeIn v12_bound v12_places v12_maps v12_tapeMany v12_stories v12_base v12_at v12_ends v12_fault v12_opened v12_bodies v12_ran v12_ownKind v12_ownNumber]) [O12 a12 r12 v12_keptMany v12_done v12_sheets v12_holes v12_worms v12_laidMany v12_wanted v12_orderMany v12_firstOrder v12_lines v12_marks v12_dots v12_madeIn v12_bound v12_places v12_maps v12_tapeMany v12_stories v12_base v12_at v12_ends v12_fault v12_opened v12_bodies v12_ran v12_ownKind v12_ownNumber] sz) 0 0 (va_A [O12 a12 r12 v12_keptMany v12_done v12_sheets v12_holes v12_worms v12_laidMany v12_wanted v12_orderMany v12_firstOrder v12_lines v12_marks v12_dots v12_madeIn v12_bound v12_places v12_maps v12_tapeMany v12_stories v12_base v12_at v12_ends v12_fault v12_opened v12_bodies v12_ran v12_ownKind v12_ownNumber] sz) := by
  refine ofK_i (cc := cX12_well) (maxL := 11) (own := RX12) (by decide) rfl rfl (Nat.le_of_ble_eq_true rfl) ?_
  intro p e s m args below meth c Q A ls hsz hx hb hml hts hown hK hA hAB hP hD hl ret
  have hS : va_S A s.heap s.heap [] := va_S.rf
  have hl : lv_has ls 11 [(0, .ref a12), (1, .int p1), (2, .int p2), (3, .int p3)] := hl
  have w0 := hts (.constantLong RX12 249 (50)) (List.mem_of_getElem? (i := 1) rfl)
  have l0 : (0 : Int32).toInt = 0 := by decide
  have l1 : ((-1) : Int32).toInt = -1 := by decide
  have l2 : (1 : Int64).toInt = 1 := by decide
  have l3 : (50 : Int64).toInt = 50 := by decide
  have l4 : ((-2) : Int32).toInt = -2 := by decide
  have i11 : 0 ≤ v12_places.toInt ∧ v12_places.toInt ≤ 20 := i11
  have rg3 := ci_rng p3
  refine lv_iload_n hx hb dX12_well_0 rfl (lv_at hl 1 rfl) ?_
  refine kcm_i hA hAB hP hD hS [false] rfl (fun _ => rfl) (fun hPc hDc => va_runS (As := [.int p1]) (rest := []) ⟨hx, hb, hml, hown, hts⟩ (k_X12_isYear l D κ β s.heap.size p1) (va_cwS 1 hts gX12_well_X12_isYear rfl rfl rfl (by decide +kernel) ⟨Nat.le_of_ble_eq_true rfl, Nat.le_of_ble_eq_true rfl⟩) (pk_S hK hS hAB hPc hDc) rfl rfl hl.1 rfl (lv_room (Nat.le_of_ble_eq_true rfl)) dX12_well_1 ⟨Nat.le_of_ble_eq_true rfl, Nat.le_of_ble_eq_true rfl⟩) (fun x1 u2 H locs hw hPD hS => ?_)
  have h3 : (x1.toInt = 1 ∧ 0 ≤ p1.toInt ∧ p1.toInt ≤ 2000) ∨ (x1.toInt = 0 ∧ (p1.toInt < 0 ∨ 2000 < p1.toInt)) := hw
  obtain ⟨hP, hD⟩ : PD D A [O12 a12 r12 v12_keptMany v12_done v12_sheets v12_holes v12_worms v12_laidMany v12_wanted v12_orderMany v12_firstOrder v12_lines v12_marks v12_dots v12_madeIn v12_bound v12_places v12_maps v12_tapeMany v12_stories v12_base v12_at v12_ends v12_fault v12_opened v12_bodies v12_ran v12_ownKind v12_ownNumber] H := hPD
  refine lv_if_eq (tgt := 19) hx hb dX12_well_4 (by decide) (fun c4 => ?_) (fun c4 => ?_)
  · have c4 := ci_eq c4
    refine lv_iconst (v := (-1)) hx hb dX12_well_19 (by decide) ?_
    have hpo : ((0 ≤ p1.toInt ∧ p1.toInt ≤ 2000 ∧ 1 ≤ p3.toInt ∧ p3.toInt ≤ 50) ∧ ((-1) : Int32).toInt = -2) ∨ (¬ (0 ≤ p1.toInt ∧ p1.toInt ≤ 2000 ∧ 1 ≤ p3.toInt ∧ p3.toInt ≤ 50) ∧ ((-1) : Int32).toInt = -1) := (by omega)
    exact ret _ _ _ _ (-1) () dX12_well_20 hpo hP hD hS
  have c4 := ci_ne c4
  refine lv_iload_n hx hb dX12_well_7 rfl (lv_at hl 3 rfl) ?_
  refine lv_i2l hx hb dX12_well_8 rfl ?_
  refine lv_topl (fun x5 e6 => ?_)
  have h7 : x5.toInt = p3.toInt := cl_i2l e6
  refine lv_lconst (v := (1 : Int64)) hx hb dX12_well_9 (by decide) ?_
  refine lv_ldc2 (v := (50 : Int64)) hx hb hown w0 dX12_well_10 ?_
  refine kcm_i hA hAB hP hD hS [false] rfl (fun _ => rfl) (fun hPc hDc => va_runS (As := [.long x5, .long (1 : Int64), .long (50 : Int64)]) (rest := []) ⟨hx, hb, hml, hown, hts⟩ (k_X12_within l D κ β H.size x5 (1 : Int64) (50 : Int64)) (va_cwS 3 hts gX12_well_X12_within rfl rfl rfl (by decide +kernel) ⟨Nat.le_of_ble_eq_true rfl, Nat.le_of_ble_eq_true rfl⟩) (pk_S hK hS hAB hPc hDc) rfl rfl hl.1 rfl (lv_room (Nat.le_of_ble_eq_true rfl)) dX12_well_13 ⟨Nat.le_of_ble_eq_true rfl, Nat.le_of_ble_eq_true rfl⟩) (fun x8 u9 H locs hw hPD hS => ?_)
  have h10 : (x8.toInt = 1 ∧ (1 : Int64).toInt ≤ x5.toInt ∧ x5.toInt ≤ (50 : Int64).toInt) ∨ (x8.toInt = 0 ∧ (x5.toInt < (1 : Int64).toInt ∨ (50 : Int64).toInt < x5.toInt)) := hw
  obtain ⟨hP, hD⟩ : PD D A [O12 a12 r12 v12_keptMany v12_done v12_sheets v12_holes v12_worms v12_laidMany v12_wanted v12_orderMany v12_firstOrder v12_lines v12_marks v12_dots v12_madeIn v12_bound v12_places v12_maps v12_tapeMany v12_stories v12_base v12_at v12_ends v12_fault v12_opened v12_bodies v12_ran v12_ownKind v12_ownNumber] H := hPD
  refine lv_if_ne (tgt := 21) hx hb dX12_well_16 (by decide) (fun c11 => ?_) (fun c11 => ?_)
  · have c11 := ci_ne c11
    refine lv_aload_n hx hb dX12_well_21 rfl (lv_at hl 0 rfl) ?_
    refine lv_iload_n hx hb dX12_well_22 rfl (lv_at hl 1 rfl) ?_
    refine kcm_i hA hAB hP hD hS [true] rfl (fun _ => rfl) (fun hPc hDc => va_runV (As := [.int p1]) (rest := []) ⟨hx, hb, hml, hown, hts⟩ (k_X12_lateMany l D κ β a12 r12 v12_keptMany v12_done v12_sheets v12_holes v12_worms v12_laidMany v12_wanted v12_orderMany v12_firstOrder v12_lines v12_marks v12_dots v12_madeIn v12_bound v12_places v12_maps v12_tapeMany v12_stories v12_base v12_at v12_ends v12_fault v12_opened v12_bodies v12_ran v12_ownKind v12_ownNumber H.size p1 i1 i2 i3 i4 i5 i6 i7 i8 i9 i10 i11 i12 i13 i14 i15 i16 i17 (by omega) (by omega) (by omega) (by omega) (by omega) (by omega) (by omega) (by omega) (by omega) (by omega) (by omega) (by omega) (by omega) (by omega)) (cwV 1 hts gX12_well_X12_lateMany rfl rfl rfl (by decide +kernel) ⟨Nat.le_of_ble_eq_true rfl, Nat.le_of_ble_eq_true rfl⟩) (pk_V hK hS hAB hPc hDc 0 (ci := 12) rfl rfl rfl) rfl rfl hl.1 rfl (lv_room (Nat.le_of_ble_eq_true rfl)) dX12_well_23 ⟨Nat.le_of_ble_eq_true rfl, Nat.le_of_ble_eq_true rfl⟩) (fun x12 u13 H locs hw hPD hS => ?_)
    have h14 : x12.toInt = 0 := hw
    obtain ⟨hP, hD⟩ : PD D A [O12 a12 r12 v12_keptMany v12_done v12_sheets v12_holes v12_worms v12_laidMany v12_wanted v12_orderMany v12_firstOrder v12_lines v12_marks v12_dots v12_madeIn v12_bound v12_places v12_maps v12_tapeMany v12_stories v12_base v12_at v12_ends v12_fault v12_opened v12_bodies v12_ran v12_ownKind v12_ownNumber] H := hPD
    refine lv_if_ne (tgt := 32) hx hb dX12_well_26 (by decide) (fun c15 => ?_) (fun c15 => ?_)
    · have c15 := ci_ne c15
      exfalso
      omega
    have c15 := ci_eq c15
    refine lv_bipush (v := (-2)) hx hb dX12_well_29 (by decide) ?_
    have hpo : ((0 ≤ p1.toInt ∧ p1.toInt ≤ 2000 ∧ 1 ≤ p3.toInt ∧ p3.toInt ≤ 50) ∧ ((-2) : Int32).toInt = -2) ∨ (¬ (0 ≤ p1.toInt ∧ p1.toInt ≤ 2000 ∧ 1 ≤ p3.toInt ∧ p3.toInt ≤ 50) ∧ ((-2) : Int32).toInt = -1) := (by omega)
    exact ret _ _ _ _ (-2) () dX12_well_31 hpo hP hD hS
  have c11 := ci_eq c11
  refine lv_iconst (v := (-1)) hx hb dX12_well_19 (by decide) ?_
  have hpo : ((0 ≤ p1.toInt ∧ p1.toInt ≤ 2000 ∧ 1 ≤ p3.toInt ∧ p3.toInt ≤ 50) ∧ ((-1) : Int32).toInt = -2) ∨ (¬ (0 ≤ p1.toInt ∧ p1.toInt ≤ 2000 ∧ 1 ≤ p3.toInt ∧ p3.toInt ≤ 50) ∧ ((-1) : Int32).toInt = -1) := (by omega)
  exact ret _ _ _ _ (-1) () dX12_well_20 hpo hP hD hS
set_option maxHeartbeats 4000000 in
set_option maxRecDepth 100000 in
theorem k_X12_map (l : Launch) (D : va_G) (κ : Nat → ClassId) (β : Nat) (a12 : Nat) (r12 : Nat → Nat) (v12_keptMany : Int32) (v12_done : Int32) (v12_sheets : Int32) (v12_holes : Int32) (v12_worms : Int32) (v12_laidMany : Int32) (v12_wanted : Int32) (v12_orderMany : Int32) (v12_firstOrder : Int32) (v12_lines : Int32) (v12_marks : Int32) (v12_dots : Int32) (v12_madeIn : Int32) (v12_bound : Int32) (v12_places : Int32) (v12_maps : Int32) (v12_tapeMany : Int32) (v12_stories : Int32) (v12_base : Int32) (v12_at : Int32) (v12_ends : Int32) (v12_fault : Int32) (v12_opened : Int32) (v12_bodies : Int32) (v12_ran : Int32) (v12_ownKind : Int32) (v12_ownNumber : Int32) (f12_yearOf : Nat → Int32) (f12_slips : Nat → Int32) (sz : Nat) (p1 : Int32) (p2 : Int32) (i1 : Rg 0 40 v12_keptMany) (i2 : Rg 0 40 v12_done) (i3 : Rg 0 8 v12_sheets) (i4 : Rg 0 40 v12_holes) (i5 : Rg 0 40 v12_worms) (i6 : Rg 0 8 v12_laidMany) (i7 : Rg 0 8 v12_wanted) (i8 : Rg 0 20 v12_lines) (i9 : Rg 0 60 v12_marks) (i10 : Rg 0 40 v12_dots) (i11 : Rg 0 20 v12_places) (i12 : Rg 0 8 v12_maps) (i13 : Rg 0 120 v12_tapeMany) (i14 : Rg 0 6 v12_stories) (i15 : Rg 0 50 v12_bodies) (i16 : Rg 0 1000 v12_ran) (i17 : v12_done.toInt ≤ v12_keptMany.toInt) (i18 : v12_keptMany.toInt = 0) (i19 : v12_done.toInt = 0) (i20 : v12_sheets.toInt = 0) (i21 : v12_holes.toInt = 0) (i22 : v12_worms.toInt = 0) (i23 : v12_lines.toInt = 0) (i24 : v12_marks.toInt = 0) (i25 : v12_dots.toInt = 0) (i26 : v12_madeIn.toInt = 2001) (i27 : v12_places.toInt = 0) (i28 : v12_maps.toInt = 0) (i29 : v12_tapeMany.toInt = 0) (i30 : v12_stories.toInt = 0) (i31 : v12_bodies.toInt = 0) : Met l yX12_map wsX12_map ({ frames := 2, cells := 0, slots := 0, locals := 45 } : Room) (PcK D κ β [O12 a12 r12 v12_keptMany v12_done v12_sheets v12_holes v12_worms v12_laidMany v12_wanted v12_orderMany v12_firstOrder v12_lines v12_marks v12_dots v12_madeIn v12_bound v12_places v12_maps v12_tapeMany v12_stories v12_base v12_at v12_ends v12_fault v12_opened v12_bodies v12_ran v12_ownKind v12_ownNumber, (cI κ (r12 39) 8 f12_yearOf), (cI κ (r12 40) 8 f12_slips)] sz [.ref a12, .int p1, .int p2]) (QiK D (fun (r : Int32) (u : Int32 × (Nat → Int32) × (Nat → Int32)) => (0 ≤ u.1.toInt ∧ u.1.toInt ≤ 8) ∧ ((¬ (0 ≤ p1.toInt ∧ p1.toInt ≤ 2000 ∧ 0 ≤ p2.toInt ∧ p2.toInt ≤ 65535) ∧ r.toInt = -1 ∧ u.1.toInt = v12_maps.toInt) ∨ ((0 ≤ p1.toInt ∧ p1.toInt ≤ 2000 ∧ 0 ≤ p2.toInt ∧ p2.toInt ≤ 65535) ∧ v12_maps.toInt = 8 ∧ r.toInt = -3 ∧ u.1.toInt = v12_maps.toInt) ∨ ((0 ≤ p1.toInt ∧ p1.toInt ≤ 2000 ∧ 0 ≤ p2.toInt ∧ p2.toInt ≤ 65535) ∧ v12_maps.toInt < 8 ∧ r.toInt = v12_maps.toInt ∧ u.1.toInt = v12_maps.toInt + 1))) (fun (u : Int32 × (Nat → Int32) × (Nat → Int32)) => [O12 a12 r12 v12_keptMany v12_done v12_sheets v12_holes v12_worms v12_laidMany v12_wanted v12_orderMany v12_firstOrder v12_lines v12_marks v12_dots v12_madeIn v12_bound v12_places u.1 v12_tapeMany v12_stories v12_base v12_at v12_ends v12_fault v12_opened v12_bodies v12_ran v12_ownKind v12_ownNumber, (cI κ (r12 39) 8 u.2.1), (cI κ (r12 40) 8 u.2.2)]) [O12 a12 r12 v12_keptMany v12_done v12_sheets v12_holes v12_worms v12_laidMany v12_wanted v12_orderMany v12_firstOrder v12_lines v12_marks v12_dots v12_madeIn v12_bound v12_places v12_maps v12_tapeMany v12_stories v12_base v12_at v12_ends v12_fault v12_opened v12_bodies v12_ran v12_ownKind v12_ownNumber, (cI κ (r12 39) 8 f12_yearOf), (cI κ (r12 40) 8 f12_slips)] sz) 0 0 (va_A [O12 a12 r12 v12_keptMany v12_done v12_sheets v12_holes v12_worms v12_laidMany v12_wanted v12_orderMany v12_firstOrder v12_lines v12_marks v12_dots v12_madeIn v12_bound v12_places v12_maps v12_tapeMany v12_stories v12_base v12_at v12_ends v12_fault v12_opened v12_bodies v12_ran v12_ownKind v12_ownNumber, (cI κ (r12 39) 8 f12_yearOf), (cI κ (r12 40) 8 f12_slips)] sz) := by
  refine ofK_i (cc := cX12_map) (maxL := 3) (own := RX12) (by decide) rfl rfl (Nat.le_of_ble_eq_true rfl) ?_
  intro p e s m args below meth c Q A ls hsz hx hb hml hts hown hK hA hAB hP hD hl ret
  have hS : va_S A s.heap s.heap [] := va_S.rf
  have hl : lv_has ls 3 [(0, .ref a12), (1, .int p1), (2, .int p2)] := hl
  have w0 := hts (.constantLong RX12 280 (65535)) (List.mem_of_getElem? (i := 1) rfl)
  have w1 := hts (.fieldLink RX12 277 "OlderSkinModel" "maps" "I") (List.mem_of_getElem? (i := 2) rfl)
  have w2 := (fun w h => List.mem_cons_of_mem _ (List.mem_append_right _ h) : ∀ w ∈ u_ws RX12 TX12 63, w ∈ wsX12_map)
  have w3 := hts (.fieldLink RX12 80 "OlderSkinModel" "yearOf" "[I") (List.mem_of_getElem? (i := 3) rfl)
  have w4 := hts (.fieldLink RX12 83 "OlderSkinModel" "slips" "[I") (List.mem_of_getElem? (i := 4) rfl)
  have l0 : (0 : Int32).toInt = 0 := by decide
  have l1 : ((-1) : Int32).toInt = -1 := by decide
  have l2 : (0 : Int64).toInt = 0 := by decide
  have l3 : (65535 : Int64).toInt = 65535 := by decide
  have l4 : (8 : Int32).toInt = 8 := by decide
  have l5 : (1 : Int32).toInt = 1 := by decide
  have l6 : ((-3) : Int32).toInt = -3 := by decide
  have i12 : 0 ≤ v12_maps.toInt ∧ v12_maps.toInt ≤ 8 := i12
  refine lv_iload_n hx hb dX12_map_0 rfl (lv_at hl 1 rfl) ?_
  refine kcm_i hA hAB hP hD hS [false, false, false] rfl (fun _ => rfl) (fun hPc hDc => va_runS (As := [.int p1]) (rest := []) ⟨hx, hb, hml, hown, hts⟩ (k_X12_isYear l D κ β s.heap.size p1) (va_cwS 1 hts gX12_map_X12_isYear rfl rfl rfl (by decide +kernel) ⟨Nat.le_of_ble_eq_true rfl, Nat.le_of_ble_eq_true rfl⟩) (pk_S hK hS hAB hPc hDc) rfl rfl hl.1 rfl (lv_room (Nat.le_of_ble_eq_true rfl)) dX12_map_1 ⟨Nat.le_of_ble_eq_true rfl, Nat.le_of_ble_eq_true rfl⟩) (fun x1 u2 H locs hw hPD hS => ?_)
  have h3 : (x1.toInt = 1 ∧ 0 ≤ p1.toInt ∧ p1.toInt ≤ 2000) ∨ (x1.toInt = 0 ∧ (p1.toInt < 0 ∨ 2000 < p1.toInt)) := hw
  obtain ⟨hP, hD⟩ : PD D A [O12 a12 r12 v12_keptMany v12_done v12_sheets v12_holes v12_worms v12_laidMany v12_wanted v12_orderMany v12_firstOrder v12_lines v12_marks v12_dots v12_madeIn v12_bound v12_places v12_maps v12_tapeMany v12_stories v12_base v12_at v12_ends v12_fault v12_opened v12_bodies v12_ran v12_ownKind v12_ownNumber, (cI κ (r12 39) 8 f12_yearOf), (cI κ (r12 40) 8 f12_slips)] H := hPD
  refine lv_if_eq (tgt := 19) hx hb dX12_map_4 (by decide) (fun c4 => ?_) (fun c4 => ?_)
  · have c4 := ci_eq c4
    refine lv_iconst (v := (-1)) hx hb dX12_map_19 (by decide) ?_
    have hpo : (0 ≤ v12_maps.toInt ∧ v12_maps.toInt ≤ 8) ∧ ((¬ (0 ≤ p1.toInt ∧ p1.toInt ≤ 2000 ∧ 0 ≤ p2.toInt ∧ p2.toInt ≤ 65535) ∧ ((-1) : Int32).toInt = -1 ∧ v12_maps.toInt = v12_maps.toInt) ∨ ((0 ≤ p1.toInt ∧ p1.toInt ≤ 2000 ∧ 0 ≤ p2.toInt ∧ p2.toInt ≤ 65535) ∧ v12_maps.toInt = 8 ∧ ((-1) : Int32).toInt = -3 ∧ v12_maps.toInt = v12_maps.toInt) ∨ ((0 ≤ p1.toInt ∧ p1.toInt ≤ 2000 ∧ 0 ≤ p2.toInt ∧ p2.toInt ≤ 65535) ∧ v12_maps.toInt < 8 ∧ ((-1) : Int32).toInt = v12_maps.toInt ∧ v12_maps.toInt = v12_maps.toInt + 1)) := ⟨i12, (by omega)⟩
    exact ret _ _ _ _ (-1) (v12_maps, f12_yearOf, f12_slips) dX12_map_20 hpo hP hD hS
  have c4 := ci_ne c4
  refine lv_iload_n hx hb dX12_map_7 rfl (lv_at hl 2 rfl) ?_
  refine lv_i2l hx hb dX12_map_8 rfl ?_
  refine lv_topl (fun x5 e6 => ?_)
  have h7 : x5.toInt = p2.toInt := cl_i2l e6
  refine lv_lconst (v := (0 : Int64)) hx hb dX12_map_9 (by decide) ?_
  refine lv_ldc2 (v := (65535 : Int64)) hx hb hown w0 dX12_map_10 ?_
  refine kcm_i hA hAB hP hD hS [false, false, false] rfl (fun _ => rfl) (fun hPc hDc => va_runS (As := [.long x5, .long (0 : Int64), .long (65535 : Int64)]) (rest := []) ⟨hx, hb, hml, hown, hts⟩ (k_X12_within l D κ β H.size x5 (0 : Int64) (65535 : Int64)) (va_cwS 3 hts gX12_map_X12_within rfl rfl rfl (by decide +kernel) ⟨Nat.le_of_ble_eq_true rfl, Nat.le_of_ble_eq_true rfl⟩) (pk_S hK hS hAB hPc hDc) rfl rfl hl.1 rfl (lv_room (Nat.le_of_ble_eq_true rfl)) dX12_map_13 ⟨Nat.le_of_ble_eq_true rfl, Nat.le_of_ble_eq_true rfl⟩) (fun x8 u9 H locs hw hPD hS => ?_)
  have h10 : (x8.toInt = 1 ∧ (0 : Int64).toInt ≤ x5.toInt ∧ x5.toInt ≤ (65535 : Int64).toInt) ∨ (x8.toInt = 0 ∧ (x5.toInt < (0 : Int64).toInt ∨ (65535 : Int64).toInt < x5.toInt)) := hw
  obtain ⟨hP, hD⟩ : PD D A [O12 a12 r12 v12_keptMany v12_done v12_sheets v12_holes v12_worms v12_laidMany v12_wanted v12_orderMany v12_firstOrder v12_lines v12_marks v12_dots v12_madeIn v12_bound v12_places v12_maps v12_tapeMany v12_stories v12_base v12_at v12_ends v12_fault v12_opened v12_bodies v12_ran v12_ownKind v12_ownNumber, (cI κ (r12 39) 8 f12_yearOf), (cI κ (r12 40) 8 f12_slips)] H := hPD
  refine lv_if_ne (tgt := 21) hx hb dX12_map_16 (by decide) (fun c11 => ?_) (fun c11 => ?_)
  · have c11 := ci_ne c11
    refine lv_aload_n hx hb dX12_map_21 rfl (lv_at hl 0 rfl) ?_
    refine va_get (D := D) (ci := 12) (v := .int v12_maps) (C := RX12) (T := TX12) (N := 63) hx hb hts w2 hown hK.1 hP 0 rfl rfl 38 (by decide) w1 (fun _ h9 => h9) rfl dX12_map_22 ?_
    refine lv_bipush (v := 8) hx hb dX12_map_25 (by decide) ?_
    refine lv_icmp_ne (tgt := 33) hx hb dX12_map_27 (by decide) (fun c12 => ?_) (fun c12 => ?_)
    · have c12 := ci_ne c12
      refine lv_aload_n hx hb dX12_map_33 rfl (lv_at hl 0 rfl) ?_
      refine va_get (D := D) (ci := 12) (v := .ref (r12 39)) (C := RX12) (T := TX12) (N := 63) hx hb hts w2 hown hK.1 hP 0 rfl rfl 39 (by decide) w3 (fun _ h9 => h9) rfl dX12_map_34 ?_
      refine lv_aload_n hx hb dX12_map_37 rfl (lv_at hl 0 rfl) ?_
      refine va_get (D := D) (ci := 12) (v := .int v12_maps) (C := RX12) (T := TX12) (N := 63) hx hb hts w2 hown hK.1 hP 0 rfl rfl 38 (by decide) w1 (fun _ h9 => h9) rfl dX12_map_38 ?_
      refine lv_iload_n hx hb dX12_map_41 rfl (lv_at hl 1 rfl) ?_
      refine va_iast hx hb hK.1 hP hD hS 1 1 rfl rfl (i := v12_maps) (ix (by omega) (by omega)) dX12_map_42 (fun H locs hP hD hS => ?_)
      obtain ⟨g13, e14⟩ : ∃ y : Nat → Int32, y = upd f12_yearOf v12_maps.toNatClampNeg p1 := ⟨_, rfl⟩
      rw [← e14] at hP hD
      obtain ⟨hP, hD⟩ : PD D A [O12 a12 r12 v12_keptMany v12_done v12_sheets v12_holes v12_worms v12_laidMany v12_wanted v12_orderMany v12_firstOrder v12_lines v12_marks v12_dots v12_madeIn v12_bound v12_places v12_maps v12_tapeMany v12_stories v12_base v12_at v12_ends v12_fault v12_opened v12_bodies v12_ran v12_ownKind v12_ownNumber, (cI κ (r12 39) 8 g13), (cI κ (r12 40) 8 f12_slips)] H := ⟨hP, hD⟩
      refine lv_aload_n hx hb dX12_map_43 rfl (lv_at hl 0 rfl) ?_
      refine va_get (D := D) (ci := 12) (v := .ref (r12 40)) (C := RX12) (T := TX12) (N := 63) hx hb hts w2 hown hK.1 hP 0 rfl rfl 40 (by decide) w4 (fun _ h9 => h9) rfl dX12_map_44 ?_
      refine lv_aload_n hx hb dX12_map_47 rfl (lv_at hl 0 rfl) ?_
      refine va_get (D := D) (ci := 12) (v := .int v12_maps) (C := RX12) (T := TX12) (N := 63) hx hb hts w2 hown hK.1 hP 0 rfl rfl 38 (by decide) w1 (fun _ h9 => h9) rfl dX12_map_48 ?_
      refine lv_iload_n hx hb dX12_map_51 rfl (lv_at hl 2 rfl) ?_
      refine va_iast hx hb hK.1 hP hD hS 2 1 rfl rfl (i := v12_maps) (ix (by omega) (by omega)) dX12_map_52 (fun H locs hP hD hS => ?_)
      obtain ⟨g15, e16⟩ : ∃ y : Nat → Int32, y = upd f12_slips v12_maps.toNatClampNeg p2 := ⟨_, rfl⟩
      rw [← e16] at hP hD
      obtain ⟨hP, hD⟩ : PD D A [O12 a12 r12 v12_keptMany v12_done v12_sheets v12_holes v12_worms v12_laidMany v12_wanted v12_orderMany v12_firstOrder v12_lines v12_marks v12_dots v12_madeIn v12_bound v12_places v12_maps v12_tapeMany v12_stories v12_base v12_at v12_ends v12_fault v12_opened v12_bodies v12_ran v12_ownKind v12_ownNumber, (cI κ (r12 39) 8 g13), (cI κ (r12 40) 8 g15)] H := ⟨hP, hD⟩
      refine lv_aload_n hx hb dX12_map_53 rfl (lv_at hl 0 rfl) ?_
      refine lv_dup hx hb dX12_map_54 rfl ?_
      refine va_get (D := D) (ci := 12) (v := .int v12_maps) (C := RX12) (T := TX12) (N := 63) hx hb hts w2 hown hK.1 hP 0 rfl rfl 38 (by decide) w1 (fun _ h9 => h9) rfl dX12_map_55 ?_
      refine lv_iconst (v := 1) hx hb dX12_map_58 (by decide) ?_
      refine lv_iadd hx hb dX12_map_59 ?_
      refine lv_topi (fun x17 e18 => ?_)
      try have h19 : x17.toInt = v12_maps.toInt + (1 : Int32).toInt := ci_add e18 (by omega) (by omega)
      refine va_put (D := D) (ci := 12) (v := .int x17) (ty := .int) (C := RX12) (T := TX12) (N := 63) hx hb hts w2 tyX12 tyX12_ok nmX12 hown hK.1 hP hD hS 0 rfl rfl 38 (by decide) w1 (fun _ h9 => h9) rfl (by decide +kernel) rfl rfl (Nat.le_of_ble_eq_true rfl) dX12_map_60 (fun H locs hP hD hS => ?_)
      obtain ⟨hP, hD⟩ : PD D A [O12 a12 r12 v12_keptMany v12_done v12_sheets v12_holes v12_worms v12_laidMany v12_wanted v12_orderMany v12_firstOrder v12_lines v12_marks v12_dots v12_madeIn v12_bound v12_places x17 v12_tapeMany v12_stories v12_base v12_at v12_ends v12_fault v12_opened v12_bodies v12_ran v12_ownKind v12_ownNumber, (cI κ (r12 39) 8 g13), (cI κ (r12 40) 8 g15)] H := ⟨hP, hD⟩
      have h20 : 0 ≤ x17.toInt ∧ x17.toInt ≤ 8 := by omega
      refine lv_aload_n hx hb dX12_map_63 rfl (lv_at hl 0 rfl) ?_
      refine va_get (D := D) (ci := 12) (v := .int x17) (C := RX12) (T := TX12) (N := 63) hx hb hts w2 hown hK.1 hP 0 rfl rfl 38 (by decide) w1 (fun _ h9 => h9) rfl dX12_map_64 ?_
      refine lv_iconst (v := 1) hx hb dX12_map_67 (by decide) ?_
      refine lv_isub hx hb dX12_map_68 ?_
      refine lv_topi (fun x21 e22 => ?_)
      try have h23 : x21.toInt = x17.toInt - (1 : Int32).toInt := ci_sub e22 (by omega) (by omega)
      have hpo : (0 ≤ x17.toInt ∧ x17.toInt ≤ 8) ∧ ((¬ (0 ≤ p1.toInt ∧ p1.toInt ≤ 2000 ∧ 0 ≤ p2.toInt ∧ p2.toInt ≤ 65535) ∧ x21.toInt = -1 ∧ x17.toInt = v12_maps.toInt) ∨ ((0 ≤ p1.toInt ∧ p1.toInt ≤ 2000 ∧ 0 ≤ p2.toInt ∧ p2.toInt ≤ 65535) ∧ v12_maps.toInt = 8 ∧ x21.toInt = -3 ∧ x17.toInt = v12_maps.toInt) ∨ ((0 ≤ p1.toInt ∧ p1.toInt ≤ 2000 ∧ 0 ≤ p2.toInt ∧ p2.toInt ≤ 65535) ∧ v12_maps.toInt < 8 ∧ x21.toInt = v12_maps.toInt ∧ x17.toInt = v12_maps.toInt + 1)) := ⟨h20, (by omega)⟩
      exact ret _ _ _ _ x21 (x17, g13, g15) dX12_map_69 hpo hP hD hS
    have c12 := ci_eq c12
    refine lv_bipush (v := (-3)) hx hb dX12_map_30 (by decide) ?_
    have hpo : (0 ≤ v12_maps.toInt ∧ v12_maps.toInt ≤ 8) ∧ ((¬ (0 ≤ p1.toInt ∧ p1.toInt ≤ 2000 ∧ 0 ≤ p2.toInt ∧ p2.toInt ≤ 65535) ∧ ((-3) : Int32).toInt = -1 ∧ v12_maps.toInt = v12_maps.toInt) ∨ ((0 ≤ p1.toInt ∧ p1.toInt ≤ 2000 ∧ 0 ≤ p2.toInt ∧ p2.toInt ≤ 65535) ∧ v12_maps.toInt = 8 ∧ ((-3) : Int32).toInt = -3 ∧ v12_maps.toInt = v12_maps.toInt) ∨ ((0 ≤ p1.toInt ∧ p1.toInt ≤ 2000 ∧ 0 ≤ p2.toInt ∧ p2.toInt ≤ 65535) ∧ v12_maps.toInt < 8 ∧ ((-3) : Int32).toInt = v12_maps.toInt ∧ v12_maps.toInt = v12_maps.toInt + 1)) := ⟨i12, (by omega)⟩
    exact ret _ _ _ _ (-3) (v12_maps, f12_yearOf, f12_slips) dX12_map_32 hpo hP hD hS
  have c11 := ci_eq c11
  refine lv_iconst (v := (-1)) hx hb dX12_map_19 (by decide) ?_
  have hpo : (0 ≤ v12_maps.toInt ∧ v12_maps.toInt ≤ 8) ∧ ((¬ (0 ≤ p1.toInt ∧ p1.toInt ≤ 2000 ∧ 0 ≤ p2.toInt ∧ p2.toInt ≤ 65535) ∧ ((-1) : Int32).toInt = -1 ∧ v12_maps.toInt = v12_maps.toInt) ∨ ((0 ≤ p1.toInt ∧ p1.toInt ≤ 2000 ∧ 0 ≤ p2.toInt ∧ p2.toInt ≤ 65535) ∧ v12_maps.toInt = 8 ∧ ((-1) : Int32).toInt = -3 ∧ v12_maps.toInt = v12_maps.toInt) ∨ ((0 ≤ p1.toInt ∧ p1.toInt ≤ 2000 ∧ 0 ≤ p2.toInt ∧ p2.toInt ≤ 65535) ∧ v12_maps.toInt < 8 ∧ ((-1) : Int32).toInt = v12_maps.toInt ∧ v12_maps.toInt = v12_maps.toInt + 1)) := ⟨i12, (by omega)⟩
  exact ret _ _ _ _ (-1) (v12_maps, f12_yearOf, f12_slips) dX12_map_20 hpo hP hD hS
set_option maxHeartbeats 4000000 in
set_option maxRecDepth 100000 in
theorem k_X12_feed (l : Launch) (D : va_G) (κ : Nat → ClassId) (β : Nat) (a12 : Nat) (r12 : Nat → Nat) (v12_keptMany : Int32) (v12_done : Int32) (v12_sheets : Int32) (v12_holes : Int32) (v12_worms : Int32) (v12_laidMany : Int32) (v12_wanted : Int32) (v12_orderMany : Int32) (v12_firstOrder : Int32) (v12_lines : Int32) (v12_marks : Int32) (v12_dots : Int32) (v12_madeIn : Int32) (v12_bound : Int32) (v12_places : Int32) (v12_maps : Int32) (v12_tapeMany : Int32) (v12_stories : Int32) (v12_base : Int32) (v12_at : Int32) (v12_ends : Int32) (v12_fault : Int32) (v12_opened : Int32) (v12_bodies : Int32) (v12_ran : Int32) (v12_ownKind : Int32) (v12_ownNumber : Int32) (f12_tape : Nat → Int32) (sz : Nat) (p1 : Int32) (p2 : Int32) (i1 : Rg 0 40 v12_keptMany) (i2 : Rg 0 40 v12_done) (i3 : Rg 0 8 v12_sheets) (i4 : Rg 0 40 v12_holes) (i5 : Rg 0 40 v12_worms) (i6 : Rg 0 8 v12_laidMany) (i7 : Rg 0 8 v12_wanted) (i8 : Rg 0 20 v12_lines) (i9 : Rg 0 60 v12_marks) (i10 : Rg 0 40 v12_dots) (i11 : Rg 0 20 v12_places) (i12 : Rg 0 8 v12_maps) (i13 : Rg 0 120 v12_tapeMany) (i14 : Rg 0 6 v12_stories) (i15 : Rg 0 50 v12_bodies) (i16 : Rg 0 1000 v12_ran) (i17 : v12_done.toInt ≤ v12_keptMany.toInt) (i18 : v12_keptMany.toInt = 0) (i19 : v12_done.toInt = 0) (i20 : v12_sheets.toInt = 0) (i21 : v12_holes.toInt = 0) (i22 : v12_worms.toInt = 0) (i23 : v12_lines.toInt = 0) (i24 : v12_marks.toInt = 0) (i25 : v12_dots.toInt = 0) (i26 : v12_madeIn.toInt = 2001) (i27 : v12_places.toInt = 0) (i28 : v12_maps.toInt = 0) (i29 : v12_tapeMany.toInt = 0) (i30 : v12_stories.toInt = 0) (i31 : v12_bodies.toInt = 0) : Met l yX12_feed wsX12_feed ({ frames := 1, cells := 0, slots := 0, locals := 25 } : Room) (PcK D κ β [O12 a12 r12 v12_keptMany v12_done v12_sheets v12_holes v12_worms v12_laidMany v12_wanted v12_orderMany v12_firstOrder v12_lines v12_marks v12_dots v12_madeIn v12_bound v12_places v12_maps v12_tapeMany v12_stories v12_base v12_at v12_ends v12_fault v12_opened v12_bodies v12_ran v12_ownKind v12_ownNumber, (cI κ (r12 41) 120 f12_tape)] sz [.ref a12, .int p1, .int p2]) (QiK D (fun (r : Int32) (u : Int32 × (Nat → Int32)) => (0 ≤ u.1.toInt ∧ u.1.toInt ≤ 120) ∧ (((1 ≤ p1.toInt ∧ p1.toInt ≤ 4) ∧ r.toInt = p1.toInt) ∨ (¬ (1 ≤ p1.toInt ∧ p1.toInt ≤ 4) ∧ r.toInt = -1))) (fun (u : Int32 × (Nat → Int32)) => [O12 a12 r12 v12_keptMany v12_done v12_sheets v12_holes v12_worms v12_laidMany v12_wanted v12_orderMany v12_firstOrder v12_lines v12_marks v12_dots v12_madeIn v12_bound v12_places v12_maps u.1 v12_stories v12_base v12_at v12_ends v12_fault v12_opened v12_bodies v12_ran v12_ownKind v12_ownNumber, (cI κ (r12 41) 120 u.2)]) [O12 a12 r12 v12_keptMany v12_done v12_sheets v12_holes v12_worms v12_laidMany v12_wanted v12_orderMany v12_firstOrder v12_lines v12_marks v12_dots v12_madeIn v12_bound v12_places v12_maps v12_tapeMany v12_stories v12_base v12_at v12_ends v12_fault v12_opened v12_bodies v12_ran v12_ownKind v12_ownNumber, (cI κ (r12 41) 120 f12_tape)] sz) 0 0 (va_A [O12 a12 r12 v12_keptMany v12_done v12_sheets v12_holes v12_worms v12_laidMany v12_wanted v12_orderMany v12_firstOrder v12_lines v12_marks v12_dots v12_madeIn v12_bound v12_places v12_maps v12_tapeMany v12_stories v12_base v12_at v12_ends v12_fault v12_opened v12_bodies v12_ran v12_ownKind v12_ownNumber, (cI κ (r12 41) 120 f12_tape)] sz) := by
  refine ofK_i (cc := cX12_feed) (maxL := 4) (own := RX12) (by decide) rfl rfl (Nat.le_of_ble_eq_true rfl) ?_
  intro p e s m args below meth c Q A ls hsz hx hb hml hts hown hK hA hAB hP hD hl ret
  have hS : va_S A s.heap s.heap [] := va_S.rf
  have hl : lv_has ls 4 [(0, .ref a12), (1, .int p1), (2, .int p2)] := hl
  have w0 := hts (.constantLong RX12 221 (4)) (List.mem_of_getElem? (i := 1) rfl)
  have w1 := hts (.fieldLink RX12 294 "OlderSkinModel" "tapeMany" "I") (List.mem_of_getElem? (i := 2) rfl)
  have w2 := (fun w h => List.mem_cons_of_mem _ (List.mem_append_right _ h) : ∀ w ∈ u_ws RX12 TX12 63, w ∈ wsX12_feed)
  have w3 := hts (.fieldLink RX12 86 "OlderSkinModel" "tape" "[I") (List.mem_of_getElem? (i := 3) rfl)
  have l0 : (1 : Int64).toInt = 1 := by decide
  have l1 : (4 : Int64).toInt = 4 := by decide
  have l2 : (0 : Int32).toInt = 0 := by decide
  have l3 : (120 : Int32).toInt = 120 := by decide
  have l4 : (8 : Int32).toInt = 8 := by decide
  have l5 : (255 : Int32).toInt = 255 := by decide
  have l6 : (1 : Int32).toInt = 1 := by decide
  have l7 : ((-3) : Int32).toInt = -3 := by decide
  have l8 : ((-1) : Int32).toInt = -1 := by decide
  have i13 : 0 ≤ v12_tapeMany.toInt ∧ v12_tapeMany.toInt ≤ 120 := i13
  refine lv_iload_n hx hb dX12_feed_0 rfl (lv_at hl 1 rfl) ?_
  refine lv_i2l hx hb dX12_feed_1 rfl ?_
  refine lv_topl (fun x1 e2 => ?_)
  have h3 : x1.toInt = p1.toInt := cl_i2l e2
  refine lv_lconst (v := (1 : Int64)) hx hb dX12_feed_2 (by decide) ?_
  refine lv_ldc2 (v := (4 : Int64)) hx hb hown w0 dX12_feed_3 ?_
  refine kcm_i hA hAB hP hD hS [false, false] rfl (fun _ => rfl) (fun hPc hDc => va_runS (As := [.long x1, .long (1 : Int64), .long (4 : Int64)]) (rest := []) ⟨hx, hb, hml, hown, hts⟩ (k_X12_within l D κ β s.heap.size x1 (1 : Int64) (4 : Int64)) (va_cwS 3 hts gX12_feed_X12_within rfl rfl rfl (by decide +kernel) ⟨Nat.le_of_ble_eq_true rfl, Nat.le_of_ble_eq_true rfl⟩) (pk_S hK hS hAB hPc hDc) rfl rfl hl.1 rfl (lv_room (Nat.le_of_ble_eq_true rfl)) dX12_feed_6 ⟨Nat.le_of_ble_eq_true rfl, Nat.le_of_ble_eq_true rfl⟩) (fun x4 u5 H locs hw hPD hS => ?_)
  have h6 : (x4.toInt = 1 ∧ (1 : Int64).toInt ≤ x1.toInt ∧ x1.toInt ≤ (4 : Int64).toInt) ∨ (x4.toInt = 0 ∧ (x1.toInt < (1 : Int64).toInt ∨ (4 : Int64).toInt < x1.toInt)) := hw
  obtain ⟨hP, hD⟩ : PD D A [O12 a12 r12 v12_keptMany v12_done v12_sheets v12_holes v12_worms v12_laidMany v12_wanted v12_orderMany v12_firstOrder v12_lines v12_marks v12_dots v12_madeIn v12_bound v12_places v12_maps v12_tapeMany v12_stories v12_base v12_at v12_ends v12_fault v12_opened v12_bodies v12_ran v12_ownKind v12_ownNumber, (cI κ (r12 41) 120 f12_tape)] H := hPD
  refine lv_if_ne (tgt := 14) hx hb dX12_feed_9 (by decide) (fun c7 => ?_) (fun c7 => ?_)
  · have c7 := ci_ne c7
    refine lv_aload_n hx hb dX12_feed_14 rfl (lv_at hl 0 rfl) ?_
    refine va_get (D := D) (ci := 12) (v := .int v12_tapeMany) (C := RX12) (T := TX12) (N := 63) hx hb hts w2 hown hK.1 hP 0 rfl rfl 42 (by decide) w1 (fun _ h9 => h9) rfl dX12_feed_15 ?_
    refine lv_iload_n hx hb dX12_feed_18 rfl (lv_at hl 1 rfl) ?_
    refine lv_iadd hx hb dX12_feed_19 ?_
    refine lv_topi (fun x8 e9 => ?_)
    try have h10 : x8.toInt = v12_tapeMany.toInt + p1.toInt := ci_add e9 (by omega) (by omega)
    refine lv_bipush (v := 120) hx hb dX12_feed_20 (by decide) ?_
    refine lv_icmp_le (tgt := 28) hx hb dX12_feed_22 (by decide) (fun c11 => ?_) (fun c11 => ?_)
    · have c11 := ci_le c11
      refine lv_iconst (v := 0) hx hb dX12_feed_28 (by decide) ?_
      refine lv_istore_n (lv' := [(3, .int 0), (0, .ref a12), (1, .int p1), (2, .int p2)]) hx hb dX12_feed_29 rfl hl (by decide) rfl (fun ls hl => ?_)
      have lp30 : ∀ (n30 : Nat) (k12 : Int32) (v13 : Int32) (g14 : Nat → Int32), (0 ≤ v13.toInt ∧ v13.toInt ≤ 120) → (k12.toInt ≤ p1.toInt) → (v13.toInt - k12.toInt = v12_tapeMany.toInt) → (0 ≤ k12.toInt) → (p1.toInt - k12.toInt).toNat < n30 → ∀ (H : Heap) (locs : List Loc), va_P D vwCl [O12 a12 r12 v12_keptMany v12_done v12_sheets v12_holes v12_worms v12_laidMany v12_wanted v12_orderMany v12_firstOrder v12_lines v12_marks v12_dots v12_madeIn v12_bound v12_places v12_maps v13 v12_stories v12_base v12_at v12_ends v12_fault v12_opened v12_bodies v12_ran v12_ownKind v12_ownNumber, (cI κ (r12 41) 120 g14)] H → va_D A [O12 a12 r12 v12_keptMany v12_done v12_sheets v12_holes v12_worms v12_laidMany v12_wanted v12_orderMany v12_firstOrder v12_lines v12_marks v12_dots v12_madeIn v12_bound v12_places v12_maps v13 v12_stories v12_base v12_at v12_ends v12_fault v12_opened v12_bodies v12_ran v12_ownKind v12_ownNumber, (cI κ (r12 41) 120 g14)] → va_S A s.heap H locs → ∀ ls : Array Slot, lv_has ls 4 [(3, .int k12), (0, .ref a12), (1, .int p1), (2, .int p2)] → W p l e ({ frames := 1, cells := 0, slots := 0, locals := 25 } : Room) s m args below meth c H locs 0 0 Q (F0 m 30 ls []) := by
        intro n30
        induction n30 with
        | zero =>
          intro k12 v13 g14 h15 h16 h17 h18 m19
          exact absurd m19 (Nat.not_lt_zero _)
        | succ n30 ih30 =>
          intro k12 v13 g14 h15 h16 h17 h18 m19 H locs hP hD hS ls hl
          refine lv_iload_n hx hb dX12_feed_30 rfl (lv_at hl 0 rfl) ?_
          refine lv_iload_n hx hb dX12_feed_31 rfl (lv_at hl 2 rfl) ?_
          refine lv_icmp_ge (tgt := 70) hx hb dX12_feed_32 (by decide) (fun c20 => ?_) (fun c20 => ?_)
          · have c20 := ci_le c20
            refine lv_aload_n hx hb dX12_feed_70 rfl (lv_at hl 1 rfl) ?_
            refine va_get (D := D) (ci := 12) (v := .int v13) (C := RX12) (T := TX12) (N := 63) hx hb hts w2 hown hK.1 hP 0 rfl rfl 42 (by decide) w1 (fun _ h9 => h9) rfl dX12_feed_71 ?_
            have hpo : (0 ≤ v13.toInt ∧ v13.toInt ≤ 120) ∧ (((1 ≤ p1.toInt ∧ p1.toInt ≤ 4) ∧ v13.toInt = p1.toInt) ∨ (¬ (1 ≤ p1.toInt ∧ p1.toInt ≤ 4) ∧ v13.toInt = -1)) := ⟨h15, (by omega)⟩
            exact ret _ _ _ _ v13 (v13, g14) dX12_feed_74 hpo hP hD hS
          have c20 := ci_nle c20
          refine lv_aload_n hx hb dX12_feed_35 rfl (lv_at hl 1 rfl) ?_
          refine va_get (D := D) (ci := 12) (v := .ref (r12 41)) (C := RX12) (T := TX12) (N := 63) hx hb hts w2 hown hK.1 hP 0 rfl rfl 41 (by decide) w3 (fun _ h9 => h9) rfl dX12_feed_36 ?_
          refine lv_aload_n hx hb dX12_feed_39 rfl (lv_at hl 1 rfl) ?_
          refine va_get (D := D) (ci := 12) (v := .int v13) (C := RX12) (T := TX12) (N := 63) hx hb hts w2 hown hK.1 hP 0 rfl rfl 42 (by decide) w1 (fun _ h9 => h9) rfl dX12_feed_40 ?_
          refine lv_iload_n hx hb dX12_feed_43 rfl (lv_at hl 3 rfl) ?_
          refine lv_bipush (v := 8) hx hb dX12_feed_44 (by decide) ?_
          refine lv_iload_n hx hb dX12_feed_46 rfl (lv_at hl 0 rfl) ?_
          refine lv_imul hx hb dX12_feed_47 ?_
          refine lv_topi (fun x21 e22 => ?_)
          try have h23 : x21.toInt = 8 * k12.toInt := ci_mulL (n := 8) (by decide) e22 (by omega) (by omega)
          refine lv_ishr hx hb dX12_feed_48 ?_
          refine lv_topi (fun x24 e25 => ?_)
          refine lv_sipush (v := 255) hx hb dX12_feed_49 (by decide) ?_
          refine lv_iand hx hb dX12_feed_52 ?_
          refine lv_topi (fun x26 e27 => ?_)
          refine va_iast hx hb hK.1 hP hD hS 1 1 rfl rfl (i := v13) (ix (by omega) (by omega)) dX12_feed_53 (fun H locs hP hD hS => ?_)
          obtain ⟨g28, e29⟩ : ∃ y : Nat → Int32, y = upd g14 v13.toNatClampNeg x26 := ⟨_, rfl⟩
          rw [← e29] at hP hD
          obtain ⟨hP, hD⟩ : PD D A [O12 a12 r12 v12_keptMany v12_done v12_sheets v12_holes v12_worms v12_laidMany v12_wanted v12_orderMany v12_firstOrder v12_lines v12_marks v12_dots v12_madeIn v12_bound v12_places v12_maps v13 v12_stories v12_base v12_at v12_ends v12_fault v12_opened v12_bodies v12_ran v12_ownKind v12_ownNumber, (cI κ (r12 41) 120 g28)] H := ⟨hP, hD⟩
          refine lv_aload_n hx hb dX12_feed_54 rfl (lv_at hl 1 rfl) ?_
          refine lv_dup hx hb dX12_feed_55 rfl ?_
          refine va_get (D := D) (ci := 12) (v := .int v13) (C := RX12) (T := TX12) (N := 63) hx hb hts w2 hown hK.1 hP 0 rfl rfl 42 (by decide) w1 (fun _ h9 => h9) rfl dX12_feed_56 ?_
          refine lv_iconst (v := 1) hx hb dX12_feed_59 (by decide) ?_
          refine lv_iadd hx hb dX12_feed_60 ?_
          refine lv_topi (fun x30 e31 => ?_)
          try have h32 : x30.toInt = v13.toInt + (1 : Int32).toInt := ci_add e31 (by omega) (by omega)
          refine va_put (D := D) (ci := 12) (v := .int x30) (ty := .int) (C := RX12) (T := TX12) (N := 63) hx hb hts w2 tyX12 tyX12_ok nmX12 hown hK.1 hP hD hS 0 rfl rfl 42 (by decide) w1 (fun _ h9 => h9) rfl (by decide +kernel) rfl rfl (Nat.le_of_ble_eq_true rfl) dX12_feed_61 (fun H locs hP hD hS => ?_)
          obtain ⟨hP, hD⟩ : PD D A [O12 a12 r12 v12_keptMany v12_done v12_sheets v12_holes v12_worms v12_laidMany v12_wanted v12_orderMany v12_firstOrder v12_lines v12_marks v12_dots v12_madeIn v12_bound v12_places v12_maps x30 v12_stories v12_base v12_at v12_ends v12_fault v12_opened v12_bodies v12_ran v12_ownKind v12_ownNumber, (cI κ (r12 41) 120 g28)] H := ⟨hP, hD⟩
          have h33 : 0 ≤ x30.toInt ∧ x30.toInt ≤ 120 := by omega
          obtain ⟨x34, e35⟩ : ∃ y : Int32, y = k12 + 1 := ⟨_, rfl⟩
          refine lv_iinc (v := x34) (lv' := [(3, .int x34), (0, .ref a12), (1, .int p1), (2, .int p2)]) hx hb dX12_feed_64 hl (k := 0) rfl (by rw [e35]; rfl) (by decide) rfl (fun ls hl => ?_)
          try have h36 : x34.toInt = k12.toInt + (1 : Int32).toInt := ci_add e35 (by omega) (by omega)
          refine lv_goto (tgt := 30) hx hb dX12_feed_67 (by decide) ?_
          exact ih30 x34 x30 g28 h33 (by omega) (by omega) (by omega) (by omega) _ _ hP hD hS _ hl
      exact lp30 ((p1.toInt - (0 : Int32).toInt).toNat + 1) 0 v12_tapeMany f12_tape i13 (by omega) (by omega) (by omega) (by omega) _ _ hP hD hS _ hl
    have c11 := ci_nle c11
    refine lv_bipush (v := (-3)) hx hb dX12_feed_25 (by decide) ?_
    have hpo : (0 ≤ v12_tapeMany.toInt ∧ v12_tapeMany.toInt ≤ 120) ∧ (((1 ≤ p1.toInt ∧ p1.toInt ≤ 4) ∧ ((-3) : Int32).toInt = p1.toInt) ∨ (¬ (1 ≤ p1.toInt ∧ p1.toInt ≤ 4) ∧ ((-3) : Int32).toInt = -1)) := ⟨i13, (by omega)⟩
    exact ret _ _ _ _ (-3) (v12_tapeMany, f12_tape) dX12_feed_27 hpo hP hD hS
  have c7 := ci_eq c7
  refine lv_iconst (v := (-1)) hx hb dX12_feed_12 (by decide) ?_
  have hpo : (0 ≤ v12_tapeMany.toInt ∧ v12_tapeMany.toInt ≤ 120) ∧ (((1 ≤ p1.toInt ∧ p1.toInt ≤ 4) ∧ ((-1) : Int32).toInt = p1.toInt) ∨ (¬ (1 ≤ p1.toInt ∧ p1.toInt ≤ 4) ∧ ((-1) : Int32).toInt = -1)) := ⟨i13, (by omega)⟩
  exact ret _ _ _ _ (-1) (v12_tapeMany, f12_tape) dX12_feed_13 hpo hP hD hS
set_option maxHeartbeats 4000000 in
set_option maxRecDepth 100000 in
theorem k_X12_body (l : Launch) (D : va_G) (κ : Nat → ClassId) (β : Nat) (a12 : Nat) (r12 : Nat → Nat) (v12_keptMany : Int32) (v12_done : Int32) (v12_sheets : Int32) (v12_holes : Int32) (v12_worms : Int32) (v12_laidMany : Int32) (v12_wanted : Int32) (v12_orderMany : Int32) (v12_firstOrder : Int32) (v12_lines : Int32) (v12_marks : Int32) (v12_dots : Int32) (v12_madeIn : Int32) (v12_bound : Int32) (v12_places : Int32) (v12_maps : Int32) (v12_tapeMany : Int32) (v12_stories : Int32) (v12_base : Int32) (v12_at : Int32) (v12_ends : Int32) (v12_fault : Int32) (v12_opened : Int32) (v12_bodies : Int32) (v12_ran : Int32) (v12_ownKind : Int32) (v12_ownNumber : Int32) (f12_bodyKind : Nat → Int32) (sz : Nat) (p1 : Int32) (i1 : Rg 0 40 v12_keptMany) (i2 : Rg 0 40 v12_done) (i3 : Rg 0 8 v12_sheets) (i4 : Rg 0 40 v12_holes) (i5 : Rg 0 40 v12_worms) (i6 : Rg 0 8 v12_laidMany) (i7 : Rg 0 8 v12_wanted) (i8 : Rg 0 20 v12_lines) (i9 : Rg 0 60 v12_marks) (i10 : Rg 0 40 v12_dots) (i11 : Rg 0 20 v12_places) (i12 : Rg 0 8 v12_maps) (i13 : Rg 0 120 v12_tapeMany) (i14 : Rg 0 6 v12_stories) (i15 : Rg 0 50 v12_bodies) (i16 : Rg 0 1000 v12_ran) (i17 : v12_done.toInt ≤ v12_keptMany.toInt) (i18 : v12_keptMany.toInt = 0) (i19 : v12_done.toInt = 0) (i20 : v12_sheets.toInt = 0) (i21 : v12_holes.toInt = 0) (i22 : v12_worms.toInt = 0) (i23 : v12_lines.toInt = 0) (i24 : v12_marks.toInt = 0) (i25 : v12_dots.toInt = 0) (i26 : v12_madeIn.toInt = 2001) (i27 : v12_places.toInt = 0) (i28 : v12_maps.toInt = 0) (i29 : v12_tapeMany.toInt = 0) (i30 : v12_stories.toInt = 0) (i31 : v12_bodies.toInt = 0) : Met l yX12_body wsX12_body ({ frames := 1, cells := 0, slots := 0, locals := 25 } : Room) (PcK D κ β [O12 a12 r12 v12_keptMany v12_done v12_sheets v12_holes v12_worms v12_laidMany v12_wanted v12_orderMany v12_firstOrder v12_lines v12_marks v12_dots v12_madeIn v12_bound v12_places v12_maps v12_tapeMany v12_stories v12_base v12_at v12_ends v12_fault v12_opened v12_bodies v12_ran v12_ownKind v12_ownNumber, (cI κ (r12 54) 50 f12_bodyKind)] sz [.ref a12, .int p1]) (QiK D (fun (r : Int32) (u : Int32 × (Nat → Int32)) => (0 ≤ u.1.toInt ∧ u.1.toInt ≤ 50) ∧ ((¬ (0 ≤ p1.toInt ∧ p1.toInt ≤ 7) ∧ r.toInt = -1 ∧ u.1.toInt = v12_bodies.toInt) ∨ ((0 ≤ p1.toInt ∧ p1.toInt ≤ 7) ∧ v12_bodies.toInt = 50 ∧ r.toInt = -3 ∧ u.1.toInt = v12_bodies.toInt) ∨ ((0 ≤ p1.toInt ∧ p1.toInt ≤ 7) ∧ v12_bodies.toInt < 50 ∧ r.toInt = v12_bodies.toInt ∧ u.1.toInt = v12_bodies.toInt + 1))) (fun (u : Int32 × (Nat → Int32)) => [O12 a12 r12 v12_keptMany v12_done v12_sheets v12_holes v12_worms v12_laidMany v12_wanted v12_orderMany v12_firstOrder v12_lines v12_marks v12_dots v12_madeIn v12_bound v12_places v12_maps v12_tapeMany v12_stories v12_base v12_at v12_ends v12_fault v12_opened u.1 v12_ran v12_ownKind v12_ownNumber, (cI κ (r12 54) 50 u.2)]) [O12 a12 r12 v12_keptMany v12_done v12_sheets v12_holes v12_worms v12_laidMany v12_wanted v12_orderMany v12_firstOrder v12_lines v12_marks v12_dots v12_madeIn v12_bound v12_places v12_maps v12_tapeMany v12_stories v12_base v12_at v12_ends v12_fault v12_opened v12_bodies v12_ran v12_ownKind v12_ownNumber, (cI κ (r12 54) 50 f12_bodyKind)] sz) 0 0 (va_A [O12 a12 r12 v12_keptMany v12_done v12_sheets v12_holes v12_worms v12_laidMany v12_wanted v12_orderMany v12_firstOrder v12_lines v12_marks v12_dots v12_madeIn v12_bound v12_places v12_maps v12_tapeMany v12_stories v12_base v12_at v12_ends v12_fault v12_opened v12_bodies v12_ran v12_ownKind v12_ownNumber, (cI κ (r12 54) 50 f12_bodyKind)] sz) := by
  refine ofK_i (cc := cX12_body) (maxL := 2) (own := RX12) (by decide) rfl rfl (Nat.le_of_ble_eq_true rfl) ?_
  intro p e s m args below meth c Q A ls hsz hx hb hml hts hown hK hA hAB hP hD hl ret
  have hS : va_S A s.heap s.heap [] := va_S.rf
  have hl : lv_has ls 2 [(0, .ref a12), (1, .int p1)] := hl
  have w0 := hts (.constantLong RX12 223 (7)) (List.mem_of_getElem? (i := 1) rfl)
  have w1 := hts (.fieldLink RX12 379 "OlderSkinModel" "bodies" "I") (List.mem_of_getElem? (i := 2) rfl)
  have w2 := (fun w h => List.mem_cons_of_mem _ (List.mem_append_right _ h) : ∀ w ∈ u_ws RX12 TX12 63, w ∈ wsX12_body)
  have w3 := hts (.fieldLink RX12 101 "OlderSkinModel" "bodyKind" "[I") (List.mem_of_getElem? (i := 3) rfl)
  have l0 : (0 : Int64).toInt = 0 := by decide
  have l1 : (7 : Int64).toInt = 7 := by decide
  have l2 : (0 : Int32).toInt = 0 := by decide
  have l3 : (50 : Int32).toInt = 50 := by decide
  have l4 : (1 : Int32).toInt = 1 := by decide
  have l5 : ((-3) : Int32).toInt = -3 := by decide
  have l6 : ((-1) : Int32).toInt = -1 := by decide
  have i15 : 0 ≤ v12_bodies.toInt ∧ v12_bodies.toInt ≤ 50 := i15
  refine lv_iload_n hx hb dX12_body_0 rfl (lv_at hl 1 rfl) ?_
  refine lv_i2l hx hb dX12_body_1 rfl ?_
  refine lv_topl (fun x1 e2 => ?_)
  have h3 : x1.toInt = p1.toInt := cl_i2l e2
  refine lv_lconst (v := (0 : Int64)) hx hb dX12_body_2 (by decide) ?_
  refine lv_ldc2 (v := (7 : Int64)) hx hb hown w0 dX12_body_3 ?_
  refine kcm_i hA hAB hP hD hS [false, false] rfl (fun _ => rfl) (fun hPc hDc => va_runS (As := [.long x1, .long (0 : Int64), .long (7 : Int64)]) (rest := []) ⟨hx, hb, hml, hown, hts⟩ (k_X12_within l D κ β s.heap.size x1 (0 : Int64) (7 : Int64)) (va_cwS 3 hts gX12_body_X12_within rfl rfl rfl (by decide +kernel) ⟨Nat.le_of_ble_eq_true rfl, Nat.le_of_ble_eq_true rfl⟩) (pk_S hK hS hAB hPc hDc) rfl rfl hl.1 rfl (lv_room (Nat.le_of_ble_eq_true rfl)) dX12_body_6 ⟨Nat.le_of_ble_eq_true rfl, Nat.le_of_ble_eq_true rfl⟩) (fun x4 u5 H locs hw hPD hS => ?_)
  have h6 : (x4.toInt = 1 ∧ (0 : Int64).toInt ≤ x1.toInt ∧ x1.toInt ≤ (7 : Int64).toInt) ∨ (x4.toInt = 0 ∧ (x1.toInt < (0 : Int64).toInt ∨ (7 : Int64).toInt < x1.toInt)) := hw
  obtain ⟨hP, hD⟩ : PD D A [O12 a12 r12 v12_keptMany v12_done v12_sheets v12_holes v12_worms v12_laidMany v12_wanted v12_orderMany v12_firstOrder v12_lines v12_marks v12_dots v12_madeIn v12_bound v12_places v12_maps v12_tapeMany v12_stories v12_base v12_at v12_ends v12_fault v12_opened v12_bodies v12_ran v12_ownKind v12_ownNumber, (cI κ (r12 54) 50 f12_bodyKind)] H := hPD
  refine lv_if_ne (tgt := 14) hx hb dX12_body_9 (by decide) (fun c7 => ?_) (fun c7 => ?_)
  · have c7 := ci_ne c7
    refine lv_aload_n hx hb dX12_body_14 rfl (lv_at hl 0 rfl) ?_
    refine va_get (D := D) (ci := 12) (v := .int v12_bodies) (C := RX12) (T := TX12) (N := 63) hx hb hts w2 hown hK.1 hP 0 rfl rfl 53 (by decide) w1 (fun _ h9 => h9) rfl dX12_body_15 ?_
    refine lv_bipush (v := 50) hx hb dX12_body_18 (by decide) ?_
    refine lv_icmp_ne (tgt := 26) hx hb dX12_body_20 (by decide) (fun c8 => ?_) (fun c8 => ?_)
    · have c8 := ci_ne c8
      refine lv_aload_n hx hb dX12_body_26 rfl (lv_at hl 0 rfl) ?_
      refine va_get (D := D) (ci := 12) (v := .ref (r12 54)) (C := RX12) (T := TX12) (N := 63) hx hb hts w2 hown hK.1 hP 0 rfl rfl 54 (by decide) w3 (fun _ h9 => h9) rfl dX12_body_27 ?_
      refine lv_aload_n hx hb dX12_body_30 rfl (lv_at hl 0 rfl) ?_
      refine va_get (D := D) (ci := 12) (v := .int v12_bodies) (C := RX12) (T := TX12) (N := 63) hx hb hts w2 hown hK.1 hP 0 rfl rfl 53 (by decide) w1 (fun _ h9 => h9) rfl dX12_body_31 ?_
      refine lv_iload_n hx hb dX12_body_34 rfl (lv_at hl 1 rfl) ?_
      refine va_iast hx hb hK.1 hP hD hS 1 1 rfl rfl (i := v12_bodies) (ix (by omega) (by omega)) dX12_body_35 (fun H locs hP hD hS => ?_)
      obtain ⟨g9, e10⟩ : ∃ y : Nat → Int32, y = upd f12_bodyKind v12_bodies.toNatClampNeg p1 := ⟨_, rfl⟩
      rw [← e10] at hP hD
      obtain ⟨hP, hD⟩ : PD D A [O12 a12 r12 v12_keptMany v12_done v12_sheets v12_holes v12_worms v12_laidMany v12_wanted v12_orderMany v12_firstOrder v12_lines v12_marks v12_dots v12_madeIn v12_bound v12_places v12_maps v12_tapeMany v12_stories v12_base v12_at v12_ends v12_fault v12_opened v12_bodies v12_ran v12_ownKind v12_ownNumber, (cI κ (r12 54) 50 g9)] H := ⟨hP, hD⟩
      refine lv_aload_n hx hb dX12_body_36 rfl (lv_at hl 0 rfl) ?_
      refine lv_dup hx hb dX12_body_37 rfl ?_
      refine va_get (D := D) (ci := 12) (v := .int v12_bodies) (C := RX12) (T := TX12) (N := 63) hx hb hts w2 hown hK.1 hP 0 rfl rfl 53 (by decide) w1 (fun _ h9 => h9) rfl dX12_body_38 ?_
      refine lv_iconst (v := 1) hx hb dX12_body_41 (by decide) ?_
      refine lv_iadd hx hb dX12_body_42 ?_
      refine lv_topi (fun x11 e12 => ?_)
      try have h13 : x11.toInt = v12_bodies.toInt + (1 : Int32).toInt := ci_add e12 (by omega) (by omega)
      refine va_put (D := D) (ci := 12) (v := .int x11) (ty := .int) (C := RX12) (T := TX12) (N := 63) hx hb hts w2 tyX12 tyX12_ok nmX12 hown hK.1 hP hD hS 0 rfl rfl 53 (by decide) w1 (fun _ h9 => h9) rfl (by decide +kernel) rfl rfl (Nat.le_of_ble_eq_true rfl) dX12_body_43 (fun H locs hP hD hS => ?_)
      obtain ⟨hP, hD⟩ : PD D A [O12 a12 r12 v12_keptMany v12_done v12_sheets v12_holes v12_worms v12_laidMany v12_wanted v12_orderMany v12_firstOrder v12_lines v12_marks v12_dots v12_madeIn v12_bound v12_places v12_maps v12_tapeMany v12_stories v12_base v12_at v12_ends v12_fault v12_opened x11 v12_ran v12_ownKind v12_ownNumber, (cI κ (r12 54) 50 g9)] H := ⟨hP, hD⟩
      have h14 : 0 ≤ x11.toInt ∧ x11.toInt ≤ 50 := by omega
      refine lv_aload_n hx hb dX12_body_46 rfl (lv_at hl 0 rfl) ?_
      refine va_get (D := D) (ci := 12) (v := .int x11) (C := RX12) (T := TX12) (N := 63) hx hb hts w2 hown hK.1 hP 0 rfl rfl 53 (by decide) w1 (fun _ h9 => h9) rfl dX12_body_47 ?_
      refine lv_iconst (v := 1) hx hb dX12_body_50 (by decide) ?_
      refine lv_isub hx hb dX12_body_51 ?_
      refine lv_topi (fun x15 e16 => ?_)
      try have h17 : x15.toInt = x11.toInt - (1 : Int32).toInt := ci_sub e16 (by omega) (by omega)
      have hpo : (0 ≤ x11.toInt ∧ x11.toInt ≤ 50) ∧ ((¬ (0 ≤ p1.toInt ∧ p1.toInt ≤ 7) ∧ x15.toInt = -1 ∧ x11.toInt = v12_bodies.toInt) ∨ ((0 ≤ p1.toInt ∧ p1.toInt ≤ 7) ∧ v12_bodies.toInt = 50 ∧ x15.toInt = -3 ∧ x11.toInt = v12_bodies.toInt) ∨ ((0 ≤ p1.toInt ∧ p1.toInt ≤ 7) ∧ v12_bodies.toInt < 50 ∧ x15.toInt = v12_bodies.toInt ∧ x11.toInt = v12_bodies.toInt + 1)) := ⟨h14, (by omega)⟩
      exact ret _ _ _ _ x15 (x11, g9) dX12_body_52 hpo hP hD hS
    have c8 := ci_eq c8
    refine lv_bipush (v := (-3)) hx hb dX12_body_23 (by decide) ?_
    have hpo : (0 ≤ v12_bodies.toInt ∧ v12_bodies.toInt ≤ 50) ∧ ((¬ (0 ≤ p1.toInt ∧ p1.toInt ≤ 7) ∧ ((-3) : Int32).toInt = -1 ∧ v12_bodies.toInt = v12_bodies.toInt) ∨ ((0 ≤ p1.toInt ∧ p1.toInt ≤ 7) ∧ v12_bodies.toInt = 50 ∧ ((-3) : Int32).toInt = -3 ∧ v12_bodies.toInt = v12_bodies.toInt) ∨ ((0 ≤ p1.toInt ∧ p1.toInt ≤ 7) ∧ v12_bodies.toInt < 50 ∧ ((-3) : Int32).toInt = v12_bodies.toInt ∧ v12_bodies.toInt = v12_bodies.toInt + 1)) := ⟨i15, (by omega)⟩
    exact ret _ _ _ _ (-3) (v12_bodies, f12_bodyKind) dX12_body_25 hpo hP hD hS
  have c7 := ci_eq c7
  refine lv_iconst (v := (-1)) hx hb dX12_body_12 (by decide) ?_
  have hpo : (0 ≤ v12_bodies.toInt ∧ v12_bodies.toInt ≤ 50) ∧ ((¬ (0 ≤ p1.toInt ∧ p1.toInt ≤ 7) ∧ ((-1) : Int32).toInt = -1 ∧ v12_bodies.toInt = v12_bodies.toInt) ∨ ((0 ≤ p1.toInt ∧ p1.toInt ≤ 7) ∧ v12_bodies.toInt = 50 ∧ ((-1) : Int32).toInt = -3 ∧ v12_bodies.toInt = v12_bodies.toInt) ∨ ((0 ≤ p1.toInt ∧ p1.toInt ≤ 7) ∧ v12_bodies.toInt < 50 ∧ ((-1) : Int32).toInt = v12_bodies.toInt ∧ v12_bodies.toInt = v12_bodies.toInt + 1)) := ⟨i15, (by omega)⟩
  exact ret _ _ _ _ (-1) (v12_bodies, f12_bodyKind) dX12_body_13 hpo hP hD hS
set_option maxHeartbeats 4000000 in
set_option maxRecDepth 100000 in
theorem k_X12_kindOf (l : Launch) (D : va_G) (κ : Nat → ClassId) (β : Nat) (a12 : Nat) (r12 : Nat → Nat) (v12_keptMany : Int32) (v12_done : Int32) (v12_sheets : Int32) (v12_holes : Int32) (v12_worms : Int32) (v12_laidMany : Int32) (v12_wanted : Int32) (v12_orderMany : Int32) (v12_firstOrder : Int32) (v12_lines : Int32) (v12_marks : Int32) (v12_dots : Int32) (v12_madeIn : Int32) (v12_bound : Int32) (v12_places : Int32) (v12_maps : Int32) (v12_tapeMany : Int32) (v12_stories : Int32) (v12_base : Int32) (v12_at : Int32) (v12_ends : Int32) (v12_fault : Int32) (v12_opened : Int32) (v12_bodies : Int32) (v12_ran : Int32) (v12_ownKind : Int32) (v12_ownNumber : Int32) (sz : Nat) (p1 : Int32) (i1 : Rg 0 40 v12_keptMany) (i2 : Rg 0 40 v12_done) (i3 : Rg 0 8 v12_sheets) (i4 : Rg 0 40 v12_holes) (i5 : Rg 0 40 v12_worms) (i6 : Rg 0 8 v12_laidMany) (i7 : Rg 0 8 v12_wanted) (i8 : Rg 0 20 v12_lines) (i9 : Rg 0 60 v12_marks) (i10 : Rg 0 40 v12_dots) (i11 : Rg 0 20 v12_places) (i12 : Rg 0 8 v12_maps) (i13 : Rg 0 120 v12_tapeMany) (i14 : Rg 0 6 v12_stories) (i15 : Rg 0 50 v12_bodies) (i16 : Rg 0 1000 v12_ran) (i17 : v12_done.toInt ≤ v12_keptMany.toInt) (i18 : (1 : Int) ≤ 0) : Met l yX12_kindOf wsX12_kindOf ({ frames := 1, cells := 0, slots := 0, locals := 30 } : Room) (PcK D κ β [O12 a12 r12 v12_keptMany v12_done v12_sheets v12_holes v12_worms v12_laidMany v12_wanted v12_orderMany v12_firstOrder v12_lines v12_marks v12_dots v12_madeIn v12_bound v12_places v12_maps v12_tapeMany v12_stories v12_base v12_at v12_ends v12_fault v12_opened v12_bodies v12_ran v12_ownKind v12_ownNumber] sz [.ref a12, .int p1]) (QiK D (fun (r : Int32) (u : Unit) => True) (fun (u : Unit) => [O12 a12 r12 v12_keptMany v12_done v12_sheets v12_holes v12_worms v12_laidMany v12_wanted v12_orderMany v12_firstOrder v12_lines v12_marks v12_dots v12_madeIn v12_bound v12_places v12_maps v12_tapeMany v12_stories v12_base v12_at v12_ends v12_fault v12_opened v12_bodies v12_ran v12_ownKind v12_ownNumber]) [O12 a12 r12 v12_keptMany v12_done v12_sheets v12_holes v12_worms v12_laidMany v12_wanted v12_orderMany v12_firstOrder v12_lines v12_marks v12_dots v12_madeIn v12_bound v12_places v12_maps v12_tapeMany v12_stories v12_base v12_at v12_ends v12_fault v12_opened v12_bodies v12_ran v12_ownKind v12_ownNumber] sz) 0 0 (va_A [O12 a12 r12 v12_keptMany v12_done v12_sheets v12_holes v12_worms v12_laidMany v12_wanted v12_orderMany v12_firstOrder v12_lines v12_marks v12_dots v12_madeIn v12_bound v12_places v12_maps v12_tapeMany v12_stories v12_base v12_at v12_ends v12_fault v12_opened v12_bodies v12_ran v12_ownKind v12_ownNumber] sz) := by
  refine ofK_i (cc := cX12_kindOf) (maxL := 2) (own := RX12) (by decide) rfl rfl (Nat.le_of_ble_eq_true rfl) ?_
  intro p e s m args below meth c Q A ls hsz hx hb hml hts hown hK hA hAB hP hD hl ret
  have hS : va_S A s.heap s.heap [] := va_S.rf
  have hl : lv_has ls 2 [(0, .ref a12), (1, .int p1)] := hl
  exfalso
  omega
set_option maxHeartbeats 4000000 in
set_option maxRecDepth 100000 in
theorem k_X12_begins (l : Launch) (D : va_G) (κ : Nat → ClassId) (β : Nat) (a12 : Nat) (r12 : Nat → Nat) (v12_keptMany : Int32) (v12_done : Int32) (v12_sheets : Int32) (v12_holes : Int32) (v12_worms : Int32) (v12_laidMany : Int32) (v12_wanted : Int32) (v12_orderMany : Int32) (v12_firstOrder : Int32) (v12_lines : Int32) (v12_marks : Int32) (v12_dots : Int32) (v12_madeIn : Int32) (v12_bound : Int32) (v12_places : Int32) (v12_maps : Int32) (v12_tapeMany : Int32) (v12_stories : Int32) (v12_base : Int32) (v12_at : Int32) (v12_ends : Int32) (v12_fault : Int32) (v12_opened : Int32) (v12_bodies : Int32) (v12_ran : Int32) (v12_ownKind : Int32) (v12_ownNumber : Int32) (sz : Nat) (p1 : Int32) (i1 : Rg 0 40 v12_keptMany) (i2 : Rg 0 40 v12_done) (i3 : Rg 0 8 v12_sheets) (i4 : Rg 0 40 v12_holes) (i5 : Rg 0 40 v12_worms) (i6 : Rg 0 8 v12_laidMany) (i7 : Rg 0 8 v12_wanted) (i8 : Rg 0 20 v12_lines) (i9 : Rg 0 60 v12_marks) (i10 : Rg 0 40 v12_dots) (i11 : Rg 0 20 v12_places) (i12 : Rg 0 8 v12_maps) (i13 : Rg 0 120 v12_tapeMany) (i14 : Rg 0 6 v12_stories) (i15 : Rg 0 50 v12_bodies) (i16 : Rg 0 1000 v12_ran) (i17 : v12_done.toInt ≤ v12_keptMany.toInt) (i18 : (1 : Int) ≤ 0) : Met l yX12_begins wsX12_begins ({ frames := 1, cells := 0, slots := 0, locals := 30 } : Room) (PcK D κ β [O12 a12 r12 v12_keptMany v12_done v12_sheets v12_holes v12_worms v12_laidMany v12_wanted v12_orderMany v12_firstOrder v12_lines v12_marks v12_dots v12_madeIn v12_bound v12_places v12_maps v12_tapeMany v12_stories v12_base v12_at v12_ends v12_fault v12_opened v12_bodies v12_ran v12_ownKind v12_ownNumber] sz [.ref a12, .int p1]) (QvK D (fun (u : Unit) => True) (fun (u : Unit) => [O12 a12 r12 v12_keptMany v12_done v12_sheets v12_holes v12_worms v12_laidMany v12_wanted v12_orderMany v12_firstOrder v12_lines v12_marks v12_dots v12_madeIn v12_bound v12_places v12_maps v12_tapeMany v12_stories v12_base v12_at v12_ends v12_fault v12_opened v12_bodies v12_ran v12_ownKind v12_ownNumber]) [O12 a12 r12 v12_keptMany v12_done v12_sheets v12_holes v12_worms v12_laidMany v12_wanted v12_orderMany v12_firstOrder v12_lines v12_marks v12_dots v12_madeIn v12_bound v12_places v12_maps v12_tapeMany v12_stories v12_base v12_at v12_ends v12_fault v12_opened v12_bodies v12_ran v12_ownKind v12_ownNumber] sz) 0 0 (va_A [O12 a12 r12 v12_keptMany v12_done v12_sheets v12_holes v12_worms v12_laidMany v12_wanted v12_orderMany v12_firstOrder v12_lines v12_marks v12_dots v12_madeIn v12_bound v12_places v12_maps v12_tapeMany v12_stories v12_base v12_at v12_ends v12_fault v12_opened v12_bodies v12_ran v12_ownKind v12_ownNumber] sz) := by
  refine ofK_v (cc := cX12_begins) (maxL := 2) (own := RX12) (by decide) rfl rfl (Nat.le_of_ble_eq_true rfl) ?_
  intro p e s m args below meth c Q A ls hsz hx hb hml hts hown hK hA hAB hP hD hl hname ret
  have hS : va_S A s.heap s.heap [] := va_S.rf
  have hl : lv_has ls 2 [(0, .ref a12), (1, .int p1)] := hl
  have i16 : 0 ≤ v12_ran.toInt ∧ v12_ran.toInt ≤ 1000 := i16
  exfalso
  omega
set_option maxHeartbeats 4000000 in
set_option maxRecDepth 100000 in
theorem k_X12_trace (l : Launch) (D : va_G) (κ : Nat → ClassId) (β : Nat) (a12 : Nat) (r12 : Nat → Nat) (v12_keptMany : Int32) (v12_done : Int32) (v12_sheets : Int32) (v12_holes : Int32) (v12_worms : Int32) (v12_laidMany : Int32) (v12_wanted : Int32) (v12_orderMany : Int32) (v12_firstOrder : Int32) (v12_lines : Int32) (v12_marks : Int32) (v12_dots : Int32) (v12_madeIn : Int32) (v12_bound : Int32) (v12_places : Int32) (v12_maps : Int32) (v12_tapeMany : Int32) (v12_stories : Int32) (v12_base : Int32) (v12_at : Int32) (v12_ends : Int32) (v12_fault : Int32) (v12_opened : Int32) (v12_bodies : Int32) (v12_ran : Int32) (v12_ownKind : Int32) (v12_ownNumber : Int32) (f12_trace : Nat → Int32) (sz : Nat) (p1 : Int32) (i1 : Rg 0 40 v12_keptMany) (i2 : Rg 0 40 v12_done) (i3 : Rg 0 8 v12_sheets) (i4 : Rg 0 40 v12_holes) (i5 : Rg 0 40 v12_worms) (i6 : Rg 0 8 v12_laidMany) (i7 : Rg 0 8 v12_wanted) (i8 : Rg 0 20 v12_lines) (i9 : Rg 0 60 v12_marks) (i10 : Rg 0 40 v12_dots) (i11 : Rg 0 20 v12_places) (i12 : Rg 0 8 v12_maps) (i13 : Rg 0 120 v12_tapeMany) (i14 : Rg 0 6 v12_stories) (i15 : Rg 0 50 v12_bodies) (i16 : Rg 0 1000 v12_ran) (i17 : v12_done.toInt ≤ v12_keptMany.toInt) (i18 : v12_ran.toInt = 0) (i19 : v12_keptMany.toInt = 0) (i20 : v12_done.toInt = 0) (i21 : v12_sheets.toInt = 0) (i22 : v12_holes.toInt = 0) (i23 : v12_worms.toInt = 0) (i24 : v12_lines.toInt = 0) (i25 : v12_marks.toInt = 0) (i26 : v12_dots.toInt = 0) (i27 : v12_madeIn.toInt = 2001) (i28 : v12_places.toInt = 0) (i29 : v12_maps.toInt = 0) (i30 : v12_tapeMany.toInt = 0) (i31 : v12_stories.toInt = 0) (i32 : v12_bodies.toInt = 0) : Met l yX12_trace wsX12_trace ({ frames := 0, cells := 0, slots := 0, locals := 0 } : Room) (PcK D κ β [O12 a12 r12 v12_keptMany v12_done v12_sheets v12_holes v12_worms v12_laidMany v12_wanted v12_orderMany v12_firstOrder v12_lines v12_marks v12_dots v12_madeIn v12_bound v12_places v12_maps v12_tapeMany v12_stories v12_base v12_at v12_ends v12_fault v12_opened v12_bodies v12_ran v12_ownKind v12_ownNumber, (cI κ (r12 55) 24 f12_trace)] sz [.ref a12, .int p1]) (QiK D (fun (r : Int32) (u : Unit) => r.toInt = -1) (fun (u : Unit) => [O12 a12 r12 v12_keptMany v12_done v12_sheets v12_holes v12_worms v12_laidMany v12_wanted v12_orderMany v12_firstOrder v12_lines v12_marks v12_dots v12_madeIn v12_bound v12_places v12_maps v12_tapeMany v12_stories v12_base v12_at v12_ends v12_fault v12_opened v12_bodies v12_ran v12_ownKind v12_ownNumber, (cI κ (r12 55) 24 f12_trace)]) [O12 a12 r12 v12_keptMany v12_done v12_sheets v12_holes v12_worms v12_laidMany v12_wanted v12_orderMany v12_firstOrder v12_lines v12_marks v12_dots v12_madeIn v12_bound v12_places v12_maps v12_tapeMany v12_stories v12_base v12_at v12_ends v12_fault v12_opened v12_bodies v12_ran v12_ownKind v12_ownNumber, (cI κ (r12 55) 24 f12_trace)] sz) 0 0 (va_A [O12 a12 r12 v12_keptMany v12_done v12_sheets v12_holes v12_worms v12_laidMany v12_wanted v12_orderMany v12_firstOrder v12_lines v12_marks v12_dots v12_madeIn v12_bound v12_places v12_maps v12_tapeMany v12_stories v12_base v12_at v12_ends v12_fault v12_opened v12_bodies v12_ran v12_ownKind v12_ownNumber, (cI κ (r12 55) 24 f12_trace)] sz) := by
  refine ofK_i (cc := cX12_trace) (maxL := 2) (own := RX12) (by decide) rfl rfl (Nat.le_of_ble_eq_true rfl) ?_
  intro p e s m args below meth c Q A ls hsz hx hb hml hts hown hK hA hAB hP hD hl ret
  have hS : va_S A s.heap s.heap [] := va_S.rf
  have hl : lv_has ls 2 [(0, .ref a12), (1, .int p1)] := hl
  have w0 := hts (.fieldLink RX12 382 "OlderSkinModel" "ran" "I") (List.mem_of_getElem? (i := 1) rfl)
  have w1 := (fun w h => List.mem_cons_of_mem _ (List.mem_append_right _ h) : ∀ w ∈ u_ws RX12 TX12 63, w ∈ wsX12_trace)
  have w2 := hts (.fieldLink RX12 104 "OlderSkinModel" "trace" "[I") (List.mem_of_getElem? (i := 2) rfl)
  have l0 : (0 : Int32).toInt = 0 := by decide
  have l1 : ((-1) : Int32).toInt = -1 := by decide
  have l2 : (24 : Int32).toInt = 24 := by decide
  have i16 : 0 ≤ v12_ran.toInt ∧ v12_ran.toInt ≤ 1000 := i16
  refine lv_iload_n hx hb dX12_trace_0 rfl (lv_at hl 1 rfl) ?_
  refine lv_if_lt (tgt := 27) hx hb dX12_trace_1 (by decide) (fun c1 => ?_) (fun c1 => ?_)
  · have c1 := ci_lt c1
    refine lv_iconst (v := (-1)) hx hb dX12_trace_27 (by decide) ?_
    have hpo : ((-1) : Int32).toInt = -1 := (by omega)
    exact ret _ _ _ _ (-1) () dX12_trace_28 hpo hP hD hS
  have c1 := ci_nlt c1
  refine lv_iload_n hx hb dX12_trace_4 rfl (lv_at hl 1 rfl) ?_
  refine lv_aload_n hx hb dX12_trace_5 rfl (lv_at hl 0 rfl) ?_
  refine va_get (D := D) (ci := 12) (v := .int v12_ran) (C := RX12) (T := TX12) (N := 63) hx hb hts w1 hown hK.1 hP 0 rfl rfl 56 (by decide) w0 (fun _ h9 => h9) rfl dX12_trace_6 ?_
  refine lv_icmp_ge (tgt := 27) hx hb dX12_trace_9 (by decide) (fun c2 => ?_) (fun c2 => ?_)
  · have c2 := ci_le c2
    refine lv_iconst (v := (-1)) hx hb dX12_trace_27 (by decide) ?_
    have hpo : ((-1) : Int32).toInt = -1 := (by omega)
    exact ret _ _ _ _ (-1) () dX12_trace_28 hpo hP hD hS
  have c2 := ci_nle c2
  refine lv_iload_n hx hb dX12_trace_12 rfl (lv_at hl 1 rfl) ?_
  refine lv_bipush (v := 24) hx hb dX12_trace_13 (by decide) ?_
  refine lv_icmp_ge (tgt := 27) hx hb dX12_trace_15 (by decide) (fun c3 => ?_) (fun c3 => ?_)
  · have c3 := ci_le c3
    refine lv_iconst (v := (-1)) hx hb dX12_trace_27 (by decide) ?_
    have hpo : ((-1) : Int32).toInt = -1 := (by omega)
    exact ret _ _ _ _ (-1) () dX12_trace_28 hpo hP hD hS
  have c3 := ci_nle c3
  refine lv_aload_n hx hb dX12_trace_18 rfl (lv_at hl 0 rfl) ?_
  refine va_get (D := D) (ci := 12) (v := .ref (r12 55)) (C := RX12) (T := TX12) (N := 63) hx hb hts w1 hown hK.1 hP 0 rfl rfl 55 (by decide) w2 (fun _ h9 => h9) rfl dX12_trace_19 ?_
  refine lv_iload_n hx hb dX12_trace_22 rfl (lv_at hl 1 rfl) ?_
  refine va_iald hx hb hK.1 hP 1 1 rfl rfl (i := p1) (ix (by omega) (by omega)) dX12_trace_23 ?_
  refine lv_topi (fun x4 e5 => ?_)
  refine lv_goto (tgt := 28) hx hb dX12_trace_24 (by decide) ?_
  have hpo : x4.toInt = -1 := (by omega)
  exact ret _ _ _ _ x4 () dX12_trace_28 hpo hP hD hS
set_option maxHeartbeats 4000000 in
set_option maxRecDepth 100000 in
theorem k_X12_keep (l : Launch) (D : va_G) (κ : Nat → ClassId) (β : Nat) (a12 : Nat) (r12 : Nat → Nat) (v12_keptMany : Int32) (v12_done : Int32) (v12_sheets : Int32) (v12_holes : Int32) (v12_worms : Int32) (v12_laidMany : Int32) (v12_wanted : Int32) (v12_orderMany : Int32) (v12_firstOrder : Int32) (v12_lines : Int32) (v12_marks : Int32) (v12_dots : Int32) (v12_madeIn : Int32) (v12_bound : Int32) (v12_places : Int32) (v12_maps : Int32) (v12_tapeMany : Int32) (v12_stories : Int32) (v12_base : Int32) (v12_at : Int32) (v12_ends : Int32) (v12_fault : Int32) (v12_opened : Int32) (v12_bodies : Int32) (v12_ran : Int32) (v12_ownKind : Int32) (v12_ownNumber : Int32) (f12_shelf : Nat → Int32) (f12_many : Nat → Int32) (sz : Nat) (p1 : Int32) (p2 : Int32) (i1 : Rg 0 40 v12_keptMany) (i2 : Rg 0 40 v12_done) (i3 : Rg 0 8 v12_sheets) (i4 : Rg 0 40 v12_holes) (i5 : Rg 0 40 v12_worms) (i6 : Rg 0 8 v12_laidMany) (i7 : Rg 0 8 v12_wanted) (i8 : Rg 0 20 v12_lines) (i9 : Rg 0 60 v12_marks) (i10 : Rg 0 40 v12_dots) (i11 : Rg 0 20 v12_places) (i12 : Rg 0 8 v12_maps) (i13 : Rg 0 120 v12_tapeMany) (i14 : Rg 0 6 v12_stories) (i15 : Rg 0 50 v12_bodies) (i16 : Rg 0 1000 v12_ran) (hf12_many : ∀ j : Nat, 0 ≤ (f12_many j).toInt ∧ (f12_many j).toInt ≤ 60) (i17 : v12_done.toInt ≤ v12_keptMany.toInt) (i18 : v12_keptMany.toInt = 0) (i19 : v12_done.toInt = 0) (i20 : v12_sheets.toInt = 0) (i21 : v12_holes.toInt = 0) (i22 : v12_worms.toInt = 0) (i23 : v12_lines.toInt = 0) (i24 : v12_marks.toInt = 0) (i25 : v12_dots.toInt = 0) (i26 : v12_madeIn.toInt = 2001) (i27 : v12_places.toInt = 0) (i28 : v12_maps.toInt = 0) (i29 : v12_tapeMany.toInt = 0) (i30 : v12_stories.toInt = 0) (i31 : v12_bodies.toInt = 0) : Met l yX12_keep wsX12_keep ({ frames := 2, cells := 0, slots := 0, locals := 46 } : Room) (PcK D κ β [O12 a12 r12 v12_keptMany v12_done v12_sheets v12_holes v12_worms v12_laidMany v12_wanted v12_orderMany v12_firstOrder v12_lines v12_marks v12_dots v12_madeIn v12_bound v12_places v12_maps v12_tapeMany v12_stories v12_base v12_at v12_ends v12_fault v12_opened v12_bodies v12_ran v12_ownKind v12_ownNumber, (cI κ (r12 59) 6 f12_shelf), (cI κ (r12 60) 6 f12_many)] sz [.ref a12, .int p1, .int p2]) (QiK D (fun (r : Int32) (u : (Nat → Int32) × (Nat → Int32)) => (∀ j : Nat, 0 ≤ (u.2 j).toInt ∧ (u.2 j).toInt ≤ 60) ∧ (((0 ≤ p1.toInt ∧ p1.toInt ≤ 5 ∧ (p2.toInt = -1 ∨ (0 ≤ p2.toInt ∧ p2.toInt < v12_bodies.toInt))) ∧ r.toInt = 1) ∨ (¬ (0 ≤ p1.toInt ∧ p1.toInt ≤ 5 ∧ (p2.toInt = -1 ∨ (0 ≤ p2.toInt ∧ p2.toInt < v12_bodies.toInt))) ∧ r.toInt = -1))) (fun (u : (Nat → Int32) × (Nat → Int32)) => [O12 a12 r12 v12_keptMany v12_done v12_sheets v12_holes v12_worms v12_laidMany v12_wanted v12_orderMany v12_firstOrder v12_lines v12_marks v12_dots v12_madeIn v12_bound v12_places v12_maps v12_tapeMany v12_stories v12_base v12_at v12_ends v12_fault v12_opened v12_bodies v12_ran v12_ownKind v12_ownNumber, (cI κ (r12 59) 6 u.1), (cI κ (r12 60) 6 u.2)]) [O12 a12 r12 v12_keptMany v12_done v12_sheets v12_holes v12_worms v12_laidMany v12_wanted v12_orderMany v12_firstOrder v12_lines v12_marks v12_dots v12_madeIn v12_bound v12_places v12_maps v12_tapeMany v12_stories v12_base v12_at v12_ends v12_fault v12_opened v12_bodies v12_ran v12_ownKind v12_ownNumber, (cI κ (r12 59) 6 f12_shelf), (cI κ (r12 60) 6 f12_many)] sz) 0 0 (va_A [O12 a12 r12 v12_keptMany v12_done v12_sheets v12_holes v12_worms v12_laidMany v12_wanted v12_orderMany v12_firstOrder v12_lines v12_marks v12_dots v12_madeIn v12_bound v12_places v12_maps v12_tapeMany v12_stories v12_base v12_at v12_ends v12_fault v12_opened v12_bodies v12_ran v12_ownKind v12_ownNumber, (cI κ (r12 59) 6 f12_shelf), (cI κ (r12 60) 6 f12_many)] sz) := by
  refine ofK_i (cc := cX12_keep) (maxL := 3) (own := RX12) (by decide) rfl rfl (Nat.le_of_ble_eq_true rfl) ?_
  intro p e s m args below meth c Q A ls hsz hx hb hml hts hown hK hA hAB hP hD hl ret
  have hS : va_S A s.heap s.heap [] := va_S.rf
  have hl : lv_has ls 3 [(0, .ref a12), (1, .int p1), (2, .int p2)] := hl
  have w0 := hts (.fieldLink RX12 107 "OlderSkinModel" "shelf" "[I") (List.mem_of_getElem? (i := 1) rfl)
  have w1 := (fun w h => List.mem_cons_of_mem _ (List.mem_append_right _ h) : ∀ w ∈ u_ws RX12 TX12 63, w ∈ wsX12_keep)
  have w2 := hts (.fieldLink RX12 110 "OlderSkinModel" "many" "[I") (List.mem_of_getElem? (i := 2) rfl)
  have l0 : (0 : Int32).toInt = 0 := by decide
  have l1 : ((-1) : Int32).toInt = -1 := by decide
  have l2 : (1 : Int32).toInt = 1 := by decide
  have i15 : 0 ≤ v12_bodies.toInt ∧ v12_bodies.toInt ≤ 50 := i15
  refine lv_iload_n hx hb dX12_keep_0 rfl (lv_at hl 1 rfl) ?_
  refine kcm_i hA hAB hP hD hS [false, false, false] rfl (fun _ => rfl) (fun hPc hDc => va_runS (As := [.int p1]) (rest := []) ⟨hx, hb, hml, hown, hts⟩ (k_X12_isShelf l D κ β s.heap.size p1) (va_cwS 1 hts gX12_keep_X12_isShelf rfl rfl rfl (by decide +kernel) ⟨Nat.le_of_ble_eq_true rfl, Nat.le_of_ble_eq_true rfl⟩) (pk_S hK hS hAB hPc hDc) rfl rfl hl.1 rfl (lv_room (Nat.le_of_ble_eq_true rfl)) dX12_keep_1 ⟨Nat.le_of_ble_eq_true rfl, Nat.le_of_ble_eq_true rfl⟩) (fun x1 u2 H locs hw hPD hS => ?_)
  have h3 : (x1.toInt = 1 ∧ 0 ≤ p1.toInt ∧ p1.toInt ≤ 5) ∨ (x1.toInt = 0 ∧ (p1.toInt < 0 ∨ 5 < p1.toInt)) := hw
  obtain ⟨hP, hD⟩ : PD D A [O12 a12 r12 v12_keptMany v12_done v12_sheets v12_holes v12_worms v12_laidMany v12_wanted v12_orderMany v12_firstOrder v12_lines v12_marks v12_dots v12_madeIn v12_bound v12_places v12_maps v12_tapeMany v12_stories v12_base v12_at v12_ends v12_fault v12_opened v12_bodies v12_ran v12_ownKind v12_ownNumber, (cI κ (r12 59) 6 f12_shelf), (cI κ (r12 60) 6 f12_many)] H := hPD
  refine lv_if_eq (tgt := 20) hx hb dX12_keep_4 (by decide) (fun c4 => ?_) (fun c4 => ?_)
  · have c4 := ci_eq c4
    refine lv_iconst (v := (-1)) hx hb dX12_keep_20 (by decide) ?_
    have hpo : (∀ j : Nat, 0 ≤ (f12_many j).toInt ∧ (f12_many j).toInt ≤ 60) ∧ (((0 ≤ p1.toInt ∧ p1.toInt ≤ 5 ∧ (p2.toInt = -1 ∨ (0 ≤ p2.toInt ∧ p2.toInt < v12_bodies.toInt))) ∧ ((-1) : Int32).toInt = 1) ∨ (¬ (0 ≤ p1.toInt ∧ p1.toInt ≤ 5 ∧ (p2.toInt = -1 ∨ (0 ≤ p2.toInt ∧ p2.toInt < v12_bodies.toInt))) ∧ ((-1) : Int32).toInt = -1)) := ⟨hf12_many, (by omega)⟩
    exact ret _ _ _ _ (-1) (f12_shelf, f12_many) dX12_keep_21 hpo hP hD hS
  have c4 := ci_ne c4
  refine lv_iload_n hx hb dX12_keep_7 rfl (lv_at hl 2 rfl) ?_
  refine lv_iconst (v := (-1)) hx hb dX12_keep_8 (by decide) ?_
  refine lv_icmp_eq (tgt := 22) hx hb dX12_keep_9 (by decide) (fun c5 => ?_) (fun c5 => ?_)
  · have c5 := ci_eq c5
    refine lv_aload_n hx hb dX12_keep_22 rfl (lv_at hl 0 rfl) ?_
    refine va_get (D := D) (ci := 12) (v := .ref (r12 59)) (C := RX12) (T := TX12) (N := 63) hx hb hts w1 hown hK.1 hP 0 rfl rfl 59 (by decide) w0 (fun _ h9 => h9) rfl dX12_keep_23 ?_
    refine lv_iload_n hx hb dX12_keep_26 rfl (lv_at hl 1 rfl) ?_
    refine lv_iload_n hx hb dX12_keep_27 rfl (lv_at hl 2 rfl) ?_
    refine va_iast hx hb hK.1 hP hD hS 1 1 rfl rfl (i := p1) (ix (by omega) (by omega)) dX12_keep_28 (fun H locs hP hD hS => ?_)
    obtain ⟨g6, e7⟩ : ∃ y : Nat → Int32, y = upd f12_shelf p1.toNatClampNeg p2 := ⟨_, rfl⟩
    rw [← e7] at hP hD
    obtain ⟨hP, hD⟩ : PD D A [O12 a12 r12 v12_keptMany v12_done v12_sheets v12_holes v12_worms v12_laidMany v12_wanted v12_orderMany v12_firstOrder v12_lines v12_marks v12_dots v12_madeIn v12_bound v12_places v12_maps v12_tapeMany v12_stories v12_base v12_at v12_ends v12_fault v12_opened v12_bodies v12_ran v12_ownKind v12_ownNumber, (cI κ (r12 59) 6 g6), (cI κ (r12 60) 6 f12_many)] H := ⟨hP, hD⟩
    refine lv_aload_n hx hb dX12_keep_29 rfl (lv_at hl 0 rfl) ?_
    refine va_get (D := D) (ci := 12) (v := .ref (r12 60)) (C := RX12) (T := TX12) (N := 63) hx hb hts w1 hown hK.1 hP 0 rfl rfl 60 (by decide) w2 (fun _ h9 => h9) rfl dX12_keep_30 ?_
    refine lv_iload_n hx hb dX12_keep_33 rfl (lv_at hl 1 rfl) ?_
    refine lv_iconst (v := 0) hx hb dX12_keep_34 (by decide) ?_
    refine va_iast hx hb hK.1 hP hD hS 2 1 rfl rfl (i := p1) (ix (by omega) (by omega)) dX12_keep_35 (fun H locs hP hD hS => ?_)
    obtain ⟨g8, e9⟩ : ∃ y : Nat → Int32, y = upd f12_many p1.toNatClampNeg 0 := ⟨_, rfl⟩
    rw [← e9] at hP hD
    obtain ⟨hP, hD⟩ : PD D A [O12 a12 r12 v12_keptMany v12_done v12_sheets v12_holes v12_worms v12_laidMany v12_wanted v12_orderMany v12_firstOrder v12_lines v12_marks v12_dots v12_madeIn v12_bound v12_places v12_maps v12_tapeMany v12_stories v12_base v12_at v12_ends v12_fault v12_opened v12_bodies v12_ran v12_ownKind v12_ownNumber, (cI κ (r12 59) 6 g6), (cI κ (r12 60) 6 g8)] H := ⟨hP, hD⟩
    have h10 : ∀ j : Nat, 0 ≤ (g8 j).toInt ∧ (g8 j).toInt ≤ 60 := by rw [e9]; exact all_upd (P := fun z => 0 ≤ z.toInt ∧ z.toInt ≤ 60) hf12_many (by omega)
    refine lv_iconst (v := 1) hx hb dX12_keep_36 (by decide) ?_
    have hpo : (∀ j : Nat, 0 ≤ (g8 j).toInt ∧ (g8 j).toInt ≤ 60) ∧ (((0 ≤ p1.toInt ∧ p1.toInt ≤ 5 ∧ (p2.toInt = -1 ∨ (0 ≤ p2.toInt ∧ p2.toInt < v12_bodies.toInt))) ∧ (1 : Int32).toInt = 1) ∨ (¬ (0 ≤ p1.toInt ∧ p1.toInt ≤ 5 ∧ (p2.toInt = -1 ∨ (0 ≤ p2.toInt ∧ p2.toInt < v12_bodies.toInt))) ∧ (1 : Int32).toInt = -1)) := ⟨h10, (by omega)⟩
    exact ret _ _ _ _ 1 (g6, g8) dX12_keep_37 hpo hP hD hS
  have c5 := ci_ne c5
  refine lv_aload_n hx hb dX12_keep_12 rfl (lv_at hl 0 rfl) ?_
  refine lv_iload_n hx hb dX12_keep_13 rfl (lv_at hl 2 rfl) ?_
  refine kcm_i hA hAB hP hD hS [true, false, false] rfl (fun _ => rfl) (fun hPc hDc => va_runV (As := [.int p2]) (rest := []) ⟨hx, hb, hml, hown, hts⟩ (k_X12_isBody l D κ β a12 r12 v12_keptMany v12_done v12_sheets v12_holes v12_worms v12_laidMany v12_wanted v12_orderMany v12_firstOrder v12_lines v12_marks v12_dots v12_madeIn v12_bound v12_places v12_maps v12_tapeMany v12_stories v12_base v12_at v12_ends v12_fault v12_opened v12_bodies v12_ran v12_ownKind v12_ownNumber H.size p2 i1 i2 i3 i4 i5 i6 i7 i8 i9 i10 i11 i12 i13 i14 i15 i16 i17 (by omega) (by omega) (by omega) (by omega) (by omega) (by omega) (by omega) (by omega) (by omega) (by omega) (by omega) (by omega) (by omega) (by omega)) (cwV 1 hts gX12_keep_X12_isBody rfl rfl rfl (by decide +kernel) ⟨Nat.le_of_ble_eq_true rfl, Nat.le_of_ble_eq_true rfl⟩) (pk_V hK hS hAB hPc hDc 0 (ci := 12) rfl rfl rfl) rfl rfl hl.1 rfl (lv_room (Nat.le_of_ble_eq_true rfl)) dX12_keep_14 ⟨Nat.le_of_ble_eq_true rfl, Nat.le_of_ble_eq_true rfl⟩) (fun x11 u12 H locs hw hPD hS => ?_)
  have h13 : (x11.toInt = 1 ∧ 0 ≤ p2.toInt ∧ p2.toInt < v12_bodies.toInt) ∨ (x11.toInt = 0 ∧ (p2.toInt < 0 ∨ v12_bodies.toInt ≤ p2.toInt)) := hw
  obtain ⟨hP, hD⟩ : PD D A [O12 a12 r12 v12_keptMany v12_done v12_sheets v12_holes v12_worms v12_laidMany v12_wanted v12_orderMany v12_firstOrder v12_lines v12_marks v12_dots v12_madeIn v12_bound v12_places v12_maps v12_tapeMany v12_stories v12_base v12_at v12_ends v12_fault v12_opened v12_bodies v12_ran v12_ownKind v12_ownNumber, (cI κ (r12 59) 6 f12_shelf), (cI κ (r12 60) 6 f12_many)] H := hPD
  refine lv_if_ne (tgt := 22) hx hb dX12_keep_17 (by decide) (fun c14 => ?_) (fun c14 => ?_)
  · have c14 := ci_ne c14
    exfalso
    omega
  have c14 := ci_eq c14
  refine lv_iconst (v := (-1)) hx hb dX12_keep_20 (by decide) ?_
  have hpo : (∀ j : Nat, 0 ≤ (f12_many j).toInt ∧ (f12_many j).toInt ≤ 60) ∧ (((0 ≤ p1.toInt ∧ p1.toInt ≤ 5 ∧ (p2.toInt = -1 ∨ (0 ≤ p2.toInt ∧ p2.toInt < v12_bodies.toInt))) ∧ ((-1) : Int32).toInt = 1) ∨ (¬ (0 ≤ p1.toInt ∧ p1.toInt ≤ 5 ∧ (p2.toInt = -1 ∨ (0 ≤ p2.toInt ∧ p2.toInt < v12_bodies.toInt))) ∧ ((-1) : Int32).toInt = -1)) := ⟨hf12_many, (by omega)⟩
  exact ret _ _ _ _ (-1) (f12_shelf, f12_many) dX12_keep_21 hpo hP hD hS
set_option maxHeartbeats 4000000 in
set_option maxRecDepth 100000 in
theorem k_X12_refusal (l : Launch) (D : va_G) (κ : Nat → ClassId) (β : Nat) (a12 : Nat) (r12 : Nat → Nat) (v12_keptMany : Int32) (v12_done : Int32) (v12_sheets : Int32) (v12_holes : Int32) (v12_worms : Int32) (v12_laidMany : Int32) (v12_wanted : Int32) (v12_orderMany : Int32) (v12_firstOrder : Int32) (v12_lines : Int32) (v12_marks : Int32) (v12_dots : Int32) (v12_madeIn : Int32) (v12_bound : Int32) (v12_places : Int32) (v12_maps : Int32) (v12_tapeMany : Int32) (v12_stories : Int32) (v12_base : Int32) (v12_at : Int32) (v12_ends : Int32) (v12_fault : Int32) (v12_opened : Int32) (v12_bodies : Int32) (v12_ran : Int32) (v12_ownKind : Int32) (v12_ownNumber : Int32) (f12_shelf : Nat → Int32) (sz : Nat) (p1 : Int32) (p2 : Int32) (i1 : Rg 0 40 v12_keptMany) (i2 : Rg 0 40 v12_done) (i3 : Rg 0 8 v12_sheets) (i4 : Rg 0 40 v12_holes) (i5 : Rg 0 40 v12_worms) (i6 : Rg 0 8 v12_laidMany) (i7 : Rg 0 8 v12_wanted) (i8 : Rg 0 20 v12_lines) (i9 : Rg 0 60 v12_marks) (i10 : Rg 0 40 v12_dots) (i11 : Rg 0 20 v12_places) (i12 : Rg 0 8 v12_maps) (i13 : Rg 0 120 v12_tapeMany) (i14 : Rg 0 6 v12_stories) (i15 : Rg 0 50 v12_bodies) (i16 : Rg 0 1000 v12_ran) (i17 : v12_done.toInt ≤ v12_keptMany.toInt) (i18 : p1.toInt < 0 ∨ 5 < p1.toInt ∨ (f12_shelf p1.toNatClampNeg).toInt = -1) (i19 : v12_keptMany.toInt = 0) (i20 : v12_done.toInt = 0) (i21 : v12_sheets.toInt = 0) (i22 : v12_holes.toInt = 0) (i23 : v12_worms.toInt = 0) (i24 : v12_lines.toInt = 0) (i25 : v12_marks.toInt = 0) (i26 : v12_dots.toInt = 0) (i27 : v12_madeIn.toInt = 2001) (i28 : v12_places.toInt = 0) (i29 : v12_maps.toInt = 0) (i30 : v12_tapeMany.toInt = 0) (i31 : v12_stories.toInt = 0) (i32 : v12_bodies.toInt = 0) : Met l yX12_refusal wsX12_refusal ({ frames := 2, cells := 0, slots := 0, locals := 45 } : Room) (PcK D κ β [O12 a12 r12 v12_keptMany v12_done v12_sheets v12_holes v12_worms v12_laidMany v12_wanted v12_orderMany v12_firstOrder v12_lines v12_marks v12_dots v12_madeIn v12_bound v12_places v12_maps v12_tapeMany v12_stories v12_base v12_at v12_ends v12_fault v12_opened v12_bodies v12_ran v12_ownKind v12_ownNumber, (cI κ (r12 59) 6 f12_shelf)] sz [.ref a12, .int p1, .int p2]) (QiK D (fun (r : Int32) (u : Unit) => ((0 ≤ p1.toInt ∧ p1.toInt ≤ 5) ∧ r.toInt = -11) ∨ (¬ (0 ≤ p1.toInt ∧ p1.toInt ≤ 5) ∧ r.toInt = -1)) (fun (u : Unit) => [O12 a12 r12 v12_keptMany v12_done v12_sheets v12_holes v12_worms v12_laidMany v12_wanted v12_orderMany v12_firstOrder v12_lines v12_marks v12_dots v12_madeIn v12_bound v12_places v12_maps v12_tapeMany v12_stories v12_base v12_at v12_ends v12_fault v12_opened v12_bodies v12_ran v12_ownKind v12_ownNumber, (cI κ (r12 59) 6 f12_shelf)]) [O12 a12 r12 v12_keptMany v12_done v12_sheets v12_holes v12_worms v12_laidMany v12_wanted v12_orderMany v12_firstOrder v12_lines v12_marks v12_dots v12_madeIn v12_bound v12_places v12_maps v12_tapeMany v12_stories v12_base v12_at v12_ends v12_fault v12_opened v12_bodies v12_ran v12_ownKind v12_ownNumber, (cI κ (r12 59) 6 f12_shelf)] sz) 0 0 (va_A [O12 a12 r12 v12_keptMany v12_done v12_sheets v12_holes v12_worms v12_laidMany v12_wanted v12_orderMany v12_firstOrder v12_lines v12_marks v12_dots v12_madeIn v12_bound v12_places v12_maps v12_tapeMany v12_stories v12_base v12_at v12_ends v12_fault v12_opened v12_bodies v12_ran v12_ownKind v12_ownNumber, (cI κ (r12 59) 6 f12_shelf)] sz) := by
  refine ofK_i (cc := cX12_refusal) (maxL := 3) (own := RX12) (by decide) rfl rfl (Nat.le_of_ble_eq_true rfl) ?_
  intro p e s m args below meth c Q A ls hsz hx hb hml hts hown hK hA hAB hP hD hl ret
  have hS : va_S A s.heap s.heap [] := va_S.rf
  have hl : lv_has ls 3 [(0, .ref a12), (1, .int p1), (2, .int p2)] := hl
  have w0 := hts (.fieldLink RX12 107 "OlderSkinModel" "shelf" "[I") (List.mem_of_getElem? (i := 1) rfl)
  have w1 := (fun w h => List.mem_cons_of_mem _ (List.mem_append_right _ h) : ∀ w ∈ u_ws RX12 TX12 63, w ∈ wsX12_refusal)
  have l0 : (0 : Int32).toInt = 0 := by decide
  have l1 : ((-11) : Int32).toInt = -11 := by decide
  have l2 : ((-1) : Int32).toInt = -1 := by decide
  refine lv_iload_n hx hb dX12_refusal_0 rfl (lv_at hl 1 rfl) ?_
  refine kcm_i hA hAB hP hD hS [false, false] rfl (fun _ => rfl) (fun hPc hDc => va_runS (As := [.int p1]) (rest := []) ⟨hx, hb, hml, hown, hts⟩ (k_X12_isShelf l D κ β s.heap.size p1) (va_cwS 1 hts gX12_refusal_X12_isShelf rfl rfl rfl (by decide +kernel) ⟨Nat.le_of_ble_eq_true rfl, Nat.le_of_ble_eq_true rfl⟩) (pk_S hK hS hAB hPc hDc) rfl rfl hl.1 rfl (lv_room (Nat.le_of_ble_eq_true rfl)) dX12_refusal_1 ⟨Nat.le_of_ble_eq_true rfl, Nat.le_of_ble_eq_true rfl⟩) (fun x1 u2 H locs hw hPD hS => ?_)
  have h3 : (x1.toInt = 1 ∧ 0 ≤ p1.toInt ∧ p1.toInt ≤ 5) ∨ (x1.toInt = 0 ∧ (p1.toInt < 0 ∨ 5 < p1.toInt)) := hw
  obtain ⟨hP, hD⟩ : PD D A [O12 a12 r12 v12_keptMany v12_done v12_sheets v12_holes v12_worms v12_laidMany v12_wanted v12_orderMany v12_firstOrder v12_lines v12_marks v12_dots v12_madeIn v12_bound v12_places v12_maps v12_tapeMany v12_stories v12_base v12_at v12_ends v12_fault v12_opened v12_bodies v12_ran v12_ownKind v12_ownNumber, (cI κ (r12 59) 6 f12_shelf)] H := hPD
  refine lv_if_ne (tgt := 9) hx hb dX12_refusal_4 (by decide) (fun c4 => ?_) (fun c4 => ?_)
  · have c4 := ci_ne c4
    refine lv_aload_n hx hb dX12_refusal_9 rfl (lv_at hl 0 rfl) ?_
    refine va_get (D := D) (ci := 12) (v := .ref (r12 59)) (C := RX12) (T := TX12) (N := 63) hx hb hts w1 hown hK.1 hP 0 rfl rfl 59 (by decide) w0 (fun _ h9 => h9) rfl dX12_refusal_10 ?_
    refine lv_iload_n hx hb dX12_refusal_13 rfl (lv_at hl 1 rfl) ?_
    refine va_iald hx hb hK.1 hP 1 1 rfl rfl (i := p1) (ix (by omega) (by omega)) dX12_refusal_14 ?_
    refine lv_topi (fun x5 e6 => ?_)
    have hq1 : x5.toInt = (f12_shelf p1.toNatClampNeg).toInt := congrArg Int32.toInt e6
    refine lv_if_ge (tgt := 21) hx hb dX12_refusal_15 (by decide) (fun c7 => ?_) (fun c7 => ?_)
    · have c7 := ci_le c7
      exfalso
      omega
    have c7 := ci_nle c7
    refine lv_bipush (v := (-11)) hx hb dX12_refusal_18 (by decide) ?_
    have hpo : ((0 ≤ p1.toInt ∧ p1.toInt ≤ 5) ∧ ((-11) : Int32).toInt = -11) ∨ (¬ (0 ≤ p1.toInt ∧ p1.toInt ≤ 5) ∧ ((-11) : Int32).toInt = -1) := (by omega)
    exact ret _ _ _ _ (-11) () dX12_refusal_20 hpo hP hD hS
  have c4 := ci_eq c4
  refine lv_iconst (v := (-1)) hx hb dX12_refusal_7 (by decide) ?_
  have hpo : ((0 ≤ p1.toInt ∧ p1.toInt ≤ 5) ∧ ((-1) : Int32).toInt = -11) ∨ (¬ (0 ≤ p1.toInt ∧ p1.toInt ≤ 5) ∧ ((-1) : Int32).toInt = -1) := (by omega)
  exact ret _ _ _ _ (-1) () dX12_refusal_8 hpo hP hD hS
set_option maxHeartbeats 4000000 in
set_option maxRecDepth 100000 in
theorem k_X12_asSort (l : Launch) (D : va_G) (κ : Nat → ClassId) (β : Nat) (sz : Nat) (p1 : Int32) (p2 : Int64) (i1 : (1 : Int) ≤ 0) : Met l yX12_asSort wsX12_asSort ({ frames := 1, cells := 0, slots := 0, locals := 30 } : Room) (PcK D κ β [] sz [.int p1, .long p2]) (QlK D (fun (r : Int64) (u : Unit) => True) (fun (u : Unit) => []) [] sz) 0 0 (va_A [] sz) := by
  refine ofK_l (cc := cX12_asSort) (maxL := 3) (own := RX12) (by decide) rfl rfl (Nat.le_of_ble_eq_true rfl) ?_
  intro p e s m args below meth c Q A ls hsz hx hb hml hts hown hK hA hAB hP hD hl ret
  have hS : va_S A s.heap s.heap [] := va_S.rf
  have hl : lv_has ls 3 [(0, .int p1), (1, .long p2)] := hl
  exfalso
  omega
set_option maxHeartbeats 4000000 in
set_option maxRecDepth 100000 in
theorem k_X12_put (l : Launch) (D : va_G) (κ : Nat → ClassId) (β : Nat) (a12 : Nat) (r12 : Nat → Nat) (v12_keptMany : Int32) (v12_done : Int32) (v12_sheets : Int32) (v12_holes : Int32) (v12_worms : Int32) (v12_laidMany : Int32) (v12_wanted : Int32) (v12_orderMany : Int32) (v12_firstOrder : Int32) (v12_lines : Int32) (v12_marks : Int32) (v12_dots : Int32) (v12_madeIn : Int32) (v12_bound : Int32) (v12_places : Int32) (v12_maps : Int32) (v12_tapeMany : Int32) (v12_stories : Int32) (v12_base : Int32) (v12_at : Int32) (v12_ends : Int32) (v12_fault : Int32) (v12_opened : Int32) (v12_bodies : Int32) (v12_ran : Int32) (v12_ownKind : Int32) (v12_ownNumber : Int32) (f12_shelf : Nat → Int32) (sz : Nat) (p1 : Int32) (p2 : Int32) (p3 : Int64) (i1 : Rg 0 40 v12_keptMany) (i2 : Rg 0 40 v12_done) (i3 : Rg 0 8 v12_sheets) (i4 : Rg 0 40 v12_holes) (i5 : Rg 0 40 v12_worms) (i6 : Rg 0 8 v12_laidMany) (i7 : Rg 0 8 v12_wanted) (i8 : Rg 0 20 v12_lines) (i9 : Rg 0 60 v12_marks) (i10 : Rg 0 40 v12_dots) (i11 : Rg 0 20 v12_places) (i12 : Rg 0 8 v12_maps) (i13 : Rg 0 120 v12_tapeMany) (i14 : Rg 0 6 v12_stories) (i15 : Rg 0 50 v12_bodies) (i16 : Rg 0 1000 v12_ran) (i17 : v12_done.toInt ≤ v12_keptMany.toInt) (i18 : p1.toInt < 0 ∨ 5 < p1.toInt ∨ (f12_shelf p1.toNatClampNeg).toInt = -1) (i19 : v12_keptMany.toInt = 0) (i20 : v12_done.toInt = 0) (i21 : v12_sheets.toInt = 0) (i22 : v12_holes.toInt = 0) (i23 : v12_worms.toInt = 0) (i24 : v12_lines.toInt = 0) (i25 : v12_marks.toInt = 0) (i26 : v12_dots.toInt = 0) (i27 : v12_madeIn.toInt = 2001) (i28 : v12_places.toInt = 0) (i29 : v12_maps.toInt = 0) (i30 : v12_tapeMany.toInt = 0) (i31 : v12_stories.toInt = 0) (i32 : v12_bodies.toInt = 0) : Met l yX12_put wsX12_put ({ frames := 3, cells := 0, slots := 0, locals := 67 } : Room) (PcK D κ β [O12 a12 r12 v12_keptMany v12_done v12_sheets v12_holes v12_worms v12_laidMany v12_wanted v12_orderMany v12_firstOrder v12_lines v12_marks v12_dots v12_madeIn v12_bound v12_places v12_maps v12_tapeMany v12_stories v12_base v12_at v12_ends v12_fault v12_opened v12_bodies v12_ran v12_ownKind v12_ownNumber, (cI κ (r12 59) 6 f12_shelf)] sz [.ref a12, .int p1, .int p2, .long p3]) (QiK D (fun (r : Int32) (u : Unit) => ((0 ≤ p1.toInt ∧ p1.toInt ≤ 5) ∧ r.toInt = -11) ∨ (¬ (0 ≤ p1.toInt ∧ p1.toInt ≤ 5) ∧ r.toInt = -1)) (fun (u : Unit) => [O12 a12 r12 v12_keptMany v12_done v12_sheets v12_holes v12_worms v12_laidMany v12_wanted v12_orderMany v12_firstOrder v12_lines v12_marks v12_dots v12_madeIn v12_bound v12_places v12_maps v12_tapeMany v12_stories v12_base v12_at v12_ends v12_fault v12_opened v12_bodies v12_ran v12_ownKind v12_ownNumber, (cI κ (r12 59) 6 f12_shelf)]) [O12 a12 r12 v12_keptMany v12_done v12_sheets v12_holes v12_worms v12_laidMany v12_wanted v12_orderMany v12_firstOrder v12_lines v12_marks v12_dots v12_madeIn v12_bound v12_places v12_maps v12_tapeMany v12_stories v12_base v12_at v12_ends v12_fault v12_opened v12_bodies v12_ran v12_ownKind v12_ownNumber, (cI κ (r12 59) 6 f12_shelf)] sz) 0 0 (va_A [O12 a12 r12 v12_keptMany v12_done v12_sheets v12_holes v12_worms v12_laidMany v12_wanted v12_orderMany v12_firstOrder v12_lines v12_marks v12_dots v12_madeIn v12_bound v12_places v12_maps v12_tapeMany v12_stories v12_base v12_at v12_ends v12_fault v12_opened v12_bodies v12_ran v12_ownKind v12_ownNumber, (cI κ (r12 59) 6 f12_shelf)] sz) := by
  refine ofK_i (cc := cX12_put) (maxL := 6) (own := RX12) (by decide) rfl rfl (Nat.le_of_ble_eq_true rfl) ?_
  intro p e s m args below meth c Q A ls hsz hx hb hml hts hown hK hA hAB hP hD hl ret
  have hS : va_S A s.heap s.heap [] := va_S.rf
  have hl : lv_has ls 6 [(0, .ref a12), (1, .int p1), (2, .int p2), (3, .long p3)] := hl
  have l0 : (0 : Int32).toInt = 0 := by decide
  refine lv_aload_n hx hb dX12_put_0 rfl (lv_at hl 0 rfl) ?_
  refine lv_iload_n hx hb dX12_put_1 rfl (lv_at hl 1 rfl) ?_
  refine lv_iload_n hx hb dX12_put_2 rfl (lv_at hl 2 rfl) ?_
  refine kcm_i hA hAB hP hD hS [true, true] rfl (fun _ => rfl) (fun hPc hDc => va_runV (As := [.int p1, .int p2]) (rest := []) ⟨hx, hb, hml, hown, hts⟩ (k_X12_refusal l D κ β a12 r12 v12_keptMany v12_done v12_sheets v12_holes v12_worms v12_laidMany v12_wanted v12_orderMany v12_firstOrder v12_lines v12_marks v12_dots v12_madeIn v12_bound v12_places v12_maps v12_tapeMany v12_stories v12_base v12_at v12_ends v12_fault v12_opened v12_bodies v12_ran v12_ownKind v12_ownNumber f12_shelf s.heap.size p1 p2 i1 i2 i3 i4 i5 i6 i7 i8 i9 i10 i11 i12 i13 i14 i15 i16 i17 (by omega) (by omega) (by omega) (by omega) (by omega) (by omega) (by omega) (by omega) (by omega) (by omega) (by omega) (by omega) (by omega) (by omega) (by omega)) (cwV 2 hts gX12_put_X12_refusal rfl rfl rfl (by decide +kernel) ⟨Nat.le_of_ble_eq_true rfl, Nat.le_of_ble_eq_true rfl⟩) (pk_V hK hS hAB hPc hDc 0 (ci := 12) rfl rfl rfl) rfl rfl hl.1 rfl (lv_room (Nat.le_of_ble_eq_true rfl)) dX12_put_3 ⟨Nat.le_of_ble_eq_true rfl, Nat.le_of_ble_eq_true rfl⟩) (fun x1 u2 H locs hw hPD hS => ?_)
  have h3 : ((0 ≤ p1.toInt ∧ p1.toInt ≤ 5) ∧ x1.toInt = -11) ∨ (¬ (0 ≤ p1.toInt ∧ p1.toInt ≤ 5) ∧ x1.toInt = -1) := hw
  obtain ⟨hP, hD⟩ : PD D A [O12 a12 r12 v12_keptMany v12_done v12_sheets v12_holes v12_worms v12_laidMany v12_wanted v12_orderMany v12_firstOrder v12_lines v12_marks v12_dots v12_madeIn v12_bound v12_places v12_maps v12_tapeMany v12_stories v12_base v12_at v12_ends v12_fault v12_opened v12_bodies v12_ran v12_ownKind v12_ownNumber, (cI κ (r12 59) 6 f12_shelf)] H := hPD
  refine lv_istore (lv' := [(5, .int x1), (0, .ref a12), (1, .int p1), (2, .int p2), (3, .long p3)]) hx hb dX12_put_6 hl (by decide) rfl (fun ls hl => ?_)
  refine lv_iload hx hb dX12_put_8 (lv_at hl 0 rfl) ?_
  refine lv_if_ne (tgt := 37) hx hb dX12_put_10 (by decide) (fun c4 => ?_) (fun c4 => ?_)
  · have c4 := ci_ne c4
    refine lv_iload hx hb dX12_put_37 (lv_at hl 0 rfl) ?_
    refine lv_if_ne (tgt := 46) hx hb dX12_put_39 (by decide) (fun c5 => ?_) (fun c5 => ?_)
    · have c5 := ci_ne c5
      refine lv_iload hx hb dX12_put_46 (lv_at hl 0 rfl) ?_
      have hpo : ((0 ≤ p1.toInt ∧ p1.toInt ≤ 5) ∧ x1.toInt = -11) ∨ (¬ (0 ≤ p1.toInt ∧ p1.toInt ≤ 5) ∧ x1.toInt = -1) := (by omega)
      exact ret _ _ _ _ x1 () dX12_put_48 hpo hP hD hS
    have c5 := ci_eq c5
    exfalso
    omega
  have c4 := ci_eq c4
  exfalso
  omega
set_option maxHeartbeats 4000000 in
set_option maxRecDepth 100000 in
theorem k_X12_element (l : Launch) (D : va_G) (κ : Nat → ClassId) (β : Nat) (a12 : Nat) (r12 : Nat → Nat) (v12_keptMany : Int32) (v12_done : Int32) (v12_sheets : Int32) (v12_holes : Int32) (v12_worms : Int32) (v12_laidMany : Int32) (v12_wanted : Int32) (v12_orderMany : Int32) (v12_firstOrder : Int32) (v12_lines : Int32) (v12_marks : Int32) (v12_dots : Int32) (v12_madeIn : Int32) (v12_bound : Int32) (v12_places : Int32) (v12_maps : Int32) (v12_tapeMany : Int32) (v12_stories : Int32) (v12_base : Int32) (v12_at : Int32) (v12_ends : Int32) (v12_fault : Int32) (v12_opened : Int32) (v12_bodies : Int32) (v12_ran : Int32) (v12_ownKind : Int32) (v12_ownNumber : Int32) (f12_shelf : Nat → Int32) (sz : Nat) (p1 : Int32) (p2 : Int32) (i1 : Rg 0 40 v12_keptMany) (i2 : Rg 0 40 v12_done) (i3 : Rg 0 8 v12_sheets) (i4 : Rg 0 40 v12_holes) (i5 : Rg 0 40 v12_worms) (i6 : Rg 0 8 v12_laidMany) (i7 : Rg 0 8 v12_wanted) (i8 : Rg 0 20 v12_lines) (i9 : Rg 0 60 v12_marks) (i10 : Rg 0 40 v12_dots) (i11 : Rg 0 20 v12_places) (i12 : Rg 0 8 v12_maps) (i13 : Rg 0 120 v12_tapeMany) (i14 : Rg 0 6 v12_stories) (i15 : Rg 0 50 v12_bodies) (i16 : Rg 0 1000 v12_ran) (i17 : v12_done.toInt ≤ v12_keptMany.toInt) (i18 : p1.toInt < 0 ∨ 5 < p1.toInt ∨ (f12_shelf p1.toNatClampNeg).toInt = -1) (i19 : v12_keptMany.toInt = 0) (i20 : v12_done.toInt = 0) (i21 : v12_sheets.toInt = 0) (i22 : v12_holes.toInt = 0) (i23 : v12_worms.toInt = 0) (i24 : v12_lines.toInt = 0) (i25 : v12_marks.toInt = 0) (i26 : v12_dots.toInt = 0) (i27 : v12_madeIn.toInt = 2001) (i28 : v12_places.toInt = 0) (i29 : v12_maps.toInt = 0) (i30 : v12_tapeMany.toInt = 0) (i31 : v12_stories.toInt = 0) (i32 : v12_bodies.toInt = 0) : Met l yX12_element wsX12_element ({ frames := 3, cells := 0, slots := 0, locals := 67 } : Room) (PcK D κ β [O12 a12 r12 v12_keptMany v12_done v12_sheets v12_holes v12_worms v12_laidMany v12_wanted v12_orderMany v12_firstOrder v12_lines v12_marks v12_dots v12_madeIn v12_bound v12_places v12_maps v12_tapeMany v12_stories v12_base v12_at v12_ends v12_fault v12_opened v12_bodies v12_ran v12_ownKind v12_ownNumber, (cI κ (r12 59) 6 f12_shelf)] sz [.ref a12, .int p1, .int p2]) (QlK D (fun (r : Int64) (u : Unit) => r.toInt = (-9223372036854775808)) (fun (u : Unit) => [O12 a12 r12 v12_keptMany v12_done v12_sheets v12_holes v12_worms v12_laidMany v12_wanted v12_orderMany v12_firstOrder v12_lines v12_marks v12_dots v12_madeIn v12_bound v12_places v12_maps v12_tapeMany v12_stories v12_base v12_at v12_ends v12_fault v12_opened v12_bodies v12_ran v12_ownKind v12_ownNumber, (cI κ (r12 59) 6 f12_shelf)]) [O12 a12 r12 v12_keptMany v12_done v12_sheets v12_holes v12_worms v12_laidMany v12_wanted v12_orderMany v12_firstOrder v12_lines v12_marks v12_dots v12_madeIn v12_bound v12_places v12_maps v12_tapeMany v12_stories v12_base v12_at v12_ends v12_fault v12_opened v12_bodies v12_ran v12_ownKind v12_ownNumber, (cI κ (r12 59) 6 f12_shelf)] sz) 0 0 (va_A [O12 a12 r12 v12_keptMany v12_done v12_sheets v12_holes v12_worms v12_laidMany v12_wanted v12_orderMany v12_firstOrder v12_lines v12_marks v12_dots v12_madeIn v12_bound v12_places v12_maps v12_tapeMany v12_stories v12_base v12_at v12_ends v12_fault v12_opened v12_bodies v12_ran v12_ownKind v12_ownNumber, (cI κ (r12 59) 6 f12_shelf)] sz) := by
  refine ofK_l (cc := cX12_element) (maxL := 3) (own := RX12) (by decide) rfl rfl (Nat.le_of_ble_eq_true rfl) ?_
  intro p e s m args below meth c Q A ls hsz hx hb hml hts hown hK hA hAB hP hD hl ret
  have hS : va_S A s.heap s.heap [] := va_S.rf
  have hl : lv_has ls 3 [(0, .ref a12), (1, .int p1), (2, .int p2)] := hl
  have w0 := hts (.constantLong RX12 419 (-9223372036854775808)) (List.mem_of_getElem? (i := 1) rfl)
  have l0 : (0 : Int32).toInt = 0 := by decide
  have l1 : ((-9223372036854775808) : Int64).toInt = -9223372036854775808 := by decide
  refine lv_aload_n hx hb dX12_element_0 rfl (lv_at hl 0 rfl) ?_
  refine lv_iload_n hx hb dX12_element_1 rfl (lv_at hl 1 rfl) ?_
  refine lv_iload_n hx hb dX12_element_2 rfl (lv_at hl 2 rfl) ?_
  refine kcm_i hA hAB hP hD hS [true, true] rfl (fun _ => rfl) (fun hPc hDc => va_runV (As := [.int p1, .int p2]) (rest := []) ⟨hx, hb, hml, hown, hts⟩ (k_X12_refusal l D κ β a12 r12 v12_keptMany v12_done v12_sheets v12_holes v12_worms v12_laidMany v12_wanted v12_orderMany v12_firstOrder v12_lines v12_marks v12_dots v12_madeIn v12_bound v12_places v12_maps v12_tapeMany v12_stories v12_base v12_at v12_ends v12_fault v12_opened v12_bodies v12_ran v12_ownKind v12_ownNumber f12_shelf s.heap.size p1 p2 i1 i2 i3 i4 i5 i6 i7 i8 i9 i10 i11 i12 i13 i14 i15 i16 i17 (by omega) (by omega) (by omega) (by omega) (by omega) (by omega) (by omega) (by omega) (by omega) (by omega) (by omega) (by omega) (by omega) (by omega) (by omega)) (cwV 2 hts gX12_element_X12_refusal rfl rfl rfl (by decide +kernel) ⟨Nat.le_of_ble_eq_true rfl, Nat.le_of_ble_eq_true rfl⟩) (pk_V hK hS hAB hPc hDc 0 (ci := 12) rfl rfl rfl) rfl rfl hl.1 rfl (lv_room (Nat.le_of_ble_eq_true rfl)) dX12_element_3 ⟨Nat.le_of_ble_eq_true rfl, Nat.le_of_ble_eq_true rfl⟩) (fun x1 u2 H locs hw hPD hS => ?_)
  have h3 : ((0 ≤ p1.toInt ∧ p1.toInt ≤ 5) ∧ x1.toInt = -11) ∨ (¬ (0 ≤ p1.toInt ∧ p1.toInt ≤ 5) ∧ x1.toInt = -1) := hw
  obtain ⟨hP, hD⟩ : PD D A [O12 a12 r12 v12_keptMany v12_done v12_sheets v12_holes v12_worms v12_laidMany v12_wanted v12_orderMany v12_firstOrder v12_lines v12_marks v12_dots v12_madeIn v12_bound v12_places v12_maps v12_tapeMany v12_stories v12_base v12_at v12_ends v12_fault v12_opened v12_bodies v12_ran v12_ownKind v12_ownNumber, (cI κ (r12 59) 6 f12_shelf)] H := hPD
  refine lv_if_eq (tgt := 15) hx hb dX12_element_6 (by decide) (fun c4 => ?_) (fun c4 => ?_)
  · have c4 := ci_eq c4
    exfalso
    omega
  have c4 := ci_ne c4
  refine lv_ldc2 (v := ((-9223372036854775808) : Int64)) hx hb hown w0 dX12_element_9 ?_
  refine lv_goto (tgt := 26) hx hb dX12_element_12 (by decide) ?_
  have hpo : ((-9223372036854775808) : Int64).toInt = (-9223372036854775808) := (by omega)
  exact ret _ _ _ _ ((-9223372036854775808) : Int64) () dX12_element_26 hpo hP hD hS
set_option maxHeartbeats 4000000 in
set_option maxRecDepth 100000 in
theorem k_X12_orNone (l : Launch) (D : va_G) (κ : Nat → ClassId) (β : Nat) (sz : Nat) (p1 : Int32) (i1 : (1 : Int) ≤ 0) : Met l yX12_orNone wsX12_orNone ({ frames := 1, cells := 0, slots := 0, locals := 30 } : Room) (PcK D κ β [] sz [.int p1]) (QiK D (fun (r : Int32) (u : Unit) => True) (fun (u : Unit) => []) [] sz) 0 0 (va_A [] sz) := by
  refine ofK_i (cc := cX12_orNone) (maxL := 1) (own := RX12) (by decide) rfl rfl (Nat.le_of_ble_eq_true rfl) ?_
  intro p e s m args below meth c Q A ls hsz hx hb hml hts hown hK hA hAB hP hD hl ret
  have hS : va_S A s.heap s.heap [] := va_S.rf
  have hl : lv_has ls 1 [(0, .int p1)] := hl
  exfalso
  omega
