set_option maxHeartbeats 4000000 in
set_option maxRecDepth 100000 in
theorem k_X12_byteAt (l : Launch) (D : va_G) (κ : Nat → ClassId) (β : Nat) (a12 : Nat) (r12 : Nat → Nat) (v12_keptMany : Int32) (v12_done : Int32) (v12_sheets : Int32) (v12_holes : Int32) (v12_worms : Int32) (v12_laidMany : Int32) (v12_wanted : Int32) (v12_orderMany : Int32) (v12_firstOrder : Int32) (v12_lines : Int32) (v12_marks : Int32) (v12_dots : Int32) (v12_madeIn : Int32) (v12_bound : Int32) (v12_places : Int32) (v12_maps : Int32) (v12_tapeMany : Int32) (v12_stories : Int32) (v12_base : Int32) (v12_at : Int32) (v12_ends : Int32) (v12_fault : Int32) (v12_opened : Int32) (v12_bodies : Int32) (v12_ran : Int32) (v12_ownKind : Int32) (v12_ownNumber : Int32) (f12_tape : Nat → Int32) (f12_text : Nat → Int32) (sz : Nat) (i1 : Rg 0 40 v12_keptMany) (i2 : Rg 0 40 v12_done) (i3 : Rg 0 8 v12_sheets) (i4 : Rg 0 40 v12_holes) (i5 : Rg 0 40 v12_worms) (i6 : Rg 0 8 v12_laidMany) (i7 : Rg 0 8 v12_wanted) (i8 : Rg 0 20 v12_lines) (i9 : Rg 0 60 v12_marks) (i10 : Rg 0 40 v12_dots) (i11 : Rg 0 20 v12_places) (i12 : Rg 0 8 v12_maps) (i13 : Rg 0 120 v12_tapeMany) (i14 : Rg 0 6 v12_stories) (i15 : Rg 0 50 v12_bodies) (i16 : Rg 0 1000 v12_ran) (i17 : v12_done.toInt ≤ v12_keptMany.toInt) (i18 : 0 ≤ v12_at.toInt ∧ v12_at.toInt ≤ v12_ends.toInt ∧ v12_ends.toInt ≤ 120 ∧ v12_base.toInt ≤ 600) (i19 : v12_keptMany.toInt = 0) (i20 : v12_done.toInt = 0) (i21 : v12_sheets.toInt = 0) (i22 : v12_holes.toInt = 0) (i23 : v12_worms.toInt = 0) (i24 : v12_lines.toInt = 0) (i25 : v12_marks.toInt = 0) (i26 : v12_dots.toInt = 0) (i27 : v12_madeIn.toInt = 2001) (i28 : v12_places.toInt = 0) (i29 : v12_maps.toInt = 0) (i30 : v12_tapeMany.toInt = 0) (i31 : v12_stories.toInt = 0) (i32 : v12_bodies.toInt = 0) : Met l yX12_byteAt wsX12_byteAt ({ frames := 0, cells := 0, slots := 0, locals := 0 } : Room) (PcK D κ β [O12 a12 r12 v12_keptMany v12_done v12_sheets v12_holes v12_worms v12_laidMany v12_wanted v12_orderMany v12_firstOrder v12_lines v12_marks v12_dots v12_madeIn v12_bound v12_places v12_maps v12_tapeMany v12_stories v12_base v12_at v12_ends v12_fault v12_opened v12_bodies v12_ran v12_ownKind v12_ownNumber, (cI κ (r12 41) 120 f12_tape), (cI κ (r12 45) 720 f12_text)] sz [.ref a12]) (QiK D (fun (r : Int32) (u : Unit) => r.toInt = 0 ∨ v12_at.toInt < v12_ends.toInt) (fun (u : Unit) => [O12 a12 r12 v12_keptMany v12_done v12_sheets v12_holes v12_worms v12_laidMany v12_wanted v12_orderMany v12_firstOrder v12_lines v12_marks v12_dots v12_madeIn v12_bound v12_places v12_maps v12_tapeMany v12_stories v12_base v12_at v12_ends v12_fault v12_opened v12_bodies v12_ran v12_ownKind v12_ownNumber, (cI κ (r12 41) 120 f12_tape), (cI κ (r12 45) 720 f12_text)]) [O12 a12 r12 v12_keptMany v12_done v12_sheets v12_holes v12_worms v12_laidMany v12_wanted v12_orderMany v12_firstOrder v12_lines v12_marks v12_dots v12_madeIn v12_bound v12_places v12_maps v12_tapeMany v12_stories v12_base v12_at v12_ends v12_fault v12_opened v12_bodies v12_ran v12_ownKind v12_ownNumber, (cI κ (r12 41) 120 f12_tape), (cI κ (r12 45) 720 f12_text)] sz) 0 0 (va_A [O12 a12 r12 v12_keptMany v12_done v12_sheets v12_holes v12_worms v12_laidMany v12_wanted v12_orderMany v12_firstOrder v12_lines v12_marks v12_dots v12_madeIn v12_bound v12_places v12_maps v12_tapeMany v12_stories v12_base v12_at v12_ends v12_fault v12_opened v12_bodies v12_ran v12_ownKind v12_ownNumber, (cI κ (r12 41) 120 f12_tape), (cI κ (r12 45) 720 f12_text)] sz) := by
  refine ofK_i (cc := cX12_byteAt) (maxL := 1) (own := RX12) (by decide) rfl rfl (Nat.le_of_ble_eq_true rfl) ?_
  intro p e s m args below meth c Q A ls hsz hx hb hml hts hown hK hA hAB hP hD hl ret
  have hS : va_S A s.heap s.heap [] := va_S.rf
  have hl : lv_has ls 1 [(0, .ref a12)] := hl
  have w0 := hts (.fieldLink RX12 297 "OlderSkinModel" "at" "I") (List.mem_of_getElem? (i := 1) rfl)
  have w1 := (fun w h => List.mem_cons_of_mem _ (List.mem_append_right _ h) : ∀ w ∈ u_ws RX12 TX12 63, w ∈ wsX12_byteAt)
  have w2 := hts (.fieldLink RX12 300 "OlderSkinModel" "ends" "I") (List.mem_of_getElem? (i := 2) rfl)
  have w3 := hts (.fieldLink RX12 303 "OlderSkinModel" "base" "I") (List.mem_of_getElem? (i := 3) rfl)
  have w4 := hts (.fieldLink RX12 92 "OlderSkinModel" "text" "[I") (List.mem_of_getElem? (i := 5) rfl)
  have w5 := hts (.fieldLink RX12 86 "OlderSkinModel" "tape" "[I") (List.mem_of_getElem? (i := 4) rfl)
  have l0 : (0 : Int32).toInt = 0 := by decide
  refine lv_aload_n hx hb dX12_byteAt_0 rfl (lv_at hl 0 rfl) ?_
  refine va_get (D := D) (ci := 12) (v := .int v12_at) (C := RX12) (T := TX12) (N := 63) hx hb hts w1 hown hK.1 hP 0 rfl rfl 48 (by decide) w0 (fun _ h9 => h9) rfl dX12_byteAt_1 ?_
  refine lv_aload_n hx hb dX12_byteAt_4 rfl (lv_at hl 0 rfl) ?_
  refine va_get (D := D) (ci := 12) (v := .int v12_ends) (C := RX12) (T := TX12) (N := 63) hx hb hts w1 hown hK.1 hP 0 rfl rfl 49 (by decide) w2 (fun _ h9 => h9) rfl dX12_byteAt_5 ?_
  refine lv_icmp_ge (tgt := 47) hx hb dX12_byteAt_8 (by decide) (fun c1 => ?_) (fun c1 => ?_)
  · have c1 := ci_le c1
    refine lv_iconst (v := 0) hx hb dX12_byteAt_47 (by decide) ?_
    have hpo : (0 : Int32).toInt = 0 ∨ v12_at.toInt < v12_ends.toInt := (by omega)
    exact ret _ _ _ _ 0 () dX12_byteAt_48 hpo hP hD hS
  have c1 := ci_nle c1
  refine lv_aload_n hx hb dX12_byteAt_11 rfl (lv_at hl 0 rfl) ?_
  refine va_get (D := D) (ci := 12) (v := .int v12_base) (C := RX12) (T := TX12) (N := 63) hx hb hts w1 hown hK.1 hP 0 rfl rfl 47 (by decide) w3 (fun _ h9 => h9) rfl dX12_byteAt_12 ?_
  refine lv_if_ge (tgt := 30) hx hb dX12_byteAt_15 (by decide) (fun c2 => ?_) (fun c2 => ?_)
  · have c2 := ci_le c2
    refine lv_aload_n hx hb dX12_byteAt_30 rfl (lv_at hl 0 rfl) ?_
    refine va_get (D := D) (ci := 12) (v := .ref (r12 45)) (C := RX12) (T := TX12) (N := 63) hx hb hts w1 hown hK.1 hP 0 rfl rfl 45 (by decide) w4 (fun _ h9 => h9) rfl dX12_byteAt_31 ?_
    refine lv_aload_n hx hb dX12_byteAt_34 rfl (lv_at hl 0 rfl) ?_
    refine va_get (D := D) (ci := 12) (v := .int v12_base) (C := RX12) (T := TX12) (N := 63) hx hb hts w1 hown hK.1 hP 0 rfl rfl 47 (by decide) w3 (fun _ h9 => h9) rfl dX12_byteAt_35 ?_
    refine lv_aload_n hx hb dX12_byteAt_38 rfl (lv_at hl 0 rfl) ?_
    refine va_get (D := D) (ci := 12) (v := .int v12_at) (C := RX12) (T := TX12) (N := 63) hx hb hts w1 hown hK.1 hP 0 rfl rfl 48 (by decide) w0 (fun _ h9 => h9) rfl dX12_byteAt_39 ?_
    refine lv_iadd hx hb dX12_byteAt_42 ?_
    refine lv_topi (fun x3 e4 => ?_)
    try have h5 : x3.toInt = v12_base.toInt + v12_at.toInt := ci_add e4 (by omega) (by omega)
    refine va_iald hx hb hK.1 hP 2 1 rfl rfl (i := x3) (ix (by omega) (by omega)) dX12_byteAt_43 ?_
    refine lv_topi (fun x6 e7 => ?_)
    refine lv_goto (tgt := 48) hx hb dX12_byteAt_44 (by decide) ?_
    have hpo : x6.toInt = 0 ∨ v12_at.toInt < v12_ends.toInt := (by omega)
    exact ret _ _ _ _ x6 () dX12_byteAt_48 hpo hP hD hS
  have c2 := ci_nle c2
  refine lv_aload_n hx hb dX12_byteAt_18 rfl (lv_at hl 0 rfl) ?_
  refine va_get (D := D) (ci := 12) (v := .ref (r12 41)) (C := RX12) (T := TX12) (N := 63) hx hb hts w1 hown hK.1 hP 0 rfl rfl 41 (by decide) w5 (fun _ h9 => h9) rfl dX12_byteAt_19 ?_
  refine lv_aload_n hx hb dX12_byteAt_22 rfl (lv_at hl 0 rfl) ?_
  refine va_get (D := D) (ci := 12) (v := .int v12_at) (C := RX12) (T := TX12) (N := 63) hx hb hts w1 hown hK.1 hP 0 rfl rfl 48 (by decide) w0 (fun _ h9 => h9) rfl dX12_byteAt_23 ?_
  refine va_iald hx hb hK.1 hP 1 1 rfl rfl (i := v12_at) (ix (by omega) (by omega)) dX12_byteAt_26 ?_
  refine lv_topi (fun x8 e9 => ?_)
  refine lv_goto (tgt := 48) hx hb dX12_byteAt_27 (by decide) ?_
  have hpo : x8.toInt = 0 ∨ v12_at.toInt < v12_ends.toInt := (by omega)
  exact ret _ _ _ _ x8 () dX12_byteAt_48 hpo hP hD hS
set_option maxHeartbeats 4000000 in
set_option maxRecDepth 100000 in
theorem k_X12_wrong (l : Launch) (D : va_G) (κ : Nat → ClassId) (β : Nat) (a12 : Nat) (r12 : Nat → Nat) (v12_keptMany : Int32) (v12_done : Int32) (v12_sheets : Int32) (v12_holes : Int32) (v12_worms : Int32) (v12_laidMany : Int32) (v12_wanted : Int32) (v12_orderMany : Int32) (v12_firstOrder : Int32) (v12_lines : Int32) (v12_marks : Int32) (v12_dots : Int32) (v12_madeIn : Int32) (v12_bound : Int32) (v12_places : Int32) (v12_maps : Int32) (v12_tapeMany : Int32) (v12_stories : Int32) (v12_base : Int32) (v12_at : Int32) (v12_ends : Int32) (v12_fault : Int32) (v12_opened : Int32) (v12_bodies : Int32) (v12_ran : Int32) (v12_ownKind : Int32) (v12_ownNumber : Int32) (sz : Nat) (i1 : Rg 0 40 v12_keptMany) (i2 : Rg 0 40 v12_done) (i3 : Rg 0 8 v12_sheets) (i4 : Rg 0 40 v12_holes) (i5 : Rg 0 40 v12_worms) (i6 : Rg 0 8 v12_laidMany) (i7 : Rg 0 8 v12_wanted) (i8 : Rg 0 20 v12_lines) (i9 : Rg 0 60 v12_marks) (i10 : Rg 0 40 v12_dots) (i11 : Rg 0 20 v12_places) (i12 : Rg 0 8 v12_maps) (i13 : Rg 0 120 v12_tapeMany) (i14 : Rg 0 6 v12_stories) (i15 : Rg 0 50 v12_bodies) (i16 : Rg 0 1000 v12_ran) (i17 : v12_done.toInt ≤ v12_keptMany.toInt) (i18 : 0 ≤ v12_at.toInt) (i19 : v12_keptMany.toInt = 0) (i20 : v12_done.toInt = 0) (i21 : v12_sheets.toInt = 0) (i22 : v12_holes.toInt = 0) (i23 : v12_worms.toInt = 0) (i24 : v12_lines.toInt = 0) (i25 : v12_marks.toInt = 0) (i26 : v12_dots.toInt = 0) (i27 : v12_madeIn.toInt = 2001) (i28 : v12_places.toInt = 0) (i29 : v12_maps.toInt = 0) (i30 : v12_tapeMany.toInt = 0) (i31 : v12_stories.toInt = 0) (i32 : v12_bodies.toInt = 0) : Met l yX12_wrong wsX12_wrong ({ frames := 0, cells := 0, slots := 0, locals := 0 } : Room) (PcK D κ β [O12 a12 r12 v12_keptMany v12_done v12_sheets v12_holes v12_worms v12_laidMany v12_wanted v12_orderMany v12_firstOrder v12_lines v12_marks v12_dots v12_madeIn v12_bound v12_places v12_maps v12_tapeMany v12_stories v12_base v12_at v12_ends v12_fault v12_opened v12_bodies v12_ran v12_ownKind v12_ownNumber] sz [.ref a12]) (QiK D (fun (r : Int32) (u : Int32) => (0 ≤ u.toInt) ∧ ((v12_fault.toInt < 0 ∧ u.toInt = v12_at.toInt) ∨ (0 ≤ v12_fault.toInt ∧ u.toInt = v12_fault.toInt))) (fun (u : Int32) => [O12 a12 r12 v12_keptMany v12_done v12_sheets v12_holes v12_worms v12_laidMany v12_wanted v12_orderMany v12_firstOrder v12_lines v12_marks v12_dots v12_madeIn v12_bound v12_places v12_maps v12_tapeMany v12_stories v12_base v12_at v12_ends u v12_opened v12_bodies v12_ran v12_ownKind v12_ownNumber]) [O12 a12 r12 v12_keptMany v12_done v12_sheets v12_holes v12_worms v12_laidMany v12_wanted v12_orderMany v12_firstOrder v12_lines v12_marks v12_dots v12_madeIn v12_bound v12_places v12_maps v12_tapeMany v12_stories v12_base v12_at v12_ends v12_fault v12_opened v12_bodies v12_ran v12_ownKind v12_ownNumber] sz) 0 0 (va_A [O12 a12 r12 v12_keptMany v12_done v12_sheets v12_holes v12_worms v12_laidMany v12_wanted v12_orderMany v12_firstOrder v12_lines v12_marks v12_dots v12_madeIn v12_bound v12_places v12_maps v12_tapeMany v12_stories v12_base v12_at v12_ends v12_fault v12_opened v12_bodies v12_ran v12_ownKind v12_ownNumber] sz) := by
  refine ofK_i (cc := cX12_wrong) (maxL := 1) (own := RX12) (by decide) rfl rfl (Nat.le_of_ble_eq_true rfl) ?_
  intro p e s m args below meth c Q A ls hsz hx hb hml hts hown hK hA hAB hP hD hl ret
  have hS : va_S A s.heap s.heap [] := va_S.rf
  have hl : lv_has ls 1 [(0, .ref a12)] := hl
  have w0 := hts (.fieldLink RX12 306 "OlderSkinModel" "fault" "I") (List.mem_of_getElem? (i := 1) rfl)
  have w1 := (fun w h => List.mem_cons_of_mem _ (List.mem_append_right _ h) : ∀ w ∈ u_ws RX12 TX12 63, w ∈ wsX12_wrong)
  have w2 := hts (.fieldLink RX12 297 "OlderSkinModel" "at" "I") (List.mem_of_getElem? (i := 2) rfl)
  have l0 : (0 : Int32).toInt = 0 := by decide
  refine lv_aload_n hx hb dX12_wrong_0 rfl (lv_at hl 0 rfl) ?_
  refine lv_aload_n hx hb dX12_wrong_1 rfl (lv_at hl 0 rfl) ?_
  refine va_get (D := D) (ci := 12) (v := .int v12_fault) (C := RX12) (T := TX12) (N := 63) hx hb hts w1 hown hK.1 hP 0 rfl rfl 50 (by decide) w0 (fun _ h9 => h9) rfl dX12_wrong_2 ?_
  refine lv_if_ge (tgt := 15) hx hb dX12_wrong_5 (by decide) (fun c1 => ?_) (fun c1 => ?_)
  · have c1 := ci_le c1
    refine lv_aload_n hx hb dX12_wrong_15 rfl (lv_at hl 0 rfl) ?_
    refine va_get (D := D) (ci := 12) (v := .int v12_fault) (C := RX12) (T := TX12) (N := 63) hx hb hts w1 hown hK.1 hP 0 rfl rfl 50 (by decide) w0 (fun _ h9 => h9) rfl dX12_wrong_16 ?_
    refine va_put (D := D) (ci := 12) (v := .int v12_fault) (ty := .int) (C := RX12) (T := TX12) (N := 63) hx hb hts w1 tyX12 tyX12_ok nmX12 hown hK.1 hP hD hS 0 rfl rfl 50 (by decide) w0 (fun _ h9 => h9) rfl (by decide +kernel) rfl rfl (Nat.le_of_ble_eq_true rfl) dX12_wrong_19 (fun H locs hP hD hS => ?_)
    obtain ⟨hP, hD⟩ : PD D A [O12 a12 r12 v12_keptMany v12_done v12_sheets v12_holes v12_worms v12_laidMany v12_wanted v12_orderMany v12_firstOrder v12_lines v12_marks v12_dots v12_madeIn v12_bound v12_places v12_maps v12_tapeMany v12_stories v12_base v12_at v12_ends v12_fault v12_opened v12_bodies v12_ran v12_ownKind v12_ownNumber] H := ⟨hP, hD⟩
    refine lv_iconst (v := 0) hx hb dX12_wrong_22 (by decide) ?_
    have hpo : (0 ≤ v12_fault.toInt) ∧ ((v12_fault.toInt < 0 ∧ v12_fault.toInt = v12_at.toInt) ∨ (0 ≤ v12_fault.toInt ∧ v12_fault.toInt = v12_fault.toInt)) := ⟨(by omega), (by omega)⟩
    exact ret _ _ _ _ 0 v12_fault dX12_wrong_23 hpo hP hD hS
  have c1 := ci_nle c1
  refine lv_aload_n hx hb dX12_wrong_8 rfl (lv_at hl 0 rfl) ?_
  refine va_get (D := D) (ci := 12) (v := .int v12_at) (C := RX12) (T := TX12) (N := 63) hx hb hts w1 hown hK.1 hP 0 rfl rfl 48 (by decide) w2 (fun _ h9 => h9) rfl dX12_wrong_9 ?_
  refine lv_goto (tgt := 19) hx hb dX12_wrong_12 (by decide) ?_
  refine va_put (D := D) (ci := 12) (v := .int v12_at) (ty := .int) (C := RX12) (T := TX12) (N := 63) hx hb hts w1 tyX12 tyX12_ok nmX12 hown hK.1 hP hD hS 0 rfl rfl 50 (by decide) w0 (fun _ h9 => h9) rfl (by decide +kernel) rfl rfl (Nat.le_of_ble_eq_true rfl) dX12_wrong_19 (fun H locs hP hD hS => ?_)
  obtain ⟨hP, hD⟩ : PD D A [O12 a12 r12 v12_keptMany v12_done v12_sheets v12_holes v12_worms v12_laidMany v12_wanted v12_orderMany v12_firstOrder v12_lines v12_marks v12_dots v12_madeIn v12_bound v12_places v12_maps v12_tapeMany v12_stories v12_base v12_at v12_ends v12_at v12_opened v12_bodies v12_ran v12_ownKind v12_ownNumber] H := ⟨hP, hD⟩
  refine lv_iconst (v := 0) hx hb dX12_wrong_22 (by decide) ?_
  have hpo : (0 ≤ v12_at.toInt) ∧ ((v12_fault.toInt < 0 ∧ v12_at.toInt = v12_at.toInt) ∨ (0 ≤ v12_fault.toInt ∧ v12_at.toInt = v12_fault.toInt)) := ⟨(by omega), (by omega)⟩
  exact ret _ _ _ _ 0 v12_at dX12_wrong_23 hpo hP hD hS
set_option maxHeartbeats 4000000 in
set_option maxRecDepth 100000 in
theorem k_X12_takes (l : Launch) (D : va_G) (κ : Nat → ClassId) (β : Nat) (a12 : Nat) (r12 : Nat → Nat) (v12_keptMany : Int32) (v12_done : Int32) (v12_sheets : Int32) (v12_holes : Int32) (v12_worms : Int32) (v12_laidMany : Int32) (v12_wanted : Int32) (v12_orderMany : Int32) (v12_firstOrder : Int32) (v12_lines : Int32) (v12_marks : Int32) (v12_dots : Int32) (v12_madeIn : Int32) (v12_bound : Int32) (v12_places : Int32) (v12_maps : Int32) (v12_tapeMany : Int32) (v12_stories : Int32) (v12_base : Int32) (v12_at : Int32) (v12_ends : Int32) (v12_fault : Int32) (v12_opened : Int32) (v12_bodies : Int32) (v12_ran : Int32) (v12_ownKind : Int32) (v12_ownNumber : Int32) (f12_tape : Nat → Int32) (f12_text : Nat → Int32) (sz : Nat) (p1 : Int32) (i1 : Rg 0 40 v12_keptMany) (i2 : Rg 0 40 v12_done) (i3 : Rg 0 8 v12_sheets) (i4 : Rg 0 40 v12_holes) (i5 : Rg 0 40 v12_worms) (i6 : Rg 0 8 v12_laidMany) (i7 : Rg 0 8 v12_wanted) (i8 : Rg 0 20 v12_lines) (i9 : Rg 0 60 v12_marks) (i10 : Rg 0 40 v12_dots) (i11 : Rg 0 20 v12_places) (i12 : Rg 0 8 v12_maps) (i13 : Rg 0 120 v12_tapeMany) (i14 : Rg 0 6 v12_stories) (i15 : Rg 0 50 v12_bodies) (i16 : Rg 0 1000 v12_ran) (i17 : v12_done.toInt ≤ v12_keptMany.toInt) (i18 : 0 ≤ v12_at.toInt ∧ v12_at.toInt ≤ v12_ends.toInt ∧ v12_ends.toInt ≤ 120 ∧ v12_base.toInt ≤ 600) (i19 : p1.toInt ≠ 0) (i20 : v12_keptMany.toInt = 0) (i21 : v12_done.toInt = 0) (i22 : v12_sheets.toInt = 0) (i23 : v12_holes.toInt = 0) (i24 : v12_worms.toInt = 0) (i25 : v12_lines.toInt = 0) (i26 : v12_marks.toInt = 0) (i27 : v12_dots.toInt = 0) (i28 : v12_madeIn.toInt = 2001) (i29 : v12_places.toInt = 0) (i30 : v12_maps.toInt = 0) (i31 : v12_tapeMany.toInt = 0) (i32 : v12_stories.toInt = 0) (i33 : v12_bodies.toInt = 0) : Met l yX12_takes wsX12_takes ({ frames := 1, cells := 0, slots := 0, locals := 20 } : Room) (PcK D κ β [O12 a12 r12 v12_keptMany v12_done v12_sheets v12_holes v12_worms v12_laidMany v12_wanted v12_orderMany v12_firstOrder v12_lines v12_marks v12_dots v12_madeIn v12_bound v12_places v12_maps v12_tapeMany v12_stories v12_base v12_at v12_ends v12_fault v12_opened v12_bodies v12_ran v12_ownKind v12_ownNumber, (cI κ (r12 41) 120 f12_tape), (cI κ (r12 45) 720 f12_text)] sz [.ref a12, .int p1]) (QiK D (fun (r : Int32) (u : Int32) => (r.toInt = 1 ∧ v12_fault.toInt < 0 ∧ v12_at.toInt < v12_ends.toInt ∧ u.toInt = v12_at.toInt + 1) ∨ (r.toInt = 0 ∧ u.toInt = v12_at.toInt)) (fun (u : Int32) => [O12 a12 r12 v12_keptMany v12_done v12_sheets v12_holes v12_worms v12_laidMany v12_wanted v12_orderMany v12_firstOrder v12_lines v12_marks v12_dots v12_madeIn v12_bound v12_places v12_maps v12_tapeMany v12_stories v12_base u v12_ends v12_fault v12_opened v12_bodies v12_ran v12_ownKind v12_ownNumber, (cI κ (r12 41) 120 f12_tape), (cI κ (r12 45) 720 f12_text)]) [O12 a12 r12 v12_keptMany v12_done v12_sheets v12_holes v12_worms v12_laidMany v12_wanted v12_orderMany v12_firstOrder v12_lines v12_marks v12_dots v12_madeIn v12_bound v12_places v12_maps v12_tapeMany v12_stories v12_base v12_at v12_ends v12_fault v12_opened v12_bodies v12_ran v12_ownKind v12_ownNumber, (cI κ (r12 41) 120 f12_tape), (cI κ (r12 45) 720 f12_text)] sz) 0 0 (va_A [O12 a12 r12 v12_keptMany v12_done v12_sheets v12_holes v12_worms v12_laidMany v12_wanted v12_orderMany v12_firstOrder v12_lines v12_marks v12_dots v12_madeIn v12_bound v12_places v12_maps v12_tapeMany v12_stories v12_base v12_at v12_ends v12_fault v12_opened v12_bodies v12_ran v12_ownKind v12_ownNumber, (cI κ (r12 41) 120 f12_tape), (cI κ (r12 45) 720 f12_text)] sz) := by
  refine ofK_z (cc := cX12_takes) (maxL := 2) (own := RX12) (by decide) rfl rfl (Nat.le_of_ble_eq_true rfl) ?_
  intro p e s m args below meth c Q A ls hsz hx hb hml hts hown hK hA hAB hP hD hl ret
  have hS : va_S A s.heap s.heap [] := va_S.rf
  have hl : lv_has ls 2 [(0, .ref a12), (1, .int p1)] := hl
  have w0 := hts (.fieldLink RX12 306 "OlderSkinModel" "fault" "I") (List.mem_of_getElem? (i := 1) rfl)
  have w1 := (fun w h => List.mem_cons_of_mem _ (List.mem_append_right _ h) : ∀ w ∈ u_ws RX12 TX12 63, w ∈ wsX12_takes)
  have w2 := hts (.fieldLink RX12 297 "OlderSkinModel" "at" "I") (List.mem_of_getElem? (i := 2) rfl)
  have l0 : (0 : Int32).toInt = 0 := by decide
  have l1 : (1 : Int32).toInt = 1 := by decide
  refine lv_aload_n hx hb dX12_takes_0 rfl (lv_at hl 0 rfl) ?_
  refine va_get (D := D) (ci := 12) (v := .int v12_fault) (C := RX12) (T := TX12) (N := 63) hx hb hts w1 hown hK.1 hP 0 rfl rfl 50 (by decide) w0 (fun _ h9 => h9) rfl dX12_takes_1 ?_
  refine lv_if_ge (tgt := 15) hx hb dX12_takes_4 (by decide) (fun c1 => ?_) (fun c1 => ?_)
  · have c1 := ci_le c1
    refine lv_iconst (v := 0) hx hb dX12_takes_15 (by decide) ?_
    have hpo : ((0 : Int32).toInt = 1 ∧ v12_fault.toInt < 0 ∧ v12_at.toInt < v12_ends.toInt ∧ v12_at.toInt = v12_at.toInt + 1) ∨ ((0 : Int32).toInt = 0 ∧ v12_at.toInt = v12_at.toInt) := (by omega)
    exact ret _ _ _ _ 0 v12_at dX12_takes_16 (by omega) hpo hP hD hS
  have c1 := ci_nle c1
  refine lv_aload_n hx hb dX12_takes_7 rfl (lv_at hl 0 rfl) ?_
  refine kcm_i hA hAB hP hD hS [true, true, true] rfl (fun _ => rfl) (fun hPc hDc => va_runV (As := []) (rest := []) ⟨hx, hb, hml, hown, hts⟩ (k_X12_byteAt l D κ β a12 r12 v12_keptMany v12_done v12_sheets v12_holes v12_worms v12_laidMany v12_wanted v12_orderMany v12_firstOrder v12_lines v12_marks v12_dots v12_madeIn v12_bound v12_places v12_maps v12_tapeMany v12_stories v12_base v12_at v12_ends v12_fault v12_opened v12_bodies v12_ran v12_ownKind v12_ownNumber f12_tape f12_text s.heap.size i1 i2 i3 i4 i5 i6 i7 i8 i9 i10 i11 i12 i13 i14 i15 i16 i17 (by omega) (by omega) (by omega) (by omega) (by omega) (by omega) (by omega) (by omega) (by omega) (by omega) (by omega) (by omega) (by omega) (by omega) (by omega)) (cwV 0 hts gX12_takes_X12_byteAt rfl rfl rfl (by decide +kernel) ⟨Nat.le_of_ble_eq_true rfl, Nat.le_of_ble_eq_true rfl⟩) (pk_V hK hS hAB hPc hDc 0 (ci := 12) rfl rfl rfl) rfl rfl hl.1 rfl (lv_room (Nat.le_of_ble_eq_true rfl)) dX12_takes_8 ⟨Nat.le_of_ble_eq_true rfl, Nat.le_of_ble_eq_true rfl⟩) (fun x2 u3 H locs hw hPD hS => ?_)
  have h4 : x2.toInt = 0 ∨ v12_at.toInt < v12_ends.toInt := hw
  obtain ⟨hP, hD⟩ : PD D A [O12 a12 r12 v12_keptMany v12_done v12_sheets v12_holes v12_worms v12_laidMany v12_wanted v12_orderMany v12_firstOrder v12_lines v12_marks v12_dots v12_madeIn v12_bound v12_places v12_maps v12_tapeMany v12_stories v12_base v12_at v12_ends v12_fault v12_opened v12_bodies v12_ran v12_ownKind v12_ownNumber, (cI κ (r12 41) 120 f12_tape), (cI κ (r12 45) 720 f12_text)] H := hPD
  refine lv_iload_n hx hb dX12_takes_11 rfl (lv_at hl 1 rfl) ?_
  refine lv_icmp_eq (tgt := 17) hx hb dX12_takes_12 (by decide) (fun c5 => ?_) (fun c5 => ?_)
  · have c5 := ci_eq c5
    refine lv_aload_n hx hb dX12_takes_17 rfl (lv_at hl 0 rfl) ?_
    refine lv_dup hx hb dX12_takes_18 rfl ?_
    refine va_get (D := D) (ci := 12) (v := .int v12_at) (C := RX12) (T := TX12) (N := 63) hx hb hts w1 hown hK.1 hP 0 rfl rfl 48 (by decide) w2 (fun _ h9 => h9) rfl dX12_takes_19 ?_
    refine lv_iconst (v := 1) hx hb dX12_takes_22 (by decide) ?_
    refine lv_iadd hx hb dX12_takes_23 ?_
    refine lv_topi (fun x6 e7 => ?_)
    try have h8 : x6.toInt = v12_at.toInt + (1 : Int32).toInt := ci_add e7 (by omega) (by omega)
    refine va_put (D := D) (ci := 12) (v := .int x6) (ty := .int) (C := RX12) (T := TX12) (N := 63) hx hb hts w1 tyX12 tyX12_ok nmX12 hown hK.1 hP hD hS 0 rfl rfl 48 (by decide) w2 (fun _ h9 => h9) rfl (by decide +kernel) rfl rfl (Nat.le_of_ble_eq_true rfl) dX12_takes_24 (fun H locs hP hD hS => ?_)
    obtain ⟨hP, hD⟩ : PD D A [O12 a12 r12 v12_keptMany v12_done v12_sheets v12_holes v12_worms v12_laidMany v12_wanted v12_orderMany v12_firstOrder v12_lines v12_marks v12_dots v12_madeIn v12_bound v12_places v12_maps v12_tapeMany v12_stories v12_base x6 v12_ends v12_fault v12_opened v12_bodies v12_ran v12_ownKind v12_ownNumber, (cI κ (r12 41) 120 f12_tape), (cI κ (r12 45) 720 f12_text)] H := ⟨hP, hD⟩
    refine lv_iconst (v := 1) hx hb dX12_takes_27 (by decide) ?_
    have hpo : ((1 : Int32).toInt = 1 ∧ v12_fault.toInt < 0 ∧ v12_at.toInt < v12_ends.toInt ∧ x6.toInt = v12_at.toInt + 1) ∨ ((1 : Int32).toInt = 0 ∧ x6.toInt = v12_at.toInt) := (by omega)
    exact ret _ _ _ _ 1 x6 dX12_takes_28 (by omega) hpo hP hD hS
  have c5 := ci_ne c5
  refine lv_iconst (v := 0) hx hb dX12_takes_15 (by decide) ?_
  have hpo : ((0 : Int32).toInt = 1 ∧ v12_fault.toInt < 0 ∧ v12_at.toInt < v12_ends.toInt ∧ v12_at.toInt = v12_at.toInt + 1) ∨ ((0 : Int32).toInt = 0 ∧ v12_at.toInt = v12_at.toInt) := (by omega)
  exact ret _ _ _ _ 0 v12_at dX12_takes_16 (by omega) hpo hP hD hS
set_option maxHeartbeats 4000000 in
set_option maxRecDepth 100000 in
theorem k_X12_nameOf (l : Launch) (D : va_G) (κ : Nat → ClassId) (β : Nat) (sz : Nat) (p1 : Int32) : Met l yX12_nameOf wsX12_nameOf ({ frames := 0, cells := 0, slots := 0, locals := 0 } : Room) (PcK D κ β [] sz [.int p1]) (QiK D (fun (r : Int32) (u : Unit) => r.toInt = -1 ∨ (0 ≤ r.toInt ∧ r.toInt ≤ 7 ∧ p1.toInt ≠ 0)) (fun (u : Unit) => []) [] sz) 0 0 (va_A [] sz) := by
  refine ofK_i (cc := cX12_nameOf) (maxL := 1) (own := RX12) (by decide) rfl rfl (Nat.le_of_ble_eq_true rfl) ?_
  intro p e s m args below meth c Q A ls hsz hx hb hml hts hown hK hA hAB hP hD hl ret
  have hS : va_S A s.heap s.heap [] := va_S.rf
  have hl : lv_has ls 1 [(0, .int p1)] := hl
  have l0 : (7 : Int32).toInt = 7 := by decide
  have l1 : (3 : Int32).toInt = 3 := by decide
  have l2 : ((-1) : Int32).toInt = -1 := by decide
  have l3 : (6 : Int32).toInt = 6 := by decide
  have l4 : (4 : Int32).toInt = 4 := by decide
  have l5 : (0 : Int32).toInt = 0 := by decide
  have l6 : (1 : Int32).toInt = 1 := by decide
  have l7 : (2 : Int32).toInt = 2 := by decide
  have l8 : (5 : Int32).toInt = 5 := by decide
  refine lv_iload_n hx hb dX12_nameOf_0 rfl (lv_at hl 0 rfl) ?_
  by_cases c1 : p1.toInt = 97
  · refine lv_tableIn (off := 130) (tgt := 131) hx hb dX12_nameOf_1 (by omega) (by omega) (by rw [c1]; decide) (by decide) ?_
    refine lv_bipush (v := 7) hx hb dX12_nameOf_131 (by decide) ?_
    have hpo : (7 : Int32).toInt = -1 ∨ (0 ≤ (7 : Int32).toInt ∧ (7 : Int32).toInt ≤ 7 ∧ p1.toInt ≠ 0) := (by omega)
    exact ret _ _ _ _ 7 () dX12_nameOf_133 hpo hP hD hS
  by_cases c2 : p1.toInt = 98
  · refine lv_tableIn (off := 121) (tgt := 122) hx hb dX12_nameOf_1 (by omega) (by omega) (by rw [c2]; decide) (by decide) ?_
    refine lv_iconst (v := 3) hx hb dX12_nameOf_122 (by decide) ?_
    have hpo : (3 : Int32).toInt = -1 ∨ (0 ≤ (3 : Int32).toInt ∧ (3 : Int32).toInt ≤ 7 ∧ p1.toInt ≠ 0) := (by omega)
    exact ret _ _ _ _ 3 () dX12_nameOf_123 hpo hP hD hS
  by_cases c3 : p1.toInt = 99
  · refine lv_tableIn (off := 133) (tgt := 134) hx hb dX12_nameOf_1 (by omega) (by omega) (by rw [c3]; decide) (by decide) ?_
    refine lv_iconst (v := (-1)) hx hb dX12_nameOf_134 (by decide) ?_
    have hpo : ((-1) : Int32).toInt = -1 ∨ (0 ≤ ((-1) : Int32).toInt ∧ ((-1) : Int32).toInt ≤ 7 ∧ p1.toInt ≠ 0) := (by omega)
    exact ret _ _ _ _ (-1) () dX12_nameOf_135 hpo hP hD hS
  by_cases c4 : p1.toInt = 100
  · refine lv_tableIn (off := 133) (tgt := 134) hx hb dX12_nameOf_1 (by omega) (by omega) (by rw [c4]; decide) (by decide) ?_
    refine lv_iconst (v := (-1)) hx hb dX12_nameOf_134 (by decide) ?_
    have hpo : ((-1) : Int32).toInt = -1 ∨ (0 ≤ ((-1) : Int32).toInt ∧ ((-1) : Int32).toInt ≤ 7 ∧ p1.toInt ≠ 0) := (by omega)
    exact ret _ _ _ _ (-1) () dX12_nameOf_135 hpo hP hD hS
  by_cases c5 : p1.toInt = 101
  · refine lv_tableIn (off := 133) (tgt := 134) hx hb dX12_nameOf_1 (by omega) (by omega) (by rw [c5]; decide) (by decide) ?_
    refine lv_iconst (v := (-1)) hx hb dX12_nameOf_134 (by decide) ?_
    have hpo : ((-1) : Int32).toInt = -1 ∨ (0 ≤ ((-1) : Int32).toInt ∧ ((-1) : Int32).toInt ≤ 7 ∧ p1.toInt ≠ 0) := (by omega)
    exact ret _ _ _ _ (-1) () dX12_nameOf_135 hpo hP hD hS
  by_cases c6 : p1.toInt = 102
  · refine lv_tableIn (off := 127) (tgt := 128) hx hb dX12_nameOf_1 (by omega) (by omega) (by rw [c6]; decide) (by decide) ?_
    refine lv_bipush (v := 6) hx hb dX12_nameOf_128 (by decide) ?_
    have hpo : (6 : Int32).toInt = -1 ∨ (0 ≤ (6 : Int32).toInt ∧ (6 : Int32).toInt ≤ 7 ∧ p1.toInt ≠ 0) := (by omega)
    exact ret _ _ _ _ 6 () dX12_nameOf_130 hpo hP hD hS
  by_cases c7 : p1.toInt = 103
  · refine lv_tableIn (off := 133) (tgt := 134) hx hb dX12_nameOf_1 (by omega) (by omega) (by rw [c7]; decide) (by decide) ?_
    refine lv_iconst (v := (-1)) hx hb dX12_nameOf_134 (by decide) ?_
    have hpo : ((-1) : Int32).toInt = -1 ∨ (0 ≤ ((-1) : Int32).toInt ∧ ((-1) : Int32).toInt ≤ 7 ∧ p1.toInt ≠ 0) := (by omega)
    exact ret _ _ _ _ (-1) () dX12_nameOf_135 hpo hP hD hS
  by_cases c8 : p1.toInt = 104
  · refine lv_tableIn (off := 133) (tgt := 134) hx hb dX12_nameOf_1 (by omega) (by omega) (by rw [c8]; decide) (by decide) ?_
    refine lv_iconst (v := (-1)) hx hb dX12_nameOf_134 (by decide) ?_
    have hpo : ((-1) : Int32).toInt = -1 ∨ (0 ≤ ((-1) : Int32).toInt ∧ ((-1) : Int32).toInt ≤ 7 ∧ p1.toInt ≠ 0) := (by omega)
    exact ret _ _ _ _ (-1) () dX12_nameOf_135 hpo hP hD hS
  by_cases c9 : p1.toInt = 105
  · refine lv_tableIn (off := 133) (tgt := 134) hx hb dX12_nameOf_1 (by omega) (by omega) (by rw [c9]; decide) (by decide) ?_
    refine lv_iconst (v := (-1)) hx hb dX12_nameOf_134 (by decide) ?_
    have hpo : ((-1) : Int32).toInt = -1 ∨ (0 ≤ ((-1) : Int32).toInt ∧ ((-1) : Int32).toInt ≤ 7 ∧ p1.toInt ≠ 0) := (by omega)
    exact ret _ _ _ _ (-1) () dX12_nameOf_135 hpo hP hD hS
  by_cases c10 : p1.toInt = 106
  · refine lv_tableIn (off := 133) (tgt := 134) hx hb dX12_nameOf_1 (by omega) (by omega) (by rw [c10]; decide) (by decide) ?_
    refine lv_iconst (v := (-1)) hx hb dX12_nameOf_134 (by decide) ?_
    have hpo : ((-1) : Int32).toInt = -1 ∨ (0 ≤ ((-1) : Int32).toInt ∧ ((-1) : Int32).toInt ≤ 7 ∧ p1.toInt ≠ 0) := (by omega)
    exact ret _ _ _ _ (-1) () dX12_nameOf_135 hpo hP hD hS
  by_cases c11 : p1.toInt = 107
  · refine lv_tableIn (off := 133) (tgt := 134) hx hb dX12_nameOf_1 (by omega) (by omega) (by rw [c11]; decide) (by decide) ?_
    refine lv_iconst (v := (-1)) hx hb dX12_nameOf_134 (by decide) ?_
    have hpo : ((-1) : Int32).toInt = -1 ∨ (0 ≤ ((-1) : Int32).toInt ∧ ((-1) : Int32).toInt ≤ 7 ∧ p1.toInt ≠ 0) := (by omega)
    exact ret _ _ _ _ (-1) () dX12_nameOf_135 hpo hP hD hS
  by_cases c12 : p1.toInt = 108
  · refine lv_tableIn (off := 123) (tgt := 124) hx hb dX12_nameOf_1 (by omega) (by omega) (by rw [c12]; decide) (by decide) ?_
    refine lv_iconst (v := 4) hx hb dX12_nameOf_124 (by decide) ?_
    have hpo : (4 : Int32).toInt = -1 ∨ (0 ≤ (4 : Int32).toInt ∧ (4 : Int32).toInt ≤ 7 ∧ p1.toInt ≠ 0) := (by omega)
    exact ret _ _ _ _ 4 () dX12_nameOf_125 hpo hP hD hS
  by_cases c13 : p1.toInt = 109
  · refine lv_tableIn (off := 133) (tgt := 134) hx hb dX12_nameOf_1 (by omega) (by omega) (by rw [c13]; decide) (by decide) ?_
    refine lv_iconst (v := (-1)) hx hb dX12_nameOf_134 (by decide) ?_
    have hpo : ((-1) : Int32).toInt = -1 ∨ (0 ≤ ((-1) : Int32).toInt ∧ ((-1) : Int32).toInt ≤ 7 ∧ p1.toInt ≠ 0) := (by omega)
    exact ret _ _ _ _ (-1) () dX12_nameOf_135 hpo hP hD hS
  by_cases c14 : p1.toInt = 110
  · refine lv_tableIn (off := 133) (tgt := 134) hx hb dX12_nameOf_1 (by omega) (by omega) (by rw [c14]; decide) (by decide) ?_
    refine lv_iconst (v := (-1)) hx hb dX12_nameOf_134 (by decide) ?_
    have hpo : ((-1) : Int32).toInt = -1 ∨ (0 ≤ ((-1) : Int32).toInt ∧ ((-1) : Int32).toInt ≤ 7 ∧ p1.toInt ≠ 0) := (by omega)
    exact ret _ _ _ _ (-1) () dX12_nameOf_135 hpo hP hD hS
  by_cases c15 : p1.toInt = 111
  · refine lv_tableIn (off := 115) (tgt := 116) hx hb dX12_nameOf_1 (by omega) (by omega) (by rw [c15]; decide) (by decide) ?_
    refine lv_iconst (v := 0) hx hb dX12_nameOf_116 (by decide) ?_
    have hpo : (0 : Int32).toInt = -1 ∨ (0 ≤ (0 : Int32).toInt ∧ (0 : Int32).toInt ≤ 7 ∧ p1.toInt ≠ 0) := (by omega)
    exact ret _ _ _ _ 0 () dX12_nameOf_117 hpo hP hD hS
  by_cases c16 : p1.toInt = 112
  · refine lv_tableIn (off := 133) (tgt := 134) hx hb dX12_nameOf_1 (by omega) (by omega) (by rw [c16]; decide) (by decide) ?_
    refine lv_iconst (v := (-1)) hx hb dX12_nameOf_134 (by decide) ?_
    have hpo : ((-1) : Int32).toInt = -1 ∨ (0 ≤ ((-1) : Int32).toInt ∧ ((-1) : Int32).toInt ≤ 7 ∧ p1.toInt ≠ 0) := (by omega)
    exact ret _ _ _ _ (-1) () dX12_nameOf_135 hpo hP hD hS
  by_cases c17 : p1.toInt = 113
  · refine lv_tableIn (off := 133) (tgt := 134) hx hb dX12_nameOf_1 (by omega) (by omega) (by rw [c17]; decide) (by decide) ?_
    refine lv_iconst (v := (-1)) hx hb dX12_nameOf_134 (by decide) ?_
    have hpo : ((-1) : Int32).toInt = -1 ∨ (0 ≤ ((-1) : Int32).toInt ∧ ((-1) : Int32).toInt ≤ 7 ∧ p1.toInt ≠ 0) := (by omega)
    exact ret _ _ _ _ (-1) () dX12_nameOf_135 hpo hP hD hS
  by_cases c18 : p1.toInt = 114
  · refine lv_tableIn (off := 117) (tgt := 118) hx hb dX12_nameOf_1 (by omega) (by omega) (by rw [c18]; decide) (by decide) ?_
    refine lv_iconst (v := 1) hx hb dX12_nameOf_118 (by decide) ?_
    have hpo : (1 : Int32).toInt = -1 ∨ (0 ≤ (1 : Int32).toInt ∧ (1 : Int32).toInt ≤ 7 ∧ p1.toInt ≠ 0) := (by omega)
    exact ret _ _ _ _ 1 () dX12_nameOf_119 hpo hP hD hS
  by_cases c19 : p1.toInt = 115
  · refine lv_tableIn (off := 119) (tgt := 120) hx hb dX12_nameOf_1 (by omega) (by omega) (by rw [c19]; decide) (by decide) ?_
    refine lv_iconst (v := 2) hx hb dX12_nameOf_120 (by decide) ?_
    have hpo : (2 : Int32).toInt = -1 ∨ (0 ≤ (2 : Int32).toInt ∧ (2 : Int32).toInt ≤ 7 ∧ p1.toInt ≠ 0) := (by omega)
    exact ret _ _ _ _ 2 () dX12_nameOf_121 hpo hP hD hS
  by_cases c20 : p1.toInt = 116
  · refine lv_tableIn (off := 133) (tgt := 134) hx hb dX12_nameOf_1 (by omega) (by omega) (by rw [c20]; decide) (by decide) ?_
    refine lv_iconst (v := (-1)) hx hb dX12_nameOf_134 (by decide) ?_
    have hpo : ((-1) : Int32).toInt = -1 ∨ (0 ≤ ((-1) : Int32).toInt ∧ ((-1) : Int32).toInt ≤ 7 ∧ p1.toInt ≠ 0) := (by omega)
    exact ret _ _ _ _ (-1) () dX12_nameOf_135 hpo hP hD hS
  by_cases c21 : p1.toInt = 117
  · refine lv_tableIn (off := 133) (tgt := 134) hx hb dX12_nameOf_1 (by omega) (by omega) (by rw [c21]; decide) (by decide) ?_
    refine lv_iconst (v := (-1)) hx hb dX12_nameOf_134 (by decide) ?_
    have hpo : ((-1) : Int32).toInt = -1 ∨ (0 ≤ ((-1) : Int32).toInt ∧ ((-1) : Int32).toInt ≤ 7 ∧ p1.toInt ≠ 0) := (by omega)
    exact ret _ _ _ _ (-1) () dX12_nameOf_135 hpo hP hD hS
  by_cases c22 : p1.toInt = 118
  · refine lv_tableIn (off := 133) (tgt := 134) hx hb dX12_nameOf_1 (by omega) (by omega) (by rw [c22]; decide) (by decide) ?_
    refine lv_iconst (v := (-1)) hx hb dX12_nameOf_134 (by decide) ?_
    have hpo : ((-1) : Int32).toInt = -1 ∨ (0 ≤ ((-1) : Int32).toInt ∧ ((-1) : Int32).toInt ≤ 7 ∧ p1.toInt ≠ 0) := (by omega)
    exact ret _ _ _ _ (-1) () dX12_nameOf_135 hpo hP hD hS
  by_cases c23 : p1.toInt = 119
  · refine lv_tableIn (off := 133) (tgt := 134) hx hb dX12_nameOf_1 (by omega) (by omega) (by rw [c23]; decide) (by decide) ?_
    refine lv_iconst (v := (-1)) hx hb dX12_nameOf_134 (by decide) ?_
    have hpo : ((-1) : Int32).toInt = -1 ∨ (0 ≤ ((-1) : Int32).toInt ∧ ((-1) : Int32).toInt ≤ 7 ∧ p1.toInt ≠ 0) := (by omega)
    exact ret _ _ _ _ (-1) () dX12_nameOf_135 hpo hP hD hS
  by_cases c24 : p1.toInt = 120
  · refine lv_tableIn (off := 133) (tgt := 134) hx hb dX12_nameOf_1 (by omega) (by omega) (by rw [c24]; decide) (by decide) ?_
    refine lv_iconst (v := (-1)) hx hb dX12_nameOf_134 (by decide) ?_
    have hpo : ((-1) : Int32).toInt = -1 ∨ (0 ≤ ((-1) : Int32).toInt ∧ ((-1) : Int32).toInt ≤ 7 ∧ p1.toInt ≠ 0) := (by omega)
    exact ret _ _ _ _ (-1) () dX12_nameOf_135 hpo hP hD hS
  by_cases c25 : p1.toInt = 121
  · refine lv_tableIn (off := 125) (tgt := 126) hx hb dX12_nameOf_1 (by omega) (by omega) (by rw [c25]; decide) (by decide) ?_
    refine lv_iconst (v := 5) hx hb dX12_nameOf_126 (by decide) ?_
    have hpo : (5 : Int32).toInt = -1 ∨ (0 ≤ (5 : Int32).toInt ∧ (5 : Int32).toInt ≤ 7 ∧ p1.toInt ≠ 0) := (by omega)
    exact ret _ _ _ _ 5 () dX12_nameOf_127 hpo hP hD hS
  refine lv_tableOut (tgt := 134) hx hb dX12_nameOf_1 (by omega) (by decide) ?_
  refine lv_iconst (v := (-1)) hx hb dX12_nameOf_134 (by decide) ?_
  have hpo : ((-1) : Int32).toInt = -1 ∨ (0 ≤ ((-1) : Int32).toInt ∧ ((-1) : Int32).toInt ≤ 7 ∧ p1.toInt ≠ 0) := (by omega)
  exact ret _ _ _ _ (-1) () dX12_nameOf_135 hpo hP hD hS
def C_X12_one (l : Launch) (D : va_G) (κ : Nat → ClassId) (β d : Nat) : Prop := ∀ (a12 : Nat) (r12 : Nat → Nat) (v12_keptMany : Int32) (v12_done : Int32) (v12_sheets : Int32) (v12_holes : Int32) (v12_worms : Int32) (v12_laidMany : Int32) (v12_wanted : Int32) (v12_orderMany : Int32) (v12_firstOrder : Int32) (v12_lines : Int32) (v12_marks : Int32) (v12_dots : Int32) (v12_madeIn : Int32) (v12_bound : Int32) (v12_places : Int32) (v12_maps : Int32) (v12_tapeMany : Int32) (v12_stories : Int32) (v12_base : Int32) (v12_at : Int32) (v12_ends : Int32) (v12_fault : Int32) (v12_opened : Int32) (v12_bodies : Int32) (v12_ran : Int32) (v12_ownKind : Int32) (v12_ownNumber : Int32) (f12_tape : Nat → Int32) (f12_text : Nat → Int32) (f12_names : Nat → Int32) (sz : Nat) (i1 : Rg 0 40 v12_keptMany) (i2 : Rg 0 40 v12_done) (i3 : Rg 0 8 v12_sheets) (i4 : Rg 0 40 v12_holes) (i5 : Rg 0 40 v12_worms) (i6 : Rg 0 8 v12_laidMany) (i7 : Rg 0 8 v12_wanted) (i8 : Rg 0 20 v12_lines) (i9 : Rg 0 60 v12_marks) (i10 : Rg 0 40 v12_dots) (i11 : Rg 0 20 v12_places) (i12 : Rg 0 8 v12_maps) (i13 : Rg 0 120 v12_tapeMany) (i14 : Rg 0 6 v12_stories) (i15 : Rg 0 50 v12_bodies) (i16 : Rg 0 1000 v12_ran) (i17 : v12_done.toInt ≤ v12_keptMany.toInt) (i18 : 0 ≤ v12_at.toInt ∧ v12_at.toInt ≤ v12_ends.toInt ∧ v12_ends.toInt ≤ 120 ∧ v12_base.toInt ≤ 600) (i19 : 0 ≤ v12_opened.toInt ∧ v12_opened.toInt ≤ 6) (i20 : v12_ends.toInt = 0) (i21 : v12_fault.toInt ≤ 0) (i22 : 0 ≤ v12_fault.toInt ∨ 6 - v12_opened.toInt ≤ d) (i23 : v12_keptMany.toInt = 0) (i24 : v12_done.toInt = 0) (i25 : v12_sheets.toInt = 0) (i26 : v12_holes.toInt = 0) (i27 : v12_worms.toInt = 0) (i28 : v12_lines.toInt = 0) (i29 : v12_marks.toInt = 0) (i30 : v12_dots.toInt = 0) (i31 : v12_madeIn.toInt = 2001) (i32 : v12_places.toInt = 0) (i33 : v12_maps.toInt = 0) (i34 : v12_tapeMany.toInt = 0) (i35 : v12_stories.toInt = 0) (i36 : v12_bodies.toInt = 0), Met l yX12_one wsX12_one ({ frames := 6 * d + 2, cells := 0, slots := 0, locals := 137 * d + 60 } : Room) (PcK D κ β [O12 a12 r12 v12_keptMany v12_done v12_sheets v12_holes v12_worms v12_laidMany v12_wanted v12_orderMany v12_firstOrder v12_lines v12_marks v12_dots v12_madeIn v12_bound v12_places v12_maps v12_tapeMany v12_stories v12_base v12_at v12_ends v12_fault v12_opened v12_bodies v12_ran v12_ownKind v12_ownNumber, (cI κ (r12 41) 120 f12_tape), (cI κ (r12 45) 720 f12_text), (cI κ (r12 52) 8 f12_names)] sz [.ref a12]) (QiK D (fun (r : Int32) (u : Int32 × Int32 × Int32) => (v12_at.toInt ≤ u.1.toInt ∧ u.1.toInt ≤ v12_ends.toInt) ∧ (v12_opened.toInt ≤ u.2.2.toInt ∧ u.2.2.toInt ≤ 6 ∧ (0 ≤ u.2.1.toInt ∨ u.2.2.toInt = v12_opened.toInt)) ∧ (v12_fault.toInt < 0 ∨ 0 ≤ u.2.1.toInt) ∧ (u.2.1.toInt = 0)) (fun (u : Int32 × Int32 × Int32) => [O12 a12 r12 v12_keptMany v12_done v12_sheets v12_holes v12_worms v12_laidMany v12_wanted v12_orderMany v12_firstOrder v12_lines v12_marks v12_dots v12_madeIn v12_bound v12_places v12_maps v12_tapeMany v12_stories v12_base u.1 v12_ends u.2.1 u.2.2 v12_bodies v12_ran v12_ownKind v12_ownNumber, (cI κ (r12 41) 120 f12_tape), (cI κ (r12 45) 720 f12_text), (cI κ (r12 52) 8 f12_names)]) [O12 a12 r12 v12_keptMany v12_done v12_sheets v12_holes v12_worms v12_laidMany v12_wanted v12_orderMany v12_firstOrder v12_lines v12_marks v12_dots v12_madeIn v12_bound v12_places v12_maps v12_tapeMany v12_stories v12_base v12_at v12_ends v12_fault v12_opened v12_bodies v12_ran v12_ownKind v12_ownNumber, (cI κ (r12 41) 120 f12_tape), (cI κ (r12 45) 720 f12_text), (cI κ (r12 52) 8 f12_names)] sz) 0 0 (va_A [O12 a12 r12 v12_keptMany v12_done v12_sheets v12_holes v12_worms v12_laidMany v12_wanted v12_orderMany v12_firstOrder v12_lines v12_marks v12_dots v12_madeIn v12_bound v12_places v12_maps v12_tapeMany v12_stories v12_base v12_at v12_ends v12_fault v12_opened v12_bodies v12_ran v12_ownKind v12_ownNumber, (cI κ (r12 41) 120 f12_tape), (cI κ (r12 45) 720 f12_text), (cI κ (r12 52) 8 f12_names)] sz)
def C_X12_product (l : Launch) (D : va_G) (κ : Nat → ClassId) (β d : Nat) : Prop := ∀ (a12 : Nat) (r12 : Nat → Nat) (v12_keptMany : Int32) (v12_done : Int32) (v12_sheets : Int32) (v12_holes : Int32) (v12_worms : Int32) (v12_laidMany : Int32) (v12_wanted : Int32) (v12_orderMany : Int32) (v12_firstOrder : Int32) (v12_lines : Int32) (v12_marks : Int32) (v12_dots : Int32) (v12_madeIn : Int32) (v12_bound : Int32) (v12_places : Int32) (v12_maps : Int32) (v12_tapeMany : Int32) (v12_stories : Int32) (v12_base : Int32) (v12_at : Int32) (v12_ends : Int32) (v12_fault : Int32) (v12_opened : Int32) (v12_bodies : Int32) (v12_ran : Int32) (v12_ownKind : Int32) (v12_ownNumber : Int32) (f12_tape : Nat → Int32) (f12_text : Nat → Int32) (f12_names : Nat → Int32) (sz : Nat) (i1 : Rg 0 40 v12_keptMany) (i2 : Rg 0 40 v12_done) (i3 : Rg 0 8 v12_sheets) (i4 : Rg 0 40 v12_holes) (i5 : Rg 0 40 v12_worms) (i6 : Rg 0 8 v12_laidMany) (i7 : Rg 0 8 v12_wanted) (i8 : Rg 0 20 v12_lines) (i9 : Rg 0 60 v12_marks) (i10 : Rg 0 40 v12_dots) (i11 : Rg 0 20 v12_places) (i12 : Rg 0 8 v12_maps) (i13 : Rg 0 120 v12_tapeMany) (i14 : Rg 0 6 v12_stories) (i15 : Rg 0 50 v12_bodies) (i16 : Rg 0 1000 v12_ran) (i17 : v12_done.toInt ≤ v12_keptMany.toInt) (i18 : 0 ≤ v12_at.toInt ∧ v12_at.toInt ≤ v12_ends.toInt ∧ v12_ends.toInt ≤ 120 ∧ v12_base.toInt ≤ 600) (i19 : 0 ≤ v12_opened.toInt ∧ v12_opened.toInt ≤ 6) (i20 : v12_ends.toInt = 0) (i21 : v12_fault.toInt ≤ 0) (i22 : 0 ≤ v12_fault.toInt ∨ 6 - v12_opened.toInt ≤ d) (i23 : v12_keptMany.toInt = 0) (i24 : v12_done.toInt = 0) (i25 : v12_sheets.toInt = 0) (i26 : v12_holes.toInt = 0) (i27 : v12_worms.toInt = 0) (i28 : v12_lines.toInt = 0) (i29 : v12_marks.toInt = 0) (i30 : v12_dots.toInt = 0) (i31 : v12_madeIn.toInt = 2001) (i32 : v12_places.toInt = 0) (i33 : v12_maps.toInt = 0) (i34 : v12_tapeMany.toInt = 0) (i35 : v12_stories.toInt = 0) (i36 : v12_bodies.toInt = 0), Met l yX12_product wsX12_product ({ frames := 6 * d + 3, cells := 0, slots := 0, locals := 137 * d + 84 } : Room) (PcK D κ β [O12 a12 r12 v12_keptMany v12_done v12_sheets v12_holes v12_worms v12_laidMany v12_wanted v12_orderMany v12_firstOrder v12_lines v12_marks v12_dots v12_madeIn v12_bound v12_places v12_maps v12_tapeMany v12_stories v12_base v12_at v12_ends v12_fault v12_opened v12_bodies v12_ran v12_ownKind v12_ownNumber, (cI κ (r12 41) 120 f12_tape), (cI κ (r12 45) 720 f12_text), (cI κ (r12 52) 8 f12_names)] sz [.ref a12]) (QiK D (fun (r : Int32) (u : Int32 × Int32 × Int32) => (v12_at.toInt ≤ u.1.toInt ∧ u.1.toInt ≤ v12_ends.toInt) ∧ (v12_opened.toInt ≤ u.2.2.toInt ∧ u.2.2.toInt ≤ 6 ∧ (0 ≤ u.2.1.toInt ∨ u.2.2.toInt = v12_opened.toInt)) ∧ (v12_fault.toInt < 0 ∨ 0 ≤ u.2.1.toInt) ∧ (u.2.1.toInt = 0)) (fun (u : Int32 × Int32 × Int32) => [O12 a12 r12 v12_keptMany v12_done v12_sheets v12_holes v12_worms v12_laidMany v12_wanted v12_orderMany v12_firstOrder v12_lines v12_marks v12_dots v12_madeIn v12_bound v12_places v12_maps v12_tapeMany v12_stories v12_base u.1 v12_ends u.2.1 u.2.2 v12_bodies v12_ran v12_ownKind v12_ownNumber, (cI κ (r12 41) 120 f12_tape), (cI κ (r12 45) 720 f12_text), (cI κ (r12 52) 8 f12_names)]) [O12 a12 r12 v12_keptMany v12_done v12_sheets v12_holes v12_worms v12_laidMany v12_wanted v12_orderMany v12_firstOrder v12_lines v12_marks v12_dots v12_madeIn v12_bound v12_places v12_maps v12_tapeMany v12_stories v12_base v12_at v12_ends v12_fault v12_opened v12_bodies v12_ran v12_ownKind v12_ownNumber, (cI κ (r12 41) 120 f12_tape), (cI κ (r12 45) 720 f12_text), (cI κ (r12 52) 8 f12_names)] sz) 0 0 (va_A [O12 a12 r12 v12_keptMany v12_done v12_sheets v12_holes v12_worms v12_laidMany v12_wanted v12_orderMany v12_firstOrder v12_lines v12_marks v12_dots v12_madeIn v12_bound v12_places v12_maps v12_tapeMany v12_stories v12_base v12_at v12_ends v12_fault v12_opened v12_bodies v12_ran v12_ownKind v12_ownNumber, (cI κ (r12 41) 120 f12_tape), (cI κ (r12 45) 720 f12_text), (cI κ (r12 52) 8 f12_names)] sz)
def C_X12_sums (l : Launch) (D : va_G) (κ : Nat → ClassId) (β d : Nat) : Prop := ∀ (a12 : Nat) (r12 : Nat → Nat) (v12_keptMany : Int32) (v12_done : Int32) (v12_sheets : Int32) (v12_holes : Int32) (v12_worms : Int32) (v12_laidMany : Int32) (v12_wanted : Int32) (v12_orderMany : Int32) (v12_firstOrder : Int32) (v12_lines : Int32) (v12_marks : Int32) (v12_dots : Int32) (v12_madeIn : Int32) (v12_bound : Int32) (v12_places : Int32) (v12_maps : Int32) (v12_tapeMany : Int32) (v12_stories : Int32) (v12_base : Int32) (v12_at : Int32) (v12_ends : Int32) (v12_fault : Int32) (v12_opened : Int32) (v12_bodies : Int32) (v12_ran : Int32) (v12_ownKind : Int32) (v12_ownNumber : Int32) (f12_tape : Nat → Int32) (f12_text : Nat → Int32) (f12_names : Nat → Int32) (sz : Nat) (i1 : Rg 0 40 v12_keptMany) (i2 : Rg 0 40 v12_done) (i3 : Rg 0 8 v12_sheets) (i4 : Rg 0 40 v12_holes) (i5 : Rg 0 40 v12_worms) (i6 : Rg 0 8 v12_laidMany) (i7 : Rg 0 8 v12_wanted) (i8 : Rg 0 20 v12_lines) (i9 : Rg 0 60 v12_marks) (i10 : Rg 0 40 v12_dots) (i11 : Rg 0 20 v12_places) (i12 : Rg 0 8 v12_maps) (i13 : Rg 0 120 v12_tapeMany) (i14 : Rg 0 6 v12_stories) (i15 : Rg 0 50 v12_bodies) (i16 : Rg 0 1000 v12_ran) (i17 : v12_done.toInt ≤ v12_keptMany.toInt) (i18 : 0 ≤ v12_at.toInt ∧ v12_at.toInt ≤ v12_ends.toInt ∧ v12_ends.toInt ≤ 120 ∧ v12_base.toInt ≤ 600) (i19 : 0 ≤ v12_opened.toInt ∧ v12_opened.toInt ≤ 6) (i20 : v12_ends.toInt = 0) (i21 : v12_fault.toInt ≤ 0) (i22 : 0 ≤ v12_fault.toInt ∨ 6 - v12_opened.toInt ≤ d) (i23 : v12_keptMany.toInt = 0) (i24 : v12_done.toInt = 0) (i25 : v12_sheets.toInt = 0) (i26 : v12_holes.toInt = 0) (i27 : v12_worms.toInt = 0) (i28 : v12_lines.toInt = 0) (i29 : v12_marks.toInt = 0) (i30 : v12_dots.toInt = 0) (i31 : v12_madeIn.toInt = 2001) (i32 : v12_places.toInt = 0) (i33 : v12_maps.toInt = 0) (i34 : v12_tapeMany.toInt = 0) (i35 : v12_stories.toInt = 0) (i36 : v12_bodies.toInt = 0), Met l yX12_sums wsX12_sums ({ frames := 6 * d + 4, cells := 0, slots := 0, locals := 137 * d + 107 } : Room) (PcK D κ β [O12 a12 r12 v12_keptMany v12_done v12_sheets v12_holes v12_worms v12_laidMany v12_wanted v12_orderMany v12_firstOrder v12_lines v12_marks v12_dots v12_madeIn v12_bound v12_places v12_maps v12_tapeMany v12_stories v12_base v12_at v12_ends v12_fault v12_opened v12_bodies v12_ran v12_ownKind v12_ownNumber, (cI κ (r12 41) 120 f12_tape), (cI κ (r12 45) 720 f12_text), (cI κ (r12 52) 8 f12_names)] sz [.ref a12]) (QiK D (fun (r : Int32) (u : Int32 × Int32 × Int32) => (v12_at.toInt ≤ u.1.toInt ∧ u.1.toInt ≤ v12_ends.toInt) ∧ (v12_opened.toInt ≤ u.2.2.toInt ∧ u.2.2.toInt ≤ 6 ∧ (0 ≤ u.2.1.toInt ∨ u.2.2.toInt = v12_opened.toInt)) ∧ (v12_fault.toInt < 0 ∨ 0 ≤ u.2.1.toInt) ∧ (u.2.1.toInt = 0)) (fun (u : Int32 × Int32 × Int32) => [O12 a12 r12 v12_keptMany v12_done v12_sheets v12_holes v12_worms v12_laidMany v12_wanted v12_orderMany v12_firstOrder v12_lines v12_marks v12_dots v12_madeIn v12_bound v12_places v12_maps v12_tapeMany v12_stories v12_base u.1 v12_ends u.2.1 u.2.2 v12_bodies v12_ran v12_ownKind v12_ownNumber, (cI κ (r12 41) 120 f12_tape), (cI κ (r12 45) 720 f12_text), (cI κ (r12 52) 8 f12_names)]) [O12 a12 r12 v12_keptMany v12_done v12_sheets v12_holes v12_worms v12_laidMany v12_wanted v12_orderMany v12_firstOrder v12_lines v12_marks v12_dots v12_madeIn v12_bound v12_places v12_maps v12_tapeMany v12_stories v12_base v12_at v12_ends v12_fault v12_opened v12_bodies v12_ran v12_ownKind v12_ownNumber, (cI κ (r12 41) 120 f12_tape), (cI κ (r12 45) 720 f12_text), (cI κ (r12 52) 8 f12_names)] sz) 0 0 (va_A [O12 a12 r12 v12_keptMany v12_done v12_sheets v12_holes v12_worms v12_laidMany v12_wanted v12_orderMany v12_firstOrder v12_lines v12_marks v12_dots v12_madeIn v12_bound v12_places v12_maps v12_tapeMany v12_stories v12_base v12_at v12_ends v12_fault v12_opened v12_bodies v12_ran v12_ownKind v12_ownNumber, (cI κ (r12 41) 120 f12_tape), (cI κ (r12 45) 720 f12_text), (cI κ (r12 52) 8 f12_names)] sz)
def C_X12_compared (l : Launch) (D : va_G) (κ : Nat → ClassId) (β d : Nat) : Prop := ∀ (a12 : Nat) (r12 : Nat → Nat) (v12_keptMany : Int32) (v12_done : Int32) (v12_sheets : Int32) (v12_holes : Int32) (v12_worms : Int32) (v12_laidMany : Int32) (v12_wanted : Int32) (v12_orderMany : Int32) (v12_firstOrder : Int32) (v12_lines : Int32) (v12_marks : Int32) (v12_dots : Int32) (v12_madeIn : Int32) (v12_bound : Int32) (v12_places : Int32) (v12_maps : Int32) (v12_tapeMany : Int32) (v12_stories : Int32) (v12_base : Int32) (v12_at : Int32) (v12_ends : Int32) (v12_fault : Int32) (v12_opened : Int32) (v12_bodies : Int32) (v12_ran : Int32) (v12_ownKind : Int32) (v12_ownNumber : Int32) (f12_tape : Nat → Int32) (f12_text : Nat → Int32) (f12_names : Nat → Int32) (sz : Nat) (i1 : Rg 0 40 v12_keptMany) (i2 : Rg 0 40 v12_done) (i3 : Rg 0 8 v12_sheets) (i4 : Rg 0 40 v12_holes) (i5 : Rg 0 40 v12_worms) (i6 : Rg 0 8 v12_laidMany) (i7 : Rg 0 8 v12_wanted) (i8 : Rg 0 20 v12_lines) (i9 : Rg 0 60 v12_marks) (i10 : Rg 0 40 v12_dots) (i11 : Rg 0 20 v12_places) (i12 : Rg 0 8 v12_maps) (i13 : Rg 0 120 v12_tapeMany) (i14 : Rg 0 6 v12_stories) (i15 : Rg 0 50 v12_bodies) (i16 : Rg 0 1000 v12_ran) (i17 : v12_done.toInt ≤ v12_keptMany.toInt) (i18 : 0 ≤ v12_at.toInt ∧ v12_at.toInt ≤ v12_ends.toInt ∧ v12_ends.toInt ≤ 120 ∧ v12_base.toInt ≤ 600) (i19 : 0 ≤ v12_opened.toInt ∧ v12_opened.toInt ≤ 6) (i20 : v12_ends.toInt = 0) (i21 : v12_fault.toInt ≤ 0) (i22 : 0 ≤ v12_fault.toInt ∨ 6 - v12_opened.toInt ≤ d) (i23 : v12_keptMany.toInt = 0) (i24 : v12_done.toInt = 0) (i25 : v12_sheets.toInt = 0) (i26 : v12_holes.toInt = 0) (i27 : v12_worms.toInt = 0) (i28 : v12_lines.toInt = 0) (i29 : v12_marks.toInt = 0) (i30 : v12_dots.toInt = 0) (i31 : v12_madeIn.toInt = 2001) (i32 : v12_places.toInt = 0) (i33 : v12_maps.toInt = 0) (i34 : v12_tapeMany.toInt = 0) (i35 : v12_stories.toInt = 0) (i36 : v12_bodies.toInt = 0), Met l yX12_compared wsX12_compared ({ frames := 6 * d + 5, cells := 0, slots := 0, locals := 137 * d + 130 } : Room) (PcK D κ β [O12 a12 r12 v12_keptMany v12_done v12_sheets v12_holes v12_worms v12_laidMany v12_wanted v12_orderMany v12_firstOrder v12_lines v12_marks v12_dots v12_madeIn v12_bound v12_places v12_maps v12_tapeMany v12_stories v12_base v12_at v12_ends v12_fault v12_opened v12_bodies v12_ran v12_ownKind v12_ownNumber, (cI κ (r12 41) 120 f12_tape), (cI κ (r12 45) 720 f12_text), (cI κ (r12 52) 8 f12_names)] sz [.ref a12]) (QiK D (fun (r : Int32) (u : Int32 × Int32 × Int32) => (v12_at.toInt ≤ u.1.toInt ∧ u.1.toInt ≤ v12_ends.toInt) ∧ (v12_opened.toInt ≤ u.2.2.toInt ∧ u.2.2.toInt ≤ 6 ∧ (0 ≤ u.2.1.toInt ∨ u.2.2.toInt = v12_opened.toInt)) ∧ (v12_fault.toInt < 0 ∨ 0 ≤ u.2.1.toInt) ∧ (u.2.1.toInt = 0)) (fun (u : Int32 × Int32 × Int32) => [O12 a12 r12 v12_keptMany v12_done v12_sheets v12_holes v12_worms v12_laidMany v12_wanted v12_orderMany v12_firstOrder v12_lines v12_marks v12_dots v12_madeIn v12_bound v12_places v12_maps v12_tapeMany v12_stories v12_base u.1 v12_ends u.2.1 u.2.2 v12_bodies v12_ran v12_ownKind v12_ownNumber, (cI κ (r12 41) 120 f12_tape), (cI κ (r12 45) 720 f12_text), (cI κ (r12 52) 8 f12_names)]) [O12 a12 r12 v12_keptMany v12_done v12_sheets v12_holes v12_worms v12_laidMany v12_wanted v12_orderMany v12_firstOrder v12_lines v12_marks v12_dots v12_madeIn v12_bound v12_places v12_maps v12_tapeMany v12_stories v12_base v12_at v12_ends v12_fault v12_opened v12_bodies v12_ran v12_ownKind v12_ownNumber, (cI κ (r12 41) 120 f12_tape), (cI κ (r12 45) 720 f12_text), (cI κ (r12 52) 8 f12_names)] sz) 0 0 (va_A [O12 a12 r12 v12_keptMany v12_done v12_sheets v12_holes v12_worms v12_laidMany v12_wanted v12_orderMany v12_firstOrder v12_lines v12_marks v12_dots v12_madeIn v12_bound v12_places v12_maps v12_tapeMany v12_stories v12_base v12_at v12_ends v12_fault v12_opened v12_bodies v12_ran v12_ownKind v12_ownNumber, (cI κ (r12 41) 120 f12_tape), (cI κ (r12 45) 720 f12_text), (cI κ (r12 52) 8 f12_names)] sz)
def C_X12_both (l : Launch) (D : va_G) (κ : Nat → ClassId) (β d : Nat) : Prop := ∀ (a12 : Nat) (r12 : Nat → Nat) (v12_keptMany : Int32) (v12_done : Int32) (v12_sheets : Int32) (v12_holes : Int32) (v12_worms : Int32) (v12_laidMany : Int32) (v12_wanted : Int32) (v12_orderMany : Int32) (v12_firstOrder : Int32) (v12_lines : Int32) (v12_marks : Int32) (v12_dots : Int32) (v12_madeIn : Int32) (v12_bound : Int32) (v12_places : Int32) (v12_maps : Int32) (v12_tapeMany : Int32) (v12_stories : Int32) (v12_base : Int32) (v12_at : Int32) (v12_ends : Int32) (v12_fault : Int32) (v12_opened : Int32) (v12_bodies : Int32) (v12_ran : Int32) (v12_ownKind : Int32) (v12_ownNumber : Int32) (f12_tape : Nat → Int32) (f12_text : Nat → Int32) (f12_names : Nat → Int32) (sz : Nat) (i1 : Rg 0 40 v12_keptMany) (i2 : Rg 0 40 v12_done) (i3 : Rg 0 8 v12_sheets) (i4 : Rg 0 40 v12_holes) (i5 : Rg 0 40 v12_worms) (i6 : Rg 0 8 v12_laidMany) (i7 : Rg 0 8 v12_wanted) (i8 : Rg 0 20 v12_lines) (i9 : Rg 0 60 v12_marks) (i10 : Rg 0 40 v12_dots) (i11 : Rg 0 20 v12_places) (i12 : Rg 0 8 v12_maps) (i13 : Rg 0 120 v12_tapeMany) (i14 : Rg 0 6 v12_stories) (i15 : Rg 0 50 v12_bodies) (i16 : Rg 0 1000 v12_ran) (i17 : v12_done.toInt ≤ v12_keptMany.toInt) (i18 : 0 ≤ v12_at.toInt ∧ v12_at.toInt ≤ v12_ends.toInt ∧ v12_ends.toInt ≤ 120 ∧ v12_base.toInt ≤ 600) (i19 : 0 ≤ v12_opened.toInt ∧ v12_opened.toInt ≤ 6) (i20 : v12_ends.toInt = 0) (i21 : v12_fault.toInt ≤ 0) (i22 : 0 ≤ v12_fault.toInt ∨ 6 - v12_opened.toInt ≤ d) (i23 : v12_keptMany.toInt = 0) (i24 : v12_done.toInt = 0) (i25 : v12_sheets.toInt = 0) (i26 : v12_holes.toInt = 0) (i27 : v12_worms.toInt = 0) (i28 : v12_lines.toInt = 0) (i29 : v12_marks.toInt = 0) (i30 : v12_dots.toInt = 0) (i31 : v12_madeIn.toInt = 2001) (i32 : v12_places.toInt = 0) (i33 : v12_maps.toInt = 0) (i34 : v12_tapeMany.toInt = 0) (i35 : v12_stories.toInt = 0) (i36 : v12_bodies.toInt = 0), Met l yX12_both wsX12_both ({ frames := 6 * d + 6, cells := 0, slots := 0, locals := 137 * d + 153 } : Room) (PcK D κ β [O12 a12 r12 v12_keptMany v12_done v12_sheets v12_holes v12_worms v12_laidMany v12_wanted v12_orderMany v12_firstOrder v12_lines v12_marks v12_dots v12_madeIn v12_bound v12_places v12_maps v12_tapeMany v12_stories v12_base v12_at v12_ends v12_fault v12_opened v12_bodies v12_ran v12_ownKind v12_ownNumber, (cI κ (r12 41) 120 f12_tape), (cI κ (r12 45) 720 f12_text), (cI κ (r12 52) 8 f12_names)] sz [.ref a12]) (QiK D (fun (r : Int32) (u : Int32 × Int32 × Int32) => (v12_at.toInt ≤ u.1.toInt ∧ u.1.toInt ≤ v12_ends.toInt) ∧ (v12_opened.toInt ≤ u.2.2.toInt ∧ u.2.2.toInt ≤ 6 ∧ (0 ≤ u.2.1.toInt ∨ u.2.2.toInt = v12_opened.toInt)) ∧ (v12_fault.toInt < 0 ∨ 0 ≤ u.2.1.toInt) ∧ (u.2.1.toInt = 0)) (fun (u : Int32 × Int32 × Int32) => [O12 a12 r12 v12_keptMany v12_done v12_sheets v12_holes v12_worms v12_laidMany v12_wanted v12_orderMany v12_firstOrder v12_lines v12_marks v12_dots v12_madeIn v12_bound v12_places v12_maps v12_tapeMany v12_stories v12_base u.1 v12_ends u.2.1 u.2.2 v12_bodies v12_ran v12_ownKind v12_ownNumber, (cI κ (r12 41) 120 f12_tape), (cI κ (r12 45) 720 f12_text), (cI κ (r12 52) 8 f12_names)]) [O12 a12 r12 v12_keptMany v12_done v12_sheets v12_holes v12_worms v12_laidMany v12_wanted v12_orderMany v12_firstOrder v12_lines v12_marks v12_dots v12_madeIn v12_bound v12_places v12_maps v12_tapeMany v12_stories v12_base v12_at v12_ends v12_fault v12_opened v12_bodies v12_ran v12_ownKind v12_ownNumber, (cI κ (r12 41) 120 f12_tape), (cI κ (r12 45) 720 f12_text), (cI κ (r12 52) 8 f12_names)] sz) 0 0 (va_A [O12 a12 r12 v12_keptMany v12_done v12_sheets v12_holes v12_worms v12_laidMany v12_wanted v12_orderMany v12_firstOrder v12_lines v12_marks v12_dots v12_madeIn v12_bound v12_places v12_maps v12_tapeMany v12_stories v12_base v12_at v12_ends v12_fault v12_opened v12_bodies v12_ran v12_ownKind v12_ownNumber, (cI κ (r12 41) 120 f12_tape), (cI κ (r12 45) 720 f12_text), (cI κ (r12 52) 8 f12_names)] sz)
def C_X12_either (l : Launch) (D : va_G) (κ : Nat → ClassId) (β d : Nat) : Prop := ∀ (a12 : Nat) (r12 : Nat → Nat) (v12_keptMany : Int32) (v12_done : Int32) (v12_sheets : Int32) (v12_holes : Int32) (v12_worms : Int32) (v12_laidMany : Int32) (v12_wanted : Int32) (v12_orderMany : Int32) (v12_firstOrder : Int32) (v12_lines : Int32) (v12_marks : Int32) (v12_dots : Int32) (v12_madeIn : Int32) (v12_bound : Int32) (v12_places : Int32) (v12_maps : Int32) (v12_tapeMany : Int32) (v12_stories : Int32) (v12_base : Int32) (v12_at : Int32) (v12_ends : Int32) (v12_fault : Int32) (v12_opened : Int32) (v12_bodies : Int32) (v12_ran : Int32) (v12_ownKind : Int32) (v12_ownNumber : Int32) (f12_tape : Nat → Int32) (f12_text : Nat → Int32) (f12_names : Nat → Int32) (sz : Nat) (i1 : Rg 0 40 v12_keptMany) (i2 : Rg 0 40 v12_done) (i3 : Rg 0 8 v12_sheets) (i4 : Rg 0 40 v12_holes) (i5 : Rg 0 40 v12_worms) (i6 : Rg 0 8 v12_laidMany) (i7 : Rg 0 8 v12_wanted) (i8 : Rg 0 20 v12_lines) (i9 : Rg 0 60 v12_marks) (i10 : Rg 0 40 v12_dots) (i11 : Rg 0 20 v12_places) (i12 : Rg 0 8 v12_maps) (i13 : Rg 0 120 v12_tapeMany) (i14 : Rg 0 6 v12_stories) (i15 : Rg 0 50 v12_bodies) (i16 : Rg 0 1000 v12_ran) (i17 : v12_done.toInt ≤ v12_keptMany.toInt) (i18 : 0 ≤ v12_at.toInt ∧ v12_at.toInt ≤ v12_ends.toInt ∧ v12_ends.toInt ≤ 120 ∧ v12_base.toInt ≤ 600) (i19 : 0 ≤ v12_opened.toInt ∧ v12_opened.toInt ≤ 6) (i20 : v12_ends.toInt = 0) (i21 : v12_fault.toInt ≤ 0) (i22 : 0 ≤ v12_fault.toInt ∨ 6 - v12_opened.toInt ≤ d) (i23 : v12_keptMany.toInt = 0) (i24 : v12_done.toInt = 0) (i25 : v12_sheets.toInt = 0) (i26 : v12_holes.toInt = 0) (i27 : v12_worms.toInt = 0) (i28 : v12_lines.toInt = 0) (i29 : v12_marks.toInt = 0) (i30 : v12_dots.toInt = 0) (i31 : v12_madeIn.toInt = 2001) (i32 : v12_places.toInt = 0) (i33 : v12_maps.toInt = 0) (i34 : v12_tapeMany.toInt = 0) (i35 : v12_stories.toInt = 0) (i36 : v12_bodies.toInt = 0), Met l yX12_either wsX12_either ({ frames := 6 * d + 7, cells := 0, slots := 0, locals := 137 * d + 175 } : Room) (PcK D κ β [O12 a12 r12 v12_keptMany v12_done v12_sheets v12_holes v12_worms v12_laidMany v12_wanted v12_orderMany v12_firstOrder v12_lines v12_marks v12_dots v12_madeIn v12_bound v12_places v12_maps v12_tapeMany v12_stories v12_base v12_at v12_ends v12_fault v12_opened v12_bodies v12_ran v12_ownKind v12_ownNumber, (cI κ (r12 41) 120 f12_tape), (cI κ (r12 45) 720 f12_text), (cI κ (r12 52) 8 f12_names)] sz [.ref a12]) (QiK D (fun (r : Int32) (u : Int32 × Int32 × Int32) => (v12_at.toInt ≤ u.1.toInt ∧ u.1.toInt ≤ v12_ends.toInt) ∧ (v12_opened.toInt ≤ u.2.2.toInt ∧ u.2.2.toInt ≤ 6 ∧ (0 ≤ u.2.1.toInt ∨ u.2.2.toInt = v12_opened.toInt)) ∧ (v12_fault.toInt < 0 ∨ 0 ≤ u.2.1.toInt) ∧ (u.2.1.toInt = 0)) (fun (u : Int32 × Int32 × Int32) => [O12 a12 r12 v12_keptMany v12_done v12_sheets v12_holes v12_worms v12_laidMany v12_wanted v12_orderMany v12_firstOrder v12_lines v12_marks v12_dots v12_madeIn v12_bound v12_places v12_maps v12_tapeMany v12_stories v12_base u.1 v12_ends u.2.1 u.2.2 v12_bodies v12_ran v12_ownKind v12_ownNumber, (cI κ (r12 41) 120 f12_tape), (cI κ (r12 45) 720 f12_text), (cI κ (r12 52) 8 f12_names)]) [O12 a12 r12 v12_keptMany v12_done v12_sheets v12_holes v12_worms v12_laidMany v12_wanted v12_orderMany v12_firstOrder v12_lines v12_marks v12_dots v12_madeIn v12_bound v12_places v12_maps v12_tapeMany v12_stories v12_base v12_at v12_ends v12_fault v12_opened v12_bodies v12_ran v12_ownKind v12_ownNumber, (cI κ (r12 41) 120 f12_tape), (cI κ (r12 45) 720 f12_text), (cI κ (r12 52) 8 f12_names)] sz) 0 0 (va_A [O12 a12 r12 v12_keptMany v12_done v12_sheets v12_holes v12_worms v12_laidMany v12_wanted v12_orderMany v12_firstOrder v12_lines v12_marks v12_dots v12_madeIn v12_bound v12_places v12_maps v12_tapeMany v12_stories v12_base v12_at v12_ends v12_fault v12_opened v12_bodies v12_ran v12_ownKind v12_ownNumber, (cI κ (r12 41) 120 f12_tape), (cI κ (r12 45) 720 f12_text), (cI κ (r12 52) 8 f12_names)] sz)
set_option maxHeartbeats 4000000 in
set_option maxRecDepth 100000 in
theorem of_X12_product (l : Launch) (D : va_G) (κ : Nat → ClassId) (β d : Nat) (h_one : C_X12_one l D κ β d) : C_X12_product l D κ β d := by
  intro a12 r12 v12_keptMany v12_done v12_sheets v12_holes v12_worms v12_laidMany v12_wanted v12_orderMany v12_firstOrder v12_lines v12_marks v12_dots v12_madeIn v12_bound v12_places v12_maps v12_tapeMany v12_stories v12_base v12_at v12_ends v12_fault v12_opened v12_bodies v12_ran v12_ownKind v12_ownNumber f12_tape f12_text f12_names sz i1 i2 i3 i4 i5 i6 i7 i8 i9 i10 i11 i12 i13 i14 i15 i16 i17 i18 i19 i20 i21 i22 i23 i24 i25 i26 i27 i28 i29 i30 i31 i32 i33 i34 i35 i36
  refine ofK_i (cc := cX12_product) (maxL := 4) (own := RX12) (by decide) rfl rfl (Nat.le_of_ble_eq_true rfl) ?_
  intro p e s m args below meth c Q A ls hsz hx hb hml hts hown hK hA hAB hP hD hl ret
  have hS : va_S A s.heap s.heap [] := va_S.rf
  have hl : lv_has ls 4 [(0, .ref a12)] := hl
  have w0 := hts (.fieldLink RX12 306 "OlderSkinModel" "fault" "I") (List.mem_of_getElem? (i := 1) rfl)
  have w1 := (fun w h => List.mem_cons_of_mem _ (List.mem_append_right _ h) : ∀ w ∈ u_ws RX12 TX12 63, w ∈ wsX12_product)
  have w2 := hts (.fieldLink RX12 297 "OlderSkinModel" "at" "I") (List.mem_of_getElem? (i := 2) rfl)
  have l0 : (0 : Int32).toInt = 0 := by decide
  have l1 : (42 : Int32).toInt = 42 := by decide
  have l2 : (1 : Int32).toInt = 1 := by decide
  have l3 : (47 : Int32).toInt = 47 := by decide
  have l4 : (37 : Int32).toInt = 37 := by decide
  refine lv_aload_n hx hb dX12_product_0 rfl (lv_at hl 0 rfl) ?_
  refine kcm_i hA hAB hP hD hS [true, true, true, true] rfl (fun _ => rfl) (fun hPc hDc => va_runV (As := []) (rest := []) ⟨hx, hb, hml, hown, hts⟩ (h_one a12 r12 v12_keptMany v12_done v12_sheets v12_holes v12_worms v12_laidMany v12_wanted v12_orderMany v12_firstOrder v12_lines v12_marks v12_dots v12_madeIn v12_bound v12_places v12_maps v12_tapeMany v12_stories v12_base v12_at v12_ends v12_fault v12_opened v12_bodies v12_ran v12_ownKind v12_ownNumber f12_tape f12_text f12_names s.heap.size i1 i2 i3 i4 i5 i6 i7 i8 i9 i10 i11 i12 i13 i14 i15 i16 i17 (by omega) (by omega) (by omega) (by omega) (by omega) (by omega) (by omega) (by omega) (by omega) (by omega) (by omega) (by omega) (by omega) (by omega) (by omega) (by omega) (by omega) (by omega) (by omega)) (cwV 0 hts gX12_product_X12_one rfl rfl rfl (by decide +kernel) ⟨by dsimp only; omega, by dsimp only; omega⟩) (pk_V hK hS hAB hPc hDc 0 (ci := 12) rfl rfl rfl) rfl rfl hl.1 rfl (lv_room (Nat.le_of_ble_eq_true rfl)) dX12_product_1 ⟨Nat.le_of_ble_eq_true rfl, Nat.le_of_ble_eq_true rfl⟩) (fun x4 u5 H locs hw hPD hS => ?_)
  obtain ⟨x1, x2, x3⟩ := u5
  obtain ⟨h6, h7, h8, h9⟩ : (v12_at.toInt ≤ x1.toInt ∧ x1.toInt ≤ v12_ends.toInt) ∧ (v12_opened.toInt ≤ x3.toInt ∧ x3.toInt ≤ 6 ∧ (0 ≤ x2.toInt ∨ x3.toInt = v12_opened.toInt)) ∧ (v12_fault.toInt < 0 ∨ 0 ≤ x2.toInt) ∧ (x2.toInt = 0) := hw
  obtain ⟨hP, hD⟩ : PD D A [O12 a12 r12 v12_keptMany v12_done v12_sheets v12_holes v12_worms v12_laidMany v12_wanted v12_orderMany v12_firstOrder v12_lines v12_marks v12_dots v12_madeIn v12_bound v12_places v12_maps v12_tapeMany v12_stories v12_base x1 v12_ends x2 x3 v12_bodies v12_ran v12_ownKind v12_ownNumber, (cI κ (r12 41) 120 f12_tape), (cI κ (r12 45) 720 f12_text), (cI κ (r12 52) 8 f12_names)] H := hPD
  refine lv_istore_n (lv' := [(1, .int x4), (0, .ref a12)]) hx hb dX12_product_4 rfl hl (by decide) rfl (fun ls hl => ?_)
  refine lv_aload_n hx hb dX12_product_5 rfl (lv_at hl 1 rfl) ?_
  refine kcm_i hA hAB hP hD hS [true, true, true, false] rfl (fun _ => rfl) (fun hPc hDc => va_runV (As := []) (rest := []) ⟨hx, hb, hml, hown, hts⟩ (k_X12_byteAt l D κ β a12 r12 v12_keptMany v12_done v12_sheets v12_holes v12_worms v12_laidMany v12_wanted v12_orderMany v12_firstOrder v12_lines v12_marks v12_dots v12_madeIn v12_bound v12_places v12_maps v12_tapeMany v12_stories v12_base x1 v12_ends x2 x3 v12_bodies v12_ran v12_ownKind v12_ownNumber f12_tape f12_text H.size i1 i2 i3 i4 i5 i6 i7 i8 i9 i10 i11 i12 i13 i14 i15 i16 i17 (by omega) (by omega) (by omega) (by omega) (by omega) (by omega) (by omega) (by omega) (by omega) (by omega) (by omega) (by omega) (by omega) (by omega) (by omega)) (cwV 0 hts gX12_product_X12_byteAt rfl rfl rfl (by decide +kernel) ⟨by dsimp only; omega, by dsimp only; omega⟩) (pk_V hK hS hAB hPc hDc 0 (ci := 12) rfl rfl rfl) rfl rfl hl.1 rfl (lv_room (Nat.le_of_ble_eq_true rfl)) dX12_product_6 ⟨Nat.le_of_ble_eq_true rfl, Nat.le_of_ble_eq_true rfl⟩) (fun x10 u11 H locs hw hPD hS => ?_)
  have h12 : x10.toInt = 0 ∨ x1.toInt < v12_ends.toInt := hw
  obtain ⟨hP, hD⟩ : PD D A [O12 a12 r12 v12_keptMany v12_done v12_sheets v12_holes v12_worms v12_laidMany v12_wanted v12_orderMany v12_firstOrder v12_lines v12_marks v12_dots v12_madeIn v12_bound v12_places v12_maps v12_tapeMany v12_stories v12_base x1 v12_ends x2 x3 v12_bodies v12_ran v12_ownKind v12_ownNumber, (cI κ (r12 41) 120 f12_tape), (cI κ (r12 45) 720 f12_text), (cI κ (r12 52) 8 f12_names)] H := hPD
  refine lv_istore_n (lv' := [(2, .int x10), (1, .int x4), (0, .ref a12)]) hx hb dX12_product_9 rfl hl (by decide) rfl (fun ls hl => ?_)
  have lp10 : ∀ (n10 : Nat) (k13 : Int32) (k14 : Int32) (v15 : Int32) (v16 : Int32) (v17 : Int32), (v12_at.toInt ≤ v15.toInt ∧ v15.toInt ≤ v12_ends.toInt) → (v12_opened.toInt ≤ v17.toInt ∧ v17.toInt ≤ 6 ∧ (0 ≤ v16.toInt ∨ v17.toInt = v12_opened.toInt)) → (v12_fault.toInt < 0 ∨ 0 ≤ v16.toInt) → (v16.toInt = 0) → (k13.toInt = 0 ∨ v15.toInt < v12_ends.toInt) → (v12_ends.toInt - v15.toInt).toNat < n10 → ∀ (H : Heap) (locs : List Loc), va_P D vwCl [O12 a12 r12 v12_keptMany v12_done v12_sheets v12_holes v12_worms v12_laidMany v12_wanted v12_orderMany v12_firstOrder v12_lines v12_marks v12_dots v12_madeIn v12_bound v12_places v12_maps v12_tapeMany v12_stories v12_base v15 v12_ends v16 v17 v12_bodies v12_ran v12_ownKind v12_ownNumber, (cI κ (r12 41) 120 f12_tape), (cI κ (r12 45) 720 f12_text), (cI κ (r12 52) 8 f12_names)] H → va_D A [O12 a12 r12 v12_keptMany v12_done v12_sheets v12_holes v12_worms v12_laidMany v12_wanted v12_orderMany v12_firstOrder v12_lines v12_marks v12_dots v12_madeIn v12_bound v12_places v12_maps v12_tapeMany v12_stories v12_base v15 v12_ends v16 v17 v12_bodies v12_ran v12_ownKind v12_ownNumber, (cI κ (r12 41) 120 f12_tape), (cI κ (r12 45) 720 f12_text), (cI κ (r12 52) 8 f12_names)] → va_S A s.heap H locs → ∀ ls : Array Slot, lv_has ls 4 [(2, .int k13), (1, .int k14), (0, .ref a12)] → W p l e ({ frames := 6 * d + 3, cells := 0, slots := 0, locals := 137 * d + 84 } : Room) s m args below meth c H locs 0 0 Q (F0 m 10 ls []) := by
    intro n10
    induction n10 with
    | zero =>
      intro k13 k14 v15 v16 v17 h18 h19 h20 h21 h22 m23
      exact absurd m23 (Nat.not_lt_zero _)
    | succ n10 ih10 =>
      intro k13 k14 v15 v16 v17 h18 h19 h20 h21 h22 m23 H locs hP hD hS ls hl
      refine lv_aload_n hx hb dX12_product_10 rfl (lv_at hl 2 rfl) ?_
      refine va_get (D := D) (ci := 12) (v := .int v16) (C := RX12) (T := TX12) (N := 63) hx hb hts w1 hown hK.1 hP 0 rfl rfl 50 (by decide) w0 (fun _ h9 => h9) rfl dX12_product_11 ?_
      refine lv_if_ge (tgt := 94) hx hb dX12_product_14 (by decide) (fun c24 => ?_) (fun c24 => ?_)
      · have c24 := ci_le c24
        refine lv_iload_n hx hb dX12_product_94 rfl (lv_at hl 1 rfl) ?_
        have hpo : (v12_at.toInt ≤ v15.toInt ∧ v15.toInt ≤ v12_ends.toInt) ∧ (v12_opened.toInt ≤ v17.toInt ∧ v17.toInt ≤ 6 ∧ (0 ≤ v16.toInt ∨ v17.toInt = v12_opened.toInt)) ∧ (v12_fault.toInt < 0 ∨ 0 ≤ v16.toInt) ∧ (v16.toInt = 0) := ⟨(by omega), (by omega), (by omega), (by omega)⟩
        exact ret _ _ _ _ k14 (v15, v16, v17) dX12_product_95 hpo hP hD hS
      have c24 := ci_nle c24
      refine lv_iload_n hx hb dX12_product_17 rfl (lv_at hl 0 rfl) ?_
      refine lv_bipush (v := 42) hx hb dX12_product_18 (by decide) ?_
      refine lv_icmp_eq (tgt := 35) hx hb dX12_product_20 (by decide) (fun c25 => ?_) (fun c25 => ?_)
      · have c25 := ci_eq c25
        refine lv_aload_n hx hb dX12_product_35 rfl (lv_at hl 2 rfl) ?_
        refine lv_dup hx hb dX12_product_36 rfl ?_
        refine va_get (D := D) (ci := 12) (v := .int v15) (C := RX12) (T := TX12) (N := 63) hx hb hts w1 hown hK.1 hP 0 rfl rfl 48 (by decide) w2 (fun _ h9 => h9) rfl dX12_product_37 ?_
        refine lv_iconst (v := 1) hx hb dX12_product_40 (by decide) ?_
        refine lv_iadd hx hb dX12_product_41 ?_
        refine lv_topi (fun x26 e27 => ?_)
        try have h28 : x26.toInt = v15.toInt + (1 : Int32).toInt := ci_add e27 (by omega) (by omega)
        refine va_put (D := D) (ci := 12) (v := .int x26) (ty := .int) (C := RX12) (T := TX12) (N := 63) hx hb hts w1 tyX12 tyX12_ok nmX12 hown hK.1 hP hD hS 0 rfl rfl 48 (by decide) w2 (fun _ h9 => h9) rfl (by decide +kernel) rfl rfl (Nat.le_of_ble_eq_true rfl) dX12_product_42 (fun H locs hP hD hS => ?_)
        obtain ⟨hP, hD⟩ : PD D A [O12 a12 r12 v12_keptMany v12_done v12_sheets v12_holes v12_worms v12_laidMany v12_wanted v12_orderMany v12_firstOrder v12_lines v12_marks v12_dots v12_madeIn v12_bound v12_places v12_maps v12_tapeMany v12_stories v12_base x26 v12_ends v16 v17 v12_bodies v12_ran v12_ownKind v12_ownNumber, (cI κ (r12 41) 120 f12_tape), (cI κ (r12 45) 720 f12_text), (cI κ (r12 52) 8 f12_names)] H := ⟨hP, hD⟩
        refine lv_aload_n hx hb dX12_product_45 rfl (lv_at hl 2 rfl) ?_
        refine kcm_i hA hAB hP hD hS [true, true, true, true] rfl (fun _ => rfl) (fun hPc hDc => va_runV (As := []) (rest := []) ⟨hx, hb, hml, hown, hts⟩ (h_one a12 r12 v12_keptMany v12_done v12_sheets v12_holes v12_worms v12_laidMany v12_wanted v12_orderMany v12_firstOrder v12_lines v12_marks v12_dots v12_madeIn v12_bound v12_places v12_maps v12_tapeMany v12_stories v12_base x26 v12_ends v16 v17 v12_bodies v12_ran v12_ownKind v12_ownNumber f12_tape f12_text f12_names H.size i1 i2 i3 i4 i5 i6 i7 i8 i9 i10 i11 i12 i13 i14 i15 i16 i17 (by omega) (by omega) (by omega) (by omega) (by omega) (by omega) (by omega) (by omega) (by omega) (by omega) (by omega) (by omega) (by omega) (by omega) (by omega) (by omega) (by omega) (by omega) (by omega)) (cwV 0 hts gX12_product_X12_one rfl rfl rfl (by decide +kernel) ⟨by dsimp only; omega, by dsimp only; omega⟩) (pk_V hK hS hAB hPc hDc 0 (ci := 12) rfl rfl rfl) rfl rfl hl.1 rfl (lv_room (Nat.le_of_ble_eq_true rfl)) dX12_product_46 ⟨Nat.le_of_ble_eq_true rfl, Nat.le_of_ble_eq_true rfl⟩) (fun x32 u33 H locs hw hPD hS => ?_)
        obtain ⟨x29, x30, x31⟩ := u33
        obtain ⟨h34, h35, h36, h37⟩ : (x26.toInt ≤ x29.toInt ∧ x29.toInt ≤ v12_ends.toInt) ∧ (v17.toInt ≤ x31.toInt ∧ x31.toInt ≤ 6 ∧ (0 ≤ x30.toInt ∨ x31.toInt = v17.toInt)) ∧ (v16.toInt < 0 ∨ 0 ≤ x30.toInt) ∧ (x30.toInt = 0) := hw
        obtain ⟨hP, hD⟩ : PD D A [O12 a12 r12 v12_keptMany v12_done v12_sheets v12_holes v12_worms v12_laidMany v12_wanted v12_orderMany v12_firstOrder v12_lines v12_marks v12_dots v12_madeIn v12_bound v12_places v12_maps v12_tapeMany v12_stories v12_base x29 v12_ends x30 x31 v12_bodies v12_ran v12_ownKind v12_ownNumber, (cI κ (r12 41) 120 f12_tape), (cI κ (r12 45) 720 f12_text), (cI κ (r12 52) 8 f12_names)] H := hPD
        refine lv_istore_n (lv' := [(3, .int x32), (2, .int k13), (1, .int k14), (0, .ref a12)]) hx hb dX12_product_49 rfl hl (by decide) rfl (fun ls hl => ?_)
        refine lv_iload_n hx hb dX12_product_50 rfl (lv_at hl 1 rfl) ?_
        refine lv_bipush (v := 42) hx hb dX12_product_51 (by decide) ?_
        refine lv_icmp_ne (tgt := 62) hx hb dX12_product_53 (by decide) (fun c38 => ?_) (fun c38 => ?_)
        · have c38 := ci_ne c38
          refine lv_iload_n hx hb dX12_product_62 rfl (lv_at hl 0 rfl) ?_
          refine lv_if_ne (tgt := 70) hx hb dX12_product_63 (by decide) (fun c39 => ?_) (fun c39 => ?_)
          · have c39 := ci_ne c39
            refine lv_iload_n hx hb dX12_product_70 rfl (lv_at hl 1 rfl) ?_
            refine lv_bipush (v := 47) hx hb dX12_product_71 (by decide) ?_
            refine lv_icmp_ne (tgt := 82) hx hb dX12_product_73 (by decide) (fun c40 => ?_) (fun c40 => ?_)
            · have c40 := ci_ne c40
              refine lv_iload_n hx hb dX12_product_82 rfl (lv_at hl 2 rfl) ?_
              refine lv_iload_n hx hb dX12_product_83 rfl (lv_at hl 0 rfl) ?_
              refine lv_irem hx hb dX12_product_84 (fun q41 => by have q41 := ci_eq q41; omega) ?_
              refine lv_topi (fun x42 e43 => ?_)
              try have h44 := ci_remV (by omega) (by omega) e43
              refine lv_istore_n (lv' := [(1, .int x42), (3, .int x32), (2, .int k13), (0, .ref a12)]) hx hb dX12_product_85 rfl hl (by decide) rfl (fun ls hl => ?_)
              refine lv_aload_n hx hb dX12_product_86 rfl (lv_at hl 3 rfl) ?_
              refine kcm_i hA hAB hP hD hS [true, true, true, false] rfl (fun _ => rfl) (fun hPc hDc => va_runV (As := []) (rest := []) ⟨hx, hb, hml, hown, hts⟩ (k_X12_byteAt l D κ β a12 r12 v12_keptMany v12_done v12_sheets v12_holes v12_worms v12_laidMany v12_wanted v12_orderMany v12_firstOrder v12_lines v12_marks v12_dots v12_madeIn v12_bound v12_places v12_maps v12_tapeMany v12_stories v12_base x29 v12_ends x30 x31 v12_bodies v12_ran v12_ownKind v12_ownNumber f12_tape f12_text H.size i1 i2 i3 i4 i5 i6 i7 i8 i9 i10 i11 i12 i13 i14 i15 i16 i17 (by omega) (by omega) (by omega) (by omega) (by omega) (by omega) (by omega) (by omega) (by omega) (by omega) (by omega) (by omega) (by omega) (by omega) (by omega)) (cwV 0 hts gX12_product_X12_byteAt rfl rfl rfl (by decide +kernel) ⟨by dsimp only; omega, by dsimp only; omega⟩) (pk_V hK hS hAB hPc hDc 0 (ci := 12) rfl rfl rfl) rfl rfl hl.1 rfl (lv_room (Nat.le_of_ble_eq_true rfl)) dX12_product_87 ⟨Nat.le_of_ble_eq_true rfl, Nat.le_of_ble_eq_true rfl⟩) (fun x45 u46 H locs hw hPD hS => ?_)
              have h47 : x45.toInt = 0 ∨ x29.toInt < v12_ends.toInt := hw
              obtain ⟨hP, hD⟩ : PD D A [O12 a12 r12 v12_keptMany v12_done v12_sheets v12_holes v12_worms v12_laidMany v12_wanted v12_orderMany v12_firstOrder v12_lines v12_marks v12_dots v12_madeIn v12_bound v12_places v12_maps v12_tapeMany v12_stories v12_base x29 v12_ends x30 x31 v12_bodies v12_ran v12_ownKind v12_ownNumber, (cI κ (r12 41) 120 f12_tape), (cI κ (r12 45) 720 f12_text), (cI κ (r12 52) 8 f12_names)] H := hPD
              refine lv_istore_n (lv' := [(2, .int x45), (1, .int x42), (3, .int x32), (0, .ref a12)]) hx hb dX12_product_90 rfl hl (by decide) rfl (fun ls hl => ?_)
              refine lv_goto (tgt := 10) hx hb dX12_product_91 (by decide) ?_
              exact ih10 x45 x42 x29 x30 x31 (by omega) (by omega) (by omega) (by omega) (by omega) (by omega) _ _ hP hD hS _ (lv_sub hl [0, 1, 3] rfl)
            have c40 := ci_eq c40
            refine lv_iload_n hx hb dX12_product_76 rfl (lv_at hl 2 rfl) ?_
            refine lv_iload_n hx hb dX12_product_77 rfl (lv_at hl 0 rfl) ?_
            refine lv_idiv hx hb dX12_product_78 (fun q48 => by have q48 := ci_eq q48; omega) ?_
            refine lv_topi (fun x49 e50 => ?_)
            refine lv_goto (tgt := 85) hx hb dX12_product_79 (by decide) ?_
            refine lv_istore_n (lv' := [(1, .int x49), (3, .int x32), (2, .int k13), (0, .ref a12)]) hx hb dX12_product_85 rfl hl (by decide) rfl (fun ls hl => ?_)
            refine lv_aload_n hx hb dX12_product_86 rfl (lv_at hl 3 rfl) ?_
            refine kcm_i hA hAB hP hD hS [true, true, true, false] rfl (fun _ => rfl) (fun hPc hDc => va_runV (As := []) (rest := []) ⟨hx, hb, hml, hown, hts⟩ (k_X12_byteAt l D κ β a12 r12 v12_keptMany v12_done v12_sheets v12_holes v12_worms v12_laidMany v12_wanted v12_orderMany v12_firstOrder v12_lines v12_marks v12_dots v12_madeIn v12_bound v12_places v12_maps v12_tapeMany v12_stories v12_base x29 v12_ends x30 x31 v12_bodies v12_ran v12_ownKind v12_ownNumber f12_tape f12_text H.size i1 i2 i3 i4 i5 i6 i7 i8 i9 i10 i11 i12 i13 i14 i15 i16 i17 (by omega) (by omega) (by omega) (by omega) (by omega) (by omega) (by omega) (by omega) (by omega) (by omega) (by omega) (by omega) (by omega) (by omega) (by omega)) (cwV 0 hts gX12_product_X12_byteAt rfl rfl rfl (by decide +kernel) ⟨by dsimp only; omega, by dsimp only; omega⟩) (pk_V hK hS hAB hPc hDc 0 (ci := 12) rfl rfl rfl) rfl rfl hl.1 rfl (lv_room (Nat.le_of_ble_eq_true rfl)) dX12_product_87 ⟨Nat.le_of_ble_eq_true rfl, Nat.le_of_ble_eq_true rfl⟩) (fun x51 u52 H locs hw hPD hS => ?_)
            have h53 : x51.toInt = 0 ∨ x29.toInt < v12_ends.toInt := hw
            obtain ⟨hP, hD⟩ : PD D A [O12 a12 r12 v12_keptMany v12_done v12_sheets v12_holes v12_worms v12_laidMany v12_wanted v12_orderMany v12_firstOrder v12_lines v12_marks v12_dots v12_madeIn v12_bound v12_places v12_maps v12_tapeMany v12_stories v12_base x29 v12_ends x30 x31 v12_bodies v12_ran v12_ownKind v12_ownNumber, (cI κ (r12 41) 120 f12_tape), (cI κ (r12 45) 720 f12_text), (cI κ (r12 52) 8 f12_names)] H := hPD
            refine lv_istore_n (lv' := [(2, .int x51), (1, .int x49), (3, .int x32), (0, .ref a12)]) hx hb dX12_product_90 rfl hl (by decide) rfl (fun ls hl => ?_)
            refine lv_goto (tgt := 10) hx hb dX12_product_91 (by decide) ?_
            exact ih10 x51 x49 x29 x30 x31 (by omega) (by omega) (by omega) (by omega) (by omega) (by omega) _ _ hP hD hS _ (lv_sub hl [0, 1, 3] rfl)
          have c39 := ci_eq c39
          refine lv_iconst (v := 0) hx hb dX12_product_66 (by decide) ?_
          refine lv_goto (tgt := 85) hx hb dX12_product_67 (by decide) ?_
          refine lv_istore_n (lv' := [(1, .int 0), (3, .int x32), (2, .int k13), (0, .ref a12)]) hx hb dX12_product_85 rfl hl (by decide) rfl (fun ls hl => ?_)
          refine lv_aload_n hx hb dX12_product_86 rfl (lv_at hl 3 rfl) ?_
          refine kcm_i hA hAB hP hD hS [true, true, true, false] rfl (fun _ => rfl) (fun hPc hDc => va_runV (As := []) (rest := []) ⟨hx, hb, hml, hown, hts⟩ (k_X12_byteAt l D κ β a12 r12 v12_keptMany v12_done v12_sheets v12_holes v12_worms v12_laidMany v12_wanted v12_orderMany v12_firstOrder v12_lines v12_marks v12_dots v12_madeIn v12_bound v12_places v12_maps v12_tapeMany v12_stories v12_base x29 v12_ends x30 x31 v12_bodies v12_ran v12_ownKind v12_ownNumber f12_tape f12_text H.size i1 i2 i3 i4 i5 i6 i7 i8 i9 i10 i11 i12 i13 i14 i15 i16 i17 (by omega) (by omega) (by omega) (by omega) (by omega) (by omega) (by omega) (by omega) (by omega) (by omega) (by omega) (by omega) (by omega) (by omega) (by omega)) (cwV 0 hts gX12_product_X12_byteAt rfl rfl rfl (by decide +kernel) ⟨by dsimp only; omega, by dsimp only; omega⟩) (pk_V hK hS hAB hPc hDc 0 (ci := 12) rfl rfl rfl) rfl rfl hl.1 rfl (lv_room (Nat.le_of_ble_eq_true rfl)) dX12_product_87 ⟨Nat.le_of_ble_eq_true rfl, Nat.le_of_ble_eq_true rfl⟩) (fun x54 u55 H locs hw hPD hS => ?_)
          have h56 : x54.toInt = 0 ∨ x29.toInt < v12_ends.toInt := hw
          obtain ⟨hP, hD⟩ : PD D A [O12 a12 r12 v12_keptMany v12_done v12_sheets v12_holes v12_worms v12_laidMany v12_wanted v12_orderMany v12_firstOrder v12_lines v12_marks v12_dots v12_madeIn v12_bound v12_places v12_maps v12_tapeMany v12_stories v12_base x29 v12_ends x30 x31 v12_bodies v12_ran v12_ownKind v12_ownNumber, (cI κ (r12 41) 120 f12_tape), (cI κ (r12 45) 720 f12_text), (cI κ (r12 52) 8 f12_names)] H := hPD
          refine lv_istore_n (lv' := [(2, .int x54), (1, .int 0), (3, .int x32), (0, .ref a12)]) hx hb dX12_product_90 rfl hl (by decide) rfl (fun ls hl => ?_)
          refine lv_goto (tgt := 10) hx hb dX12_product_91 (by decide) ?_
          exact ih10 x54 0 x29 x30 x31 (by omega) (by omega) (by omega) (by omega) (by omega) (by omega) _ _ hP hD hS _ (lv_sub hl [0, 1, 3] rfl)
        have c38 := ci_eq c38
        refine lv_iload_n hx hb dX12_product_56 rfl (lv_at hl 2 rfl) ?_
        refine lv_iload_n hx hb dX12_product_57 rfl (lv_at hl 0 rfl) ?_
        refine lv_imul hx hb dX12_product_58 ?_
        refine lv_topi (fun x57 e58 => ?_)
        refine lv_goto (tgt := 85) hx hb dX12_product_59 (by decide) ?_
        refine lv_istore_n (lv' := [(1, .int x57), (3, .int x32), (2, .int k13), (0, .ref a12)]) hx hb dX12_product_85 rfl hl (by decide) rfl (fun ls hl => ?_)
        refine lv_aload_n hx hb dX12_product_86 rfl (lv_at hl 3 rfl) ?_
        refine kcm_i hA hAB hP hD hS [true, true, true, false] rfl (fun _ => rfl) (fun hPc hDc => va_runV (As := []) (rest := []) ⟨hx, hb, hml, hown, hts⟩ (k_X12_byteAt l D κ β a12 r12 v12_keptMany v12_done v12_sheets v12_holes v12_worms v12_laidMany v12_wanted v12_orderMany v12_firstOrder v12_lines v12_marks v12_dots v12_madeIn v12_bound v12_places v12_maps v12_tapeMany v12_stories v12_base x29 v12_ends x30 x31 v12_bodies v12_ran v12_ownKind v12_ownNumber f12_tape f12_text H.size i1 i2 i3 i4 i5 i6 i7 i8 i9 i10 i11 i12 i13 i14 i15 i16 i17 (by omega) (by omega) (by omega) (by omega) (by omega) (by omega) (by omega) (by omega) (by omega) (by omega) (by omega) (by omega) (by omega) (by omega) (by omega)) (cwV 0 hts gX12_product_X12_byteAt rfl rfl rfl (by decide +kernel) ⟨by dsimp only; omega, by dsimp only; omega⟩) (pk_V hK hS hAB hPc hDc 0 (ci := 12) rfl rfl rfl) rfl rfl hl.1 rfl (lv_room (Nat.le_of_ble_eq_true rfl)) dX12_product_87 ⟨Nat.le_of_ble_eq_true rfl, Nat.le_of_ble_eq_true rfl⟩) (fun x59 u60 H locs hw hPD hS => ?_)
        have h61 : x59.toInt = 0 ∨ x29.toInt < v12_ends.toInt := hw
        obtain ⟨hP, hD⟩ : PD D A [O12 a12 r12 v12_keptMany v12_done v12_sheets v12_holes v12_worms v12_laidMany v12_wanted v12_orderMany v12_firstOrder v12_lines v12_marks v12_dots v12_madeIn v12_bound v12_places v12_maps v12_tapeMany v12_stories v12_base x29 v12_ends x30 x31 v12_bodies v12_ran v12_ownKind v12_ownNumber, (cI κ (r12 41) 120 f12_tape), (cI κ (r12 45) 720 f12_text), (cI κ (r12 52) 8 f12_names)] H := hPD
        refine lv_istore_n (lv' := [(2, .int x59), (1, .int x57), (3, .int x32), (0, .ref a12)]) hx hb dX12_product_90 rfl hl (by decide) rfl (fun ls hl => ?_)
        refine lv_goto (tgt := 10) hx hb dX12_product_91 (by decide) ?_
        exact ih10 x59 x57 x29 x30 x31 (by omega) (by omega) (by omega) (by omega) (by omega) (by omega) _ _ hP hD hS _ (lv_sub hl [0, 1, 3] rfl)
      have c25 := ci_ne c25
      refine lv_iload_n hx hb dX12_product_23 rfl (lv_at hl 0 rfl) ?_
      refine lv_bipush (v := 47) hx hb dX12_product_24 (by decide) ?_
      refine lv_icmp_eq (tgt := 35) hx hb dX12_product_26 (by decide) (fun c62 => ?_) (fun c62 => ?_)
      · have c62 := ci_eq c62
        refine lv_aload_n hx hb dX12_product_35 rfl (lv_at hl 2 rfl) ?_
        refine lv_dup hx hb dX12_product_36 rfl ?_
        refine va_get (D := D) (ci := 12) (v := .int v15) (C := RX12) (T := TX12) (N := 63) hx hb hts w1 hown hK.1 hP 0 rfl rfl 48 (by decide) w2 (fun _ h9 => h9) rfl dX12_product_37 ?_
        refine lv_iconst (v := 1) hx hb dX12_product_40 (by decide) ?_
        refine lv_iadd hx hb dX12_product_41 ?_
        refine lv_topi (fun x63 e64 => ?_)
        try have h65 : x63.toInt = v15.toInt + (1 : Int32).toInt := ci_add e64 (by omega) (by omega)
        refine va_put (D := D) (ci := 12) (v := .int x63) (ty := .int) (C := RX12) (T := TX12) (N := 63) hx hb hts w1 tyX12 tyX12_ok nmX12 hown hK.1 hP hD hS 0 rfl rfl 48 (by decide) w2 (fun _ h9 => h9) rfl (by decide +kernel) rfl rfl (Nat.le_of_ble_eq_true rfl) dX12_product_42 (fun H locs hP hD hS => ?_)
        obtain ⟨hP, hD⟩ : PD D A [O12 a12 r12 v12_keptMany v12_done v12_sheets v12_holes v12_worms v12_laidMany v12_wanted v12_orderMany v12_firstOrder v12_lines v12_marks v12_dots v12_madeIn v12_bound v12_places v12_maps v12_tapeMany v12_stories v12_base x63 v12_ends v16 v17 v12_bodies v12_ran v12_ownKind v12_ownNumber, (cI κ (r12 41) 120 f12_tape), (cI κ (r12 45) 720 f12_text), (cI κ (r12 52) 8 f12_names)] H := ⟨hP, hD⟩
        refine lv_aload_n hx hb dX12_product_45 rfl (lv_at hl 2 rfl) ?_
        refine kcm_i hA hAB hP hD hS [true, true, true, true] rfl (fun _ => rfl) (fun hPc hDc => va_runV (As := []) (rest := []) ⟨hx, hb, hml, hown, hts⟩ (h_one a12 r12 v12_keptMany v12_done v12_sheets v12_holes v12_worms v12_laidMany v12_wanted v12_orderMany v12_firstOrder v12_lines v12_marks v12_dots v12_madeIn v12_bound v12_places v12_maps v12_tapeMany v12_stories v12_base x63 v12_ends v16 v17 v12_bodies v12_ran v12_ownKind v12_ownNumber f12_tape f12_text f12_names H.size i1 i2 i3 i4 i5 i6 i7 i8 i9 i10 i11 i12 i13 i14 i15 i16 i17 (by omega) (by omega) (by omega) (by omega) (by omega) (by omega) (by omega) (by omega) (by omega) (by omega) (by omega) (by omega) (by omega) (by omega) (by omega) (by omega) (by omega) (by omega) (by omega)) (cwV 0 hts gX12_product_X12_one rfl rfl rfl (by decide +kernel) ⟨by dsimp only; omega, by dsimp only; omega⟩) (pk_V hK hS hAB hPc hDc 0 (ci := 12) rfl rfl rfl) rfl rfl hl.1 rfl (lv_room (Nat.le_of_ble_eq_true rfl)) dX12_product_46 ⟨Nat.le_of_ble_eq_true rfl, Nat.le_of_ble_eq_true rfl⟩) (fun x69 u70 H locs hw hPD hS => ?_)
        obtain ⟨x66, x67, x68⟩ := u70
        obtain ⟨h71, h72, h73, h74⟩ : (x63.toInt ≤ x66.toInt ∧ x66.toInt ≤ v12_ends.toInt) ∧ (v17.toInt ≤ x68.toInt ∧ x68.toInt ≤ 6 ∧ (0 ≤ x67.toInt ∨ x68.toInt = v17.toInt)) ∧ (v16.toInt < 0 ∨ 0 ≤ x67.toInt) ∧ (x67.toInt = 0) := hw
        obtain ⟨hP, hD⟩ : PD D A [O12 a12 r12 v12_keptMany v12_done v12_sheets v12_holes v12_worms v12_laidMany v12_wanted v12_orderMany v12_firstOrder v12_lines v12_marks v12_dots v12_madeIn v12_bound v12_places v12_maps v12_tapeMany v12_stories v12_base x66 v12_ends x67 x68 v12_bodies v12_ran v12_ownKind v12_ownNumber, (cI κ (r12 41) 120 f12_tape), (cI κ (r12 45) 720 f12_text), (cI κ (r12 52) 8 f12_names)] H := hPD
        refine lv_istore_n (lv' := [(3, .int x69), (2, .int k13), (1, .int k14), (0, .ref a12)]) hx hb dX12_product_49 rfl hl (by decide) rfl (fun ls hl => ?_)
        refine lv_iload_n hx hb dX12_product_50 rfl (lv_at hl 1 rfl) ?_
        refine lv_bipush (v := 42) hx hb dX12_product_51 (by decide) ?_
        refine lv_icmp_ne (tgt := 62) hx hb dX12_product_53 (by decide) (fun c75 => ?_) (fun c75 => ?_)
        · have c75 := ci_ne c75
          refine lv_iload_n hx hb dX12_product_62 rfl (lv_at hl 0 rfl) ?_
          refine lv_if_ne (tgt := 70) hx hb dX12_product_63 (by decide) (fun c76 => ?_) (fun c76 => ?_)
          · have c76 := ci_ne c76
            refine lv_iload_n hx hb dX12_product_70 rfl (lv_at hl 1 rfl) ?_
            refine lv_bipush (v := 47) hx hb dX12_product_71 (by decide) ?_
            refine lv_icmp_ne (tgt := 82) hx hb dX12_product_73 (by decide) (fun c77 => ?_) (fun c77 => ?_)
            · have c77 := ci_ne c77
              refine lv_iload_n hx hb dX12_product_82 rfl (lv_at hl 2 rfl) ?_
              refine lv_iload_n hx hb dX12_product_83 rfl (lv_at hl 0 rfl) ?_
              refine lv_irem hx hb dX12_product_84 (fun q78 => by have q78 := ci_eq q78; omega) ?_
              refine lv_topi (fun x79 e80 => ?_)
              try have h81 := ci_remV (by omega) (by omega) e80
              refine lv_istore_n (lv' := [(1, .int x79), (3, .int x69), (2, .int k13), (0, .ref a12)]) hx hb dX12_product_85 rfl hl (by decide) rfl (fun ls hl => ?_)
              refine lv_aload_n hx hb dX12_product_86 rfl (lv_at hl 3 rfl) ?_
              refine kcm_i hA hAB hP hD hS [true, true, true, false] rfl (fun _ => rfl) (fun hPc hDc => va_runV (As := []) (rest := []) ⟨hx, hb, hml, hown, hts⟩ (k_X12_byteAt l D κ β a12 r12 v12_keptMany v12_done v12_sheets v12_holes v12_worms v12_laidMany v12_wanted v12_orderMany v12_firstOrder v12_lines v12_marks v12_dots v12_madeIn v12_bound v12_places v12_maps v12_tapeMany v12_stories v12_base x66 v12_ends x67 x68 v12_bodies v12_ran v12_ownKind v12_ownNumber f12_tape f12_text H.size i1 i2 i3 i4 i5 i6 i7 i8 i9 i10 i11 i12 i13 i14 i15 i16 i17 (by omega) (by omega) (by omega) (by omega) (by omega) (by omega) (by omega) (by omega) (by omega) (by omega) (by omega) (by omega) (by omega) (by omega) (by omega)) (cwV 0 hts gX12_product_X12_byteAt rfl rfl rfl (by decide +kernel) ⟨by dsimp only; omega, by dsimp only; omega⟩) (pk_V hK hS hAB hPc hDc 0 (ci := 12) rfl rfl rfl) rfl rfl hl.1 rfl (lv_room (Nat.le_of_ble_eq_true rfl)) dX12_product_87 ⟨Nat.le_of_ble_eq_true rfl, Nat.le_of_ble_eq_true rfl⟩) (fun x82 u83 H locs hw hPD hS => ?_)
              have h84 : x82.toInt = 0 ∨ x66.toInt < v12_ends.toInt := hw
              obtain ⟨hP, hD⟩ : PD D A [O12 a12 r12 v12_keptMany v12_done v12_sheets v12_holes v12_worms v12_laidMany v12_wanted v12_orderMany v12_firstOrder v12_lines v12_marks v12_dots v12_madeIn v12_bound v12_places v12_maps v12_tapeMany v12_stories v12_base x66 v12_ends x67 x68 v12_bodies v12_ran v12_ownKind v12_ownNumber, (cI κ (r12 41) 120 f12_tape), (cI κ (r12 45) 720 f12_text), (cI κ (r12 52) 8 f12_names)] H := hPD
              refine lv_istore_n (lv' := [(2, .int x82), (1, .int x79), (3, .int x69), (0, .ref a12)]) hx hb dX12_product_90 rfl hl (by decide) rfl (fun ls hl => ?_)
              refine lv_goto (tgt := 10) hx hb dX12_product_91 (by decide) ?_
              exact ih10 x82 x79 x66 x67 x68 (by omega) (by omega) (by omega) (by omega) (by omega) (by omega) _ _ hP hD hS _ (lv_sub hl [0, 1, 3] rfl)
            have c77 := ci_eq c77
            refine lv_iload_n hx hb dX12_product_76 rfl (lv_at hl 2 rfl) ?_
            refine lv_iload_n hx hb dX12_product_77 rfl (lv_at hl 0 rfl) ?_
            refine lv_idiv hx hb dX12_product_78 (fun q85 => by have q85 := ci_eq q85; omega) ?_
            refine lv_topi (fun x86 e87 => ?_)
            refine lv_goto (tgt := 85) hx hb dX12_product_79 (by decide) ?_
            refine lv_istore_n (lv' := [(1, .int x86), (3, .int x69), (2, .int k13), (0, .ref a12)]) hx hb dX12_product_85 rfl hl (by decide) rfl (fun ls hl => ?_)
            refine lv_aload_n hx hb dX12_product_86 rfl (lv_at hl 3 rfl) ?_
            refine kcm_i hA hAB hP hD hS [true, true, true, false] rfl (fun _ => rfl) (fun hPc hDc => va_runV (As := []) (rest := []) ⟨hx, hb, hml, hown, hts⟩ (k_X12_byteAt l D κ β a12 r12 v12_keptMany v12_done v12_sheets v12_holes v12_worms v12_laidMany v12_wanted v12_orderMany v12_firstOrder v12_lines v12_marks v12_dots v12_madeIn v12_bound v12_places v12_maps v12_tapeMany v12_stories v12_base x66 v12_ends x67 x68 v12_bodies v12_ran v12_ownKind v12_ownNumber f12_tape f12_text H.size i1 i2 i3 i4 i5 i6 i7 i8 i9 i10 i11 i12 i13 i14 i15 i16 i17 (by omega) (by omega) (by omega) (by omega) (by omega) (by omega) (by omega) (by omega) (by omega) (by omega) (by omega) (by omega) (by omega) (by omega) (by omega)) (cwV 0 hts gX12_product_X12_byteAt rfl rfl rfl (by decide +kernel) ⟨by dsimp only; omega, by dsimp only; omega⟩) (pk_V hK hS hAB hPc hDc 0 (ci := 12) rfl rfl rfl) rfl rfl hl.1 rfl (lv_room (Nat.le_of_ble_eq_true rfl)) dX12_product_87 ⟨Nat.le_of_ble_eq_true rfl, Nat.le_of_ble_eq_true rfl⟩) (fun x88 u89 H locs hw hPD hS => ?_)
            have h90 : x88.toInt = 0 ∨ x66.toInt < v12_ends.toInt := hw
            obtain ⟨hP, hD⟩ : PD D A [O12 a12 r12 v12_keptMany v12_done v12_sheets v12_holes v12_worms v12_laidMany v12_wanted v12_orderMany v12_firstOrder v12_lines v12_marks v12_dots v12_madeIn v12_bound v12_places v12_maps v12_tapeMany v12_stories v12_base x66 v12_ends x67 x68 v12_bodies v12_ran v12_ownKind v12_ownNumber, (cI κ (r12 41) 120 f12_tape), (cI κ (r12 45) 720 f12_text), (cI κ (r12 52) 8 f12_names)] H := hPD
            refine lv_istore_n (lv' := [(2, .int x88), (1, .int x86), (3, .int x69), (0, .ref a12)]) hx hb dX12_product_90 rfl hl (by decide) rfl (fun ls hl => ?_)
            refine lv_goto (tgt := 10) hx hb dX12_product_91 (by decide) ?_
            exact ih10 x88 x86 x66 x67 x68 (by omega) (by omega) (by omega) (by omega) (by omega) (by omega) _ _ hP hD hS _ (lv_sub hl [0, 1, 3] rfl)
          have c76 := ci_eq c76
          refine lv_iconst (v := 0) hx hb dX12_product_66 (by decide) ?_
          refine lv_goto (tgt := 85) hx hb dX12_product_67 (by decide) ?_
          refine lv_istore_n (lv' := [(1, .int 0), (3, .int x69), (2, .int k13), (0, .ref a12)]) hx hb dX12_product_85 rfl hl (by decide) rfl (fun ls hl => ?_)
          refine lv_aload_n hx hb dX12_product_86 rfl (lv_at hl 3 rfl) ?_
          refine kcm_i hA hAB hP hD hS [true, true, true, false] rfl (fun _ => rfl) (fun hPc hDc => va_runV (As := []) (rest := []) ⟨hx, hb, hml, hown, hts⟩ (k_X12_byteAt l D κ β a12 r12 v12_keptMany v12_done v12_sheets v12_holes v12_worms v12_laidMany v12_wanted v12_orderMany v12_firstOrder v12_lines v12_marks v12_dots v12_madeIn v12_bound v12_places v12_maps v12_tapeMany v12_stories v12_base x66 v12_ends x67 x68 v12_bodies v12_ran v12_ownKind v12_ownNumber f12_tape f12_text H.size i1 i2 i3 i4 i5 i6 i7 i8 i9 i10 i11 i12 i13 i14 i15 i16 i17 (by omega) (by omega) (by omega) (by omega) (by omega) (by omega) (by omega) (by omega) (by omega) (by omega) (by omega) (by omega) (by omega) (by omega) (by omega)) (cwV 0 hts gX12_product_X12_byteAt rfl rfl rfl (by decide +kernel) ⟨by dsimp only; omega, by dsimp only; omega⟩) (pk_V hK hS hAB hPc hDc 0 (ci := 12) rfl rfl rfl) rfl rfl hl.1 rfl (lv_room (Nat.le_of_ble_eq_true rfl)) dX12_product_87 ⟨Nat.le_of_ble_eq_true rfl, Nat.le_of_ble_eq_true rfl⟩) (fun x91 u92 H locs hw hPD hS => ?_)
          have h93 : x91.toInt = 0 ∨ x66.toInt < v12_ends.toInt := hw
          obtain ⟨hP, hD⟩ : PD D A [O12 a12 r12 v12_keptMany v12_done v12_sheets v12_holes v12_worms v12_laidMany v12_wanted v12_orderMany v12_firstOrder v12_lines v12_marks v12_dots v12_madeIn v12_bound v12_places v12_maps v12_tapeMany v12_stories v12_base x66 v12_ends x67 x68 v12_bodies v12_ran v12_ownKind v12_ownNumber, (cI κ (r12 41) 120 f12_tape), (cI κ (r12 45) 720 f12_text), (cI κ (r12 52) 8 f12_names)] H := hPD
          refine lv_istore_n (lv' := [(2, .int x91), (1, .int 0), (3, .int x69), (0, .ref a12)]) hx hb dX12_product_90 rfl hl (by decide) rfl (fun ls hl => ?_)
          refine lv_goto (tgt := 10) hx hb dX12_product_91 (by decide) ?_
          exact ih10 x91 0 x66 x67 x68 (by omega) (by omega) (by omega) (by omega) (by omega) (by omega) _ _ hP hD hS _ (lv_sub hl [0, 1, 3] rfl)
        have c75 := ci_eq c75
        refine lv_iload_n hx hb dX12_product_56 rfl (lv_at hl 2 rfl) ?_
        refine lv_iload_n hx hb dX12_product_57 rfl (lv_at hl 0 rfl) ?_
        refine lv_imul hx hb dX12_product_58 ?_
        refine lv_topi (fun x94 e95 => ?_)
        refine lv_goto (tgt := 85) hx hb dX12_product_59 (by decide) ?_
        refine lv_istore_n (lv' := [(1, .int x94), (3, .int x69), (2, .int k13), (0, .ref a12)]) hx hb dX12_product_85 rfl hl (by decide) rfl (fun ls hl => ?_)
        refine lv_aload_n hx hb dX12_product_86 rfl (lv_at hl 3 rfl) ?_
        refine kcm_i hA hAB hP hD hS [true, true, true, false] rfl (fun _ => rfl) (fun hPc hDc => va_runV (As := []) (rest := []) ⟨hx, hb, hml, hown, hts⟩ (k_X12_byteAt l D κ β a12 r12 v12_keptMany v12_done v12_sheets v12_holes v12_worms v12_laidMany v12_wanted v12_orderMany v12_firstOrder v12_lines v12_marks v12_dots v12_madeIn v12_bound v12_places v12_maps v12_tapeMany v12_stories v12_base x66 v12_ends x67 x68 v12_bodies v12_ran v12_ownKind v12_ownNumber f12_tape f12_text H.size i1 i2 i3 i4 i5 i6 i7 i8 i9 i10 i11 i12 i13 i14 i15 i16 i17 (by omega) (by omega) (by omega) (by omega) (by omega) (by omega) (by omega) (by omega) (by omega) (by omega) (by omega) (by omega) (by omega) (by omega) (by omega)) (cwV 0 hts gX12_product_X12_byteAt rfl rfl rfl (by decide +kernel) ⟨by dsimp only; omega, by dsimp only; omega⟩) (pk_V hK hS hAB hPc hDc 0 (ci := 12) rfl rfl rfl) rfl rfl hl.1 rfl (lv_room (Nat.le_of_ble_eq_true rfl)) dX12_product_87 ⟨Nat.le_of_ble_eq_true rfl, Nat.le_of_ble_eq_true rfl⟩) (fun x96 u97 H locs hw hPD hS => ?_)
        have h98 : x96.toInt = 0 ∨ x66.toInt < v12_ends.toInt := hw
        obtain ⟨hP, hD⟩ : PD D A [O12 a12 r12 v12_keptMany v12_done v12_sheets v12_holes v12_worms v12_laidMany v12_wanted v12_orderMany v12_firstOrder v12_lines v12_marks v12_dots v12_madeIn v12_bound v12_places v12_maps v12_tapeMany v12_stories v12_base x66 v12_ends x67 x68 v12_bodies v12_ran v12_ownKind v12_ownNumber, (cI κ (r12 41) 120 f12_tape), (cI κ (r12 45) 720 f12_text), (cI κ (r12 52) 8 f12_names)] H := hPD
        refine lv_istore_n (lv' := [(2, .int x96), (1, .int x94), (3, .int x69), (0, .ref a12)]) hx hb dX12_product_90 rfl hl (by decide) rfl (fun ls hl => ?_)
        refine lv_goto (tgt := 10) hx hb dX12_product_91 (by decide) ?_
        exact ih10 x96 x94 x66 x67 x68 (by omega) (by omega) (by omega) (by omega) (by omega) (by omega) _ _ hP hD hS _ (lv_sub hl [0, 1, 3] rfl)
      have c62 := ci_ne c62
      refine lv_iload_n hx hb dX12_product_29 rfl (lv_at hl 0 rfl) ?_
      refine lv_bipush (v := 37) hx hb dX12_product_30 (by decide) ?_
      refine lv_icmp_ne (tgt := 94) hx hb dX12_product_32 (by decide) (fun c99 => ?_) (fun c99 => ?_)
      · have c99 := ci_ne c99
        refine lv_iload_n hx hb dX12_product_94 rfl (lv_at hl 1 rfl) ?_
        have hpo : (v12_at.toInt ≤ v15.toInt ∧ v15.toInt ≤ v12_ends.toInt) ∧ (v12_opened.toInt ≤ v17.toInt ∧ v17.toInt ≤ 6 ∧ (0 ≤ v16.toInt ∨ v17.toInt = v12_opened.toInt)) ∧ (v12_fault.toInt < 0 ∨ 0 ≤ v16.toInt) ∧ (v16.toInt = 0) := ⟨(by omega), (by omega), (by omega), (by omega)⟩
        exact ret _ _ _ _ k14 (v15, v16, v17) dX12_product_95 hpo hP hD hS
      have c99 := ci_eq c99
      refine lv_aload_n hx hb dX12_product_35 rfl (lv_at hl 2 rfl) ?_
      refine lv_dup hx hb dX12_product_36 rfl ?_
      refine va_get (D := D) (ci := 12) (v := .int v15) (C := RX12) (T := TX12) (N := 63) hx hb hts w1 hown hK.1 hP 0 rfl rfl 48 (by decide) w2 (fun _ h9 => h9) rfl dX12_product_37 ?_
      refine lv_iconst (v := 1) hx hb dX12_product_40 (by decide) ?_
      refine lv_iadd hx hb dX12_product_41 ?_
      refine lv_topi (fun x100 e101 => ?_)
      try have h102 : x100.toInt = v15.toInt + (1 : Int32).toInt := ci_add e101 (by omega) (by omega)
      refine va_put (D := D) (ci := 12) (v := .int x100) (ty := .int) (C := RX12) (T := TX12) (N := 63) hx hb hts w1 tyX12 tyX12_ok nmX12 hown hK.1 hP hD hS 0 rfl rfl 48 (by decide) w2 (fun _ h9 => h9) rfl (by decide +kernel) rfl rfl (Nat.le_of_ble_eq_true rfl) dX12_product_42 (fun H locs hP hD hS => ?_)
      obtain ⟨hP, hD⟩ : PD D A [O12 a12 r12 v12_keptMany v12_done v12_sheets v12_holes v12_worms v12_laidMany v12_wanted v12_orderMany v12_firstOrder v12_lines v12_marks v12_dots v12_madeIn v12_bound v12_places v12_maps v12_tapeMany v12_stories v12_base x100 v12_ends v16 v17 v12_bodies v12_ran v12_ownKind v12_ownNumber, (cI κ (r12 41) 120 f12_tape), (cI κ (r12 45) 720 f12_text), (cI κ (r12 52) 8 f12_names)] H := ⟨hP, hD⟩
      refine lv_aload_n hx hb dX12_product_45 rfl (lv_at hl 2 rfl) ?_
      refine kcm_i hA hAB hP hD hS [true, true, true, true] rfl (fun _ => rfl) (fun hPc hDc => va_runV (As := []) (rest := []) ⟨hx, hb, hml, hown, hts⟩ (h_one a12 r12 v12_keptMany v12_done v12_sheets v12_holes v12_worms v12_laidMany v12_wanted v12_orderMany v12_firstOrder v12_lines v12_marks v12_dots v12_madeIn v12_bound v12_places v12_maps v12_tapeMany v12_stories v12_base x100 v12_ends v16 v17 v12_bodies v12_ran v12_ownKind v12_ownNumber f12_tape f12_text f12_names H.size i1 i2 i3 i4 i5 i6 i7 i8 i9 i10 i11 i12 i13 i14 i15 i16 i17 (by omega) (by omega) (by omega) (by omega) (by omega) (by omega) (by omega) (by omega) (by omega) (by omega) (by omega) (by omega) (by omega) (by omega) (by omega) (by omega) (by omega) (by omega) (by omega)) (cwV 0 hts gX12_product_X12_one rfl rfl rfl (by decide +kernel) ⟨by dsimp only; omega, by dsimp only; omega⟩) (pk_V hK hS hAB hPc hDc 0 (ci := 12) rfl rfl rfl) rfl rfl hl.1 rfl (lv_room (Nat.le_of_ble_eq_true rfl)) dX12_product_46 ⟨Nat.le_of_ble_eq_true rfl, Nat.le_of_ble_eq_true rfl⟩) (fun x106 u107 H locs hw hPD hS => ?_)
      obtain ⟨x103, x104, x105⟩ := u107
      obtain ⟨h108, h109, h110, h111⟩ : (x100.toInt ≤ x103.toInt ∧ x103.toInt ≤ v12_ends.toInt) ∧ (v17.toInt ≤ x105.toInt ∧ x105.toInt ≤ 6 ∧ (0 ≤ x104.toInt ∨ x105.toInt = v17.toInt)) ∧ (v16.toInt < 0 ∨ 0 ≤ x104.toInt) ∧ (x104.toInt = 0) := hw
      obtain ⟨hP, hD⟩ : PD D A [O12 a12 r12 v12_keptMany v12_done v12_sheets v12_holes v12_worms v12_laidMany v12_wanted v12_orderMany v12_firstOrder v12_lines v12_marks v12_dots v12_madeIn v12_bound v12_places v12_maps v12_tapeMany v12_stories v12_base x103 v12_ends x104 x105 v12_bodies v12_ran v12_ownKind v12_ownNumber, (cI κ (r12 41) 120 f12_tape), (cI κ (r12 45) 720 f12_text), (cI κ (r12 52) 8 f12_names)] H := hPD
      refine lv_istore_n (lv' := [(3, .int x106), (2, .int k13), (1, .int k14), (0, .ref a12)]) hx hb dX12_product_49 rfl hl (by decide) rfl (fun ls hl => ?_)
      refine lv_iload_n hx hb dX12_product_50 rfl (lv_at hl 1 rfl) ?_
      refine lv_bipush (v := 42) hx hb dX12_product_51 (by decide) ?_
      refine lv_icmp_ne (tgt := 62) hx hb dX12_product_53 (by decide) (fun c112 => ?_) (fun c112 => ?_)
      · have c112 := ci_ne c112
        refine lv_iload_n hx hb dX12_product_62 rfl (lv_at hl 0 rfl) ?_
        refine lv_if_ne (tgt := 70) hx hb dX12_product_63 (by decide) (fun c113 => ?_) (fun c113 => ?_)
        · have c113 := ci_ne c113
          refine lv_iload_n hx hb dX12_product_70 rfl (lv_at hl 1 rfl) ?_
          refine lv_bipush (v := 47) hx hb dX12_product_71 (by decide) ?_
          refine lv_icmp_ne (tgt := 82) hx hb dX12_product_73 (by decide) (fun c114 => ?_) (fun c114 => ?_)
          · have c114 := ci_ne c114
            refine lv_iload_n hx hb dX12_product_82 rfl (lv_at hl 2 rfl) ?_
            refine lv_iload_n hx hb dX12_product_83 rfl (lv_at hl 0 rfl) ?_
            refine lv_irem hx hb dX12_product_84 (fun q115 => by have q115 := ci_eq q115; omega) ?_
            refine lv_topi (fun x116 e117 => ?_)
            try have h118 := ci_remV (by omega) (by omega) e117
            refine lv_istore_n (lv' := [(1, .int x116), (3, .int x106), (2, .int k13), (0, .ref a12)]) hx hb dX12_product_85 rfl hl (by decide) rfl (fun ls hl => ?_)
            refine lv_aload_n hx hb dX12_product_86 rfl (lv_at hl 3 rfl) ?_
            refine kcm_i hA hAB hP hD hS [true, true, true, false] rfl (fun _ => rfl) (fun hPc hDc => va_runV (As := []) (rest := []) ⟨hx, hb, hml, hown, hts⟩ (k_X12_byteAt l D κ β a12 r12 v12_keptMany v12_done v12_sheets v12_holes v12_worms v12_laidMany v12_wanted v12_orderMany v12_firstOrder v12_lines v12_marks v12_dots v12_madeIn v12_bound v12_places v12_maps v12_tapeMany v12_stories v12_base x103 v12_ends x104 x105 v12_bodies v12_ran v12_ownKind v12_ownNumber f12_tape f12_text H.size i1 i2 i3 i4 i5 i6 i7 i8 i9 i10 i11 i12 i13 i14 i15 i16 i17 (by omega) (by omega) (by omega) (by omega) (by omega) (by omega) (by omega) (by omega) (by omega) (by omega) (by omega) (by omega) (by omega) (by omega) (by omega)) (cwV 0 hts gX12_product_X12_byteAt rfl rfl rfl (by decide +kernel) ⟨by dsimp only; omega, by dsimp only; omega⟩) (pk_V hK hS hAB hPc hDc 0 (ci := 12) rfl rfl rfl) rfl rfl hl.1 rfl (lv_room (Nat.le_of_ble_eq_true rfl)) dX12_product_87 ⟨Nat.le_of_ble_eq_true rfl, Nat.le_of_ble_eq_true rfl⟩) (fun x119 u120 H locs hw hPD hS => ?_)
            have h121 : x119.toInt = 0 ∨ x103.toInt < v12_ends.toInt := hw
            obtain ⟨hP, hD⟩ : PD D A [O12 a12 r12 v12_keptMany v12_done v12_sheets v12_holes v12_worms v12_laidMany v12_wanted v12_orderMany v12_firstOrder v12_lines v12_marks v12_dots v12_madeIn v12_bound v12_places v12_maps v12_tapeMany v12_stories v12_base x103 v12_ends x104 x105 v12_bodies v12_ran v12_ownKind v12_ownNumber, (cI κ (r12 41) 120 f12_tape), (cI κ (r12 45) 720 f12_text), (cI κ (r12 52) 8 f12_names)] H := hPD
            refine lv_istore_n (lv' := [(2, .int x119), (1, .int x116), (3, .int x106), (0, .ref a12)]) hx hb dX12_product_90 rfl hl (by decide) rfl (fun ls hl => ?_)
            refine lv_goto (tgt := 10) hx hb dX12_product_91 (by decide) ?_
            exact ih10 x119 x116 x103 x104 x105 (by omega) (by omega) (by omega) (by omega) (by omega) (by omega) _ _ hP hD hS _ (lv_sub hl [0, 1, 3] rfl)
          have c114 := ci_eq c114
          refine lv_iload_n hx hb dX12_product_76 rfl (lv_at hl 2 rfl) ?_
          refine lv_iload_n hx hb dX12_product_77 rfl (lv_at hl 0 rfl) ?_
          refine lv_idiv hx hb dX12_product_78 (fun q122 => by have q122 := ci_eq q122; omega) ?_
          refine lv_topi (fun x123 e124 => ?_)
          refine lv_goto (tgt := 85) hx hb dX12_product_79 (by decide) ?_
          refine lv_istore_n (lv' := [(1, .int x123), (3, .int x106), (2, .int k13), (0, .ref a12)]) hx hb dX12_product_85 rfl hl (by decide) rfl (fun ls hl => ?_)
          refine lv_aload_n hx hb dX12_product_86 rfl (lv_at hl 3 rfl) ?_
          refine kcm_i hA hAB hP hD hS [true, true, true, false] rfl (fun _ => rfl) (fun hPc hDc => va_runV (As := []) (rest := []) ⟨hx, hb, hml, hown, hts⟩ (k_X12_byteAt l D κ β a12 r12 v12_keptMany v12_done v12_sheets v12_holes v12_worms v12_laidMany v12_wanted v12_orderMany v12_firstOrder v12_lines v12_marks v12_dots v12_madeIn v12_bound v12_places v12_maps v12_tapeMany v12_stories v12_base x103 v12_ends x104 x105 v12_bodies v12_ran v12_ownKind v12_ownNumber f12_tape f12_text H.size i1 i2 i3 i4 i5 i6 i7 i8 i9 i10 i11 i12 i13 i14 i15 i16 i17 (by omega) (by omega) (by omega) (by omega) (by omega) (by omega) (by omega) (by omega) (by omega) (by omega) (by omega) (by omega) (by omega) (by omega) (by omega)) (cwV 0 hts gX12_product_X12_byteAt rfl rfl rfl (by decide +kernel) ⟨by dsimp only; omega, by dsimp only; omega⟩) (pk_V hK hS hAB hPc hDc 0 (ci := 12) rfl rfl rfl) rfl rfl hl.1 rfl (lv_room (Nat.le_of_ble_eq_true rfl)) dX12_product_87 ⟨Nat.le_of_ble_eq_true rfl, Nat.le_of_ble_eq_true rfl⟩) (fun x125 u126 H locs hw hPD hS => ?_)
          have h127 : x125.toInt = 0 ∨ x103.toInt < v12_ends.toInt := hw
          obtain ⟨hP, hD⟩ : PD D A [O12 a12 r12 v12_keptMany v12_done v12_sheets v12_holes v12_worms v12_laidMany v12_wanted v12_orderMany v12_firstOrder v12_lines v12_marks v12_dots v12_madeIn v12_bound v12_places v12_maps v12_tapeMany v12_stories v12_base x103 v12_ends x104 x105 v12_bodies v12_ran v12_ownKind v12_ownNumber, (cI κ (r12 41) 120 f12_tape), (cI κ (r12 45) 720 f12_text), (cI κ (r12 52) 8 f12_names)] H := hPD
          refine lv_istore_n (lv' := [(2, .int x125), (1, .int x123), (3, .int x106), (0, .ref a12)]) hx hb dX12_product_90 rfl hl (by decide) rfl (fun ls hl => ?_)
          refine lv_goto (tgt := 10) hx hb dX12_product_91 (by decide) ?_
          exact ih10 x125 x123 x103 x104 x105 (by omega) (by omega) (by omega) (by omega) (by omega) (by omega) _ _ hP hD hS _ (lv_sub hl [0, 1, 3] rfl)
        have c113 := ci_eq c113
        refine lv_iconst (v := 0) hx hb dX12_product_66 (by decide) ?_
        refine lv_goto (tgt := 85) hx hb dX12_product_67 (by decide) ?_
        refine lv_istore_n (lv' := [(1, .int 0), (3, .int x106), (2, .int k13), (0, .ref a12)]) hx hb dX12_product_85 rfl hl (by decide) rfl (fun ls hl => ?_)
        refine lv_aload_n hx hb dX12_product_86 rfl (lv_at hl 3 rfl) ?_
        refine kcm_i hA hAB hP hD hS [true, true, true, false] rfl (fun _ => rfl) (fun hPc hDc => va_runV (As := []) (rest := []) ⟨hx, hb, hml, hown, hts⟩ (k_X12_byteAt l D κ β a12 r12 v12_keptMany v12_done v12_sheets v12_holes v12_worms v12_laidMany v12_wanted v12_orderMany v12_firstOrder v12_lines v12_marks v12_dots v12_madeIn v12_bound v12_places v12_maps v12_tapeMany v12_stories v12_base x103 v12_ends x104 x105 v12_bodies v12_ran v12_ownKind v12_ownNumber f12_tape f12_text H.size i1 i2 i3 i4 i5 i6 i7 i8 i9 i10 i11 i12 i13 i14 i15 i16 i17 (by omega) (by omega) (by omega) (by omega) (by omega) (by omega) (by omega) (by omega) (by omega) (by omega) (by omega) (by omega) (by omega) (by omega) (by omega)) (cwV 0 hts gX12_product_X12_byteAt rfl rfl rfl (by decide +kernel) ⟨by dsimp only; omega, by dsimp only; omega⟩) (pk_V hK hS hAB hPc hDc 0 (ci := 12) rfl rfl rfl) rfl rfl hl.1 rfl (lv_room (Nat.le_of_ble_eq_true rfl)) dX12_product_87 ⟨Nat.le_of_ble_eq_true rfl, Nat.le_of_ble_eq_true rfl⟩) (fun x128 u129 H locs hw hPD hS => ?_)
        have h130 : x128.toInt = 0 ∨ x103.toInt < v12_ends.toInt := hw
        obtain ⟨hP, hD⟩ : PD D A [O12 a12 r12 v12_keptMany v12_done v12_sheets v12_holes v12_worms v12_laidMany v12_wanted v12_orderMany v12_firstOrder v12_lines v12_marks v12_dots v12_madeIn v12_bound v12_places v12_maps v12_tapeMany v12_stories v12_base x103 v12_ends x104 x105 v12_bodies v12_ran v12_ownKind v12_ownNumber, (cI κ (r12 41) 120 f12_tape), (cI κ (r12 45) 720 f12_text), (cI κ (r12 52) 8 f12_names)] H := hPD
        refine lv_istore_n (lv' := [(2, .int x128), (1, .int 0), (3, .int x106), (0, .ref a12)]) hx hb dX12_product_90 rfl hl (by decide) rfl (fun ls hl => ?_)
        refine lv_goto (tgt := 10) hx hb dX12_product_91 (by decide) ?_
        exact ih10 x128 0 x103 x104 x105 (by omega) (by omega) (by omega) (by omega) (by omega) (by omega) _ _ hP hD hS _ (lv_sub hl [0, 1, 3] rfl)
      have c112 := ci_eq c112
      refine lv_iload_n hx hb dX12_product_56 rfl (lv_at hl 2 rfl) ?_
      refine lv_iload_n hx hb dX12_product_57 rfl (lv_at hl 0 rfl) ?_
      refine lv_imul hx hb dX12_product_58 ?_
      refine lv_topi (fun x131 e132 => ?_)
      refine lv_goto (tgt := 85) hx hb dX12_product_59 (by decide) ?_
      refine lv_istore_n (lv' := [(1, .int x131), (3, .int x106), (2, .int k13), (0, .ref a12)]) hx hb dX12_product_85 rfl hl (by decide) rfl (fun ls hl => ?_)
      refine lv_aload_n hx hb dX12_product_86 rfl (lv_at hl 3 rfl) ?_
      refine kcm_i hA hAB hP hD hS [true, true, true, false] rfl (fun _ => rfl) (fun hPc hDc => va_runV (As := []) (rest := []) ⟨hx, hb, hml, hown, hts⟩ (k_X12_byteAt l D κ β a12 r12 v12_keptMany v12_done v12_sheets v12_holes v12_worms v12_laidMany v12_wanted v12_orderMany v12_firstOrder v12_lines v12_marks v12_dots v12_madeIn v12_bound v12_places v12_maps v12_tapeMany v12_stories v12_base x103 v12_ends x104 x105 v12_bodies v12_ran v12_ownKind v12_ownNumber f12_tape f12_text H.size i1 i2 i3 i4 i5 i6 i7 i8 i9 i10 i11 i12 i13 i14 i15 i16 i17 (by omega) (by omega) (by omega) (by omega) (by omega) (by omega) (by omega) (by omega) (by omega) (by omega) (by omega) (by omega) (by omega) (by omega) (by omega)) (cwV 0 hts gX12_product_X12_byteAt rfl rfl rfl (by decide +kernel) ⟨by dsimp only; omega, by dsimp only; omega⟩) (pk_V hK hS hAB hPc hDc 0 (ci := 12) rfl rfl rfl) rfl rfl hl.1 rfl (lv_room (Nat.le_of_ble_eq_true rfl)) dX12_product_87 ⟨Nat.le_of_ble_eq_true rfl, Nat.le_of_ble_eq_true rfl⟩) (fun x133 u134 H locs hw hPD hS => ?_)
      have h135 : x133.toInt = 0 ∨ x103.toInt < v12_ends.toInt := hw
      obtain ⟨hP, hD⟩ : PD D A [O12 a12 r12 v12_keptMany v12_done v12_sheets v12_holes v12_worms v12_laidMany v12_wanted v12_orderMany v12_firstOrder v12_lines v12_marks v12_dots v12_madeIn v12_bound v12_places v12_maps v12_tapeMany v12_stories v12_base x103 v12_ends x104 x105 v12_bodies v12_ran v12_ownKind v12_ownNumber, (cI κ (r12 41) 120 f12_tape), (cI κ (r12 45) 720 f12_text), (cI κ (r12 52) 8 f12_names)] H := hPD
      refine lv_istore_n (lv' := [(2, .int x133), (1, .int x131), (3, .int x106), (0, .ref a12)]) hx hb dX12_product_90 rfl hl (by decide) rfl (fun ls hl => ?_)
      refine lv_goto (tgt := 10) hx hb dX12_product_91 (by decide) ?_
      exact ih10 x133 x131 x103 x104 x105 (by omega) (by omega) (by omega) (by omega) (by omega) (by omega) _ _ hP hD hS _ (lv_sub hl [0, 1, 3] rfl)
  exact lp10 ((v12_ends.toInt - x1.toInt).toNat + 1) x10 x4 x1 x2 x3 (by omega) (by omega) (by omega) (by omega) (by omega) (by omega) _ _ hP hD hS _ hl
set_option maxHeartbeats 4000000 in
set_option maxRecDepth 100000 in
theorem of_X12_sums (l : Launch) (D : va_G) (κ : Nat → ClassId) (β d : Nat) (h_product : C_X12_product l D κ β d) : C_X12_sums l D κ β d := by
  intro a12 r12 v12_keptMany v12_done v12_sheets v12_holes v12_worms v12_laidMany v12_wanted v12_orderMany v12_firstOrder v12_lines v12_marks v12_dots v12_madeIn v12_bound v12_places v12_maps v12_tapeMany v12_stories v12_base v12_at v12_ends v12_fault v12_opened v12_bodies v12_ran v12_ownKind v12_ownNumber f12_tape f12_text f12_names sz i1 i2 i3 i4 i5 i6 i7 i8 i9 i10 i11 i12 i13 i14 i15 i16 i17 i18 i19 i20 i21 i22 i23 i24 i25 i26 i27 i28 i29 i30 i31 i32 i33 i34 i35 i36
  refine ofK_i (cc := cX12_sums) (maxL := 4) (own := RX12) (by decide) rfl rfl (Nat.le_of_ble_eq_true rfl) ?_
  intro p e s m args below meth c Q A ls hsz hx hb hml hts hown hK hA hAB hP hD hl ret
  have hS : va_S A s.heap s.heap [] := va_S.rf
  have hl : lv_has ls 4 [(0, .ref a12)] := hl
  have w0 := hts (.fieldLink RX12 306 "OlderSkinModel" "fault" "I") (List.mem_of_getElem? (i := 1) rfl)
  have w1 := (fun w h => List.mem_cons_of_mem _ (List.mem_append_right _ h) : ∀ w ∈ u_ws RX12 TX12 63, w ∈ wsX12_sums)
  have w2 := hts (.fieldLink RX12 297 "OlderSkinModel" "at" "I") (List.mem_of_getElem? (i := 2) rfl)
  have l0 : (0 : Int32).toInt = 0 := by decide
  have l1 : (43 : Int32).toInt = 43 := by decide
  have l2 : (1 : Int32).toInt = 1 := by decide
  have l3 : (45 : Int32).toInt = 45 := by decide
  refine lv_aload_n hx hb dX12_sums_0 rfl (lv_at hl 0 rfl) ?_
  refine kcm_i hA hAB hP hD hS [true, true, true, true] rfl (fun _ => rfl) (fun hPc hDc => va_runV (As := []) (rest := []) ⟨hx, hb, hml, hown, hts⟩ (h_product a12 r12 v12_keptMany v12_done v12_sheets v12_holes v12_worms v12_laidMany v12_wanted v12_orderMany v12_firstOrder v12_lines v12_marks v12_dots v12_madeIn v12_bound v12_places v12_maps v12_tapeMany v12_stories v12_base v12_at v12_ends v12_fault v12_opened v12_bodies v12_ran v12_ownKind v12_ownNumber f12_tape f12_text f12_names s.heap.size i1 i2 i3 i4 i5 i6 i7 i8 i9 i10 i11 i12 i13 i14 i15 i16 i17 (by omega) (by omega) (by omega) (by omega) (by omega) (by omega) (by omega) (by omega) (by omega) (by omega) (by omega) (by omega) (by omega) (by omega) (by omega) (by omega) (by omega) (by omega) (by omega)) (cwV 0 hts gX12_sums_X12_product rfl rfl rfl (by decide +kernel) ⟨by dsimp only; omega, by dsimp only; omega⟩) (pk_V hK hS hAB hPc hDc 0 (ci := 12) rfl rfl rfl) rfl rfl hl.1 rfl (lv_room (Nat.le_of_ble_eq_true rfl)) dX12_sums_1 ⟨Nat.le_of_ble_eq_true rfl, Nat.le_of_ble_eq_true rfl⟩) (fun x4 u5 H locs hw hPD hS => ?_)
  obtain ⟨x1, x2, x3⟩ := u5
  obtain ⟨h6, h7, h8, h9⟩ : (v12_at.toInt ≤ x1.toInt ∧ x1.toInt ≤ v12_ends.toInt) ∧ (v12_opened.toInt ≤ x3.toInt ∧ x3.toInt ≤ 6 ∧ (0 ≤ x2.toInt ∨ x3.toInt = v12_opened.toInt)) ∧ (v12_fault.toInt < 0 ∨ 0 ≤ x2.toInt) ∧ (x2.toInt = 0) := hw
  obtain ⟨hP, hD⟩ : PD D A [O12 a12 r12 v12_keptMany v12_done v12_sheets v12_holes v12_worms v12_laidMany v12_wanted v12_orderMany v12_firstOrder v12_lines v12_marks v12_dots v12_madeIn v12_bound v12_places v12_maps v12_tapeMany v12_stories v12_base x1 v12_ends x2 x3 v12_bodies v12_ran v12_ownKind v12_ownNumber, (cI κ (r12 41) 120 f12_tape), (cI κ (r12 45) 720 f12_text), (cI κ (r12 52) 8 f12_names)] H := hPD
  refine lv_istore_n (lv' := [(1, .int x4), (0, .ref a12)]) hx hb dX12_sums_4 rfl hl (by decide) rfl (fun ls hl => ?_)
  have lp5 : ∀ (n5 : Nat) (k10 : Int32) (v11 : Int32) (v12 : Int32) (v13 : Int32), (v12_at.toInt ≤ v11.toInt ∧ v11.toInt ≤ v12_ends.toInt) → (v12_opened.toInt ≤ v13.toInt ∧ v13.toInt ≤ 6 ∧ (0 ≤ v12.toInt ∨ v13.toInt = v12_opened.toInt)) → (v12_fault.toInt < 0 ∨ 0 ≤ v12.toInt) → (v12.toInt = 0) → (v12_ends.toInt - v11.toInt).toNat < n5 → ∀ (H : Heap) (locs : List Loc), va_P D vwCl [O12 a12 r12 v12_keptMany v12_done v12_sheets v12_holes v12_worms v12_laidMany v12_wanted v12_orderMany v12_firstOrder v12_lines v12_marks v12_dots v12_madeIn v12_bound v12_places v12_maps v12_tapeMany v12_stories v12_base v11 v12_ends v12 v13 v12_bodies v12_ran v12_ownKind v12_ownNumber, (cI κ (r12 41) 120 f12_tape), (cI κ (r12 45) 720 f12_text), (cI κ (r12 52) 8 f12_names)] H → va_D A [O12 a12 r12 v12_keptMany v12_done v12_sheets v12_holes v12_worms v12_laidMany v12_wanted v12_orderMany v12_firstOrder v12_lines v12_marks v12_dots v12_madeIn v12_bound v12_places v12_maps v12_tapeMany v12_stories v12_base v11 v12_ends v12 v13 v12_bodies v12_ran v12_ownKind v12_ownNumber, (cI κ (r12 41) 120 f12_tape), (cI κ (r12 45) 720 f12_text), (cI κ (r12 52) 8 f12_names)] → va_S A s.heap H locs → ∀ ls : Array Slot, lv_has ls 4 [(1, .int k10), (0, .ref a12)] → W p l e ({ frames := 6 * d + 4, cells := 0, slots := 0, locals := 137 * d + 107 } : Room) s m args below meth c H locs 0 0 Q (F0 m 5 ls []) := by
    intro n5
    induction n5 with
    | zero =>
      intro k10 v11 v12 v13 h14 h15 h16 h17 m18
      exact absurd m18 (Nat.not_lt_zero _)
    | succ n5 ih5 =>
      intro k10 v11 v12 v13 h14 h15 h16 h17 m18 H locs hP hD hS ls hl
      refine lv_aload_n hx hb dX12_sums_5 rfl (lv_at hl 1 rfl) ?_
      refine va_get (D := D) (ci := 12) (v := .int v12) (C := RX12) (T := TX12) (N := 63) hx hb hts w1 hown hK.1 hP 0 rfl rfl 50 (by decide) w0 (fun _ h9 => h9) rfl dX12_sums_6 ?_
      refine lv_if_ge (tgt := 77) hx hb dX12_sums_9 (by decide) (fun c19 => ?_) (fun c19 => ?_)
      · have c19 := ci_le c19
        refine lv_iload_n hx hb dX12_sums_77 rfl (lv_at hl 0 rfl) ?_
        have hpo : (v12_at.toInt ≤ v11.toInt ∧ v11.toInt ≤ v12_ends.toInt) ∧ (v12_opened.toInt ≤ v13.toInt ∧ v13.toInt ≤ 6 ∧ (0 ≤ v12.toInt ∨ v13.toInt = v12_opened.toInt)) ∧ (v12_fault.toInt < 0 ∨ 0 ≤ v12.toInt) ∧ (v12.toInt = 0) := ⟨(by omega), (by omega), (by omega), (by omega)⟩
        exact ret _ _ _ _ k10 (v11, v12, v13) dX12_sums_78 hpo hP hD hS
      have c19 := ci_nle c19
      refine lv_aload_n hx hb dX12_sums_12 rfl (lv_at hl 1 rfl) ?_
      refine kcm_i hA hAB hP hD hS [true, true, true, false] rfl (fun _ => rfl) (fun hPc hDc => va_runV (As := []) (rest := []) ⟨hx, hb, hml, hown, hts⟩ (k_X12_byteAt l D κ β a12 r12 v12_keptMany v12_done v12_sheets v12_holes v12_worms v12_laidMany v12_wanted v12_orderMany v12_firstOrder v12_lines v12_marks v12_dots v12_madeIn v12_bound v12_places v12_maps v12_tapeMany v12_stories v12_base v11 v12_ends v12 v13 v12_bodies v12_ran v12_ownKind v12_ownNumber f12_tape f12_text H.size i1 i2 i3 i4 i5 i6 i7 i8 i9 i10 i11 i12 i13 i14 i15 i16 i17 (by omega) (by omega) (by omega) (by omega) (by omega) (by omega) (by omega) (by omega) (by omega) (by omega) (by omega) (by omega) (by omega) (by omega) (by omega)) (cwV 0 hts gX12_sums_X12_byteAt rfl rfl rfl (by decide +kernel) ⟨by dsimp only; omega, by dsimp only; omega⟩) (pk_V hK hS hAB hPc hDc 0 (ci := 12) rfl rfl rfl) rfl rfl hl.1 rfl (lv_room (Nat.le_of_ble_eq_true rfl)) dX12_sums_13 ⟨Nat.le_of_ble_eq_true rfl, Nat.le_of_ble_eq_true rfl⟩) (fun x20 u21 H locs hw hPD hS => ?_)
      have h22 : x20.toInt = 0 ∨ v11.toInt < v12_ends.toInt := hw
      obtain ⟨hP, hD⟩ : PD D A [O12 a12 r12 v12_keptMany v12_done v12_sheets v12_holes v12_worms v12_laidMany v12_wanted v12_orderMany v12_firstOrder v12_lines v12_marks v12_dots v12_madeIn v12_bound v12_places v12_maps v12_tapeMany v12_stories v12_base v11 v12_ends v12 v13 v12_bodies v12_ran v12_ownKind v12_ownNumber, (cI κ (r12 41) 120 f12_tape), (cI κ (r12 45) 720 f12_text), (cI κ (r12 52) 8 f12_names)] H := hPD
      refine lv_bipush (v := 43) hx hb dX12_sums_16 (by decide) ?_
      refine lv_icmp_eq (tgt := 30) hx hb dX12_sums_18 (by decide) (fun c23 => ?_) (fun c23 => ?_)
      · have c23 := ci_eq c23
        refine lv_aload_n hx hb dX12_sums_30 rfl (lv_at hl 1 rfl) ?_
        refine kcm_i hA hAB hP hD hS [true, true, true, false] rfl (fun _ => rfl) (fun hPc hDc => va_runV (As := []) (rest := []) ⟨hx, hb, hml, hown, hts⟩ (k_X12_byteAt l D κ β a12 r12 v12_keptMany v12_done v12_sheets v12_holes v12_worms v12_laidMany v12_wanted v12_orderMany v12_firstOrder v12_lines v12_marks v12_dots v12_madeIn v12_bound v12_places v12_maps v12_tapeMany v12_stories v12_base v11 v12_ends v12 v13 v12_bodies v12_ran v12_ownKind v12_ownNumber f12_tape f12_text H.size i1 i2 i3 i4 i5 i6 i7 i8 i9 i10 i11 i12 i13 i14 i15 i16 i17 (by omega) (by omega) (by omega) (by omega) (by omega) (by omega) (by omega) (by omega) (by omega) (by omega) (by omega) (by omega) (by omega) (by omega) (by omega)) (cwV 0 hts gX12_sums_X12_byteAt rfl rfl rfl (by decide +kernel) ⟨by dsimp only; omega, by dsimp only; omega⟩) (pk_V hK hS hAB hPc hDc 0 (ci := 12) rfl rfl rfl) rfl rfl hl.1 rfl (lv_room (Nat.le_of_ble_eq_true rfl)) dX12_sums_31 ⟨Nat.le_of_ble_eq_true rfl, Nat.le_of_ble_eq_true rfl⟩) (fun x24 u25 H locs hw hPD hS => ?_)
        have h26 : x24.toInt = 0 ∨ v11.toInt < v12_ends.toInt := hw
        obtain ⟨hP, hD⟩ : PD D A [O12 a12 r12 v12_keptMany v12_done v12_sheets v12_holes v12_worms v12_laidMany v12_wanted v12_orderMany v12_firstOrder v12_lines v12_marks v12_dots v12_madeIn v12_bound v12_places v12_maps v12_tapeMany v12_stories v12_base v11 v12_ends v12 v13 v12_bodies v12_ran v12_ownKind v12_ownNumber, (cI κ (r12 41) 120 f12_tape), (cI κ (r12 45) 720 f12_text), (cI κ (r12 52) 8 f12_names)] H := hPD
        refine lv_bipush (v := 43) hx hb dX12_sums_34 (by decide) ?_
        refine lv_icmp_ne (tgt := 43) hx hb dX12_sums_36 (by decide) (fun c27 => ?_) (fun c27 => ?_)
        · have c27 := ci_ne c27
          refine lv_iconst (v := 0) hx hb dX12_sums_43 (by decide) ?_
          refine lv_istore_n (lv' := [(2, .int 0), (1, .int k10), (0, .ref a12)]) hx hb dX12_sums_44 rfl hl (by decide) rfl (fun ls hl => ?_)
          refine lv_aload_n hx hb dX12_sums_45 rfl (lv_at hl 2 rfl) ?_
          refine lv_dup hx hb dX12_sums_46 rfl ?_
          refine va_get (D := D) (ci := 12) (v := .int v11) (C := RX12) (T := TX12) (N := 63) hx hb hts w1 hown hK.1 hP 0 rfl rfl 48 (by decide) w2 (fun _ h9 => h9) rfl dX12_sums_47 ?_
          refine lv_iconst (v := 1) hx hb dX12_sums_50 (by decide) ?_
          refine lv_iadd hx hb dX12_sums_51 ?_
          refine lv_topi (fun x28 e29 => ?_)
          try have h30 : x28.toInt = v11.toInt + (1 : Int32).toInt := ci_add e29 (by omega) (by omega)
          refine va_put (D := D) (ci := 12) (v := .int x28) (ty := .int) (C := RX12) (T := TX12) (N := 63) hx hb hts w1 tyX12 tyX12_ok nmX12 hown hK.1 hP hD hS 0 rfl rfl 48 (by decide) w2 (fun _ h9 => h9) rfl (by decide +kernel) rfl rfl (Nat.le_of_ble_eq_true rfl) dX12_sums_52 (fun H locs hP hD hS => ?_)
          obtain ⟨hP, hD⟩ : PD D A [O12 a12 r12 v12_keptMany v12_done v12_sheets v12_holes v12_worms v12_laidMany v12_wanted v12_orderMany v12_firstOrder v12_lines v12_marks v12_dots v12_madeIn v12_bound v12_places v12_maps v12_tapeMany v12_stories v12_base x28 v12_ends v12 v13 v12_bodies v12_ran v12_ownKind v12_ownNumber, (cI κ (r12 41) 120 f12_tape), (cI κ (r12 45) 720 f12_text), (cI κ (r12 52) 8 f12_names)] H := ⟨hP, hD⟩
          refine lv_aload_n hx hb dX12_sums_55 rfl (lv_at hl 2 rfl) ?_
          refine kcm_i hA hAB hP hD hS [true, true, true, true] rfl (fun _ => rfl) (fun hPc hDc => va_runV (As := []) (rest := []) ⟨hx, hb, hml, hown, hts⟩ (h_product a12 r12 v12_keptMany v12_done v12_sheets v12_holes v12_worms v12_laidMany v12_wanted v12_orderMany v12_firstOrder v12_lines v12_marks v12_dots v12_madeIn v12_bound v12_places v12_maps v12_tapeMany v12_stories v12_base x28 v12_ends v12 v13 v12_bodies v12_ran v12_ownKind v12_ownNumber f12_tape f12_text f12_names H.size i1 i2 i3 i4 i5 i6 i7 i8 i9 i10 i11 i12 i13 i14 i15 i16 i17 (by omega) (by omega) (by omega) (by omega) (by omega) (by omega) (by omega) (by omega) (by omega) (by omega) (by omega) (by omega) (by omega) (by omega) (by omega) (by omega) (by omega) (by omega) (by omega)) (cwV 0 hts gX12_sums_X12_product rfl rfl rfl (by decide +kernel) ⟨by dsimp only; omega, by dsimp only; omega⟩) (pk_V hK hS hAB hPc hDc 0 (ci := 12) rfl rfl rfl) rfl rfl hl.1 rfl (lv_room (Nat.le_of_ble_eq_true rfl)) dX12_sums_56 ⟨Nat.le_of_ble_eq_true rfl, Nat.le_of_ble_eq_true rfl⟩) (fun x34 u35 H locs hw hPD hS => ?_)
          obtain ⟨x31, x32, x33⟩ := u35
          obtain ⟨h36, h37, h38, h39⟩ : (x28.toInt ≤ x31.toInt ∧ x31.toInt ≤ v12_ends.toInt) ∧ (v13.toInt ≤ x33.toInt ∧ x33.toInt ≤ 6 ∧ (0 ≤ x32.toInt ∨ x33.toInt = v13.toInt)) ∧ (v12.toInt < 0 ∨ 0 ≤ x32.toInt) ∧ (x32.toInt = 0) := hw
          obtain ⟨hP, hD⟩ : PD D A [O12 a12 r12 v12_keptMany v12_done v12_sheets v12_holes v12_worms v12_laidMany v12_wanted v12_orderMany v12_firstOrder v12_lines v12_marks v12_dots v12_madeIn v12_bound v12_places v12_maps v12_tapeMany v12_stories v12_base x31 v12_ends x32 x33 v12_bodies v12_ran v12_ownKind v12_ownNumber, (cI κ (r12 41) 120 f12_tape), (cI κ (r12 45) 720 f12_text), (cI κ (r12 52) 8 f12_names)] H := hPD
          refine lv_istore_n (lv' := [(3, .int x34), (2, .int 0), (1, .int k10), (0, .ref a12)]) hx hb dX12_sums_59 rfl hl (by decide) rfl (fun ls hl => ?_)
          refine lv_iload_n hx hb dX12_sums_60 rfl (lv_at hl 1 rfl) ?_
          refine lv_if_eq (tgt := 70) hx hb dX12_sums_61 (by decide) (fun c40 => ?_) (fun c40 => ?_)
          · have c40 := ci_eq c40
            refine lv_iload_n hx hb dX12_sums_70 rfl (lv_at hl 2 rfl) ?_
            refine lv_iload_n hx hb dX12_sums_71 rfl (lv_at hl 0 rfl) ?_
            refine lv_isub hx hb dX12_sums_72 ?_
            refine lv_topi (fun x41 e42 => ?_)
            try have h43 : x41.toInt = k10.toInt - x34.toInt := ci_sub e42 (by omega) (by omega)
            refine lv_istore_n (lv' := [(1, .int x41), (3, .int x34), (2, .int 0), (0, .ref a12)]) hx hb dX12_sums_73 rfl hl (by decide) rfl (fun ls hl => ?_)
            refine lv_goto (tgt := 5) hx hb dX12_sums_74 (by decide) ?_
            exact ih5 x41 x31 x32 x33 (by omega) (by omega) (by omega) (by omega) (by omega) _ _ hP hD hS _ (lv_sub hl [0, 3] rfl)
          have c40 := ci_ne c40
          exfalso
          omega
        have c27 := ci_eq c27
        refine lv_iconst (v := 1) hx hb dX12_sums_39 (by decide) ?_
        refine lv_goto (tgt := 44) hx hb dX12_sums_40 (by decide) ?_
        refine lv_istore_n (lv' := [(2, .int 1), (1, .int k10), (0, .ref a12)]) hx hb dX12_sums_44 rfl hl (by decide) rfl (fun ls hl => ?_)
        refine lv_aload_n hx hb dX12_sums_45 rfl (lv_at hl 2 rfl) ?_
        refine lv_dup hx hb dX12_sums_46 rfl ?_
        refine va_get (D := D) (ci := 12) (v := .int v11) (C := RX12) (T := TX12) (N := 63) hx hb hts w1 hown hK.1 hP 0 rfl rfl 48 (by decide) w2 (fun _ h9 => h9) rfl dX12_sums_47 ?_
        refine lv_iconst (v := 1) hx hb dX12_sums_50 (by decide) ?_
        refine lv_iadd hx hb dX12_sums_51 ?_
        refine lv_topi (fun x44 e45 => ?_)
        try have h46 : x44.toInt = v11.toInt + (1 : Int32).toInt := ci_add e45 (by omega) (by omega)
        refine va_put (D := D) (ci := 12) (v := .int x44) (ty := .int) (C := RX12) (T := TX12) (N := 63) hx hb hts w1 tyX12 tyX12_ok nmX12 hown hK.1 hP hD hS 0 rfl rfl 48 (by decide) w2 (fun _ h9 => h9) rfl (by decide +kernel) rfl rfl (Nat.le_of_ble_eq_true rfl) dX12_sums_52 (fun H locs hP hD hS => ?_)
        obtain ⟨hP, hD⟩ : PD D A [O12 a12 r12 v12_keptMany v12_done v12_sheets v12_holes v12_worms v12_laidMany v12_wanted v12_orderMany v12_firstOrder v12_lines v12_marks v12_dots v12_madeIn v12_bound v12_places v12_maps v12_tapeMany v12_stories v12_base x44 v12_ends v12 v13 v12_bodies v12_ran v12_ownKind v12_ownNumber, (cI κ (r12 41) 120 f12_tape), (cI κ (r12 45) 720 f12_text), (cI κ (r12 52) 8 f12_names)] H := ⟨hP, hD⟩
        refine lv_aload_n hx hb dX12_sums_55 rfl (lv_at hl 2 rfl) ?_
        refine kcm_i hA hAB hP hD hS [true, true, true, true] rfl (fun _ => rfl) (fun hPc hDc => va_runV (As := []) (rest := []) ⟨hx, hb, hml, hown, hts⟩ (h_product a12 r12 v12_keptMany v12_done v12_sheets v12_holes v12_worms v12_laidMany v12_wanted v12_orderMany v12_firstOrder v12_lines v12_marks v12_dots v12_madeIn v12_bound v12_places v12_maps v12_tapeMany v12_stories v12_base x44 v12_ends v12 v13 v12_bodies v12_ran v12_ownKind v12_ownNumber f12_tape f12_text f12_names H.size i1 i2 i3 i4 i5 i6 i7 i8 i9 i10 i11 i12 i13 i14 i15 i16 i17 (by omega) (by omega) (by omega) (by omega) (by omega) (by omega) (by omega) (by omega) (by omega) (by omega) (by omega) (by omega) (by omega) (by omega) (by omega) (by omega) (by omega) (by omega) (by omega)) (cwV 0 hts gX12_sums_X12_product rfl rfl rfl (by decide +kernel) ⟨by dsimp only; omega, by dsimp only; omega⟩) (pk_V hK hS hAB hPc hDc 0 (ci := 12) rfl rfl rfl) rfl rfl hl.1 rfl (lv_room (Nat.le_of_ble_eq_true rfl)) dX12_sums_56 ⟨Nat.le_of_ble_eq_true rfl, Nat.le_of_ble_eq_true rfl⟩) (fun x50 u51 H locs hw hPD hS => ?_)
        obtain ⟨x47, x48, x49⟩ := u51
        obtain ⟨h52, h53, h54, h55⟩ : (x44.toInt ≤ x47.toInt ∧ x47.toInt ≤ v12_ends.toInt) ∧ (v13.toInt ≤ x49.toInt ∧ x49.toInt ≤ 6 ∧ (0 ≤ x48.toInt ∨ x49.toInt = v13.toInt)) ∧ (v12.toInt < 0 ∨ 0 ≤ x48.toInt) ∧ (x48.toInt = 0) := hw
        obtain ⟨hP, hD⟩ : PD D A [O12 a12 r12 v12_keptMany v12_done v12_sheets v12_holes v12_worms v12_laidMany v12_wanted v12_orderMany v12_firstOrder v12_lines v12_marks v12_dots v12_madeIn v12_bound v12_places v12_maps v12_tapeMany v12_stories v12_base x47 v12_ends x48 x49 v12_bodies v12_ran v12_ownKind v12_ownNumber, (cI κ (r12 41) 120 f12_tape), (cI κ (r12 45) 720 f12_text), (cI κ (r12 52) 8 f12_names)] H := hPD
        refine lv_istore_n (lv' := [(3, .int x50), (2, .int 1), (1, .int k10), (0, .ref a12)]) hx hb dX12_sums_59 rfl hl (by decide) rfl (fun ls hl => ?_)
        refine lv_iload_n hx hb dX12_sums_60 rfl (lv_at hl 1 rfl) ?_
        refine lv_if_eq (tgt := 70) hx hb dX12_sums_61 (by decide) (fun c56 => ?_) (fun c56 => ?_)
        · have c56 := ci_eq c56
          refine lv_iload_n hx hb dX12_sums_70 rfl (lv_at hl 2 rfl) ?_
          refine lv_iload_n hx hb dX12_sums_71 rfl (lv_at hl 0 rfl) ?_
          refine lv_isub hx hb dX12_sums_72 ?_
          refine lv_topi (fun x57 e58 => ?_)
          try have h59 : x57.toInt = k10.toInt - x50.toInt := ci_sub e58 (by omega) (by omega)
          refine lv_istore_n (lv' := [(1, .int x57), (3, .int x50), (2, .int 1), (0, .ref a12)]) hx hb dX12_sums_73 rfl hl (by decide) rfl (fun ls hl => ?_)
          refine lv_goto (tgt := 5) hx hb dX12_sums_74 (by decide) ?_
          exact ih5 x57 x47 x48 x49 (by omega) (by omega) (by omega) (by omega) (by omega) _ _ hP hD hS _ (lv_sub hl [0, 3] rfl)
        have c56 := ci_ne c56
        refine lv_iload_n hx hb dX12_sums_64 rfl (lv_at hl 2 rfl) ?_
        refine lv_iload_n hx hb dX12_sums_65 rfl (lv_at hl 0 rfl) ?_
        refine lv_iadd hx hb dX12_sums_66 ?_
        refine lv_topi (fun x60 e61 => ?_)
        try have h62 : x60.toInt = k10.toInt + x50.toInt := ci_add e61 (by omega) (by omega)
        refine lv_goto (tgt := 73) hx hb dX12_sums_67 (by decide) ?_
        refine lv_istore_n (lv' := [(1, .int x60), (3, .int x50), (2, .int 1), (0, .ref a12)]) hx hb dX12_sums_73 rfl hl (by decide) rfl (fun ls hl => ?_)
        refine lv_goto (tgt := 5) hx hb dX12_sums_74 (by decide) ?_
        exact ih5 x60 x47 x48 x49 (by omega) (by omega) (by omega) (by omega) (by omega) _ _ hP hD hS _ (lv_sub hl [0, 3] rfl)
      have c23 := ci_ne c23
      refine lv_aload_n hx hb dX12_sums_21 rfl (lv_at hl 1 rfl) ?_
      refine kcm_i hA hAB hP hD hS [true, true, true, false] rfl (fun _ => rfl) (fun hPc hDc => va_runV (As := []) (rest := []) ⟨hx, hb, hml, hown, hts⟩ (k_X12_byteAt l D κ β a12 r12 v12_keptMany v12_done v12_sheets v12_holes v12_worms v12_laidMany v12_wanted v12_orderMany v12_firstOrder v12_lines v12_marks v12_dots v12_madeIn v12_bound v12_places v12_maps v12_tapeMany v12_stories v12_base v11 v12_ends v12 v13 v12_bodies v12_ran v12_ownKind v12_ownNumber f12_tape f12_text H.size i1 i2 i3 i4 i5 i6 i7 i8 i9 i10 i11 i12 i13 i14 i15 i16 i17 (by omega) (by omega) (by omega) (by omega) (by omega) (by omega) (by omega) (by omega) (by omega) (by omega) (by omega) (by omega) (by omega) (by omega) (by omega)) (cwV 0 hts gX12_sums_X12_byteAt rfl rfl rfl (by decide +kernel) ⟨by dsimp only; omega, by dsimp only; omega⟩) (pk_V hK hS hAB hPc hDc 0 (ci := 12) rfl rfl rfl) rfl rfl hl.1 rfl (lv_room (Nat.le_of_ble_eq_true rfl)) dX12_sums_22 ⟨Nat.le_of_ble_eq_true rfl, Nat.le_of_ble_eq_true rfl⟩) (fun x63 u64 H locs hw hPD hS => ?_)
      have h65 : x63.toInt = 0 ∨ v11.toInt < v12_ends.toInt := hw
      obtain ⟨hP, hD⟩ : PD D A [O12 a12 r12 v12_keptMany v12_done v12_sheets v12_holes v12_worms v12_laidMany v12_wanted v12_orderMany v12_firstOrder v12_lines v12_marks v12_dots v12_madeIn v12_bound v12_places v12_maps v12_tapeMany v12_stories v12_base v11 v12_ends v12 v13 v12_bodies v12_ran v12_ownKind v12_ownNumber, (cI κ (r12 41) 120 f12_tape), (cI κ (r12 45) 720 f12_text), (cI κ (r12 52) 8 f12_names)] H := hPD
      refine lv_bipush (v := 45) hx hb dX12_sums_25 (by decide) ?_
      refine lv_icmp_ne (tgt := 77) hx hb dX12_sums_27 (by decide) (fun c66 => ?_) (fun c66 => ?_)
      · have c66 := ci_ne c66
        refine lv_iload_n hx hb dX12_sums_77 rfl (lv_at hl 0 rfl) ?_
        have hpo : (v12_at.toInt ≤ v11.toInt ∧ v11.toInt ≤ v12_ends.toInt) ∧ (v12_opened.toInt ≤ v13.toInt ∧ v13.toInt ≤ 6 ∧ (0 ≤ v12.toInt ∨ v13.toInt = v12_opened.toInt)) ∧ (v12_fault.toInt < 0 ∨ 0 ≤ v12.toInt) ∧ (v12.toInt = 0) := ⟨(by omega), (by omega), (by omega), (by omega)⟩
        exact ret _ _ _ _ k10 (v11, v12, v13) dX12_sums_78 hpo hP hD hS
      have c66 := ci_eq c66
      refine lv_aload_n hx hb dX12_sums_30 rfl (lv_at hl 1 rfl) ?_
      refine kcm_i hA hAB hP hD hS [true, true, true, false] rfl (fun _ => rfl) (fun hPc hDc => va_runV (As := []) (rest := []) ⟨hx, hb, hml, hown, hts⟩ (k_X12_byteAt l D κ β a12 r12 v12_keptMany v12_done v12_sheets v12_holes v12_worms v12_laidMany v12_wanted v12_orderMany v12_firstOrder v12_lines v12_marks v12_dots v12_madeIn v12_bound v12_places v12_maps v12_tapeMany v12_stories v12_base v11 v12_ends v12 v13 v12_bodies v12_ran v12_ownKind v12_ownNumber f12_tape f12_text H.size i1 i2 i3 i4 i5 i6 i7 i8 i9 i10 i11 i12 i13 i14 i15 i16 i17 (by omega) (by omega) (by omega) (by omega) (by omega) (by omega) (by omega) (by omega) (by omega) (by omega) (by omega) (by omega) (by omega) (by omega) (by omega)) (cwV 0 hts gX12_sums_X12_byteAt rfl rfl rfl (by decide +kernel) ⟨by dsimp only; omega, by dsimp only; omega⟩) (pk_V hK hS hAB hPc hDc 0 (ci := 12) rfl rfl rfl) rfl rfl hl.1 rfl (lv_room (Nat.le_of_ble_eq_true rfl)) dX12_sums_31 ⟨Nat.le_of_ble_eq_true rfl, Nat.le_of_ble_eq_true rfl⟩) (fun x67 u68 H locs hw hPD hS => ?_)
      have h69 : x67.toInt = 0 ∨ v11.toInt < v12_ends.toInt := hw
      obtain ⟨hP, hD⟩ : PD D A [O12 a12 r12 v12_keptMany v12_done v12_sheets v12_holes v12_worms v12_laidMany v12_wanted v12_orderMany v12_firstOrder v12_lines v12_marks v12_dots v12_madeIn v12_bound v12_places v12_maps v12_tapeMany v12_stories v12_base v11 v12_ends v12 v13 v12_bodies v12_ran v12_ownKind v12_ownNumber, (cI κ (r12 41) 120 f12_tape), (cI κ (r12 45) 720 f12_text), (cI κ (r12 52) 8 f12_names)] H := hPD
      refine lv_bipush (v := 43) hx hb dX12_sums_34 (by decide) ?_
      refine lv_icmp_ne (tgt := 43) hx hb dX12_sums_36 (by decide) (fun c70 => ?_) (fun c70 => ?_)
      · have c70 := ci_ne c70
        refine lv_iconst (v := 0) hx hb dX12_sums_43 (by decide) ?_
        refine lv_istore_n (lv' := [(2, .int 0), (1, .int k10), (0, .ref a12)]) hx hb dX12_sums_44 rfl hl (by decide) rfl (fun ls hl => ?_)
        refine lv_aload_n hx hb dX12_sums_45 rfl (lv_at hl 2 rfl) ?_
        refine lv_dup hx hb dX12_sums_46 rfl ?_
        refine va_get (D := D) (ci := 12) (v := .int v11) (C := RX12) (T := TX12) (N := 63) hx hb hts w1 hown hK.1 hP 0 rfl rfl 48 (by decide) w2 (fun _ h9 => h9) rfl dX12_sums_47 ?_
        refine lv_iconst (v := 1) hx hb dX12_sums_50 (by decide) ?_
        refine lv_iadd hx hb dX12_sums_51 ?_
        refine lv_topi (fun x71 e72 => ?_)
        try have h73 : x71.toInt = v11.toInt + (1 : Int32).toInt := ci_add e72 (by omega) (by omega)
        refine va_put (D := D) (ci := 12) (v := .int x71) (ty := .int) (C := RX12) (T := TX12) (N := 63) hx hb hts w1 tyX12 tyX12_ok nmX12 hown hK.1 hP hD hS 0 rfl rfl 48 (by decide) w2 (fun _ h9 => h9) rfl (by decide +kernel) rfl rfl (Nat.le_of_ble_eq_true rfl) dX12_sums_52 (fun H locs hP hD hS => ?_)
        obtain ⟨hP, hD⟩ : PD D A [O12 a12 r12 v12_keptMany v12_done v12_sheets v12_holes v12_worms v12_laidMany v12_wanted v12_orderMany v12_firstOrder v12_lines v12_marks v12_dots v12_madeIn v12_bound v12_places v12_maps v12_tapeMany v12_stories v12_base x71 v12_ends v12 v13 v12_bodies v12_ran v12_ownKind v12_ownNumber, (cI κ (r12 41) 120 f12_tape), (cI κ (r12 45) 720 f12_text), (cI κ (r12 52) 8 f12_names)] H := ⟨hP, hD⟩
        refine lv_aload_n hx hb dX12_sums_55 rfl (lv_at hl 2 rfl) ?_
        refine kcm_i hA hAB hP hD hS [true, true, true, true] rfl (fun _ => rfl) (fun hPc hDc => va_runV (As := []) (rest := []) ⟨hx, hb, hml, hown, hts⟩ (h_product a12 r12 v12_keptMany v12_done v12_sheets v12_holes v12_worms v12_laidMany v12_wanted v12_orderMany v12_firstOrder v12_lines v12_marks v12_dots v12_madeIn v12_bound v12_places v12_maps v12_tapeMany v12_stories v12_base x71 v12_ends v12 v13 v12_bodies v12_ran v12_ownKind v12_ownNumber f12_tape f12_text f12_names H.size i1 i2 i3 i4 i5 i6 i7 i8 i9 i10 i11 i12 i13 i14 i15 i16 i17 (by omega) (by omega) (by omega) (by omega) (by omega) (by omega) (by omega) (by omega) (by omega) (by omega) (by omega) (by omega) (by omega) (by omega) (by omega) (by omega) (by omega) (by omega) (by omega)) (cwV 0 hts gX12_sums_X12_product rfl rfl rfl (by decide +kernel) ⟨by dsimp only; omega, by dsimp only; omega⟩) (pk_V hK hS hAB hPc hDc 0 (ci := 12) rfl rfl rfl) rfl rfl hl.1 rfl (lv_room (Nat.le_of_ble_eq_true rfl)) dX12_sums_56 ⟨Nat.le_of_ble_eq_true rfl, Nat.le_of_ble_eq_true rfl⟩) (fun x77 u78 H locs hw hPD hS => ?_)
        obtain ⟨x74, x75, x76⟩ := u78
        obtain ⟨h79, h80, h81, h82⟩ : (x71.toInt ≤ x74.toInt ∧ x74.toInt ≤ v12_ends.toInt) ∧ (v13.toInt ≤ x76.toInt ∧ x76.toInt ≤ 6 ∧ (0 ≤ x75.toInt ∨ x76.toInt = v13.toInt)) ∧ (v12.toInt < 0 ∨ 0 ≤ x75.toInt) ∧ (x75.toInt = 0) := hw
        obtain ⟨hP, hD⟩ : PD D A [O12 a12 r12 v12_keptMany v12_done v12_sheets v12_holes v12_worms v12_laidMany v12_wanted v12_orderMany v12_firstOrder v12_lines v12_marks v12_dots v12_madeIn v12_bound v12_places v12_maps v12_tapeMany v12_stories v12_base x74 v12_ends x75 x76 v12_bodies v12_ran v12_ownKind v12_ownNumber, (cI κ (r12 41) 120 f12_tape), (cI κ (r12 45) 720 f12_text), (cI κ (r12 52) 8 f12_names)] H := hPD
        refine lv_istore_n (lv' := [(3, .int x77), (2, .int 0), (1, .int k10), (0, .ref a12)]) hx hb dX12_sums_59 rfl hl (by decide) rfl (fun ls hl => ?_)
        refine lv_iload_n hx hb dX12_sums_60 rfl (lv_at hl 1 rfl) ?_
        refine lv_if_eq (tgt := 70) hx hb dX12_sums_61 (by decide) (fun c83 => ?_) (fun c83 => ?_)
        · have c83 := ci_eq c83
          refine lv_iload_n hx hb dX12_sums_70 rfl (lv_at hl 2 rfl) ?_
          refine lv_iload_n hx hb dX12_sums_71 rfl (lv_at hl 0 rfl) ?_
          refine lv_isub hx hb dX12_sums_72 ?_
          refine lv_topi (fun x84 e85 => ?_)
          try have h86 : x84.toInt = k10.toInt - x77.toInt := ci_sub e85 (by omega) (by omega)
          refine lv_istore_n (lv' := [(1, .int x84), (3, .int x77), (2, .int 0), (0, .ref a12)]) hx hb dX12_sums_73 rfl hl (by decide) rfl (fun ls hl => ?_)
          refine lv_goto (tgt := 5) hx hb dX12_sums_74 (by decide) ?_
          exact ih5 x84 x74 x75 x76 (by omega) (by omega) (by omega) (by omega) (by omega) _ _ hP hD hS _ (lv_sub hl [0, 3] rfl)
        have c83 := ci_ne c83
        exfalso
        omega
      have c70 := ci_eq c70
      refine lv_iconst (v := 1) hx hb dX12_sums_39 (by decide) ?_
      refine lv_goto (tgt := 44) hx hb dX12_sums_40 (by decide) ?_
      refine lv_istore_n (lv' := [(2, .int 1), (1, .int k10), (0, .ref a12)]) hx hb dX12_sums_44 rfl hl (by decide) rfl (fun ls hl => ?_)
      refine lv_aload_n hx hb dX12_sums_45 rfl (lv_at hl 2 rfl) ?_
      refine lv_dup hx hb dX12_sums_46 rfl ?_
      refine va_get (D := D) (ci := 12) (v := .int v11) (C := RX12) (T := TX12) (N := 63) hx hb hts w1 hown hK.1 hP 0 rfl rfl 48 (by decide) w2 (fun _ h9 => h9) rfl dX12_sums_47 ?_
      refine lv_iconst (v := 1) hx hb dX12_sums_50 (by decide) ?_
      refine lv_iadd hx hb dX12_sums_51 ?_
      refine lv_topi (fun x87 e88 => ?_)
      try have h89 : x87.toInt = v11.toInt + (1 : Int32).toInt := ci_add e88 (by omega) (by omega)
      refine va_put (D := D) (ci := 12) (v := .int x87) (ty := .int) (C := RX12) (T := TX12) (N := 63) hx hb hts w1 tyX12 tyX12_ok nmX12 hown hK.1 hP hD hS 0 rfl rfl 48 (by decide) w2 (fun _ h9 => h9) rfl (by decide +kernel) rfl rfl (Nat.le_of_ble_eq_true rfl) dX12_sums_52 (fun H locs hP hD hS => ?_)
      obtain ⟨hP, hD⟩ : PD D A [O12 a12 r12 v12_keptMany v12_done v12_sheets v12_holes v12_worms v12_laidMany v12_wanted v12_orderMany v12_firstOrder v12_lines v12_marks v12_dots v12_madeIn v12_bound v12_places v12_maps v12_tapeMany v12_stories v12_base x87 v12_ends v12 v13 v12_bodies v12_ran v12_ownKind v12_ownNumber, (cI κ (r12 41) 120 f12_tape), (cI κ (r12 45) 720 f12_text), (cI κ (r12 52) 8 f12_names)] H := ⟨hP, hD⟩
      refine lv_aload_n hx hb dX12_sums_55 rfl (lv_at hl 2 rfl) ?_
      refine kcm_i hA hAB hP hD hS [true, true, true, true] rfl (fun _ => rfl) (fun hPc hDc => va_runV (As := []) (rest := []) ⟨hx, hb, hml, hown, hts⟩ (h_product a12 r12 v12_keptMany v12_done v12_sheets v12_holes v12_worms v12_laidMany v12_wanted v12_orderMany v12_firstOrder v12_lines v12_marks v12_dots v12_madeIn v12_bound v12_places v12_maps v12_tapeMany v12_stories v12_base x87 v12_ends v12 v13 v12_bodies v12_ran v12_ownKind v12_ownNumber f12_tape f12_text f12_names H.size i1 i2 i3 i4 i5 i6 i7 i8 i9 i10 i11 i12 i13 i14 i15 i16 i17 (by omega) (by omega) (by omega) (by omega) (by omega) (by omega) (by omega) (by omega) (by omega) (by omega) (by omega) (by omega) (by omega) (by omega) (by omega) (by omega) (by omega) (by omega) (by omega)) (cwV 0 hts gX12_sums_X12_product rfl rfl rfl (by decide +kernel) ⟨by dsimp only; omega, by dsimp only; omega⟩) (pk_V hK hS hAB hPc hDc 0 (ci := 12) rfl rfl rfl) rfl rfl hl.1 rfl (lv_room (Nat.le_of_ble_eq_true rfl)) dX12_sums_56 ⟨Nat.le_of_ble_eq_true rfl, Nat.le_of_ble_eq_true rfl⟩) (fun x93 u94 H locs hw hPD hS => ?_)
      obtain ⟨x90, x91, x92⟩ := u94
      obtain ⟨h95, h96, h97, h98⟩ : (x87.toInt ≤ x90.toInt ∧ x90.toInt ≤ v12_ends.toInt) ∧ (v13.toInt ≤ x92.toInt ∧ x92.toInt ≤ 6 ∧ (0 ≤ x91.toInt ∨ x92.toInt = v13.toInt)) ∧ (v12.toInt < 0 ∨ 0 ≤ x91.toInt) ∧ (x91.toInt = 0) := hw
      obtain ⟨hP, hD⟩ : PD D A [O12 a12 r12 v12_keptMany v12_done v12_sheets v12_holes v12_worms v12_laidMany v12_wanted v12_orderMany v12_firstOrder v12_lines v12_marks v12_dots v12_madeIn v12_bound v12_places v12_maps v12_tapeMany v12_stories v12_base x90 v12_ends x91 x92 v12_bodies v12_ran v12_ownKind v12_ownNumber, (cI κ (r12 41) 120 f12_tape), (cI κ (r12 45) 720 f12_text), (cI κ (r12 52) 8 f12_names)] H := hPD
      refine lv_istore_n (lv' := [(3, .int x93), (2, .int 1), (1, .int k10), (0, .ref a12)]) hx hb dX12_sums_59 rfl hl (by decide) rfl (fun ls hl => ?_)
      refine lv_iload_n hx hb dX12_sums_60 rfl (lv_at hl 1 rfl) ?_
      refine lv_if_eq (tgt := 70) hx hb dX12_sums_61 (by decide) (fun c99 => ?_) (fun c99 => ?_)
      · have c99 := ci_eq c99
        refine lv_iload_n hx hb dX12_sums_70 rfl (lv_at hl 2 rfl) ?_
        refine lv_iload_n hx hb dX12_sums_71 rfl (lv_at hl 0 rfl) ?_
        refine lv_isub hx hb dX12_sums_72 ?_
        refine lv_topi (fun x100 e101 => ?_)
        try have h102 : x100.toInt = k10.toInt - x93.toInt := ci_sub e101 (by omega) (by omega)
        refine lv_istore_n (lv' := [(1, .int x100), (3, .int x93), (2, .int 1), (0, .ref a12)]) hx hb dX12_sums_73 rfl hl (by decide) rfl (fun ls hl => ?_)
        refine lv_goto (tgt := 5) hx hb dX12_sums_74 (by decide) ?_
        exact ih5 x100 x90 x91 x92 (by omega) (by omega) (by omega) (by omega) (by omega) _ _ hP hD hS _ (lv_sub hl [0, 3] rfl)
      have c99 := ci_ne c99
      refine lv_iload_n hx hb dX12_sums_64 rfl (lv_at hl 2 rfl) ?_
      refine lv_iload_n hx hb dX12_sums_65 rfl (lv_at hl 0 rfl) ?_
      refine lv_iadd hx hb dX12_sums_66 ?_
      refine lv_topi (fun x103 e104 => ?_)
      try have h105 : x103.toInt = k10.toInt + x93.toInt := ci_add e104 (by omega) (by omega)
      refine lv_goto (tgt := 73) hx hb dX12_sums_67 (by decide) ?_
      refine lv_istore_n (lv' := [(1, .int x103), (3, .int x93), (2, .int 1), (0, .ref a12)]) hx hb dX12_sums_73 rfl hl (by decide) rfl (fun ls hl => ?_)
      refine lv_goto (tgt := 5) hx hb dX12_sums_74 (by decide) ?_
      exact ih5 x103 x90 x91 x92 (by omega) (by omega) (by omega) (by omega) (by omega) _ _ hP hD hS _ (lv_sub hl [0, 3] rfl)
  exact lp5 ((v12_ends.toInt - x1.toInt).toNat + 1) x4 x1 x2 x3 (by omega) (by omega) (by omega) (by omega) (by omega) _ _ hP hD hS _ hl
set_option maxHeartbeats 4000000 in
set_option maxRecDepth 100000 in
theorem of_X12_compared (l : Launch) (D : va_G) (κ : Nat → ClassId) (β d : Nat) (h_sums : C_X12_sums l D κ β d) : C_X12_compared l D κ β d := by
  intro a12 r12 v12_keptMany v12_done v12_sheets v12_holes v12_worms v12_laidMany v12_wanted v12_orderMany v12_firstOrder v12_lines v12_marks v12_dots v12_madeIn v12_bound v12_places v12_maps v12_tapeMany v12_stories v12_base v12_at v12_ends v12_fault v12_opened v12_bodies v12_ran v12_ownKind v12_ownNumber f12_tape f12_text f12_names sz i1 i2 i3 i4 i5 i6 i7 i8 i9 i10 i11 i12 i13 i14 i15 i16 i17 i18 i19 i20 i21 i22 i23 i24 i25 i26 i27 i28 i29 i30 i31 i32 i33 i34 i35 i36
  refine ofK_i (cc := cX12_compared) (maxL := 4) (own := RX12) (by decide) rfl rfl (Nat.le_of_ble_eq_true rfl) ?_
  intro p e s m args below meth c Q A ls hsz hx hb hml hts hown hK hA hAB hP hD hl ret
  have hS : va_S A s.heap s.heap [] := va_S.rf
  have hl : lv_has ls 4 [(0, .ref a12)] := hl
  have w0 := hts (.fieldLink RX12 306 "OlderSkinModel" "fault" "I") (List.mem_of_getElem? (i := 1) rfl)
  have w1 := (fun w h => List.mem_cons_of_mem _ (List.mem_append_right _ h) : ∀ w ∈ u_ws RX12 TX12 63, w ∈ wsX12_compared)
  have w2 := hts (.fieldLink RX12 297 "OlderSkinModel" "at" "I") (List.mem_of_getElem? (i := 2) rfl)
  have l0 : (0 : Int32).toInt = 0 := by decide
  have l1 : (60 : Int32).toInt = 60 := by decide
  have l2 : (1 : Int32).toInt = 1 := by decide
  have l3 : (61 : Int32).toInt = 61 := by decide
  have l4 : (62 : Int32).toInt = 62 := by decide
  refine lv_aload_n hx hb dX12_compared_0 rfl (lv_at hl 0 rfl) ?_
  refine kcm_i hA hAB hP hD hS [true, true, true, true] rfl (fun _ => rfl) (fun hPc hDc => va_runV (As := []) (rest := []) ⟨hx, hb, hml, hown, hts⟩ (h_sums a12 r12 v12_keptMany v12_done v12_sheets v12_holes v12_worms v12_laidMany v12_wanted v12_orderMany v12_firstOrder v12_lines v12_marks v12_dots v12_madeIn v12_bound v12_places v12_maps v12_tapeMany v12_stories v12_base v12_at v12_ends v12_fault v12_opened v12_bodies v12_ran v12_ownKind v12_ownNumber f12_tape f12_text f12_names s.heap.size i1 i2 i3 i4 i5 i6 i7 i8 i9 i10 i11 i12 i13 i14 i15 i16 i17 (by omega) (by omega) (by omega) (by omega) (by omega) (by omega) (by omega) (by omega) (by omega) (by omega) (by omega) (by omega) (by omega) (by omega) (by omega) (by omega) (by omega) (by omega) (by omega)) (cwV 0 hts gX12_compared_X12_sums rfl rfl rfl (by decide +kernel) ⟨by dsimp only; omega, by dsimp only; omega⟩) (pk_V hK hS hAB hPc hDc 0 (ci := 12) rfl rfl rfl) rfl rfl hl.1 rfl (lv_room (Nat.le_of_ble_eq_true rfl)) dX12_compared_1 ⟨Nat.le_of_ble_eq_true rfl, Nat.le_of_ble_eq_true rfl⟩) (fun x4 u5 H locs hw hPD hS => ?_)
  obtain ⟨x1, x2, x3⟩ := u5
  obtain ⟨h6, h7, h8, h9⟩ : (v12_at.toInt ≤ x1.toInt ∧ x1.toInt ≤ v12_ends.toInt) ∧ (v12_opened.toInt ≤ x3.toInt ∧ x3.toInt ≤ 6 ∧ (0 ≤ x2.toInt ∨ x3.toInt = v12_opened.toInt)) ∧ (v12_fault.toInt < 0 ∨ 0 ≤ x2.toInt) ∧ (x2.toInt = 0) := hw
  obtain ⟨hP, hD⟩ : PD D A [O12 a12 r12 v12_keptMany v12_done v12_sheets v12_holes v12_worms v12_laidMany v12_wanted v12_orderMany v12_firstOrder v12_lines v12_marks v12_dots v12_madeIn v12_bound v12_places v12_maps v12_tapeMany v12_stories v12_base x1 v12_ends x2 x3 v12_bodies v12_ran v12_ownKind v12_ownNumber, (cI κ (r12 41) 120 f12_tape), (cI κ (r12 45) 720 f12_text), (cI κ (r12 52) 8 f12_names)] H := hPD
  refine lv_istore_n (lv' := [(1, .int x4), (0, .ref a12)]) hx hb dX12_compared_4 rfl hl (by decide) rfl (fun ls hl => ?_)
  refine lv_aload_n hx hb dX12_compared_5 rfl (lv_at hl 1 rfl) ?_
  refine kcm_i hA hAB hP hD hS [true, true, true, false] rfl (fun _ => rfl) (fun hPc hDc => va_runV (As := []) (rest := []) ⟨hx, hb, hml, hown, hts⟩ (k_X12_byteAt l D κ β a12 r12 v12_keptMany v12_done v12_sheets v12_holes v12_worms v12_laidMany v12_wanted v12_orderMany v12_firstOrder v12_lines v12_marks v12_dots v12_madeIn v12_bound v12_places v12_maps v12_tapeMany v12_stories v12_base x1 v12_ends x2 x3 v12_bodies v12_ran v12_ownKind v12_ownNumber f12_tape f12_text H.size i1 i2 i3 i4 i5 i6 i7 i8 i9 i10 i11 i12 i13 i14 i15 i16 i17 (by omega) (by omega) (by omega) (by omega) (by omega) (by omega) (by omega) (by omega) (by omega) (by omega) (by omega) (by omega) (by omega) (by omega) (by omega)) (cwV 0 hts gX12_compared_X12_byteAt rfl rfl rfl (by decide +kernel) ⟨by dsimp only; omega, by dsimp only; omega⟩) (pk_V hK hS hAB hPc hDc 0 (ci := 12) rfl rfl rfl) rfl rfl hl.1 rfl (lv_room (Nat.le_of_ble_eq_true rfl)) dX12_compared_6 ⟨Nat.le_of_ble_eq_true rfl, Nat.le_of_ble_eq_true rfl⟩) (fun x10 u11 H locs hw hPD hS => ?_)
  have h12 : x10.toInt = 0 ∨ x1.toInt < v12_ends.toInt := hw
  obtain ⟨hP, hD⟩ : PD D A [O12 a12 r12 v12_keptMany v12_done v12_sheets v12_holes v12_worms v12_laidMany v12_wanted v12_orderMany v12_firstOrder v12_lines v12_marks v12_dots v12_madeIn v12_bound v12_places v12_maps v12_tapeMany v12_stories v12_base x1 v12_ends x2 x3 v12_bodies v12_ran v12_ownKind v12_ownNumber, (cI κ (r12 41) 120 f12_tape), (cI κ (r12 45) 720 f12_text), (cI κ (r12 52) 8 f12_names)] H := hPD
  refine lv_istore_n (lv' := [(2, .int x10), (1, .int x4), (0, .ref a12)]) hx hb dX12_compared_9 rfl hl (by decide) rfl (fun ls hl => ?_)
  refine lv_aload_n hx hb dX12_compared_10 rfl (lv_at hl 2 rfl) ?_
  refine va_get (D := D) (ci := 12) (v := .int x2) (C := RX12) (T := TX12) (N := 63) hx hb hts w1 hown hK.1 hP 0 rfl rfl 50 (by decide) w0 (fun _ h9 => h9) rfl dX12_compared_11 ?_
  refine lv_if_ge (tgt := 35) hx hb dX12_compared_14 (by decide) (fun c13 => ?_) (fun c13 => ?_)
  · have c13 := ci_le c13
    refine lv_iload_n hx hb dX12_compared_35 rfl (lv_at hl 1 rfl) ?_
    have hpo : (v12_at.toInt ≤ x1.toInt ∧ x1.toInt ≤ v12_ends.toInt) ∧ (v12_opened.toInt ≤ x3.toInt ∧ x3.toInt ≤ 6 ∧ (0 ≤ x2.toInt ∨ x3.toInt = v12_opened.toInt)) ∧ (v12_fault.toInt < 0 ∨ 0 ≤ x2.toInt) ∧ (x2.toInt = 0) := ⟨(by omega), (by omega), (by omega), (by omega)⟩
    exact ret _ _ _ _ x4 (x1, x2, x3) dX12_compared_36 hpo hP hD hS
  have c13 := ci_nle c13
  refine lv_iload_n hx hb dX12_compared_17 rfl (lv_at hl 0 rfl) ?_
  refine lv_bipush (v := 60) hx hb dX12_compared_18 (by decide) ?_
  refine lv_icmp_eq (tgt := 37) hx hb dX12_compared_20 (by decide) (fun c14 => ?_) (fun c14 => ?_)
  · have c14 := ci_eq c14
    refine lv_aload_n hx hb dX12_compared_37 rfl (lv_at hl 2 rfl) ?_
    refine lv_dup hx hb dX12_compared_38 rfl ?_
    refine va_get (D := D) (ci := 12) (v := .int x1) (C := RX12) (T := TX12) (N := 63) hx hb hts w1 hown hK.1 hP 0 rfl rfl 48 (by decide) w2 (fun _ h9 => h9) rfl dX12_compared_39 ?_
    refine lv_iconst (v := 1) hx hb dX12_compared_42 (by decide) ?_
    refine lv_iadd hx hb dX12_compared_43 ?_
    refine lv_topi (fun x15 e16 => ?_)
    try have h17 : x15.toInt = x1.toInt + (1 : Int32).toInt := ci_add e16 (by omega) (by omega)
    refine va_put (D := D) (ci := 12) (v := .int x15) (ty := .int) (C := RX12) (T := TX12) (N := 63) hx hb hts w1 tyX12 tyX12_ok nmX12 hown hK.1 hP hD hS 0 rfl rfl 48 (by decide) w2 (fun _ h9 => h9) rfl (by decide +kernel) rfl rfl (Nat.le_of_ble_eq_true rfl) dX12_compared_44 (fun H locs hP hD hS => ?_)
    obtain ⟨hP, hD⟩ : PD D A [O12 a12 r12 v12_keptMany v12_done v12_sheets v12_holes v12_worms v12_laidMany v12_wanted v12_orderMany v12_firstOrder v12_lines v12_marks v12_dots v12_madeIn v12_bound v12_places v12_maps v12_tapeMany v12_stories v12_base x15 v12_ends x2 x3 v12_bodies v12_ran v12_ownKind v12_ownNumber, (cI κ (r12 41) 120 f12_tape), (cI κ (r12 45) 720 f12_text), (cI κ (r12 52) 8 f12_names)] H := ⟨hP, hD⟩
    refine lv_aload_n hx hb dX12_compared_47 rfl (lv_at hl 2 rfl) ?_
    refine kcm_i hA hAB hP hD hS [true, true, true, true] rfl (fun _ => rfl) (fun hPc hDc => va_runV (As := []) (rest := []) ⟨hx, hb, hml, hown, hts⟩ (h_sums a12 r12 v12_keptMany v12_done v12_sheets v12_holes v12_worms v12_laidMany v12_wanted v12_orderMany v12_firstOrder v12_lines v12_marks v12_dots v12_madeIn v12_bound v12_places v12_maps v12_tapeMany v12_stories v12_base x15 v12_ends x2 x3 v12_bodies v12_ran v12_ownKind v12_ownNumber f12_tape f12_text f12_names H.size i1 i2 i3 i4 i5 i6 i7 i8 i9 i10 i11 i12 i13 i14 i15 i16 i17 (by omega) (by omega) (by omega) (by omega) (by omega) (by omega) (by omega) (by omega) (by omega) (by omega) (by omega) (by omega) (by omega) (by omega) (by omega) (by omega) (by omega) (by omega) (by omega)) (cwV 0 hts gX12_compared_X12_sums rfl rfl rfl (by decide +kernel) ⟨by dsimp only; omega, by dsimp only; omega⟩) (pk_V hK hS hAB hPc hDc 0 (ci := 12) rfl rfl rfl) rfl rfl hl.1 rfl (lv_room (Nat.le_of_ble_eq_true rfl)) dX12_compared_48 ⟨Nat.le_of_ble_eq_true rfl, Nat.le_of_ble_eq_true rfl⟩) (fun x21 u22 H locs hw hPD hS => ?_)
    obtain ⟨x18, x19, x20⟩ := u22
    obtain ⟨h23, h24, h25, h26⟩ : (x15.toInt ≤ x18.toInt ∧ x18.toInt ≤ v12_ends.toInt) ∧ (x3.toInt ≤ x20.toInt ∧ x20.toInt ≤ 6 ∧ (0 ≤ x19.toInt ∨ x20.toInt = x3.toInt)) ∧ (x2.toInt < 0 ∨ 0 ≤ x19.toInt) ∧ (x19.toInt = 0) := hw
    obtain ⟨hP, hD⟩ : PD D A [O12 a12 r12 v12_keptMany v12_done v12_sheets v12_holes v12_worms v12_laidMany v12_wanted v12_orderMany v12_firstOrder v12_lines v12_marks v12_dots v12_madeIn v12_bound v12_places v12_maps v12_tapeMany v12_stories v12_base x18 v12_ends x19 x20 v12_bodies v12_ran v12_ownKind v12_ownNumber, (cI κ (r12 41) 120 f12_tape), (cI κ (r12 45) 720 f12_text), (cI κ (r12 52) 8 f12_names)] H := hPD
    refine lv_istore_n (lv' := [(3, .int x21), (2, .int x10), (1, .int x4), (0, .ref a12)]) hx hb dX12_compared_51 rfl hl (by decide) rfl (fun ls hl => ?_)
    refine lv_iload_n hx hb dX12_compared_52 rfl (lv_at hl 1 rfl) ?_
    refine lv_bipush (v := 60) hx hb dX12_compared_53 (by decide) ?_
    refine lv_icmp_ne (tgt := 66) hx hb dX12_compared_55 (by decide) (fun c27 => ?_) (fun c27 => ?_)
    · have c27 := ci_ne c27
      refine lv_iload_n hx hb dX12_compared_66 rfl (lv_at hl 1 rfl) ?_
      refine lv_bipush (v := 61) hx hb dX12_compared_67 (by decide) ?_
      refine lv_icmp_ne (tgt := 80) hx hb dX12_compared_69 (by decide) (fun c28 => ?_) (fun c28 => ?_)
      · have c28 := ci_ne c28
        refine lv_iload_n hx hb dX12_compared_80 rfl (lv_at hl 2 rfl) ?_
        refine lv_iload_n hx hb dX12_compared_81 rfl (lv_at hl 0 rfl) ?_
        refine lv_icmp_le (tgt := 89) hx hb dX12_compared_82 (by decide) (fun c29 => ?_) (fun c29 => ?_)
        · have c29 := ci_le c29
          refine lv_iconst (v := 0) hx hb dX12_compared_89 (by decide) ?_
          have hpo : (v12_at.toInt ≤ x18.toInt ∧ x18.toInt ≤ v12_ends.toInt) ∧ (v12_opened.toInt ≤ x20.toInt ∧ x20.toInt ≤ 6 ∧ (0 ≤ x19.toInt ∨ x20.toInt = v12_opened.toInt)) ∧ (v12_fault.toInt < 0 ∨ 0 ≤ x19.toInt) ∧ (x19.toInt = 0) := ⟨(by omega), (by omega), (by omega), (by omega)⟩
          exact ret _ _ _ _ 0 (x18, x19, x20) dX12_compared_90 hpo hP hD hS
        have c29 := ci_nle c29
        refine lv_iconst (v := 1) hx hb dX12_compared_85 (by decide) ?_
        refine lv_goto (tgt := 90) hx hb dX12_compared_86 (by decide) ?_
        have hpo : (v12_at.toInt ≤ x18.toInt ∧ x18.toInt ≤ v12_ends.toInt) ∧ (v12_opened.toInt ≤ x20.toInt ∧ x20.toInt ≤ 6 ∧ (0 ≤ x19.toInt ∨ x20.toInt = v12_opened.toInt)) ∧ (v12_fault.toInt < 0 ∨ 0 ≤ x19.toInt) ∧ (x19.toInt = 0) := ⟨(by omega), (by omega), (by omega), (by omega)⟩
        exact ret _ _ _ _ 1 (x18, x19, x20) dX12_compared_90 hpo hP hD hS
      have c28 := ci_eq c28
      refine lv_iload_n hx hb dX12_compared_72 rfl (lv_at hl 2 rfl) ?_
      refine lv_iload_n hx hb dX12_compared_73 rfl (lv_at hl 0 rfl) ?_
      refine lv_icmp_ne (tgt := 89) hx hb dX12_compared_74 (by decide) (fun c30 => ?_) (fun c30 => ?_)
      · have c30 := ci_ne c30
        refine lv_iconst (v := 0) hx hb dX12_compared_89 (by decide) ?_
        have hpo : (v12_at.toInt ≤ x18.toInt ∧ x18.toInt ≤ v12_ends.toInt) ∧ (v12_opened.toInt ≤ x20.toInt ∧ x20.toInt ≤ 6 ∧ (0 ≤ x19.toInt ∨ x20.toInt = v12_opened.toInt)) ∧ (v12_fault.toInt < 0 ∨ 0 ≤ x19.toInt) ∧ (x19.toInt = 0) := ⟨(by omega), (by omega), (by omega), (by omega)⟩
        exact ret _ _ _ _ 0 (x18, x19, x20) dX12_compared_90 hpo hP hD hS
      have c30 := ci_eq c30
      refine lv_goto (tgt := 85) hx hb dX12_compared_77 (by decide) ?_
      refine lv_iconst (v := 1) hx hb dX12_compared_85 (by decide) ?_
      refine lv_goto (tgt := 90) hx hb dX12_compared_86 (by decide) ?_
      have hpo : (v12_at.toInt ≤ x18.toInt ∧ x18.toInt ≤ v12_ends.toInt) ∧ (v12_opened.toInt ≤ x20.toInt ∧ x20.toInt ≤ 6 ∧ (0 ≤ x19.toInt ∨ x20.toInt = v12_opened.toInt)) ∧ (v12_fault.toInt < 0 ∨ 0 ≤ x19.toInt) ∧ (x19.toInt = 0) := ⟨(by omega), (by omega), (by omega), (by omega)⟩
      exact ret _ _ _ _ 1 (x18, x19, x20) dX12_compared_90 hpo hP hD hS
    have c27 := ci_eq c27
    refine lv_iload_n hx hb dX12_compared_58 rfl (lv_at hl 2 rfl) ?_
    refine lv_iload_n hx hb dX12_compared_59 rfl (lv_at hl 0 rfl) ?_
    refine lv_icmp_ge (tgt := 89) hx hb dX12_compared_60 (by decide) (fun c31 => ?_) (fun c31 => ?_)
    · have c31 := ci_le c31
      refine lv_iconst (v := 0) hx hb dX12_compared_89 (by decide) ?_
      have hpo : (v12_at.toInt ≤ x18.toInt ∧ x18.toInt ≤ v12_ends.toInt) ∧ (v12_opened.toInt ≤ x20.toInt ∧ x20.toInt ≤ 6 ∧ (0 ≤ x19.toInt ∨ x20.toInt = v12_opened.toInt)) ∧ (v12_fault.toInt < 0 ∨ 0 ≤ x19.toInt) ∧ (x19.toInt = 0) := ⟨(by omega), (by omega), (by omega), (by omega)⟩
      exact ret _ _ _ _ 0 (x18, x19, x20) dX12_compared_90 hpo hP hD hS
    have c31 := ci_nle c31
    refine lv_goto (tgt := 85) hx hb dX12_compared_63 (by decide) ?_
    refine lv_iconst (v := 1) hx hb dX12_compared_85 (by decide) ?_
    refine lv_goto (tgt := 90) hx hb dX12_compared_86 (by decide) ?_
    have hpo : (v12_at.toInt ≤ x18.toInt ∧ x18.toInt ≤ v12_ends.toInt) ∧ (v12_opened.toInt ≤ x20.toInt ∧ x20.toInt ≤ 6 ∧ (0 ≤ x19.toInt ∨ x20.toInt = v12_opened.toInt)) ∧ (v12_fault.toInt < 0 ∨ 0 ≤ x19.toInt) ∧ (x19.toInt = 0) := ⟨(by omega), (by omega), (by omega), (by omega)⟩
    exact ret _ _ _ _ 1 (x18, x19, x20) dX12_compared_90 hpo hP hD hS
  have c14 := ci_ne c14
  refine lv_iload_n hx hb dX12_compared_23 rfl (lv_at hl 0 rfl) ?_
  refine lv_bipush (v := 61) hx hb dX12_compared_24 (by decide) ?_
  refine lv_icmp_eq (tgt := 37) hx hb dX12_compared_26 (by decide) (fun c32 => ?_) (fun c32 => ?_)
  · have c32 := ci_eq c32
    refine lv_aload_n hx hb dX12_compared_37 rfl (lv_at hl 2 rfl) ?_
    refine lv_dup hx hb dX12_compared_38 rfl ?_
    refine va_get (D := D) (ci := 12) (v := .int x1) (C := RX12) (T := TX12) (N := 63) hx hb hts w1 hown hK.1 hP 0 rfl rfl 48 (by decide) w2 (fun _ h9 => h9) rfl dX12_compared_39 ?_
    refine lv_iconst (v := 1) hx hb dX12_compared_42 (by decide) ?_
    refine lv_iadd hx hb dX12_compared_43 ?_
    refine lv_topi (fun x33 e34 => ?_)
    try have h35 : x33.toInt = x1.toInt + (1 : Int32).toInt := ci_add e34 (by omega) (by omega)
    refine va_put (D := D) (ci := 12) (v := .int x33) (ty := .int) (C := RX12) (T := TX12) (N := 63) hx hb hts w1 tyX12 tyX12_ok nmX12 hown hK.1 hP hD hS 0 rfl rfl 48 (by decide) w2 (fun _ h9 => h9) rfl (by decide +kernel) rfl rfl (Nat.le_of_ble_eq_true rfl) dX12_compared_44 (fun H locs hP hD hS => ?_)
    obtain ⟨hP, hD⟩ : PD D A [O12 a12 r12 v12_keptMany v12_done v12_sheets v12_holes v12_worms v12_laidMany v12_wanted v12_orderMany v12_firstOrder v12_lines v12_marks v12_dots v12_madeIn v12_bound v12_places v12_maps v12_tapeMany v12_stories v12_base x33 v12_ends x2 x3 v12_bodies v12_ran v12_ownKind v12_ownNumber, (cI κ (r12 41) 120 f12_tape), (cI κ (r12 45) 720 f12_text), (cI κ (r12 52) 8 f12_names)] H := ⟨hP, hD⟩
    refine lv_aload_n hx hb dX12_compared_47 rfl (lv_at hl 2 rfl) ?_
    refine kcm_i hA hAB hP hD hS [true, true, true, true] rfl (fun _ => rfl) (fun hPc hDc => va_runV (As := []) (rest := []) ⟨hx, hb, hml, hown, hts⟩ (h_sums a12 r12 v12_keptMany v12_done v12_sheets v12_holes v12_worms v12_laidMany v12_wanted v12_orderMany v12_firstOrder v12_lines v12_marks v12_dots v12_madeIn v12_bound v12_places v12_maps v12_tapeMany v12_stories v12_base x33 v12_ends x2 x3 v12_bodies v12_ran v12_ownKind v12_ownNumber f12_tape f12_text f12_names H.size i1 i2 i3 i4 i5 i6 i7 i8 i9 i10 i11 i12 i13 i14 i15 i16 i17 (by omega) (by omega) (by omega) (by omega) (by omega) (by omega) (by omega) (by omega) (by omega) (by omega) (by omega) (by omega) (by omega) (by omega) (by omega) (by omega) (by omega) (by omega) (by omega)) (cwV 0 hts gX12_compared_X12_sums rfl rfl rfl (by decide +kernel) ⟨by dsimp only; omega, by dsimp only; omega⟩) (pk_V hK hS hAB hPc hDc 0 (ci := 12) rfl rfl rfl) rfl rfl hl.1 rfl (lv_room (Nat.le_of_ble_eq_true rfl)) dX12_compared_48 ⟨Nat.le_of_ble_eq_true rfl, Nat.le_of_ble_eq_true rfl⟩) (fun x39 u40 H locs hw hPD hS => ?_)
    obtain ⟨x36, x37, x38⟩ := u40
    obtain ⟨h41, h42, h43, h44⟩ : (x33.toInt ≤ x36.toInt ∧ x36.toInt ≤ v12_ends.toInt) ∧ (x3.toInt ≤ x38.toInt ∧ x38.toInt ≤ 6 ∧ (0 ≤ x37.toInt ∨ x38.toInt = x3.toInt)) ∧ (x2.toInt < 0 ∨ 0 ≤ x37.toInt) ∧ (x37.toInt = 0) := hw
    obtain ⟨hP, hD⟩ : PD D A [O12 a12 r12 v12_keptMany v12_done v12_sheets v12_holes v12_worms v12_laidMany v12_wanted v12_orderMany v12_firstOrder v12_lines v12_marks v12_dots v12_madeIn v12_bound v12_places v12_maps v12_tapeMany v12_stories v12_base x36 v12_ends x37 x38 v12_bodies v12_ran v12_ownKind v12_ownNumber, (cI κ (r12 41) 120 f12_tape), (cI κ (r12 45) 720 f12_text), (cI κ (r12 52) 8 f12_names)] H := hPD
    refine lv_istore_n (lv' := [(3, .int x39), (2, .int x10), (1, .int x4), (0, .ref a12)]) hx hb dX12_compared_51 rfl hl (by decide) rfl (fun ls hl => ?_)
    refine lv_iload_n hx hb dX12_compared_52 rfl (lv_at hl 1 rfl) ?_
    refine lv_bipush (v := 60) hx hb dX12_compared_53 (by decide) ?_
    refine lv_icmp_ne (tgt := 66) hx hb dX12_compared_55 (by decide) (fun c45 => ?_) (fun c45 => ?_)
    · have c45 := ci_ne c45
      refine lv_iload_n hx hb dX12_compared_66 rfl (lv_at hl 1 rfl) ?_
      refine lv_bipush (v := 61) hx hb dX12_compared_67 (by decide) ?_
      refine lv_icmp_ne (tgt := 80) hx hb dX12_compared_69 (by decide) (fun c46 => ?_) (fun c46 => ?_)
      · have c46 := ci_ne c46
        refine lv_iload_n hx hb dX12_compared_80 rfl (lv_at hl 2 rfl) ?_
        refine lv_iload_n hx hb dX12_compared_81 rfl (lv_at hl 0 rfl) ?_
        refine lv_icmp_le (tgt := 89) hx hb dX12_compared_82 (by decide) (fun c47 => ?_) (fun c47 => ?_)
        · have c47 := ci_le c47
          refine lv_iconst (v := 0) hx hb dX12_compared_89 (by decide) ?_
          have hpo : (v12_at.toInt ≤ x36.toInt ∧ x36.toInt ≤ v12_ends.toInt) ∧ (v12_opened.toInt ≤ x38.toInt ∧ x38.toInt ≤ 6 ∧ (0 ≤ x37.toInt ∨ x38.toInt = v12_opened.toInt)) ∧ (v12_fault.toInt < 0 ∨ 0 ≤ x37.toInt) ∧ (x37.toInt = 0) := ⟨(by omega), (by omega), (by omega), (by omega)⟩
          exact ret _ _ _ _ 0 (x36, x37, x38) dX12_compared_90 hpo hP hD hS
        have c47 := ci_nle c47
        refine lv_iconst (v := 1) hx hb dX12_compared_85 (by decide) ?_
        refine lv_goto (tgt := 90) hx hb dX12_compared_86 (by decide) ?_
        have hpo : (v12_at.toInt ≤ x36.toInt ∧ x36.toInt ≤ v12_ends.toInt) ∧ (v12_opened.toInt ≤ x38.toInt ∧ x38.toInt ≤ 6 ∧ (0 ≤ x37.toInt ∨ x38.toInt = v12_opened.toInt)) ∧ (v12_fault.toInt < 0 ∨ 0 ≤ x37.toInt) ∧ (x37.toInt = 0) := ⟨(by omega), (by omega), (by omega), (by omega)⟩
        exact ret _ _ _ _ 1 (x36, x37, x38) dX12_compared_90 hpo hP hD hS
      have c46 := ci_eq c46
      refine lv_iload_n hx hb dX12_compared_72 rfl (lv_at hl 2 rfl) ?_
      refine lv_iload_n hx hb dX12_compared_73 rfl (lv_at hl 0 rfl) ?_
      refine lv_icmp_ne (tgt := 89) hx hb dX12_compared_74 (by decide) (fun c48 => ?_) (fun c48 => ?_)
      · have c48 := ci_ne c48
        refine lv_iconst (v := 0) hx hb dX12_compared_89 (by decide) ?_
        have hpo : (v12_at.toInt ≤ x36.toInt ∧ x36.toInt ≤ v12_ends.toInt) ∧ (v12_opened.toInt ≤ x38.toInt ∧ x38.toInt ≤ 6 ∧ (0 ≤ x37.toInt ∨ x38.toInt = v12_opened.toInt)) ∧ (v12_fault.toInt < 0 ∨ 0 ≤ x37.toInt) ∧ (x37.toInt = 0) := ⟨(by omega), (by omega), (by omega), (by omega)⟩
        exact ret _ _ _ _ 0 (x36, x37, x38) dX12_compared_90 hpo hP hD hS
      have c48 := ci_eq c48
      refine lv_goto (tgt := 85) hx hb dX12_compared_77 (by decide) ?_
      refine lv_iconst (v := 1) hx hb dX12_compared_85 (by decide) ?_
      refine lv_goto (tgt := 90) hx hb dX12_compared_86 (by decide) ?_
      have hpo : (v12_at.toInt ≤ x36.toInt ∧ x36.toInt ≤ v12_ends.toInt) ∧ (v12_opened.toInt ≤ x38.toInt ∧ x38.toInt ≤ 6 ∧ (0 ≤ x37.toInt ∨ x38.toInt = v12_opened.toInt)) ∧ (v12_fault.toInt < 0 ∨ 0 ≤ x37.toInt) ∧ (x37.toInt = 0) := ⟨(by omega), (by omega), (by omega), (by omega)⟩
      exact ret _ _ _ _ 1 (x36, x37, x38) dX12_compared_90 hpo hP hD hS
    have c45 := ci_eq c45
    refine lv_iload_n hx hb dX12_compared_58 rfl (lv_at hl 2 rfl) ?_
    refine lv_iload_n hx hb dX12_compared_59 rfl (lv_at hl 0 rfl) ?_
    refine lv_icmp_ge (tgt := 89) hx hb dX12_compared_60 (by decide) (fun c49 => ?_) (fun c49 => ?_)
    · have c49 := ci_le c49
      refine lv_iconst (v := 0) hx hb dX12_compared_89 (by decide) ?_
      have hpo : (v12_at.toInt ≤ x36.toInt ∧ x36.toInt ≤ v12_ends.toInt) ∧ (v12_opened.toInt ≤ x38.toInt ∧ x38.toInt ≤ 6 ∧ (0 ≤ x37.toInt ∨ x38.toInt = v12_opened.toInt)) ∧ (v12_fault.toInt < 0 ∨ 0 ≤ x37.toInt) ∧ (x37.toInt = 0) := ⟨(by omega), (by omega), (by omega), (by omega)⟩
      exact ret _ _ _ _ 0 (x36, x37, x38) dX12_compared_90 hpo hP hD hS
    have c49 := ci_nle c49
    refine lv_goto (tgt := 85) hx hb dX12_compared_63 (by decide) ?_
    refine lv_iconst (v := 1) hx hb dX12_compared_85 (by decide) ?_
    refine lv_goto (tgt := 90) hx hb dX12_compared_86 (by decide) ?_
    have hpo : (v12_at.toInt ≤ x36.toInt ∧ x36.toInt ≤ v12_ends.toInt) ∧ (v12_opened.toInt ≤ x38.toInt ∧ x38.toInt ≤ 6 ∧ (0 ≤ x37.toInt ∨ x38.toInt = v12_opened.toInt)) ∧ (v12_fault.toInt < 0 ∨ 0 ≤ x37.toInt) ∧ (x37.toInt = 0) := ⟨(by omega), (by omega), (by omega), (by omega)⟩
    exact ret _ _ _ _ 1 (x36, x37, x38) dX12_compared_90 hpo hP hD hS
  have c32 := ci_ne c32
  refine lv_iload_n hx hb dX12_compared_29 rfl (lv_at hl 0 rfl) ?_
  refine lv_bipush (v := 62) hx hb dX12_compared_30 (by decide) ?_
  refine lv_icmp_eq (tgt := 37) hx hb dX12_compared_32 (by decide) (fun c50 => ?_) (fun c50 => ?_)
  · have c50 := ci_eq c50
    refine lv_aload_n hx hb dX12_compared_37 rfl (lv_at hl 2 rfl) ?_
    refine lv_dup hx hb dX12_compared_38 rfl ?_
    refine va_get (D := D) (ci := 12) (v := .int x1) (C := RX12) (T := TX12) (N := 63) hx hb hts w1 hown hK.1 hP 0 rfl rfl 48 (by decide) w2 (fun _ h9 => h9) rfl dX12_compared_39 ?_
    refine lv_iconst (v := 1) hx hb dX12_compared_42 (by decide) ?_
    refine lv_iadd hx hb dX12_compared_43 ?_
    refine lv_topi (fun x51 e52 => ?_)
    try have h53 : x51.toInt = x1.toInt + (1 : Int32).toInt := ci_add e52 (by omega) (by omega)
    refine va_put (D := D) (ci := 12) (v := .int x51) (ty := .int) (C := RX12) (T := TX12) (N := 63) hx hb hts w1 tyX12 tyX12_ok nmX12 hown hK.1 hP hD hS 0 rfl rfl 48 (by decide) w2 (fun _ h9 => h9) rfl (by decide +kernel) rfl rfl (Nat.le_of_ble_eq_true rfl) dX12_compared_44 (fun H locs hP hD hS => ?_)
    obtain ⟨hP, hD⟩ : PD D A [O12 a12 r12 v12_keptMany v12_done v12_sheets v12_holes v12_worms v12_laidMany v12_wanted v12_orderMany v12_firstOrder v12_lines v12_marks v12_dots v12_madeIn v12_bound v12_places v12_maps v12_tapeMany v12_stories v12_base x51 v12_ends x2 x3 v12_bodies v12_ran v12_ownKind v12_ownNumber, (cI κ (r12 41) 120 f12_tape), (cI κ (r12 45) 720 f12_text), (cI κ (r12 52) 8 f12_names)] H := ⟨hP, hD⟩
    refine lv_aload_n hx hb dX12_compared_47 rfl (lv_at hl 2 rfl) ?_
    refine kcm_i hA hAB hP hD hS [true, true, true, true] rfl (fun _ => rfl) (fun hPc hDc => va_runV (As := []) (rest := []) ⟨hx, hb, hml, hown, hts⟩ (h_sums a12 r12 v12_keptMany v12_done v12_sheets v12_holes v12_worms v12_laidMany v12_wanted v12_orderMany v12_firstOrder v12_lines v12_marks v12_dots v12_madeIn v12_bound v12_places v12_maps v12_tapeMany v12_stories v12_base x51 v12_ends x2 x3 v12_bodies v12_ran v12_ownKind v12_ownNumber f12_tape f12_text f12_names H.size i1 i2 i3 i4 i5 i6 i7 i8 i9 i10 i11 i12 i13 i14 i15 i16 i17 (by omega) (by omega) (by omega) (by omega) (by omega) (by omega) (by omega) (by omega) (by omega) (by omega) (by omega) (by omega) (by omega) (by omega) (by omega) (by omega) (by omega) (by omega) (by omega)) (cwV 0 hts gX12_compared_X12_sums rfl rfl rfl (by decide +kernel) ⟨by dsimp only; omega, by dsimp only; omega⟩) (pk_V hK hS hAB hPc hDc 0 (ci := 12) rfl rfl rfl) rfl rfl hl.1 rfl (lv_room (Nat.le_of_ble_eq_true rfl)) dX12_compared_48 ⟨Nat.le_of_ble_eq_true rfl, Nat.le_of_ble_eq_true rfl⟩) (fun x57 u58 H locs hw hPD hS => ?_)
    obtain ⟨x54, x55, x56⟩ := u58
    obtain ⟨h59, h60, h61, h62⟩ : (x51.toInt ≤ x54.toInt ∧ x54.toInt ≤ v12_ends.toInt) ∧ (x3.toInt ≤ x56.toInt ∧ x56.toInt ≤ 6 ∧ (0 ≤ x55.toInt ∨ x56.toInt = x3.toInt)) ∧ (x2.toInt < 0 ∨ 0 ≤ x55.toInt) ∧ (x55.toInt = 0) := hw
    obtain ⟨hP, hD⟩ : PD D A [O12 a12 r12 v12_keptMany v12_done v12_sheets v12_holes v12_worms v12_laidMany v12_wanted v12_orderMany v12_firstOrder v12_lines v12_marks v12_dots v12_madeIn v12_bound v12_places v12_maps v12_tapeMany v12_stories v12_base x54 v12_ends x55 x56 v12_bodies v12_ran v12_ownKind v12_ownNumber, (cI κ (r12 41) 120 f12_tape), (cI κ (r12 45) 720 f12_text), (cI κ (r12 52) 8 f12_names)] H := hPD
    refine lv_istore_n (lv' := [(3, .int x57), (2, .int x10), (1, .int x4), (0, .ref a12)]) hx hb dX12_compared_51 rfl hl (by decide) rfl (fun ls hl => ?_)
    refine lv_iload_n hx hb dX12_compared_52 rfl (lv_at hl 1 rfl) ?_
    refine lv_bipush (v := 60) hx hb dX12_compared_53 (by decide) ?_
    refine lv_icmp_ne (tgt := 66) hx hb dX12_compared_55 (by decide) (fun c63 => ?_) (fun c63 => ?_)
    · have c63 := ci_ne c63
      refine lv_iload_n hx hb dX12_compared_66 rfl (lv_at hl 1 rfl) ?_
      refine lv_bipush (v := 61) hx hb dX12_compared_67 (by decide) ?_
      refine lv_icmp_ne (tgt := 80) hx hb dX12_compared_69 (by decide) (fun c64 => ?_) (fun c64 => ?_)
      · have c64 := ci_ne c64
        refine lv_iload_n hx hb dX12_compared_80 rfl (lv_at hl 2 rfl) ?_
        refine lv_iload_n hx hb dX12_compared_81 rfl (lv_at hl 0 rfl) ?_
        refine lv_icmp_le (tgt := 89) hx hb dX12_compared_82 (by decide) (fun c65 => ?_) (fun c65 => ?_)
        · have c65 := ci_le c65
          refine lv_iconst (v := 0) hx hb dX12_compared_89 (by decide) ?_
          have hpo : (v12_at.toInt ≤ x54.toInt ∧ x54.toInt ≤ v12_ends.toInt) ∧ (v12_opened.toInt ≤ x56.toInt ∧ x56.toInt ≤ 6 ∧ (0 ≤ x55.toInt ∨ x56.toInt = v12_opened.toInt)) ∧ (v12_fault.toInt < 0 ∨ 0 ≤ x55.toInt) ∧ (x55.toInt = 0) := ⟨(by omega), (by omega), (by omega), (by omega)⟩
          exact ret _ _ _ _ 0 (x54, x55, x56) dX12_compared_90 hpo hP hD hS
        have c65 := ci_nle c65
        refine lv_iconst (v := 1) hx hb dX12_compared_85 (by decide) ?_
        refine lv_goto (tgt := 90) hx hb dX12_compared_86 (by decide) ?_
        have hpo : (v12_at.toInt ≤ x54.toInt ∧ x54.toInt ≤ v12_ends.toInt) ∧ (v12_opened.toInt ≤ x56.toInt ∧ x56.toInt ≤ 6 ∧ (0 ≤ x55.toInt ∨ x56.toInt = v12_opened.toInt)) ∧ (v12_fault.toInt < 0 ∨ 0 ≤ x55.toInt) ∧ (x55.toInt = 0) := ⟨(by omega), (by omega), (by omega), (by omega)⟩
        exact ret _ _ _ _ 1 (x54, x55, x56) dX12_compared_90 hpo hP hD hS
      have c64 := ci_eq c64
      refine lv_iload_n hx hb dX12_compared_72 rfl (lv_at hl 2 rfl) ?_
      refine lv_iload_n hx hb dX12_compared_73 rfl (lv_at hl 0 rfl) ?_
      refine lv_icmp_ne (tgt := 89) hx hb dX12_compared_74 (by decide) (fun c66 => ?_) (fun c66 => ?_)
      · have c66 := ci_ne c66
        refine lv_iconst (v := 0) hx hb dX12_compared_89 (by decide) ?_
        have hpo : (v12_at.toInt ≤ x54.toInt ∧ x54.toInt ≤ v12_ends.toInt) ∧ (v12_opened.toInt ≤ x56.toInt ∧ x56.toInt ≤ 6 ∧ (0 ≤ x55.toInt ∨ x56.toInt = v12_opened.toInt)) ∧ (v12_fault.toInt < 0 ∨ 0 ≤ x55.toInt) ∧ (x55.toInt = 0) := ⟨(by omega), (by omega), (by omega), (by omega)⟩
        exact ret _ _ _ _ 0 (x54, x55, x56) dX12_compared_90 hpo hP hD hS
      have c66 := ci_eq c66
      refine lv_goto (tgt := 85) hx hb dX12_compared_77 (by decide) ?_
      refine lv_iconst (v := 1) hx hb dX12_compared_85 (by decide) ?_
      refine lv_goto (tgt := 90) hx hb dX12_compared_86 (by decide) ?_
      have hpo : (v12_at.toInt ≤ x54.toInt ∧ x54.toInt ≤ v12_ends.toInt) ∧ (v12_opened.toInt ≤ x56.toInt ∧ x56.toInt ≤ 6 ∧ (0 ≤ x55.toInt ∨ x56.toInt = v12_opened.toInt)) ∧ (v12_fault.toInt < 0 ∨ 0 ≤ x55.toInt) ∧ (x55.toInt = 0) := ⟨(by omega), (by omega), (by omega), (by omega)⟩
      exact ret _ _ _ _ 1 (x54, x55, x56) dX12_compared_90 hpo hP hD hS
    have c63 := ci_eq c63
    refine lv_iload_n hx hb dX12_compared_58 rfl (lv_at hl 2 rfl) ?_
    refine lv_iload_n hx hb dX12_compared_59 rfl (lv_at hl 0 rfl) ?_
    refine lv_icmp_ge (tgt := 89) hx hb dX12_compared_60 (by decide) (fun c67 => ?_) (fun c67 => ?_)
    · have c67 := ci_le c67
      refine lv_iconst (v := 0) hx hb dX12_compared_89 (by decide) ?_
      have hpo : (v12_at.toInt ≤ x54.toInt ∧ x54.toInt ≤ v12_ends.toInt) ∧ (v12_opened.toInt ≤ x56.toInt ∧ x56.toInt ≤ 6 ∧ (0 ≤ x55.toInt ∨ x56.toInt = v12_opened.toInt)) ∧ (v12_fault.toInt < 0 ∨ 0 ≤ x55.toInt) ∧ (x55.toInt = 0) := ⟨(by omega), (by omega), (by omega), (by omega)⟩
      exact ret _ _ _ _ 0 (x54, x55, x56) dX12_compared_90 hpo hP hD hS
    have c67 := ci_nle c67
    refine lv_goto (tgt := 85) hx hb dX12_compared_63 (by decide) ?_
    refine lv_iconst (v := 1) hx hb dX12_compared_85 (by decide) ?_
    refine lv_goto (tgt := 90) hx hb dX12_compared_86 (by decide) ?_
    have hpo : (v12_at.toInt ≤ x54.toInt ∧ x54.toInt ≤ v12_ends.toInt) ∧ (v12_opened.toInt ≤ x56.toInt ∧ x56.toInt ≤ 6 ∧ (0 ≤ x55.toInt ∨ x56.toInt = v12_opened.toInt)) ∧ (v12_fault.toInt < 0 ∨ 0 ≤ x55.toInt) ∧ (x55.toInt = 0) := ⟨(by omega), (by omega), (by omega), (by omega)⟩
    exact ret _ _ _ _ 1 (x54, x55, x56) dX12_compared_90 hpo hP hD hS
  have c50 := ci_ne c50
  refine lv_iload_n hx hb dX12_compared_35 rfl (lv_at hl 1 rfl) ?_
  have hpo : (v12_at.toInt ≤ x1.toInt ∧ x1.toInt ≤ v12_ends.toInt) ∧ (v12_opened.toInt ≤ x3.toInt ∧ x3.toInt ≤ 6 ∧ (0 ≤ x2.toInt ∨ x3.toInt = v12_opened.toInt)) ∧ (v12_fault.toInt < 0 ∨ 0 ≤ x2.toInt) ∧ (x2.toInt = 0) := ⟨(by omega), (by omega), (by omega), (by omega)⟩
  exact ret _ _ _ _ x4 (x1, x2, x3) dX12_compared_36 hpo hP hD hS
set_option maxHeartbeats 4000000 in
set_option maxRecDepth 100000 in
theorem of_X12_both (l : Launch) (D : va_G) (κ : Nat → ClassId) (β d : Nat) (h_compared : C_X12_compared l D κ β d) : C_X12_both l D κ β d := by
  intro a12 r12 v12_keptMany v12_done v12_sheets v12_holes v12_worms v12_laidMany v12_wanted v12_orderMany v12_firstOrder v12_lines v12_marks v12_dots v12_madeIn v12_bound v12_places v12_maps v12_tapeMany v12_stories v12_base v12_at v12_ends v12_fault v12_opened v12_bodies v12_ran v12_ownKind v12_ownNumber f12_tape f12_text f12_names sz i1 i2 i3 i4 i5 i6 i7 i8 i9 i10 i11 i12 i13 i14 i15 i16 i17 i18 i19 i20 i21 i22 i23 i24 i25 i26 i27 i28 i29 i30 i31 i32 i33 i34 i35 i36
  refine ofK_i (cc := cX12_both) (maxL := 3) (own := RX12) (by decide) rfl rfl (Nat.le_of_ble_eq_true rfl) ?_
  intro p e s m args below meth c Q A ls hsz hx hb hml hts hown hK hA hAB hP hD hl ret
  have hS : va_S A s.heap s.heap [] := va_S.rf
  have hl : lv_has ls 3 [(0, .ref a12)] := hl
  have l0 : (38 : Int32).toInt = 38 := by decide
  have l1 : (0 : Int32).toInt = 0 := by decide
  refine lv_aload_n hx hb dX12_both_0 rfl (lv_at hl 0 rfl) ?_
  refine kcm_i hA hAB hP hD hS [true, true, true, true] rfl (fun _ => rfl) (fun hPc hDc => va_runV (As := []) (rest := []) ⟨hx, hb, hml, hown, hts⟩ (h_compared a12 r12 v12_keptMany v12_done v12_sheets v12_holes v12_worms v12_laidMany v12_wanted v12_orderMany v12_firstOrder v12_lines v12_marks v12_dots v12_madeIn v12_bound v12_places v12_maps v12_tapeMany v12_stories v12_base v12_at v12_ends v12_fault v12_opened v12_bodies v12_ran v12_ownKind v12_ownNumber f12_tape f12_text f12_names s.heap.size i1 i2 i3 i4 i5 i6 i7 i8 i9 i10 i11 i12 i13 i14 i15 i16 i17 (by omega) (by omega) (by omega) (by omega) (by omega) (by omega) (by omega) (by omega) (by omega) (by omega) (by omega) (by omega) (by omega) (by omega) (by omega) (by omega) (by omega) (by omega) (by omega)) (cwV 0 hts gX12_both_X12_compared rfl rfl rfl (by decide +kernel) ⟨by dsimp only; omega, by dsimp only; omega⟩) (pk_V hK hS hAB hPc hDc 0 (ci := 12) rfl rfl rfl) rfl rfl hl.1 rfl (lv_room (Nat.le_of_ble_eq_true rfl)) dX12_both_1 ⟨Nat.le_of_ble_eq_true rfl, Nat.le_of_ble_eq_true rfl⟩) (fun x4 u5 H locs hw hPD hS => ?_)
  obtain ⟨x1, x2, x3⟩ := u5
  obtain ⟨h6, h7, h8, h9⟩ : (v12_at.toInt ≤ x1.toInt ∧ x1.toInt ≤ v12_ends.toInt) ∧ (v12_opened.toInt ≤ x3.toInt ∧ x3.toInt ≤ 6 ∧ (0 ≤ x2.toInt ∨ x3.toInt = v12_opened.toInt)) ∧ (v12_fault.toInt < 0 ∨ 0 ≤ x2.toInt) ∧ (x2.toInt = 0) := hw
  obtain ⟨hP, hD⟩ : PD D A [O12 a12 r12 v12_keptMany v12_done v12_sheets v12_holes v12_worms v12_laidMany v12_wanted v12_orderMany v12_firstOrder v12_lines v12_marks v12_dots v12_madeIn v12_bound v12_places v12_maps v12_tapeMany v12_stories v12_base x1 v12_ends x2 x3 v12_bodies v12_ran v12_ownKind v12_ownNumber, (cI κ (r12 41) 120 f12_tape), (cI κ (r12 45) 720 f12_text), (cI κ (r12 52) 8 f12_names)] H := hPD
  refine lv_istore_n (lv' := [(1, .int x4), (0, .ref a12)]) hx hb dX12_both_4 rfl hl (by decide) rfl (fun ls hl => ?_)
  have lp5 : ∀ (n5 : Nat) (v10 : Int32), (v12_at.toInt ≤ v10.toInt ∧ v10.toInt ≤ v12_ends.toInt) → (v12_opened.toInt ≤ x3.toInt ∧ x3.toInt ≤ 6 ∧ (0 ≤ x2.toInt ∨ x3.toInt = v12_opened.toInt)) → (v12_fault.toInt < 0 ∨ 0 ≤ x2.toInt) → (x2.toInt = 0) → (v12_ends.toInt - v10.toInt).toNat < n5 → ∀ (H : Heap) (locs : List Loc), va_P D vwCl [O12 a12 r12 v12_keptMany v12_done v12_sheets v12_holes v12_worms v12_laidMany v12_wanted v12_orderMany v12_firstOrder v12_lines v12_marks v12_dots v12_madeIn v12_bound v12_places v12_maps v12_tapeMany v12_stories v12_base v10 v12_ends x2 x3 v12_bodies v12_ran v12_ownKind v12_ownNumber, (cI κ (r12 41) 120 f12_tape), (cI κ (r12 45) 720 f12_text), (cI κ (r12 52) 8 f12_names)] H → va_D A [O12 a12 r12 v12_keptMany v12_done v12_sheets v12_holes v12_worms v12_laidMany v12_wanted v12_orderMany v12_firstOrder v12_lines v12_marks v12_dots v12_madeIn v12_bound v12_places v12_maps v12_tapeMany v12_stories v12_base v10 v12_ends x2 x3 v12_bodies v12_ran v12_ownKind v12_ownNumber, (cI κ (r12 41) 120 f12_tape), (cI κ (r12 45) 720 f12_text), (cI κ (r12 52) 8 f12_names)] → va_S A s.heap H locs → ∀ ls : Array Slot, lv_has ls 3 [(1, .int x4), (0, .ref a12)] → W p l e ({ frames := 6 * d + 6, cells := 0, slots := 0, locals := 137 * d + 153 } : Room) s m args below meth c H locs 0 0 Q (F0 m 5 ls []) := by
    intro n5
    induction n5 with
    | zero =>
      intro v10 h11 h12 h13 h14 m15
      exact absurd m15 (Nat.not_lt_zero _)
    | succ n5 ih5 =>
      intro v10 h11 h12 h13 h14 m15 H locs hP hD hS ls hl
      refine lv_aload_n hx hb dX12_both_5 rfl (lv_at hl 1 rfl) ?_
      refine lv_bipush (v := 38) hx hb dX12_both_6 (by decide) ?_
      refine kcm_i hA hAB hP hD hS [true, true, true, false] rfl (fun _ => rfl) (fun hPc hDc => va_runV (As := [.int 38]) (rest := []) ⟨hx, hb, hml, hown, hts⟩ (k_X12_takes l D κ β a12 r12 v12_keptMany v12_done v12_sheets v12_holes v12_worms v12_laidMany v12_wanted v12_orderMany v12_firstOrder v12_lines v12_marks v12_dots v12_madeIn v12_bound v12_places v12_maps v12_tapeMany v12_stories v12_base v10 v12_ends x2 x3 v12_bodies v12_ran v12_ownKind v12_ownNumber f12_tape f12_text H.size 38 i1 i2 i3 i4 i5 i6 i7 i8 i9 i10 i11 i12 i13 i14 i15 i16 i17 (by omega) (by omega) (by omega) (by omega) (by omega) (by omega) (by omega) (by omega) (by omega) (by omega) (by omega) (by omega) (by omega) (by omega) (by omega) (by omega)) (cwV 1 hts gX12_both_X12_takes rfl rfl rfl (by decide +kernel) ⟨by dsimp only; omega, by dsimp only; omega⟩) (pk_V hK hS hAB hPc hDc 0 (ci := 12) rfl rfl rfl) rfl rfl hl.1 rfl (lv_room (Nat.le_of_ble_eq_true rfl)) dX12_both_8 ⟨Nat.le_of_ble_eq_true rfl, Nat.le_of_ble_eq_true rfl⟩) (fun x17 x16 H locs hw hPD hS => ?_)
      have h18 : (x17.toInt = 1 ∧ x2.toInt < 0 ∧ v10.toInt < v12_ends.toInt ∧ x16.toInt = v10.toInt + 1) ∨ (x17.toInt = 0 ∧ x16.toInt = v10.toInt) := hw
      obtain ⟨hP, hD⟩ : PD D A [O12 a12 r12 v12_keptMany v12_done v12_sheets v12_holes v12_worms v12_laidMany v12_wanted v12_orderMany v12_firstOrder v12_lines v12_marks v12_dots v12_madeIn v12_bound v12_places v12_maps v12_tapeMany v12_stories v12_base x16 v12_ends x2 x3 v12_bodies v12_ran v12_ownKind v12_ownNumber, (cI κ (r12 41) 120 f12_tape), (cI κ (r12 45) 720 f12_text), (cI κ (r12 52) 8 f12_names)] H := hPD
      refine lv_if_eq (tgt := 36) hx hb dX12_both_11 (by decide) (fun c19 => ?_) (fun c19 => ?_)
      · have c19 := ci_eq c19
        refine lv_iload_n hx hb dX12_both_36 rfl (lv_at hl 0 rfl) ?_
        have hpo : (v12_at.toInt ≤ x16.toInt ∧ x16.toInt ≤ v12_ends.toInt) ∧ (v12_opened.toInt ≤ x3.toInt ∧ x3.toInt ≤ 6 ∧ (0 ≤ x2.toInt ∨ x3.toInt = v12_opened.toInt)) ∧ (v12_fault.toInt < 0 ∨ 0 ≤ x2.toInt) ∧ (x2.toInt = 0) := ⟨(by omega), (by omega), (by omega), (by omega)⟩
        exact ret _ _ _ _ x4 (x16, x2, x3) dX12_both_37 hpo hP hD hS
      have c19 := ci_ne c19
      exfalso
      omega
  exact lp5 ((v12_ends.toInt - x1.toInt).toNat + 1) x1 (by omega) (by omega) (by omega) (by omega) (by omega) _ _ hP hD hS _ hl
set_option maxHeartbeats 4000000 in
set_option maxRecDepth 100000 in
theorem of_X12_either (l : Launch) (D : va_G) (κ : Nat → ClassId) (β d : Nat) (h_both : C_X12_both l D κ β d) : C_X12_either l D κ β d := by
  intro a12 r12 v12_keptMany v12_done v12_sheets v12_holes v12_worms v12_laidMany v12_wanted v12_orderMany v12_firstOrder v12_lines v12_marks v12_dots v12_madeIn v12_bound v12_places v12_maps v12_tapeMany v12_stories v12_base v12_at v12_ends v12_fault v12_opened v12_bodies v12_ran v12_ownKind v12_ownNumber f12_tape f12_text f12_names sz i1 i2 i3 i4 i5 i6 i7 i8 i9 i10 i11 i12 i13 i14 i15 i16 i17 i18 i19 i20 i21 i22 i23 i24 i25 i26 i27 i28 i29 i30 i31 i32 i33 i34 i35 i36
  refine ofK_i (cc := cX12_either) (maxL := 3) (own := RX12) (by decide) rfl rfl (Nat.le_of_ble_eq_true rfl) ?_
  intro p e s m args below meth c Q A ls hsz hx hb hml hts hown hK hA hAB hP hD hl ret
  have hS : va_S A s.heap s.heap [] := va_S.rf
  have hl : lv_has ls 3 [(0, .ref a12)] := hl
  have l0 : (124 : Int32).toInt = 124 := by decide
  have l1 : (0 : Int32).toInt = 0 := by decide
  refine lv_aload_n hx hb dX12_either_0 rfl (lv_at hl 0 rfl) ?_
  refine kcm_i hA hAB hP hD hS [true, true, true, true] rfl (fun _ => rfl) (fun hPc hDc => va_runV (As := []) (rest := []) ⟨hx, hb, hml, hown, hts⟩ (h_both a12 r12 v12_keptMany v12_done v12_sheets v12_holes v12_worms v12_laidMany v12_wanted v12_orderMany v12_firstOrder v12_lines v12_marks v12_dots v12_madeIn v12_bound v12_places v12_maps v12_tapeMany v12_stories v12_base v12_at v12_ends v12_fault v12_opened v12_bodies v12_ran v12_ownKind v12_ownNumber f12_tape f12_text f12_names s.heap.size i1 i2 i3 i4 i5 i6 i7 i8 i9 i10 i11 i12 i13 i14 i15 i16 i17 (by omega) (by omega) (by omega) (by omega) (by omega) (by omega) (by omega) (by omega) (by omega) (by omega) (by omega) (by omega) (by omega) (by omega) (by omega) (by omega) (by omega) (by omega) (by omega)) (cwV 0 hts gX12_either_X12_both rfl rfl rfl (by decide +kernel) ⟨by dsimp only; omega, by dsimp only; omega⟩) (pk_V hK hS hAB hPc hDc 0 (ci := 12) rfl rfl rfl) rfl rfl hl.1 rfl (lv_room (Nat.le_of_ble_eq_true rfl)) dX12_either_1 ⟨Nat.le_of_ble_eq_true rfl, Nat.le_of_ble_eq_true rfl⟩) (fun x4 u5 H locs hw hPD hS => ?_)
  obtain ⟨x1, x2, x3⟩ := u5
  obtain ⟨h6, h7, h8, h9⟩ : (v12_at.toInt ≤ x1.toInt ∧ x1.toInt ≤ v12_ends.toInt) ∧ (v12_opened.toInt ≤ x3.toInt ∧ x3.toInt ≤ 6 ∧ (0 ≤ x2.toInt ∨ x3.toInt = v12_opened.toInt)) ∧ (v12_fault.toInt < 0 ∨ 0 ≤ x2.toInt) ∧ (x2.toInt = 0) := hw
  obtain ⟨hP, hD⟩ : PD D A [O12 a12 r12 v12_keptMany v12_done v12_sheets v12_holes v12_worms v12_laidMany v12_wanted v12_orderMany v12_firstOrder v12_lines v12_marks v12_dots v12_madeIn v12_bound v12_places v12_maps v12_tapeMany v12_stories v12_base x1 v12_ends x2 x3 v12_bodies v12_ran v12_ownKind v12_ownNumber, (cI κ (r12 41) 120 f12_tape), (cI κ (r12 45) 720 f12_text), (cI κ (r12 52) 8 f12_names)] H := hPD
  refine lv_istore_n (lv' := [(1, .int x4), (0, .ref a12)]) hx hb dX12_either_4 rfl hl (by decide) rfl (fun ls hl => ?_)
  have lp5 : ∀ (n5 : Nat) (v10 : Int32), (v12_at.toInt ≤ v10.toInt ∧ v10.toInt ≤ v12_ends.toInt) → (v12_opened.toInt ≤ x3.toInt ∧ x3.toInt ≤ 6 ∧ (0 ≤ x2.toInt ∨ x3.toInt = v12_opened.toInt)) → (v12_fault.toInt < 0 ∨ 0 ≤ x2.toInt) → (x2.toInt = 0) → (v12_ends.toInt - v10.toInt).toNat < n5 → ∀ (H : Heap) (locs : List Loc), va_P D vwCl [O12 a12 r12 v12_keptMany v12_done v12_sheets v12_holes v12_worms v12_laidMany v12_wanted v12_orderMany v12_firstOrder v12_lines v12_marks v12_dots v12_madeIn v12_bound v12_places v12_maps v12_tapeMany v12_stories v12_base v10 v12_ends x2 x3 v12_bodies v12_ran v12_ownKind v12_ownNumber, (cI κ (r12 41) 120 f12_tape), (cI κ (r12 45) 720 f12_text), (cI κ (r12 52) 8 f12_names)] H → va_D A [O12 a12 r12 v12_keptMany v12_done v12_sheets v12_holes v12_worms v12_laidMany v12_wanted v12_orderMany v12_firstOrder v12_lines v12_marks v12_dots v12_madeIn v12_bound v12_places v12_maps v12_tapeMany v12_stories v12_base v10 v12_ends x2 x3 v12_bodies v12_ran v12_ownKind v12_ownNumber, (cI κ (r12 41) 120 f12_tape), (cI κ (r12 45) 720 f12_text), (cI κ (r12 52) 8 f12_names)] → va_S A s.heap H locs → ∀ ls : Array Slot, lv_has ls 3 [(1, .int x4), (0, .ref a12)] → W p l e ({ frames := 6 * d + 7, cells := 0, slots := 0, locals := 137 * d + 175 } : Room) s m args below meth c H locs 0 0 Q (F0 m 5 ls []) := by
    intro n5
    induction n5 with
    | zero =>
      intro v10 h11 h12 h13 h14 m15
      exact absurd m15 (Nat.not_lt_zero _)
    | succ n5 ih5 =>
      intro v10 h11 h12 h13 h14 m15 H locs hP hD hS ls hl
      refine lv_aload_n hx hb dX12_either_5 rfl (lv_at hl 1 rfl) ?_
      refine lv_bipush (v := 124) hx hb dX12_either_6 (by decide) ?_
      refine kcm_i hA hAB hP hD hS [true, true, true, false] rfl (fun _ => rfl) (fun hPc hDc => va_runV (As := [.int 124]) (rest := []) ⟨hx, hb, hml, hown, hts⟩ (k_X12_takes l D κ β a12 r12 v12_keptMany v12_done v12_sheets v12_holes v12_worms v12_laidMany v12_wanted v12_orderMany v12_firstOrder v12_lines v12_marks v12_dots v12_madeIn v12_bound v12_places v12_maps v12_tapeMany v12_stories v12_base v10 v12_ends x2 x3 v12_bodies v12_ran v12_ownKind v12_ownNumber f12_tape f12_text H.size 124 i1 i2 i3 i4 i5 i6 i7 i8 i9 i10 i11 i12 i13 i14 i15 i16 i17 (by omega) (by omega) (by omega) (by omega) (by omega) (by omega) (by omega) (by omega) (by omega) (by omega) (by omega) (by omega) (by omega) (by omega) (by omega) (by omega)) (cwV 1 hts gX12_either_X12_takes rfl rfl rfl (by decide +kernel) ⟨by dsimp only; omega, by dsimp only; omega⟩) (pk_V hK hS hAB hPc hDc 0 (ci := 12) rfl rfl rfl) rfl rfl hl.1 rfl (lv_room (Nat.le_of_ble_eq_true rfl)) dX12_either_8 ⟨Nat.le_of_ble_eq_true rfl, Nat.le_of_ble_eq_true rfl⟩) (fun x17 x16 H locs hw hPD hS => ?_)
      have h18 : (x17.toInt = 1 ∧ x2.toInt < 0 ∧ v10.toInt < v12_ends.toInt ∧ x16.toInt = v10.toInt + 1) ∨ (x17.toInt = 0 ∧ x16.toInt = v10.toInt) := hw
      obtain ⟨hP, hD⟩ : PD D A [O12 a12 r12 v12_keptMany v12_done v12_sheets v12_holes v12_worms v12_laidMany v12_wanted v12_orderMany v12_firstOrder v12_lines v12_marks v12_dots v12_madeIn v12_bound v12_places v12_maps v12_tapeMany v12_stories v12_base x16 v12_ends x2 x3 v12_bodies v12_ran v12_ownKind v12_ownNumber, (cI κ (r12 41) 120 f12_tape), (cI κ (r12 45) 720 f12_text), (cI κ (r12 52) 8 f12_names)] H := hPD
      refine lv_if_eq (tgt := 36) hx hb dX12_either_11 (by decide) (fun c19 => ?_) (fun c19 => ?_)
      · have c19 := ci_eq c19
        refine lv_iload_n hx hb dX12_either_36 rfl (lv_at hl 0 rfl) ?_
        have hpo : (v12_at.toInt ≤ x16.toInt ∧ x16.toInt ≤ v12_ends.toInt) ∧ (v12_opened.toInt ≤ x3.toInt ∧ x3.toInt ≤ 6 ∧ (0 ≤ x2.toInt ∨ x3.toInt = v12_opened.toInt)) ∧ (v12_fault.toInt < 0 ∨ 0 ≤ x2.toInt) ∧ (x2.toInt = 0) := ⟨(by omega), (by omega), (by omega), (by omega)⟩
        exact ret _ _ _ _ x4 (x16, x2, x3) dX12_either_37 hpo hP hD hS
      have c19 := ci_ne c19
      exfalso
      omega
  exact lp5 ((v12_ends.toInt - x1.toInt).toNat + 1) x1 (by omega) (by omega) (by omega) (by omega) (by omega) _ _ hP hD hS _ hl
set_option maxHeartbeats 4000000 in
set_option maxRecDepth 100000 in
theorem of_X12_one (l : Launch) (D : va_G) (κ : Nat → ClassId) (β d : Nat) (h_one : C_X12_one l D κ β d) (h_either : C_X12_either l D κ β d) : C_X12_one l D κ β (d + 1) := by
  intro a12 r12 v12_keptMany v12_done v12_sheets v12_holes v12_worms v12_laidMany v12_wanted v12_orderMany v12_firstOrder v12_lines v12_marks v12_dots v12_madeIn v12_bound v12_places v12_maps v12_tapeMany v12_stories v12_base v12_at v12_ends v12_fault v12_opened v12_bodies v12_ran v12_ownKind v12_ownNumber f12_tape f12_text f12_names sz i1 i2 i3 i4 i5 i6 i7 i8 i9 i10 i11 i12 i13 i14 i15 i16 i17 i18 i19 i20 i21 i22 i23 i24 i25 i26 i27 i28 i29 i30 i31 i32 i33 i34 i35 i36
  refine ofK_i (cc := cX12_one) (maxL := 5) (own := RX12) (by decide) rfl rfl (Nat.le_of_ble_eq_true rfl) ?_
  intro p e s m args below meth c Q A ls hsz hx hb hml hts hown hK hA hAB hP hD hl ret
  have hS : va_S A s.heap s.heap [] := va_S.rf
  have hl : lv_has ls 5 [(0, .ref a12)] := hl
  have w0 := hts (.fieldLink RX12 306 "OlderSkinModel" "fault" "I") (List.mem_of_getElem? (i := 1) rfl)
  have w1 := (fun w h => List.mem_cons_of_mem _ (List.mem_append_right _ h) : ∀ w ∈ u_ws RX12 TX12 63, w ∈ wsX12_one)
  have l0 : (0 : Int32).toInt = 0 := by decide
  have l1 : (33 : Int32).toInt = 33 := by decide
  have l2 : (45 : Int32).toInt = 45 := by decide
  have l3 : (40 : Int32).toInt = 40 := by decide
  have l4 : (4 : Int32).toInt = 4 := by decide
  have l5 : (48 : Int32).toInt = 48 := by decide
  refine lv_aload_n hx hb dX12_one_0 rfl (lv_at hl 0 rfl) ?_
  refine va_get (D := D) (ci := 12) (v := .int v12_fault) (C := RX12) (T := TX12) (N := 63) hx hb hts w1 hown hK.1 hP 0 rfl rfl 50 (by decide) w0 (fun _ h9 => h9) rfl dX12_one_1 ?_
  refine lv_if_lt (tgt := 9) hx hb dX12_one_4 (by decide) (fun c1 => ?_) (fun c1 => ?_)
  · have c1 := ci_lt c1
    refine lv_aload_n hx hb dX12_one_9 rfl (lv_at hl 0 rfl) ?_
    refine kcm_i hA hAB hP hD hS [true, true, true, false] rfl (fun _ => rfl) (fun hPc hDc => va_runV (As := []) (rest := []) ⟨hx, hb, hml, hown, hts⟩ (k_X12_byteAt l D κ β a12 r12 v12_keptMany v12_done v12_sheets v12_holes v12_worms v12_laidMany v12_wanted v12_orderMany v12_firstOrder v12_lines v12_marks v12_dots v12_madeIn v12_bound v12_places v12_maps v12_tapeMany v12_stories v12_base v12_at v12_ends v12_fault v12_opened v12_bodies v12_ran v12_ownKind v12_ownNumber f12_tape f12_text s.heap.size i1 i2 i3 i4 i5 i6 i7 i8 i9 i10 i11 i12 i13 i14 i15 i16 i17 (by omega) (by omega) (by omega) (by omega) (by omega) (by omega) (by omega) (by omega) (by omega) (by omega) (by omega) (by omega) (by omega) (by omega) (by omega)) (cwV 0 hts gX12_one_X12_byteAt rfl rfl rfl (by decide +kernel) ⟨by dsimp only; omega, by dsimp only; omega⟩) (pk_V hK hS hAB hPc hDc 0 (ci := 12) rfl rfl rfl) rfl rfl hl.1 rfl (lv_room (Nat.le_of_ble_eq_true rfl)) dX12_one_10 ⟨Nat.le_of_ble_eq_true rfl, Nat.le_of_ble_eq_true rfl⟩) (fun x2 u3 H locs hw hPD hS => ?_)
    have h4 : x2.toInt = 0 ∨ v12_at.toInt < v12_ends.toInt := hw
    obtain ⟨hP, hD⟩ : PD D A [O12 a12 r12 v12_keptMany v12_done v12_sheets v12_holes v12_worms v12_laidMany v12_wanted v12_orderMany v12_firstOrder v12_lines v12_marks v12_dots v12_madeIn v12_bound v12_places v12_maps v12_tapeMany v12_stories v12_base v12_at v12_ends v12_fault v12_opened v12_bodies v12_ran v12_ownKind v12_ownNumber, (cI κ (r12 41) 120 f12_tape), (cI κ (r12 45) 720 f12_text), (cI κ (r12 52) 8 f12_names)] H := hPD
    refine lv_istore_n (lv' := [(1, .int x2), (0, .ref a12)]) hx hb dX12_one_13 rfl hl (by decide) rfl (fun ls hl => ?_)
    refine lv_iload_n hx hb dX12_one_14 rfl (lv_at hl 0 rfl) ?_
    refine lv_bipush (v := 33) hx hb dX12_one_15 (by decide) ?_
    refine lv_icmp_eq (tgt := 32) hx hb dX12_one_17 (by decide) (fun c5 => ?_) (fun c5 => ?_)
    · have c5 := ci_eq c5
      exfalso
      omega
    have c5 := ci_ne c5
    refine lv_iload_n hx hb dX12_one_20 rfl (lv_at hl 0 rfl) ?_
    refine lv_bipush (v := 45) hx hb dX12_one_21 (by decide) ?_
    refine lv_icmp_eq (tgt := 32) hx hb dX12_one_23 (by decide) (fun c6 => ?_) (fun c6 => ?_)
    · have c6 := ci_eq c6
      exfalso
      omega
    have c6 := ci_ne c6
    refine lv_iload_n hx hb dX12_one_26 rfl (lv_at hl 0 rfl) ?_
    refine lv_bipush (v := 40) hx hb dX12_one_27 (by decide) ?_
    refine lv_icmp_ne (tgt := 145) hx hb dX12_one_29 (by decide) (fun c7 => ?_) (fun c7 => ?_)
    · have c7 := ci_ne c7
      refine lv_iload_n hx hb dX12_one_145 rfl (lv_at hl 0 rfl) ?_
      refine kcm_i hA hAB hP hD hS [false, false, false, false] rfl (fun _ => rfl) (fun hPc hDc => va_runS (As := [.int x2]) (rest := []) ⟨hx, hb, hml, hown, hts⟩ (k_X12_nameOf l D κ β H.size x2) (va_cwS 1 hts gX12_one_X12_nameOf rfl rfl rfl (by decide +kernel) ⟨by dsimp only; omega, by dsimp only; omega⟩) (pk_S hK hS hAB hPc hDc) rfl rfl hl.1 rfl (lv_room (Nat.le_of_ble_eq_true rfl)) dX12_one_146 ⟨Nat.le_of_ble_eq_true rfl, Nat.le_of_ble_eq_true rfl⟩) (fun x8 u9 H locs hw hPD hS => ?_)
      have h10 : x8.toInt = -1 ∨ (0 ≤ x8.toInt ∧ x8.toInt ≤ 7 ∧ x2.toInt ≠ 0) := hw
      obtain ⟨hP, hD⟩ : PD D A [O12 a12 r12 v12_keptMany v12_done v12_sheets v12_holes v12_worms v12_laidMany v12_wanted v12_orderMany v12_firstOrder v12_lines v12_marks v12_dots v12_madeIn v12_bound v12_places v12_maps v12_tapeMany v12_stories v12_base v12_at v12_ends v12_fault v12_opened v12_bodies v12_ran v12_ownKind v12_ownNumber, (cI κ (r12 41) 120 f12_tape), (cI κ (r12 45) 720 f12_text), (cI κ (r12 52) 8 f12_names)] H := hPD
      refine lv_istore_n (lv' := [(2, .int x8), (1, .int x2), (0, .ref a12)]) hx hb dX12_one_149 rfl hl (by decide) rfl (fun ls hl => ?_)
      refine lv_iload_n hx hb dX12_one_150 rfl (lv_at hl 0 rfl) ?_
      refine lv_if_lt (tgt := 171) hx hb dX12_one_151 (by decide) (fun c11 => ?_) (fun c11 => ?_)
      · have c11 := ci_lt c11
        refine lv_iconst (v := 0) hx hb dX12_one_171 (by decide) ?_
        refine lv_istore_n (lv' := [(3, .int 0), (2, .int x8), (1, .int x2), (0, .ref a12)]) hx hb dX12_one_172 rfl hl (by decide) rfl (fun ls hl => ?_)
        refine lv_iconst (v := 0) hx hb dX12_one_173 (by decide) ?_
        refine lv_istore (lv' := [(4, .int 0), (3, .int 0), (2, .int x8), (1, .int x2), (0, .ref a12)]) hx hb dX12_one_174 hl (by decide) rfl (fun ls hl => ?_)
        have lp176 : ∀ (n176 : Nat), (v12_at.toInt ≤ v12_at.toInt ∧ v12_at.toInt ≤ v12_ends.toInt) → (v12_fault.toInt < 0 ∨ 0 ≤ v12_fault.toInt) → (0 ≤ (0 : Int32).toInt ∧ (0 : Int32).toInt ≤ 4) → ((0 : Int32).toInt = 0) → (4 - (0 : Int32).toInt).toNat < n176 → ∀ (H : Heap) (locs : List Loc), va_P D vwCl [O12 a12 r12 v12_keptMany v12_done v12_sheets v12_holes v12_worms v12_laidMany v12_wanted v12_orderMany v12_firstOrder v12_lines v12_marks v12_dots v12_madeIn v12_bound v12_places v12_maps v12_tapeMany v12_stories v12_base v12_at v12_ends v12_fault v12_opened v12_bodies v12_ran v12_ownKind v12_ownNumber, (cI κ (r12 41) 120 f12_tape), (cI κ (r12 45) 720 f12_text), (cI κ (r12 52) 8 f12_names)] H → va_D A [O12 a12 r12 v12_keptMany v12_done v12_sheets v12_holes v12_worms v12_laidMany v12_wanted v12_orderMany v12_firstOrder v12_lines v12_marks v12_dots v12_madeIn v12_bound v12_places v12_maps v12_tapeMany v12_stories v12_base v12_at v12_ends v12_fault v12_opened v12_bodies v12_ran v12_ownKind v12_ownNumber, (cI κ (r12 41) 120 f12_tape), (cI κ (r12 45) 720 f12_text), (cI κ (r12 52) 8 f12_names)] → va_S A s.heap H locs → ∀ ls : Array Slot, lv_has ls 5 [(4, .int 0), (3, .int 0), (2, .int x8), (1, .int x2), (0, .ref a12)] → W p l e ({ frames := 6 * (d + 1) + 2, cells := 0, slots := 0, locals := 137 * (d + 1) + 60 } : Room) s m args below meth c H locs 0 0 Q (F0 m 176 ls []) := by
          intro n176
          induction n176 with
          | zero =>
            intro h12 h13 h14 h15 m16
            exact absurd m16 (Nat.not_lt_zero _)
          | succ n176 ih176 =>
            intro h12 h13 h14 h15 m16 H locs hP hD hS ls hl
            refine lv_iload hx hb dX12_one_176 (lv_at hl 0 rfl) ?_
            refine lv_iconst (v := 4) hx hb dX12_one_178 (by decide) ?_
            refine lv_icmp_ge (tgt := 229) hx hb dX12_one_179 (by decide) (fun c17 => ?_) (fun c17 => ?_)
            · have c17 := ci_le c17
              refine lv_iload hx hb dX12_one_229 (lv_at hl 0 rfl) ?_
              refine lv_if_ne (tgt := 241) hx hb dX12_one_231 (by decide) (fun c18 => ?_) (fun c18 => ?_)
              · have c18 := ci_ne c18
                exfalso
                omega
              have c18 := ci_eq c18
              refine lv_aload_n hx hb dX12_one_234 rfl (lv_at hl 4 rfl) ?_
              refine kcm_i hA hAB hP hD hS [true, false, false, false] rfl (fun _ => rfl) (fun hPc hDc => va_runV (As := []) (rest := []) ⟨hx, hb, hml, hown, hts⟩ (k_X12_wrong l D κ β a12 r12 v12_keptMany v12_done v12_sheets v12_holes v12_worms v12_laidMany v12_wanted v12_orderMany v12_firstOrder v12_lines v12_marks v12_dots v12_madeIn v12_bound v12_places v12_maps v12_tapeMany v12_stories v12_base v12_at v12_ends v12_fault v12_opened v12_bodies v12_ran v12_ownKind v12_ownNumber H.size i1 i2 i3 i4 i5 i6 i7 i8 i9 i10 i11 i12 i13 i14 i15 i16 i17 (by omega) (by omega) (by omega) (by omega) (by omega) (by omega) (by omega) (by omega) (by omega) (by omega) (by omega) (by omega) (by omega) (by omega) (by omega)) (cwV 0 hts gX12_one_X12_wrong rfl rfl rfl (by decide +kernel) ⟨by dsimp only; omega, by dsimp only; omega⟩) (pk_V hK hS hAB hPc hDc 0 (ci := 12) rfl rfl rfl) rfl rfl hl.1 rfl (lv_room (Nat.le_of_ble_eq_true rfl)) dX12_one_235 ⟨Nat.le_of_ble_eq_true rfl, Nat.le_of_ble_eq_true rfl⟩) (fun x20 x19 H locs hw hPD hS => ?_)
              obtain ⟨h21, h22⟩ : (0 ≤ x19.toInt) ∧ ((v12_fault.toInt < 0 ∧ x19.toInt = v12_at.toInt) ∨ (0 ≤ v12_fault.toInt ∧ x19.toInt = v12_fault.toInt)) := hw
              obtain ⟨hP, hD⟩ : PD D A [O12 a12 r12 v12_keptMany v12_done v12_sheets v12_holes v12_worms v12_laidMany v12_wanted v12_orderMany v12_firstOrder v12_lines v12_marks v12_dots v12_madeIn v12_bound v12_places v12_maps v12_tapeMany v12_stories v12_base v12_at v12_ends x19 v12_opened v12_bodies v12_ran v12_ownKind v12_ownNumber, (cI κ (r12 41) 120 f12_tape), (cI κ (r12 45) 720 f12_text), (cI κ (r12 52) 8 f12_names)] H := hPD
              refine lv_goto (tgt := 242) hx hb dX12_one_238 (by decide) ?_
              have hpo : (v12_at.toInt ≤ v12_at.toInt ∧ v12_at.toInt ≤ v12_ends.toInt) ∧ (v12_opened.toInt ≤ v12_opened.toInt ∧ v12_opened.toInt ≤ 6 ∧ (0 ≤ x19.toInt ∨ v12_opened.toInt = v12_opened.toInt)) ∧ (v12_fault.toInt < 0 ∨ 0 ≤ x19.toInt) ∧ (x19.toInt = 0) := ⟨(by omega), (by omega), (by omega), (by omega)⟩
              exact ret _ _ _ _ x20 (v12_at, x19, v12_opened) dX12_one_242 hpo hP hD hS
            have c17 := ci_nle c17
            refine lv_aload_n hx hb dX12_one_182 rfl (lv_at hl 4 rfl) ?_
            refine kcm_i hA hAB hP hD hS [true, true, true, false] rfl (fun _ => rfl) (fun hPc hDc => va_runV (As := []) (rest := []) ⟨hx, hb, hml, hown, hts⟩ (k_X12_byteAt l D κ β a12 r12 v12_keptMany v12_done v12_sheets v12_holes v12_worms v12_laidMany v12_wanted v12_orderMany v12_firstOrder v12_lines v12_marks v12_dots v12_madeIn v12_bound v12_places v12_maps v12_tapeMany v12_stories v12_base v12_at v12_ends v12_fault v12_opened v12_bodies v12_ran v12_ownKind v12_ownNumber f12_tape f12_text H.size i1 i2 i3 i4 i5 i6 i7 i8 i9 i10 i11 i12 i13 i14 i15 i16 i17 (by omega) (by omega) (by omega) (by omega) (by omega) (by omega) (by omega) (by omega) (by omega) (by omega) (by omega) (by omega) (by omega) (by omega) (by omega)) (cwV 0 hts gX12_one_X12_byteAt rfl rfl rfl (by decide +kernel) ⟨by dsimp only; omega, by dsimp only; omega⟩) (pk_V hK hS hAB hPc hDc 0 (ci := 12) rfl rfl rfl) rfl rfl hl.1 rfl (lv_room (Nat.le_of_ble_eq_true rfl)) dX12_one_183 ⟨Nat.le_of_ble_eq_true rfl, Nat.le_of_ble_eq_true rfl⟩) (fun x23 u24 H locs hw hPD hS => ?_)
            have h25 : x23.toInt = 0 ∨ v12_at.toInt < v12_ends.toInt := hw
            obtain ⟨hP, hD⟩ : PD D A [O12 a12 r12 v12_keptMany v12_done v12_sheets v12_holes v12_worms v12_laidMany v12_wanted v12_orderMany v12_firstOrder v12_lines v12_marks v12_dots v12_madeIn v12_bound v12_places v12_maps v12_tapeMany v12_stories v12_base v12_at v12_ends v12_fault v12_opened v12_bodies v12_ran v12_ownKind v12_ownNumber, (cI κ (r12 41) 120 f12_tape), (cI κ (r12 45) 720 f12_text), (cI κ (r12 52) 8 f12_names)] H := hPD
            refine lv_bipush (v := 48) hx hb dX12_one_186 (by decide) ?_
            refine lv_icmp_lt (tgt := 229) hx hb dX12_one_188 (by decide) (fun c26 => ?_) (fun c26 => ?_)
            · have c26 := ci_lt c26
              refine lv_iload hx hb dX12_one_229 (lv_at hl 0 rfl) ?_
              refine lv_if_ne (tgt := 241) hx hb dX12_one_231 (by decide) (fun c27 => ?_) (fun c27 => ?_)
              · have c27 := ci_ne c27
                exfalso
                omega
              have c27 := ci_eq c27
              refine lv_aload_n hx hb dX12_one_234 rfl (lv_at hl 4 rfl) ?_
              refine kcm_i hA hAB hP hD hS [true, false, false, false] rfl (fun _ => rfl) (fun hPc hDc => va_runV (As := []) (rest := []) ⟨hx, hb, hml, hown, hts⟩ (k_X12_wrong l D κ β a12 r12 v12_keptMany v12_done v12_sheets v12_holes v12_worms v12_laidMany v12_wanted v12_orderMany v12_firstOrder v12_lines v12_marks v12_dots v12_madeIn v12_bound v12_places v12_maps v12_tapeMany v12_stories v12_base v12_at v12_ends v12_fault v12_opened v12_bodies v12_ran v12_ownKind v12_ownNumber H.size i1 i2 i3 i4 i5 i6 i7 i8 i9 i10 i11 i12 i13 i14 i15 i16 i17 (by omega) (by omega) (by omega) (by omega) (by omega) (by omega) (by omega) (by omega) (by omega) (by omega) (by omega) (by omega) (by omega) (by omega) (by omega)) (cwV 0 hts gX12_one_X12_wrong rfl rfl rfl (by decide +kernel) ⟨by dsimp only; omega, by dsimp only; omega⟩) (pk_V hK hS hAB hPc hDc 0 (ci := 12) rfl rfl rfl) rfl rfl hl.1 rfl (lv_room (Nat.le_of_ble_eq_true rfl)) dX12_one_235 ⟨Nat.le_of_ble_eq_true rfl, Nat.le_of_ble_eq_true rfl⟩) (fun x29 x28 H locs hw hPD hS => ?_)
              obtain ⟨h30, h31⟩ : (0 ≤ x28.toInt) ∧ ((v12_fault.toInt < 0 ∧ x28.toInt = v12_at.toInt) ∨ (0 ≤ v12_fault.toInt ∧ x28.toInt = v12_fault.toInt)) := hw
              obtain ⟨hP, hD⟩ : PD D A [O12 a12 r12 v12_keptMany v12_done v12_sheets v12_holes v12_worms v12_laidMany v12_wanted v12_orderMany v12_firstOrder v12_lines v12_marks v12_dots v12_madeIn v12_bound v12_places v12_maps v12_tapeMany v12_stories v12_base v12_at v12_ends x28 v12_opened v12_bodies v12_ran v12_ownKind v12_ownNumber, (cI κ (r12 41) 120 f12_tape), (cI κ (r12 45) 720 f12_text), (cI κ (r12 52) 8 f12_names)] H := hPD
              refine lv_goto (tgt := 242) hx hb dX12_one_238 (by decide) ?_
              have hpo : (v12_at.toInt ≤ v12_at.toInt ∧ v12_at.toInt ≤ v12_ends.toInt) ∧ (v12_opened.toInt ≤ v12_opened.toInt ∧ v12_opened.toInt ≤ 6 ∧ (0 ≤ x28.toInt ∨ v12_opened.toInt = v12_opened.toInt)) ∧ (v12_fault.toInt < 0 ∨ 0 ≤ x28.toInt) ∧ (x28.toInt = 0) := ⟨(by omega), (by omega), (by omega), (by omega)⟩
              exact ret _ _ _ _ x29 (v12_at, x28, v12_opened) dX12_one_242 hpo hP hD hS
            have c26 := ci_nlt c26
            exfalso
            omega
        exact lp176 ((4 - (0 : Int32).toInt).toNat + 1) (by omega) (by omega) (by omega) (by omega) (by omega) _ _ hP hD hS _ hl
      have c11 := ci_nlt c11
      exfalso
      omega
    have c7 := ci_eq c7
    exfalso
    omega
  have c1 := ci_nlt c1
  refine lv_iconst (v := 0) hx hb dX12_one_7 (by decide) ?_
  have hpo : (v12_at.toInt ≤ v12_at.toInt ∧ v12_at.toInt ≤ v12_ends.toInt) ∧ (v12_opened.toInt ≤ v12_opened.toInt ∧ v12_opened.toInt ≤ 6 ∧ (0 ≤ v12_fault.toInt ∨ v12_opened.toInt = v12_opened.toInt)) ∧ (v12_fault.toInt < 0 ∨ 0 ≤ v12_fault.toInt) ∧ (v12_fault.toInt = 0) := ⟨(by omega), (by omega), (by omega), (by omega)⟩
  exact ret _ _ _ _ 0 (v12_at, v12_fault, v12_opened) dX12_one_8 hpo hP hD hS
set_option maxHeartbeats 4000000 in
set_option maxRecDepth 100000 in
theorem of_X12_one0 (l : Launch) (D : va_G) (κ : Nat → ClassId) (β : Nat) : C_X12_one l D κ β 0 := by
  intro a12 r12 v12_keptMany v12_done v12_sheets v12_holes v12_worms v12_laidMany v12_wanted v12_orderMany v12_firstOrder v12_lines v12_marks v12_dots v12_madeIn v12_bound v12_places v12_maps v12_tapeMany v12_stories v12_base v12_at v12_ends v12_fault v12_opened v12_bodies v12_ran v12_ownKind v12_ownNumber f12_tape f12_text f12_names sz i1 i2 i3 i4 i5 i6 i7 i8 i9 i10 i11 i12 i13 i14 i15 i16 i17 i18 i19 i20 i21 i22 i23 i24 i25 i26 i27 i28 i29 i30 i31 i32 i33 i34 i35 i36
  refine ofK_i (cc := cX12_one) (maxL := 5) (own := RX12) (by decide) rfl rfl (Nat.le_of_ble_eq_true rfl) ?_
  intro p e s m args below meth c Q A ls hsz hx hb hml hts hown hK hA hAB hP hD hl ret
  have hS : va_S A s.heap s.heap [] := va_S.rf
  have hl : lv_has ls 5 [(0, .ref a12)] := hl
  have w0 := hts (.fieldLink RX12 306 "OlderSkinModel" "fault" "I") (List.mem_of_getElem? (i := 1) rfl)
  have w1 := (fun w h => List.mem_cons_of_mem _ (List.mem_append_right _ h) : ∀ w ∈ u_ws RX12 TX12 63, w ∈ wsX12_one)
  have l0 : (0 : Int32).toInt = 0 := by decide
  have l1 : (33 : Int32).toInt = 33 := by decide
  have l2 : (45 : Int32).toInt = 45 := by decide
  have l3 : (40 : Int32).toInt = 40 := by decide
  have l4 : (4 : Int32).toInt = 4 := by decide
  have l5 : (48 : Int32).toInt = 48 := by decide
  refine lv_aload_n hx hb dX12_one_0 rfl (lv_at hl 0 rfl) ?_
  refine va_get (D := D) (ci := 12) (v := .int v12_fault) (C := RX12) (T := TX12) (N := 63) hx hb hts w1 hown hK.1 hP 0 rfl rfl 50 (by decide) w0 (fun _ h9 => h9) rfl dX12_one_1 ?_
  refine lv_if_lt (tgt := 9) hx hb dX12_one_4 (by decide) (fun c1 => ?_) (fun c1 => ?_)
  · have c1 := ci_lt c1
    refine lv_aload_n hx hb dX12_one_9 rfl (lv_at hl 0 rfl) ?_
    refine kcm_i hA hAB hP hD hS [true, true, true, false] rfl (fun _ => rfl) (fun hPc hDc => va_runV (As := []) (rest := []) ⟨hx, hb, hml, hown, hts⟩ (k_X12_byteAt l D κ β a12 r12 v12_keptMany v12_done v12_sheets v12_holes v12_worms v12_laidMany v12_wanted v12_orderMany v12_firstOrder v12_lines v12_marks v12_dots v12_madeIn v12_bound v12_places v12_maps v12_tapeMany v12_stories v12_base v12_at v12_ends v12_fault v12_opened v12_bodies v12_ran v12_ownKind v12_ownNumber f12_tape f12_text s.heap.size i1 i2 i3 i4 i5 i6 i7 i8 i9 i10 i11 i12 i13 i14 i15 i16 i17 (by omega) (by omega) (by omega) (by omega) (by omega) (by omega) (by omega) (by omega) (by omega) (by omega) (by omega) (by omega) (by omega) (by omega) (by omega)) (cwV 0 hts gX12_one_X12_byteAt rfl rfl rfl (by decide +kernel) ⟨by dsimp only; omega, by dsimp only; omega⟩) (pk_V hK hS hAB hPc hDc 0 (ci := 12) rfl rfl rfl) rfl rfl hl.1 rfl (lv_room (Nat.le_of_ble_eq_true rfl)) dX12_one_10 ⟨Nat.le_of_ble_eq_true rfl, Nat.le_of_ble_eq_true rfl⟩) (fun x2 u3 H locs hw hPD hS => ?_)
    have h4 : x2.toInt = 0 ∨ v12_at.toInt < v12_ends.toInt := hw
    obtain ⟨hP, hD⟩ : PD D A [O12 a12 r12 v12_keptMany v12_done v12_sheets v12_holes v12_worms v12_laidMany v12_wanted v12_orderMany v12_firstOrder v12_lines v12_marks v12_dots v12_madeIn v12_bound v12_places v12_maps v12_tapeMany v12_stories v12_base v12_at v12_ends v12_fault v12_opened v12_bodies v12_ran v12_ownKind v12_ownNumber, (cI κ (r12 41) 120 f12_tape), (cI κ (r12 45) 720 f12_text), (cI κ (r12 52) 8 f12_names)] H := hPD
    refine lv_istore_n (lv' := [(1, .int x2), (0, .ref a12)]) hx hb dX12_one_13 rfl hl (by decide) rfl (fun ls hl => ?_)
    refine lv_iload_n hx hb dX12_one_14 rfl (lv_at hl 0 rfl) ?_
    refine lv_bipush (v := 33) hx hb dX12_one_15 (by decide) ?_
    refine lv_icmp_eq (tgt := 32) hx hb dX12_one_17 (by decide) (fun c5 => ?_) (fun c5 => ?_)
    · have c5 := ci_eq c5
      exfalso
      omega
    have c5 := ci_ne c5
    refine lv_iload_n hx hb dX12_one_20 rfl (lv_at hl 0 rfl) ?_
    refine lv_bipush (v := 45) hx hb dX12_one_21 (by decide) ?_
    refine lv_icmp_eq (tgt := 32) hx hb dX12_one_23 (by decide) (fun c6 => ?_) (fun c6 => ?_)
    · have c6 := ci_eq c6
      exfalso
      omega
    have c6 := ci_ne c6
    refine lv_iload_n hx hb dX12_one_26 rfl (lv_at hl 0 rfl) ?_
    refine lv_bipush (v := 40) hx hb dX12_one_27 (by decide) ?_
    refine lv_icmp_ne (tgt := 145) hx hb dX12_one_29 (by decide) (fun c7 => ?_) (fun c7 => ?_)
    · have c7 := ci_ne c7
      refine lv_iload_n hx hb dX12_one_145 rfl (lv_at hl 0 rfl) ?_
      refine kcm_i hA hAB hP hD hS [false, false, false, false] rfl (fun _ => rfl) (fun hPc hDc => va_runS (As := [.int x2]) (rest := []) ⟨hx, hb, hml, hown, hts⟩ (k_X12_nameOf l D κ β H.size x2) (va_cwS 1 hts gX12_one_X12_nameOf rfl rfl rfl (by decide +kernel) ⟨by dsimp only; omega, by dsimp only; omega⟩) (pk_S hK hS hAB hPc hDc) rfl rfl hl.1 rfl (lv_room (Nat.le_of_ble_eq_true rfl)) dX12_one_146 ⟨Nat.le_of_ble_eq_true rfl, Nat.le_of_ble_eq_true rfl⟩) (fun x8 u9 H locs hw hPD hS => ?_)
      have h10 : x8.toInt = -1 ∨ (0 ≤ x8.toInt ∧ x8.toInt ≤ 7 ∧ x2.toInt ≠ 0) := hw
      obtain ⟨hP, hD⟩ : PD D A [O12 a12 r12 v12_keptMany v12_done v12_sheets v12_holes v12_worms v12_laidMany v12_wanted v12_orderMany v12_firstOrder v12_lines v12_marks v12_dots v12_madeIn v12_bound v12_places v12_maps v12_tapeMany v12_stories v12_base v12_at v12_ends v12_fault v12_opened v12_bodies v12_ran v12_ownKind v12_ownNumber, (cI κ (r12 41) 120 f12_tape), (cI κ (r12 45) 720 f12_text), (cI κ (r12 52) 8 f12_names)] H := hPD
      refine lv_istore_n (lv' := [(2, .int x8), (1, .int x2), (0, .ref a12)]) hx hb dX12_one_149 rfl hl (by decide) rfl (fun ls hl => ?_)
      refine lv_iload_n hx hb dX12_one_150 rfl (lv_at hl 0 rfl) ?_
      refine lv_if_lt (tgt := 171) hx hb dX12_one_151 (by decide) (fun c11 => ?_) (fun c11 => ?_)
      · have c11 := ci_lt c11
        refine lv_iconst (v := 0) hx hb dX12_one_171 (by decide) ?_
        refine lv_istore_n (lv' := [(3, .int 0), (2, .int x8), (1, .int x2), (0, .ref a12)]) hx hb dX12_one_172 rfl hl (by decide) rfl (fun ls hl => ?_)
        refine lv_iconst (v := 0) hx hb dX12_one_173 (by decide) ?_
        refine lv_istore (lv' := [(4, .int 0), (3, .int 0), (2, .int x8), (1, .int x2), (0, .ref a12)]) hx hb dX12_one_174 hl (by decide) rfl (fun ls hl => ?_)
        have lp176 : ∀ (n176 : Nat), (v12_at.toInt ≤ v12_at.toInt ∧ v12_at.toInt ≤ v12_ends.toInt) → (v12_fault.toInt < 0 ∨ 0 ≤ v12_fault.toInt) → (0 ≤ (0 : Int32).toInt ∧ (0 : Int32).toInt ≤ 4) → ((0 : Int32).toInt = 0) → (4 - (0 : Int32).toInt).toNat < n176 → ∀ (H : Heap) (locs : List Loc), va_P D vwCl [O12 a12 r12 v12_keptMany v12_done v12_sheets v12_holes v12_worms v12_laidMany v12_wanted v12_orderMany v12_firstOrder v12_lines v12_marks v12_dots v12_madeIn v12_bound v12_places v12_maps v12_tapeMany v12_stories v12_base v12_at v12_ends v12_fault v12_opened v12_bodies v12_ran v12_ownKind v12_ownNumber, (cI κ (r12 41) 120 f12_tape), (cI κ (r12 45) 720 f12_text), (cI κ (r12 52) 8 f12_names)] H → va_D A [O12 a12 r12 v12_keptMany v12_done v12_sheets v12_holes v12_worms v12_laidMany v12_wanted v12_orderMany v12_firstOrder v12_lines v12_marks v12_dots v12_madeIn v12_bound v12_places v12_maps v12_tapeMany v12_stories v12_base v12_at v12_ends v12_fault v12_opened v12_bodies v12_ran v12_ownKind v12_ownNumber, (cI κ (r12 41) 120 f12_tape), (cI κ (r12 45) 720 f12_text), (cI κ (r12 52) 8 f12_names)] → va_S A s.heap H locs → ∀ ls : Array Slot, lv_has ls 5 [(4, .int 0), (3, .int 0), (2, .int x8), (1, .int x2), (0, .ref a12)] → W p l e ({ frames := 6 * 0 + 2, cells := 0, slots := 0, locals := 137 * 0 + 60 } : Room) s m args below meth c H locs 0 0 Q (F0 m 176 ls []) := by
          intro n176
          induction n176 with
          | zero =>
            intro h12 h13 h14 h15 m16
            exact absurd m16 (Nat.not_lt_zero _)
          | succ n176 ih176 =>
            intro h12 h13 h14 h15 m16 H locs hP hD hS ls hl
            refine lv_iload hx hb dX12_one_176 (lv_at hl 0 rfl) ?_
            refine lv_iconst (v := 4) hx hb dX12_one_178 (by decide) ?_
            refine lv_icmp_ge (tgt := 229) hx hb dX12_one_179 (by decide) (fun c17 => ?_) (fun c17 => ?_)
            · have c17 := ci_le c17
              refine lv_iload hx hb dX12_one_229 (lv_at hl 0 rfl) ?_
              refine lv_if_ne (tgt := 241) hx hb dX12_one_231 (by decide) (fun c18 => ?_) (fun c18 => ?_)
              · have c18 := ci_ne c18
                exfalso
                omega
              have c18 := ci_eq c18
              refine lv_aload_n hx hb dX12_one_234 rfl (lv_at hl 4 rfl) ?_
              refine kcm_i hA hAB hP hD hS [true, false, false, false] rfl (fun _ => rfl) (fun hPc hDc => va_runV (As := []) (rest := []) ⟨hx, hb, hml, hown, hts⟩ (k_X12_wrong l D κ β a12 r12 v12_keptMany v12_done v12_sheets v12_holes v12_worms v12_laidMany v12_wanted v12_orderMany v12_firstOrder v12_lines v12_marks v12_dots v12_madeIn v12_bound v12_places v12_maps v12_tapeMany v12_stories v12_base v12_at v12_ends v12_fault v12_opened v12_bodies v12_ran v12_ownKind v12_ownNumber H.size i1 i2 i3 i4 i5 i6 i7 i8 i9 i10 i11 i12 i13 i14 i15 i16 i17 (by omega) (by omega) (by omega) (by omega) (by omega) (by omega) (by omega) (by omega) (by omega) (by omega) (by omega) (by omega) (by omega) (by omega) (by omega)) (cwV 0 hts gX12_one_X12_wrong rfl rfl rfl (by decide +kernel) ⟨by dsimp only; omega, by dsimp only; omega⟩) (pk_V hK hS hAB hPc hDc 0 (ci := 12) rfl rfl rfl) rfl rfl hl.1 rfl (lv_room (Nat.le_of_ble_eq_true rfl)) dX12_one_235 ⟨Nat.le_of_ble_eq_true rfl, Nat.le_of_ble_eq_true rfl⟩) (fun x20 x19 H locs hw hPD hS => ?_)
              obtain ⟨h21, h22⟩ : (0 ≤ x19.toInt) ∧ ((v12_fault.toInt < 0 ∧ x19.toInt = v12_at.toInt) ∨ (0 ≤ v12_fault.toInt ∧ x19.toInt = v12_fault.toInt)) := hw
              obtain ⟨hP, hD⟩ : PD D A [O12 a12 r12 v12_keptMany v12_done v12_sheets v12_holes v12_worms v12_laidMany v12_wanted v12_orderMany v12_firstOrder v12_lines v12_marks v12_dots v12_madeIn v12_bound v12_places v12_maps v12_tapeMany v12_stories v12_base v12_at v12_ends x19 v12_opened v12_bodies v12_ran v12_ownKind v12_ownNumber, (cI κ (r12 41) 120 f12_tape), (cI κ (r12 45) 720 f12_text), (cI κ (r12 52) 8 f12_names)] H := hPD
              refine lv_goto (tgt := 242) hx hb dX12_one_238 (by decide) ?_
              have hpo : (v12_at.toInt ≤ v12_at.toInt ∧ v12_at.toInt ≤ v12_ends.toInt) ∧ (v12_opened.toInt ≤ v12_opened.toInt ∧ v12_opened.toInt ≤ 6 ∧ (0 ≤ x19.toInt ∨ v12_opened.toInt = v12_opened.toInt)) ∧ (v12_fault.toInt < 0 ∨ 0 ≤ x19.toInt) ∧ (x19.toInt = 0) := ⟨(by omega), (by omega), (by omega), (by omega)⟩
              exact ret _ _ _ _ x20 (v12_at, x19, v12_opened) dX12_one_242 hpo hP hD hS
            have c17 := ci_nle c17
            refine lv_aload_n hx hb dX12_one_182 rfl (lv_at hl 4 rfl) ?_
            refine kcm_i hA hAB hP hD hS [true, true, true, false] rfl (fun _ => rfl) (fun hPc hDc => va_runV (As := []) (rest := []) ⟨hx, hb, hml, hown, hts⟩ (k_X12_byteAt l D κ β a12 r12 v12_keptMany v12_done v12_sheets v12_holes v12_worms v12_laidMany v12_wanted v12_orderMany v12_firstOrder v12_lines v12_marks v12_dots v12_madeIn v12_bound v12_places v12_maps v12_tapeMany v12_stories v12_base v12_at v12_ends v12_fault v12_opened v12_bodies v12_ran v12_ownKind v12_ownNumber f12_tape f12_text H.size i1 i2 i3 i4 i5 i6 i7 i8 i9 i10 i11 i12 i13 i14 i15 i16 i17 (by omega) (by omega) (by omega) (by omega) (by omega) (by omega) (by omega) (by omega) (by omega) (by omega) (by omega) (by omega) (by omega) (by omega) (by omega)) (cwV 0 hts gX12_one_X12_byteAt rfl rfl rfl (by decide +kernel) ⟨by dsimp only; omega, by dsimp only; omega⟩) (pk_V hK hS hAB hPc hDc 0 (ci := 12) rfl rfl rfl) rfl rfl hl.1 rfl (lv_room (Nat.le_of_ble_eq_true rfl)) dX12_one_183 ⟨Nat.le_of_ble_eq_true rfl, Nat.le_of_ble_eq_true rfl⟩) (fun x23 u24 H locs hw hPD hS => ?_)
            have h25 : x23.toInt = 0 ∨ v12_at.toInt < v12_ends.toInt := hw
            obtain ⟨hP, hD⟩ : PD D A [O12 a12 r12 v12_keptMany v12_done v12_sheets v12_holes v12_worms v12_laidMany v12_wanted v12_orderMany v12_firstOrder v12_lines v12_marks v12_dots v12_madeIn v12_bound v12_places v12_maps v12_tapeMany v12_stories v12_base v12_at v12_ends v12_fault v12_opened v12_bodies v12_ran v12_ownKind v12_ownNumber, (cI κ (r12 41) 120 f12_tape), (cI κ (r12 45) 720 f12_text), (cI κ (r12 52) 8 f12_names)] H := hPD
            refine lv_bipush (v := 48) hx hb dX12_one_186 (by decide) ?_
            refine lv_icmp_lt (tgt := 229) hx hb dX12_one_188 (by decide) (fun c26 => ?_) (fun c26 => ?_)
            · have c26 := ci_lt c26
              refine lv_iload hx hb dX12_one_229 (lv_at hl 0 rfl) ?_
              refine lv_if_ne (tgt := 241) hx hb dX12_one_231 (by decide) (fun c27 => ?_) (fun c27 => ?_)
              · have c27 := ci_ne c27
                exfalso
                omega
              have c27 := ci_eq c27
              refine lv_aload_n hx hb dX12_one_234 rfl (lv_at hl 4 rfl) ?_
              refine kcm_i hA hAB hP hD hS [true, false, false, false] rfl (fun _ => rfl) (fun hPc hDc => va_runV (As := []) (rest := []) ⟨hx, hb, hml, hown, hts⟩ (k_X12_wrong l D κ β a12 r12 v12_keptMany v12_done v12_sheets v12_holes v12_worms v12_laidMany v12_wanted v12_orderMany v12_firstOrder v12_lines v12_marks v12_dots v12_madeIn v12_bound v12_places v12_maps v12_tapeMany v12_stories v12_base v12_at v12_ends v12_fault v12_opened v12_bodies v12_ran v12_ownKind v12_ownNumber H.size i1 i2 i3 i4 i5 i6 i7 i8 i9 i10 i11 i12 i13 i14 i15 i16 i17 (by omega) (by omega) (by omega) (by omega) (by omega) (by omega) (by omega) (by omega) (by omega) (by omega) (by omega) (by omega) (by omega) (by omega) (by omega)) (cwV 0 hts gX12_one_X12_wrong rfl rfl rfl (by decide +kernel) ⟨by dsimp only; omega, by dsimp only; omega⟩) (pk_V hK hS hAB hPc hDc 0 (ci := 12) rfl rfl rfl) rfl rfl hl.1 rfl (lv_room (Nat.le_of_ble_eq_true rfl)) dX12_one_235 ⟨Nat.le_of_ble_eq_true rfl, Nat.le_of_ble_eq_true rfl⟩) (fun x29 x28 H locs hw hPD hS => ?_)
              obtain ⟨h30, h31⟩ : (0 ≤ x28.toInt) ∧ ((v12_fault.toInt < 0 ∧ x28.toInt = v12_at.toInt) ∨ (0 ≤ v12_fault.toInt ∧ x28.toInt = v12_fault.toInt)) := hw
              obtain ⟨hP, hD⟩ : PD D A [O12 a12 r12 v12_keptMany v12_done v12_sheets v12_holes v12_worms v12_laidMany v12_wanted v12_orderMany v12_firstOrder v12_lines v12_marks v12_dots v12_madeIn v12_bound v12_places v12_maps v12_tapeMany v12_stories v12_base v12_at v12_ends x28 v12_opened v12_bodies v12_ran v12_ownKind v12_ownNumber, (cI κ (r12 41) 120 f12_tape), (cI κ (r12 45) 720 f12_text), (cI κ (r12 52) 8 f12_names)] H := hPD
              refine lv_goto (tgt := 242) hx hb dX12_one_238 (by decide) ?_
              have hpo : (v12_at.toInt ≤ v12_at.toInt ∧ v12_at.toInt ≤ v12_ends.toInt) ∧ (v12_opened.toInt ≤ v12_opened.toInt ∧ v12_opened.toInt ≤ 6 ∧ (0 ≤ x28.toInt ∨ v12_opened.toInt = v12_opened.toInt)) ∧ (v12_fault.toInt < 0 ∨ 0 ≤ x28.toInt) ∧ (x28.toInt = 0) := ⟨(by omega), (by omega), (by omega), (by omega)⟩
              exact ret _ _ _ _ x29 (v12_at, x28, v12_opened) dX12_one_242 hpo hP hD hS
            have c26 := ci_nlt c26
            exfalso
            omega
        exact lp176 ((4 - (0 : Int32).toInt).toNat + 1) (by omega) (by omega) (by omega) (by omega) (by omega) _ _ hP hD hS _ hl
      have c11 := ci_nlt c11
      exfalso
      omega
    have c7 := ci_eq c7
    exfalso
    omega
  have c1 := ci_nlt c1
  refine lv_iconst (v := 0) hx hb dX12_one_7 (by decide) ?_
  have hpo : (v12_at.toInt ≤ v12_at.toInt ∧ v12_at.toInt ≤ v12_ends.toInt) ∧ (v12_opened.toInt ≤ v12_opened.toInt ∧ v12_opened.toInt ≤ 6 ∧ (0 ≤ v12_fault.toInt ∨ v12_opened.toInt = v12_opened.toInt)) ∧ (v12_fault.toInt < 0 ∨ 0 ≤ v12_fault.toInt) ∧ (v12_fault.toInt = 0) := ⟨(by omega), (by omega), (by omega), (by omega)⟩
  exact ret _ _ _ _ 0 (v12_at, v12_fault, v12_opened) dX12_one_8 hpo hP hD hS
theorem k_X12_either_of (l : Launch) (D : va_G) (κ : Nat → ClassId) (β d : Nat) (h : C_X12_one l D κ β d) : C_X12_either l D κ β d :=
  of_X12_either l D κ β d (of_X12_both l D κ β d (of_X12_compared l D κ β d (of_X12_sums l D κ β d (of_X12_product l D κ β d h))))
theorem k_X12_one (l : Launch) (D : va_G) (κ : Nat → ClassId) (β : Nat) : ∀ d : Nat, C_X12_one l D κ β d
  | 0 => of_X12_one0 l D κ β
  | d + 1 => of_X12_one l D κ β d (k_X12_one l D κ β d) (k_X12_either_of l D κ β d (k_X12_one l D κ β d))
theorem k_X12_either (l : Launch) (D : va_G) (κ : Nat → ClassId) (β d : Nat) : C_X12_either l D κ β d := k_X12_either_of l D κ β d (k_X12_one l D κ β d)
