set_option maxHeartbeats 4000000 in
set_option maxRecDepth 100000 in
theorem k_X12_byteAt (l : Launch) (D : va_G) (κ : Nat → ClassId) (β : Nat) (a12 : Nat) (r12 : Nat → Nat) (v12_keptMany : Int32) (v12_done : Int32) (v12_sheets : Int32) (v12_holes : Int32) (v12_worms : Int32) (v12_laidMany : Int32) (v12_wanted : Int32) (v12_orderMany : Int32) (v12_firstOrder : Int32) (v12_lines : Int32) (v12_marks : Int32) (v12_dots : Int32) (v12_madeIn : Int32) (v12_bound : Int32) (v12_places : Int32) (v12_maps : Int32) (v12_tapeMany : Int32) (v12_stories : Int32) (v12_base : Int32) (v12_at : Int32) (v12_ends : Int32) (v12_fault : Int32) (v12_opened : Int32) (v12_bodies : Int32) (v12_ran : Int32) (v12_ownKind : Int32) (v12_ownNumber : Int32) (f12_tape : Nat → Int32) (f12_text : Nat → Int32) (sz : Nat) (i1 : Rg 0 40 v12_keptMany) (i2 : Rg 0 40 v12_done) (i3 : Rg 0 8 v12_sheets) (i4 : Rg 0 40 v12_holes) (i5 : Rg 0 40 v12_worms) (i6 : Rg 0 8 v12_laidMany) (i7 : Rg 0 8 v12_wanted) (i8 : Rg 0 20 v12_lines) (i9 : Rg 0 60 v12_marks) (i10 : Rg 0 40 v12_dots) (i11 : Rg 0 20 v12_places) (i12 : Rg 0 8 v12_maps) (i13 : Rg 0 120 v12_tapeMany) (i14 : Rg 0 6 v12_stories) (i15 : Rg 0 50 v12_bodies) (i16 : Rg 0 1000 v12_ran) (i17 : v12_done.toInt ≤ v12_keptMany.toInt) (i18 : 0 ≤ v12_at.toInt ∧ v12_at.toInt ≤ v12_ends.toInt ∧ v12_ends.toInt ≤ 120 ∧ v12_base.toInt ≤ 600) : Met l yX12_byteAt wsX12_byteAt ({ frames := 0, cells := 0, slots := 0, locals := 0 } : Room) (PcK D κ β [O12 a12 r12 v12_keptMany v12_done v12_sheets v12_holes v12_worms v12_laidMany v12_wanted v12_orderMany v12_firstOrder v12_lines v12_marks v12_dots v12_madeIn v12_bound v12_places v12_maps v12_tapeMany v12_stories v12_base v12_at v12_ends v12_fault v12_opened v12_bodies v12_ran v12_ownKind v12_ownNumber, (cI κ (r12 41) 120 f12_tape), (cI κ (r12 45) 720 f12_text)] sz [.ref a12]) (QiK D (fun (r : Int32) (u : Unit) => r.toInt = 0 ∨ v12_at.toInt < v12_ends.toInt) (fun (u : Unit) => [O12 a12 r12 v12_keptMany v12_done v12_sheets v12_holes v12_worms v12_laidMany v12_wanted v12_orderMany v12_firstOrder v12_lines v12_marks v12_dots v12_madeIn v12_bound v12_places v12_maps v12_tapeMany v12_stories v12_base v12_at v12_ends v12_fault v12_opened v12_bodies v12_ran v12_ownKind v12_ownNumber, (cI κ (r12 41) 120 f12_tape), (cI κ (r12 45) 720 f12_text)]) [O12 a12 r12 v12_keptMany v12_done v12_sheets v12_holes v12_worms v12_laidMany v12_wanted v12_orderMany v12_firstOrder v12_lines v12_marks v12_dots v12_madeIn v12_bound v12_places v12_maps v12_tapeMany v12_stories v12_base v12_at v12_ends v12_fault v12_opened v12_bodies v12_ran v12_ownKind v12_ownNumber, (cI κ (r12 41) 120 f12_tape), (cI κ (r12 45) 720 f12_text)] sz) 0 0 (va_A [O12 a12 r12 v12_keptMany v12_done v12_sheets v12_holes v12_worms v12_laidMany v12_wanted v12_orderMany v12_firstOrder v12_lines v12_marks v12_dots v12_madeIn v12_bound v12_places v12_maps v12_tapeMany v12_stories v12_base v12_at v12_ends v12_fault v12_opened v12_bodies v12_ran v12_ownKind v12_ownNumber, (cI κ (r12 41) 120 f12_tape), (cI κ (r12 45) 720 f12_text)] sz) := by
  refine ofK_i (cc := cX12_byteAt) (maxL := 1) (own := RX12) (by decide) rfl rfl (Nat.le_of_ble_eq_true rfl) ?_
  intro p e s m args below meth c Q A ls hsz hx hb hml hts hown hK hA hAB hP hD hl ret
  have hS : va_S A s.heap s.heap [] := va_S.rf
  have hl : lv_has ls 1 [(0, .ref a12)] := hl
  have w0 := hts (.fieldLink RX12 297 "OlderSkinModel" "at" "I") (List.mem_of_getElem? (i := 1) rfl)
  have w1 := (fun w h => List.mem_cons_of_mem _ (List.mem_append_right _ h) : ∀ w ∈ u_ws RX12 TX12 63, w ∈ wsX12_byteAt)
  have w2 := hts (.fieldLink RX12 300 "OlderSkinModel" "ends" "I") (List.mem_of_getElem? (i := 2) rfl)
  have w3 := hts (.fieldLink RX12 303 "OlderSkinModel" "base" "I") (List.mem_of_getElem? (i := 3) rfl)
  have w4 := hts (.fieldLink RX12 92 "OlderSkinModel" "text" "[I") (List.mem_of_getElem? (i := 5) rfl)
  have w5 := hts (.fieldLink RX12 86 "OlderSkinModel" "tape" "[I") (List.mem_of_getElem? (i := 4) rfl)
  have l0 : (0 : Int32).toInt = 0 := by decide
  refine lv_aload_n hx hb dX12_byteAt_0 rfl (lv_at hl 0 rfl) ?_
  refine va_get (D := D) (ci := 12) (v := .int v12_at) (C := RX12) (T := TX12) (N := 63) hx hb hts w1 hown hK.1 hP 0 rfl rfl 48 (by decide) w0 (fun _ h9 => h9) rfl dX12_byteAt_1 ?_
  refine lv_aload_n hx hb dX12_byteAt_4 rfl (lv_at hl 0 rfl) ?_
  refine va_get (D := D) (ci := 12) (v := .int v12_ends) (C := RX12) (T := TX12) (N := 63) hx hb hts w1 hown hK.1 hP 0 rfl rfl 49 (by decide) w2 (fun _ h9 => h9) rfl dX12_byteAt_5 ?_
  refine lv_icmp_ge (tgt := 47) hx hb dX12_byteAt_8 (by decide) (fun c1 => ?_) (fun c1 => ?_)
  · have c1 := ci_le c1
    refine lv_iconst (v := 0) hx hb dX12_byteAt_47 (by decide) ?_
    have hpo : (0 : Int32).toInt = 0 ∨ v12_at.toInt < v12_ends.toInt := (by omega)
    exact ret _ _ _ _ 0 () dX12_byteAt_48 hpo hP hD hS
  have c1 := ci_nle c1
  refine lv_aload_n hx hb dX12_byteAt_11 rfl (lv_at hl 0 rfl) ?_
  refine va_get (D := D) (ci := 12) (v := .int v12_base) (C := RX12) (T := TX12) (N := 63) hx hb hts w1 hown hK.1 hP 0 rfl rfl 47 (by decide) w3 (fun _ h9 => h9) rfl dX12_byteAt_12 ?_
  refine lv_if_ge (tgt := 30) hx hb dX12_byteAt_15 (by decide) (fun c2 => ?_) (fun c2 => ?_)
  · have c2 := ci_le c2
    refine lv_aload_n hx hb dX12_byteAt_30 rfl (lv_at hl 0 rfl) ?_
    refine va_get (D := D) (ci := 12) (v := .ref (r12 45)) (C := RX12) (T := TX12) (N := 63) hx hb hts w1 hown hK.1 hP 0 rfl rfl 45 (by decide) w4 (fun _ h9 => h9) rfl dX12_byteAt_31 ?_
    refine lv_aload_n hx hb dX12_byteAt_34 rfl (lv_at hl 0 rfl) ?_
    refine va_get (D := D) (ci := 12) (v := .int v12_base) (C := RX12) (T := TX12) (N := 63) hx hb hts w1 hown hK.1 hP 0 rfl rfl 47 (by decide) w3 (fun _ h9 => h9) rfl dX12_byteAt_35 ?_
    refine lv_aload_n hx hb dX12_byteAt_38 rfl (lv_at hl 0 rfl) ?_
    refine va_get (D := D) (ci := 12) (v := .int v12_at) (C := RX12) (T := TX12) (N := 63) hx hb hts w1 hown hK.1 hP 0 rfl rfl 48 (by decide) w0 (fun _ h9 => h9) rfl dX12_byteAt_39 ?_
    refine lv_iadd hx hb dX12_byteAt_42 ?_
    refine lv_topi (fun x3 e4 => ?_)
    try have h5 : x3.toInt = v12_base.toInt + v12_at.toInt := ci_add e4 (by omega) (by omega)
    refine va_iald hx hb hK.1 hP 2 1 rfl rfl (i := x3) (ix (by omega) (by omega)) dX12_byteAt_43 ?_
    refine lv_topi (fun x6 e7 => ?_)
    refine lv_goto (tgt := 48) hx hb dX12_byteAt_44 (by decide) ?_
    have hpo : x6.toInt = 0 ∨ v12_at.toInt < v12_ends.toInt := (by omega)
    exact ret _ _ _ _ x6 () dX12_byteAt_48 hpo hP hD hS
  have c2 := ci_nle c2
  refine lv_aload_n hx hb dX12_byteAt_18 rfl (lv_at hl 0 rfl) ?_
  refine va_get (D := D) (ci := 12) (v := .ref (r12 41)) (C := RX12) (T := TX12) (N := 63) hx hb hts w1 hown hK.1 hP 0 rfl rfl 41 (by decide) w5 (fun _ h9 => h9) rfl dX12_byteAt_19 ?_
  refine lv_aload_n hx hb dX12_byteAt_22 rfl (lv_at hl 0 rfl) ?_
  refine va_get (D := D) (ci := 12) (v := .int v12_at) (C := RX12) (T := TX12) (N := 63) hx hb hts w1 hown hK.1 hP 0 rfl rfl 48 (by decide) w0 (fun _ h9 => h9) rfl dX12_byteAt_23 ?_
  refine va_iald hx hb hK.1 hP 1 1 rfl rfl (i := v12_at) (ix (by omega) (by omega)) dX12_byteAt_26 ?_
  refine lv_topi (fun x8 e9 => ?_)
  refine lv_goto (tgt := 48) hx hb dX12_byteAt_27 (by decide) ?_
  have hpo : x8.toInt = 0 ∨ v12_at.toInt < v12_ends.toInt := (by omega)
  exact ret _ _ _ _ x8 () dX12_byteAt_48 hpo hP hD hS
set_option maxHeartbeats 4000000 in
set_option maxRecDepth 100000 in
theorem k_X12_wrong (l : Launch) (D : va_G) (κ : Nat → ClassId) (β : Nat) (a12 : Nat) (r12 : Nat → Nat) (v12_keptMany : Int32) (v12_done : Int32) (v12_sheets : Int32) (v12_holes : Int32) (v12_worms : Int32) (v12_laidMany : Int32) (v12_wanted : Int32) (v12_orderMany : Int32) (v12_firstOrder : Int32) (v12_lines : Int32) (v12_marks : Int32) (v12_dots : Int32) (v12_madeIn : Int32) (v12_bound : Int32) (v12_places : Int32) (v12_maps : Int32) (v12_tapeMany : Int32) (v12_stories : Int32) (v12_base : Int32) (v12_at : Int32) (v12_ends : Int32) (v12_fault : Int32) (v12_opened : Int32) (v12_bodies : Int32) (v12_ran : Int32) (v12_ownKind : Int32) (v12_ownNumber : Int32) (sz : Nat) (i1 : Rg 0 40 v12_keptMany) (i2 : Rg 0 40 v12_done) (i3 : Rg 0 8 v12_sheets) (i4 : Rg 0 40 v12_holes) (i5 : Rg 0 40 v12_worms) (i6 : Rg 0 8 v12_laidMany) (i7 : Rg 0 8 v12_wanted) (i8 : Rg 0 20 v12_lines) (i9 : Rg 0 60 v12_marks) (i10 : Rg 0 40 v12_dots) (i11 : Rg 0 20 v12_places) (i12 : Rg 0 8 v12_maps) (i13 : Rg 0 120 v12_tapeMany) (i14 : Rg 0 6 v12_stories) (i15 : Rg 0 50 v12_bodies) (i16 : Rg 0 1000 v12_ran) (i17 : v12_done.toInt ≤ v12_keptMany.toInt) (i18 : 0 ≤ v12_at.toInt) : Met l yX12_wrong wsX12_wrong ({ frames := 0, cells := 0, slots := 0, locals := 0 } : Room) (PcK D κ β [O12 a12 r12 v12_keptMany v12_done v12_sheets v12_holes v12_worms v12_laidMany v12_wanted v12_orderMany v12_firstOrder v12_lines v12_marks v12_dots v12_madeIn v12_bound v12_places v12_maps v12_tapeMany v12_stories v12_base v12_at v12_ends v12_fault v12_opened v12_bodies v12_ran v12_ownKind v12_ownNumber] sz [.ref a12]) (QiK D (fun (r : Int32) (u : Int32) => 0 ≤ u.toInt) (fun (u : Int32) => [O12 a12 r12 v12_keptMany v12_done v12_sheets v12_holes v12_worms v12_laidMany v12_wanted v12_orderMany v12_firstOrder v12_lines v12_marks v12_dots v12_madeIn v12_bound v12_places v12_maps v12_tapeMany v12_stories v12_base v12_at v12_ends u v12_opened v12_bodies v12_ran v12_ownKind v12_ownNumber]) [O12 a12 r12 v12_keptMany v12_done v12_sheets v12_holes v12_worms v12_laidMany v12_wanted v12_orderMany v12_firstOrder v12_lines v12_marks v12_dots v12_madeIn v12_bound v12_places v12_maps v12_tapeMany v12_stories v12_base v12_at v12_ends v12_fault v12_opened v12_bodies v12_ran v12_ownKind v12_ownNumber] sz) 0 0 (va_A [O12 a12 r12 v12_keptMany v12_done v12_sheets v12_holes v12_worms v12_laidMany v12_wanted v12_orderMany v12_firstOrder v12_lines v12_marks v12_dots v12_madeIn v12_bound v12_places v12_maps v12_tapeMany v12_stories v12_base v12_at v12_ends v12_fault v12_opened v12_bodies v12_ran v12_ownKind v12_ownNumber] sz) := by
  refine ofK_i (cc := cX12_wrong) (maxL := 1) (own := RX12) (by decide) rfl rfl (Nat.le_of_ble_eq_true rfl) ?_
  intro p e s m args below meth c Q A ls hsz hx hb hml hts hown hK hA hAB hP hD hl ret
  have hS : va_S A s.heap s.heap [] := va_S.rf
  have hl : lv_has ls 1 [(0, .ref a12)] := hl
  have w0 := hts (.fieldLink RX12 306 "OlderSkinModel" "fault" "I") (List.mem_of_getElem? (i := 1) rfl)
  have w1 := (fun w h => List.mem_cons_of_mem _ (List.mem_append_right _ h) : ∀ w ∈ u_ws RX12 TX12 63, w ∈ wsX12_wrong)
  have w2 := hts (.fieldLink RX12 297 "OlderSkinModel" "at" "I") (List.mem_of_getElem? (i := 2) rfl)
  have l0 : (0 : Int32).toInt = 0 := by decide
  refine lv_aload_n hx hb dX12_wrong_0 rfl (lv_at hl 0 rfl) ?_
  refine lv_aload_n hx hb dX12_wrong_1 rfl (lv_at hl 0 rfl) ?_
  refine va_get (D := D) (ci := 12) (v := .int v12_fault) (C := RX12) (T := TX12) (N := 63) hx hb hts w1 hown hK.1 hP 0 rfl rfl 50 (by decide) w0 (fun _ h9 => h9) rfl dX12_wrong_2 ?_
  refine lv_if_ge (tgt := 15) hx hb dX12_wrong_5 (by decide) (fun c1 => ?_) (fun c1 => ?_)
  · have c1 := ci_le c1
    refine lv_aload_n hx hb dX12_wrong_15 rfl (lv_at hl 0 rfl) ?_
    refine va_get (D := D) (ci := 12) (v := .int v12_fault) (C := RX12) (T := TX12) (N := 63) hx hb hts w1 hown hK.1 hP 0 rfl rfl 50 (by decide) w0 (fun _ h9 => h9) rfl dX12_wrong_16 ?_
    refine va_put (D := D) (ci := 12) (v := .int v12_fault) (ty := .int) (C := RX12) (T := TX12) (N := 63) hx hb hts w1 tyX12 tyX12_ok nmX12 hown hK.1 hP hD hS 0 rfl rfl 50 (by decide) w0 (fun _ h9 => h9) rfl (by decide +kernel) rfl rfl (Nat.le_of_ble_eq_true rfl) dX12_wrong_19 (fun H locs hP hD hS => ?_)
    obtain ⟨hP, hD⟩ : PD D A [O12 a12 r12 v12_keptMany v12_done v12_sheets v12_holes v12_worms v12_laidMany v12_wanted v12_orderMany v12_firstOrder v12_lines v12_marks v12_dots v12_madeIn v12_bound v12_places v12_maps v12_tapeMany v12_stories v12_base v12_at v12_ends v12_fault v12_opened v12_bodies v12_ran v12_ownKind v12_ownNumber] H := ⟨hP, hD⟩
    refine lv_iconst (v := 0) hx hb dX12_wrong_22 (by decide) ?_
    have hpo : 0 ≤ v12_fault.toInt := (by omega)
    exact ret _ _ _ _ 0 v12_fault dX12_wrong_23 hpo hP hD hS
  have c1 := ci_nle c1
  refine lv_aload_n hx hb dX12_wrong_8 rfl (lv_at hl 0 rfl) ?_
  refine va_get (D := D) (ci := 12) (v := .int v12_at) (C := RX12) (T := TX12) (N := 63) hx hb hts w1 hown hK.1 hP 0 rfl rfl 48 (by decide) w2 (fun _ h9 => h9) rfl dX12_wrong_9 ?_
  refine lv_goto (tgt := 19) hx hb dX12_wrong_12 (by decide) ?_
  refine va_put (D := D) (ci := 12) (v := .int v12_at) (ty := .int) (C := RX12) (T := TX12) (N := 63) hx hb hts w1 tyX12 tyX12_ok nmX12 hown hK.1 hP hD hS 0 rfl rfl 50 (by decide) w0 (fun _ h9 => h9) rfl (by decide +kernel) rfl rfl (Nat.le_of_ble_eq_true rfl) dX12_wrong_19 (fun H locs hP hD hS => ?_)
  obtain ⟨hP, hD⟩ : PD D A [O12 a12 r12 v12_keptMany v12_done v12_sheets v12_holes v12_worms v12_laidMany v12_wanted v12_orderMany v12_firstOrder v12_lines v12_marks v12_dots v12_madeIn v12_bound v12_places v12_maps v12_tapeMany v12_stories v12_base v12_at v12_ends v12_at v12_opened v12_bodies v12_ran v12_ownKind v12_ownNumber] H := ⟨hP, hD⟩
  refine lv_iconst (v := 0) hx hb dX12_wrong_22 (by decide) ?_
  have hpo : 0 ≤ v12_at.toInt := (by omega)
  exact ret _ _ _ _ 0 v12_at dX12_wrong_23 hpo hP hD hS
set_option maxHeartbeats 4000000 in
set_option maxRecDepth 100000 in
theorem k_X12_takes (l : Launch) (D : va_G) (κ : Nat → ClassId) (β : Nat) (a12 : Nat) (r12 : Nat → Nat) (v12_keptMany : Int32) (v12_done : Int32) (v12_sheets : Int32) (v12_holes : Int32) (v12_worms : Int32) (v12_laidMany : Int32) (v12_wanted : Int32) (v12_orderMany : Int32) (v12_firstOrder : Int32) (v12_lines : Int32) (v12_marks : Int32) (v12_dots : Int32) (v12_madeIn : Int32) (v12_bound : Int32) (v12_places : Int32) (v12_maps : Int32) (v12_tapeMany : Int32) (v12_stories : Int32) (v12_base : Int32) (v12_at : Int32) (v12_ends : Int32) (v12_fault : Int32) (v12_opened : Int32) (v12_bodies : Int32) (v12_ran : Int32) (v12_ownKind : Int32) (v12_ownNumber : Int32) (f12_tape : Nat → Int32) (f12_text : Nat → Int32) (sz : Nat) (p1 : Int32) (i1 : Rg 0 40 v12_keptMany) (i2 : Rg 0 40 v12_done) (i3 : Rg 0 8 v12_sheets) (i4 : Rg 0 40 v12_holes) (i5 : Rg 0 40 v12_worms) (i6 : Rg 0 8 v12_laidMany) (i7 : Rg 0 8 v12_wanted) (i8 : Rg 0 20 v12_lines) (i9 : Rg 0 60 v12_marks) (i10 : Rg 0 40 v12_dots) (i11 : Rg 0 20 v12_places) (i12 : Rg 0 8 v12_maps) (i13 : Rg 0 120 v12_tapeMany) (i14 : Rg 0 6 v12_stories) (i15 : Rg 0 50 v12_bodies) (i16 : Rg 0 1000 v12_ran) (i17 : v12_done.toInt ≤ v12_keptMany.toInt) (i18 : 0 ≤ v12_at.toInt ∧ v12_at.toInt ≤ v12_ends.toInt ∧ v12_ends.toInt ≤ 120 ∧ v12_base.toInt ≤ 600) (i19 : p1.toInt ≠ 0) : Met l yX12_takes wsX12_takes ({ frames := 1, cells := 0, slots := 0, locals := 20 } : Room) (PcK D κ β [O12 a12 r12 v12_keptMany v12_done v12_sheets v12_holes v12_worms v12_laidMany v12_wanted v12_orderMany v12_firstOrder v12_lines v12_marks v12_dots v12_madeIn v12_bound v12_places v12_maps v12_tapeMany v12_stories v12_base v12_at v12_ends v12_fault v12_opened v12_bodies v12_ran v12_ownKind v12_ownNumber, (cI κ (r12 41) 120 f12_tape), (cI κ (r12 45) 720 f12_text)] sz [.ref a12, .int p1]) (QiK D (fun (r : Int32) (u : Int32) => (r.toInt = 1 ∧ v12_fault.toInt < 0 ∧ v12_at.toInt < v12_ends.toInt ∧ u.toInt = v12_at.toInt + 1) ∨ (r.toInt = 0 ∧ u.toInt = v12_at.toInt)) (fun (u : Int32) => [O12 a12 r12 v12_keptMany v12_done v12_sheets v12_holes v12_worms v12_laidMany v12_wanted v12_orderMany v12_firstOrder v12_lines v12_marks v12_dots v12_madeIn v12_bound v12_places v12_maps v12_tapeMany v12_stories v12_base u v12_ends v12_fault v12_opened v12_bodies v12_ran v12_ownKind v12_ownNumber, (cI κ (r12 41) 120 f12_tape), (cI κ (r12 45) 720 f12_text)]) [O12 a12 r12 v12_keptMany v12_done v12_sheets v12_holes v12_worms v12_laidMany v12_wanted v12_orderMany v12_firstOrder v12_lines v12_marks v12_dots v12_madeIn v12_bound v12_places v12_maps v12_tapeMany v12_stories v12_base v12_at v12_ends v12_fault v12_opened v12_bodies v12_ran v12_ownKind v12_ownNumber, (cI κ (r12 41) 120 f12_tape), (cI κ (r12 45) 720 f12_text)] sz) 0 0 (va_A [O12 a12 r12 v12_keptMany v12_done v12_sheets v12_holes v12_worms v12_laidMany v12_wanted v12_orderMany v12_firstOrder v12_lines v12_marks v12_dots v12_madeIn v12_bound v12_places v12_maps v12_tapeMany v12_stories v12_base v12_at v12_ends v12_fault v12_opened v12_bodies v12_ran v12_ownKind v12_ownNumber, (cI κ (r12 41) 120 f12_tape), (cI κ (r12 45) 720 f12_text)] sz) := by
  refine ofK_z (cc := cX12_takes) (maxL := 2) (own := RX12) (by decide) rfl rfl (Nat.le_of_ble_eq_true rfl) ?_
  intro p e s m args below meth c Q A ls hsz hx hb hml hts hown hK hA hAB hP hD hl ret
  have hS : va_S A s.heap s.heap [] := va_S.rf
  have hl : lv_has ls 2 [(0, .ref a12), (1, .int p1)] := hl
  have w0 := hts (.fieldLink RX12 306 "OlderSkinModel" "fault" "I") (List.mem_of_getElem? (i := 1) rfl)
  have w1 := (fun w h => List.mem_cons_of_mem _ (List.mem_append_right _ h) : ∀ w ∈ u_ws RX12 TX12 63, w ∈ wsX12_takes)
  have w2 := hts (.fieldLink RX12 297 "OlderSkinModel" "at" "I") (List.mem_of_getElem? (i := 2) rfl)
  have l0 : (0 : Int32).toInt = 0 := by decide
  have l1 : (1 : Int32).toInt = 1 := by decide
  refine lv_aload_n hx hb dX12_takes_0 rfl (lv_at hl 0 rfl) ?_
  refine va_get (D := D) (ci := 12) (v := .int v12_fault) (C := RX12) (T := TX12) (N := 63) hx hb hts w1 hown hK.1 hP 0 rfl rfl 50 (by decide) w0 (fun _ h9 => h9) rfl dX12_takes_1 ?_
  refine lv_if_ge (tgt := 15) hx hb dX12_takes_4 (by decide) (fun c1 => ?_) (fun c1 => ?_)
  · have c1 := ci_le c1
    refine lv_iconst (v := 0) hx hb dX12_takes_15 (by decide) ?_
    have hpo : ((0 : Int32).toInt = 1 ∧ v12_fault.toInt < 0 ∧ v12_at.toInt < v12_ends.toInt ∧ v12_at.toInt = v12_at.toInt + 1) ∨ ((0 : Int32).toInt = 0 ∧ v12_at.toInt = v12_at.toInt) := (by omega)
    exact ret _ _ _ _ 0 v12_at dX12_takes_16 (by omega) hpo hP hD hS
  have c1 := ci_nle c1
  refine lv_aload_n hx hb dX12_takes_7 rfl (lv_at hl 0 rfl) ?_
  refine kcm_i hA hAB hP hD hS [true, true, true] rfl (fun _ => rfl) (fun hPc hDc => va_runV (As := []) (rest := []) ⟨hx, hb, hml, hown, hts⟩ (k_X12_byteAt l D κ β a12 r12 v12_keptMany v12_done v12_sheets v12_holes v12_worms v12_laidMany v12_wanted v12_orderMany v12_firstOrder v12_lines v12_marks v12_dots v12_madeIn v12_bound v12_places v12_maps v12_tapeMany v12_stories v12_base v12_at v12_ends v12_fault v12_opened v12_bodies v12_ran v12_ownKind v12_ownNumber f12_tape f12_text s.heap.size i1 i2 i3 i4 i5 i6 i7 i8 i9 i10 i11 i12 i13 i14 i15 i16 i17 (by omega)) (cwV 0 hts gX12_takes_X12_byteAt rfl rfl rfl (by decide +kernel) ⟨Nat.le_of_ble_eq_true rfl, Nat.le_of_ble_eq_true rfl⟩) (pk_V hK hS hAB hPc hDc 0 (ci := 12) rfl rfl rfl) rfl rfl hl.1 rfl (lv_room (Nat.le_of_ble_eq_true rfl)) dX12_takes_8 ⟨Nat.le_of_ble_eq_true rfl, Nat.le_of_ble_eq_true rfl⟩) (fun x2 u3 H locs hw hPD hS => ?_)
  have h4 : x2.toInt = 0 ∨ v12_at.toInt < v12_ends.toInt := hw
  obtain ⟨hP, hD⟩ : PD D A [O12 a12 r12 v12_keptMany v12_done v12_sheets v12_holes v12_worms v12_laidMany v12_wanted v12_orderMany v12_firstOrder v12_lines v12_marks v12_dots v12_madeIn v12_bound v12_places v12_maps v12_tapeMany v12_stories v12_base v12_at v12_ends v12_fault v12_opened v12_bodies v12_ran v12_ownKind v12_ownNumber, (cI κ (r12 41) 120 f12_tape), (cI κ (r12 45) 720 f12_text)] H := hPD
  refine lv_iload_n hx hb dX12_takes_11 rfl (lv_at hl 1 rfl) ?_
  refine lv_icmp_eq (tgt := 17) hx hb dX12_takes_12 (by decide) (fun c5 => ?_) (fun c5 => ?_)
  · have c5 := ci_eq c5
    refine lv_aload_n hx hb dX12_takes_17 rfl (lv_at hl 0 rfl) ?_
    refine lv_dup hx hb dX12_takes_18 rfl ?_
    refine va_get (D := D) (ci := 12) (v := .int v12_at) (C := RX12) (T := TX12) (N := 63) hx hb hts w1 hown hK.1 hP 0 rfl rfl 48 (by decide) w2 (fun _ h9 => h9) rfl dX12_takes_19 ?_
    refine lv_iconst (v := 1) hx hb dX12_takes_22 (by decide) ?_
    refine lv_iadd hx hb dX12_takes_23 ?_
    refine lv_topi (fun x6 e7 => ?_)
    try have h8 : x6.toInt = v12_at.toInt + (1 : Int32).toInt := ci_add e7 (by omega) (by omega)
    refine va_put (D := D) (ci := 12) (v := .int x6) (ty := .int) (C := RX12) (T := TX12) (N := 63) hx hb hts w1 tyX12 tyX12_ok nmX12 hown hK.1 hP hD hS 0 rfl rfl 48 (by decide) w2 (fun _ h9 => h9) rfl (by decide +kernel) rfl rfl (Nat.le_of_ble_eq_true rfl) dX12_takes_24 (fun H locs hP hD hS => ?_)
    obtain ⟨hP, hD⟩ : PD D A [O12 a12 r12 v12_keptMany v12_done v12_sheets v12_holes v12_worms v12_laidMany v12_wanted v12_orderMany v12_firstOrder v12_lines v12_marks v12_dots v12_madeIn v12_bound v12_places v12_maps v12_tapeMany v12_stories v12_base x6 v12_ends v12_fault v12_opened v12_bodies v12_ran v12_ownKind v12_ownNumber, (cI κ (r12 41) 120 f12_tape), (cI κ (r12 45) 720 f12_text)] H := ⟨hP, hD⟩
    refine lv_iconst (v := 1) hx hb dX12_takes_27 (by decide) ?_
    have hpo : ((1 : Int32).toInt = 1 ∧ v12_fault.toInt < 0 ∧ v12_at.toInt < v12_ends.toInt ∧ x6.toInt = v12_at.toInt + 1) ∨ ((1 : Int32).toInt = 0 ∧ x6.toInt = v12_at.toInt) := (by omega)
    exact ret _ _ _ _ 1 x6 dX12_takes_28 (by omega) hpo hP hD hS
  have c5 := ci_ne c5
  refine lv_iconst (v := 0) hx hb dX12_takes_15 (by decide) ?_
  have hpo : ((0 : Int32).toInt = 1 ∧ v12_fault.toInt < 0 ∧ v12_at.toInt < v12_ends.toInt ∧ v12_at.toInt = v12_at.toInt + 1) ∨ ((0 : Int32).toInt = 0 ∧ v12_at.toInt = v12_at.toInt) := (by omega)
  exact ret _ _ _ _ 0 v12_at dX12_takes_16 (by omega) hpo hP hD hS
set_option maxHeartbeats 4000000 in
set_option maxRecDepth 100000 in
theorem k_X12_nameOf (l : Launch) (D : va_G) (κ : Nat → ClassId) (β : Nat) (sz : Nat) (p1 : Int32) : Met l yX12_nameOf wsX12_nameOf ({ frames := 0, cells := 0, slots := 0, locals := 0 } : Room) (PcK D κ β [] sz [.int p1]) (QiK D (fun (r : Int32) (u : Unit) => r.toInt = -1 ∨ (0 ≤ r.toInt ∧ r.toInt ≤ 7 ∧ p1.toInt ≠ 0)) (fun (u : Unit) => []) [] sz) 0 0 (va_A [] sz) := by
  refine ofK_i (cc := cX12_nameOf) (maxL := 1) (own := RX12) (by decide) rfl rfl (Nat.le_of_ble_eq_true rfl) ?_
  intro p e s m args below meth c Q A ls hsz hx hb hml hts hown hK hA hAB hP hD hl ret
  have hS : va_S A s.heap s.heap [] := va_S.rf
  have hl : lv_has ls 1 [(0, .int p1)] := hl
  have l0 : (7 : Int32).toInt = 7 := by decide
  have l1 : (3 : Int32).toInt = 3 := by decide
  have l2 : ((-1) : Int32).toInt = -1 := by decide
  have l3 : (6 : Int32).toInt = 6 := by decide
  have l4 : (4 : Int32).toInt = 4 := by decide
  have l5 : (0 : Int32).toInt = 0 := by decide
  have l6 : (1 : Int32).toInt = 1 := by decide
  have l7 : (2 : Int32).toInt = 2 := by decide
  have l8 : (5 : Int32).toInt = 5 := by decide
  refine lv_iload_n hx hb dX12_nameOf_0 rfl (lv_at hl 0 rfl) ?_
  by_cases c1 : p1.toInt = 97
  · refine lv_tableIn (off := 130) (tgt := 131) hx hb dX12_nameOf_1 (by omega) (by omega) (by rw [c1]; decide) (by decide) ?_
    refine lv_bipush (v := 7) hx hb dX12_nameOf_131 (by decide) ?_
    have hpo : (7 : Int32).toInt = -1 ∨ (0 ≤ (7 : Int32).toInt ∧ (7 : Int32).toInt ≤ 7 ∧ p1.toInt ≠ 0) := (by omega)
    exact ret _ _ _ _ 7 () dX12_nameOf_133 hpo hP hD hS
  by_cases c2 : p1.toInt = 98
  · refine lv_tableIn (off := 121) (tgt := 122) hx hb dX12_nameOf_1 (by omega) (by omega) (by rw [c2]; decide) (by decide) ?_
    refine lv_iconst (v := 3) hx hb dX12_nameOf_122 (by decide) ?_
    have hpo : (3 : Int32).toInt = -1 ∨ (0 ≤ (3 : Int32).toInt ∧ (3 : Int32).toInt ≤ 7 ∧ p1.toInt ≠ 0) := (by omega)
    exact ret _ _ _ _ 3 () dX12_nameOf_123 hpo hP hD hS
  by_cases c3 : p1.toInt = 99
  · refine lv_tableIn (off := 133) (tgt := 134) hx hb dX12_nameOf_1 (by omega) (by omega) (by rw [c3]; decide) (by decide) ?_
    refine lv_iconst (v := (-1)) hx hb dX12_nameOf_134 (by decide) ?_
    have hpo : ((-1) : Int32).toInt = -1 ∨ (0 ≤ ((-1) : Int32).toInt ∧ ((-1) : Int32).toInt ≤ 7 ∧ p1.toInt ≠ 0) := (by omega)
    exact ret _ _ _ _ (-1) () dX12_nameOf_135 hpo hP hD hS
  by_cases c4 : p1.toInt = 100
  · refine lv_tableIn (off := 133) (tgt := 134) hx hb dX12_nameOf_1 (by omega) (by omega) (by rw [c4]; decide) (by decide) ?_
    refine lv_iconst (v := (-1)) hx hb dX12_nameOf_134 (by decide) ?_
    have hpo : ((-1) : Int32).toInt = -1 ∨ (0 ≤ ((-1) : Int32).toInt ∧ ((-1) : Int32).toInt ≤ 7 ∧ p1.toInt ≠ 0) := (by omega)
    exact ret _ _ _ _ (-1) () dX12_nameOf_135 hpo hP hD hS
  by_cases c5 : p1.toInt = 101
  · refine lv_tableIn (off := 133) (tgt := 134) hx hb dX12_nameOf_1 (by omega) (by omega) (by rw [c5]; decide) (by decide) ?_
    refine lv_iconst (v := (-1)) hx hb dX12_nameOf_134 (by decide) ?_
    have hpo : ((-1) : Int32).toInt = -1 ∨ (0 ≤ ((-1) : Int32).toInt ∧ ((-1) : Int32).toInt ≤ 7 ∧ p1.toInt ≠ 0) := (by omega)
    exact ret _ _ _ _ (-1) () dX12_nameOf_135 hpo hP hD hS
  by_cases c6 : p1.toInt = 102
  · refine lv_tableIn (off := 127) (tgt := 128) hx hb dX12_nameOf_1 (by omega) (by omega) (by rw [c6]; decide) (by decide) ?_
    refine lv_bipush (v := 6) hx hb dX12_nameOf_128 (by decide) ?_
    have hpo : (6 : Int32).toInt = -1 ∨ (0 ≤ (6 : Int32).toInt ∧ (6 : Int32).toInt ≤ 7 ∧ p1.toInt ≠ 0) := (by omega)
    exact ret _ _ _ _ 6 () dX12_nameOf_130 hpo hP hD hS
  by_cases c7 : p1.toInt = 103
  · refine lv_tableIn (off := 133) (tgt := 134) hx hb dX12_nameOf_1 (by omega) (by omega) (by rw [c7]; decide) (by decide) ?_
    refine lv_iconst (v := (-1)) hx hb dX12_nameOf_134 (by decide) ?_
    have hpo : ((-1) : Int32).toInt = -1 ∨ (0 ≤ ((-1) : Int32).toInt ∧ ((-1) : Int32).toInt ≤ 7 ∧ p1.toInt ≠ 0) := (by omega)
    exact ret _ _ _ _ (-1) () dX12_nameOf_135 hpo hP hD hS
  by_cases c8 : p1.toInt = 104
  · refine lv_tableIn (off := 133) (tgt := 134) hx hb dX12_nameOf_1 (by omega) (by omega) (by rw [c8]; decide) (by decide) ?_
    refine lv_iconst (v := (-1)) hx hb dX12_nameOf_134 (by decide) ?_
    have hpo : ((-1) : Int32).toInt = -1 ∨ (0 ≤ ((-1) : Int32).toInt ∧ ((-1) : Int32).toInt ≤ 7 ∧ p1.toInt ≠ 0) := (by omega)
    exact ret _ _ _ _ (-1) () dX12_nameOf_135 hpo hP hD hS
  by_cases c9 : p1.toInt = 105
  · refine lv_tableIn (off := 133) (tgt := 134) hx hb dX12_nameOf_1 (by omega) (by omega) (by rw [c9]; decide) (by decide) ?_
    refine lv_iconst (v := (-1)) hx hb dX12_nameOf_134 (by decide) ?_
    have hpo : ((-1) : Int32).toInt = -1 ∨ (0 ≤ ((-1) : Int32).toInt ∧ ((-1) : Int32).toInt ≤ 7 ∧ p1.toInt ≠ 0) := (by omega)
    exact ret _ _ _ _ (-1) () dX12_nameOf_135 hpo hP hD hS
  by_cases c10 : p1.toInt = 106
  · refine lv_tableIn (off := 133) (tgt := 134) hx hb dX12_nameOf_1 (by omega) (by omega) (by rw [c10]; decide) (by decide) ?_
    refine lv_iconst (v := (-1)) hx hb dX12_nameOf_134 (by decide) ?_
    have hpo : ((-1) : Int32).toInt = -1 ∨ (0 ≤ ((-1) : Int32).toInt ∧ ((-1) : Int32).toInt ≤ 7 ∧ p1.toInt ≠ 0) := (by omega)
    exact ret _ _ _ _ (-1) () dX12_nameOf_135 hpo hP hD hS
  by_cases c11 : p1.toInt = 107
  · refine lv_tableIn (off := 133) (tgt := 134) hx hb dX12_nameOf_1 (by omega) (by omega) (by rw [c11]; decide) (by decide) ?_
    refine lv_iconst (v := (-1)) hx hb dX12_nameOf_134 (by decide) ?_
    have hpo : ((-1) : Int32).toInt = -1 ∨ (0 ≤ ((-1) : Int32).toInt ∧ ((-1) : Int32).toInt ≤ 7 ∧ p1.toInt ≠ 0) := (by omega)
    exact ret _ _ _ _ (-1) () dX12_nameOf_135 hpo hP hD hS
  by_cases c12 : p1.toInt = 108
  · refine lv_tableIn (off := 123) (tgt := 124) hx hb dX12_nameOf_1 (by omega) (by omega) (by rw [c12]; decide) (by decide) ?_
    refine lv_iconst (v := 4) hx hb dX12_nameOf_124 (by decide) ?_
    have hpo : (4 : Int32).toInt = -1 ∨ (0 ≤ (4 : Int32).toInt ∧ (4 : Int32).toInt ≤ 7 ∧ p1.toInt ≠ 0) := (by omega)
    exact ret _ _ _ _ 4 () dX12_nameOf_125 hpo hP hD hS
  by_cases c13 : p1.toInt = 109
  · refine lv_tableIn (off := 133) (tgt := 134) hx hb dX12_nameOf_1 (by omega) (by omega) (by rw [c13]; decide) (by decide) ?_
    refine lv_iconst (v := (-1)) hx hb dX12_nameOf_134 (by decide) ?_
    have hpo : ((-1) : Int32).toInt = -1 ∨ (0 ≤ ((-1) : Int32).toInt ∧ ((-1) : Int32).toInt ≤ 7 ∧ p1.toInt ≠ 0) := (by omega)
    exact ret _ _ _ _ (-1) () dX12_nameOf_135 hpo hP hD hS
  by_cases c14 : p1.toInt = 110
  · refine lv_tableIn (off := 133) (tgt := 134) hx hb dX12_nameOf_1 (by omega) (by omega) (by rw [c14]; decide) (by decide) ?_
    refine lv_iconst (v := (-1)) hx hb dX12_nameOf_134 (by decide) ?_
    have hpo : ((-1) : Int32).toInt = -1 ∨ (0 ≤ ((-1) : Int32).toInt ∧ ((-1) : Int32).toInt ≤ 7 ∧ p1.toInt ≠ 0) := (by omega)
    exact ret _ _ _ _ (-1) () dX12_nameOf_135 hpo hP hD hS
  by_cases c15 : p1.toInt = 111
  · refine lv_tableIn (off := 115) (tgt := 116) hx hb dX12_nameOf_1 (by omega) (by omega) (by rw [c15]; decide) (by decide) ?_
    refine lv_iconst (v := 0) hx hb dX12_nameOf_116 (by decide) ?_
    have hpo : (0 : Int32).toInt = -1 ∨ (0 ≤ (0 : Int32).toInt ∧ (0 : Int32).toInt ≤ 7 ∧ p1.toInt ≠ 0) := (by omega)
    exact ret _ _ _ _ 0 () dX12_nameOf_117 hpo hP hD hS
  by_cases c16 : p1.toInt = 112
  · refine lv_tableIn (off := 133) (tgt := 134) hx hb dX12_nameOf_1 (by omega) (by omega) (by rw [c16]; decide) (by decide) ?_
    refine lv_iconst (v := (-1)) hx hb dX12_nameOf_134 (by decide) ?_
    have hpo : ((-1) : Int32).toInt = -1 ∨ (0 ≤ ((-1) : Int32).toInt ∧ ((-1) : Int32).toInt ≤ 7 ∧ p1.toInt ≠ 0) := (by omega)
    exact ret _ _ _ _ (-1) () dX12_nameOf_135 hpo hP hD hS
  by_cases c17 : p1.toInt = 113
  · refine lv_tableIn (off := 133) (tgt := 134) hx hb dX12_nameOf_1 (by omega) (by omega) (by rw [c17]; decide) (by decide) ?_
    refine lv_iconst (v := (-1)) hx hb dX12_nameOf_134 (by decide) ?_
    have hpo : ((-1) : Int32).toInt = -1 ∨ (0 ≤ ((-1) : Int32).toInt ∧ ((-1) : Int32).toInt ≤ 7 ∧ p1.toInt ≠ 0) := (by omega)
    exact ret _ _ _ _ (-1) () dX12_nameOf_135 hpo hP hD hS
  by_cases c18 : p1.toInt = 114
  · refine lv_tableIn (off := 117) (tgt := 118) hx hb dX12_nameOf_1 (by omega) (by omega) (by rw [c18]; decide) (by decide) ?_
    refine lv_iconst (v := 1) hx hb dX12_nameOf_118 (by decide) ?_
    have hpo : (1 : Int32).toInt = -1 ∨ (0 ≤ (1 : Int32).toInt ∧ (1 : Int32).toInt ≤ 7 ∧ p1.toInt ≠ 0) := (by omega)
    exact ret _ _ _ _ 1 () dX12_nameOf_119 hpo hP hD hS
  by_cases c19 : p1.toInt = 115
  · refine lv_tableIn (off := 119) (tgt := 120) hx hb dX12_nameOf_1 (by omega) (by omega) (by rw [c19]; decide) (by decide) ?_
    refine lv_iconst (v := 2) hx hb dX12_nameOf_120 (by decide) ?_
    have hpo : (2 : Int32).toInt = -1 ∨ (0 ≤ (2 : Int32).toInt ∧ (2 : Int32).toInt ≤ 7 ∧ p1.toInt ≠ 0) := (by omega)
    exact ret _ _ _ _ 2 () dX12_nameOf_121 hpo hP hD hS
  by_cases c20 : p1.toInt = 116
  · refine lv_tableIn (off := 133) (tgt := 134) hx hb dX12_nameOf_1 (by omega) (by omega) (by rw [c20]; decide) (by decide) ?_
    refine lv_iconst (v := (-1)) hx hb dX12_nameOf_134 (by decide) ?_
    have hpo : ((-1) : Int32).toInt = -1 ∨ (0 ≤ ((-1) : Int32).toInt ∧ ((-1) : Int32).toInt ≤ 7 ∧ p1.toInt ≠ 0) := (by omega)
    exact ret _ _ _ _ (-1) () dX12_nameOf_135 hpo hP hD hS
  by_cases c21 : p1.toInt = 117
  · refine lv_tableIn (off := 133) (tgt := 134) hx hb dX12_nameOf_1 (by omega) (by omega) (by rw [c21]; decide) (by decide) ?_
    refine lv_iconst (v := (-1)) hx hb dX12_nameOf_134 (by decide) ?_
    have hpo : ((-1) : Int32).toInt = -1 ∨ (0 ≤ ((-1) : Int32).toInt ∧ ((-1) : Int32).toInt ≤ 7 ∧ p1.toInt ≠ 0) := (by omega)
    exact ret _ _ _ _ (-1) () dX12_nameOf_135 hpo hP hD hS
  by_cases c22 : p1.toInt = 118
  · refine lv_tableIn (off := 133) (tgt := 134) hx hb dX12_nameOf_1 (by omega) (by omega) (by rw [c22]; decide) (by decide) ?_
    refine lv_iconst (v := (-1)) hx hb dX12_nameOf_134 (by decide) ?_
    have hpo : ((-1) : Int32).toInt = -1 ∨ (0 ≤ ((-1) : Int32).toInt ∧ ((-1) : Int32).toInt ≤ 7 ∧ p1.toInt ≠ 0) := (by omega)
    exact ret _ _ _ _ (-1) () dX12_nameOf_135 hpo hP hD hS
  by_cases c23 : p1.toInt = 119
  · refine lv_tableIn (off := 133) (tgt := 134) hx hb dX12_nameOf_1 (by omega) (by omega) (by rw [c23]; decide) (by decide) ?_
    refine lv_iconst (v := (-1)) hx hb dX12_nameOf_134 (by decide) ?_
    have hpo : ((-1) : Int32).toInt = -1 ∨ (0 ≤ ((-1) : Int32).toInt ∧ ((-1) : Int32).toInt ≤ 7 ∧ p1.toInt ≠ 0) := (by omega)
    exact ret _ _ _ _ (-1) () dX12_nameOf_135 hpo hP hD hS
  by_cases c24 : p1.toInt = 120
  · refine lv_tableIn (off := 133) (tgt := 134) hx hb dX12_nameOf_1 (by omega) (by omega) (by rw [c24]; decide) (by decide) ?_
    refine lv_iconst (v := (-1)) hx hb dX12_nameOf_134 (by decide) ?_
    have hpo : ((-1) : Int32).toInt = -1 ∨ (0 ≤ ((-1) : Int32).toInt ∧ ((-1) : Int32).toInt ≤ 7 ∧ p1.toInt ≠ 0) := (by omega)
    exact ret _ _ _ _ (-1) () dX12_nameOf_135 hpo hP hD hS
  by_cases c25 : p1.toInt = 121
  · refine lv_tableIn (off := 125) (tgt := 126) hx hb dX12_nameOf_1 (by omega) (by omega) (by rw [c25]; decide) (by decide) ?_
    refine lv_iconst (v := 5) hx hb dX12_nameOf_126 (by decide) ?_
    have hpo : (5 : Int32).toInt = -1 ∨ (0 ≤ (5 : Int32).toInt ∧ (5 : Int32).toInt ≤ 7 ∧ p1.toInt ≠ 0) := (by omega)
    exact ret _ _ _ _ 5 () dX12_nameOf_127 hpo hP hD hS
  refine lv_tableOut (tgt := 134) hx hb dX12_nameOf_1 (by omega) (by decide) ?_
  refine lv_iconst (v := (-1)) hx hb dX12_nameOf_134 (by decide) ?_
  have hpo : ((-1) : Int32).toInt = -1 ∨ (0 ≤ ((-1) : Int32).toInt ∧ ((-1) : Int32).toInt ≤ 7 ∧ p1.toInt ≠ 0) := (by omega)
  exact ret _ _ _ _ (-1) () dX12_nameOf_135 hpo hP hD hS
def C_X12_one (l : Launch) (D : va_G) (κ : Nat → ClassId) (β d : Nat) : Prop := ∀ (a12 : Nat) (r12 : Nat → Nat) (v12_keptMany : Int32) (v12_done : Int32) (v12_sheets : Int32) (v12_holes : Int32) (v12_worms : Int32) (v12_laidMany : Int32) (v12_wanted : Int32) (v12_orderMany : Int32) (v12_firstOrder : Int32) (v12_lines : Int32) (v12_marks : Int32) (v12_dots : Int32) (v12_madeIn : Int32) (v12_bound : Int32) (v12_places : Int32) (v12_maps : Int32) (v12_tapeMany : Int32) (v12_stories : Int32) (v12_base : Int32) (v12_at : Int32) (v12_ends : Int32) (v12_fault : Int32) (v12_opened : Int32) (v12_bodies : Int32) (v12_ran : Int32) (v12_ownKind : Int32) (v12_ownNumber : Int32) (f12_tape : Nat → Int32) (f12_text : Nat → Int32) (f12_names : Nat → Int32) (sz : Nat) (i1 : Rg 0 40 v12_keptMany) (i2 : Rg 0 40 v12_done) (i3 : Rg 0 8 v12_sheets) (i4 : Rg 0 40 v12_holes) (i5 : Rg 0 40 v12_worms) (i6 : Rg 0 8 v12_laidMany) (i7 : Rg 0 8 v12_wanted) (i8 : Rg 0 20 v12_lines) (i9 : Rg 0 60 v12_marks) (i10 : Rg 0 40 v12_dots) (i11 : Rg 0 20 v12_places) (i12 : Rg 0 8 v12_maps) (i13 : Rg 0 120 v12_tapeMany) (i14 : Rg 0 6 v12_stories) (i15 : Rg 0 50 v12_bodies) (i16 : Rg 0 1000 v12_ran) (i17 : v12_done.toInt ≤ v12_keptMany.toInt) (i18 : 0 ≤ v12_at.toInt ∧ v12_at.toInt ≤ v12_ends.toInt ∧ v12_ends.toInt ≤ 120 ∧ v12_base.toInt ≤ 600) (i19 : 0 ≤ v12_opened.toInt ∧ v12_opened.toInt ≤ 6) (i20 : 0 ≤ v12_fault.toInt ∨ 6 - v12_opened.toInt ≤ d), Met l yX12_one wsX12_one ({ frames := 6 * d + 2, cells := 0, slots := 0, locals := 137 * d + 60 } : Room) (PcK D κ β [O12 a12 r12 v12_keptMany v12_done v12_sheets v12_holes v12_worms v12_laidMany v12_wanted v12_orderMany v12_firstOrder v12_lines v12_marks v12_dots v12_madeIn v12_bound v12_places v12_maps v12_tapeMany v12_stories v12_base v12_at v12_ends v12_fault v12_opened v12_bodies v12_ran v12_ownKind v12_ownNumber, (cI κ (r12 41) 120 f12_tape), (cI κ (r12 45) 720 f12_text), (cI κ (r12 52) 8 f12_names)] sz [.ref a12]) (QiK D (fun (r : Int32) (u : Int32 × Int32 × Int32) => (v12_at.toInt ≤ u.1.toInt ∧ u.1.toInt ≤ v12_ends.toInt) ∧ (v12_opened.toInt ≤ u.2.2.toInt ∧ u.2.2.toInt ≤ 6 ∧ (0 ≤ u.2.1.toInt ∨ u.2.2.toInt = v12_opened.toInt)) ∧ (v12_fault.toInt < 0 ∨ 0 ≤ u.2.1.toInt)) (fun (u : Int32 × Int32 × Int32) => [O12 a12 r12 v12_keptMany v12_done v12_sheets v12_holes v12_worms v12_laidMany v12_wanted v12_orderMany v12_firstOrder v12_lines v12_marks v12_dots v12_madeIn v12_bound v12_places v12_maps v12_tapeMany v12_stories v12_base u.1 v12_ends u.2.1 u.2.2 v12_bodies v12_ran v12_ownKind v12_ownNumber, (cI κ (r12 41) 120 f12_tape), (cI κ (r12 45) 720 f12_text), (cI κ (r12 52) 8 f12_names)]) [O12 a12 r12 v12_keptMany v12_done v12_sheets v12_holes v12_worms v12_laidMany v12_wanted v12_orderMany v12_firstOrder v12_lines v12_marks v12_dots v12_madeIn v12_bound v12_places v12_maps v12_tapeMany v12_stories v12_base v12_at v12_ends v12_fault v12_opened v12_bodies v12_ran v12_ownKind v12_ownNumber, (cI κ (r12 41) 120 f12_tape), (cI κ (r12 45) 720 f12_text), (cI κ (r12 52) 8 f12_names)] sz) 0 0 (va_A [O12 a12 r12 v12_keptMany v12_done v12_sheets v12_holes v12_worms v12_laidMany v12_wanted v12_orderMany v12_firstOrder v12_lines v12_marks v12_dots v12_madeIn v12_bound v12_places v12_maps v12_tapeMany v12_stories v12_base v12_at v12_ends v12_fault v12_opened v12_bodies v12_ran v12_ownKind v12_ownNumber, (cI κ (r12 41) 120 f12_tape), (cI κ (r12 45) 720 f12_text), (cI κ (r12 52) 8 f12_names)] sz)
def C_X12_product (l : Launch) (D : va_G) (κ : Nat → ClassId) (β d : Nat) : Prop := ∀ (a12 : Nat) (r12 : Nat → Nat) (v12_keptMany : Int32) (v12_done : Int32) (v12_sheets : Int32) (v12_holes : Int32) (v12_worms : Int32) (v12_laidMany : Int32) (v12_wanted : Int32) (v12_orderMany : Int32) (v12_firstOrder : Int32) (v12_lines : Int32) (v12_marks : Int32) (v12_dots : Int32) (v12_madeIn : Int32) (v12_bound : Int32) (v12_places : Int32) (v12_maps : Int32) (v12_tapeMany : Int32) (v12_stories : Int32) (v12_base : Int32) (v12_at : Int32) (v12_ends : Int32) (v12_fault : Int32) (v12_opened : Int32) (v12_bodies : Int32) (v12_ran : Int32) (v12_ownKind : Int32) (v12_ownNumber : Int32) (f12_tape : Nat → Int32) (f12_text : Nat → Int32) (f12_names : Nat → Int32) (sz : Nat) (i1 : Rg 0 40 v12_keptMany) (i2 : Rg 0 40 v12_done) (i3 : Rg 0 8 v12_sheets) (i4 : Rg 0 40 v12_holes) (i5 : Rg 0 40 v12_worms) (i6 : Rg 0 8 v12_laidMany) (i7 : Rg 0 8 v12_wanted) (i8 : Rg 0 20 v12_lines) (i9 : Rg 0 60 v12_marks) (i10 : Rg 0 40 v12_dots) (i11 : Rg 0 20 v12_places) (i12 : Rg 0 8 v12_maps) (i13 : Rg 0 120 v12_tapeMany) (i14 : Rg 0 6 v12_stories) (i15 : Rg 0 50 v12_bodies) (i16 : Rg 0 1000 v12_ran) (i17 : v12_done.toInt ≤ v12_keptMany.toInt) (i18 : 0 ≤ v12_at.toInt ∧ v12_at.toInt ≤ v12_ends.toInt ∧ v12_ends.toInt ≤ 120 ∧ v12_base.toInt ≤ 600) (i19 : 0 ≤ v12_opened.toInt ∧ v12_opened.toInt ≤ 6) (i20 : 0 ≤ v12_fault.toInt ∨ 6 - v12_opened.toInt ≤ d), Met l yX12_product wsX12_product ({ frames := 6 * d + 3, cells := 0, slots := 0, locals := 137 * d + 84 } : Room) (PcK D κ β [O12 a12 r12 v12_keptMany v12_done v12_sheets v12_holes v12_worms v12_laidMany v12_wanted v12_orderMany v12_firstOrder v12_lines v12_marks v12_dots v12_madeIn v12_bound v12_places v12_maps v12_tapeMany v12_stories v12_base v12_at v12_ends v12_fault v12_opened v12_bodies v12_ran v12_ownKind v12_ownNumber, (cI κ (r12 41) 120 f12_tape), (cI κ (r12 45) 720 f12_text), (cI κ (r12 52) 8 f12_names)] sz [.ref a12]) (QiK D (fun (r : Int32) (u : Int32 × Int32 × Int32) => (v12_at.toInt ≤ u.1.toInt ∧ u.1.toInt ≤ v12_ends.toInt) ∧ (v12_opened.toInt ≤ u.2.2.toInt ∧ u.2.2.toInt ≤ 6 ∧ (0 ≤ u.2.1.toInt ∨ u.2.2.toInt = v12_opened.toInt)) ∧ (v12_fault.toInt < 0 ∨ 0 ≤ u.2.1.toInt)) (fun (u : Int32 × Int32 × Int32) => [O12 a12 r12 v12_keptMany v12_done v12_sheets v12_holes v12_worms v12_laidMany v12_wanted v12_orderMany v12_firstOrder v12_lines v12_marks v12_dots v12_madeIn v12_bound v12_places v12_maps v12_tapeMany v12_stories v12_base u.1 v12_ends u.2.1 u.2.2 v12_bodies v12_ran v12_ownKind v12_ownNumber, (cI κ (r12 41) 120 f12_tape), (cI κ (r12 45) 720 f12_text), (cI κ (r12 52) 8 f12_names)]) [O12 a12 r12 v12_keptMany v12_done v12_sheets v12_holes v12_worms v12_laidMany v12_wanted v12_orderMany v12_firstOrder v12_lines v12_marks v12_dots v12_madeIn v12_bound v12_places v12_maps v12_tapeMany v12_stories v12_base v12_at v12_ends v12_fault v12_opened v12_bodies v12_ran v12_ownKind v12_ownNumber, (cI κ (r12 41) 120 f12_tape), (cI κ (r12 45) 720 f12_text), (cI κ (r12 52) 8 f12_names)] sz) 0 0 (va_A [O12 a12 r12 v12_keptMany v12_done v12_sheets v12_holes v12_worms v12_laidMany v12_wanted v12_orderMany v12_firstOrder v12_lines v12_marks v12_dots v12_madeIn v12_bound v12_places v12_maps v12_tapeMany v12_stories v12_base v12_at v12_ends v12_fault v12_opened v12_bodies v12_ran v12_ownKind v12_ownNumber, (cI κ (r12 41) 120 f12_tape), (cI κ (r12 45) 720 f12_text), (cI κ (r12 52) 8 f12_names)] sz)
def C_X12_sums (l : Launch) (D : va_G) (κ : Nat → ClassId) (β d : Nat) : Prop := ∀ (a12 : Nat) (r12 : Nat → Nat) (v12_keptMany : Int32) (v12_done : Int32) (v12_sheets : Int32) (v12_holes : Int32) (v12_worms : Int32) (v12_laidMany : Int32) (v12_wanted : Int32) (v12_orderMany : Int32) (v12_firstOrder : Int32) (v12_lines : Int32) (v12_marks : Int32) (v12_dots : Int32) (v12_madeIn : Int32) (v12_bound : Int32) (v12_places : Int32) (v12_maps : Int32) (v12_tapeMany : Int32) (v12_stories : Int32) (v12_base : Int32) (v12_at : Int32) (v12_ends : Int32) (v12_fault : Int32) (v12_opened : Int32) (v12_bodies : Int32) (v12_ran : Int32) (v12_ownKind : Int32) (v12_ownNumber : Int32) (f12_tape : Nat → Int32) (f12_text : Nat → Int32) (f12_names : Nat → Int32) (sz : Nat) (i1 : Rg 0 40 v12_keptMany) (i2 : Rg 0 40 v12_done) (i3 : Rg 0 8 v12_sheets) (i4 : Rg 0 40 v12_holes) (i5 : Rg 0 40 v12_worms) (i6 : Rg 0 8 v12_laidMany) (i7 : Rg 0 8 v12_wanted) (i8 : Rg 0 20 v12_lines) (i9 : Rg 0 60 v12_marks) (i10 : Rg 0 40 v12_dots) (i11 : Rg 0 20 v12_places) (i12 : Rg 0 8 v12_maps) (i13 : Rg 0 120 v12_tapeMany) (i14 : Rg 0 6 v12_stories) (i15 : Rg 0 50 v12_bodies) (i16 : Rg 0 1000 v12_ran) (i17 : v12_done.toInt ≤ v12_keptMany.toInt) (i18 : 0 ≤ v12_at.toInt ∧ v12_at.toInt ≤ v12_ends.toInt ∧ v12_ends.toInt ≤ 120 ∧ v12_base.toInt ≤ 600) (i19 : 0 ≤ v12_opened.toInt ∧ v12_opened.toInt ≤ 6) (i20 : 0 ≤ v12_fault.toInt ∨ 6 - v12_opened.toInt ≤ d), Met l yX12_sums wsX12_sums ({ frames := 6 * d + 4, cells := 0, slots := 0, locals := 137 * d + 107 } : Room) (PcK D κ β [O12 a12 r12 v12_keptMany v12_done v12_sheets v12_holes v12_worms v12_laidMany v12_wanted v12_orderMany v12_firstOrder v12_lines v12_marks v12_dots v12_madeIn v12_bound v12_places v12_maps v12_tapeMany v12_stories v12_base v12_at v12_ends v12_fault v12_opened v12_bodies v12_ran v12_ownKind v12_ownNumber, (cI κ (r12 41) 120 f12_tape), (cI κ (r12 45) 720 f12_text), (cI κ (r12 52) 8 f12_names)] sz [.ref a12]) (QiK D (fun (r : Int32) (u : Int32 × Int32 × Int32) => (v12_at.toInt ≤ u.1.toInt ∧ u.1.toInt ≤ v12_ends.toInt) ∧ (v12_opened.toInt ≤ u.2.2.toInt ∧ u.2.2.toInt ≤ 6 ∧ (0 ≤ u.2.1.toInt ∨ u.2.2.toInt = v12_opened.toInt)) ∧ (v12_fault.toInt < 0 ∨ 0 ≤ u.2.1.toInt)) (fun (u : Int32 × Int32 × Int32) => [O12 a12 r12 v12_keptMany v12_done v12_sheets v12_holes v12_worms v12_laidMany v12_wanted v12_orderMany v12_firstOrder v12_lines v12_marks v12_dots v12_madeIn v12_bound v12_places v12_maps v12_tapeMany v12_stories v12_base u.1 v12_ends u.2.1 u.2.2 v12_bodies v12_ran v12_ownKind v12_ownNumber, (cI κ (r12 41) 120 f12_tape), (cI κ (r12 45) 720 f12_text), (cI κ (r12 52) 8 f12_names)]) [O12 a12 r12 v12_keptMany v12_done v12_sheets v12_holes v12_worms v12_laidMany v12_wanted v12_orderMany v12_firstOrder v12_lines v12_marks v12_dots v12_madeIn v12_bound v12_places v12_maps v12_tapeMany v12_stories v12_base v12_at v12_ends v12_fault v12_opened v12_bodies v12_ran v12_ownKind v12_ownNumber, (cI κ (r12 41) 120 f12_tape), (cI κ (r12 45) 720 f12_text), (cI κ (r12 52) 8 f12_names)] sz) 0 0 (va_A [O12 a12 r12 v12_keptMany v12_done v12_sheets v12_holes v12_worms v12_laidMany v12_wanted v12_orderMany v12_firstOrder v12_lines v12_marks v12_dots v12_madeIn v12_bound v12_places v12_maps v12_tapeMany v12_stories v12_base v12_at v12_ends v12_fault v12_opened v12_bodies v12_ran v12_ownKind v12_ownNumber, (cI κ (r12 41) 120 f12_tape), (cI κ (r12 45) 720 f12_text), (cI κ (r12 52) 8 f12_names)] sz)
def C_X12_compared (l : Launch) (D : va_G) (κ : Nat → ClassId) (β d : Nat) : Prop := ∀ (a12 : Nat) (r12 : Nat → Nat) (v12_keptMany : Int32) (v12_done : Int32) (v12_sheets : Int32) (v12_holes : Int32) (v12_worms : Int32) (v12_laidMany : Int32) (v12_wanted : Int32) (v12_orderMany : Int32) (v12_firstOrder : Int32) (v12_lines : Int32) (v12_marks : Int32) (v12_dots : Int32) (v12_madeIn : Int32) (v12_bound : Int32) (v12_places : Int32) (v12_maps : Int32) (v12_tapeMany : Int32) (v12_stories : Int32) (v12_base : Int32) (v12_at : Int32) (v12_ends : Int32) (v12_fault : Int32) (v12_opened : Int32) (v12_bodies : Int32) (v12_ran : Int32) (v12_ownKind : Int32) (v12_ownNumber : Int32) (f12_tape : Nat → Int32) (f12_text : Nat → Int32) (f12_names : Nat → Int32) (sz : Nat) (i1 : Rg 0 40 v12_keptMany) (i2 : Rg 0 40 v12_done) (i3 : Rg 0 8 v12_sheets) (i4 : Rg 0 40 v12_holes) (i5 : Rg 0 40 v12_worms) (i6 : Rg 0 8 v12_laidMany) (i7 : Rg 0 8 v12_wanted) (i8 : Rg 0 20 v12_lines) (i9 : Rg 0 60 v12_marks) (i10 : Rg 0 40 v12_dots) (i11 : Rg 0 20 v12_places) (i12 : Rg 0 8 v12_maps) (i13 : Rg 0 120 v12_tapeMany) (i14 : Rg 0 6 v12_stories) (i15 : Rg 0 50 v12_bodies) (i16 : Rg 0 1000 v12_ran) (i17 : v12_done.toInt ≤ v12_keptMany.toInt) (i18 : 0 ≤ v12_at.toInt ∧ v12_at.toInt ≤ v12_ends.toInt ∧ v12_ends.toInt ≤ 120 ∧ v12_base.toInt ≤ 600) (i19 : 0 ≤ v12_opened.toInt ∧ v12_opened.toInt ≤ 6) (i20 : 0 ≤ v12_fault.toInt ∨ 6 - v12_opened.toInt ≤ d), Met l yX12_compared wsX12_compared ({ frames := 6 * d + 5, cells := 0, slots := 0, locals := 137 * d + 130 } : Room) (PcK D κ β [O12 a12 r12 v12_keptMany v12_done v12_sheets v12_holes v12_worms v12_laidMany v12_wanted v12_orderMany v12_firstOrder v12_lines v12_marks v12_dots v12_madeIn v12_bound v12_places v12_maps v12_tapeMany v12_stories v12_base v12_at v12_ends v12_fault v12_opened v12_bodies v12_ran v12_ownKind v12_ownNumber, (cI κ (r12 41) 120 f12_tape), (cI κ (r12 45) 720 f12_text), (cI κ (r12 52) 8 f12_names)] sz [.ref a12]) (QiK D (fun (r : Int32) (u : Int32 × Int32 × Int32) => (v12_at.toInt ≤ u.1.toInt ∧ u.1.toInt ≤ v12_ends.toInt) ∧ (v12_opened.toInt ≤ u.2.2.toInt ∧ u.2.2.toInt ≤ 6 ∧ (0 ≤ u.2.1.toInt ∨ u.2.2.toInt = v12_opened.toInt)) ∧ (v12_fault.toInt < 0 ∨ 0 ≤ u.2.1.toInt)) (fun (u : Int32 × Int32 × Int32) => [O12 a12 r12 v12_keptMany v12_done v12_sheets v12_holes v12_worms v12_laidMany v12_wanted v12_orderMany v12_firstOrder v12_lines v12_marks v12_dots v12_madeIn v12_bound v12_places v12_maps v12_tapeMany v12_stories v12_base u.1 v12_ends u.2.1 u.2.2 v12_bodies v12_ran v12_ownKind v12_ownNumber, (cI κ (r12 41) 120 f12_tape), (cI κ (r12 45) 720 f12_text), (cI κ (r12 52) 8 f12_names)]) [O12 a12 r12 v12_keptMany v12_done v12_sheets v12_holes v12_worms v12_laidMany v12_wanted v12_orderMany v12_firstOrder v12_lines v12_marks v12_dots v12_madeIn v12_bound v12_places v12_maps v12_tapeMany v12_stories v12_base v12_at v12_ends v12_fault v12_opened v12_bodies v12_ran v12_ownKind v12_ownNumber, (cI κ (r12 41) 120 f12_tape), (cI κ (r12 45) 720 f12_text), (cI κ (r12 52) 8 f12_names)] sz) 0 0 (va_A [O12 a12 r12 v12_keptMany v12_done v12_sheets v12_holes v12_worms v12_laidMany v12_wanted v12_orderMany v12_firstOrder v12_lines v12_marks v12_dots v12_madeIn v12_bound v12_places v12_maps v12_tapeMany v12_stories v12_base v12_at v12_ends v12_fault v12_opened v12_bodies v12_ran v12_ownKind v12_ownNumber, (cI κ (r12 41) 120 f12_tape), (cI κ (r12 45) 720 f12_text), (cI κ (r12 52) 8 f12_names)] sz)
def C_X12_both (l : Launch) (D : va_G) (κ : Nat → ClassId) (β d : Nat) : Prop := ∀ (a12 : Nat) (r12 : Nat → Nat) (v12_keptMany : Int32) (v12_done : Int32) (v12_sheets : Int32) (v12_holes : Int32) (v12_worms : Int32) (v12_laidMany : Int32) (v12_wanted : Int32) (v12_orderMany : Int32) (v12_firstOrder : Int32) (v12_lines : Int32) (v12_marks : Int32) (v12_dots : Int32) (v12_madeIn : Int32) (v12_bound : Int32) (v12_places : Int32) (v12_maps : Int32) (v12_tapeMany : Int32) (v12_stories : Int32) (v12_base : Int32) (v12_at : Int32) (v12_ends : Int32) (v12_fault : Int32) (v12_opened : Int32) (v12_bodies : Int32) (v12_ran : Int32) (v12_ownKind : Int32) (v12_ownNumber : Int32) (f12_tape : Nat → Int32) (f12_text : Nat → Int32) (f12_names : Nat → Int32) (sz : Nat) (i1 : Rg 0 40 v12_keptMany) (i2 : Rg 0 40 v12_done) (i3 : Rg 0 8 v12_sheets) (i4 : Rg 0 40 v12_holes) (i5 : Rg 0 40 v12_worms) (i6 : Rg 0 8 v12_laidMany) (i7 : Rg 0 8 v12_wanted) (i8 : Rg 0 20 v12_lines) (i9 : Rg 0 60 v12_marks) (i10 : Rg 0 40 v12_dots) (i11 : Rg 0 20 v12_places) (i12 : Rg 0 8 v12_maps) (i13 : Rg 0 120 v12_tapeMany) (i14 : Rg 0 6 v12_stories) (i15 : Rg 0 50 v12_bodies) (i16 : Rg 0 1000 v12_ran) (i17 : v12_done.toInt ≤ v12_keptMany.toInt) (i18 : 0 ≤ v12_at.toInt ∧ v12_at.toInt ≤ v12_ends.toInt ∧ v12_ends.toInt ≤ 120 ∧ v12_base.toInt ≤ 600) (i19 : 0 ≤ v12_opened.toInt ∧ v12_opened.toInt ≤ 6) (i20 : 0 ≤ v12_fault.toInt ∨ 6 - v12_opened.toInt ≤ d), Met l yX12_both wsX12_both ({ frames := 6 * d + 6, cells := 0, slots := 0, locals := 137 * d + 153 } : Room) (PcK D κ β [O12 a12 r12 v12_keptMany v12_done v12_sheets v12_holes v12_worms v12_laidMany v12_wanted v12_orderMany v12_firstOrder v12_lines v12_marks v12_dots v12_madeIn v12_bound v12_places v12_maps v12_tapeMany v12_stories v12_base v12_at v12_ends v12_fault v12_opened v12_bodies v12_ran v12_ownKind v12_ownNumber, (cI κ (r12 41) 120 f12_tape), (cI κ (r12 45) 720 f12_text), (cI κ (r12 52) 8 f12_names)] sz [.ref a12]) (QiK D (fun (r : Int32) (u : Int32 × Int32 × Int32) => (v12_at.toInt ≤ u.1.toInt ∧ u.1.toInt ≤ v12_ends.toInt) ∧ (v12_opened.toInt ≤ u.2.2.toInt ∧ u.2.2.toInt ≤ 6 ∧ (0 ≤ u.2.1.toInt ∨ u.2.2.toInt = v12_opened.toInt)) ∧ (v12_fault.toInt < 0 ∨ 0 ≤ u.2.1.toInt)) (fun (u : Int32 × Int32 × Int32) => [O12 a12 r12 v12_keptMany v12_done v12_sheets v12_holes v12_worms v12_laidMany v12_wanted v12_orderMany v12_firstOrder v12_lines v12_marks v12_dots v12_madeIn v12_bound v12_places v12_maps v12_tapeMany v12_stories v12_base u.1 v12_ends u.2.1 u.2.2 v12_bodies v12_ran v12_ownKind v12_ownNumber, (cI κ (r12 41) 120 f12_tape), (cI κ (r12 45) 720 f12_text), (cI κ (r12 52) 8 f12_names)]) [O12 a12 r12 v12_keptMany v12_done v12_sheets v12_holes v12_worms v12_laidMany v12_wanted v12_orderMany v12_firstOrder v12_lines v12_marks v12_dots v12_madeIn v12_bound v12_places v12_maps v12_tapeMany v12_stories v12_base v12_at v12_ends v12_fault v12_opened v12_bodies v12_ran v12_ownKind v12_ownNumber, (cI κ (r12 41) 120 f12_tape), (cI κ (r12 45) 720 f12_text), (cI κ (r12 52) 8 f12_names)] sz) 0 0 (va_A [O12 a12 r12 v12_keptMany v12_done v12_sheets v12_holes v12_worms v12_laidMany v12_wanted v12_orderMany v12_firstOrder v12_lines v12_marks v12_dots v12_madeIn v12_bound v12_places v12_maps v12_tapeMany v12_stories v12_base v12_at v12_ends v12_fault v12_opened v12_bodies v12_ran v12_ownKind v12_ownNumber, (cI κ (r12 41) 120 f12_tape), (cI κ (r12 45) 720 f12_text), (cI κ (r12 52) 8 f12_names)] sz)
def C_X12_either (l : Launch) (D : va_G) (κ : Nat → ClassId) (β d : Nat) : Prop := ∀ (a12 : Nat) (r12 : Nat → Nat) (v12_keptMany : Int32) (v12_done : Int32) (v12_sheets : Int32) (v12_holes : Int32) (v12_worms : Int32) (v12_laidMany : Int32) (v12_wanted : Int32) (v12_orderMany : Int32) (v12_firstOrder : Int32) (v12_lines : Int32) (v12_marks : Int32) (v12_dots : Int32) (v12_madeIn : Int32) (v12_bound : Int32) (v12_places : Int32) (v12_maps : Int32) (v12_tapeMany : Int32) (v12_stories : Int32) (v12_base : Int32) (v12_at : Int32) (v12_ends : Int32) (v12_fault : Int32) (v12_opened : Int32) (v12_bodies : Int32) (v12_ran : Int32) (v12_ownKind : Int32) (v12_ownNumber : Int32) (f12_tape : Nat → Int32) (f12_text : Nat → Int32) (f12_names : Nat → Int32) (sz : Nat) (i1 : Rg 0 40 v12_keptMany) (i2 : Rg 0 40 v12_done) (i3 : Rg 0 8 v12_sheets) (i4 : Rg 0 40 v12_holes) (i5 : Rg 0 40 v12_worms) (i6 : Rg 0 8 v12_laidMany) (i7 : Rg 0 8 v12_wanted) (i8 : Rg 0 20 v12_lines) (i9 : Rg 0 60 v12_marks) (i10 : Rg 0 40 v12_dots) (i11 : Rg 0 20 v12_places) (i12 : Rg 0 8 v12_maps) (i13 : Rg 0 120 v12_tapeMany) (i14 : Rg 0 6 v12_stories) (i15 : Rg 0 50 v12_bodies) (i16 : Rg 0 1000 v12_ran) (i17 : v12_done.toInt ≤ v12_keptMany.toInt) (i18 : 0 ≤ v12_at.toInt ∧ v12_at.toInt ≤ v12_ends.toInt ∧ v12_ends.toInt ≤ 120 ∧ v12_base.toInt ≤ 600) (i19 : 0 ≤ v12_opened.toInt ∧ v12_opened.toInt ≤ 6) (i20 : 0 ≤ v12_fault.toInt ∨ 6 - v12_opened.toInt ≤ d), Met l yX12_either wsX12_either ({ frames := 6 * d + 7, cells := 0, slots := 0, locals := 137 * d + 175 } : Room) (PcK D κ β [O12 a12 r12 v12_keptMany v12_done v12_sheets v12_holes v12_worms v12_laidMany v12_wanted v12_orderMany v12_firstOrder v12_lines v12_marks v12_dots v12_madeIn v12_bound v12_places v12_maps v12_tapeMany v12_stories v12_base v12_at v12_ends v12_fault v12_opened v12_bodies v12_ran v12_ownKind v12_ownNumber, (cI κ (r12 41) 120 f12_tape), (cI κ (r12 45) 720 f12_text), (cI κ (r12 52) 8 f12_names)] sz [.ref a12]) (QiK D (fun (r : Int32) (u : Int32 × Int32 × Int32) => (v12_at.toInt ≤ u.1.toInt ∧ u.1.toInt ≤ v12_ends.toInt) ∧ (v12_opened.toInt ≤ u.2.2.toInt ∧ u.2.2.toInt ≤ 6 ∧ (0 ≤ u.2.1.toInt ∨ u.2.2.toInt = v12_opened.toInt)) ∧ (v12_fault.toInt < 0 ∨ 0 ≤ u.2.1.toInt)) (fun (u : Int32 × Int32 × Int32) => [O12 a12 r12 v12_keptMany v12_done v12_sheets v12_holes v12_worms v12_laidMany v12_wanted v12_orderMany v12_firstOrder v12_lines v12_marks v12_dots v12_madeIn v12_bound v12_places v12_maps v12_tapeMany v12_stories v12_base u.1 v12_ends u.2.1 u.2.2 v12_bodies v12_ran v12_ownKind v12_ownNumber, (cI κ (r12 41) 120 f12_tape), (cI κ (r12 45) 720 f12_text), (cI κ (r12 52) 8 f12_names)]) [O12 a12 r12 v12_keptMany v12_done v12_sheets v12_holes v12_worms v12_laidMany v12_wanted v12_orderMany v12_firstOrder v12_lines v12_marks v12_dots v12_madeIn v12_bound v12_places v12_maps v12_tapeMany v12_stories v12_base v12_at v12_ends v12_fault v12_opened v12_bodies v12_ran v12_ownKind v12_ownNumber, (cI κ (r12 41) 120 f12_tape), (cI κ (r12 45) 720 f12_text), (cI κ (r12 52) 8 f12_names)] sz) 0 0 (va_A [O12 a12 r12 v12_keptMany v12_done v12_sheets v12_holes v12_worms v12_laidMany v12_wanted v12_orderMany v12_firstOrder v12_lines v12_marks v12_dots v12_madeIn v12_bound v12_places v12_maps v12_tapeMany v12_stories v12_base v12_at v12_ends v12_fault v12_opened v12_bodies v12_ran v12_ownKind v12_ownNumber, (cI κ (r12 41) 120 f12_tape), (cI κ (r12 45) 720 f12_text), (cI κ (r12 52) 8 f12_names)] sz)
set_option maxHeartbeats 4000000 in
set_option maxRecDepth 100000 in
theorem of_X12_product (l : Launch) (D : va_G) (κ : Nat → ClassId) (β d : Nat) (h_one : C_X12_one l D κ β d) : C_X12_product l D κ β d := by
  intro a12 r12 v12_keptMany v12_done v12_sheets v12_holes v12_worms v12_laidMany v12_wanted v12_orderMany v12_firstOrder v12_lines v12_marks v12_dots v12_madeIn v12_bound v12_places v12_maps v12_tapeMany v12_stories v12_base v12_at v12_ends v12_fault v12_opened v12_bodies v12_ran v12_ownKind v12_ownNumber f12_tape f12_text f12_names sz i1 i2 i3 i4 i5 i6 i7 i8 i9 i10 i11 i12 i13 i14 i15 i16 i17 i18 i19 i20
  refine ofK_i (cc := cX12_product) (maxL := 4) (own := RX12) (by decide) rfl rfl (Nat.le_of_ble_eq_true rfl) ?_
  intro p e s m args below meth c Q A ls hsz hx hb hml hts hown hK hA hAB hP hD hl ret
  have hS : va_S A s.heap s.heap [] := va_S.rf
  have hl : lv_has ls 4 [(0, .ref a12)] := hl
  have w0 := hts (.fieldLink RX12 306 "OlderSkinModel" "fault" "I") (List.mem_of_getElem? (i := 1) rfl)
  have w1 := (fun w h => List.mem_cons_of_mem _ (List.mem_append_right _ h) : ∀ w ∈ u_ws RX12 TX12 63, w ∈ wsX12_product)
  have w2 := hts (.fieldLink RX12 297 "OlderSkinModel" "at" "I") (List.mem_of_getElem? (i := 2) rfl)
  have l0 : (0 : Int32).toInt = 0 := by decide
  have l1 : (42 : Int32).toInt = 42 := by decide
  have l2 : (1 : Int32).toInt = 1 := by decide
  have l3 : (47 : Int32).toInt = 47 := by decide
  have l4 : (37 : Int32).toInt = 37 := by decide
  refine lv_aload_n hx hb dX12_product_0 rfl (lv_at hl 0 rfl) ?_
  refine kcm_i hA hAB hP hD hS [true, true, true, true] rfl (fun _ => rfl) (fun hPc hDc => va_runV (As := []) (rest := []) ⟨hx, hb, hml, hown, hts⟩ (h_one a12 r12 v12_keptMany v12_done v12_sheets v12_holes v12_worms v12_laidMany v12_wanted v12_orderMany v12_firstOrder v12_lines v12_marks v12_dots v12_madeIn v12_bound v12_places v12_maps v12_tapeMany v12_stories v12_base v12_at v12_ends v12_fault v12_opened v12_bodies v12_ran v12_ownKind v12_ownNumber f12_tape f12_text f12_names s.heap.size i1 i2 i3 i4 i5 i6 i7 i8 i9 i10 i11 i12 i13 i14 i15 i16 i17 (by omega) (by omega) (by omega)) (cwV 0 hts gX12_product_X12_one rfl rfl rfl (by decide +kernel) ⟨by dsimp only; omega, by dsimp only; omega⟩) (pk_V hK hS hAB hPc hDc 0 (ci := 12) rfl rfl rfl) rfl rfl hl.1 rfl (lv_room (Nat.le_of_ble_eq_true rfl)) dX12_product_1 ⟨Nat.le_of_ble_eq_true rfl, Nat.le_of_ble_eq_true rfl⟩) (fun x4 u5 H locs hw hPD hS => ?_)
  obtain ⟨x1, x2, x3⟩ := u5
  obtain ⟨h6, h7, h8⟩ : (v12_at.toInt ≤ x1.toInt ∧ x1.toInt ≤ v12_ends.toInt) ∧ (v12_opened.toInt ≤ x3.toInt ∧ x3.toInt ≤ 6 ∧ (0 ≤ x2.toInt ∨ x3.toInt = v12_opened.toInt)) ∧ (v12_fault.toInt < 0 ∨ 0 ≤ x2.toInt) := hw
  obtain ⟨hP, hD⟩ : PD D A [O12 a12 r12 v12_keptMany v12_done v12_sheets v12_holes v12_worms v12_laidMany v12_wanted v12_orderMany v12_firstOrder v12_lines v12_marks v12_dots v12_madeIn v12_bound v12_places v12_maps v12_tapeMany v12_stories v12_base x1 v12_ends x2 x3 v12_bodies v12_ran v12_ownKind v12_ownNumber, (cI κ (r12 41) 120 f12_tape), (cI κ (r12 45) 720 f12_text), (cI κ (r12 52) 8 f12_names)] H := hPD
  refine lv_istore_n (lv' := [(1, .int x4), (0, .ref a12)]) hx hb dX12_product_4 rfl hl (by decide) rfl (fun ls hl => ?_)
  refine lv_aload_n hx hb dX12_product_5 rfl (lv_at hl 1 rfl) ?_
  refine kcm_i hA hAB hP hD hS [true, true, true, false] rfl (fun _ => rfl) (fun hPc hDc => va_runV (As := []) (rest := []) ⟨hx, hb, hml, hown, hts⟩ (k_X12_byteAt l D κ β a12 r12 v12_keptMany v12_done v12_sheets v12_holes v12_worms v12_laidMany v12_wanted v12_orderMany v12_firstOrder v12_lines v12_marks v12_dots v12_madeIn v12_bound v12_places v12_maps v12_tapeMany v12_stories v12_base x1 v12_ends x2 x3 v12_bodies v12_ran v12_ownKind v12_ownNumber f12_tape f12_text H.size i1 i2 i3 i4 i5 i6 i7 i8 i9 i10 i11 i12 i13 i14 i15 i16 i17 (by omega)) (cwV 0 hts gX12_product_X12_byteAt rfl rfl rfl (by decide +kernel) ⟨by dsimp only; omega, by dsimp only; omega⟩) (pk_V hK hS hAB hPc hDc 0 (ci := 12) rfl rfl rfl) rfl rfl hl.1 rfl (lv_room (Nat.le_of_ble_eq_true rfl)) dX12_product_6 ⟨Nat.le_of_ble_eq_true rfl, Nat.le_of_ble_eq_true rfl⟩) (fun x9 u10 H locs hw hPD hS => ?_)
  have h11 : x9.toInt = 0 ∨ x1.toInt < v12_ends.toInt := hw
  obtain ⟨hP, hD⟩ : PD D A [O12 a12 r12 v12_keptMany v12_done v12_sheets v12_holes v12_worms v12_laidMany v12_wanted v12_orderMany v12_firstOrder v12_lines v12_marks v12_dots v12_madeIn v12_bound v12_places v12_maps v12_tapeMany v12_stories v12_base x1 v12_ends x2 x3 v12_bodies v12_ran v12_ownKind v12_ownNumber, (cI κ (r12 41) 120 f12_tape), (cI κ (r12 45) 720 f12_text), (cI κ (r12 52) 8 f12_names)] H := hPD
  refine lv_istore_n (lv' := [(2, .int x9), (1, .int x4), (0, .ref a12)]) hx hb dX12_product_9 rfl hl (by decide) rfl (fun ls hl => ?_)
  have lp10 : ∀ (n10 : Nat) (k12 : Int32) (k13 : Int32) (v14 : Int32) (v15 : Int32) (v16 : Int32), (v12_at.toInt ≤ v14.toInt ∧ v14.toInt ≤ v12_ends.toInt) → (v12_opened.toInt ≤ v16.toInt ∧ v16.toInt ≤ 6 ∧ (0 ≤ v15.toInt ∨ v16.toInt = v12_opened.toInt)) → (v12_fault.toInt < 0 ∨ 0 ≤ v15.toInt) → (k12.toInt = 0 ∨ v14.toInt < v12_ends.toInt) → (v12_ends.toInt - v14.toInt).toNat < n10 → ∀ (H : Heap) (locs : List Loc), va_P D vwCl [O12 a12 r12 v12_keptMany v12_done v12_sheets v12_holes v12_worms v12_laidMany v12_wanted v12_orderMany v12_firstOrder v12_lines v12_marks v12_dots v12_madeIn v12_bound v12_places v12_maps v12_tapeMany v12_stories v12_base v14 v12_ends v15 v16 v12_bodies v12_ran v12_ownKind v12_ownNumber, (cI κ (r12 41) 120 f12_tape), (cI κ (r12 45) 720 f12_text), (cI κ (r12 52) 8 f12_names)] H → va_D A [O12 a12 r12 v12_keptMany v12_done v12_sheets v12_holes v12_worms v12_laidMany v12_wanted v12_orderMany v12_firstOrder v12_lines v12_marks v12_dots v12_madeIn v12_bound v12_places v12_maps v12_tapeMany v12_stories v12_base v14 v12_ends v15 v16 v12_bodies v12_ran v12_ownKind v12_ownNumber, (cI κ (r12 41) 120 f12_tape), (cI κ (r12 45) 720 f12_text), (cI κ (r12 52) 8 f12_names)] → va_S A s.heap H locs → ∀ ls : Array Slot, lv_has ls 4 [(2, .int k12), (1, .int k13), (0, .ref a12)] → W p l e ({ frames := 6 * d + 3, cells := 0, slots := 0, locals := 137 * d + 84 } : Room) s m args below meth c H locs 0 0 Q (F0 m 10 ls []) := by
    intro n10
    induction n10 with
    | zero =>
      intro k12 k13 v14 v15 v16 h17 h18 h19 h20 m21
      exact absurd m21 (Nat.not_lt_zero _)
    | succ n10 ih10 =>
      intro k12 k13 v14 v15 v16 h17 h18 h19 h20 m21 H locs hP hD hS ls hl
      refine lv_aload_n hx hb dX12_product_10 rfl (lv_at hl 2 rfl) ?_
      refine va_get (D := D) (ci := 12) (v := .int v15) (C := RX12) (T := TX12) (N := 63) hx hb hts w1 hown hK.1 hP 0 rfl rfl 50 (by decide) w0 (fun _ h9 => h9) rfl dX12_product_11 ?_
      refine lv_if_ge (tgt := 94) hx hb dX12_product_14 (by decide) (fun c22 => ?_) (fun c22 => ?_)
      · have c22 := ci_le c22
        refine lv_iload_n hx hb dX12_product_94 rfl (lv_at hl 1 rfl) ?_
        have hpo : (v12_at.toInt ≤ v14.toInt ∧ v14.toInt ≤ v12_ends.toInt) ∧ (v12_opened.toInt ≤ v16.toInt ∧ v16.toInt ≤ 6 ∧ (0 ≤ v15.toInt ∨ v16.toInt = v12_opened.toInt)) ∧ (v12_fault.toInt < 0 ∨ 0 ≤ v15.toInt) := ⟨(by omega), (by omega), (by omega)⟩
        exact ret _ _ _ _ k13 (v14, v15, v16) dX12_product_95 hpo hP hD hS
      have c22 := ci_nle c22
      refine lv_iload_n hx hb dX12_product_17 rfl (lv_at hl 0 rfl) ?_
      refine lv_bipush (v := 42) hx hb dX12_product_18 (by decide) ?_
      refine lv_icmp_eq (tgt := 35) hx hb dX12_product_20 (by decide) (fun c23 => ?_) (fun c23 => ?_)
      · have c23 := ci_eq c23
        refine lv_aload_n hx hb dX12_product_35 rfl (lv_at hl 2 rfl) ?_
        refine lv_dup hx hb dX12_product_36 rfl ?_
        refine va_get (D := D) (ci := 12) (v := .int v14) (C := RX12) (T := TX12) (N := 63) hx hb hts w1 hown hK.1 hP 0 rfl rfl 48 (by decide) w2 (fun _ h9 => h9) rfl dX12_product_37 ?_
        refine lv_iconst (v := 1) hx hb dX12_product_40 (by decide) ?_
        refine lv_iadd hx hb dX12_product_41 ?_
        refine lv_topi (fun x24 e25 => ?_)
        try have h26 : x24.toInt = v14.toInt + (1 : Int32).toInt := ci_add e25 (by omega) (by omega)
        refine va_put (D := D) (ci := 12) (v := .int x24) (ty := .int) (C := RX12) (T := TX12) (N := 63) hx hb hts w1 tyX12 tyX12_ok nmX12 hown hK.1 hP hD hS 0 rfl rfl 48 (by decide) w2 (fun _ h9 => h9) rfl (by decide +kernel) rfl rfl (Nat.le_of_ble_eq_true rfl) dX12_product_42 (fun H locs hP hD hS => ?_)
        obtain ⟨hP, hD⟩ : PD D A [O12 a12 r12 v12_keptMany v12_done v12_sheets v12_holes v12_worms v12_laidMany v12_wanted v12_orderMany v12_firstOrder v12_lines v12_marks v12_dots v12_madeIn v12_bound v12_places v12_maps v12_tapeMany v12_stories v12_base x24 v12_ends v15 v16 v12_bodies v12_ran v12_ownKind v12_ownNumber, (cI κ (r12 41) 120 f12_tape), (cI κ (r12 45) 720 f12_text), (cI κ (r12 52) 8 f12_names)] H := ⟨hP, hD⟩
        refine lv_aload_n hx hb dX12_product_45 rfl (lv_at hl 2 rfl) ?_
        refine kcm_i hA hAB hP hD hS [true, true, true, true] rfl (fun _ => rfl) (fun hPc hDc => va_runV (As := []) (rest := []) ⟨hx, hb, hml, hown, hts⟩ (h_one a12 r12 v12_keptMany v12_done v12_sheets v12_holes v12_worms v12_laidMany v12_wanted v12_orderMany v12_firstOrder v12_lines v12_marks v12_dots v12_madeIn v12_bound v12_places v12_maps v12_tapeMany v12_stories v12_base x24 v12_ends v15 v16 v12_bodies v12_ran v12_ownKind v12_ownNumber f12_tape f12_text f12_names H.size i1 i2 i3 i4 i5 i6 i7 i8 i9 i10 i11 i12 i13 i14 i15 i16 i17 (by omega) (by omega) (by omega)) (cwV 0 hts gX12_product_X12_one rfl rfl rfl (by decide +kernel) ⟨by dsimp only; omega, by dsimp only; omega⟩) (pk_V hK hS hAB hPc hDc 0 (ci := 12) rfl rfl rfl) rfl rfl hl.1 rfl (lv_room (Nat.le_of_ble_eq_true rfl)) dX12_product_46 ⟨Nat.le_of_ble_eq_true rfl, Nat.le_of_ble_eq_true rfl⟩) (fun x30 u31 H locs hw hPD hS => ?_)
        obtain ⟨x27, x28, x29⟩ := u31
        obtain ⟨h32, h33, h34⟩ : (x24.toInt ≤ x27.toInt ∧ x27.toInt ≤ v12_ends.toInt) ∧ (v16.toInt ≤ x29.toInt ∧ x29.toInt ≤ 6 ∧ (0 ≤ x28.toInt ∨ x29.toInt = v16.toInt)) ∧ (v15.toInt < 0 ∨ 0 ≤ x28.toInt) := hw
        obtain ⟨hP, hD⟩ : PD D A [O12 a12 r12 v12_keptMany v12_done v12_sheets v12_holes v12_worms v12_laidMany v12_wanted v12_orderMany v12_firstOrder v12_lines v12_marks v12_dots v12_madeIn v12_bound v12_places v12_maps v12_tapeMany v12_stories v12_base x27 v12_ends x28 x29 v12_bodies v12_ran v12_ownKind v12_ownNumber, (cI κ (r12 41) 120 f12_tape), (cI κ (r12 45) 720 f12_text), (cI κ (r12 52) 8 f12_names)] H := hPD
        refine lv_istore_n (lv' := [(3, .int x30), (2, .int k12), (1, .int k13), (0, .ref a12)]) hx hb dX12_product_49 rfl hl (by decide) rfl (fun ls hl => ?_)
        refine lv_iload_n hx hb dX12_product_50 rfl (lv_at hl 1 rfl) ?_
        refine lv_bipush (v := 42) hx hb dX12_product_51 (by decide) ?_
        refine lv_icmp_ne (tgt := 62) hx hb dX12_product_53 (by decide) (fun c35 => ?_) (fun c35 => ?_)
        · have c35 := ci_ne c35
          refine lv_iload_n hx hb dX12_product_62 rfl (lv_at hl 0 rfl) ?_
          refine lv_if_ne (tgt := 70) hx hb dX12_product_63 (by decide) (fun c36 => ?_) (fun c36 => ?_)
          · have c36 := ci_ne c36
            refine lv_iload_n hx hb dX12_product_70 rfl (lv_at hl 1 rfl) ?_
            refine lv_bipush (v := 47) hx hb dX12_product_71 (by decide) ?_
            refine lv_icmp_ne (tgt := 82) hx hb dX12_product_73 (by decide) (fun c37 => ?_) (fun c37 => ?_)
            · have c37 := ci_ne c37
              refine lv_iload_n hx hb dX12_product_82 rfl (lv_at hl 2 rfl) ?_
              refine lv_iload_n hx hb dX12_product_83 rfl (lv_at hl 0 rfl) ?_
              refine lv_irem hx hb dX12_product_84 (fun q38 => by have q38 := ci_eq q38; omega) ?_
              refine lv_topi (fun x39 e40 => ?_)
              try have h41 := ci_remV (by omega) (by omega) e40
              refine lv_istore_n (lv' := [(1, .int x39), (3, .int x30), (2, .int k12), (0, .ref a12)]) hx hb dX12_product_85 rfl hl (by decide) rfl (fun ls hl => ?_)
              refine lv_aload_n hx hb dX12_product_86 rfl (lv_at hl 3 rfl) ?_
              refine kcm_i hA hAB hP hD hS [true, true, true, false] rfl (fun _ => rfl) (fun hPc hDc => va_runV (As := []) (rest := []) ⟨hx, hb, hml, hown, hts⟩ (k_X12_byteAt l D κ β a12 r12 v12_keptMany v12_done v12_sheets v12_holes v12_worms v12_laidMany v12_wanted v12_orderMany v12_firstOrder v12_lines v12_marks v12_dots v12_madeIn v12_bound v12_places v12_maps v12_tapeMany v12_stories v12_base x27 v12_ends x28 x29 v12_bodies v12_ran v12_ownKind v12_ownNumber f12_tape f12_text H.size i1 i2 i3 i4 i5 i6 i7 i8 i9 i10 i11 i12 i13 i14 i15 i16 i17 (by omega)) (cwV 0 hts gX12_product_X12_byteAt rfl rfl rfl (by decide +kernel) ⟨by dsimp only; omega, by dsimp only; omega⟩) (pk_V hK hS hAB hPc hDc 0 (ci := 12) rfl rfl rfl) rfl rfl hl.1 rfl (lv_room (Nat.le_of_ble_eq_true rfl)) dX12_product_87 ⟨Nat.le_of_ble_eq_true rfl, Nat.le_of_ble_eq_true rfl⟩) (fun x42 u43 H locs hw hPD hS => ?_)
              have h44 : x42.toInt = 0 ∨ x27.toInt < v12_ends.toInt := hw
              obtain ⟨hP, hD⟩ : PD D A [O12 a12 r12 v12_keptMany v12_done v12_sheets v12_holes v12_worms v12_laidMany v12_wanted v12_orderMany v12_firstOrder v12_lines v12_marks v12_dots v12_madeIn v12_bound v12_places v12_maps v12_tapeMany v12_stories v12_base x27 v12_ends x28 x29 v12_bodies v12_ran v12_ownKind v12_ownNumber, (cI κ (r12 41) 120 f12_tape), (cI κ (r12 45) 720 f12_text), (cI κ (r12 52) 8 f12_names)] H := hPD
              refine lv_istore_n (lv' := [(2, .int x42), (1, .int x39), (3, .int x30), (0, .ref a12)]) hx hb dX12_product_90 rfl hl (by decide) rfl (fun ls hl => ?_)
              refine lv_goto (tgt := 10) hx hb dX12_product_91 (by decide) ?_
              exact ih10 x42 x39 x27 x28 x29 (by omega) (by omega) (by omega) (by omega) (by omega) _ _ hP hD hS _ (lv_sub hl [0, 1, 3] rfl)
            have c37 := ci_eq c37
            refine lv_iload_n hx hb dX12_product_76 rfl (lv_at hl 2 rfl) ?_
            refine lv_iload_n hx hb dX12_product_77 rfl (lv_at hl 0 rfl) ?_
            refine lv_idiv hx hb dX12_product_78 (fun q45 => by have q45 := ci_eq q45; omega) ?_
            refine lv_topi (fun x46 e47 => ?_)
            refine lv_goto (tgt := 85) hx hb dX12_product_79 (by decide) ?_
            refine lv_istore_n (lv' := [(1, .int x46), (3, .int x30), (2, .int k12), (0, .ref a12)]) hx hb dX12_product_85 rfl hl (by decide) rfl (fun ls hl => ?_)
            refine lv_aload_n hx hb dX12_product_86 rfl (lv_at hl 3 rfl) ?_
            refine kcm_i hA hAB hP hD hS [true, true, true, false] rfl (fun _ => rfl) (fun hPc hDc => va_runV (As := []) (rest := []) ⟨hx, hb, hml, hown, hts⟩ (k_X12_byteAt l D κ β a12 r12 v12_keptMany v12_done v12_sheets v12_holes v12_worms v12_laidMany v12_wanted v12_orderMany v12_firstOrder v12_lines v12_marks v12_dots v12_madeIn v12_bound v12_places v12_maps v12_tapeMany v12_stories v12_base x27 v12_ends x28 x29 v12_bodies v12_ran v12_ownKind v12_ownNumber f12_tape f12_text H.size i1 i2 i3 i4 i5 i6 i7 i8 i9 i10 i11 i12 i13 i14 i15 i16 i17 (by omega)) (cwV 0 hts gX12_product_X12_byteAt rfl rfl rfl (by decide +kernel) ⟨by dsimp only; omega, by dsimp only; omega⟩) (pk_V hK hS hAB hPc hDc 0 (ci := 12) rfl rfl rfl) rfl rfl hl.1 rfl (lv_room (Nat.le_of_ble_eq_true rfl)) dX12_product_87 ⟨Nat.le_of_ble_eq_true rfl, Nat.le_of_ble_eq_true rfl⟩) (fun x48 u49 H locs hw hPD hS => ?_)
            have h50 : x48.toInt = 0 ∨ x27.toInt < v12_ends.toInt := hw
            obtain ⟨hP, hD⟩ : PD D A [O12 a12 r12 v12_keptMany v12_done v12_sheets v12_holes v12_worms v12_laidMany v12_wanted v12_orderMany v12_firstOrder v12_lines v12_marks v12_dots v12_madeIn v12_bound v12_places v12_maps v12_tapeMany v12_stories v12_base x27 v12_ends x28 x29 v12_bodies v12_ran v12_ownKind v12_ownNumber, (cI κ (r12 41) 120 f12_tape), (cI κ (r12 45) 720 f12_text), (cI κ (r12 52) 8 f12_names)] H := hPD
            refine lv_istore_n (lv' := [(2, .int x48), (1, .int x46), (3, .int x30), (0, .ref a12)]) hx hb dX12_product_90 rfl hl (by decide) rfl (fun ls hl => ?_)
            refine lv_goto (tgt := 10) hx hb dX12_product_91 (by decide) ?_
            exact ih10 x48 x46 x27 x28 x29 (by omega) (by omega) (by omega) (by omega) (by omega) _ _ hP hD hS _ (lv_sub hl [0, 1, 3] rfl)
          have c36 := ci_eq c36
          refine lv_iconst (v := 0) hx hb dX12_product_66 (by decide) ?_
          refine lv_goto (tgt := 85) hx hb dX12_product_67 (by decide) ?_
          refine lv_istore_n (lv' := [(1, .int 0), (3, .int x30), (2, .int k12), (0, .ref a12)]) hx hb dX12_product_85 rfl hl (by decide) rfl (fun ls hl => ?_)
          refine lv_aload_n hx hb dX12_product_86 rfl (lv_at hl 3 rfl) ?_
          refine kcm_i hA hAB hP hD hS [true, true, true, false] rfl (fun _ => rfl) (fun hPc hDc => va_runV (As := []) (rest := []) ⟨hx, hb, hml, hown, hts⟩ (k_X12_byteAt l D κ β a12 r12 v12_keptMany v12_done v12_sheets v12_holes v12_worms v12_laidMany v12_wanted v12_orderMany v12_firstOrder v12_lines v12_marks v12_dots v12_madeIn v12_bound v12_places v12_maps v12_tapeMany v12_stories v12_base x27 v12_ends x28 x29 v12_bodies v12_ran v12_ownKind v12_ownNumber f12_tape f12_text H.size i1 i2 i3 i4 i5 i6 i7 i8 i9 i10 i11 i12 i13 i14 i15 i16 i17 (by omega)) (cwV 0 hts gX12_product_X12_byteAt rfl rfl rfl (by decide +kernel) ⟨by dsimp only; omega, by dsimp only; omega⟩) (pk_V hK hS hAB hPc hDc 0 (ci := 12) rfl rfl rfl) rfl rfl hl.1 rfl (lv_room (Nat.le_of_ble_eq_true rfl)) dX12_product_87 ⟨Nat.le_of_ble_eq_true rfl, Nat.le_of_ble_eq_true rfl⟩) (fun x51 u52 H locs hw hPD hS => ?_)
          have h53 : x51.toInt = 0 ∨ x27.toInt < v12_ends.toInt := hw
          obtain ⟨hP, hD⟩ : PD D A [O12 a12 r12 v12_keptMany v12_done v12_sheets v12_holes v12_worms v12_laidMany v12_wanted v12_orderMany v12_firstOrder v12_lines v12_marks v12_dots v12_madeIn v12_bound v12_places v12_maps v12_tapeMany v12_stories v12_base x27 v12_ends x28 x29 v12_bodies v12_ran v12_ownKind v12_ownNumber, (cI κ (r12 41) 120 f12_tape), (cI κ (r12 45) 720 f12_text), (cI κ (r12 52) 8 f12_names)] H := hPD
          refine lv_istore_n (lv' := [(2, .int x51), (1, .int 0), (3, .int x30), (0, .ref a12)]) hx hb dX12_product_90 rfl hl (by decide) rfl (fun ls hl => ?_)
          refine lv_goto (tgt := 10) hx hb dX12_product_91 (by decide) ?_
          exact ih10 x51 0 x27 x28 x29 (by omega) (by omega) (by omega) (by omega) (by omega) _ _ hP hD hS _ (lv_sub hl [0, 1, 3] rfl)
        have c35 := ci_eq c35
        refine lv_iload_n hx hb dX12_product_56 rfl (lv_at hl 2 rfl) ?_
        refine lv_iload_n hx hb dX12_product_57 rfl (lv_at hl 0 rfl) ?_
        refine lv_imul hx hb dX12_product_58 ?_
        refine lv_topi (fun x54 e55 => ?_)
        refine lv_goto (tgt := 85) hx hb dX12_product_59 (by decide) ?_
        refine lv_istore_n (lv' := [(1, .int x54), (3, .int x30), (2, .int k12), (0, .ref a12)]) hx hb dX12_product_85 rfl hl (by decide) rfl (fun ls hl => ?_)
        refine lv_aload_n hx hb dX12_product_86 rfl (lv_at hl 3 rfl) ?_
        refine kcm_i hA hAB hP hD hS [true, true, true, false] rfl (fun _ => rfl) (fun hPc hDc => va_runV (As := []) (rest := []) ⟨hx, hb, hml, hown, hts⟩ (k_X12_byteAt l D κ β a12 r12 v12_keptMany v12_done v12_sheets v12_holes v12_worms v12_laidMany v12_wanted v12_orderMany v12_firstOrder v12_lines v12_marks v12_dots v12_madeIn v12_bound v12_places v12_maps v12_tapeMany v12_stories v12_base x27 v12_ends x28 x29 v12_bodies v12_ran v12_ownKind v12_ownNumber f12_tape f12_text H.size i1 i2 i3 i4 i5 i6 i7 i8 i9 i10 i11 i12 i13 i14 i15 i16 i17 (by omega)) (cwV 0 hts gX12_product_X12_byteAt rfl rfl rfl (by decide +kernel) ⟨by dsimp only; omega, by dsimp only; omega⟩) (pk_V hK hS hAB hPc hDc 0 (ci := 12) rfl rfl rfl) rfl rfl hl.1 rfl (lv_room (Nat.le_of_ble_eq_true rfl)) dX12_product_87 ⟨Nat.le_of_ble_eq_true rfl, Nat.le_of_ble_eq_true rfl⟩) (fun x56 u57 H locs hw hPD hS => ?_)
        have h58 : x56.toInt = 0 ∨ x27.toInt < v12_ends.toInt := hw
        obtain ⟨hP, hD⟩ : PD D A [O12 a12 r12 v12_keptMany v12_done v12_sheets v12_holes v12_worms v12_laidMany v12_wanted v12_orderMany v12_firstOrder v12_lines v12_marks v12_dots v12_madeIn v12_bound v12_places v12_maps v12_tapeMany v12_stories v12_base x27 v12_ends x28 x29 v12_bodies v12_ran v12_ownKind v12_ownNumber, (cI κ (r12 41) 120 f12_tape), (cI κ (r12 45) 720 f12_text), (cI κ (r12 52) 8 f12_names)] H := hPD
        refine lv_istore_n (lv' := [(2, .int x56), (1, .int x54), (3, .int x30), (0, .ref a12)]) hx hb dX12_product_90 rfl hl (by decide) rfl (fun ls hl => ?_)
        refine lv_goto (tgt := 10) hx hb dX12_product_91 (by decide) ?_
        exact ih10 x56 x54 x27 x28 x29 (by omega) (by omega) (by omega) (by omega) (by omega) _ _ hP hD hS _ (lv_sub hl [0, 1, 3] rfl)
      have c23 := ci_ne c23
      refine lv_iload_n hx hb dX12_product_23 rfl (lv_at hl 0 rfl) ?_
      refine lv_bipush (v := 47) hx hb dX12_product_24 (by decide) ?_
      refine lv_icmp_eq (tgt := 35) hx hb dX12_product_26 (by decide) (fun c59 => ?_) (fun c59 => ?_)
      · have c59 := ci_eq c59
        refine lv_aload_n hx hb dX12_product_35 rfl (lv_at hl 2 rfl) ?_
        refine lv_dup hx hb dX12_product_36 rfl ?_
        refine va_get (D := D) (ci := 12) (v := .int v14) (C := RX12) (T := TX12) (N := 63) hx hb hts w1 hown hK.1 hP 0 rfl rfl 48 (by decide) w2 (fun _ h9 => h9) rfl dX12_product_37 ?_
        refine lv_iconst (v := 1) hx hb dX12_product_40 (by decide) ?_
        refine lv_iadd hx hb dX12_product_41 ?_
        refine lv_topi (fun x60 e61 => ?_)
        try have h62 : x60.toInt = v14.toInt + (1 : Int32).toInt := ci_add e61 (by omega) (by omega)
        refine va_put (D := D) (ci := 12) (v := .int x60) (ty := .int) (C := RX12) (T := TX12) (N := 63) hx hb hts w1 tyX12 tyX12_ok nmX12 hown hK.1 hP hD hS 0 rfl rfl 48 (by decide) w2 (fun _ h9 => h9) rfl (by decide +kernel) rfl rfl (Nat.le_of_ble_eq_true rfl) dX12_product_42 (fun H locs hP hD hS => ?_)
        obtain ⟨hP, hD⟩ : PD D A [O12 a12 r12 v12_keptMany v12_done v12_sheets v12_holes v12_worms v12_laidMany v12_wanted v12_orderMany v12_firstOrder v12_lines v12_marks v12_dots v12_madeIn v12_bound v12_places v12_maps v12_tapeMany v12_stories v12_base x60 v12_ends v15 v16 v12_bodies v12_ran v12_ownKind v12_ownNumber, (cI κ (r12 41) 120 f12_tape), (cI κ (r12 45) 720 f12_text), (cI κ (r12 52) 8 f12_names)] H := ⟨hP, hD⟩
        refine lv_aload_n hx hb dX12_product_45 rfl (lv_at hl 2 rfl) ?_
        refine kcm_i hA hAB hP hD hS [true, true, true, true] rfl (fun _ => rfl) (fun hPc hDc => va_runV (As := []) (rest := []) ⟨hx, hb, hml, hown, hts⟩ (h_one a12 r12 v12_keptMany v12_done v12_sheets v12_holes v12_worms v12_laidMany v12_wanted v12_orderMany v12_firstOrder v12_lines v12_marks v12_dots v12_madeIn v12_bound v12_places v12_maps v12_tapeMany v12_stories v12_base x60 v12_ends v15 v16 v12_bodies v12_ran v12_ownKind v12_ownNumber f12_tape f12_text f12_names H.size i1 i2 i3 i4 i5 i6 i7 i8 i9 i10 i11 i12 i13 i14 i15 i16 i17 (by omega) (by omega) (by omega)) (cwV 0 hts gX12_product_X12_one rfl rfl rfl (by decide +kernel) ⟨by dsimp only; omega, by dsimp only; omega⟩) (pk_V hK hS hAB hPc hDc 0 (ci := 12) rfl rfl rfl) rfl rfl hl.1 rfl (lv_room (Nat.le_of_ble_eq_true rfl)) dX12_product_46 ⟨Nat.le_of_ble_eq_true rfl, Nat.le_of_ble_eq_true rfl⟩) (fun x66 u67 H locs hw hPD hS => ?_)
        obtain ⟨x63, x64, x65⟩ := u67
        obtain ⟨h68, h69, h70⟩ : (x60.toInt ≤ x63.toInt ∧ x63.toInt ≤ v12_ends.toInt) ∧ (v16.toInt ≤ x65.toInt ∧ x65.toInt ≤ 6 ∧ (0 ≤ x64.toInt ∨ x65.toInt = v16.toInt)) ∧ (v15.toInt < 0 ∨ 0 ≤ x64.toInt) := hw
        obtain ⟨hP, hD⟩ : PD D A [O12 a12 r12 v12_keptMany v12_done v12_sheets v12_holes v12_worms v12_laidMany v12_wanted v12_orderMany v12_firstOrder v12_lines v12_marks v12_dots v12_madeIn v12_bound v12_places v12_maps v12_tapeMany v12_stories v12_base x63 v12_ends x64 x65 v12_bodies v12_ran v12_ownKind v12_ownNumber, (cI κ (r12 41) 120 f12_tape), (cI κ (r12 45) 720 f12_text), (cI κ (r12 52) 8 f12_names)] H := hPD
        refine lv_istore_n (lv' := [(3, .int x66), (2, .int k12), (1, .int k13), (0, .ref a12)]) hx hb dX12_product_49 rfl hl (by decide) rfl (fun ls hl => ?_)
        refine lv_iload_n hx hb dX12_product_50 rfl (lv_at hl 1 rfl) ?_
        refine lv_bipush (v := 42) hx hb dX12_product_51 (by decide) ?_
        refine lv_icmp_ne (tgt := 62) hx hb dX12_product_53 (by decide) (fun c71 => ?_) (fun c71 => ?_)
        · have c71 := ci_ne c71
          refine lv_iload_n hx hb dX12_product_62 rfl (lv_at hl 0 rfl) ?_
          refine lv_if_ne (tgt := 70) hx hb dX12_product_63 (by decide) (fun c72 => ?_) (fun c72 => ?_)
          · have c72 := ci_ne c72
            refine lv_iload_n hx hb dX12_product_70 rfl (lv_at hl 1 rfl) ?_
            refine lv_bipush (v := 47) hx hb dX12_product_71 (by decide) ?_
            refine lv_icmp_ne (tgt := 82) hx hb dX12_product_73 (by decide) (fun c73 => ?_) (fun c73 => ?_)
            · have c73 := ci_ne c73
              refine lv_iload_n hx hb dX12_product_82 rfl (lv_at hl 2 rfl) ?_
              refine lv_iload_n hx hb dX12_product_83 rfl (lv_at hl 0 rfl) ?_
              refine lv_irem hx hb dX12_product_84 (fun q74 => by have q74 := ci_eq q74; omega) ?_
              refine lv_topi (fun x75 e76 => ?_)
              try have h77 := ci_remV (by omega) (by omega) e76
              refine lv_istore_n (lv' := [(1, .int x75), (3, .int x66), (2, .int k12), (0, .ref a12)]) hx hb dX12_product_85 rfl hl (by decide) rfl (fun ls hl => ?_)
              refine lv_aload_n hx hb dX12_product_86 rfl (lv_at hl 3 rfl) ?_
              refine kcm_i hA hAB hP hD hS [true, true, true, false] rfl (fun _ => rfl) (fun hPc hDc => va_runV (As := []) (rest := []) ⟨hx, hb, hml, hown, hts⟩ (k_X12_byteAt l D κ β a12 r12 v12_keptMany v12_done v12_sheets v12_holes v12_worms v12_laidMany v12_wanted v12_orderMany v12_firstOrder v12_lines v12_marks v12_dots v12_madeIn v12_bound v12_places v12_maps v12_tapeMany v12_stories v12_base x63 v12_ends x64 x65 v12_bodies v12_ran v12_ownKind v12_ownNumber f12_tape f12_text H.size i1 i2 i3 i4 i5 i6 i7 i8 i9 i10 i11 i12 i13 i14 i15 i16 i17 (by omega)) (cwV 0 hts gX12_product_X12_byteAt rfl rfl rfl (by decide +kernel) ⟨by dsimp only; omega, by dsimp only; omega⟩) (pk_V hK hS hAB hPc hDc 0 (ci := 12) rfl rfl rfl) rfl rfl hl.1 rfl (lv_room (Nat.le_of_ble_eq_true rfl)) dX12_product_87 ⟨Nat.le_of_ble_eq_true rfl, Nat.le_of_ble_eq_true rfl⟩) (fun x78 u79 H locs hw hPD hS => ?_)
              have h80 : x78.toInt = 0 ∨ x63.toInt < v12_ends.toInt := hw
              obtain ⟨hP, hD⟩ : PD D A [O12 a12 r12 v12_keptMany v12_done v12_sheets v12_holes v12_worms v12_laidMany v12_wanted v12_orderMany v12_firstOrder v12_lines v12_marks v12_dots v12_madeIn v12_bound v12_places v12_maps v12_tapeMany v12_stories v12_base x63 v12_ends x64 x65 v12_bodies v12_ran v12_ownKind v12_ownNumber, (cI κ (r12 41) 120 f12_tape), (cI κ (r12 45) 720 f12_text), (cI κ (r12 52) 8 f12_names)] H := hPD
              refine lv_istore_n (lv' := [(2, .int x78), (1, .int x75), (3, .int x66), (0, .ref a12)]) hx hb dX12_product_90 rfl hl (by decide) rfl (fun ls hl => ?_)
              refine lv_goto (tgt := 10) hx hb dX12_product_91 (by decide) ?_
              exact ih10 x78 x75 x63 x64 x65 (by omega) (by omega) (by omega) (by omega) (by omega) _ _ hP hD hS _ (lv_sub hl [0, 1, 3] rfl)
            have c73 := ci_eq c73
            refine lv_iload_n hx hb dX12_product_76 rfl (lv_at hl 2 rfl) ?_
            refine lv_iload_n hx hb dX12_product_77 rfl (lv_at hl 0 rfl) ?_
            refine lv_idiv hx hb dX12_product_78 (fun q81 => by have q81 := ci_eq q81; omega) ?_
            refine lv_topi (fun x82 e83 => ?_)
            refine lv_goto (tgt := 85) hx hb dX12_product_79 (by decide) ?_
            refine lv_istore_n (lv' := [(1, .int x82), (3, .int x66), (2, .int k12), (0, .ref a12)]) hx hb dX12_product_85 rfl hl (by decide) rfl (fun ls hl => ?_)
            refine lv_aload_n hx hb dX12_product_86 rfl (lv_at hl 3 rfl) ?_
            refine kcm_i hA hAB hP hD hS [true, true, true, false] rfl (fun _ => rfl) (fun hPc hDc => va_runV (As := []) (rest := []) ⟨hx, hb, hml, hown, hts⟩ (k_X12_byteAt l D κ β a12 r12 v12_keptMany v12_done v12_sheets v12_holes v12_worms v12_laidMany v12_wanted v12_orderMany v12_firstOrder v12_lines v12_marks v12_dots v12_madeIn v12_bound v12_places v12_maps v12_tapeMany v12_stories v12_base x63 v12_ends x64 x65 v12_bodies v12_ran v12_ownKind v12_ownNumber f12_tape f12_text H.size i1 i2 i3 i4 i5 i6 i7 i8 i9 i10 i11 i12 i13 i14 i15 i16 i17 (by omega)) (cwV 0 hts gX12_product_X12_byteAt rfl rfl rfl (by decide +kernel) ⟨by dsimp only; omega, by dsimp only; omega⟩) (pk_V hK hS hAB hPc hDc 0 (ci := 12) rfl rfl rfl) rfl rfl hl.1 rfl (lv_room (Nat.le_of_ble_eq_true rfl)) dX12_product_87 ⟨Nat.le_of_ble_eq_true rfl, Nat.le_of_ble_eq_true rfl⟩) (fun x84 u85 H locs hw hPD hS => ?_)
            have h86 : x84.toInt = 0 ∨ x63.toInt < v12_ends.toInt := hw
            obtain ⟨hP, hD⟩ : PD D A [O12 a12 r12 v12_keptMany v12_done v12_sheets v12_holes v12_worms v12_laidMany v12_wanted v12_orderMany v12_firstOrder v12_lines v12_marks v12_dots v12_madeIn v12_bound v12_places v12_maps v12_tapeMany v12_stories v12_base x63 v12_ends x64 x65 v12_bodies v12_ran v12_ownKind v12_ownNumber, (cI κ (r12 41) 120 f12_tape), (cI κ (r12 45) 720 f12_text), (cI κ (r12 52) 8 f12_names)] H := hPD
            refine lv_istore_n (lv' := [(2, .int x84), (1, .int x82), (3, .int x66), (0, .ref a12)]) hx hb dX12_product_90 rfl hl (by decide) rfl (fun ls hl => ?_)
            refine lv_goto (tgt := 10) hx hb dX12_product_91 (by decide) ?_
            exact ih10 x84 x82 x63 x64 x65 (by omega) (by omega) (by omega) (by omega) (by omega) _ _ hP hD hS _ (lv_sub hl [0, 1, 3] rfl)
          have c72 := ci_eq c72
          refine lv_iconst (v := 0) hx hb dX12_product_66 (by decide) ?_
          refine lv_goto (tgt := 85) hx hb dX12_product_67 (by decide) ?_
          refine lv_istore_n (lv' := [(1, .int 0), (3, .int x66), (2, .int k12), (0, .ref a12)]) hx hb dX12_product_85 rfl hl (by decide) rfl (fun ls hl => ?_)
          refine lv_aload_n hx hb dX12_product_86 rfl (lv_at hl 3 rfl) ?_
          refine kcm_i hA hAB hP hD hS [true, true, true, false] rfl (fun _ => rfl) (fun hPc hDc => va_runV (As := []) (rest := []) ⟨hx, hb, hml, hown, hts⟩ (k_X12_byteAt l D κ β a12 r12 v12_keptMany v12_done v12_sheets v12_holes v12_worms v12_laidMany v12_wanted v12_orderMany v12_firstOrder v12_lines v12_marks v12_dots v12_madeIn v12_bound v12_places v12_maps v12_tapeMany v12_stories v12_base x63 v12_ends x64 x65 v12_bodies v12_ran v12_ownKind v12_ownNumber f12_tape f12_text H.size i1 i2 i3 i4 i5 i6 i7 i8 i9 i10 i11 i12 i13 i14 i15 i16 i17 (by omega)) (cwV 0 hts gX12_product_X12_byteAt rfl rfl rfl (by decide +kernel) ⟨by dsimp only; omega, by dsimp only; omega⟩) (pk_V hK hS hAB hPc hDc 0 (ci := 12) rfl rfl rfl) rfl rfl hl.1 rfl (lv_room (Nat.le_of_ble_eq_true rfl)) dX12_product_87 ⟨Nat.le_of_ble_eq_true rfl, Nat.le_of_ble_eq_true rfl⟩) (fun x87 u88 H locs hw hPD hS => ?_)
          have h89 : x87.toInt = 0 ∨ x63.toInt < v12_ends.toInt := hw
          obtain ⟨hP, hD⟩ : PD D A [O12 a12 r12 v12_keptMany v12_done v12_sheets v12_holes v12_worms v12_laidMany v12_wanted v12_orderMany v12_firstOrder v12_lines v12_marks v12_dots v12_madeIn v12_bound v12_places v12_maps v12_tapeMany v12_stories v12_base x63 v12_ends x64 x65 v12_bodies v12_ran v12_ownKind v12_ownNumber, (cI κ (r12 41) 120 f12_tape), (cI κ (r12 45) 720 f12_text), (cI κ (r12 52) 8 f12_names)] H := hPD
          refine lv_istore_n (lv' := [(2, .int x87), (1, .int 0), (3, .int x66), (0, .ref a12)]) hx hb dX12_product_90 rfl hl (by decide) rfl (fun ls hl => ?_)
          refine lv_goto (tgt := 10) hx hb dX12_product_91 (by decide) ?_
          exact ih10 x87 0 x63 x64 x65 (by omega) (by omega) (by omega) (by omega) (by omega) _ _ hP hD hS _ (lv_sub hl [0, 1, 3] rfl)
        have c71 := ci_eq c71
        refine lv_iload_n hx hb dX12_product_56 rfl (lv_at hl 2 rfl) ?_
        refine lv_iload_n hx hb dX12_product_57 rfl (lv_at hl 0 rfl) ?_
        refine lv_imul hx hb dX12_product_58 ?_
        refine lv_topi (fun x90 e91 => ?_)
        refine lv_goto (tgt := 85) hx hb dX12_product_59 (by decide) ?_
        refine lv_istore_n (lv' := [(1, .int x90), (3, .int x66), (2, .int k12), (0, .ref a12)]) hx hb dX12_product_85 rfl hl (by decide) rfl (fun ls hl => ?_)
        refine lv_aload_n hx hb dX12_product_86 rfl (lv_at hl 3 rfl) ?_
        refine kcm_i hA hAB hP hD hS [true, true, true, false] rfl (fun _ => rfl) (fun hPc hDc => va_runV (As := []) (rest := []) ⟨hx, hb, hml, hown, hts⟩ (k_X12_byteAt l D κ β a12 r12 v12_keptMany v12_done v12_sheets v12_holes v12_worms v12_laidMany v12_wanted v12_orderMany v12_firstOrder v12_lines v12_marks v12_dots v12_madeIn v12_bound v12_places v12_maps v12_tapeMany v12_stories v12_base x63 v12_ends x64 x65 v12_bodies v12_ran v12_ownKind v12_ownNumber f12_tape f12_text H.size i1 i2 i3 i4 i5 i6 i7 i8 i9 i10 i11 i12 i13 i14 i15 i16 i17 (by omega)) (cwV 0 hts gX12_product_X12_byteAt rfl rfl rfl (by decide +kernel) ⟨by dsimp only; omega, by dsimp only; omega⟩) (pk_V hK hS hAB hPc hDc 0 (ci := 12) rfl rfl rfl) rfl rfl hl.1 rfl (lv_room (Nat.le_of_ble_eq_true rfl)) dX12_product_87 ⟨Nat.le_of_ble_eq_true rfl, Nat.le_of_ble_eq_true rfl⟩) (fun x92 u93 H locs hw hPD hS => ?_)
        have h94 : x92.toInt = 0 ∨ x63.toInt < v12_ends.toInt := hw
        obtain ⟨hP, hD⟩ : PD D A [O12 a12 r12 v12_keptMany v12_done v12_sheets v12_holes v12_worms v12_laidMany v12_wanted v12_orderMany v12_firstOrder v12_lines v12_marks v12_dots v12_madeIn v12_bound v12_places v12_maps v12_tapeMany v12_stories v12_base x63 v12_ends x64 x65 v12_bodies v12_ran v12_ownKind v12_ownNumber, (cI κ (r12 41) 120 f12_tape), (cI κ (r12 45) 720 f12_text), (cI κ (r12 52) 8 f12_names)] H := hPD
        refine lv_istore_n (lv' := [(2, .int x92), (1, .int x90), (3, .int x66), (0, .ref a12)]) hx hb dX12_product_90 rfl hl (by decide) rfl (fun ls hl => ?_)
        refine lv_goto (tgt := 10) hx hb dX12_product_91 (by decide) ?_
        exact ih10 x92 x90 x63 x64 x65 (by omega) (by omega) (by omega) (by omega) (by omega) _ _ hP hD hS _ (lv_sub hl [0, 1, 3] rfl)
      have c59 := ci_ne c59
      refine lv_iload_n hx hb dX12_product_29 rfl (lv_at hl 0 rfl) ?_
      refine lv_bipush (v := 37) hx hb dX12_product_30 (by decide) ?_
      refine lv_icmp_ne (tgt := 94) hx hb dX12_product_32 (by decide) (fun c95 => ?_) (fun c95 => ?_)
      · have c95 := ci_ne c95
        refine lv_iload_n hx hb dX12_product_94 rfl (lv_at hl 1 rfl) ?_
        have hpo : (v12_at.toInt ≤ v14.toInt ∧ v14.toInt ≤ v12_ends.toInt) ∧ (v12_opened.toInt ≤ v16.toInt ∧ v16.toInt ≤ 6 ∧ (0 ≤ v15.toInt ∨ v16.toInt = v12_opened.toInt)) ∧ (v12_fault.toInt < 0 ∨ 0 ≤ v15.toInt) := ⟨(by omega), (by omega), (by omega)⟩
        exact ret _ _ _ _ k13 (v14, v15, v16) dX12_product_95 hpo hP hD hS
      have c95 := ci_eq c95
      refine lv_aload_n hx hb dX12_product_35 rfl (lv_at hl 2 rfl) ?_
      refine lv_dup hx hb dX12_product_36 rfl ?_
      refine va_get (D := D) (ci := 12) (v := .int v14) (C := RX12) (T := TX12) (N := 63) hx hb hts w1 hown hK.1 hP 0 rfl rfl 48 (by decide) w2 (fun _ h9 => h9) rfl dX12_product_37 ?_
      refine lv_iconst (v := 1) hx hb dX12_product_40 (by decide) ?_
      refine lv_iadd hx hb dX12_product_41 ?_
      refine lv_topi (fun x96 e97 => ?_)
      try have h98 : x96.toInt = v14.toInt + (1 : Int32).toInt := ci_add e97 (by omega) (by omega)
      refine va_put (D := D) (ci := 12) (v := .int x96) (ty := .int) (C := RX12) (T := TX12) (N := 63) hx hb hts w1 tyX12 tyX12_ok nmX12 hown hK.1 hP hD hS 0 rfl rfl 48 (by decide) w2 (fun _ h9 => h9) rfl (by decide +kernel) rfl rfl (Nat.le_of_ble_eq_true rfl) dX12_product_42 (fun H locs hP hD hS => ?_)
      obtain ⟨hP, hD⟩ : PD D A [O12 a12 r12 v12_keptMany v12_done v12_sheets v12_holes v12_worms v12_laidMany v12_wanted v12_orderMany v12_firstOrder v12_lines v12_marks v12_dots v12_madeIn v12_bound v12_places v12_maps v12_tapeMany v12_stories v12_base x96 v12_ends v15 v16 v12_bodies v12_ran v12_ownKind v12_ownNumber, (cI κ (r12 41) 120 f12_tape), (cI κ (r12 45) 720 f12_text), (cI κ (r12 52) 8 f12_names)] H := ⟨hP, hD⟩
      refine lv_aload_n hx hb dX12_product_45 rfl (lv_at hl 2 rfl) ?_
      refine kcm_i hA hAB hP hD hS [true, true, true, true] rfl (fun _ => rfl) (fun hPc hDc => va_runV (As := []) (rest := []) ⟨hx, hb, hml, hown, hts⟩ (h_one a12 r12 v12_keptMany v12_done v12_sheets v12_holes v12_worms v12_laidMany v12_wanted v12_orderMany v12_firstOrder v12_lines v12_marks v12_dots v12_madeIn v12_bound v12_places v12_maps v12_tapeMany v12_stories v12_base x96 v12_ends v15 v16 v12_bodies v12_ran v12_ownKind v12_ownNumber f12_tape f12_text f12_names H.size i1 i2 i3 i4 i5 i6 i7 i8 i9 i10 i11 i12 i13 i14 i15 i16 i17 (by omega) (by omega) (by omega)) (cwV 0 hts gX12_product_X12_one rfl rfl rfl (by decide +kernel) ⟨by dsimp only; omega, by dsimp only; omega⟩) (pk_V hK hS hAB hPc hDc 0 (ci := 12) rfl rfl rfl) rfl rfl hl.1 rfl (lv_room (Nat.le_of_ble_eq_true rfl)) dX12_product_46 ⟨Nat.le_of_ble_eq_true rfl, Nat.le_of_ble_eq_true rfl⟩) (fun x102 u103 H locs hw hPD hS => ?_)
      obtain ⟨x99, x100, x101⟩ := u103
      obtain ⟨h104, h105, h106⟩ : (x96.toInt ≤ x99.toInt ∧ x99.toInt ≤ v12_ends.toInt) ∧ (v16.toInt ≤ x101.toInt ∧ x101.toInt ≤ 6 ∧ (0 ≤ x100.toInt ∨ x101.toInt = v16.toInt)) ∧ (v15.toInt < 0 ∨ 0 ≤ x100.toInt) := hw
      obtain ⟨hP, hD⟩ : PD D A [O12 a12 r12 v12_keptMany v12_done v12_sheets v12_holes v12_worms v12_laidMany v12_wanted v12_orderMany v12_firstOrder v12_lines v12_marks v12_dots v12_madeIn v12_bound v12_places v12_maps v12_tapeMany v12_stories v12_base x99 v12_ends x100 x101 v12_bodies v12_ran v12_ownKind v12_ownNumber, (cI κ (r12 41) 120 f12_tape), (cI κ (r12 45) 720 f12_text), (cI κ (r12 52) 8 f12_names)] H := hPD
      refine lv_istore_n (lv' := [(3, .int x102), (2, .int k12), (1, .int k13), (0, .ref a12)]) hx hb dX12_product_49 rfl hl (by decide) rfl (fun ls hl => ?_)
      refine lv_iload_n hx hb dX12_product_50 rfl (lv_at hl 1 rfl) ?_
      refine lv_bipush (v := 42) hx hb dX12_product_51 (by decide) ?_
      refine lv_icmp_ne (tgt := 62) hx hb dX12_product_53 (by decide) (fun c107 => ?_) (fun c107 => ?_)
      · have c107 := ci_ne c107
        refine lv_iload_n hx hb dX12_product_62 rfl (lv_at hl 0 rfl) ?_
        refine lv_if_ne (tgt := 70) hx hb dX12_product_63 (by decide) (fun c108 => ?_) (fun c108 => ?_)
        · have c108 := ci_ne c108
          refine lv_iload_n hx hb dX12_product_70 rfl (lv_at hl 1 rfl) ?_
          refine lv_bipush (v := 47) hx hb dX12_product_71 (by decide) ?_
          refine lv_icmp_ne (tgt := 82) hx hb dX12_product_73 (by decide) (fun c109 => ?_) (fun c109 => ?_)
          · have c109 := ci_ne c109
            refine lv_iload_n hx hb dX12_product_82 rfl (lv_at hl 2 rfl) ?_
            refine lv_iload_n hx hb dX12_product_83 rfl (lv_at hl 0 rfl) ?_
            refine lv_irem hx hb dX12_product_84 (fun q110 => by have q110 := ci_eq q110; omega) ?_
            refine lv_topi (fun x111 e112 => ?_)
            try have h113 := ci_remV (by omega) (by omega) e112
            refine lv_istore_n (lv' := [(1, .int x111), (3, .int x102), (2, .int k12), (0, .ref a12)]) hx hb dX12_product_85 rfl hl (by decide) rfl (fun ls hl => ?_)
            refine lv_aload_n hx hb dX12_product_86 rfl (lv_at hl 3 rfl) ?_
            refine kcm_i hA hAB hP hD hS [true, true, true, false] rfl (fun _ => rfl) (fun hPc hDc => va_runV (As := []) (rest := []) ⟨hx, hb, hml, hown, hts⟩ (k_X12_byteAt l D κ β a12 r12 v12_keptMany v12_done v12_sheets v12_holes v12_worms v12_laidMany v12_wanted v12_orderMany v12_firstOrder v12_lines v12_marks v12_dots v12_madeIn v12_bound v12_places v12_maps v12_tapeMany v12_stories v12_base x99 v12_ends x100 x101 v12_bodies v12_ran v12_ownKind v12_ownNumber f12_tape f12_text H.size i1 i2 i3 i4 i5 i6 i7 i8 i9 i10 i11 i12 i13 i14 i15 i16 i17 (by omega)) (cwV 0 hts gX12_product_X12_byteAt rfl rfl rfl (by decide +kernel) ⟨by dsimp only; omega, by dsimp only; omega⟩) (pk_V hK hS hAB hPc hDc 0 (ci := 12) rfl rfl rfl) rfl rfl hl.1 rfl (lv_room (Nat.le_of_ble_eq_true rfl)) dX12_product_87 ⟨Nat.le_of_ble_eq_true rfl, Nat.le_of_ble_eq_true rfl⟩) (fun x114 u115 H locs hw hPD hS => ?_)
            have h116 : x114.toInt = 0 ∨ x99.toInt < v12_ends.toInt := hw
            obtain ⟨hP, hD⟩ : PD D A [O12 a12 r12 v12_keptMany v12_done v12_sheets v12_holes v12_worms v12_laidMany v12_wanted v12_orderMany v12_firstOrder v12_lines v12_marks v12_dots v12_madeIn v12_bound v12_places v12_maps v12_tapeMany v12_stories v12_base x99 v12_ends x100 x101 v12_bodies v12_ran v12_ownKind v12_ownNumber, (cI κ (r12 41) 120 f12_tape), (cI κ (r12 45) 720 f12_text), (cI κ (r12 52) 8 f12_names)] H := hPD
            refine lv_istore_n (lv' := [(2, .int x114), (1, .int x111), (3, .int x102), (0, .ref a12)]) hx hb dX12_product_90 rfl hl (by decide) rfl (fun ls hl => ?_)
            refine lv_goto (tgt := 10) hx hb dX12_product_91 (by decide) ?_
            exact ih10 x114 x111 x99 x100 x101 (by omega) (by omega) (by omega) (by omega) (by omega) _ _ hP hD hS _ (lv_sub hl [0, 1, 3] rfl)
          have c109 := ci_eq c109
          refine lv_iload_n hx hb dX12_product_76 rfl (lv_at hl 2 rfl) ?_
          refine lv_iload_n hx hb dX12_product_77 rfl (lv_at hl 0 rfl) ?_
          refine lv_idiv hx hb dX12_product_78 (fun q117 => by have q117 := ci_eq q117; omega) ?_
          refine lv_topi (fun x118 e119 => ?_)
          refine lv_goto (tgt := 85) hx hb dX12_product_79 (by decide) ?_
          refine lv_istore_n (lv' := [(1, .int x118), (3, .int x102), (2, .int k12), (0, .ref a12)]) hx hb dX12_product_85 rfl hl (by decide) rfl (fun ls hl => ?_)
          refine lv_aload_n hx hb dX12_product_86 rfl (lv_at hl 3 rfl) ?_
          refine kcm_i hA hAB hP hD hS [true, true, true, false] rfl (fun _ => rfl) (fun hPc hDc => va_runV (As := []) (rest := []) ⟨hx, hb, hml, hown, hts⟩ (k_X12_byteAt l D κ β a12 r12 v12_keptMany v12_done v12_sheets v12_holes v12_worms v12_laidMany v12_wanted v12_orderMany v12_firstOrder v12_lines v12_marks v12_dots v12_madeIn v12_bound v12_places v12_maps v12_tapeMany v12_stories v12_base x99 v12_ends x100 x101 v12_bodies v12_ran v12_ownKind v12_ownNumber f12_tape f12_text H.size i1 i2 i3 i4 i5 i6 i7 i8 i9 i10 i11 i12 i13 i14 i15 i16 i17 (by omega)) (cwV 0 hts gX12_product_X12_byteAt rfl rfl rfl (by decide +kernel) ⟨by dsimp only; omega, by dsimp only; omega⟩) (pk_V hK hS hAB hPc hDc 0 (ci := 12) rfl rfl rfl) rfl rfl hl.1 rfl (lv_room (Nat.le_of_ble_eq_true rfl)) dX12_product_87 ⟨Nat.le_of_ble_eq_true rfl, Nat.le_of_ble_eq_true rfl⟩) (fun x120 u121 H locs hw hPD hS => ?_)
          have h122 : x120.toInt = 0 ∨ x99.toInt < v12_ends.toInt := hw
          obtain ⟨hP, hD⟩ : PD D A [O12 a12 r12 v12_keptMany v12_done v12_sheets v12_holes v12_worms v12_laidMany v12_wanted v12_orderMany v12_firstOrder v12_lines v12_marks v12_dots v12_madeIn v12_bound v12_places v12_maps v12_tapeMany v12_stories v12_base x99 v12_ends x100 x101 v12_bodies v12_ran v12_ownKind v12_ownNumber, (cI κ (r12 41) 120 f12_tape), (cI κ (r12 45) 720 f12_text), (cI κ (r12 52) 8 f12_names)] H := hPD
          refine lv_istore_n (lv' := [(2, .int x120), (1, .int x118), (3, .int x102), (0, .ref a12)]) hx hb dX12_product_90 rfl hl (by decide) rfl (fun ls hl => ?_)
          refine lv_goto (tgt := 10) hx hb dX12_product_91 (by decide) ?_
          exact ih10 x120 x118 x99 x100 x101 (by omega) (by omega) (by omega) (by omega) (by omega) _ _ hP hD hS _ (lv_sub hl [0, 1, 3] rfl)
        have c108 := ci_eq c108
        refine lv_iconst (v := 0) hx hb dX12_product_66 (by decide) ?_
        refine lv_goto (tgt := 85) hx hb dX12_product_67 (by decide) ?_
        refine lv_istore_n (lv' := [(1, .int 0), (3, .int x102), (2, .int k12), (0, .ref a12)]) hx hb dX12_product_85 rfl hl (by decide) rfl (fun ls hl => ?_)
        refine lv_aload_n hx hb dX12_product_86 rfl (lv_at hl 3 rfl) ?_
        refine kcm_i hA hAB hP hD hS [true, true, true, false] rfl (fun _ => rfl) (fun hPc hDc => va_runV (As := []) (rest := []) ⟨hx, hb, hml, hown, hts⟩ (k_X12_byteAt l D κ β a12 r12 v12_keptMany v12_done v12_sheets v12_holes v12_worms v12_laidMany v12_wanted v12_orderMany v12_firstOrder v12_lines v12_marks v12_dots v12_madeIn v12_bound v12_places v12_maps v12_tapeMany v12_stories v12_base x99 v12_ends x100 x101 v12_bodies v12_ran v12_ownKind v12_ownNumber f12_tape f12_text H.size i1 i2 i3 i4 i5 i6 i7 i8 i9 i10 i11 i12 i13 i14 i15 i16 i17 (by omega)) (cwV 0 hts gX12_product_X12_byteAt rfl rfl rfl (by decide +kernel) ⟨by dsimp only; omega, by dsimp only; omega⟩) (pk_V hK hS hAB hPc hDc 0 (ci := 12) rfl rfl rfl) rfl rfl hl.1 rfl (lv_room (Nat.le_of_ble_eq_true rfl)) dX12_product_87 ⟨Nat.le_of_ble_eq_true rfl, Nat.le_of_ble_eq_true rfl⟩) (fun x123 u124 H locs hw hPD hS => ?_)
        have h125 : x123.toInt = 0 ∨ x99.toInt < v12_ends.toInt := hw
        obtain ⟨hP, hD⟩ : PD D A [O12 a12 r12 v12_keptMany v12_done v12_sheets v12_holes v12_worms v12_laidMany v12_wanted v12_orderMany v12_firstOrder v12_lines v12_marks v12_dots v12_madeIn v12_bound v12_places v12_maps v12_tapeMany v12_stories v12_base x99 v12_ends x100 x101 v12_bodies v12_ran v12_ownKind v12_ownNumber, (cI κ (r12 41) 120 f12_tape), (cI κ (r12 45) 720 f12_text), (cI κ (r12 52) 8 f12_names)] H := hPD
        refine lv_istore_n (lv' := [(2, .int x123), (1, .int 0), (3, .int x102), (0, .ref a12)]) hx hb dX12_product_90 rfl hl (by decide) rfl (fun ls hl => ?_)
        refine lv_goto (tgt := 10) hx hb dX12_product_91 (by decide) ?_
        exact ih10 x123 0 x99 x100 x101 (by omega) (by omega) (by omega) (by omega) (by omega) _ _ hP hD hS _ (lv_sub hl [0, 1, 3] rfl)
      have c107 := ci_eq c107
      refine lv_iload_n hx hb dX12_product_56 rfl (lv_at hl 2 rfl) ?_
      refine lv_iload_n hx hb dX12_product_57 rfl (lv_at hl 0 rfl) ?_
      refine lv_imul hx hb dX12_product_58 ?_
      refine lv_topi (fun x126 e127 => ?_)
      refine lv_goto (tgt := 85) hx hb dX12_product_59 (by decide) ?_
      refine lv_istore_n (lv' := [(1, .int x126), (3, .int x102), (2, .int k12), (0, .ref a12)]) hx hb dX12_product_85 rfl hl (by decide) rfl (fun ls hl => ?_)
      refine lv_aload_n hx hb dX12_product_86 rfl (lv_at hl 3 rfl) ?_
      refine kcm_i hA hAB hP hD hS [true, true, true, false] rfl (fun _ => rfl) (fun hPc hDc => va_runV (As := []) (rest := []) ⟨hx, hb, hml, hown, hts⟩ (k_X12_byteAt l D κ β a12 r12 v12_keptMany v12_done v12_sheets v12_holes v12_worms v12_laidMany v12_wanted v12_orderMany v12_firstOrder v12_lines v12_marks v12_dots v12_madeIn v12_bound v12_places v12_maps v12_tapeMany v12_stories v12_base x99 v12_ends x100 x101 v12_bodies v12_ran v12_ownKind v12_ownNumber f12_tape f12_text H.size i1 i2 i3 i4 i5 i6 i7 i8 i9 i10 i11 i12 i13 i14 i15 i16 i17 (by omega)) (cwV 0 hts gX12_product_X12_byteAt rfl rfl rfl (by decide +kernel) ⟨by dsimp only; omega, by dsimp only; omega⟩) (pk_V hK hS hAB hPc hDc 0 (ci := 12) rfl rfl rfl) rfl rfl hl.1 rfl (lv_room (Nat.le_of_ble_eq_true rfl)) dX12_product_87 ⟨Nat.le_of_ble_eq_true rfl, Nat.le_of_ble_eq_true rfl⟩) (fun x128 u129 H locs hw hPD hS => ?_)
      have h130 : x128.toInt = 0 ∨ x99.toInt < v12_ends.toInt := hw
      obtain ⟨hP, hD⟩ : PD D A [O12 a12 r12 v12_keptMany v12_done v12_sheets v12_holes v12_worms v12_laidMany v12_wanted v12_orderMany v12_firstOrder v12_lines v12_marks v12_dots v12_madeIn v12_bound v12_places v12_maps v12_tapeMany v12_stories v12_base x99 v12_ends x100 x101 v12_bodies v12_ran v12_ownKind v12_ownNumber, (cI κ (r12 41) 120 f12_tape), (cI κ (r12 45) 720 f12_text), (cI κ (r12 52) 8 f12_names)] H := hPD
      refine lv_istore_n (lv' := [(2, .int x128), (1, .int x126), (3, .int x102), (0, .ref a12)]) hx hb dX12_product_90 rfl hl (by decide) rfl (fun ls hl => ?_)
      refine lv_goto (tgt := 10) hx hb dX12_product_91 (by decide) ?_
      exact ih10 x128 x126 x99 x100 x101 (by omega) (by omega) (by omega) (by omega) (by omega) _ _ hP hD hS _ (lv_sub hl [0, 1, 3] rfl)
  exact lp10 ((v12_ends.toInt - x1.toInt).toNat + 1) x9 x4 x1 x2 x3 (by omega) (by omega) (by omega) (by omega) (by omega) _ _ hP hD hS _ hl
set_option maxHeartbeats 4000000 in
set_option maxRecDepth 100000 in
theorem of_X12_sums (l : Launch) (D : va_G) (κ : Nat → ClassId) (β d : Nat) (h_product : C_X12_product l D κ β d) : C_X12_sums l D κ β d := by
  intro a12 r12 v12_keptMany v12_done v12_sheets v12_holes v12_worms v12_laidMany v12_wanted v12_orderMany v12_firstOrder v12_lines v12_marks v12_dots v12_madeIn v12_bound v12_places v12_maps v12_tapeMany v12_stories v12_base v12_at v12_ends v12_fault v12_opened v12_bodies v12_ran v12_ownKind v12_ownNumber f12_tape f12_text f12_names sz i1 i2 i3 i4 i5 i6 i7 i8 i9 i10 i11 i12 i13 i14 i15 i16 i17 i18 i19 i20
  refine ofK_i (cc := cX12_sums) (maxL := 4) (own := RX12) (by decide) rfl rfl (Nat.le_of_ble_eq_true rfl) ?_
  intro p e s m args below meth c Q A ls hsz hx hb hml hts hown hK hA hAB hP hD hl ret
  have hS : va_S A s.heap s.heap [] := va_S.rf
  have hl : lv_has ls 4 [(0, .ref a12)] := hl
  have w0 := hts (.fieldLink RX12 306 "OlderSkinModel" "fault" "I") (List.mem_of_getElem? (i := 1) rfl)
  have w1 := (fun w h => List.mem_cons_of_mem _ (List.mem_append_right _ h) : ∀ w ∈ u_ws RX12 TX12 63, w ∈ wsX12_sums)
  have w2 := hts (.fieldLink RX12 297 "OlderSkinModel" "at" "I") (List.mem_of_getElem? (i := 2) rfl)
  have l0 : (0 : Int32).toInt = 0 := by decide
  have l1 : (43 : Int32).toInt = 43 := by decide
  have l2 : (1 : Int32).toInt = 1 := by decide
  have l3 : (45 : Int32).toInt = 45 := by decide
  refine lv_aload_n hx hb dX12_sums_0 rfl (lv_at hl 0 rfl) ?_
  refine kcm_i hA hAB hP hD hS [true, true, true, true] rfl (fun _ => rfl) (fun hPc hDc => va_runV (As := []) (rest := []) ⟨hx, hb, hml, hown, hts⟩ (h_product a12 r12 v12_keptMany v12_done v12_sheets v12_holes v12_worms v12_laidMany v12_wanted v12_orderMany v12_firstOrder v12_lines v12_marks v12_dots v12_madeIn v12_bound v12_places v12_maps v12_tapeMany v12_stories v12_base v12_at v12_ends v12_fault v12_opened v12_bodies v12_ran v12_ownKind v12_ownNumber f12_tape f12_text f12_names s.heap.size i1 i2 i3 i4 i5 i6 i7 i8 i9 i10 i11 i12 i13 i14 i15 i16 i17 (by omega) (by omega) (by omega)) (cwV 0 hts gX12_sums_X12_product rfl rfl rfl (by decide +kernel) ⟨by dsimp only; omega, by dsimp only; omega⟩) (pk_V hK hS hAB hPc hDc 0 (ci := 12) rfl rfl rfl) rfl rfl hl.1 rfl (lv_room (Nat.le_of_ble_eq_true rfl)) dX12_sums_1 ⟨Nat.le_of_ble_eq_true rfl, Nat.le_of_ble_eq_true rfl⟩) (fun x4 u5 H locs hw hPD hS => ?_)
  obtain ⟨x1, x2, x3⟩ := u5
  obtain ⟨h6, h7, h8⟩ : (v12_at.toInt ≤ x1.toInt ∧ x1.toInt ≤ v12_ends.toInt) ∧ (v12_opened.toInt ≤ x3.toInt ∧ x3.toInt ≤ 6 ∧ (0 ≤ x2.toInt ∨ x3.toInt = v12_opened.toInt)) ∧ (v12_fault.toInt < 0 ∨ 0 ≤ x2.toInt) := hw
  obtain ⟨hP, hD⟩ : PD D A [O12 a12 r12 v12_keptMany v12_done v12_sheets v12_holes v12_worms v12_laidMany v12_wanted v12_orderMany v12_firstOrder v12_lines v12_marks v12_dots v12_madeIn v12_bound v12_places v12_maps v12_tapeMany v12_stories v12_base x1 v12_ends x2 x3 v12_bodies v12_ran v12_ownKind v12_ownNumber, (cI κ (r12 41) 120 f12_tape), (cI κ (r12 45) 720 f12_text), (cI κ (r12 52) 8 f12_names)] H := hPD
  refine lv_istore_n (lv' := [(1, .int x4), (0, .ref a12)]) hx hb dX12_sums_4 rfl hl (by decide) rfl (fun ls hl => ?_)
  have lp5 : ∀ (n5 : Nat) (k9 : Int32) (v10 : Int32) (v11 : Int32) (v12 : Int32), (v12_at.toInt ≤ v10.toInt ∧ v10.toInt ≤ v12_ends.toInt) → (v12_opened.toInt ≤ v12.toInt ∧ v12.toInt ≤ 6 ∧ (0 ≤ v11.toInt ∨ v12.toInt = v12_opened.toInt)) → (v12_fault.toInt < 0 ∨ 0 ≤ v11.toInt) → (v12_ends.toInt - v10.toInt).toNat < n5 → ∀ (H : Heap) (locs : List Loc), va_P D vwCl [O12 a12 r12 v12_keptMany v12_done v12_sheets v12_holes v12_worms v12_laidMany v12_wanted v12_orderMany v12_firstOrder v12_lines v12_marks v12_dots v12_madeIn v12_bound v12_places v12_maps v12_tapeMany v12_stories v12_base v10 v12_ends v11 v12 v12_bodies v12_ran v12_ownKind v12_ownNumber, (cI κ (r12 41) 120 f12_tape), (cI κ (r12 45) 720 f12_text), (cI κ (r12 52) 8 f12_names)] H → va_D A [O12 a12 r12 v12_keptMany v12_done v12_sheets v12_holes v12_worms v12_laidMany v12_wanted v12_orderMany v12_firstOrder v12_lines v12_marks v12_dots v12_madeIn v12_bound v12_places v12_maps v12_tapeMany v12_stories v12_base v10 v12_ends v11 v12 v12_bodies v12_ran v12_ownKind v12_ownNumber, (cI κ (r12 41) 120 f12_tape), (cI κ (r12 45) 720 f12_text), (cI κ (r12 52) 8 f12_names)] → va_S A s.heap H locs → ∀ ls : Array Slot, lv_has ls 4 [(1, .int k9), (0, .ref a12)] → W p l e ({ frames := 6 * d + 4, cells := 0, slots := 0, locals := 137 * d + 107 } : Room) s m args below meth c H locs 0 0 Q (F0 m 5 ls []) := by
    intro n5
    induction n5 with
    | zero =>
      intro k9 v10 v11 v12 h13 h14 h15 m16
      exact absurd m16 (Nat.not_lt_zero _)
    | succ n5 ih5 =>
      intro k9 v10 v11 v12 h13 h14 h15 m16 H locs hP hD hS ls hl
      refine lv_aload_n hx hb dX12_sums_5 rfl (lv_at hl 1 rfl) ?_
      refine va_get (D := D) (ci := 12) (v := .int v11) (C := RX12) (T := TX12) (N := 63) hx hb hts w1 hown hK.1 hP 0 rfl rfl 50 (by decide) w0 (fun _ h9 => h9) rfl dX12_sums_6 ?_
      refine lv_if_ge (tgt := 77) hx hb dX12_sums_9 (by decide) (fun c17 => ?_) (fun c17 => ?_)
      · have c17 := ci_le c17
        refine lv_iload_n hx hb dX12_sums_77 rfl (lv_at hl 0 rfl) ?_
        have hpo : (v12_at.toInt ≤ v10.toInt ∧ v10.toInt ≤ v12_ends.toInt) ∧ (v12_opened.toInt ≤ v12.toInt ∧ v12.toInt ≤ 6 ∧ (0 ≤ v11.toInt ∨ v12.toInt = v12_opened.toInt)) ∧ (v12_fault.toInt < 0 ∨ 0 ≤ v11.toInt) := ⟨(by omega), (by omega), (by omega)⟩
        exact ret _ _ _ _ k9 (v10, v11, v12) dX12_sums_78 hpo hP hD hS
      have c17 := ci_nle c17
      refine lv_aload_n hx hb dX12_sums_12 rfl (lv_at hl 1 rfl) ?_
      refine kcm_i hA hAB hP hD hS [true, true, true, false] rfl (fun _ => rfl) (fun hPc hDc => va_runV (As := []) (rest := []) ⟨hx, hb, hml, hown, hts⟩ (k_X12_byteAt l D κ β a12 r12 v12_keptMany v12_done v12_sheets v12_holes v12_worms v12_laidMany v12_wanted v12_orderMany v12_firstOrder v12_lines v12_marks v12_dots v12_madeIn v12_bound v12_places v12_maps v12_tapeMany v12_stories v12_base v10 v12_ends v11 v12 v12_bodies v12_ran v12_ownKind v12_ownNumber f12_tape f12_text H.size i1 i2 i3 i4 i5 i6 i7 i8 i9 i10 i11 i12 i13 i14 i15 i16 i17 (by omega)) (cwV 0 hts gX12_sums_X12_byteAt rfl rfl rfl (by decide +kernel) ⟨by dsimp only; omega, by dsimp only; omega⟩) (pk_V hK hS hAB hPc hDc 0 (ci := 12) rfl rfl rfl) rfl rfl hl.1 rfl (lv_room (Nat.le_of_ble_eq_true rfl)) dX12_sums_13 ⟨Nat.le_of_ble_eq_true rfl, Nat.le_of_ble_eq_true rfl⟩) (fun x18 u19 H locs hw hPD hS => ?_)
      have h20 : x18.toInt = 0 ∨ v10.toInt < v12_ends.toInt := hw
      obtain ⟨hP, hD⟩ : PD D A [O12 a12 r12 v12_keptMany v12_done v12_sheets v12_holes v12_worms v12_laidMany v12_wanted v12_orderMany v12_firstOrder v12_lines v12_marks v12_dots v12_madeIn v12_bound v12_places v12_maps v12_tapeMany v12_stories v12_base v10 v12_ends v11 v12 v12_bodies v12_ran v12_ownKind v12_ownNumber, (cI κ (r12 41) 120 f12_tape), (cI κ (r12 45) 720 f12_text), (cI κ (r12 52) 8 f12_names)] H := hPD
      refine lv_bipush (v := 43) hx hb dX12_sums_16 (by decide) ?_
      refine lv_icmp_eq (tgt := 30) hx hb dX12_sums_18 (by decide) (fun c21 => ?_) (fun c21 => ?_)
      · have c21 := ci_eq c21
        refine lv_aload_n hx hb dX12_sums_30 rfl (lv_at hl 1 rfl) ?_
        refine kcm_i hA hAB hP hD hS [true, true, true, false] rfl (fun _ => rfl) (fun hPc hDc => va_runV (As := []) (rest := []) ⟨hx, hb, hml, hown, hts⟩ (k_X12_byteAt l D κ β a12 r12 v12_keptMany v12_done v12_sheets v12_holes v12_worms v12_laidMany v12_wanted v12_orderMany v12_firstOrder v12_lines v12_marks v12_dots v12_madeIn v12_bound v12_places v12_maps v12_tapeMany v12_stories v12_base v10 v12_ends v11 v12 v12_bodies v12_ran v12_ownKind v12_ownNumber f12_tape f12_text H.size i1 i2 i3 i4 i5 i6 i7 i8 i9 i10 i11 i12 i13 i14 i15 i16 i17 (by omega)) (cwV 0 hts gX12_sums_X12_byteAt rfl rfl rfl (by decide +kernel) ⟨by dsimp only; omega, by dsimp only; omega⟩) (pk_V hK hS hAB hPc hDc 0 (ci := 12) rfl rfl rfl) rfl rfl hl.1 rfl (lv_room (Nat.le_of_ble_eq_true rfl)) dX12_sums_31 ⟨Nat.le_of_ble_eq_true rfl, Nat.le_of_ble_eq_true rfl⟩) (fun x22 u23 H locs hw hPD hS => ?_)
        have h24 : x22.toInt = 0 ∨ v10.toInt < v12_ends.toInt := hw
        obtain ⟨hP, hD⟩ : PD D A [O12 a12 r12 v12_keptMany v12_done v12_sheets v12_holes v12_worms v12_laidMany v12_wanted v12_orderMany v12_firstOrder v12_lines v12_marks v12_dots v12_madeIn v12_bound v12_places v12_maps v12_tapeMany v12_stories v12_base v10 v12_ends v11 v12 v12_bodies v12_ran v12_ownKind v12_ownNumber, (cI κ (r12 41) 120 f12_tape), (cI κ (r12 45) 720 f12_text), (cI κ (r12 52) 8 f12_names)] H := hPD
        refine lv_bipush (v := 43) hx hb dX12_sums_34 (by decide) ?_
        refine lv_icmp_ne (tgt := 43) hx hb dX12_sums_36 (by decide) (fun c25 => ?_) (fun c25 => ?_)
        · have c25 := ci_ne c25
          refine lv_iconst (v := 0) hx hb dX12_sums_43 (by decide) ?_
          refine lv_istore_n (lv' := [(2, .int 0), (1, .int k9), (0, .ref a12)]) hx hb dX12_sums_44 rfl hl (by decide) rfl (fun ls hl => ?_)
          refine lv_aload_n hx hb dX12_sums_45 rfl (lv_at hl 2 rfl) ?_
          refine lv_dup hx hb dX12_sums_46 rfl ?_
          refine va_get (D := D) (ci := 12) (v := .int v10) (C := RX12) (T := TX12) (N := 63) hx hb hts w1 hown hK.1 hP 0 rfl rfl 48 (by decide) w2 (fun _ h9 => h9) rfl dX12_sums_47 ?_
          refine lv_iconst (v := 1) hx hb dX12_sums_50 (by decide) ?_
          refine lv_iadd hx hb dX12_sums_51 ?_
          refine lv_topi (fun x26 e27 => ?_)
          try have h28 : x26.toInt = v10.toInt + (1 : Int32).toInt := ci_add e27 (by omega) (by omega)
          refine va_put (D := D) (ci := 12) (v := .int x26) (ty := .int) (C := RX12) (T := TX12) (N := 63) hx hb hts w1 tyX12 tyX12_ok nmX12 hown hK.1 hP hD hS 0 rfl rfl 48 (by decide) w2 (fun _ h9 => h9) rfl (by decide +kernel) rfl rfl (Nat.le_of_ble_eq_true rfl) dX12_sums_52 (fun H locs hP hD hS => ?_)
          obtain ⟨hP, hD⟩ : PD D A [O12 a12 r12 v12_keptMany v12_done v12_sheets v12_holes v12_worms v12_laidMany v12_wanted v12_orderMany v12_firstOrder v12_lines v12_marks v12_dots v12_madeIn v12_bound v12_places v12_maps v12_tapeMany v12_stories v12_base x26 v12_ends v11 v12 v12_bodies v12_ran v12_ownKind v12_ownNumber, (cI κ (r12 41) 120 f12_tape), (cI κ (r12 45) 720 f12_text), (cI κ (r12 52) 8 f12_names)] H := ⟨hP, hD⟩
          refine lv_aload_n hx hb dX12_sums_55 rfl (lv_at hl 2 rfl) ?_
          refine kcm_i hA hAB hP hD hS [true, true, true, true] rfl (fun _ => rfl) (fun hPc hDc => va_runV (As := []) (rest := []) ⟨hx, hb, hml, hown, hts⟩ (h_product a12 r12 v12_keptMany v12_done v12_sheets v12_holes v12_worms v12_laidMany v12_wanted v12_orderMany v12_firstOrder v12_lines v12_marks v12_dots v12_madeIn v12_bound v12_places v12_maps v12_tapeMany v12_stories v12_base x26 v12_ends v11 v12 v12_bodies v12_ran v12_ownKind v12_ownNumber f12_tape f12_text f12_names H.size i1 i2 i3 i4 i5 i6 i7 i8 i9 i10 i11 i12 i13 i14 i15 i16 i17 (by omega) (by omega) (by omega)) (cwV 0 hts gX12_sums_X12_product rfl rfl rfl (by decide +kernel) ⟨by dsimp only; omega, by dsimp only; omega⟩) (pk_V hK hS hAB hPc hDc 0 (ci := 12) rfl rfl rfl) rfl rfl hl.1 rfl (lv_room (Nat.le_of_ble_eq_true rfl)) dX12_sums_56 ⟨Nat.le_of_ble_eq_true rfl, Nat.le_of_ble_eq_true rfl⟩) (fun x32 u33 H locs hw hPD hS => ?_)
          obtain ⟨x29, x30, x31⟩ := u33
          obtain ⟨h34, h35, h36⟩ : (x26.toInt ≤ x29.toInt ∧ x29.toInt ≤ v12_ends.toInt) ∧ (v12.toInt ≤ x31.toInt ∧ x31.toInt ≤ 6 ∧ (0 ≤ x30.toInt ∨ x31.toInt = v12.toInt)) ∧ (v11.toInt < 0 ∨ 0 ≤ x30.toInt) := hw
          obtain ⟨hP, hD⟩ : PD D A [O12 a12 r12 v12_keptMany v12_done v12_sheets v12_holes v12_worms v12_laidMany v12_wanted v12_orderMany v12_firstOrder v12_lines v12_marks v12_dots v12_madeIn v12_bound v12_places v12_maps v12_tapeMany v12_stories v12_base x29 v12_ends x30 x31 v12_bodies v12_ran v12_ownKind v12_ownNumber, (cI κ (r12 41) 120 f12_tape), (cI κ (r12 45) 720 f12_text), (cI κ (r12 52) 8 f12_names)] H := hPD
          refine lv_istore_n (lv' := [(3, .int x32), (2, .int 0), (1, .int k9), (0, .ref a12)]) hx hb dX12_sums_59 rfl hl (by decide) rfl (fun ls hl => ?_)
          refine lv_iload_n hx hb dX12_sums_60 rfl (lv_at hl 1 rfl) ?_
          refine lv_if_eq (tgt := 70) hx hb dX12_sums_61 (by decide) (fun c37 => ?_) (fun c37 => ?_)
          · have c37 := ci_eq c37
            refine lv_iload_n hx hb dX12_sums_70 rfl (lv_at hl 2 rfl) ?_
            refine lv_iload_n hx hb dX12_sums_71 rfl (lv_at hl 0 rfl) ?_
            refine lv_isub hx hb dX12_sums_72 ?_
            refine lv_topi (fun x38 e39 => ?_)
            try have h40 : x38.toInt = k9.toInt - x32.toInt := ci_sub e39 (by omega) (by omega)
            refine lv_istore_n (lv' := [(1, .int x38), (3, .int x32), (2, .int 0), (0, .ref a12)]) hx hb dX12_sums_73 rfl hl (by decide) rfl (fun ls hl => ?_)
            refine lv_goto (tgt := 5) hx hb dX12_sums_74 (by decide) ?_
            exact ih5 x38 x29 x30 x31 (by omega) (by omega) (by omega) (by omega) _ _ hP hD hS _ (lv_sub hl [0, 3] rfl)
          have c37 := ci_ne c37
          exfalso
          omega
        have c25 := ci_eq c25
        refine lv_iconst (v := 1) hx hb dX12_sums_39 (by decide) ?_
        refine lv_goto (tgt := 44) hx hb dX12_sums_40 (by decide) ?_
        refine lv_istore_n (lv' := [(2, .int 1), (1, .int k9), (0, .ref a12)]) hx hb dX12_sums_44 rfl hl (by decide) rfl (fun ls hl => ?_)
        refine lv_aload_n hx hb dX12_sums_45 rfl (lv_at hl 2 rfl) ?_
        refine lv_dup hx hb dX12_sums_46 rfl ?_
        refine va_get (D := D) (ci := 12) (v := .int v10) (C := RX12) (T := TX12) (N := 63) hx hb hts w1 hown hK.1 hP 0 rfl rfl 48 (by decide) w2 (fun _ h9 => h9) rfl dX12_sums_47 ?_
        refine lv_iconst (v := 1) hx hb dX12_sums_50 (by decide) ?_
        refine lv_iadd hx hb dX12_sums_51 ?_
        refine lv_topi (fun x41 e42 => ?_)
        try have h43 : x41.toInt = v10.toInt + (1 : Int32).toInt := ci_add e42 (by omega) (by omega)
        refine va_put (D := D) (ci := 12) (v := .int x41) (ty := .int) (C := RX12) (T := TX12) (N := 63) hx hb hts w1 tyX12 tyX12_ok nmX12 hown hK.1 hP hD hS 0 rfl rfl 48 (by decide) w2 (fun _ h9 => h9) rfl (by decide +kernel) rfl rfl (Nat.le_of_ble_eq_true rfl) dX12_sums_52 (fun H locs hP hD hS => ?_)
        obtain ⟨hP, hD⟩ : PD D A [O12 a12 r12 v12_keptMany v12_done v12_sheets v12_holes v12_worms v12_laidMany v12_wanted v12_orderMany v12_firstOrder v12_lines v12_marks v12_dots v12_madeIn v12_bound v12_places v12_maps v12_tapeMany v12_stories v12_base x41 v12_ends v11 v12 v12_bodies v12_ran v12_ownKind v12_ownNumber, (cI κ (r12 41) 120 f12_tape), (cI κ (r12 45) 720 f12_text), (cI κ (r12 52) 8 f12_names)] H := ⟨hP, hD⟩
        refine lv_aload_n hx hb dX12_sums_55 rfl (lv_at hl 2 rfl) ?_
        refine kcm_i hA hAB hP hD hS [true, true, true, true] rfl (fun _ => rfl) (fun hPc hDc => va_runV (As := []) (rest := []) ⟨hx, hb, hml, hown, hts⟩ (h_product a12 r12 v12_keptMany v12_done v12_sheets v12_holes v12_worms v12_laidMany v12_wanted v12_orderMany v12_firstOrder v12_lines v12_marks v12_dots v12_madeIn v12_bound v12_places v12_maps v12_tapeMany v12_stories v12_base x41 v12_ends v11 v12 v12_bodies v12_ran v12_ownKind v12_ownNumber f12_tape f12_text f12_names H.size i1 i2 i3 i4 i5 i6 i7 i8 i9 i10 i11 i12 i13 i14 i15 i16 i17 (by omega) (by omega) (by omega)) (cwV 0 hts gX12_sums_X12_product rfl rfl rfl (by decide +kernel) ⟨by dsimp only; omega, by dsimp only; omega⟩) (pk_V hK hS hAB hPc hDc 0 (ci := 12) rfl rfl rfl) rfl rfl hl.1 rfl (lv_room (Nat.le_of_ble_eq_true rfl)) dX12_sums_56 ⟨Nat.le_of_ble_eq_true rfl, Nat.le_of_ble_eq_true rfl⟩) (fun x47 u48 H locs hw hPD hS => ?_)
        obtain ⟨x44, x45, x46⟩ := u48
        obtain ⟨h49, h50, h51⟩ : (x41.toInt ≤ x44.toInt ∧ x44.toInt ≤ v12_ends.toInt) ∧ (v12.toInt ≤ x46.toInt ∧ x46.toInt ≤ 6 ∧ (0 ≤ x45.toInt ∨ x46.toInt = v12.toInt)) ∧ (v11.toInt < 0 ∨ 0 ≤ x45.toInt) := hw
        obtain ⟨hP, hD⟩ : PD D A [O12 a12 r12 v12_keptMany v12_done v12_sheets v12_holes v12_worms v12_laidMany v12_wanted v12_orderMany v12_firstOrder v12_lines v12_marks v12_dots v12_madeIn v12_bound v12_places v12_maps v12_tapeMany v12_stories v12_base x44 v12_ends x45 x46 v12_bodies v12_ran v12_ownKind v12_ownNumber, (cI κ (r12 41) 120 f12_tape), (cI κ (r12 45) 720 f12_text), (cI κ (r12 52) 8 f12_names)] H := hPD
        refine lv_istore_n (lv' := [(3, .int x47), (2, .int 1), (1, .int k9), (0, .ref a12)]) hx hb dX12_sums_59 rfl hl (by decide) rfl (fun ls hl => ?_)
        refine lv_iload_n hx hb dX12_sums_60 rfl (lv_at hl 1 rfl) ?_
        refine lv_if_eq (tgt := 70) hx hb dX12_sums_61 (by decide) (fun c52 => ?_) (fun c52 => ?_)
        · have c52 := ci_eq c52
          exfalso
          omega
        have c52 := ci_ne c52
        refine lv_iload_n hx hb dX12_sums_64 rfl (lv_at hl 2 rfl) ?_
        refine lv_iload_n hx hb dX12_sums_65 rfl (lv_at hl 0 rfl) ?_
        refine lv_iadd hx hb dX12_sums_66 ?_
        refine lv_topi (fun x53 e54 => ?_)
        try have h55 : x53.toInt = k9.toInt + x47.toInt := ci_add e54 (by omega) (by omega)
        refine lv_goto (tgt := 73) hx hb dX12_sums_67 (by decide) ?_
        refine lv_istore_n (lv' := [(1, .int x53), (3, .int x47), (2, .int 1), (0, .ref a12)]) hx hb dX12_sums_73 rfl hl (by decide) rfl (fun ls hl => ?_)
        refine lv_goto (tgt := 5) hx hb dX12_sums_74 (by decide) ?_
        exact ih5 x53 x44 x45 x46 (by omega) (by omega) (by omega) (by omega) _ _ hP hD hS _ (lv_sub hl [0, 3] rfl)
      have c21 := ci_ne c21
      refine lv_aload_n hx hb dX12_sums_21 rfl (lv_at hl 1 rfl) ?_
      refine kcm_i hA hAB hP hD hS [true, true, true, false] rfl (fun _ => rfl) (fun hPc hDc => va_runV (As := []) (rest := []) ⟨hx, hb, hml, hown, hts⟩ (k_X12_byteAt l D κ β a12 r12 v12_keptMany v12_done v12_sheets v12_holes v12_worms v12_laidMany v12_wanted v12_orderMany v12_firstOrder v12_lines v12_marks v12_dots v12_madeIn v12_bound v12_places v12_maps v12_tapeMany v12_stories v12_base v10 v12_ends v11 v12 v12_bodies v12_ran v12_ownKind v12_ownNumber f12_tape f12_text H.size i1 i2 i3 i4 i5 i6 i7 i8 i9 i10 i11 i12 i13 i14 i15 i16 i17 (by omega)) (cwV 0 hts gX12_sums_X12_byteAt rfl rfl rfl (by decide +kernel) ⟨by dsimp only; omega, by dsimp only; omega⟩) (pk_V hK hS hAB hPc hDc 0 (ci := 12) rfl rfl rfl) rfl rfl hl.1 rfl (lv_room (Nat.le_of_ble_eq_true rfl)) dX12_sums_22 ⟨Nat.le_of_ble_eq_true rfl, Nat.le_of_ble_eq_true rfl⟩) (fun x56 u57 H locs hw hPD hS => ?_)
      have h58 : x56.toInt = 0 ∨ v10.toInt < v12_ends.toInt := hw
      obtain ⟨hP, hD⟩ : PD D A [O12 a12 r12 v12_keptMany v12_done v12_sheets v12_holes v12_worms v12_laidMany v12_wanted v12_orderMany v12_firstOrder v12_lines v12_marks v12_dots v12_madeIn v12_bound v12_places v12_maps v12_tapeMany v12_stories v12_base v10 v12_ends v11 v12 v12_bodies v12_ran v12_ownKind v12_ownNumber, (cI κ (r12 41) 120 f12_tape), (cI κ (r12 45) 720 f12_text), (cI κ (r12 52) 8 f12_names)] H := hPD
      refine lv_bipush (v := 45) hx hb dX12_sums_25 (by decide) ?_
      refine lv_icmp_ne (tgt := 77) hx hb dX12_sums_27 (by decide) (fun c59 => ?_) (fun c59 => ?_)
      · have c59 := ci_ne c59
        refine lv_iload_n hx hb dX12_sums_77 rfl (lv_at hl 0 rfl) ?_
        have hpo : (v12_at.toInt ≤ v10.toInt ∧ v10.toInt ≤ v12_ends.toInt) ∧ (v12_opened.toInt ≤ v12.toInt ∧ v12.toInt ≤ 6 ∧ (0 ≤ v11.toInt ∨ v12.toInt = v12_opened.toInt)) ∧ (v12_fault.toInt < 0 ∨ 0 ≤ v11.toInt) := ⟨(by omega), (by omega), (by omega)⟩
        exact ret _ _ _ _ k9 (v10, v11, v12) dX12_sums_78 hpo hP hD hS
      have c59 := ci_eq c59
      refine lv_aload_n hx hb dX12_sums_30 rfl (lv_at hl 1 rfl) ?_
      refine kcm_i hA hAB hP hD hS [true, true, true, false] rfl (fun _ => rfl) (fun hPc hDc => va_runV (As := []) (rest := []) ⟨hx, hb, hml, hown, hts⟩ (k_X12_byteAt l D κ β a12 r12 v12_keptMany v12_done v12_sheets v12_holes v12_worms v12_laidMany v12_wanted v12_orderMany v12_firstOrder v12_lines v12_marks v12_dots v12_madeIn v12_bound v12_places v12_maps v12_tapeMany v12_stories v12_base v10 v12_ends v11 v12 v12_bodies v12_ran v12_ownKind v12_ownNumber f12_tape f12_text H.size i1 i2 i3 i4 i5 i6 i7 i8 i9 i10 i11 i12 i13 i14 i15 i16 i17 (by omega)) (cwV 0 hts gX12_sums_X12_byteAt rfl rfl rfl (by decide +kernel) ⟨by dsimp only; omega, by dsimp only; omega⟩) (pk_V hK hS hAB hPc hDc 0 (ci := 12) rfl rfl rfl) rfl rfl hl.1 rfl (lv_room (Nat.le_of_ble_eq_true rfl)) dX12_sums_31 ⟨Nat.le_of_ble_eq_true rfl, Nat.le_of_ble_eq_true rfl⟩) (fun x60 u61 H locs hw hPD hS => ?_)
      have h62 : x60.toInt = 0 ∨ v10.toInt < v12_ends.toInt := hw
      obtain ⟨hP, hD⟩ : PD D A [O12 a12 r12 v12_keptMany v12_done v12_sheets v12_holes v12_worms v12_laidMany v12_wanted v12_orderMany v12_firstOrder v12_lines v12_marks v12_dots v12_madeIn v12_bound v12_places v12_maps v12_tapeMany v12_stories v12_base v10 v12_ends v11 v12 v12_bodies v12_ran v12_ownKind v12_ownNumber, (cI κ (r12 41) 120 f12_tape), (cI κ (r12 45) 720 f12_text), (cI κ (r12 52) 8 f12_names)] H := hPD
      refine lv_bipush (v := 43) hx hb dX12_sums_34 (by decide) ?_
      refine lv_icmp_ne (tgt := 43) hx hb dX12_sums_36 (by decide) (fun c63 => ?_) (fun c63 => ?_)
      · have c63 := ci_ne c63
        refine lv_iconst (v := 0) hx hb dX12_sums_43 (by decide) ?_
        refine lv_istore_n (lv' := [(2, .int 0), (1, .int k9), (0, .ref a12)]) hx hb dX12_sums_44 rfl hl (by decide) rfl (fun ls hl => ?_)
        refine lv_aload_n hx hb dX12_sums_45 rfl (lv_at hl 2 rfl) ?_
        refine lv_dup hx hb dX12_sums_46 rfl ?_
        refine va_get (D := D) (ci := 12) (v := .int v10) (C := RX12) (T := TX12) (N := 63) hx hb hts w1 hown hK.1 hP 0 rfl rfl 48 (by decide) w2 (fun _ h9 => h9) rfl dX12_sums_47 ?_
        refine lv_iconst (v := 1) hx hb dX12_sums_50 (by decide) ?_
        refine lv_iadd hx hb dX12_sums_51 ?_
        refine lv_topi (fun x64 e65 => ?_)
        try have h66 : x64.toInt = v10.toInt + (1 : Int32).toInt := ci_add e65 (by omega) (by omega)
        refine va_put (D := D) (ci := 12) (v := .int x64) (ty := .int) (C := RX12) (T := TX12) (N := 63) hx hb hts w1 tyX12 tyX12_ok nmX12 hown hK.1 hP hD hS 0 rfl rfl 48 (by decide) w2 (fun _ h9 => h9) rfl (by decide +kernel) rfl rfl (Nat.le_of_ble_eq_true rfl) dX12_sums_52 (fun H locs hP hD hS => ?_)
        obtain ⟨hP, hD⟩ : PD D A [O12 a12 r12 v12_keptMany v12_done v12_sheets v12_holes v12_worms v12_laidMany v12_wanted v12_orderMany v12_firstOrder v12_lines v12_marks v12_dots v12_madeIn v12_bound v12_places v12_maps v12_tapeMany v12_stories v12_base x64 v12_ends v11 v12 v12_bodies v12_ran v12_ownKind v12_ownNumber, (cI κ (r12 41) 120 f12_tape), (cI κ (r12 45) 720 f12_text), (cI κ (r12 52) 8 f12_names)] H := ⟨hP, hD⟩
        refine lv_aload_n hx hb dX12_sums_55 rfl (lv_at hl 2 rfl) ?_
        refine kcm_i hA hAB hP hD hS [true, true, true, true] rfl (fun _ => rfl) (fun hPc hDc => va_runV (As := []) (rest := []) ⟨hx, hb, hml, hown, hts⟩ (h_product a12 r12 v12_keptMany v12_done v12_sheets v12_holes v12_worms v12_laidMany v12_wanted v12_orderMany v12_firstOrder v12_lines v12_marks v12_dots v12_madeIn v12_bound v12_places v12_maps v12_tapeMany v12_stories v12_base x64 v12_ends v11 v12 v12_bodies v12_ran v12_ownKind v12_ownNumber f12_tape f12_text f12_names H.size i1 i2 i3 i4 i5 i6 i7 i8 i9 i10 i11 i12 i13 i14 i15 i16 i17 (by omega) (by omega) (by omega)) (cwV 0 hts gX12_sums_X12_product rfl rfl rfl (by decide +kernel) ⟨by dsimp only; omega, by dsimp only; omega⟩) (pk_V hK hS hAB hPc hDc 0 (ci := 12) rfl rfl rfl) rfl rfl hl.1 rfl (lv_room (Nat.le_of_ble_eq_true rfl)) dX12_sums_56 ⟨Nat.le_of_ble_eq_true rfl, Nat.le_of_ble_eq_true rfl⟩) (fun x70 u71 H locs hw hPD hS => ?_)
        obtain ⟨x67, x68, x69⟩ := u71
        obtain ⟨h72, h73, h74⟩ : (x64.toInt ≤ x67.toInt ∧ x67.toInt ≤ v12_ends.toInt) ∧ (v12.toInt ≤ x69.toInt ∧ x69.toInt ≤ 6 ∧ (0 ≤ x68.toInt ∨ x69.toInt = v12.toInt)) ∧ (v11.toInt < 0 ∨ 0 ≤ x68.toInt) := hw
        obtain ⟨hP, hD⟩ : PD D A [O12 a12 r12 v12_keptMany v12_done v12_sheets v12_holes v12_worms v12_laidMany v12_wanted v12_orderMany v12_firstOrder v12_lines v12_marks v12_dots v12_madeIn v12_bound v12_places v12_maps v12_tapeMany v12_stories v12_base x67 v12_ends x68 x69 v12_bodies v12_ran v12_ownKind v12_ownNumber, (cI κ (r12 41) 120 f12_tape), (cI κ (r12 45) 720 f12_text), (cI κ (r12 52) 8 f12_names)] H := hPD
        refine lv_istore_n (lv' := [(3, .int x70), (2, .int 0), (1, .int k9), (0, .ref a12)]) hx hb dX12_sums_59 rfl hl (by decide) rfl (fun ls hl => ?_)
        refine lv_iload_n hx hb dX12_sums_60 rfl (lv_at hl 1 rfl) ?_
        refine lv_if_eq (tgt := 70) hx hb dX12_sums_61 (by decide) (fun c75 => ?_) (fun c75 => ?_)
        · have c75 := ci_eq c75
          refine lv_iload_n hx hb dX12_sums_70 rfl (lv_at hl 2 rfl) ?_
          refine lv_iload_n hx hb dX12_sums_71 rfl (lv_at hl 0 rfl) ?_
          refine lv_isub hx hb dX12_sums_72 ?_
          refine lv_topi (fun x76 e77 => ?_)
          try have h78 : x76.toInt = k9.toInt - x70.toInt := ci_sub e77 (by omega) (by omega)
          refine lv_istore_n (lv' := [(1, .int x76), (3, .int x70), (2, .int 0), (0, .ref a12)]) hx hb dX12_sums_73 rfl hl (by decide) rfl (fun ls hl => ?_)
          refine lv_goto (tgt := 5) hx hb dX12_sums_74 (by decide) ?_
          exact ih5 x76 x67 x68 x69 (by omega) (by omega) (by omega) (by omega) _ _ hP hD hS _ (lv_sub hl [0, 3] rfl)
        have c75 := ci_ne c75
        exfalso
        omega
      have c63 := ci_eq c63
      refine lv_iconst (v := 1) hx hb dX12_sums_39 (by decide) ?_
      refine lv_goto (tgt := 44) hx hb dX12_sums_40 (by decide) ?_
      refine lv_istore_n (lv' := [(2, .int 1), (1, .int k9), (0, .ref a12)]) hx hb dX12_sums_44 rfl hl (by decide) rfl (fun ls hl => ?_)
      refine lv_aload_n hx hb dX12_sums_45 rfl (lv_at hl 2 rfl) ?_
      refine lv_dup hx hb dX12_sums_46 rfl ?_
      refine va_get (D := D) (ci := 12) (v := .int v10) (C := RX12) (T := TX12) (N := 63) hx hb hts w1 hown hK.1 hP 0 rfl rfl 48 (by decide) w2 (fun _ h9 => h9) rfl dX12_sums_47 ?_
      refine lv_iconst (v := 1) hx hb dX12_sums_50 (by decide) ?_
      refine lv_iadd hx hb dX12_sums_51 ?_
      refine lv_topi (fun x79 e80 => ?_)
      try have h81 : x79.toInt = v10.toInt + (1 : Int32).toInt := ci_add e80 (by omega) (by omega)
      refine va_put (D := D) (ci := 12) (v := .int x79) (ty := .int) (C := RX12) (T := TX12) (N := 63) hx hb hts w1 tyX12 tyX12_ok nmX12 hown hK.1 hP hD hS 0 rfl rfl 48 (by decide) w2 (fun _ h9 => h9) rfl (by decide +kernel) rfl rfl (Nat.le_of_ble_eq_true rfl) dX12_sums_52 (fun H locs hP hD hS => ?_)
      obtain ⟨hP, hD⟩ : PD D A [O12 a12 r12 v12_keptMany v12_done v12_sheets v12_holes v12_worms v12_laidMany v12_wanted v12_orderMany v12_firstOrder v12_lines v12_marks v12_dots v12_madeIn v12_bound v12_places v12_maps v12_tapeMany v12_stories v12_base x79 v12_ends v11 v12 v12_bodies v12_ran v12_ownKind v12_ownNumber, (cI κ (r12 41) 120 f12_tape), (cI κ (r12 45) 720 f12_text), (cI κ (r12 52) 8 f12_names)] H := ⟨hP, hD⟩
      refine lv_aload_n hx hb dX12_sums_55 rfl (lv_at hl 2 rfl) ?_
      refine kcm_i hA hAB hP hD hS [true, true, true, true] rfl (fun _ => rfl) (fun hPc hDc => va_runV (As := []) (rest := []) ⟨hx, hb, hml, hown, hts⟩ (h_product a12 r12 v12_keptMany v12_done v12_sheets v12_holes v12_worms v12_laidMany v12_wanted v12_orderMany v12_firstOrder v12_lines v12_marks v12_dots v12_madeIn v12_bound v12_places v12_maps v12_tapeMany v12_stories v12_base x79 v12_ends v11 v12 v12_bodies v12_ran v12_ownKind v12_ownNumber f12_tape f12_text f12_names H.size i1 i2 i3 i4 i5 i6 i7 i8 i9 i10 i11 i12 i13 i14 i15 i16 i17 (by omega) (by omega) (by omega)) (cwV 0 hts gX12_sums_X12_product rfl rfl rfl (by decide +kernel) ⟨by dsimp only; omega, by dsimp only; omega⟩) (pk_V hK hS hAB hPc hDc 0 (ci := 12) rfl rfl rfl) rfl rfl hl.1 rfl (lv_room (Nat.le_of_ble_eq_true rfl)) dX12_sums_56 ⟨Nat.le_of_ble_eq_true rfl, Nat.le_of_ble_eq_true rfl⟩) (fun x85 u86 H locs hw hPD hS => ?_)
      obtain ⟨x82, x83, x84⟩ := u86
      obtain ⟨h87, h88, h89⟩ : (x79.toInt ≤ x82.toInt ∧ x82.toInt ≤ v12_ends.toInt) ∧ (v12.toInt ≤ x84.toInt ∧ x84.toInt ≤ 6 ∧ (0 ≤ x83.toInt ∨ x84.toInt = v12.toInt)) ∧ (v11.toInt < 0 ∨ 0 ≤ x83.toInt) := hw
      obtain ⟨hP, hD⟩ : PD D A [O12 a12 r12 v12_keptMany v12_done v12_sheets v12_holes v12_worms v12_laidMany v12_wanted v12_orderMany v12_firstOrder v12_lines v12_marks v12_dots v12_madeIn v12_bound v12_places v12_maps v12_tapeMany v12_stories v12_base x82 v12_ends x83 x84 v12_bodies v12_ran v12_ownKind v12_ownNumber, (cI κ (r12 41) 120 f12_tape), (cI κ (r12 45) 720 f12_text), (cI κ (r12 52) 8 f12_names)] H := hPD
      refine lv_istore_n (lv' := [(3, .int x85), (2, .int 1), (1, .int k9), (0, .ref a12)]) hx hb dX12_sums_59 rfl hl (by decide) rfl (fun ls hl => ?_)
      refine lv_iload_n hx hb dX12_sums_60 rfl (lv_at hl 1 rfl) ?_
      refine lv_if_eq (tgt := 70) hx hb dX12_sums_61 (by decide) (fun c90 => ?_) (fun c90 => ?_)
      · have c90 := ci_eq c90
        exfalso
        omega
      have c90 := ci_ne c90
      refine lv_iload_n hx hb dX12_sums_64 rfl (lv_at hl 2 rfl) ?_
      refine lv_iload_n hx hb dX12_sums_65 rfl (lv_at hl 0 rfl) ?_
      refine lv_iadd hx hb dX12_sums_66 ?_
      refine lv_topi (fun x91 e92 => ?_)
      try have h93 : x91.toInt = k9.toInt + x85.toInt := ci_add e92 (by omega) (by omega)
      refine lv_goto (tgt := 73) hx hb dX12_sums_67 (by decide) ?_
      refine lv_istore_n (lv' := [(1, .int x91), (3, .int x85), (2, .int 1), (0, .ref a12)]) hx hb dX12_sums_73 rfl hl (by decide) rfl (fun ls hl => ?_)
      refine lv_goto (tgt := 5) hx hb dX12_sums_74 (by decide) ?_
      exact ih5 x91 x82 x83 x84 (by omega) (by omega) (by omega) (by omega) _ _ hP hD hS _ (lv_sub hl [0, 3] rfl)
  exact lp5 ((v12_ends.toInt - x1.toInt).toNat + 1) x4 x1 x2 x3 (by omega) (by omega) (by omega) (by omega) _ _ hP hD hS _ hl
set_option maxHeartbeats 4000000 in
set_option maxRecDepth 100000 in
theorem of_X12_compared (l : Launch) (D : va_G) (κ : Nat → ClassId) (β d : Nat) (h_sums : C_X12_sums l D κ β d) : C_X12_compared l D κ β d := by
  intro a12 r12 v12_keptMany v12_done v12_sheets v12_holes v12_worms v12_laidMany v12_wanted v12_orderMany v12_firstOrder v12_lines v12_marks v12_dots v12_madeIn v12_bound v12_places v12_maps v12_tapeMany v12_stories v12_base v12_at v12_ends v12_fault v12_opened v12_bodies v12_ran v12_ownKind v12_ownNumber f12_tape f12_text f12_names sz i1 i2 i3 i4 i5 i6 i7 i8 i9 i10 i11 i12 i13 i14 i15 i16 i17 i18 i19 i20
  refine ofK_i (cc := cX12_compared) (maxL := 4) (own := RX12) (by decide) rfl rfl (Nat.le_of_ble_eq_true rfl) ?_
  intro p e s m args below meth c Q A ls hsz hx hb hml hts hown hK hA hAB hP hD hl ret
  have hS : va_S A s.heap s.heap [] := va_S.rf
  have hl : lv_has ls 4 [(0, .ref a12)] := hl
  have w0 := hts (.fieldLink RX12 306 "OlderSkinModel" "fault" "I") (List.mem_of_getElem? (i := 1) rfl)
  have w1 := (fun w h => List.mem_cons_of_mem _ (List.mem_append_right _ h) : ∀ w ∈ u_ws RX12 TX12 63, w ∈ wsX12_compared)
  have w2 := hts (.fieldLink RX12 297 "OlderSkinModel" "at" "I") (List.mem_of_getElem? (i := 2) rfl)
  have l0 : (0 : Int32).toInt = 0 := by decide
  have l1 : (60 : Int32).toInt = 60 := by decide
  have l2 : (1 : Int32).toInt = 1 := by decide
  have l3 : (61 : Int32).toInt = 61 := by decide
  have l4 : (62 : Int32).toInt = 62 := by decide
  refine lv_aload_n hx hb dX12_compared_0 rfl (lv_at hl 0 rfl) ?_
  refine kcm_i hA hAB hP hD hS [true, true, true, true] rfl (fun _ => rfl) (fun hPc hDc => va_runV (As := []) (rest := []) ⟨hx, hb, hml, hown, hts⟩ (h_sums a12 r12 v12_keptMany v12_done v12_sheets v12_holes v12_worms v12_laidMany v12_wanted v12_orderMany v12_firstOrder v12_lines v12_marks v12_dots v12_madeIn v12_bound v12_places v12_maps v12_tapeMany v12_stories v12_base v12_at v12_ends v12_fault v12_opened v12_bodies v12_ran v12_ownKind v12_ownNumber f12_tape f12_text f12_names s.heap.size i1 i2 i3 i4 i5 i6 i7 i8 i9 i10 i11 i12 i13 i14 i15 i16 i17 (by omega) (by omega) (by omega)) (cwV 0 hts gX12_compared_X12_sums rfl rfl rfl (by decide +kernel) ⟨by dsimp only; omega, by dsimp only; omega⟩) (pk_V hK hS hAB hPc hDc 0 (ci := 12) rfl rfl rfl) rfl rfl hl.1 rfl (lv_room (Nat.le_of_ble_eq_true rfl)) dX12_compared_1 ⟨Nat.le_of_ble_eq_true rfl, Nat.le_of_ble_eq_true rfl⟩) (fun x4 u5 H locs hw hPD hS => ?_)
  obtain ⟨x1, x2, x3⟩ := u5
  obtain ⟨h6, h7, h8⟩ : (v12_at.toInt ≤ x1.toInt ∧ x1.toInt ≤ v12_ends.toInt) ∧ (v12_opened.toInt ≤ x3.toInt ∧ x3.toInt ≤ 6 ∧ (0 ≤ x2.toInt ∨ x3.toInt = v12_opened.toInt)) ∧ (v12_fault.toInt < 0 ∨ 0 ≤ x2.toInt) := hw
  obtain ⟨hP, hD⟩ : PD D A [O12 a12 r12 v12_keptMany v12_done v12_sheets v12_holes v12_worms v12_laidMany v12_wanted v12_orderMany v12_firstOrder v12_lines v12_marks v12_dots v12_madeIn v12_bound v12_places v12_maps v12_tapeMany v12_stories v12_base x1 v12_ends x2 x3 v12_bodies v12_ran v12_ownKind v12_ownNumber, (cI κ (r12 41) 120 f12_tape), (cI κ (r12 45) 720 f12_text), (cI κ (r12 52) 8 f12_names)] H := hPD
  refine lv_istore_n (lv' := [(1, .int x4), (0, .ref a12)]) hx hb dX12_compared_4 rfl hl (by decide) rfl (fun ls hl => ?_)
  refine lv_aload_n hx hb dX12_compared_5 rfl (lv_at hl 1 rfl) ?_
  refine kcm_i hA hAB hP hD hS [true, true, true, false] rfl (fun _ => rfl) (fun hPc hDc => va_runV (As := []) (rest := []) ⟨hx, hb, hml, hown, hts⟩ (k_X12_byteAt l D κ β a12 r12 v12_keptMany v12_done v12_sheets v12_holes v12_worms v12_laidMany v12_wanted v12_orderMany v12_firstOrder v12_lines v12_marks v12_dots v12_madeIn v12_bound v12_places v12_maps v12_tapeMany v12_stories v12_base x1 v12_ends x2 x3 v12_bodies v12_ran v12_ownKind v12_ownNumber f12_tape f12_text H.size i1 i2 i3 i4 i5 i6 i7 i8 i9 i10 i11 i12 i13 i14 i15 i16 i17 (by omega)) (cwV 0 hts gX12_compared_X12_byteAt rfl rfl rfl (by decide +kernel) ⟨by dsimp only; omega, by dsimp only; omega⟩) (pk_V hK hS hAB hPc hDc 0 (ci := 12) rfl rfl rfl) rfl rfl hl.1 rfl (lv_room (Nat.le_of_ble_eq_true rfl)) dX12_compared_6 ⟨Nat.le_of_ble_eq_true rfl, Nat.le_of_ble_eq_true rfl⟩) (fun x9 u10 H locs hw hPD hS => ?_)
  have h11 : x9.toInt = 0 ∨ x1.toInt < v12_ends.toInt := hw
  obtain ⟨hP, hD⟩ : PD D A [O12 a12 r12 v12_keptMany v12_done v12_sheets v12_holes v12_worms v12_laidMany v12_wanted v12_orderMany v12_firstOrder v12_lines v12_marks v12_dots v12_madeIn v12_bound v12_places v12_maps v12_tapeMany v12_stories v12_base x1 v12_ends x2 x3 v12_bodies v12_ran v12_ownKind v12_ownNumber, (cI κ (r12 41) 120 f12_tape), (cI κ (r12 45) 720 f12_text), (cI κ (r12 52) 8 f12_names)] H := hPD
  refine lv_istore_n (lv' := [(2, .int x9), (1, .int x4), (0, .ref a12)]) hx hb dX12_compared_9 rfl hl (by decide) rfl (fun ls hl => ?_)
  refine lv_aload_n hx hb dX12_compared_10 rfl (lv_at hl 2 rfl) ?_
  refine va_get (D := D) (ci := 12) (v := .int x2) (C := RX12) (T := TX12) (N := 63) hx hb hts w1 hown hK.1 hP 0 rfl rfl 50 (by decide) w0 (fun _ h9 => h9) rfl dX12_compared_11 ?_
  refine lv_if_ge (tgt := 35) hx hb dX12_compared_14 (by decide) (fun c12 => ?_) (fun c12 => ?_)
  · have c12 := ci_le c12
    refine lv_iload_n hx hb dX12_compared_35 rfl (lv_at hl 1 rfl) ?_
    have hpo : (v12_at.toInt ≤ x1.toInt ∧ x1.toInt ≤ v12_ends.toInt) ∧ (v12_opened.toInt ≤ x3.toInt ∧ x3.toInt ≤ 6 ∧ (0 ≤ x2.toInt ∨ x3.toInt = v12_opened.toInt)) ∧ (v12_fault.toInt < 0 ∨ 0 ≤ x2.toInt) := ⟨(by omega), (by omega), (by omega)⟩
    exact ret _ _ _ _ x4 (x1, x2, x3) dX12_compared_36 hpo hP hD hS
  have c12 := ci_nle c12
  refine lv_iload_n hx hb dX12_compared_17 rfl (lv_at hl 0 rfl) ?_
  refine lv_bipush (v := 60) hx hb dX12_compared_18 (by decide) ?_
  refine lv_icmp_eq (tgt := 37) hx hb dX12_compared_20 (by decide) (fun c13 => ?_) (fun c13 => ?_)
  · have c13 := ci_eq c13
    refine lv_aload_n hx hb dX12_compared_37 rfl (lv_at hl 2 rfl) ?_
    refine lv_dup hx hb dX12_compared_38 rfl ?_
    refine va_get (D := D) (ci := 12) (v := .int x1) (C := RX12) (T := TX12) (N := 63) hx hb hts w1 hown hK.1 hP 0 rfl rfl 48 (by decide) w2 (fun _ h9 => h9) rfl dX12_compared_39 ?_
    refine lv_iconst (v := 1) hx hb dX12_compared_42 (by decide) ?_
    refine lv_iadd hx hb dX12_compared_43 ?_
    refine lv_topi (fun x14 e15 => ?_)
    try have h16 : x14.toInt = x1.toInt + (1 : Int32).toInt := ci_add e15 (by omega) (by omega)
    refine va_put (D := D) (ci := 12) (v := .int x14) (ty := .int) (C := RX12) (T := TX12) (N := 63) hx hb hts w1 tyX12 tyX12_ok nmX12 hown hK.1 hP hD hS 0 rfl rfl 48 (by decide) w2 (fun _ h9 => h9) rfl (by decide +kernel) rfl rfl (Nat.le_of_ble_eq_true rfl) dX12_compared_44 (fun H locs hP hD hS => ?_)
    obtain ⟨hP, hD⟩ : PD D A [O12 a12 r12 v12_keptMany v12_done v12_sheets v12_holes v12_worms v12_laidMany v12_wanted v12_orderMany v12_firstOrder v12_lines v12_marks v12_dots v12_madeIn v12_bound v12_places v12_maps v12_tapeMany v12_stories v12_base x14 v12_ends x2 x3 v12_bodies v12_ran v12_ownKind v12_ownNumber, (cI κ (r12 41) 120 f12_tape), (cI κ (r12 45) 720 f12_text), (cI κ (r12 52) 8 f12_names)] H := ⟨hP, hD⟩
    refine lv_aload_n hx hb dX12_compared_47 rfl (lv_at hl 2 rfl) ?_
    refine kcm_i hA hAB hP hD hS [true, true, true, true] rfl (fun _ => rfl) (fun hPc hDc => va_runV (As := []) (rest := []) ⟨hx, hb, hml, hown, hts⟩ (h_sums a12 r12 v12_keptMany v12_done v12_sheets v12_holes v12_worms v12_laidMany v12_wanted v12_orderMany v12_firstOrder v12_lines v12_marks v12_dots v12_madeIn v12_bound v12_places v12_maps v12_tapeMany v12_stories v12_base x14 v12_ends x2 x3 v12_bodies v12_ran v12_ownKind v12_ownNumber f12_tape f12_text f12_names H.size i1 i2 i3 i4 i5 i6 i7 i8 i9 i10 i11 i12 i13 i14 i15 i16 i17 (by omega) (by omega) (by omega)) (cwV 0 hts gX12_compared_X12_sums rfl rfl rfl (by decide +kernel) ⟨by dsimp only; omega, by dsimp only; omega⟩) (pk_V hK hS hAB hPc hDc 0 (ci := 12) rfl rfl rfl) rfl rfl hl.1 rfl (lv_room (Nat.le_of_ble_eq_true rfl)) dX12_compared_48 ⟨Nat.le_of_ble_eq_true rfl, Nat.le_of_ble_eq_true rfl⟩) (fun x20 u21 H locs hw hPD hS => ?_)
    obtain ⟨x17, x18, x19⟩ := u21
    obtain ⟨h22, h23, h24⟩ : (x14.toInt ≤ x17.toInt ∧ x17.toInt ≤ v12_ends.toInt) ∧ (x3.toInt ≤ x19.toInt ∧ x19.toInt ≤ 6 ∧ (0 ≤ x18.toInt ∨ x19.toInt = x3.toInt)) ∧ (x2.toInt < 0 ∨ 0 ≤ x18.toInt) := hw
    obtain ⟨hP, hD⟩ : PD D A [O12 a12 r12 v12_keptMany v12_done v12_sheets v12_holes v12_worms v12_laidMany v12_wanted v12_orderMany v12_firstOrder v12_lines v12_marks v12_dots v12_madeIn v12_bound v12_places v12_maps v12_tapeMany v12_stories v12_base x17 v12_ends x18 x19 v12_bodies v12_ran v12_ownKind v12_ownNumber, (cI κ (r12 41) 120 f12_tape), (cI κ (r12 45) 720 f12_text), (cI κ (r12 52) 8 f12_names)] H := hPD
    refine lv_istore_n (lv' := [(3, .int x20), (2, .int x9), (1, .int x4), (0, .ref a12)]) hx hb dX12_compared_51 rfl hl (by decide) rfl (fun ls hl => ?_)
    refine lv_iload_n hx hb dX12_compared_52 rfl (lv_at hl 1 rfl) ?_
    refine lv_bipush (v := 60) hx hb dX12_compared_53 (by decide) ?_
    refine lv_icmp_ne (tgt := 66) hx hb dX12_compared_55 (by decide) (fun c25 => ?_) (fun c25 => ?_)
    · have c25 := ci_ne c25
      refine lv_iload_n hx hb dX12_compared_66 rfl (lv_at hl 1 rfl) ?_
      refine lv_bipush (v := 61) hx hb dX12_compared_67 (by decide) ?_
      refine lv_icmp_ne (tgt := 80) hx hb dX12_compared_69 (by decide) (fun c26 => ?_) (fun c26 => ?_)
      · have c26 := ci_ne c26
        refine lv_iload_n hx hb dX12_compared_80 rfl (lv_at hl 2 rfl) ?_
        refine lv_iload_n hx hb dX12_compared_81 rfl (lv_at hl 0 rfl) ?_
        refine lv_icmp_le (tgt := 89) hx hb dX12_compared_82 (by decide) (fun c27 => ?_) (fun c27 => ?_)
        · have c27 := ci_le c27
          refine lv_iconst (v := 0) hx hb dX12_compared_89 (by decide) ?_
          have hpo : (v12_at.toInt ≤ x17.toInt ∧ x17.toInt ≤ v12_ends.toInt) ∧ (v12_opened.toInt ≤ x19.toInt ∧ x19.toInt ≤ 6 ∧ (0 ≤ x18.toInt ∨ x19.toInt = v12_opened.toInt)) ∧ (v12_fault.toInt < 0 ∨ 0 ≤ x18.toInt) := ⟨(by omega), (by omega), (by omega)⟩
          exact ret _ _ _ _ 0 (x17, x18, x19) dX12_compared_90 hpo hP hD hS
        have c27 := ci_nle c27
        refine lv_iconst (v := 1) hx hb dX12_compared_85 (by decide) ?_
        refine lv_goto (tgt := 90) hx hb dX12_compared_86 (by decide) ?_
        have hpo : (v12_at.toInt ≤ x17.toInt ∧ x17.toInt ≤ v12_ends.toInt) ∧ (v12_opened.toInt ≤ x19.toInt ∧ x19.toInt ≤ 6 ∧ (0 ≤ x18.toInt ∨ x19.toInt = v12_opened.toInt)) ∧ (v12_fault.toInt < 0 ∨ 0 ≤ x18.toInt) := ⟨(by omega), (by omega), (by omega)⟩
        exact ret _ _ _ _ 1 (x17, x18, x19) dX12_compared_90 hpo hP hD hS
      have c26 := ci_eq c26
      refine lv_iload_n hx hb dX12_compared_72 rfl (lv_at hl 2 rfl) ?_
      refine lv_iload_n hx hb dX12_compared_73 rfl (lv_at hl 0 rfl) ?_
      refine lv_icmp_ne (tgt := 89) hx hb dX12_compared_74 (by decide) (fun c28 => ?_) (fun c28 => ?_)
      · have c28 := ci_ne c28
        refine lv_iconst (v := 0) hx hb dX12_compared_89 (by decide) ?_
        have hpo : (v12_at.toInt ≤ x17.toInt ∧ x17.toInt ≤ v12_ends.toInt) ∧ (v12_opened.toInt ≤ x19.toInt ∧ x19.toInt ≤ 6 ∧ (0 ≤ x18.toInt ∨ x19.toInt = v12_opened.toInt)) ∧ (v12_fault.toInt < 0 ∨ 0 ≤ x18.toInt) := ⟨(by omega), (by omega), (by omega)⟩
        exact ret _ _ _ _ 0 (x17, x18, x19) dX12_compared_90 hpo hP hD hS
      have c28 := ci_eq c28
      refine lv_goto (tgt := 85) hx hb dX12_compared_77 (by decide) ?_
      refine lv_iconst (v := 1) hx hb dX12_compared_85 (by decide) ?_
      refine lv_goto (tgt := 90) hx hb dX12_compared_86 (by decide) ?_
      have hpo : (v12_at.toInt ≤ x17.toInt ∧ x17.toInt ≤ v12_ends.toInt) ∧ (v12_opened.toInt ≤ x19.toInt ∧ x19.toInt ≤ 6 ∧ (0 ≤ x18.toInt ∨ x19.toInt = v12_opened.toInt)) ∧ (v12_fault.toInt < 0 ∨ 0 ≤ x18.toInt) := ⟨(by omega), (by omega), (by omega)⟩
      exact ret _ _ _ _ 1 (x17, x18, x19) dX12_compared_90 hpo hP hD hS
    have c25 := ci_eq c25
    refine lv_iload_n hx hb dX12_compared_58 rfl (lv_at hl 2 rfl) ?_
    refine lv_iload_n hx hb dX12_compared_59 rfl (lv_at hl 0 rfl) ?_
    refine lv_icmp_ge (tgt := 89) hx hb dX12_compared_60 (by decide) (fun c29 => ?_) (fun c29 => ?_)
    · have c29 := ci_le c29
      refine lv_iconst (v := 0) hx hb dX12_compared_89 (by decide) ?_
      have hpo : (v12_at.toInt ≤ x17.toInt ∧ x17.toInt ≤ v12_ends.toInt) ∧ (v12_opened.toInt ≤ x19.toInt ∧ x19.toInt ≤ 6 ∧ (0 ≤ x18.toInt ∨ x19.toInt = v12_opened.toInt)) ∧ (v12_fault.toInt < 0 ∨ 0 ≤ x18.toInt) := ⟨(by omega), (by omega), (by omega)⟩
      exact ret _ _ _ _ 0 (x17, x18, x19) dX12_compared_90 hpo hP hD hS
    have c29 := ci_nle c29
    refine lv_goto (tgt := 85) hx hb dX12_compared_63 (by decide) ?_
    refine lv_iconst (v := 1) hx hb dX12_compared_85 (by decide) ?_
    refine lv_goto (tgt := 90) hx hb dX12_compared_86 (by decide) ?_
    have hpo : (v12_at.toInt ≤ x17.toInt ∧ x17.toInt ≤ v12_ends.toInt) ∧ (v12_opened.toInt ≤ x19.toInt ∧ x19.toInt ≤ 6 ∧ (0 ≤ x18.toInt ∨ x19.toInt = v12_opened.toInt)) ∧ (v12_fault.toInt < 0 ∨ 0 ≤ x18.toInt) := ⟨(by omega), (by omega), (by omega)⟩
    exact ret _ _ _ _ 1 (x17, x18, x19) dX12_compared_90 hpo hP hD hS
  have c13 := ci_ne c13
  refine lv_iload_n hx hb dX12_compared_23 rfl (lv_at hl 0 rfl) ?_
  refine lv_bipush (v := 61) hx hb dX12_compared_24 (by decide) ?_
  refine lv_icmp_eq (tgt := 37) hx hb dX12_compared_26 (by decide) (fun c30 => ?_) (fun c30 => ?_)
  · have c30 := ci_eq c30
    refine lv_aload_n hx hb dX12_compared_37 rfl (lv_at hl 2 rfl) ?_
    refine lv_dup hx hb dX12_compared_38 rfl ?_
    refine va_get (D := D) (ci := 12) (v := .int x1) (C := RX12) (T := TX12) (N := 63) hx hb hts w1 hown hK.1 hP 0 rfl rfl 48 (by decide) w2 (fun _ h9 => h9) rfl dX12_compared_39 ?_
    refine lv_iconst (v := 1) hx hb dX12_compared_42 (by decide) ?_
    refine lv_iadd hx hb dX12_compared_43 ?_
    refine lv_topi (fun x31 e32 => ?_)
    try have h33 : x31.toInt = x1.toInt + (1 : Int32).toInt := ci_add e32 (by omega) (by omega)
    refine va_put (D := D) (ci := 12) (v := .int x31) (ty := .int) (C := RX12) (T := TX12) (N := 63) hx hb hts w1 tyX12 tyX12_ok nmX12 hown hK.1 hP hD hS 0 rfl rfl 48 (by decide) w2 (fun _ h9 => h9) rfl (by decide +kernel) rfl rfl (Nat.le_of_ble_eq_true rfl) dX12_compared_44 (fun H locs hP hD hS => ?_)
    obtain ⟨hP, hD⟩ : PD D A [O12 a12 r12 v12_keptMany v12_done v12_sheets v12_holes v12_worms v12_laidMany v12_wanted v12_orderMany v12_firstOrder v12_lines v12_marks v12_dots v12_madeIn v12_bound v12_places v12_maps v12_tapeMany v12_stories v12_base x31 v12_ends x2 x3 v12_bodies v12_ran v12_ownKind v12_ownNumber, (cI κ (r12 41) 120 f12_tape), (cI κ (r12 45) 720 f12_text), (cI κ (r12 52) 8 f12_names)] H := ⟨hP, hD⟩
    refine lv_aload_n hx hb dX12_compared_47 rfl (lv_at hl 2 rfl) ?_
    refine kcm_i hA hAB hP hD hS [true, true, true, true] rfl (fun _ => rfl) (fun hPc hDc => va_runV (As := []) (rest := []) ⟨hx, hb, hml, hown, hts⟩ (h_sums a12 r12 v12_keptMany v12_done v12_sheets v12_holes v12_worms v12_laidMany v12_wanted v12_orderMany v12_firstOrder v12_lines v12_marks v12_dots v12_madeIn v12_bound v12_places v12_maps v12_tapeMany v12_stories v12_base x31 v12_ends x2 x3 v12_bodies v12_ran v12_ownKind v12_ownNumber f12_tape f12_text f12_names H.size i1 i2 i3 i4 i5 i6 i7 i8 i9 i10 i11 i12 i13 i14 i15 i16 i17 (by omega) (by omega) (by omega)) (cwV 0 hts gX12_compared_X12_sums rfl rfl rfl (by decide +kernel) ⟨by dsimp only; omega, by dsimp only; omega⟩) (pk_V hK hS hAB hPc hDc 0 (ci := 12) rfl rfl rfl) rfl rfl hl.1 rfl (lv_room (Nat.le_of_ble_eq_true rfl)) dX12_compared_48 ⟨Nat.le_of_ble_eq_true rfl, Nat.le_of_ble_eq_true rfl⟩) (fun x37 u38 H locs hw hPD hS => ?_)
    obtain ⟨x34, x35, x36⟩ := u38
    obtain ⟨h39, h40, h41⟩ : (x31.toInt ≤ x34.toInt ∧ x34.toInt ≤ v12_ends.toInt) ∧ (x3.toInt ≤ x36.toInt ∧ x36.toInt ≤ 6 ∧ (0 ≤ x35.toInt ∨ x36.toInt = x3.toInt)) ∧ (x2.toInt < 0 ∨ 0 ≤ x35.toInt) := hw
    obtain ⟨hP, hD⟩ : PD D A [O12 a12 r12 v12_keptMany v12_done v12_sheets v12_holes v12_worms v12_laidMany v12_wanted v12_orderMany v12_firstOrder v12_lines v12_marks v12_dots v12_madeIn v12_bound v12_places v12_maps v12_tapeMany v12_stories v12_base x34 v12_ends x35 x36 v12_bodies v12_ran v12_ownKind v12_ownNumber, (cI κ (r12 41) 120 f12_tape), (cI κ (r12 45) 720 f12_text), (cI κ (r12 52) 8 f12_names)] H := hPD
    refine lv_istore_n (lv' := [(3, .int x37), (2, .int x9), (1, .int x4), (0, .ref a12)]) hx hb dX12_compared_51 rfl hl (by decide) rfl (fun ls hl => ?_)
    refine lv_iload_n hx hb dX12_compared_52 rfl (lv_at hl 1 rfl) ?_
    refine lv_bipush (v := 60) hx hb dX12_compared_53 (by decide) ?_
    refine lv_icmp_ne (tgt := 66) hx hb dX12_compared_55 (by decide) (fun c42 => ?_) (fun c42 => ?_)
    · have c42 := ci_ne c42
      refine lv_iload_n hx hb dX12_compared_66 rfl (lv_at hl 1 rfl) ?_
      refine lv_bipush (v := 61) hx hb dX12_compared_67 (by decide) ?_
      refine lv_icmp_ne (tgt := 80) hx hb dX12_compared_69 (by decide) (fun c43 => ?_) (fun c43 => ?_)
      · have c43 := ci_ne c43
        refine lv_iload_n hx hb dX12_compared_80 rfl (lv_at hl 2 rfl) ?_
        refine lv_iload_n hx hb dX12_compared_81 rfl (lv_at hl 0 rfl) ?_
        refine lv_icmp_le (tgt := 89) hx hb dX12_compared_82 (by decide) (fun c44 => ?_) (fun c44 => ?_)
        · have c44 := ci_le c44
          refine lv_iconst (v := 0) hx hb dX12_compared_89 (by decide) ?_
          have hpo : (v12_at.toInt ≤ x34.toInt ∧ x34.toInt ≤ v12_ends.toInt) ∧ (v12_opened.toInt ≤ x36.toInt ∧ x36.toInt ≤ 6 ∧ (0 ≤ x35.toInt ∨ x36.toInt = v12_opened.toInt)) ∧ (v12_fault.toInt < 0 ∨ 0 ≤ x35.toInt) := ⟨(by omega), (by omega), (by omega)⟩
          exact ret _ _ _ _ 0 (x34, x35, x36) dX12_compared_90 hpo hP hD hS
        have c44 := ci_nle c44
        refine lv_iconst (v := 1) hx hb dX12_compared_85 (by decide) ?_
        refine lv_goto (tgt := 90) hx hb dX12_compared_86 (by decide) ?_
        have hpo : (v12_at.toInt ≤ x34.toInt ∧ x34.toInt ≤ v12_ends.toInt) ∧ (v12_opened.toInt ≤ x36.toInt ∧ x36.toInt ≤ 6 ∧ (0 ≤ x35.toInt ∨ x36.toInt = v12_opened.toInt)) ∧ (v12_fault.toInt < 0 ∨ 0 ≤ x35.toInt) := ⟨(by omega), (by omega), (by omega)⟩
        exact ret _ _ _ _ 1 (x34, x35, x36) dX12_compared_90 hpo hP hD hS
      have c43 := ci_eq c43
      refine lv_iload_n hx hb dX12_compared_72 rfl (lv_at hl 2 rfl) ?_
      refine lv_iload_n hx hb dX12_compared_73 rfl (lv_at hl 0 rfl) ?_
      refine lv_icmp_ne (tgt := 89) hx hb dX12_compared_74 (by decide) (fun c45 => ?_) (fun c45 => ?_)
      · have c45 := ci_ne c45
        refine lv_iconst (v := 0) hx hb dX12_compared_89 (by decide) ?_
        have hpo : (v12_at.toInt ≤ x34.toInt ∧ x34.toInt ≤ v12_ends.toInt) ∧ (v12_opened.toInt ≤ x36.toInt ∧ x36.toInt ≤ 6 ∧ (0 ≤ x35.toInt ∨ x36.toInt = v12_opened.toInt)) ∧ (v12_fault.toInt < 0 ∨ 0 ≤ x35.toInt) := ⟨(by omega), (by omega), (by omega)⟩
        exact ret _ _ _ _ 0 (x34, x35, x36) dX12_compared_90 hpo hP hD hS
      have c45 := ci_eq c45
      refine lv_goto (tgt := 85) hx hb dX12_compared_77 (by decide) ?_
      refine lv_iconst (v := 1) hx hb dX12_compared_85 (by decide) ?_
      refine lv_goto (tgt := 90) hx hb dX12_compared_86 (by decide) ?_
      have hpo : (v12_at.toInt ≤ x34.toInt ∧ x34.toInt ≤ v12_ends.toInt) ∧ (v12_opened.toInt ≤ x36.toInt ∧ x36.toInt ≤ 6 ∧ (0 ≤ x35.toInt ∨ x36.toInt = v12_opened.toInt)) ∧ (v12_fault.toInt < 0 ∨ 0 ≤ x35.toInt) := ⟨(by omega), (by omega), (by omega)⟩
      exact ret _ _ _ _ 1 (x34, x35, x36) dX12_compared_90 hpo hP hD hS
    have c42 := ci_eq c42
    refine lv_iload_n hx hb dX12_compared_58 rfl (lv_at hl 2 rfl) ?_
    refine lv_iload_n hx hb dX12_compared_59 rfl (lv_at hl 0 rfl) ?_
    refine lv_icmp_ge (tgt := 89) hx hb dX12_compared_60 (by decide) (fun c46 => ?_) (fun c46 => ?_)
    · have c46 := ci_le c46
      refine lv_iconst (v := 0) hx hb dX12_compared_89 (by decide) ?_
      have hpo : (v12_at.toInt ≤ x34.toInt ∧ x34.toInt ≤ v12_ends.toInt) ∧ (v12_opened.toInt ≤ x36.toInt ∧ x36.toInt ≤ 6 ∧ (0 ≤ x35.toInt ∨ x36.toInt = v12_opened.toInt)) ∧ (v12_fault.toInt < 0 ∨ 0 ≤ x35.toInt) := ⟨(by omega), (by omega), (by omega)⟩
      exact ret _ _ _ _ 0 (x34, x35, x36) dX12_compared_90 hpo hP hD hS
    have c46 := ci_nle c46
    refine lv_goto (tgt := 85) hx hb dX12_compared_63 (by decide) ?_
    refine lv_iconst (v := 1) hx hb dX12_compared_85 (by decide) ?_
    refine lv_goto (tgt := 90) hx hb dX12_compared_86 (by decide) ?_
    have hpo : (v12_at.toInt ≤ x34.toInt ∧ x34.toInt ≤ v12_ends.toInt) ∧ (v12_opened.toInt ≤ x36.toInt ∧ x36.toInt ≤ 6 ∧ (0 ≤ x35.toInt ∨ x36.toInt = v12_opened.toInt)) ∧ (v12_fault.toInt < 0 ∨ 0 ≤ x35.toInt) := ⟨(by omega), (by omega), (by omega)⟩
    exact ret _ _ _ _ 1 (x34, x35, x36) dX12_compared_90 hpo hP hD hS
  have c30 := ci_ne c30
  refine lv_iload_n hx hb dX12_compared_29 rfl (lv_at hl 0 rfl) ?_
  refine lv_bipush (v := 62) hx hb dX12_compared_30 (by decide) ?_
  refine lv_icmp_eq (tgt := 37) hx hb dX12_compared_32 (by decide) (fun c47 => ?_) (fun c47 => ?_)
  · have c47 := ci_eq c47
    refine lv_aload_n hx hb dX12_compared_37 rfl (lv_at hl 2 rfl) ?_
    refine lv_dup hx hb dX12_compared_38 rfl ?_
    refine va_get (D := D) (ci := 12) (v := .int x1) (C := RX12) (T := TX12) (N := 63) hx hb hts w1 hown hK.1 hP 0 rfl rfl 48 (by decide) w2 (fun _ h9 => h9) rfl dX12_compared_39 ?_
    refine lv_iconst (v := 1) hx hb dX12_compared_42 (by decide) ?_
    refine lv_iadd hx hb dX12_compared_43 ?_
    refine lv_topi (fun x48 e49 => ?_)
    try have h50 : x48.toInt = x1.toInt + (1 : Int32).toInt := ci_add e49 (by omega) (by omega)
    refine va_put (D := D) (ci := 12) (v := .int x48) (ty := .int) (C := RX12) (T := TX12) (N := 63) hx hb hts w1 tyX12 tyX12_ok nmX12 hown hK.1 hP hD hS 0 rfl rfl 48 (by decide) w2 (fun _ h9 => h9) rfl (by decide +kernel) rfl rfl (Nat.le_of_ble_eq_true rfl) dX12_compared_44 (fun H locs hP hD hS => ?_)
    obtain ⟨hP, hD⟩ : PD D A [O12 a12 r12 v12_keptMany v12_done v12_sheets v12_holes v12_worms v12_laidMany v12_wanted v12_orderMany v12_firstOrder v12_lines v12_marks v12_dots v12_madeIn v12_bound v12_places v12_maps v12_tapeMany v12_stories v12_base x48 v12_ends x2 x3 v12_bodies v12_ran v12_ownKind v12_ownNumber, (cI κ (r12 41) 120 f12_tape), (cI κ (r12 45) 720 f12_text), (cI κ (r12 52) 8 f12_names)] H := ⟨hP, hD⟩
    refine lv_aload_n hx hb dX12_compared_47 rfl (lv_at hl 2 rfl) ?_
    refine kcm_i hA hAB hP hD hS [true, true, true, true] rfl (fun _ => rfl) (fun hPc hDc => va_runV (As := []) (rest := []) ⟨hx, hb, hml, hown, hts⟩ (h_sums a12 r12 v12_keptMany v12_done v12_sheets v12_holes v12_worms v12_laidMany v12_wanted v12_orderMany v12_firstOrder v12_lines v12_marks v12_dots v12_madeIn v12_bound v12_places v12_maps v12_tapeMany v12_stories v12_base x48 v12_ends x2 x3 v12_bodies v12_ran v12_ownKind v12_ownNumber f12_tape f12_text f12_names H.size i1 i2 i3 i4 i5 i6 i7 i8 i9 i10 i11 i12 i13 i14 i15 i16 i17 (by omega) (by omega) (by omega)) (cwV 0 hts gX12_compared_X12_sums rfl rfl rfl (by decide +kernel) ⟨by dsimp only; omega, by dsimp only; omega⟩) (pk_V hK hS hAB hPc hDc 0 (ci := 12) rfl rfl rfl) rfl rfl hl.1 rfl (lv_room (Nat.le_of_ble_eq_true rfl)) dX12_compared_48 ⟨Nat.le_of_ble_eq_true rfl, Nat.le_of_ble_eq_true rfl⟩) (fun x54 u55 H locs hw hPD hS => ?_)
    obtain ⟨x51, x52, x53⟩ := u55
    obtain ⟨h56, h57, h58⟩ : (x48.toInt ≤ x51.toInt ∧ x51.toInt ≤ v12_ends.toInt) ∧ (x3.toInt ≤ x53.toInt ∧ x53.toInt ≤ 6 ∧ (0 ≤ x52.toInt ∨ x53.toInt = x3.toInt)) ∧ (x2.toInt < 0 ∨ 0 ≤ x52.toInt) := hw
    obtain ⟨hP, hD⟩ : PD D A [O12 a12 r12 v12_keptMany v12_done v12_sheets v12_holes v12_worms v12_laidMany v12_wanted v12_orderMany v12_firstOrder v12_lines v12_marks v12_dots v12_madeIn v12_bound v12_places v12_maps v12_tapeMany v12_stories v12_base x51 v12_ends x52 x53 v12_bodies v12_ran v12_ownKind v12_ownNumber, (cI κ (r12 41) 120 f12_tape), (cI κ (r12 45) 720 f12_text), (cI κ (r12 52) 8 f12_names)] H := hPD
    refine lv_istore_n (lv' := [(3, .int x54), (2, .int x9), (1, .int x4), (0, .ref a12)]) hx hb dX12_compared_51 rfl hl (by decide) rfl (fun ls hl => ?_)
    refine lv_iload_n hx hb dX12_compared_52 rfl (lv_at hl 1 rfl) ?_
    refine lv_bipush (v := 60) hx hb dX12_compared_53 (by decide) ?_
    refine lv_icmp_ne (tgt := 66) hx hb dX12_compared_55 (by decide) (fun c59 => ?_) (fun c59 => ?_)
    · have c59 := ci_ne c59
      refine lv_iload_n hx hb dX12_compared_66 rfl (lv_at hl 1 rfl) ?_
      refine lv_bipush (v := 61) hx hb dX12_compared_67 (by decide) ?_
      refine lv_icmp_ne (tgt := 80) hx hb dX12_compared_69 (by decide) (fun c60 => ?_) (fun c60 => ?_)
      · have c60 := ci_ne c60
        refine lv_iload_n hx hb dX12_compared_80 rfl (lv_at hl 2 rfl) ?_
        refine lv_iload_n hx hb dX12_compared_81 rfl (lv_at hl 0 rfl) ?_
        refine lv_icmp_le (tgt := 89) hx hb dX12_compared_82 (by decide) (fun c61 => ?_) (fun c61 => ?_)
        · have c61 := ci_le c61
          refine lv_iconst (v := 0) hx hb dX12_compared_89 (by decide) ?_
          have hpo : (v12_at.toInt ≤ x51.toInt ∧ x51.toInt ≤ v12_ends.toInt) ∧ (v12_opened.toInt ≤ x53.toInt ∧ x53.toInt ≤ 6 ∧ (0 ≤ x52.toInt ∨ x53.toInt = v12_opened.toInt)) ∧ (v12_fault.toInt < 0 ∨ 0 ≤ x52.toInt) := ⟨(by omega), (by omega), (by omega)⟩
          exact ret _ _ _ _ 0 (x51, x52, x53) dX12_compared_90 hpo hP hD hS
        have c61 := ci_nle c61
        refine lv_iconst (v := 1) hx hb dX12_compared_85 (by decide) ?_
        refine lv_goto (tgt := 90) hx hb dX12_compared_86 (by decide) ?_
        have hpo : (v12_at.toInt ≤ x51.toInt ∧ x51.toInt ≤ v12_ends.toInt) ∧ (v12_opened.toInt ≤ x53.toInt ∧ x53.toInt ≤ 6 ∧ (0 ≤ x52.toInt ∨ x53.toInt = v12_opened.toInt)) ∧ (v12_fault.toInt < 0 ∨ 0 ≤ x52.toInt) := ⟨(by omega), (by omega), (by omega)⟩
        exact ret _ _ _ _ 1 (x51, x52, x53) dX12_compared_90 hpo hP hD hS
      have c60 := ci_eq c60
      refine lv_iload_n hx hb dX12_compared_72 rfl (lv_at hl 2 rfl) ?_
      refine lv_iload_n hx hb dX12_compared_73 rfl (lv_at hl 0 rfl) ?_
      refine lv_icmp_ne (tgt := 89) hx hb dX12_compared_74 (by decide) (fun c62 => ?_) (fun c62 => ?_)
      · have c62 := ci_ne c62
        refine lv_iconst (v := 0) hx hb dX12_compared_89 (by decide) ?_
        have hpo : (v12_at.toInt ≤ x51.toInt ∧ x51.toInt ≤ v12_ends.toInt) ∧ (v12_opened.toInt ≤ x53.toInt ∧ x53.toInt ≤ 6 ∧ (0 ≤ x52.toInt ∨ x53.toInt = v12_opened.toInt)) ∧ (v12_fault.toInt < 0 ∨ 0 ≤ x52.toInt) := ⟨(by omega), (by omega), (by omega)⟩
        exact ret _ _ _ _ 0 (x51, x52, x53) dX12_compared_90 hpo hP hD hS
      have c62 := ci_eq c62
      refine lv_goto (tgt := 85) hx hb dX12_compared_77 (by decide) ?_
      refine lv_iconst (v := 1) hx hb dX12_compared_85 (by decide) ?_
      refine lv_goto (tgt := 90) hx hb dX12_compared_86 (by decide) ?_
      have hpo : (v12_at.toInt ≤ x51.toInt ∧ x51.toInt ≤ v12_ends.toInt) ∧ (v12_opened.toInt ≤ x53.toInt ∧ x53.toInt ≤ 6 ∧ (0 ≤ x52.toInt ∨ x53.toInt = v12_opened.toInt)) ∧ (v12_fault.toInt < 0 ∨ 0 ≤ x52.toInt) := ⟨(by omega), (by omega), (by omega)⟩
      exact ret _ _ _ _ 1 (x51, x52, x53) dX12_compared_90 hpo hP hD hS
    have c59 := ci_eq c59
    refine lv_iload_n hx hb dX12_compared_58 rfl (lv_at hl 2 rfl) ?_
    refine lv_iload_n hx hb dX12_compared_59 rfl (lv_at hl 0 rfl) ?_
    refine lv_icmp_ge (tgt := 89) hx hb dX12_compared_60 (by decide) (fun c63 => ?_) (fun c63 => ?_)
    · have c63 := ci_le c63
      refine lv_iconst (v := 0) hx hb dX12_compared_89 (by decide) ?_
      have hpo : (v12_at.toInt ≤ x51.toInt ∧ x51.toInt ≤ v12_ends.toInt) ∧ (v12_opened.toInt ≤ x53.toInt ∧ x53.toInt ≤ 6 ∧ (0 ≤ x52.toInt ∨ x53.toInt = v12_opened.toInt)) ∧ (v12_fault.toInt < 0 ∨ 0 ≤ x52.toInt) := ⟨(by omega), (by omega), (by omega)⟩
      exact ret _ _ _ _ 0 (x51, x52, x53) dX12_compared_90 hpo hP hD hS
    have c63 := ci_nle c63
    refine lv_goto (tgt := 85) hx hb dX12_compared_63 (by decide) ?_
    refine lv_iconst (v := 1) hx hb dX12_compared_85 (by decide) ?_
    refine lv_goto (tgt := 90) hx hb dX12_compared_86 (by decide) ?_
    have hpo : (v12_at.toInt ≤ x51.toInt ∧ x51.toInt ≤ v12_ends.toInt) ∧ (v12_opened.toInt ≤ x53.toInt ∧ x53.toInt ≤ 6 ∧ (0 ≤ x52.toInt ∨ x53.toInt = v12_opened.toInt)) ∧ (v12_fault.toInt < 0 ∨ 0 ≤ x52.toInt) := ⟨(by omega), (by omega), (by omega)⟩
    exact ret _ _ _ _ 1 (x51, x52, x53) dX12_compared_90 hpo hP hD hS
  have c47 := ci_ne c47
  refine lv_iload_n hx hb dX12_compared_35 rfl (lv_at hl 1 rfl) ?_
  have hpo : (v12_at.toInt ≤ x1.toInt ∧ x1.toInt ≤ v12_ends.toInt) ∧ (v12_opened.toInt ≤ x3.toInt ∧ x3.toInt ≤ 6 ∧ (0 ≤ x2.toInt ∨ x3.toInt = v12_opened.toInt)) ∧ (v12_fault.toInt < 0 ∨ 0 ≤ x2.toInt) := ⟨(by omega), (by omega), (by omega)⟩
  exact ret _ _ _ _ x4 (x1, x2, x3) dX12_compared_36 hpo hP hD hS
set_option maxHeartbeats 4000000 in
set_option maxRecDepth 100000 in
theorem of_X12_both (l : Launch) (D : va_G) (κ : Nat → ClassId) (β d : Nat) (h_compared : C_X12_compared l D κ β d) : C_X12_both l D κ β d := by
  intro a12 r12 v12_keptMany v12_done v12_sheets v12_holes v12_worms v12_laidMany v12_wanted v12_orderMany v12_firstOrder v12_lines v12_marks v12_dots v12_madeIn v12_bound v12_places v12_maps v12_tapeMany v12_stories v12_base v12_at v12_ends v12_fault v12_opened v12_bodies v12_ran v12_ownKind v12_ownNumber f12_tape f12_text f12_names sz i1 i2 i3 i4 i5 i6 i7 i8 i9 i10 i11 i12 i13 i14 i15 i16 i17 i18 i19 i20
  refine ofK_i (cc := cX12_both) (maxL := 3) (own := RX12) (by decide) rfl rfl (Nat.le_of_ble_eq_true rfl) ?_
  intro p e s m args below meth c Q A ls hsz hx hb hml hts hown hK hA hAB hP hD hl ret
  have hS : va_S A s.heap s.heap [] := va_S.rf
  have hl : lv_has ls 3 [(0, .ref a12)] := hl
  have l0 : (38 : Int32).toInt = 38 := by decide
  have l1 : (0 : Int32).toInt = 0 := by decide
  have l2 : (1 : Int32).toInt = 1 := by decide
  refine lv_aload_n hx hb dX12_both_0 rfl (lv_at hl 0 rfl) ?_
  refine kcm_i hA hAB hP hD hS [true, true, true, true] rfl (fun _ => rfl) (fun hPc hDc => va_runV (As := []) (rest := []) ⟨hx, hb, hml, hown, hts⟩ (h_compared a12 r12 v12_keptMany v12_done v12_sheets v12_holes v12_worms v12_laidMany v12_wanted v12_orderMany v12_firstOrder v12_lines v12_marks v12_dots v12_madeIn v12_bound v12_places v12_maps v12_tapeMany v12_stories v12_base v12_at v12_ends v12_fault v12_opened v12_bodies v12_ran v12_ownKind v12_ownNumber f12_tape f12_text f12_names s.heap.size i1 i2 i3 i4 i5 i6 i7 i8 i9 i10 i11 i12 i13 i14 i15 i16 i17 (by omega) (by omega) (by omega)) (cwV 0 hts gX12_both_X12_compared rfl rfl rfl (by decide +kernel) ⟨by dsimp only; omega, by dsimp only; omega⟩) (pk_V hK hS hAB hPc hDc 0 (ci := 12) rfl rfl rfl) rfl rfl hl.1 rfl (lv_room (Nat.le_of_ble_eq_true rfl)) dX12_both_1 ⟨Nat.le_of_ble_eq_true rfl, Nat.le_of_ble_eq_true rfl⟩) (fun x4 u5 H locs hw hPD hS => ?_)
  obtain ⟨x1, x2, x3⟩ := u5
  obtain ⟨h6, h7, h8⟩ : (v12_at.toInt ≤ x1.toInt ∧ x1.toInt ≤ v12_ends.toInt) ∧ (v12_opened.toInt ≤ x3.toInt ∧ x3.toInt ≤ 6 ∧ (0 ≤ x2.toInt ∨ x3.toInt = v12_opened.toInt)) ∧ (v12_fault.toInt < 0 ∨ 0 ≤ x2.toInt) := hw
  obtain ⟨hP, hD⟩ : PD D A [O12 a12 r12 v12_keptMany v12_done v12_sheets v12_holes v12_worms v12_laidMany v12_wanted v12_orderMany v12_firstOrder v12_lines v12_marks v12_dots v12_madeIn v12_bound v12_places v12_maps v12_tapeMany v12_stories v12_base x1 v12_ends x2 x3 v12_bodies v12_ran v12_ownKind v12_ownNumber, (cI κ (r12 41) 120 f12_tape), (cI κ (r12 45) 720 f12_text), (cI κ (r12 52) 8 f12_names)] H := hPD
  refine lv_istore_n (lv' := [(1, .int x4), (0, .ref a12)]) hx hb dX12_both_4 rfl hl (by decide) rfl (fun ls hl => ?_)
  have lp5 : ∀ (n5 : Nat) (k9 : Int32) (v10 : Int32) (v11 : Int32) (v12 : Int32), (v12_at.toInt ≤ v10.toInt ∧ v10.toInt ≤ v12_ends.toInt) → (v12_opened.toInt ≤ v12.toInt ∧ v12.toInt ≤ 6 ∧ (0 ≤ v11.toInt ∨ v12.toInt = v12_opened.toInt)) → (v12_fault.toInt < 0 ∨ 0 ≤ v11.toInt) → (v12_ends.toInt - v10.toInt).toNat < n5 → ∀ (H : Heap) (locs : List Loc), va_P D vwCl [O12 a12 r12 v12_keptMany v12_done v12_sheets v12_holes v12_worms v12_laidMany v12_wanted v12_orderMany v12_firstOrder v12_lines v12_marks v12_dots v12_madeIn v12_bound v12_places v12_maps v12_tapeMany v12_stories v12_base v10 v12_ends v11 v12 v12_bodies v12_ran v12_ownKind v12_ownNumber, (cI κ (r12 41) 120 f12_tape), (cI κ (r12 45) 720 f12_text), (cI κ (r12 52) 8 f12_names)] H → va_D A [O12 a12 r12 v12_keptMany v12_done v12_sheets v12_holes v12_worms v12_laidMany v12_wanted v12_orderMany v12_firstOrder v12_lines v12_marks v12_dots v12_madeIn v12_bound v12_places v12_maps v12_tapeMany v12_stories v12_base v10 v12_ends v11 v12 v12_bodies v12_ran v12_ownKind v12_ownNumber, (cI κ (r12 41) 120 f12_tape), (cI κ (r12 45) 720 f12_text), (cI κ (r12 52) 8 f12_names)] → va_S A s.heap H locs → ∀ ls : Array Slot, lv_has ls 3 [(1, .int k9), (0, .ref a12)] → W p l e ({ frames := 6 * d + 6, cells := 0, slots := 0, locals := 137 * d + 153 } : Room) s m args below meth c H locs 0 0 Q (F0 m 5 ls []) := by
    intro n5
    induction n5 with
    | zero =>
      intro k9 v10 v11 v12 h13 h14 h15 m16
      exact absurd m16 (Nat.not_lt_zero _)
    | succ n5 ih5 =>
      intro k9 v10 v11 v12 h13 h14 h15 m16 H locs hP hD hS ls hl
      refine lv_aload_n hx hb dX12_both_5 rfl (lv_at hl 1 rfl) ?_
      refine lv_bipush (v := 38) hx hb dX12_both_6 (by decide) ?_
      refine kcm_i hA hAB hP hD hS [true, true, true, false] rfl (fun _ => rfl) (fun hPc hDc => va_runV (As := [.int 38]) (rest := []) ⟨hx, hb, hml, hown, hts⟩ (k_X12_takes l D κ β a12 r12 v12_keptMany v12_done v12_sheets v12_holes v12_worms v12_laidMany v12_wanted v12_orderMany v12_firstOrder v12_lines v12_marks v12_dots v12_madeIn v12_bound v12_places v12_maps v12_tapeMany v12_stories v12_base v10 v12_ends v11 v12 v12_bodies v12_ran v12_ownKind v12_ownNumber f12_tape f12_text H.size 38 i1 i2 i3 i4 i5 i6 i7 i8 i9 i10 i11 i12 i13 i14 i15 i16 i17 (by omega) (by omega)) (cwV 1 hts gX12_both_X12_takes rfl rfl rfl (by decide +kernel) ⟨by dsimp only; omega, by dsimp only; omega⟩) (pk_V hK hS hAB hPc hDc 0 (ci := 12) rfl rfl rfl) rfl rfl hl.1 rfl (lv_room (Nat.le_of_ble_eq_true rfl)) dX12_both_8 ⟨Nat.le_of_ble_eq_true rfl, Nat.le_of_ble_eq_true rfl⟩) (fun x18 x17 H locs hw hPD hS => ?_)
      have h19 : (x18.toInt = 1 ∧ v11.toInt < 0 ∧ v10.toInt < v12_ends.toInt ∧ x17.toInt = v10.toInt + 1) ∨ (x18.toInt = 0 ∧ x17.toInt = v10.toInt) := hw
      obtain ⟨hP, hD⟩ : PD D A [O12 a12 r12 v12_keptMany v12_done v12_sheets v12_holes v12_worms v12_laidMany v12_wanted v12_orderMany v12_firstOrder v12_lines v12_marks v12_dots v12_madeIn v12_bound v12_places v12_maps v12_tapeMany v12_stories v12_base x17 v12_ends v11 v12 v12_bodies v12_ran v12_ownKind v12_ownNumber, (cI κ (r12 41) 120 f12_tape), (cI κ (r12 45) 720 f12_text), (cI κ (r12 52) 8 f12_names)] H := hPD
      refine lv_if_eq (tgt := 36) hx hb dX12_both_11 (by decide) (fun c20 => ?_) (fun c20 => ?_)
      · have c20 := ci_eq c20
        refine lv_iload_n hx hb dX12_both_36 rfl (lv_at hl 0 rfl) ?_
        have hpo : (v12_at.toInt ≤ x17.toInt ∧ x17.toInt ≤ v12_ends.toInt) ∧ (v12_opened.toInt ≤ v12.toInt ∧ v12.toInt ≤ 6 ∧ (0 ≤ v11.toInt ∨ v12.toInt = v12_opened.toInt)) ∧ (v12_fault.toInt < 0 ∨ 0 ≤ v11.toInt) := ⟨(by omega), (by omega), (by omega)⟩
        exact ret _ _ _ _ k9 (x17, v11, v12) dX12_both_37 hpo hP hD hS
      have c20 := ci_ne c20
      refine lv_aload_n hx hb dX12_both_14 rfl (lv_at hl 1 rfl) ?_
      refine kcm_i hA hAB hP hD hS [true, true, true, true] rfl (fun _ => rfl) (fun hPc hDc => va_runV (As := []) (rest := []) ⟨hx, hb, hml, hown, hts⟩ (h_compared a12 r12 v12_keptMany v12_done v12_sheets v12_holes v12_worms v12_laidMany v12_wanted v12_orderMany v12_firstOrder v12_lines v12_marks v12_dots v12_madeIn v12_bound v12_places v12_maps v12_tapeMany v12_stories v12_base x17 v12_ends v11 v12 v12_bodies v12_ran v12_ownKind v12_ownNumber f12_tape f12_text f12_names H.size i1 i2 i3 i4 i5 i6 i7 i8 i9 i10 i11 i12 i13 i14 i15 i16 i17 (by omega) (by omega) (by omega)) (cwV 0 hts gX12_both_X12_compared rfl rfl rfl (by decide +kernel) ⟨by dsimp only; omega, by dsimp only; omega⟩) (pk_V hK hS hAB hPc hDc 0 (ci := 12) rfl rfl rfl) rfl rfl hl.1 rfl (lv_room (Nat.le_of_ble_eq_true rfl)) dX12_both_15 ⟨Nat.le_of_ble_eq_true rfl, Nat.le_of_ble_eq_true rfl⟩) (fun x24 u25 H locs hw hPD hS => ?_)
      obtain ⟨x21, x22, x23⟩ := u25
      obtain ⟨h26, h27, h28⟩ : (x17.toInt ≤ x21.toInt ∧ x21.toInt ≤ v12_ends.toInt) ∧ (v12.toInt ≤ x23.toInt ∧ x23.toInt ≤ 6 ∧ (0 ≤ x22.toInt ∨ x23.toInt = v12.toInt)) ∧ (v11.toInt < 0 ∨ 0 ≤ x22.toInt) := hw
      obtain ⟨hP, hD⟩ : PD D A [O12 a12 r12 v12_keptMany v12_done v12_sheets v12_holes v12_worms v12_laidMany v12_wanted v12_orderMany v12_firstOrder v12_lines v12_marks v12_dots v12_madeIn v12_bound v12_places v12_maps v12_tapeMany v12_stories v12_base x21 v12_ends x22 x23 v12_bodies v12_ran v12_ownKind v12_ownNumber, (cI κ (r12 41) 120 f12_tape), (cI κ (r12 45) 720 f12_text), (cI κ (r12 52) 8 f12_names)] H := hPD
      refine lv_istore_n (lv' := [(2, .int x24), (1, .int k9), (0, .ref a12)]) hx hb dX12_both_18 rfl hl (by decide) rfl (fun ls hl => ?_)
      refine lv_iload_n hx hb dX12_both_19 rfl (lv_at hl 1 rfl) ?_
      refine lv_if_eq (tgt := 31) hx hb dX12_both_20 (by decide) (fun c29 => ?_) (fun c29 => ?_)
      · have c29 := ci_eq c29
        refine lv_iconst (v := 0) hx hb dX12_both_31 (by decide) ?_
        refine lv_istore_n (lv' := [(1, .int 0), (2, .int x24), (0, .ref a12)]) hx hb dX12_both_32 rfl hl (by decide) rfl (fun ls hl => ?_)
        refine lv_goto (tgt := 5) hx hb dX12_both_33 (by decide) ?_
        exact ih5 0 x21 x22 x23 (by omega) (by omega) (by omega) (by omega) _ _ hP hD hS _ (lv_sub hl [0, 2] rfl)
      have c29 := ci_ne c29
      refine lv_iload_n hx hb dX12_both_23 rfl (lv_at hl 0 rfl) ?_
      refine lv_if_eq (tgt := 31) hx hb dX12_both_24 (by decide) (fun c30 => ?_) (fun c30 => ?_)
      · have c30 := ci_eq c30
        refine lv_iconst (v := 0) hx hb dX12_both_31 (by decide) ?_
        refine lv_istore_n (lv' := [(1, .int 0), (2, .int x24), (0, .ref a12)]) hx hb dX12_both_32 rfl hl (by decide) rfl (fun ls hl => ?_)
        refine lv_goto (tgt := 5) hx hb dX12_both_33 (by decide) ?_
        exact ih5 0 x21 x22 x23 (by omega) (by omega) (by omega) (by omega) _ _ hP hD hS _ (lv_sub hl [0, 2] rfl)
      have c30 := ci_ne c30
      refine lv_iconst (v := 1) hx hb dX12_both_27 (by decide) ?_
      refine lv_goto (tgt := 32) hx hb dX12_both_28 (by decide) ?_
      refine lv_istore_n (lv' := [(1, .int 1), (2, .int x24), (0, .ref a12)]) hx hb dX12_both_32 rfl hl (by decide) rfl (fun ls hl => ?_)
      refine lv_goto (tgt := 5) hx hb dX12_both_33 (by decide) ?_
      exact ih5 1 x21 x22 x23 (by omega) (by omega) (by omega) (by omega) _ _ hP hD hS _ (lv_sub hl [0, 2] rfl)
  exact lp5 ((v12_ends.toInt - x1.toInt).toNat + 1) x4 x1 x2 x3 (by omega) (by omega) (by omega) (by omega) _ _ hP hD hS _ hl
set_option maxHeartbeats 4000000 in
set_option maxRecDepth 100000 in
theorem of_X12_either (l : Launch) (D : va_G) (κ : Nat → ClassId) (β d : Nat) (h_both : C_X12_both l D κ β d) : C_X12_either l D κ β d := by
  intro a12 r12 v12_keptMany v12_done v12_sheets v12_holes v12_worms v12_laidMany v12_wanted v12_orderMany v12_firstOrder v12_lines v12_marks v12_dots v12_madeIn v12_bound v12_places v12_maps v12_tapeMany v12_stories v12_base v12_at v12_ends v12_fault v12_opened v12_bodies v12_ran v12_ownKind v12_ownNumber f12_tape f12_text f12_names sz i1 i2 i3 i4 i5 i6 i7 i8 i9 i10 i11 i12 i13 i14 i15 i16 i17 i18 i19 i20
  refine ofK_i (cc := cX12_either) (maxL := 3) (own := RX12) (by decide) rfl rfl (Nat.le_of_ble_eq_true rfl) ?_
  intro p e s m args below meth c Q A ls hsz hx hb hml hts hown hK hA hAB hP hD hl ret
  have hS : va_S A s.heap s.heap [] := va_S.rf
  have hl : lv_has ls 3 [(0, .ref a12)] := hl
  have l0 : (124 : Int32).toInt = 124 := by decide
  have l1 : (0 : Int32).toInt = 0 := by decide
  have l2 : (1 : Int32).toInt = 1 := by decide
  refine lv_aload_n hx hb dX12_either_0 rfl (lv_at hl 0 rfl) ?_
  refine kcm_i hA hAB hP hD hS [true, true, true, true] rfl (fun _ => rfl) (fun hPc hDc => va_runV (As := []) (rest := []) ⟨hx, hb, hml, hown, hts⟩ (h_both a12 r12 v12_keptMany v12_done v12_sheets v12_holes v12_worms v12_laidMany v12_wanted v12_orderMany v12_firstOrder v12_lines v12_marks v12_dots v12_madeIn v12_bound v12_places v12_maps v12_tapeMany v12_stories v12_base v12_at v12_ends v12_fault v12_opened v12_bodies v12_ran v12_ownKind v12_ownNumber f12_tape f12_text f12_names s.heap.size i1 i2 i3 i4 i5 i6 i7 i8 i9 i10 i11 i12 i13 i14 i15 i16 i17 (by omega) (by omega) (by omega)) (cwV 0 hts gX12_either_X12_both rfl rfl rfl (by decide +kernel) ⟨by dsimp only; omega, by dsimp only; omega⟩) (pk_V hK hS hAB hPc hDc 0 (ci := 12) rfl rfl rfl) rfl rfl hl.1 rfl (lv_room (Nat.le_of_ble_eq_true rfl)) dX12_either_1 ⟨Nat.le_of_ble_eq_true rfl, Nat.le_of_ble_eq_true rfl⟩) (fun x4 u5 H locs hw hPD hS => ?_)
  obtain ⟨x1, x2, x3⟩ := u5
  obtain ⟨h6, h7, h8⟩ : (v12_at.toInt ≤ x1.toInt ∧ x1.toInt ≤ v12_ends.toInt) ∧ (v12_opened.toInt ≤ x3.toInt ∧ x3.toInt ≤ 6 ∧ (0 ≤ x2.toInt ∨ x3.toInt = v12_opened.toInt)) ∧ (v12_fault.toInt < 0 ∨ 0 ≤ x2.toInt) := hw
  obtain ⟨hP, hD⟩ : PD D A [O12 a12 r12 v12_keptMany v12_done v12_sheets v12_holes v12_worms v12_laidMany v12_wanted v12_orderMany v12_firstOrder v12_lines v12_marks v12_dots v12_madeIn v12_bound v12_places v12_maps v12_tapeMany v12_stories v12_base x1 v12_ends x2 x3 v12_bodies v12_ran v12_ownKind v12_ownNumber, (cI κ (r12 41) 120 f12_tape), (cI κ (r12 45) 720 f12_text), (cI κ (r12 52) 8 f12_names)] H := hPD
  refine lv_istore_n (lv' := [(1, .int x4), (0, .ref a12)]) hx hb dX12_either_4 rfl hl (by decide) rfl (fun ls hl => ?_)
  have lp5 : ∀ (n5 : Nat) (k9 : Int32) (v10 : Int32) (v11 : Int32) (v12 : Int32), (v12_at.toInt ≤ v10.toInt ∧ v10.toInt ≤ v12_ends.toInt) → (v12_opened.toInt ≤ v12.toInt ∧ v12.toInt ≤ 6 ∧ (0 ≤ v11.toInt ∨ v12.toInt = v12_opened.toInt)) → (v12_fault.toInt < 0 ∨ 0 ≤ v11.toInt) → (v12_ends.toInt - v10.toInt).toNat < n5 → ∀ (H : Heap) (locs : List Loc), va_P D vwCl [O12 a12 r12 v12_keptMany v12_done v12_sheets v12_holes v12_worms v12_laidMany v12_wanted v12_orderMany v12_firstOrder v12_lines v12_marks v12_dots v12_madeIn v12_bound v12_places v12_maps v12_tapeMany v12_stories v12_base v10 v12_ends v11 v12 v12_bodies v12_ran v12_ownKind v12_ownNumber, (cI κ (r12 41) 120 f12_tape), (cI κ (r12 45) 720 f12_text), (cI κ (r12 52) 8 f12_names)] H → va_D A [O12 a12 r12 v12_keptMany v12_done v12_sheets v12_holes v12_worms v12_laidMany v12_wanted v12_orderMany v12_firstOrder v12_lines v12_marks v12_dots v12_madeIn v12_bound v12_places v12_maps v12_tapeMany v12_stories v12_base v10 v12_ends v11 v12 v12_bodies v12_ran v12_ownKind v12_ownNumber, (cI κ (r12 41) 120 f12_tape), (cI κ (r12 45) 720 f12_text), (cI κ (r12 52) 8 f12_names)] → va_S A s.heap H locs → ∀ ls : Array Slot, lv_has ls 3 [(1, .int k9), (0, .ref a12)] → W p l e ({ frames := 6 * d + 7, cells := 0, slots := 0, locals := 137 * d + 175 } : Room) s m args below meth c H locs 0 0 Q (F0 m 5 ls []) := by
    intro n5
    induction n5 with
    | zero =>
      intro k9 v10 v11 v12 h13 h14 h15 m16
      exact absurd m16 (Nat.not_lt_zero _)
    | succ n5 ih5 =>
      intro k9 v10 v11 v12 h13 h14 h15 m16 H locs hP hD hS ls hl
      refine lv_aload_n hx hb dX12_either_5 rfl (lv_at hl 1 rfl) ?_
      refine lv_bipush (v := 124) hx hb dX12_either_6 (by decide) ?_
      refine kcm_i hA hAB hP hD hS [true, true, true, false] rfl (fun _ => rfl) (fun hPc hDc => va_runV (As := [.int 124]) (rest := []) ⟨hx, hb, hml, hown, hts⟩ (k_X12_takes l D κ β a12 r12 v12_keptMany v12_done v12_sheets v12_holes v12_worms v12_laidMany v12_wanted v12_orderMany v12_firstOrder v12_lines v12_marks v12_dots v12_madeIn v12_bound v12_places v12_maps v12_tapeMany v12_stories v12_base v10 v12_ends v11 v12 v12_bodies v12_ran v12_ownKind v12_ownNumber f12_tape f12_text H.size 124 i1 i2 i3 i4 i5 i6 i7 i8 i9 i10 i11 i12 i13 i14 i15 i16 i17 (by omega) (by omega)) (cwV 1 hts gX12_either_X12_takes rfl rfl rfl (by decide +kernel) ⟨by dsimp only; omega, by dsimp only; omega⟩) (pk_V hK hS hAB hPc hDc 0 (ci := 12) rfl rfl rfl) rfl rfl hl.1 rfl (lv_room (Nat.le_of_ble_eq_true rfl)) dX12_either_8 ⟨Nat.le_of_ble_eq_true rfl, Nat.le_of_ble_eq_true rfl⟩) (fun x18 x17 H locs hw hPD hS => ?_)
      have h19 : (x18.toInt = 1 ∧ v11.toInt < 0 ∧ v10.toInt < v12_ends.toInt ∧ x17.toInt = v10.toInt + 1) ∨ (x18.toInt = 0 ∧ x17.toInt = v10.toInt) := hw
      obtain ⟨hP, hD⟩ : PD D A [O12 a12 r12 v12_keptMany v12_done v12_sheets v12_holes v12_worms v12_laidMany v12_wanted v12_orderMany v12_firstOrder v12_lines v12_marks v12_dots v12_madeIn v12_bound v12_places v12_maps v12_tapeMany v12_stories v12_base x17 v12_ends v11 v12 v12_bodies v12_ran v12_ownKind v12_ownNumber, (cI κ (r12 41) 120 f12_tape), (cI κ (r12 45) 720 f12_text), (cI κ (r12 52) 8 f12_names)] H := hPD
      refine lv_if_eq (tgt := 36) hx hb dX12_either_11 (by decide) (fun c20 => ?_) (fun c20 => ?_)
      · have c20 := ci_eq c20
        refine lv_iload_n hx hb dX12_either_36 rfl (lv_at hl 0 rfl) ?_
        have hpo : (v12_at.toInt ≤ x17.toInt ∧ x17.toInt ≤ v12_ends.toInt) ∧ (v12_opened.toInt ≤ v12.toInt ∧ v12.toInt ≤ 6 ∧ (0 ≤ v11.toInt ∨ v12.toInt = v12_opened.toInt)) ∧ (v12_fault.toInt < 0 ∨ 0 ≤ v11.toInt) := ⟨(by omega), (by omega), (by omega)⟩
        exact ret _ _ _ _ k9 (x17, v11, v12) dX12_either_37 hpo hP hD hS
      have c20 := ci_ne c20
      refine lv_aload_n hx hb dX12_either_14 rfl (lv_at hl 1 rfl) ?_
      refine kcm_i hA hAB hP hD hS [true, true, true, true] rfl (fun _ => rfl) (fun hPc hDc => va_runV (As := []) (rest := []) ⟨hx, hb, hml, hown, hts⟩ (h_both a12 r12 v12_keptMany v12_done v12_sheets v12_holes v12_worms v12_laidMany v12_wanted v12_orderMany v12_firstOrder v12_lines v12_marks v12_dots v12_madeIn v12_bound v12_places v12_maps v12_tapeMany v12_stories v12_base x17 v12_ends v11 v12 v12_bodies v12_ran v12_ownKind v12_ownNumber f12_tape f12_text f12_names H.size i1 i2 i3 i4 i5 i6 i7 i8 i9 i10 i11 i12 i13 i14 i15 i16 i17 (by omega) (by omega) (by omega)) (cwV 0 hts gX12_either_X12_both rfl rfl rfl (by decide +kernel) ⟨by dsimp only; omega, by dsimp only; omega⟩) (pk_V hK hS hAB hPc hDc 0 (ci := 12) rfl rfl rfl) rfl rfl hl.1 rfl (lv_room (Nat.le_of_ble_eq_true rfl)) dX12_either_15 ⟨Nat.le_of_ble_eq_true rfl, Nat.le_of_ble_eq_true rfl⟩) (fun x24 u25 H locs hw hPD hS => ?_)
      obtain ⟨x21, x22, x23⟩ := u25
      obtain ⟨h26, h27, h28⟩ : (x17.toInt ≤ x21.toInt ∧ x21.toInt ≤ v12_ends.toInt) ∧ (v12.toInt ≤ x23.toInt ∧ x23.toInt ≤ 6 ∧ (0 ≤ x22.toInt ∨ x23.toInt = v12.toInt)) ∧ (v11.toInt < 0 ∨ 0 ≤ x22.toInt) := hw
      obtain ⟨hP, hD⟩ : PD D A [O12 a12 r12 v12_keptMany v12_done v12_sheets v12_holes v12_worms v12_laidMany v12_wanted v12_orderMany v12_firstOrder v12_lines v12_marks v12_dots v12_madeIn v12_bound v12_places v12_maps v12_tapeMany v12_stories v12_base x21 v12_ends x22 x23 v12_bodies v12_ran v12_ownKind v12_ownNumber, (cI κ (r12 41) 120 f12_tape), (cI κ (r12 45) 720 f12_text), (cI κ (r12 52) 8 f12_names)] H := hPD
      refine lv_istore_n (lv' := [(2, .int x24), (1, .int k9), (0, .ref a12)]) hx hb dX12_either_18 rfl hl (by decide) rfl (fun ls hl => ?_)
      refine lv_iload_n hx hb dX12_either_19 rfl (lv_at hl 1 rfl) ?_
      refine lv_if_ne (tgt := 27) hx hb dX12_either_20 (by decide) (fun c29 => ?_) (fun c29 => ?_)
      · have c29 := ci_ne c29
        refine lv_iconst (v := 1) hx hb dX12_either_27 (by decide) ?_
        refine lv_goto (tgt := 32) hx hb dX12_either_28 (by decide) ?_
        refine lv_istore_n (lv' := [(1, .int 1), (2, .int x24), (0, .ref a12)]) hx hb dX12_either_32 rfl hl (by decide) rfl (fun ls hl => ?_)
        refine lv_goto (tgt := 5) hx hb dX12_either_33 (by decide) ?_
        exact ih5 1 x21 x22 x23 (by omega) (by omega) (by omega) (by omega) _ _ hP hD hS _ (lv_sub hl [0, 2] rfl)
      have c29 := ci_eq c29
      refine lv_iload_n hx hb dX12_either_23 rfl (lv_at hl 0 rfl) ?_
      refine lv_if_eq (tgt := 31) hx hb dX12_either_24 (by decide) (fun c30 => ?_) (fun c30 => ?_)
      · have c30 := ci_eq c30
        refine lv_iconst (v := 0) hx hb dX12_either_31 (by decide) ?_
        refine lv_istore_n (lv' := [(1, .int 0), (2, .int x24), (0, .ref a12)]) hx hb dX12_either_32 rfl hl (by decide) rfl (fun ls hl => ?_)
        refine lv_goto (tgt := 5) hx hb dX12_either_33 (by decide) ?_
        exact ih5 0 x21 x22 x23 (by omega) (by omega) (by omega) (by omega) _ _ hP hD hS _ (lv_sub hl [0, 2] rfl)
      have c30 := ci_ne c30
      refine lv_iconst (v := 1) hx hb dX12_either_27 (by decide) ?_
      refine lv_goto (tgt := 32) hx hb dX12_either_28 (by decide) ?_
      refine lv_istore_n (lv' := [(1, .int 1), (2, .int x24), (0, .ref a12)]) hx hb dX12_either_32 rfl hl (by decide) rfl (fun ls hl => ?_)
      refine lv_goto (tgt := 5) hx hb dX12_either_33 (by decide) ?_
      exact ih5 1 x21 x22 x23 (by omega) (by omega) (by omega) (by omega) _ _ hP hD hS _ (lv_sub hl [0, 2] rfl)
  exact lp5 ((v12_ends.toInt - x1.toInt).toNat + 1) x4 x1 x2 x3 (by omega) (by omega) (by omega) (by omega) _ _ hP hD hS _ hl
set_option maxHeartbeats 4000000 in
set_option maxRecDepth 100000 in
theorem of_X12_one (l : Launch) (D : va_G) (κ : Nat → ClassId) (β d : Nat) (h_one : C_X12_one l D κ β d) (h_either : C_X12_either l D κ β d) : C_X12_one l D κ β (d + 1) := by
  intro a12 r12 v12_keptMany v12_done v12_sheets v12_holes v12_worms v12_laidMany v12_wanted v12_orderMany v12_firstOrder v12_lines v12_marks v12_dots v12_madeIn v12_bound v12_places v12_maps v12_tapeMany v12_stories v12_base v12_at v12_ends v12_fault v12_opened v12_bodies v12_ran v12_ownKind v12_ownNumber f12_tape f12_text f12_names sz i1 i2 i3 i4 i5 i6 i7 i8 i9 i10 i11 i12 i13 i14 i15 i16 i17 i18 i19 i20
  refine ofK_i (cc := cX12_one) (maxL := 5) (own := RX12) (by decide) rfl rfl (Nat.le_of_ble_eq_true rfl) ?_
  intro p e s m args below meth c Q A ls hsz hx hb hml hts hown hK hA hAB hP hD hl ret
  have hS : va_S A s.heap s.heap [] := va_S.rf
  have hl : lv_has ls 5 [(0, .ref a12)] := hl
  have w0 := hts (.fieldLink RX12 306 "OlderSkinModel" "fault" "I") (List.mem_of_getElem? (i := 1) rfl)
  have w1 := (fun w h => List.mem_cons_of_mem _ (List.mem_append_right _ h) : ∀ w ∈ u_ws RX12 TX12 63, w ∈ wsX12_one)
  have w2 := hts (.fieldLink RX12 330 "OlderSkinModel" "opened" "I") (List.mem_of_getElem? (i := 2) rfl)
  have w3 := hts (.fieldLink RX12 297 "OlderSkinModel" "at" "I") (List.mem_of_getElem? (i := 3) rfl)
  have w4 := hts (.fieldLink RX12 98 "OlderSkinModel" "names" "[I") (List.mem_of_getElem? (i := 4) rfl)
  have l0 : (0 : Int32).toInt = 0 := by decide
  have l1 : (6 : Int32).toInt = 6 := by decide
  have l2 : (1 : Int32).toInt = 1 := by decide
  have l3 : (40 : Int32).toInt = 40 := by decide
  have l4 : (45 : Int32).toInt = 45 := by decide
  have l5 : (41 : Int32).toInt = 41 := by decide
  have l6 : (33 : Int32).toInt = 33 := by decide
  have l7 : (4 : Int32).toInt = 4 := by decide
  have l8 : (48 : Int32).toInt = 48 := by decide
  have l9 : (57 : Int32).toInt = 57 := by decide
  have l10 : (10 : Int32).toInt = 10 := by decide
  refine lv_aload_n hx hb dX12_one_0 rfl (lv_at hl 0 rfl) ?_
  refine va_get (D := D) (ci := 12) (v := .int v12_fault) (C := RX12) (T := TX12) (N := 63) hx hb hts w1 hown hK.1 hP 0 rfl rfl 50 (by decide) w0 (fun _ h9 => h9) rfl dX12_one_1 ?_
  refine lv_if_lt (tgt := 9) hx hb dX12_one_4 (by decide) (fun c1 => ?_) (fun c1 => ?_)
  · have c1 := ci_lt c1
    refine lv_aload_n hx hb dX12_one_9 rfl (lv_at hl 0 rfl) ?_
    refine kcm_i hA hAB hP hD hS [true, true, true, false] rfl (fun _ => rfl) (fun hPc hDc => va_runV (As := []) (rest := []) ⟨hx, hb, hml, hown, hts⟩ (k_X12_byteAt l D κ β a12 r12 v12_keptMany v12_done v12_sheets v12_holes v12_worms v12_laidMany v12_wanted v12_orderMany v12_firstOrder v12_lines v12_marks v12_dots v12_madeIn v12_bound v12_places v12_maps v12_tapeMany v12_stories v12_base v12_at v12_ends v12_fault v12_opened v12_bodies v12_ran v12_ownKind v12_ownNumber f12_tape f12_text s.heap.size i1 i2 i3 i4 i5 i6 i7 i8 i9 i10 i11 i12 i13 i14 i15 i16 i17 (by omega)) (cwV 0 hts gX12_one_X12_byteAt rfl rfl rfl (by decide +kernel) ⟨by dsimp only; omega, by dsimp only; omega⟩) (pk_V hK hS hAB hPc hDc 0 (ci := 12) rfl rfl rfl) rfl rfl hl.1 rfl (lv_room (Nat.le_of_ble_eq_true rfl)) dX12_one_10 ⟨Nat.le_of_ble_eq_true rfl, Nat.le_of_ble_eq_true rfl⟩) (fun x2 u3 H locs hw hPD hS => ?_)
    have h4 : x2.toInt = 0 ∨ v12_at.toInt < v12_ends.toInt := hw
    obtain ⟨hP, hD⟩ : PD D A [O12 a12 r12 v12_keptMany v12_done v12_sheets v12_holes v12_worms v12_laidMany v12_wanted v12_orderMany v12_firstOrder v12_lines v12_marks v12_dots v12_madeIn v12_bound v12_places v12_maps v12_tapeMany v12_stories v12_base v12_at v12_ends v12_fault v12_opened v12_bodies v12_ran v12_ownKind v12_ownNumber, (cI κ (r12 41) 120 f12_tape), (cI κ (r12 45) 720 f12_text), (cI κ (r12 52) 8 f12_names)] H := hPD
    refine lv_istore_n (lv' := [(1, .int x2), (0, .ref a12)]) hx hb dX12_one_13 rfl hl (by decide) rfl (fun ls hl => ?_)
    have lp32 : (v12_at.toInt < v12_ends.toInt) → ∀ (H : Heap) (locs : List Loc), va_P D vwCl [O12 a12 r12 v12_keptMany v12_done v12_sheets v12_holes v12_worms v12_laidMany v12_wanted v12_orderMany v12_firstOrder v12_lines v12_marks v12_dots v12_madeIn v12_bound v12_places v12_maps v12_tapeMany v12_stories v12_base v12_at v12_ends v12_fault v12_opened v12_bodies v12_ran v12_ownKind v12_ownNumber, (cI κ (r12 41) 120 f12_tape), (cI κ (r12 45) 720 f12_text), (cI κ (r12 52) 8 f12_names)] H → va_D A [O12 a12 r12 v12_keptMany v12_done v12_sheets v12_holes v12_worms v12_laidMany v12_wanted v12_orderMany v12_firstOrder v12_lines v12_marks v12_dots v12_madeIn v12_bound v12_places v12_maps v12_tapeMany v12_stories v12_base v12_at v12_ends v12_fault v12_opened v12_bodies v12_ran v12_ownKind v12_ownNumber, (cI κ (r12 41) 120 f12_tape), (cI κ (r12 45) 720 f12_text), (cI κ (r12 52) 8 f12_names)] → va_S A s.heap H locs → ∀ ls : Array Slot, lv_has ls 5 [(1, .int x2), (0, .ref a12)] → W p l e ({ frames := 6 * (d + 1) + 2, cells := 0, slots := 0, locals := 137 * (d + 1) + 60 } : Room) s m args below meth c H locs 0 0 Q (F0 m 32 ls []) := by
      intro h5 H locs hP hD hS ls hl
      refine lv_aload_n hx hb dX12_one_32 rfl (lv_at hl 1 rfl) ?_
      refine va_get (D := D) (ci := 12) (v := .int v12_opened) (C := RX12) (T := TX12) (N := 63) hx hb hts w1 hown hK.1 hP 0 rfl rfl 51 (by decide) w2 (fun _ h9 => h9) rfl dX12_one_33 ?_
      refine lv_bipush (v := 6) hx hb dX12_one_36 (by decide) ?_
      refine lv_icmp_ne (tgt := 46) hx hb dX12_one_38 (by decide) (fun c6 => ?_) (fun c6 => ?_)
      · have c6 := ci_ne c6
        refine lv_aload_n hx hb dX12_one_46 rfl (lv_at hl 1 rfl) ?_
        refine lv_dup hx hb dX12_one_47 rfl ?_
        refine va_get (D := D) (ci := 12) (v := .int v12_opened) (C := RX12) (T := TX12) (N := 63) hx hb hts w1 hown hK.1 hP 0 rfl rfl 51 (by decide) w2 (fun _ h9 => h9) rfl dX12_one_48 ?_
        refine lv_iconst (v := 1) hx hb dX12_one_51 (by decide) ?_
        refine lv_iadd hx hb dX12_one_52 ?_
        refine lv_topi (fun x7 e8 => ?_)
        try have h9 : x7.toInt = v12_opened.toInt + (1 : Int32).toInt := ci_add e8 (by omega) (by omega)
        refine va_put (D := D) (ci := 12) (v := .int x7) (ty := .int) (C := RX12) (T := TX12) (N := 63) hx hb hts w1 tyX12 tyX12_ok nmX12 hown hK.1 hP hD hS 0 rfl rfl 51 (by decide) w2 (fun _ h9 => h9) rfl (by decide +kernel) rfl rfl (Nat.le_of_ble_eq_true rfl) dX12_one_53 (fun H locs hP hD hS => ?_)
        obtain ⟨hP, hD⟩ : PD D A [O12 a12 r12 v12_keptMany v12_done v12_sheets v12_holes v12_worms v12_laidMany v12_wanted v12_orderMany v12_firstOrder v12_lines v12_marks v12_dots v12_madeIn v12_bound v12_places v12_maps v12_tapeMany v12_stories v12_base v12_at v12_ends v12_fault x7 v12_bodies v12_ran v12_ownKind v12_ownNumber, (cI κ (r12 41) 120 f12_tape), (cI κ (r12 45) 720 f12_text), (cI κ (r12 52) 8 f12_names)] H := ⟨hP, hD⟩
        refine lv_aload_n hx hb dX12_one_56 rfl (lv_at hl 1 rfl) ?_
        refine lv_dup hx hb dX12_one_57 rfl ?_
        refine va_get (D := D) (ci := 12) (v := .int v12_at) (C := RX12) (T := TX12) (N := 63) hx hb hts w1 hown hK.1 hP 0 rfl rfl 48 (by decide) w3 (fun _ h9 => h9) rfl dX12_one_58 ?_
        refine lv_iconst (v := 1) hx hb dX12_one_61 (by decide) ?_
        refine lv_iadd hx hb dX12_one_62 ?_
        refine lv_topi (fun x10 e11 => ?_)
        try have h12 : x10.toInt = v12_at.toInt + (1 : Int32).toInt := ci_add e11 (by omega) (by omega)
        refine va_put (D := D) (ci := 12) (v := .int x10) (ty := .int) (C := RX12) (T := TX12) (N := 63) hx hb hts w1 tyX12 tyX12_ok nmX12 hown hK.1 hP hD hS 0 rfl rfl 48 (by decide) w3 (fun _ h9 => h9) rfl (by decide +kernel) rfl rfl (Nat.le_of_ble_eq_true rfl) dX12_one_63 (fun H locs hP hD hS => ?_)
        obtain ⟨hP, hD⟩ : PD D A [O12 a12 r12 v12_keptMany v12_done v12_sheets v12_holes v12_worms v12_laidMany v12_wanted v12_orderMany v12_firstOrder v12_lines v12_marks v12_dots v12_madeIn v12_bound v12_places v12_maps v12_tapeMany v12_stories v12_base x10 v12_ends v12_fault x7 v12_bodies v12_ran v12_ownKind v12_ownNumber, (cI κ (r12 41) 120 f12_tape), (cI κ (r12 45) 720 f12_text), (cI κ (r12 52) 8 f12_names)] H := ⟨hP, hD⟩
        refine lv_iload_n hx hb dX12_one_66 rfl (lv_at hl 0 rfl) ?_
        refine lv_bipush (v := 40) hx hb dX12_one_67 (by decide) ?_
        refine lv_icmp_ne (tgt := 79) hx hb dX12_one_69 (by decide) (fun c13 => ?_) (fun c13 => ?_)
        · have c13 := ci_ne c13
          refine lv_aload_n hx hb dX12_one_79 rfl (lv_at hl 1 rfl) ?_
          refine kcm_i hA hAB hP hD hS [true, true, true, true] rfl (fun _ => rfl) (fun hPc hDc => va_runV (As := []) (rest := []) ⟨hx, hb, hml, hown, hts⟩ (h_one a12 r12 v12_keptMany v12_done v12_sheets v12_holes v12_worms v12_laidMany v12_wanted v12_orderMany v12_firstOrder v12_lines v12_marks v12_dots v12_madeIn v12_bound v12_places v12_maps v12_tapeMany v12_stories v12_base x10 v12_ends v12_fault x7 v12_bodies v12_ran v12_ownKind v12_ownNumber f12_tape f12_text f12_names H.size i1 i2 i3 i4 i5 i6 i7 i8 i9 i10 i11 i12 i13 i14 i15 i16 i17 (by omega) (by omega) (by omega)) (cwV 0 hts gX12_one_X12_one rfl rfl rfl (by decide +kernel) ⟨by dsimp only; omega, by dsimp only; omega⟩) (pk_V hK hS hAB hPc hDc 0 (ci := 12) rfl rfl rfl) rfl rfl hl.1 rfl (lv_room (Nat.le_of_ble_eq_true rfl)) dX12_one_80 ⟨Nat.le_of_ble_eq_true rfl, Nat.le_of_ble_eq_true rfl⟩) (fun x17 u18 H locs hw hPD hS => ?_)
          obtain ⟨x14, x15, x16⟩ := u18
          obtain ⟨h19, h20, h21⟩ : (x10.toInt ≤ x14.toInt ∧ x14.toInt ≤ v12_ends.toInt) ∧ (x7.toInt ≤ x16.toInt ∧ x16.toInt ≤ 6 ∧ (0 ≤ x15.toInt ∨ x16.toInt = x7.toInt)) ∧ (v12_fault.toInt < 0 ∨ 0 ≤ x15.toInt) := hw
          obtain ⟨hP, hD⟩ : PD D A [O12 a12 r12 v12_keptMany v12_done v12_sheets v12_holes v12_worms v12_laidMany v12_wanted v12_orderMany v12_firstOrder v12_lines v12_marks v12_dots v12_madeIn v12_bound v12_places v12_maps v12_tapeMany v12_stories v12_base x14 v12_ends x15 x16 v12_bodies v12_ran v12_ownKind v12_ownNumber, (cI κ (r12 41) 120 f12_tape), (cI κ (r12 45) 720 f12_text), (cI κ (r12 52) 8 f12_names)] H := hPD
          refine lv_istore_n (lv' := [(2, .int x17), (1, .int x2), (0, .ref a12)]) hx hb dX12_one_83 rfl hl (by decide) rfl (fun ls hl => ?_)
          refine lv_iload_n hx hb dX12_one_84 rfl (lv_at hl 1 rfl) ?_
          refine lv_bipush (v := 40) hx hb dX12_one_85 (by decide) ?_
          refine lv_icmp_ne (tgt := 104) hx hb dX12_one_87 (by decide) (fun c22 => ?_) (fun c22 => ?_)
          · have c22 := ci_ne c22
            refine lv_aload_n hx hb dX12_one_104 rfl (lv_at hl 2 rfl) ?_
            refine lv_dup hx hb dX12_one_105 rfl ?_
            refine va_get (D := D) (ci := 12) (v := .int x16) (C := RX12) (T := TX12) (N := 63) hx hb hts w1 hown hK.1 hP 0 rfl rfl 51 (by decide) w2 (fun _ h9 => h9) rfl dX12_one_106 ?_
            refine lv_iconst (v := 1) hx hb dX12_one_109 (by decide) ?_
            refine lv_isub hx hb dX12_one_110 ?_
            refine lv_topi (fun x23 e24 => ?_)
            try have h25 : x23.toInt = x16.toInt - (1 : Int32).toInt := ci_sub e24 (by omega) (by omega)
            refine va_put (D := D) (ci := 12) (v := .int x23) (ty := .int) (C := RX12) (T := TX12) (N := 63) hx hb hts w1 tyX12 tyX12_ok nmX12 hown hK.1 hP hD hS 0 rfl rfl 51 (by decide) w2 (fun _ h9 => h9) rfl (by decide +kernel) rfl rfl (Nat.le_of_ble_eq_true rfl) dX12_one_111 (fun H locs hP hD hS => ?_)
            obtain ⟨hP, hD⟩ : PD D A [O12 a12 r12 v12_keptMany v12_done v12_sheets v12_holes v12_worms v12_laidMany v12_wanted v12_orderMany v12_firstOrder v12_lines v12_marks v12_dots v12_madeIn v12_bound v12_places v12_maps v12_tapeMany v12_stories v12_base x14 v12_ends x15 x23 v12_bodies v12_ran v12_ownKind v12_ownNumber, (cI κ (r12 41) 120 f12_tape), (cI κ (r12 45) 720 f12_text), (cI κ (r12 52) 8 f12_names)] H := ⟨hP, hD⟩
            refine lv_iload_n hx hb dX12_one_114 rfl (lv_at hl 1 rfl) ?_
            refine lv_bipush (v := 40) hx hb dX12_one_115 (by decide) ?_
            refine lv_icmp_ne (tgt := 124) hx hb dX12_one_117 (by decide) (fun c26 => ?_) (fun c26 => ?_)
            · have c26 := ci_ne c26
              refine lv_iload_n hx hb dX12_one_124 rfl (lv_at hl 1 rfl) ?_
              refine lv_bipush (v := 45) hx hb dX12_one_125 (by decide) ?_
              refine lv_icmp_ne (tgt := 135) hx hb dX12_one_127 (by decide) (fun c27 => ?_) (fun c27 => ?_)
              · have c27 := ci_ne c27
                refine lv_iload_n hx hb dX12_one_135 rfl (lv_at hl 0 rfl) ?_
                refine lv_if_ne (tgt := 143) hx hb dX12_one_136 (by decide) (fun c28 => ?_) (fun c28 => ?_)
                · have c28 := ci_ne c28
                  refine lv_iconst (v := 0) hx hb dX12_one_143 (by decide) ?_
                  have hpo : (v12_at.toInt ≤ x14.toInt ∧ x14.toInt ≤ v12_ends.toInt) ∧ (v12_opened.toInt ≤ x23.toInt ∧ x23.toInt ≤ 6 ∧ (0 ≤ x15.toInt ∨ x23.toInt = v12_opened.toInt)) ∧ (v12_fault.toInt < 0 ∨ 0 ≤ x15.toInt) := ⟨(by omega), (by omega), (by omega)⟩
                  exact ret _ _ _ _ 0 (x14, x15, x23) dX12_one_144 hpo hP hD hS
                have c28 := ci_eq c28
                refine lv_iconst (v := 1) hx hb dX12_one_139 (by decide) ?_
                refine lv_goto (tgt := 144) hx hb dX12_one_140 (by decide) ?_
                have hpo : (v12_at.toInt ≤ x14.toInt ∧ x14.toInt ≤ v12_ends.toInt) ∧ (v12_opened.toInt ≤ x23.toInt ∧ x23.toInt ≤ 6 ∧ (0 ≤ x15.toInt ∨ x23.toInt = v12_opened.toInt)) ∧ (v12_fault.toInt < 0 ∨ 0 ≤ x15.toInt) := ⟨(by omega), (by omega), (by omega)⟩
                exact ret _ _ _ _ 1 (x14, x15, x23) dX12_one_144 hpo hP hD hS
              have c27 := ci_eq c27
              refine lv_iload_n hx hb dX12_one_130 rfl (lv_at hl 0 rfl) ?_
              refine lv_ineg hx hb dX12_one_131 ?_
              refine lv_topi (fun x29 e30 => ?_)
              try have h31 : x29.toInt = -x17.toInt := ci_neg e30 (by omega)
              refine lv_goto (tgt := 144) hx hb dX12_one_132 (by decide) ?_
              have hpo : (v12_at.toInt ≤ x14.toInt ∧ x14.toInt ≤ v12_ends.toInt) ∧ (v12_opened.toInt ≤ x23.toInt ∧ x23.toInt ≤ 6 ∧ (0 ≤ x15.toInt ∨ x23.toInt = v12_opened.toInt)) ∧ (v12_fault.toInt < 0 ∨ 0 ≤ x15.toInt) := ⟨(by omega), (by omega), (by omega)⟩
              exact ret _ _ _ _ x29 (x14, x15, x23) dX12_one_144 hpo hP hD hS
            have c26 := ci_eq c26
            refine lv_iload_n hx hb dX12_one_120 rfl (lv_at hl 0 rfl) ?_
            refine lv_goto (tgt := 144) hx hb dX12_one_121 (by decide) ?_
            have hpo : (v12_at.toInt ≤ x14.toInt ∧ x14.toInt ≤ v12_ends.toInt) ∧ (v12_opened.toInt ≤ x23.toInt ∧ x23.toInt ≤ 6 ∧ (0 ≤ x15.toInt ∨ x23.toInt = v12_opened.toInt)) ∧ (v12_fault.toInt < 0 ∨ 0 ≤ x15.toInt) := ⟨(by omega), (by omega), (by omega)⟩
            exact ret _ _ _ _ x17 (x14, x15, x23) dX12_one_144 hpo hP hD hS
          have c22 := ci_eq c22
          refine lv_aload_n hx hb dX12_one_90 rfl (lv_at hl 2 rfl) ?_
          refine lv_bipush (v := 41) hx hb dX12_one_91 (by decide) ?_
          refine kcm_i hA hAB hP hD hS [true, true, true, false] rfl (fun _ => rfl) (fun hPc hDc => va_runV (As := [.int 41]) (rest := []) ⟨hx, hb, hml, hown, hts⟩ (k_X12_takes l D κ β a12 r12 v12_keptMany v12_done v12_sheets v12_holes v12_worms v12_laidMany v12_wanted v12_orderMany v12_firstOrder v12_lines v12_marks v12_dots v12_madeIn v12_bound v12_places v12_maps v12_tapeMany v12_stories v12_base x14 v12_ends x15 x16 v12_bodies v12_ran v12_ownKind v12_ownNumber f12_tape f12_text H.size 41 i1 i2 i3 i4 i5 i6 i7 i8 i9 i10 i11 i12 i13 i14 i15 i16 i17 (by omega) (by omega)) (cwV 1 hts gX12_one_X12_takes rfl rfl rfl (by decide +kernel) ⟨by dsimp only; omega, by dsimp only; omega⟩) (pk_V hK hS hAB hPc hDc 0 (ci := 12) rfl rfl rfl) rfl rfl hl.1 rfl (lv_room (Nat.le_of_ble_eq_true rfl)) dX12_one_93 ⟨Nat.le_of_ble_eq_true rfl, Nat.le_of_ble_eq_true rfl⟩) (fun x33 x32 H locs hw hPD hS => ?_)
          have h34 : (x33.toInt = 1 ∧ x15.toInt < 0 ∧ x14.toInt < v12_ends.toInt ∧ x32.toInt = x14.toInt + 1) ∨ (x33.toInt = 0 ∧ x32.toInt = x14.toInt) := hw
          obtain ⟨hP, hD⟩ : PD D A [O12 a12 r12 v12_keptMany v12_done v12_sheets v12_holes v12_worms v12_laidMany v12_wanted v12_orderMany v12_firstOrder v12_lines v12_marks v12_dots v12_madeIn v12_bound v12_places v12_maps v12_tapeMany v12_stories v12_base x32 v12_ends x15 x16 v12_bodies v12_ran v12_ownKind v12_ownNumber, (cI κ (r12 41) 120 f12_tape), (cI κ (r12 45) 720 f12_text), (cI κ (r12 52) 8 f12_names)] H := hPD
          refine lv_if_ne (tgt := 104) hx hb dX12_one_96 (by decide) (fun c35 => ?_) (fun c35 => ?_)
          · have c35 := ci_ne c35
            refine lv_aload_n hx hb dX12_one_104 rfl (lv_at hl 2 rfl) ?_
            refine lv_dup hx hb dX12_one_105 rfl ?_
            refine va_get (D := D) (ci := 12) (v := .int x16) (C := RX12) (T := TX12) (N := 63) hx hb hts w1 hown hK.1 hP 0 rfl rfl 51 (by decide) w2 (fun _ h9 => h9) rfl dX12_one_106 ?_
            refine lv_iconst (v := 1) hx hb dX12_one_109 (by decide) ?_
            refine lv_isub hx hb dX12_one_110 ?_
            refine lv_topi (fun x36 e37 => ?_)
            try have h38 : x36.toInt = x16.toInt - (1 : Int32).toInt := ci_sub e37 (by omega) (by omega)
            refine va_put (D := D) (ci := 12) (v := .int x36) (ty := .int) (C := RX12) (T := TX12) (N := 63) hx hb hts w1 tyX12 tyX12_ok nmX12 hown hK.1 hP hD hS 0 rfl rfl 51 (by decide) w2 (fun _ h9 => h9) rfl (by decide +kernel) rfl rfl (Nat.le_of_ble_eq_true rfl) dX12_one_111 (fun H locs hP hD hS => ?_)
            obtain ⟨hP, hD⟩ : PD D A [O12 a12 r12 v12_keptMany v12_done v12_sheets v12_holes v12_worms v12_laidMany v12_wanted v12_orderMany v12_firstOrder v12_lines v12_marks v12_dots v12_madeIn v12_bound v12_places v12_maps v12_tapeMany v12_stories v12_base x32 v12_ends x15 x36 v12_bodies v12_ran v12_ownKind v12_ownNumber, (cI κ (r12 41) 120 f12_tape), (cI κ (r12 45) 720 f12_text), (cI κ (r12 52) 8 f12_names)] H := ⟨hP, hD⟩
            refine lv_iload_n hx hb dX12_one_114 rfl (lv_at hl 1 rfl) ?_
            refine lv_bipush (v := 40) hx hb dX12_one_115 (by decide) ?_
            refine lv_icmp_ne (tgt := 124) hx hb dX12_one_117 (by decide) (fun c39 => ?_) (fun c39 => ?_)
            · have c39 := ci_ne c39
              refine lv_iload_n hx hb dX12_one_124 rfl (lv_at hl 1 rfl) ?_
              refine lv_bipush (v := 45) hx hb dX12_one_125 (by decide) ?_
              refine lv_icmp_ne (tgt := 135) hx hb dX12_one_127 (by decide) (fun c40 => ?_) (fun c40 => ?_)
              · have c40 := ci_ne c40
                refine lv_iload_n hx hb dX12_one_135 rfl (lv_at hl 0 rfl) ?_
                refine lv_if_ne (tgt := 143) hx hb dX12_one_136 (by decide) (fun c41 => ?_) (fun c41 => ?_)
                · have c41 := ci_ne c41
                  refine lv_iconst (v := 0) hx hb dX12_one_143 (by decide) ?_
                  have hpo : (v12_at.toInt ≤ x32.toInt ∧ x32.toInt ≤ v12_ends.toInt) ∧ (v12_opened.toInt ≤ x36.toInt ∧ x36.toInt ≤ 6 ∧ (0 ≤ x15.toInt ∨ x36.toInt = v12_opened.toInt)) ∧ (v12_fault.toInt < 0 ∨ 0 ≤ x15.toInt) := ⟨(by omega), (by omega), (by omega)⟩
                  exact ret _ _ _ _ 0 (x32, x15, x36) dX12_one_144 hpo hP hD hS
                have c41 := ci_eq c41
                refine lv_iconst (v := 1) hx hb dX12_one_139 (by decide) ?_
                refine lv_goto (tgt := 144) hx hb dX12_one_140 (by decide) ?_
                have hpo : (v12_at.toInt ≤ x32.toInt ∧ x32.toInt ≤ v12_ends.toInt) ∧ (v12_opened.toInt ≤ x36.toInt ∧ x36.toInt ≤ 6 ∧ (0 ≤ x15.toInt ∨ x36.toInt = v12_opened.toInt)) ∧ (v12_fault.toInt < 0 ∨ 0 ≤ x15.toInt) := ⟨(by omega), (by omega), (by omega)⟩
                exact ret _ _ _ _ 1 (x32, x15, x36) dX12_one_144 hpo hP hD hS
              have c40 := ci_eq c40
              refine lv_iload_n hx hb dX12_one_130 rfl (lv_at hl 0 rfl) ?_
              refine lv_ineg hx hb dX12_one_131 ?_
              refine lv_topi (fun x42 e43 => ?_)
              try have h44 : x42.toInt = -x17.toInt := ci_neg e43 (by omega)
              refine lv_goto (tgt := 144) hx hb dX12_one_132 (by decide) ?_
              have hpo : (v12_at.toInt ≤ x32.toInt ∧ x32.toInt ≤ v12_ends.toInt) ∧ (v12_opened.toInt ≤ x36.toInt ∧ x36.toInt ≤ 6 ∧ (0 ≤ x15.toInt ∨ x36.toInt = v12_opened.toInt)) ∧ (v12_fault.toInt < 0 ∨ 0 ≤ x15.toInt) := ⟨(by omega), (by omega), (by omega)⟩
              exact ret _ _ _ _ x42 (x32, x15, x36) dX12_one_144 hpo hP hD hS
            have c39 := ci_eq c39
            refine lv_iload_n hx hb dX12_one_120 rfl (lv_at hl 0 rfl) ?_
            refine lv_goto (tgt := 144) hx hb dX12_one_121 (by decide) ?_
            have hpo : (v12_at.toInt ≤ x32.toInt ∧ x32.toInt ≤ v12_ends.toInt) ∧ (v12_opened.toInt ≤ x36.toInt ∧ x36.toInt ≤ 6 ∧ (0 ≤ x15.toInt ∨ x36.toInt = v12_opened.toInt)) ∧ (v12_fault.toInt < 0 ∨ 0 ≤ x15.toInt) := ⟨(by omega), (by omega), (by omega)⟩
            exact ret _ _ _ _ x17 (x32, x15, x36) dX12_one_144 hpo hP hD hS
          have c35 := ci_eq c35
          refine lv_aload_n hx hb dX12_one_99 rfl (lv_at hl 2 rfl) ?_
          refine kcm_i hA hAB hP hD hS [true, false, false, false] rfl (fun _ => rfl) (fun hPc hDc => va_runV (As := []) (rest := []) ⟨hx, hb, hml, hown, hts⟩ (k_X12_wrong l D κ β a12 r12 v12_keptMany v12_done v12_sheets v12_holes v12_worms v12_laidMany v12_wanted v12_orderMany v12_firstOrder v12_lines v12_marks v12_dots v12_madeIn v12_bound v12_places v12_maps v12_tapeMany v12_stories v12_base x32 v12_ends x15 x16 v12_bodies v12_ran v12_ownKind v12_ownNumber H.size i1 i2 i3 i4 i5 i6 i7 i8 i9 i10 i11 i12 i13 i14 i15 i16 i17 (by omega)) (cwV 0 hts gX12_one_X12_wrong rfl rfl rfl (by decide +kernel) ⟨by dsimp only; omega, by dsimp only; omega⟩) (pk_V hK hS hAB hPc hDc 0 (ci := 12) rfl rfl rfl) rfl rfl hl.1 rfl (lv_room (Nat.le_of_ble_eq_true rfl)) dX12_one_100 ⟨Nat.le_of_ble_eq_true rfl, Nat.le_of_ble_eq_true rfl⟩) (fun x46 x45 H locs hw hPD hS => ?_)
          have h47 : 0 ≤ x45.toInt := hw
          obtain ⟨hP, hD⟩ : PD D A [O12 a12 r12 v12_keptMany v12_done v12_sheets v12_holes v12_worms v12_laidMany v12_wanted v12_orderMany v12_firstOrder v12_lines v12_marks v12_dots v12_madeIn v12_bound v12_places v12_maps v12_tapeMany v12_stories v12_base x32 v12_ends x45 x16 v12_bodies v12_ran v12_ownKind v12_ownNumber, (cI κ (r12 41) 120 f12_tape), (cI κ (r12 45) 720 f12_text), (cI κ (r12 52) 8 f12_names)] H := hPD
          have hpo : (v12_at.toInt ≤ x32.toInt ∧ x32.toInt ≤ v12_ends.toInt) ∧ (v12_opened.toInt ≤ x16.toInt ∧ x16.toInt ≤ 6 ∧ (0 ≤ x45.toInt ∨ x16.toInt = v12_opened.toInt)) ∧ (v12_fault.toInt < 0 ∨ 0 ≤ x45.toInt) := ⟨(by omega), (by omega), (by omega)⟩
          exact ret _ _ _ _ x46 (x32, x45, x16) dX12_one_103 hpo hP hD hS
        have c13 := ci_eq c13
        refine lv_aload_n hx hb dX12_one_72 rfl (lv_at hl 1 rfl) ?_
        refine kcm_i hA hAB hP hD hS [true, true, true, true] rfl (fun _ => rfl) (fun hPc hDc => va_runV (As := []) (rest := []) ⟨hx, hb, hml, hown, hts⟩ (h_either a12 r12 v12_keptMany v12_done v12_sheets v12_holes v12_worms v12_laidMany v12_wanted v12_orderMany v12_firstOrder v12_lines v12_marks v12_dots v12_madeIn v12_bound v12_places v12_maps v12_tapeMany v12_stories v12_base x10 v12_ends v12_fault x7 v12_bodies v12_ran v12_ownKind v12_ownNumber f12_tape f12_text f12_names H.size i1 i2 i3 i4 i5 i6 i7 i8 i9 i10 i11 i12 i13 i14 i15 i16 i17 (by omega) (by omega) (by omega)) (cwV 0 hts gX12_one_X12_either rfl rfl rfl (by decide +kernel) ⟨by dsimp only; omega, by dsimp only; omega⟩) (pk_V hK hS hAB hPc hDc 0 (ci := 12) rfl rfl rfl) rfl rfl hl.1 rfl (lv_room (Nat.le_of_ble_eq_true rfl)) dX12_one_73 ⟨Nat.le_of_ble_eq_true rfl, Nat.le_of_ble_eq_true rfl⟩) (fun x51 u52 H locs hw hPD hS => ?_)
        obtain ⟨x48, x49, x50⟩ := u52
        obtain ⟨h53, h54, h55⟩ : (x10.toInt ≤ x48.toInt ∧ x48.toInt ≤ v12_ends.toInt) ∧ (x7.toInt ≤ x50.toInt ∧ x50.toInt ≤ 6 ∧ (0 ≤ x49.toInt ∨ x50.toInt = x7.toInt)) ∧ (v12_fault.toInt < 0 ∨ 0 ≤ x49.toInt) := hw
        obtain ⟨hP, hD⟩ : PD D A [O12 a12 r12 v12_keptMany v12_done v12_sheets v12_holes v12_worms v12_laidMany v12_wanted v12_orderMany v12_firstOrder v12_lines v12_marks v12_dots v12_madeIn v12_bound v12_places v12_maps v12_tapeMany v12_stories v12_base x48 v12_ends x49 x50 v12_bodies v12_ran v12_ownKind v12_ownNumber, (cI κ (r12 41) 120 f12_tape), (cI κ (r12 45) 720 f12_text), (cI κ (r12 52) 8 f12_names)] H := hPD
        refine lv_goto (tgt := 83) hx hb dX12_one_76 (by decide) ?_
        refine lv_istore_n (lv' := [(2, .int x51), (1, .int x2), (0, .ref a12)]) hx hb dX12_one_83 rfl hl (by decide) rfl (fun ls hl => ?_)
        refine lv_iload_n hx hb dX12_one_84 rfl (lv_at hl 1 rfl) ?_
        refine lv_bipush (v := 40) hx hb dX12_one_85 (by decide) ?_
        refine lv_icmp_ne (tgt := 104) hx hb dX12_one_87 (by decide) (fun c56 => ?_) (fun c56 => ?_)
        · have c56 := ci_ne c56
          refine lv_aload_n hx hb dX12_one_104 rfl (lv_at hl 2 rfl) ?_
          refine lv_dup hx hb dX12_one_105 rfl ?_
          refine va_get (D := D) (ci := 12) (v := .int x50) (C := RX12) (T := TX12) (N := 63) hx hb hts w1 hown hK.1 hP 0 rfl rfl 51 (by decide) w2 (fun _ h9 => h9) rfl dX12_one_106 ?_
          refine lv_iconst (v := 1) hx hb dX12_one_109 (by decide) ?_
          refine lv_isub hx hb dX12_one_110 ?_
          refine lv_topi (fun x57 e58 => ?_)
          try have h59 : x57.toInt = x50.toInt - (1 : Int32).toInt := ci_sub e58 (by omega) (by omega)
          refine va_put (D := D) (ci := 12) (v := .int x57) (ty := .int) (C := RX12) (T := TX12) (N := 63) hx hb hts w1 tyX12 tyX12_ok nmX12 hown hK.1 hP hD hS 0 rfl rfl 51 (by decide) w2 (fun _ h9 => h9) rfl (by decide +kernel) rfl rfl (Nat.le_of_ble_eq_true rfl) dX12_one_111 (fun H locs hP hD hS => ?_)
          obtain ⟨hP, hD⟩ : PD D A [O12 a12 r12 v12_keptMany v12_done v12_sheets v12_holes v12_worms v12_laidMany v12_wanted v12_orderMany v12_firstOrder v12_lines v12_marks v12_dots v12_madeIn v12_bound v12_places v12_maps v12_tapeMany v12_stories v12_base x48 v12_ends x49 x57 v12_bodies v12_ran v12_ownKind v12_ownNumber, (cI κ (r12 41) 120 f12_tape), (cI κ (r12 45) 720 f12_text), (cI κ (r12 52) 8 f12_names)] H := ⟨hP, hD⟩
          refine lv_iload_n hx hb dX12_one_114 rfl (lv_at hl 1 rfl) ?_
          refine lv_bipush (v := 40) hx hb dX12_one_115 (by decide) ?_
          refine lv_icmp_ne (tgt := 124) hx hb dX12_one_117 (by decide) (fun c60 => ?_) (fun c60 => ?_)
          · have c60 := ci_ne c60
            refine lv_iload_n hx hb dX12_one_124 rfl (lv_at hl 1 rfl) ?_
            refine lv_bipush (v := 45) hx hb dX12_one_125 (by decide) ?_
            refine lv_icmp_ne (tgt := 135) hx hb dX12_one_127 (by decide) (fun c61 => ?_) (fun c61 => ?_)
            · have c61 := ci_ne c61
              refine lv_iload_n hx hb dX12_one_135 rfl (lv_at hl 0 rfl) ?_
              refine lv_if_ne (tgt := 143) hx hb dX12_one_136 (by decide) (fun c62 => ?_) (fun c62 => ?_)
              · have c62 := ci_ne c62
                refine lv_iconst (v := 0) hx hb dX12_one_143 (by decide) ?_
                have hpo : (v12_at.toInt ≤ x48.toInt ∧ x48.toInt ≤ v12_ends.toInt) ∧ (v12_opened.toInt ≤ x57.toInt ∧ x57.toInt ≤ 6 ∧ (0 ≤ x49.toInt ∨ x57.toInt = v12_opened.toInt)) ∧ (v12_fault.toInt < 0 ∨ 0 ≤ x49.toInt) := ⟨(by omega), (by omega), (by omega)⟩
                exact ret _ _ _ _ 0 (x48, x49, x57) dX12_one_144 hpo hP hD hS
              have c62 := ci_eq c62
              refine lv_iconst (v := 1) hx hb dX12_one_139 (by decide) ?_
              refine lv_goto (tgt := 144) hx hb dX12_one_140 (by decide) ?_
              have hpo : (v12_at.toInt ≤ x48.toInt ∧ x48.toInt ≤ v12_ends.toInt) ∧ (v12_opened.toInt ≤ x57.toInt ∧ x57.toInt ≤ 6 ∧ (0 ≤ x49.toInt ∨ x57.toInt = v12_opened.toInt)) ∧ (v12_fault.toInt < 0 ∨ 0 ≤ x49.toInt) := ⟨(by omega), (by omega), (by omega)⟩
              exact ret _ _ _ _ 1 (x48, x49, x57) dX12_one_144 hpo hP hD hS
            have c61 := ci_eq c61
            refine lv_iload_n hx hb dX12_one_130 rfl (lv_at hl 0 rfl) ?_
            refine lv_ineg hx hb dX12_one_131 ?_
            refine lv_topi (fun x63 e64 => ?_)
            try have h65 : x63.toInt = -x51.toInt := ci_neg e64 (by omega)
            refine lv_goto (tgt := 144) hx hb dX12_one_132 (by decide) ?_
            have hpo : (v12_at.toInt ≤ x48.toInt ∧ x48.toInt ≤ v12_ends.toInt) ∧ (v12_opened.toInt ≤ x57.toInt ∧ x57.toInt ≤ 6 ∧ (0 ≤ x49.toInt ∨ x57.toInt = v12_opened.toInt)) ∧ (v12_fault.toInt < 0 ∨ 0 ≤ x49.toInt) := ⟨(by omega), (by omega), (by omega)⟩
            exact ret _ _ _ _ x63 (x48, x49, x57) dX12_one_144 hpo hP hD hS
          have c60 := ci_eq c60
          refine lv_iload_n hx hb dX12_one_120 rfl (lv_at hl 0 rfl) ?_
          refine lv_goto (tgt := 144) hx hb dX12_one_121 (by decide) ?_
          have hpo : (v12_at.toInt ≤ x48.toInt ∧ x48.toInt ≤ v12_ends.toInt) ∧ (v12_opened.toInt ≤ x57.toInt ∧ x57.toInt ≤ 6 ∧ (0 ≤ x49.toInt ∨ x57.toInt = v12_opened.toInt)) ∧ (v12_fault.toInt < 0 ∨ 0 ≤ x49.toInt) := ⟨(by omega), (by omega), (by omega)⟩
          exact ret _ _ _ _ x51 (x48, x49, x57) dX12_one_144 hpo hP hD hS
        have c56 := ci_eq c56
        refine lv_aload_n hx hb dX12_one_90 rfl (lv_at hl 2 rfl) ?_
        refine lv_bipush (v := 41) hx hb dX12_one_91 (by decide) ?_
        refine kcm_i hA hAB hP hD hS [true, true, true, false] rfl (fun _ => rfl) (fun hPc hDc => va_runV (As := [.int 41]) (rest := []) ⟨hx, hb, hml, hown, hts⟩ (k_X12_takes l D κ β a12 r12 v12_keptMany v12_done v12_sheets v12_holes v12_worms v12_laidMany v12_wanted v12_orderMany v12_firstOrder v12_lines v12_marks v12_dots v12_madeIn v12_bound v12_places v12_maps v12_tapeMany v12_stories v12_base x48 v12_ends x49 x50 v12_bodies v12_ran v12_ownKind v12_ownNumber f12_tape f12_text H.size 41 i1 i2 i3 i4 i5 i6 i7 i8 i9 i10 i11 i12 i13 i14 i15 i16 i17 (by omega) (by omega)) (cwV 1 hts gX12_one_X12_takes rfl rfl rfl (by decide +kernel) ⟨by dsimp only; omega, by dsimp only; omega⟩) (pk_V hK hS hAB hPc hDc 0 (ci := 12) rfl rfl rfl) rfl rfl hl.1 rfl (lv_room (Nat.le_of_ble_eq_true rfl)) dX12_one_93 ⟨Nat.le_of_ble_eq_true rfl, Nat.le_of_ble_eq_true rfl⟩) (fun x67 x66 H locs hw hPD hS => ?_)
        have h68 : (x67.toInt = 1 ∧ x49.toInt < 0 ∧ x48.toInt < v12_ends.toInt ∧ x66.toInt = x48.toInt + 1) ∨ (x67.toInt = 0 ∧ x66.toInt = x48.toInt) := hw
        obtain ⟨hP, hD⟩ : PD D A [O12 a12 r12 v12_keptMany v12_done v12_sheets v12_holes v12_worms v12_laidMany v12_wanted v12_orderMany v12_firstOrder v12_lines v12_marks v12_dots v12_madeIn v12_bound v12_places v12_maps v12_tapeMany v12_stories v12_base x66 v12_ends x49 x50 v12_bodies v12_ran v12_ownKind v12_ownNumber, (cI κ (r12 41) 120 f12_tape), (cI κ (r12 45) 720 f12_text), (cI κ (r12 52) 8 f12_names)] H := hPD
        refine lv_if_ne (tgt := 104) hx hb dX12_one_96 (by decide) (fun c69 => ?_) (fun c69 => ?_)
        · have c69 := ci_ne c69
          refine lv_aload_n hx hb dX12_one_104 rfl (lv_at hl 2 rfl) ?_
          refine lv_dup hx hb dX12_one_105 rfl ?_
          refine va_get (D := D) (ci := 12) (v := .int x50) (C := RX12) (T := TX12) (N := 63) hx hb hts w1 hown hK.1 hP 0 rfl rfl 51 (by decide) w2 (fun _ h9 => h9) rfl dX12_one_106 ?_
          refine lv_iconst (v := 1) hx hb dX12_one_109 (by decide) ?_
          refine lv_isub hx hb dX12_one_110 ?_
          refine lv_topi (fun x70 e71 => ?_)
          try have h72 : x70.toInt = x50.toInt - (1 : Int32).toInt := ci_sub e71 (by omega) (by omega)
          refine va_put (D := D) (ci := 12) (v := .int x70) (ty := .int) (C := RX12) (T := TX12) (N := 63) hx hb hts w1 tyX12 tyX12_ok nmX12 hown hK.1 hP hD hS 0 rfl rfl 51 (by decide) w2 (fun _ h9 => h9) rfl (by decide +kernel) rfl rfl (Nat.le_of_ble_eq_true rfl) dX12_one_111 (fun H locs hP hD hS => ?_)
          obtain ⟨hP, hD⟩ : PD D A [O12 a12 r12 v12_keptMany v12_done v12_sheets v12_holes v12_worms v12_laidMany v12_wanted v12_orderMany v12_firstOrder v12_lines v12_marks v12_dots v12_madeIn v12_bound v12_places v12_maps v12_tapeMany v12_stories v12_base x66 v12_ends x49 x70 v12_bodies v12_ran v12_ownKind v12_ownNumber, (cI κ (r12 41) 120 f12_tape), (cI κ (r12 45) 720 f12_text), (cI κ (r12 52) 8 f12_names)] H := ⟨hP, hD⟩
          refine lv_iload_n hx hb dX12_one_114 rfl (lv_at hl 1 rfl) ?_
          refine lv_bipush (v := 40) hx hb dX12_one_115 (by decide) ?_
          refine lv_icmp_ne (tgt := 124) hx hb dX12_one_117 (by decide) (fun c73 => ?_) (fun c73 => ?_)
          · have c73 := ci_ne c73
            refine lv_iload_n hx hb dX12_one_124 rfl (lv_at hl 1 rfl) ?_
            refine lv_bipush (v := 45) hx hb dX12_one_125 (by decide) ?_
            refine lv_icmp_ne (tgt := 135) hx hb dX12_one_127 (by decide) (fun c74 => ?_) (fun c74 => ?_)
            · have c74 := ci_ne c74
              refine lv_iload_n hx hb dX12_one_135 rfl (lv_at hl 0 rfl) ?_
              refine lv_if_ne (tgt := 143) hx hb dX12_one_136 (by decide) (fun c75 => ?_) (fun c75 => ?_)
              · have c75 := ci_ne c75
                refine lv_iconst (v := 0) hx hb dX12_one_143 (by decide) ?_
                have hpo : (v12_at.toInt ≤ x66.toInt ∧ x66.toInt ≤ v12_ends.toInt) ∧ (v12_opened.toInt ≤ x70.toInt ∧ x70.toInt ≤ 6 ∧ (0 ≤ x49.toInt ∨ x70.toInt = v12_opened.toInt)) ∧ (v12_fault.toInt < 0 ∨ 0 ≤ x49.toInt) := ⟨(by omega), (by omega), (by omega)⟩
                exact ret _ _ _ _ 0 (x66, x49, x70) dX12_one_144 hpo hP hD hS
              have c75 := ci_eq c75
              refine lv_iconst (v := 1) hx hb dX12_one_139 (by decide) ?_
              refine lv_goto (tgt := 144) hx hb dX12_one_140 (by decide) ?_
              have hpo : (v12_at.toInt ≤ x66.toInt ∧ x66.toInt ≤ v12_ends.toInt) ∧ (v12_opened.toInt ≤ x70.toInt ∧ x70.toInt ≤ 6 ∧ (0 ≤ x49.toInt ∨ x70.toInt = v12_opened.toInt)) ∧ (v12_fault.toInt < 0 ∨ 0 ≤ x49.toInt) := ⟨(by omega), (by omega), (by omega)⟩
              exact ret _ _ _ _ 1 (x66, x49, x70) dX12_one_144 hpo hP hD hS
            have c74 := ci_eq c74
            refine lv_iload_n hx hb dX12_one_130 rfl (lv_at hl 0 rfl) ?_
            refine lv_ineg hx hb dX12_one_131 ?_
            refine lv_topi (fun x76 e77 => ?_)
            try have h78 : x76.toInt = -x51.toInt := ci_neg e77 (by omega)
            refine lv_goto (tgt := 144) hx hb dX12_one_132 (by decide) ?_
            have hpo : (v12_at.toInt ≤ x66.toInt ∧ x66.toInt ≤ v12_ends.toInt) ∧ (v12_opened.toInt ≤ x70.toInt ∧ x70.toInt ≤ 6 ∧ (0 ≤ x49.toInt ∨ x70.toInt = v12_opened.toInt)) ∧ (v12_fault.toInt < 0 ∨ 0 ≤ x49.toInt) := ⟨(by omega), (by omega), (by omega)⟩
            exact ret _ _ _ _ x76 (x66, x49, x70) dX12_one_144 hpo hP hD hS
          have c73 := ci_eq c73
          refine lv_iload_n hx hb dX12_one_120 rfl (lv_at hl 0 rfl) ?_
          refine lv_goto (tgt := 144) hx hb dX12_one_121 (by decide) ?_
          have hpo : (v12_at.toInt ≤ x66.toInt ∧ x66.toInt ≤ v12_ends.toInt) ∧ (v12_opened.toInt ≤ x70.toInt ∧ x70.toInt ≤ 6 ∧ (0 ≤ x49.toInt ∨ x70.toInt = v12_opened.toInt)) ∧ (v12_fault.toInt < 0 ∨ 0 ≤ x49.toInt) := ⟨(by omega), (by omega), (by omega)⟩
          exact ret _ _ _ _ x51 (x66, x49, x70) dX12_one_144 hpo hP hD hS
        have c69 := ci_eq c69
        refine lv_aload_n hx hb dX12_one_99 rfl (lv_at hl 2 rfl) ?_
        refine kcm_i hA hAB hP hD hS [true, false, false, false] rfl (fun _ => rfl) (fun hPc hDc => va_runV (As := []) (rest := []) ⟨hx, hb, hml, hown, hts⟩ (k_X12_wrong l D κ β a12 r12 v12_keptMany v12_done v12_sheets v12_holes v12_worms v12_laidMany v12_wanted v12_orderMany v12_firstOrder v12_lines v12_marks v12_dots v12_madeIn v12_bound v12_places v12_maps v12_tapeMany v12_stories v12_base x66 v12_ends x49 x50 v12_bodies v12_ran v12_ownKind v12_ownNumber H.size i1 i2 i3 i4 i5 i6 i7 i8 i9 i10 i11 i12 i13 i14 i15 i16 i17 (by omega)) (cwV 0 hts gX12_one_X12_wrong rfl rfl rfl (by decide +kernel) ⟨by dsimp only; omega, by dsimp only; omega⟩) (pk_V hK hS hAB hPc hDc 0 (ci := 12) rfl rfl rfl) rfl rfl hl.1 rfl (lv_room (Nat.le_of_ble_eq_true rfl)) dX12_one_100 ⟨Nat.le_of_ble_eq_true rfl, Nat.le_of_ble_eq_true rfl⟩) (fun x80 x79 H locs hw hPD hS => ?_)
        have h81 : 0 ≤ x79.toInt := hw
        obtain ⟨hP, hD⟩ : PD D A [O12 a12 r12 v12_keptMany v12_done v12_sheets v12_holes v12_worms v12_laidMany v12_wanted v12_orderMany v12_firstOrder v12_lines v12_marks v12_dots v12_madeIn v12_bound v12_places v12_maps v12_tapeMany v12_stories v12_base x66 v12_ends x79 x50 v12_bodies v12_ran v12_ownKind v12_ownNumber, (cI κ (r12 41) 120 f12_tape), (cI κ (r12 45) 720 f12_text), (cI κ (r12 52) 8 f12_names)] H := hPD
        have hpo : (v12_at.toInt ≤ x66.toInt ∧ x66.toInt ≤ v12_ends.toInt) ∧ (v12_opened.toInt ≤ x50.toInt ∧ x50.toInt ≤ 6 ∧ (0 ≤ x79.toInt ∨ x50.toInt = v12_opened.toInt)) ∧ (v12_fault.toInt < 0 ∨ 0 ≤ x79.toInt) := ⟨(by omega), (by omega), (by omega)⟩
        exact ret _ _ _ _ x80 (x66, x79, x50) dX12_one_103 hpo hP hD hS
      have c6 := ci_eq c6
      refine lv_aload_n hx hb dX12_one_41 rfl (lv_at hl 1 rfl) ?_
      refine kcm_i hA hAB hP hD hS [true, false, false, false] rfl (fun _ => rfl) (fun hPc hDc => va_runV (As := []) (rest := []) ⟨hx, hb, hml, hown, hts⟩ (k_X12_wrong l D κ β a12 r12 v12_keptMany v12_done v12_sheets v12_holes v12_worms v12_laidMany v12_wanted v12_orderMany v12_firstOrder v12_lines v12_marks v12_dots v12_madeIn v12_bound v12_places v12_maps v12_tapeMany v12_stories v12_base v12_at v12_ends v12_fault v12_opened v12_bodies v12_ran v12_ownKind v12_ownNumber H.size i1 i2 i3 i4 i5 i6 i7 i8 i9 i10 i11 i12 i13 i14 i15 i16 i17 (by omega)) (cwV 0 hts gX12_one_X12_wrong rfl rfl rfl (by decide +kernel) ⟨by dsimp only; omega, by dsimp only; omega⟩) (pk_V hK hS hAB hPc hDc 0 (ci := 12) rfl rfl rfl) rfl rfl hl.1 rfl (lv_room (Nat.le_of_ble_eq_true rfl)) dX12_one_42 ⟨Nat.le_of_ble_eq_true rfl, Nat.le_of_ble_eq_true rfl⟩) (fun x83 x82 H locs hw hPD hS => ?_)
      have h84 : 0 ≤ x82.toInt := hw
      obtain ⟨hP, hD⟩ : PD D A [O12 a12 r12 v12_keptMany v12_done v12_sheets v12_holes v12_worms v12_laidMany v12_wanted v12_orderMany v12_firstOrder v12_lines v12_marks v12_dots v12_madeIn v12_bound v12_places v12_maps v12_tapeMany v12_stories v12_base v12_at v12_ends x82 v12_opened v12_bodies v12_ran v12_ownKind v12_ownNumber, (cI κ (r12 41) 120 f12_tape), (cI κ (r12 45) 720 f12_text), (cI κ (r12 52) 8 f12_names)] H := hPD
      have hpo : (v12_at.toInt ≤ v12_at.toInt ∧ v12_at.toInt ≤ v12_ends.toInt) ∧ (v12_opened.toInt ≤ v12_opened.toInt ∧ v12_opened.toInt ≤ 6 ∧ (0 ≤ x82.toInt ∨ v12_opened.toInt = v12_opened.toInt)) ∧ (v12_fault.toInt < 0 ∨ 0 ≤ x82.toInt) := ⟨(by omega), (by omega), (by omega)⟩
      exact ret _ _ _ _ x83 (v12_at, x82, v12_opened) dX12_one_45 hpo hP hD hS
    refine lv_iload_n hx hb dX12_one_14 rfl (lv_at hl 0 rfl) ?_
    refine lv_bipush (v := 33) hx hb dX12_one_15 (by decide) ?_
    refine lv_icmp_eq (tgt := 32) hx hb dX12_one_17 (by decide) (fun c85 => ?_) (fun c85 => ?_)
    · have c85 := ci_eq c85
      exact lp32 (by omega) _ _ hP hD hS _ hl
    have c85 := ci_ne c85
    refine lv_iload_n hx hb dX12_one_20 rfl (lv_at hl 0 rfl) ?_
    refine lv_bipush (v := 45) hx hb dX12_one_21 (by decide) ?_
    refine lv_icmp_eq (tgt := 32) hx hb dX12_one_23 (by decide) (fun c86 => ?_) (fun c86 => ?_)
    · have c86 := ci_eq c86
      exact lp32 (by omega) _ _ hP hD hS _ hl
    have c86 := ci_ne c86
    refine lv_iload_n hx hb dX12_one_26 rfl (lv_at hl 0 rfl) ?_
    refine lv_bipush (v := 40) hx hb dX12_one_27 (by decide) ?_
    refine lv_icmp_ne (tgt := 145) hx hb dX12_one_29 (by decide) (fun c87 => ?_) (fun c87 => ?_)
    · have c87 := ci_ne c87
      refine lv_iload_n hx hb dX12_one_145 rfl (lv_at hl 0 rfl) ?_
      refine kcm_i hA hAB hP hD hS [false, false, false, false] rfl (fun _ => rfl) (fun hPc hDc => va_runS (As := [.int x2]) (rest := []) ⟨hx, hb, hml, hown, hts⟩ (k_X12_nameOf l D κ β H.size x2) (va_cwS 1 hts gX12_one_X12_nameOf rfl rfl rfl (by decide +kernel) ⟨by dsimp only; omega, by dsimp only; omega⟩) (pk_S hK hS hAB hPc hDc) rfl rfl hl.1 rfl (lv_room (Nat.le_of_ble_eq_true rfl)) dX12_one_146 ⟨Nat.le_of_ble_eq_true rfl, Nat.le_of_ble_eq_true rfl⟩) (fun x88 u89 H locs hw hPD hS => ?_)
      have h90 : x88.toInt = -1 ∨ (0 ≤ x88.toInt ∧ x88.toInt ≤ 7 ∧ x2.toInt ≠ 0) := hw
      obtain ⟨hP, hD⟩ : PD D A [O12 a12 r12 v12_keptMany v12_done v12_sheets v12_holes v12_worms v12_laidMany v12_wanted v12_orderMany v12_firstOrder v12_lines v12_marks v12_dots v12_madeIn v12_bound v12_places v12_maps v12_tapeMany v12_stories v12_base v12_at v12_ends v12_fault v12_opened v12_bodies v12_ran v12_ownKind v12_ownNumber, (cI κ (r12 41) 120 f12_tape), (cI κ (r12 45) 720 f12_text), (cI κ (r12 52) 8 f12_names)] H := hPD
      refine lv_istore_n (lv' := [(2, .int x88), (1, .int x2), (0, .ref a12)]) hx hb dX12_one_149 rfl hl (by decide) rfl (fun ls hl => ?_)
      refine lv_iload_n hx hb dX12_one_150 rfl (lv_at hl 0 rfl) ?_
      refine lv_if_lt (tgt := 171) hx hb dX12_one_151 (by decide) (fun c91 => ?_) (fun c91 => ?_)
      · have c91 := ci_lt c91
        refine lv_iconst (v := 0) hx hb dX12_one_171 (by decide) ?_
        refine lv_istore_n (lv' := [(3, .int 0), (2, .int x88), (1, .int x2), (0, .ref a12)]) hx hb dX12_one_172 rfl hl (by decide) rfl (fun ls hl => ?_)
        refine lv_iconst (v := 0) hx hb dX12_one_173 (by decide) ?_
        refine lv_istore (lv' := [(4, .int 0), (3, .int 0), (2, .int x88), (1, .int x2), (0, .ref a12)]) hx hb dX12_one_174 hl (by decide) rfl (fun ls hl => ?_)
        have lp176 : ∀ (n176 : Nat) (k92 : Int32) (k93 : Int32) (v94 : Int32), (v12_at.toInt ≤ v94.toInt ∧ v94.toInt ≤ v12_ends.toInt) → (v12_fault.toInt < 0 ∨ 0 ≤ v12_fault.toInt) → (0 ≤ k92.toInt ∧ k92.toInt ≤ 4) → (4 - k92.toInt).toNat < n176 → ∀ (H : Heap) (locs : List Loc), va_P D vwCl [O12 a12 r12 v12_keptMany v12_done v12_sheets v12_holes v12_worms v12_laidMany v12_wanted v12_orderMany v12_firstOrder v12_lines v12_marks v12_dots v12_madeIn v12_bound v12_places v12_maps v12_tapeMany v12_stories v12_base v94 v12_ends v12_fault v12_opened v12_bodies v12_ran v12_ownKind v12_ownNumber, (cI κ (r12 41) 120 f12_tape), (cI κ (r12 45) 720 f12_text), (cI κ (r12 52) 8 f12_names)] H → va_D A [O12 a12 r12 v12_keptMany v12_done v12_sheets v12_holes v12_worms v12_laidMany v12_wanted v12_orderMany v12_firstOrder v12_lines v12_marks v12_dots v12_madeIn v12_bound v12_places v12_maps v12_tapeMany v12_stories v12_base v94 v12_ends v12_fault v12_opened v12_bodies v12_ran v12_ownKind v12_ownNumber, (cI κ (r12 41) 120 f12_tape), (cI κ (r12 45) 720 f12_text), (cI κ (r12 52) 8 f12_names)] → va_S A s.heap H locs → ∀ ls : Array Slot, lv_has ls 5 [(4, .int k92), (3, .int k93), (2, .int x88), (1, .int x2), (0, .ref a12)] → W p l e ({ frames := 6 * (d + 1) + 2, cells := 0, slots := 0, locals := 137 * (d + 1) + 60 } : Room) s m args below meth c H locs 0 0 Q (F0 m 176 ls []) := by
          intro n176
          induction n176 with
          | zero =>
            intro k92 k93 v94 h95 h96 h97 m98
            exact absurd m98 (Nat.not_lt_zero _)
          | succ n176 ih176 =>
            intro k92 k93 v94 h95 h96 h97 m98 H locs hP hD hS ls hl
            refine lv_iload hx hb dX12_one_176 (lv_at hl 0 rfl) ?_
            refine lv_iconst (v := 4) hx hb dX12_one_178 (by decide) ?_
            refine lv_icmp_ge (tgt := 229) hx hb dX12_one_179 (by decide) (fun c99 => ?_) (fun c99 => ?_)
            · have c99 := ci_le c99
              refine lv_iload hx hb dX12_one_229 (lv_at hl 0 rfl) ?_
              refine lv_if_ne (tgt := 241) hx hb dX12_one_231 (by decide) (fun c100 => ?_) (fun c100 => ?_)
              · have c100 := ci_ne c100
                refine lv_iload_n hx hb dX12_one_241 rfl (lv_at hl 1 rfl) ?_
                have hpo : (v12_at.toInt ≤ v94.toInt ∧ v94.toInt ≤ v12_ends.toInt) ∧ (v12_opened.toInt ≤ v12_opened.toInt ∧ v12_opened.toInt ≤ 6 ∧ (0 ≤ v12_fault.toInt ∨ v12_opened.toInt = v12_opened.toInt)) ∧ (v12_fault.toInt < 0 ∨ 0 ≤ v12_fault.toInt) := ⟨(by omega), (by omega), (by omega)⟩
                exact ret _ _ _ _ k93 (v94, v12_fault, v12_opened) dX12_one_242 hpo hP hD hS
              have c100 := ci_eq c100
              refine lv_aload_n hx hb dX12_one_234 rfl (lv_at hl 4 rfl) ?_
              refine kcm_i hA hAB hP hD hS [true, false, false, false] rfl (fun _ => rfl) (fun hPc hDc => va_runV (As := []) (rest := []) ⟨hx, hb, hml, hown, hts⟩ (k_X12_wrong l D κ β a12 r12 v12_keptMany v12_done v12_sheets v12_holes v12_worms v12_laidMany v12_wanted v12_orderMany v12_firstOrder v12_lines v12_marks v12_dots v12_madeIn v12_bound v12_places v12_maps v12_tapeMany v12_stories v12_base v94 v12_ends v12_fault v12_opened v12_bodies v12_ran v12_ownKind v12_ownNumber H.size i1 i2 i3 i4 i5 i6 i7 i8 i9 i10 i11 i12 i13 i14 i15 i16 i17 (by omega)) (cwV 0 hts gX12_one_X12_wrong rfl rfl rfl (by decide +kernel) ⟨by dsimp only; omega, by dsimp only; omega⟩) (pk_V hK hS hAB hPc hDc 0 (ci := 12) rfl rfl rfl) rfl rfl hl.1 rfl (lv_room (Nat.le_of_ble_eq_true rfl)) dX12_one_235 ⟨Nat.le_of_ble_eq_true rfl, Nat.le_of_ble_eq_true rfl⟩) (fun x102 x101 H locs hw hPD hS => ?_)
              have h103 : 0 ≤ x101.toInt := hw
              obtain ⟨hP, hD⟩ : PD D A [O12 a12 r12 v12_keptMany v12_done v12_sheets v12_holes v12_worms v12_laidMany v12_wanted v12_orderMany v12_firstOrder v12_lines v12_marks v12_dots v12_madeIn v12_bound v12_places v12_maps v12_tapeMany v12_stories v12_base v94 v12_ends x101 v12_opened v12_bodies v12_ran v12_ownKind v12_ownNumber, (cI κ (r12 41) 120 f12_tape), (cI κ (r12 45) 720 f12_text), (cI κ (r12 52) 8 f12_names)] H := hPD
              refine lv_goto (tgt := 242) hx hb dX12_one_238 (by decide) ?_
              have hpo : (v12_at.toInt ≤ v94.toInt ∧ v94.toInt ≤ v12_ends.toInt) ∧ (v12_opened.toInt ≤ v12_opened.toInt ∧ v12_opened.toInt ≤ 6 ∧ (0 ≤ x101.toInt ∨ v12_opened.toInt = v12_opened.toInt)) ∧ (v12_fault.toInt < 0 ∨ 0 ≤ x101.toInt) := ⟨(by omega), (by omega), (by omega)⟩
              exact ret _ _ _ _ x102 (v94, x101, v12_opened) dX12_one_242 hpo hP hD hS
            have c99 := ci_nle c99
            refine lv_aload_n hx hb dX12_one_182 rfl (lv_at hl 4 rfl) ?_
            refine kcm_i hA hAB hP hD hS [true, true, true, false] rfl (fun _ => rfl) (fun hPc hDc => va_runV (As := []) (rest := []) ⟨hx, hb, hml, hown, hts⟩ (k_X12_byteAt l D κ β a12 r12 v12_keptMany v12_done v12_sheets v12_holes v12_worms v12_laidMany v12_wanted v12_orderMany v12_firstOrder v12_lines v12_marks v12_dots v12_madeIn v12_bound v12_places v12_maps v12_tapeMany v12_stories v12_base v94 v12_ends v12_fault v12_opened v12_bodies v12_ran v12_ownKind v12_ownNumber f12_tape f12_text H.size i1 i2 i3 i4 i5 i6 i7 i8 i9 i10 i11 i12 i13 i14 i15 i16 i17 (by omega)) (cwV 0 hts gX12_one_X12_byteAt rfl rfl rfl (by decide +kernel) ⟨by dsimp only; omega, by dsimp only; omega⟩) (pk_V hK hS hAB hPc hDc 0 (ci := 12) rfl rfl rfl) rfl rfl hl.1 rfl (lv_room (Nat.le_of_ble_eq_true rfl)) dX12_one_183 ⟨Nat.le_of_ble_eq_true rfl, Nat.le_of_ble_eq_true rfl⟩) (fun x104 u105 H locs hw hPD hS => ?_)
            have h106 : x104.toInt = 0 ∨ v94.toInt < v12_ends.toInt := hw
            obtain ⟨hP, hD⟩ : PD D A [O12 a12 r12 v12_keptMany v12_done v12_sheets v12_holes v12_worms v12_laidMany v12_wanted v12_orderMany v12_firstOrder v12_lines v12_marks v12_dots v12_madeIn v12_bound v12_places v12_maps v12_tapeMany v12_stories v12_base v94 v12_ends v12_fault v12_opened v12_bodies v12_ran v12_ownKind v12_ownNumber, (cI κ (r12 41) 120 f12_tape), (cI κ (r12 45) 720 f12_text), (cI κ (r12 52) 8 f12_names)] H := hPD
            refine lv_bipush (v := 48) hx hb dX12_one_186 (by decide) ?_
            refine lv_icmp_lt (tgt := 229) hx hb dX12_one_188 (by decide) (fun c107 => ?_) (fun c107 => ?_)
            · have c107 := ci_lt c107
              refine lv_iload hx hb dX12_one_229 (lv_at hl 0 rfl) ?_
              refine lv_if_ne (tgt := 241) hx hb dX12_one_231 (by decide) (fun c108 => ?_) (fun c108 => ?_)
              · have c108 := ci_ne c108
                refine lv_iload_n hx hb dX12_one_241 rfl (lv_at hl 1 rfl) ?_
                have hpo : (v12_at.toInt ≤ v94.toInt ∧ v94.toInt ≤ v12_ends.toInt) ∧ (v12_opened.toInt ≤ v12_opened.toInt ∧ v12_opened.toInt ≤ 6 ∧ (0 ≤ v12_fault.toInt ∨ v12_opened.toInt = v12_opened.toInt)) ∧ (v12_fault.toInt < 0 ∨ 0 ≤ v12_fault.toInt) := ⟨(by omega), (by omega), (by omega)⟩
                exact ret _ _ _ _ k93 (v94, v12_fault, v12_opened) dX12_one_242 hpo hP hD hS
              have c108 := ci_eq c108
              refine lv_aload_n hx hb dX12_one_234 rfl (lv_at hl 4 rfl) ?_
              refine kcm_i hA hAB hP hD hS [true, false, false, false] rfl (fun _ => rfl) (fun hPc hDc => va_runV (As := []) (rest := []) ⟨hx, hb, hml, hown, hts⟩ (k_X12_wrong l D κ β a12 r12 v12_keptMany v12_done v12_sheets v12_holes v12_worms v12_laidMany v12_wanted v12_orderMany v12_firstOrder v12_lines v12_marks v12_dots v12_madeIn v12_bound v12_places v12_maps v12_tapeMany v12_stories v12_base v94 v12_ends v12_fault v12_opened v12_bodies v12_ran v12_ownKind v12_ownNumber H.size i1 i2 i3 i4 i5 i6 i7 i8 i9 i10 i11 i12 i13 i14 i15 i16 i17 (by omega)) (cwV 0 hts gX12_one_X12_wrong rfl rfl rfl (by decide +kernel) ⟨by dsimp only; omega, by dsimp only; omega⟩) (pk_V hK hS hAB hPc hDc 0 (ci := 12) rfl rfl rfl) rfl rfl hl.1 rfl (lv_room (Nat.le_of_ble_eq_true rfl)) dX12_one_235 ⟨Nat.le_of_ble_eq_true rfl, Nat.le_of_ble_eq_true rfl⟩) (fun x110 x109 H locs hw hPD hS => ?_)
              have h111 : 0 ≤ x109.toInt := hw
              obtain ⟨hP, hD⟩ : PD D A [O12 a12 r12 v12_keptMany v12_done v12_sheets v12_holes v12_worms v12_laidMany v12_wanted v12_orderMany v12_firstOrder v12_lines v12_marks v12_dots v12_madeIn v12_bound v12_places v12_maps v12_tapeMany v12_stories v12_base v94 v12_ends x109 v12_opened v12_bodies v12_ran v12_ownKind v12_ownNumber, (cI κ (r12 41) 120 f12_tape), (cI κ (r12 45) 720 f12_text), (cI κ (r12 52) 8 f12_names)] H := hPD
              refine lv_goto (tgt := 242) hx hb dX12_one_238 (by decide) ?_
              have hpo : (v12_at.toInt ≤ v94.toInt ∧ v94.toInt ≤ v12_ends.toInt) ∧ (v12_opened.toInt ≤ v12_opened.toInt ∧ v12_opened.toInt ≤ 6 ∧ (0 ≤ x109.toInt ∨ v12_opened.toInt = v12_opened.toInt)) ∧ (v12_fault.toInt < 0 ∨ 0 ≤ x109.toInt) := ⟨(by omega), (by omega), (by omega)⟩
              exact ret _ _ _ _ x110 (v94, x109, v12_opened) dX12_one_242 hpo hP hD hS
            have c107 := ci_nlt c107
            refine lv_aload_n hx hb dX12_one_191 rfl (lv_at hl 4 rfl) ?_
            refine kcm_i hA hAB hP hD hS [true, true, true, false] rfl (fun _ => rfl) (fun hPc hDc => va_runV (As := []) (rest := []) ⟨hx, hb, hml, hown, hts⟩ (k_X12_byteAt l D κ β a12 r12 v12_keptMany v12_done v12_sheets v12_holes v12_worms v12_laidMany v12_wanted v12_orderMany v12_firstOrder v12_lines v12_marks v12_dots v12_madeIn v12_bound v12_places v12_maps v12_tapeMany v12_stories v12_base v94 v12_ends v12_fault v12_opened v12_bodies v12_ran v12_ownKind v12_ownNumber f12_tape f12_text H.size i1 i2 i3 i4 i5 i6 i7 i8 i9 i10 i11 i12 i13 i14 i15 i16 i17 (by omega)) (cwV 0 hts gX12_one_X12_byteAt rfl rfl rfl (by decide +kernel) ⟨by dsimp only; omega, by dsimp only; omega⟩) (pk_V hK hS hAB hPc hDc 0 (ci := 12) rfl rfl rfl) rfl rfl hl.1 rfl (lv_room (Nat.le_of_ble_eq_true rfl)) dX12_one_192 ⟨Nat.le_of_ble_eq_true rfl, Nat.le_of_ble_eq_true rfl⟩) (fun x112 u113 H locs hw hPD hS => ?_)
            have h114 : x112.toInt = 0 ∨ v94.toInt < v12_ends.toInt := hw
            obtain ⟨hP, hD⟩ : PD D A [O12 a12 r12 v12_keptMany v12_done v12_sheets v12_holes v12_worms v12_laidMany v12_wanted v12_orderMany v12_firstOrder v12_lines v12_marks v12_dots v12_madeIn v12_bound v12_places v12_maps v12_tapeMany v12_stories v12_base v94 v12_ends v12_fault v12_opened v12_bodies v12_ran v12_ownKind v12_ownNumber, (cI κ (r12 41) 120 f12_tape), (cI κ (r12 45) 720 f12_text), (cI κ (r12 52) 8 f12_names)] H := hPD
            refine lv_bipush (v := 57) hx hb dX12_one_195 (by decide) ?_
            refine lv_icmp_gt (tgt := 229) hx hb dX12_one_197 (by decide) (fun c115 => ?_) (fun c115 => ?_)
            · have c115 := ci_lt c115
              refine lv_iload hx hb dX12_one_229 (lv_at hl 0 rfl) ?_
              refine lv_if_ne (tgt := 241) hx hb dX12_one_231 (by decide) (fun c116 => ?_) (fun c116 => ?_)
              · have c116 := ci_ne c116
                refine lv_iload_n hx hb dX12_one_241 rfl (lv_at hl 1 rfl) ?_
                have hpo : (v12_at.toInt ≤ v94.toInt ∧ v94.toInt ≤ v12_ends.toInt) ∧ (v12_opened.toInt ≤ v12_opened.toInt ∧ v12_opened.toInt ≤ 6 ∧ (0 ≤ v12_fault.toInt ∨ v12_opened.toInt = v12_opened.toInt)) ∧ (v12_fault.toInt < 0 ∨ 0 ≤ v12_fault.toInt) := ⟨(by omega), (by omega), (by omega)⟩
                exact ret _ _ _ _ k93 (v94, v12_fault, v12_opened) dX12_one_242 hpo hP hD hS
              have c116 := ci_eq c116
              refine lv_aload_n hx hb dX12_one_234 rfl (lv_at hl 4 rfl) ?_
              refine kcm_i hA hAB hP hD hS [true, false, false, false] rfl (fun _ => rfl) (fun hPc hDc => va_runV (As := []) (rest := []) ⟨hx, hb, hml, hown, hts⟩ (k_X12_wrong l D κ β a12 r12 v12_keptMany v12_done v12_sheets v12_holes v12_worms v12_laidMany v12_wanted v12_orderMany v12_firstOrder v12_lines v12_marks v12_dots v12_madeIn v12_bound v12_places v12_maps v12_tapeMany v12_stories v12_base v94 v12_ends v12_fault v12_opened v12_bodies v12_ran v12_ownKind v12_ownNumber H.size i1 i2 i3 i4 i5 i6 i7 i8 i9 i10 i11 i12 i13 i14 i15 i16 i17 (by omega)) (cwV 0 hts gX12_one_X12_wrong rfl rfl rfl (by decide +kernel) ⟨by dsimp only; omega, by dsimp only; omega⟩) (pk_V hK hS hAB hPc hDc 0 (ci := 12) rfl rfl rfl) rfl rfl hl.1 rfl (lv_room (Nat.le_of_ble_eq_true rfl)) dX12_one_235 ⟨Nat.le_of_ble_eq_true rfl, Nat.le_of_ble_eq_true rfl⟩) (fun x118 x117 H locs hw hPD hS => ?_)
              have h119 : 0 ≤ x117.toInt := hw
              obtain ⟨hP, hD⟩ : PD D A [O12 a12 r12 v12_keptMany v12_done v12_sheets v12_holes v12_worms v12_laidMany v12_wanted v12_orderMany v12_firstOrder v12_lines v12_marks v12_dots v12_madeIn v12_bound v12_places v12_maps v12_tapeMany v12_stories v12_base v94 v12_ends x117 v12_opened v12_bodies v12_ran v12_ownKind v12_ownNumber, (cI κ (r12 41) 120 f12_tape), (cI κ (r12 45) 720 f12_text), (cI κ (r12 52) 8 f12_names)] H := hPD
              refine lv_goto (tgt := 242) hx hb dX12_one_238 (by decide) ?_
              have hpo : (v12_at.toInt ≤ v94.toInt ∧ v94.toInt ≤ v12_ends.toInt) ∧ (v12_opened.toInt ≤ v12_opened.toInt ∧ v12_opened.toInt ≤ 6 ∧ (0 ≤ x117.toInt ∨ v12_opened.toInt = v12_opened.toInt)) ∧ (v12_fault.toInt < 0 ∨ 0 ≤ x117.toInt) := ⟨(by omega), (by omega), (by omega)⟩
              exact ret _ _ _ _ x118 (v94, x117, v12_opened) dX12_one_242 hpo hP hD hS
            have c115 := ci_nlt c115
            refine lv_bipush (v := 10) hx hb dX12_one_200 (by decide) ?_
            refine lv_iload_n hx hb dX12_one_202 rfl (lv_at hl 1 rfl) ?_
            refine lv_imul hx hb dX12_one_203 ?_
            refine lv_topi (fun x120 e121 => ?_)
            try have h122 : x120.toInt = 10 * k93.toInt := ci_mulL (n := 10) (by decide) e121 (by omega) (by omega)
            refine lv_aload_n hx hb dX12_one_204 rfl (lv_at hl 4 rfl) ?_
            refine kcm_i hA hAB hP hD hS [true, true, true, false] rfl (fun _ => rfl) (fun hPc hDc => va_runV (As := []) (rest := [.int x120]) ⟨hx, hb, hml, hown, hts⟩ (k_X12_byteAt l D κ β a12 r12 v12_keptMany v12_done v12_sheets v12_holes v12_worms v12_laidMany v12_wanted v12_orderMany v12_firstOrder v12_lines v12_marks v12_dots v12_madeIn v12_bound v12_places v12_maps v12_tapeMany v12_stories v12_base v94 v12_ends v12_fault v12_opened v12_bodies v12_ran v12_ownKind v12_ownNumber f12_tape f12_text H.size i1 i2 i3 i4 i5 i6 i7 i8 i9 i10 i11 i12 i13 i14 i15 i16 i17 (by omega)) (cwV 0 hts gX12_one_X12_byteAt rfl rfl rfl (by decide +kernel) ⟨by dsimp only; omega, by dsimp only; omega⟩) (pk_V hK hS hAB hPc hDc 0 (ci := 12) rfl rfl rfl) rfl rfl hl.1 rfl (lv_room (Nat.le_of_ble_eq_true rfl)) dX12_one_205 ⟨Nat.le_of_ble_eq_true rfl, Nat.le_of_ble_eq_true rfl⟩) (fun x123 u124 H locs hw hPD hS => ?_)
            have h125 : x123.toInt = 0 ∨ v94.toInt < v12_ends.toInt := hw
            obtain ⟨hP, hD⟩ : PD D A [O12 a12 r12 v12_keptMany v12_done v12_sheets v12_holes v12_worms v12_laidMany v12_wanted v12_orderMany v12_firstOrder v12_lines v12_marks v12_dots v12_madeIn v12_bound v12_places v12_maps v12_tapeMany v12_stories v12_base v94 v12_ends v12_fault v12_opened v12_bodies v12_ran v12_ownKind v12_ownNumber, (cI κ (r12 41) 120 f12_tape), (cI κ (r12 45) 720 f12_text), (cI κ (r12 52) 8 f12_names)] H := hPD
            refine lv_iadd hx hb dX12_one_208 ?_
            refine lv_topi (fun x126 e127 => ?_)
            try have h128 : x126.toInt = x120.toInt + x123.toInt := ci_add e127 (by omega) (by omega)
            refine lv_bipush (v := 48) hx hb dX12_one_209 (by decide) ?_
            refine lv_isub hx hb dX12_one_211 ?_
            refine lv_topi (fun x129 e130 => ?_)
            try have h131 : x129.toInt = x126.toInt - (48 : Int32).toInt := ci_sub e130 (by omega) (by omega)
            refine lv_istore_n (lv' := [(3, .int x129), (4, .int k92), (2, .int x88), (1, .int x2), (0, .ref a12)]) hx hb dX12_one_212 rfl hl (by decide) rfl (fun ls hl => ?_)
            obtain ⟨x132, e133⟩ : ∃ y : Int32, y = k92 + 1 := ⟨_, rfl⟩
            refine lv_iinc (v := x132) (lv' := [(4, .int x132), (3, .int x129), (2, .int x88), (1, .int x2), (0, .ref a12)]) hx hb dX12_one_213 hl (k := 1) rfl (by rw [e133]; rfl) (by decide) rfl (fun ls hl => ?_)
            try have h134 : x132.toInt = k92.toInt + (1 : Int32).toInt := ci_add e133 (by omega) (by omega)
            refine lv_aload_n hx hb dX12_one_216 rfl (lv_at hl 4 rfl) ?_
            refine lv_dup hx hb dX12_one_217 rfl ?_
            refine va_get (D := D) (ci := 12) (v := .int v94) (C := RX12) (T := TX12) (N := 63) hx hb hts w1 hown hK.1 hP 0 rfl rfl 48 (by decide) w3 (fun _ h9 => h9) rfl dX12_one_218 ?_
            refine lv_iconst (v := 1) hx hb dX12_one_221 (by decide) ?_
            refine lv_iadd hx hb dX12_one_222 ?_
            refine lv_topi (fun x135 e136 => ?_)
            try have h137 : x135.toInt = v94.toInt + (1 : Int32).toInt := ci_add e136 (by omega) (by omega)
            refine va_put (D := D) (ci := 12) (v := .int x135) (ty := .int) (C := RX12) (T := TX12) (N := 63) hx hb hts w1 tyX12 tyX12_ok nmX12 hown hK.1 hP hD hS 0 rfl rfl 48 (by decide) w3 (fun _ h9 => h9) rfl (by decide +kernel) rfl rfl (Nat.le_of_ble_eq_true rfl) dX12_one_223 (fun H locs hP hD hS => ?_)
            obtain ⟨hP, hD⟩ : PD D A [O12 a12 r12 v12_keptMany v12_done v12_sheets v12_holes v12_worms v12_laidMany v12_wanted v12_orderMany v12_firstOrder v12_lines v12_marks v12_dots v12_madeIn v12_bound v12_places v12_maps v12_tapeMany v12_stories v12_base x135 v12_ends v12_fault v12_opened v12_bodies v12_ran v12_ownKind v12_ownNumber, (cI κ (r12 41) 120 f12_tape), (cI κ (r12 45) 720 f12_text), (cI κ (r12 52) 8 f12_names)] H := ⟨hP, hD⟩
            refine lv_goto (tgt := 176) hx hb dX12_one_226 (by decide) ?_
            exact ih176 x132 x129 x135 (by omega) (by omega) (by omega) (by omega) _ _ hP hD hS _ hl
        exact lp176 ((4 - (0 : Int32).toInt).toNat + 1) 0 0 v12_at (by omega) (by omega) (by omega) (by omega) _ _ hP hD hS _ hl
      have c91 := ci_nlt c91
      refine lv_aload_n hx hb dX12_one_154 rfl (lv_at hl 2 rfl) ?_
      refine lv_dup hx hb dX12_one_155 rfl ?_
      refine va_get (D := D) (ci := 12) (v := .int v12_at) (C := RX12) (T := TX12) (N := 63) hx hb hts w1 hown hK.1 hP 0 rfl rfl 48 (by decide) w3 (fun _ h9 => h9) rfl dX12_one_156 ?_
      refine lv_iconst (v := 1) hx hb dX12_one_159 (by decide) ?_
      refine lv_iadd hx hb dX12_one_160 ?_
      refine lv_topi (fun x138 e139 => ?_)
      try have h140 : x138.toInt = v12_at.toInt + (1 : Int32).toInt := ci_add e139 (by omega) (by omega)
      refine va_put (D := D) (ci := 12) (v := .int x138) (ty := .int) (C := RX12) (T := TX12) (N := 63) hx hb hts w1 tyX12 tyX12_ok nmX12 hown hK.1 hP hD hS 0 rfl rfl 48 (by decide) w3 (fun _ h9 => h9) rfl (by decide +kernel) rfl rfl (Nat.le_of_ble_eq_true rfl) dX12_one_161 (fun H locs hP hD hS => ?_)
      obtain ⟨hP, hD⟩ : PD D A [O12 a12 r12 v12_keptMany v12_done v12_sheets v12_holes v12_worms v12_laidMany v12_wanted v12_orderMany v12_firstOrder v12_lines v12_marks v12_dots v12_madeIn v12_bound v12_places v12_maps v12_tapeMany v12_stories v12_base x138 v12_ends v12_fault v12_opened v12_bodies v12_ran v12_ownKind v12_ownNumber, (cI κ (r12 41) 120 f12_tape), (cI κ (r12 45) 720 f12_text), (cI κ (r12 52) 8 f12_names)] H := ⟨hP, hD⟩
      refine lv_aload_n hx hb dX12_one_164 rfl (lv_at hl 2 rfl) ?_
      refine va_get (D := D) (ci := 12) (v := .ref (r12 52)) (C := RX12) (T := TX12) (N := 63) hx hb hts w1 hown hK.1 hP 0 rfl rfl 52 (by decide) w4 (fun _ h9 => h9) rfl dX12_one_165 ?_
      refine lv_iload_n hx hb dX12_one_168 rfl (lv_at hl 0 rfl) ?_
      refine va_iald hx hb hK.1 hP 3 1 rfl rfl (i := x88) (ix (by omega) (by omega)) dX12_one_169 ?_
      refine lv_topi (fun x141 e142 => ?_)
      have hpo : (v12_at.toInt ≤ x138.toInt ∧ x138.toInt ≤ v12_ends.toInt) ∧ (v12_opened.toInt ≤ v12_opened.toInt ∧ v12_opened.toInt ≤ 6 ∧ (0 ≤ v12_fault.toInt ∨ v12_opened.toInt = v12_opened.toInt)) ∧ (v12_fault.toInt < 0 ∨ 0 ≤ v12_fault.toInt) := ⟨(by omega), (by omega), (by omega)⟩
      exact ret _ _ _ _ x141 (x138, v12_fault, v12_opened) dX12_one_170 hpo hP hD hS
    have c87 := ci_eq c87
    exact lp32 (by omega) _ _ hP hD hS _ hl
  have c1 := ci_nlt c1
  refine lv_iconst (v := 0) hx hb dX12_one_7 (by decide) ?_
  have hpo : (v12_at.toInt ≤ v12_at.toInt ∧ v12_at.toInt ≤ v12_ends.toInt) ∧ (v12_opened.toInt ≤ v12_opened.toInt ∧ v12_opened.toInt ≤ 6 ∧ (0 ≤ v12_fault.toInt ∨ v12_opened.toInt = v12_opened.toInt)) ∧ (v12_fault.toInt < 0 ∨ 0 ≤ v12_fault.toInt) := ⟨(by omega), (by omega), (by omega)⟩
  exact ret _ _ _ _ 0 (v12_at, v12_fault, v12_opened) dX12_one_8 hpo hP hD hS
set_option maxHeartbeats 4000000 in
set_option maxRecDepth 100000 in
theorem of_X12_one0 (l : Launch) (D : va_G) (κ : Nat → ClassId) (β : Nat) : C_X12_one l D κ β 0 := by
  intro a12 r12 v12_keptMany v12_done v12_sheets v12_holes v12_worms v12_laidMany v12_wanted v12_orderMany v12_firstOrder v12_lines v12_marks v12_dots v12_madeIn v12_bound v12_places v12_maps v12_tapeMany v12_stories v12_base v12_at v12_ends v12_fault v12_opened v12_bodies v12_ran v12_ownKind v12_ownNumber f12_tape f12_text f12_names sz i1 i2 i3 i4 i5 i6 i7 i8 i9 i10 i11 i12 i13 i14 i15 i16 i17 i18 i19 i20
  refine ofK_i (cc := cX12_one) (maxL := 5) (own := RX12) (by decide) rfl rfl (Nat.le_of_ble_eq_true rfl) ?_
  intro p e s m args below meth c Q A ls hsz hx hb hml hts hown hK hA hAB hP hD hl ret
  have hS : va_S A s.heap s.heap [] := va_S.rf
  have hl : lv_has ls 5 [(0, .ref a12)] := hl
  have w0 := hts (.fieldLink RX12 306 "OlderSkinModel" "fault" "I") (List.mem_of_getElem? (i := 1) rfl)
  have w1 := (fun w h => List.mem_cons_of_mem _ (List.mem_append_right _ h) : ∀ w ∈ u_ws RX12 TX12 63, w ∈ wsX12_one)
  have w2 := hts (.fieldLink RX12 330 "OlderSkinModel" "opened" "I") (List.mem_of_getElem? (i := 2) rfl)
  have w3 := hts (.fieldLink RX12 297 "OlderSkinModel" "at" "I") (List.mem_of_getElem? (i := 3) rfl)
  have w4 := hts (.fieldLink RX12 98 "OlderSkinModel" "names" "[I") (List.mem_of_getElem? (i := 4) rfl)
  have l0 : (0 : Int32).toInt = 0 := by decide
  have l1 : (6 : Int32).toInt = 6 := by decide
  have l2 : (33 : Int32).toInt = 33 := by decide
  have l3 : (45 : Int32).toInt = 45 := by decide
  have l4 : (40 : Int32).toInt = 40 := by decide
  have l5 : (4 : Int32).toInt = 4 := by decide
  have l6 : (48 : Int32).toInt = 48 := by decide
  have l7 : (57 : Int32).toInt = 57 := by decide
  have l8 : (10 : Int32).toInt = 10 := by decide
  have l9 : (1 : Int32).toInt = 1 := by decide
  refine lv_aload_n hx hb dX12_one_0 rfl (lv_at hl 0 rfl) ?_
  refine va_get (D := D) (ci := 12) (v := .int v12_fault) (C := RX12) (T := TX12) (N := 63) hx hb hts w1 hown hK.1 hP 0 rfl rfl 50 (by decide) w0 (fun _ h9 => h9) rfl dX12_one_1 ?_
  refine lv_if_lt (tgt := 9) hx hb dX12_one_4 (by decide) (fun c1 => ?_) (fun c1 => ?_)
  · have c1 := ci_lt c1
    refine lv_aload_n hx hb dX12_one_9 rfl (lv_at hl 0 rfl) ?_
    refine kcm_i hA hAB hP hD hS [true, true, true, false] rfl (fun _ => rfl) (fun hPc hDc => va_runV (As := []) (rest := []) ⟨hx, hb, hml, hown, hts⟩ (k_X12_byteAt l D κ β a12 r12 v12_keptMany v12_done v12_sheets v12_holes v12_worms v12_laidMany v12_wanted v12_orderMany v12_firstOrder v12_lines v12_marks v12_dots v12_madeIn v12_bound v12_places v12_maps v12_tapeMany v12_stories v12_base v12_at v12_ends v12_fault v12_opened v12_bodies v12_ran v12_ownKind v12_ownNumber f12_tape f12_text s.heap.size i1 i2 i3 i4 i5 i6 i7 i8 i9 i10 i11 i12 i13 i14 i15 i16 i17 (by omega)) (cwV 0 hts gX12_one_X12_byteAt rfl rfl rfl (by decide +kernel) ⟨by dsimp only; omega, by dsimp only; omega⟩) (pk_V hK hS hAB hPc hDc 0 (ci := 12) rfl rfl rfl) rfl rfl hl.1 rfl (lv_room (Nat.le_of_ble_eq_true rfl)) dX12_one_10 ⟨Nat.le_of_ble_eq_true rfl, Nat.le_of_ble_eq_true rfl⟩) (fun x2 u3 H locs hw hPD hS => ?_)
    have h4 : x2.toInt = 0 ∨ v12_at.toInt < v12_ends.toInt := hw
    obtain ⟨hP, hD⟩ : PD D A [O12 a12 r12 v12_keptMany v12_done v12_sheets v12_holes v12_worms v12_laidMany v12_wanted v12_orderMany v12_firstOrder v12_lines v12_marks v12_dots v12_madeIn v12_bound v12_places v12_maps v12_tapeMany v12_stories v12_base v12_at v12_ends v12_fault v12_opened v12_bodies v12_ran v12_ownKind v12_ownNumber, (cI κ (r12 41) 120 f12_tape), (cI κ (r12 45) 720 f12_text), (cI κ (r12 52) 8 f12_names)] H := hPD
    refine lv_istore_n (lv' := [(1, .int x2), (0, .ref a12)]) hx hb dX12_one_13 rfl hl (by decide) rfl (fun ls hl => ?_)
    have lp32 : (v12_at.toInt < v12_ends.toInt) → ∀ (H : Heap) (locs : List Loc), va_P D vwCl [O12 a12 r12 v12_keptMany v12_done v12_sheets v12_holes v12_worms v12_laidMany v12_wanted v12_orderMany v12_firstOrder v12_lines v12_marks v12_dots v12_madeIn v12_bound v12_places v12_maps v12_tapeMany v12_stories v12_base v12_at v12_ends v12_fault v12_opened v12_bodies v12_ran v12_ownKind v12_ownNumber, (cI κ (r12 41) 120 f12_tape), (cI κ (r12 45) 720 f12_text), (cI κ (r12 52) 8 f12_names)] H → va_D A [O12 a12 r12 v12_keptMany v12_done v12_sheets v12_holes v12_worms v12_laidMany v12_wanted v12_orderMany v12_firstOrder v12_lines v12_marks v12_dots v12_madeIn v12_bound v12_places v12_maps v12_tapeMany v12_stories v12_base v12_at v12_ends v12_fault v12_opened v12_bodies v12_ran v12_ownKind v12_ownNumber, (cI κ (r12 41) 120 f12_tape), (cI κ (r12 45) 720 f12_text), (cI κ (r12 52) 8 f12_names)] → va_S A s.heap H locs → ∀ ls : Array Slot, lv_has ls 5 [(1, .int x2), (0, .ref a12)] → W p l e ({ frames := 6 * 0 + 2, cells := 0, slots := 0, locals := 137 * 0 + 60 } : Room) s m args below meth c H locs 0 0 Q (F0 m 32 ls []) := by
      intro h5 H locs hP hD hS ls hl
      refine lv_aload_n hx hb dX12_one_32 rfl (lv_at hl 1 rfl) ?_
      refine va_get (D := D) (ci := 12) (v := .int v12_opened) (C := RX12) (T := TX12) (N := 63) hx hb hts w1 hown hK.1 hP 0 rfl rfl 51 (by decide) w2 (fun _ h9 => h9) rfl dX12_one_33 ?_
      refine lv_bipush (v := 6) hx hb dX12_one_36 (by decide) ?_
      refine lv_icmp_ne (tgt := 46) hx hb dX12_one_38 (by decide) (fun c6 => ?_) (fun c6 => ?_)
      · have c6 := ci_ne c6
        exfalso
        omega
      have c6 := ci_eq c6
      refine lv_aload_n hx hb dX12_one_41 rfl (lv_at hl 1 rfl) ?_
      refine kcm_i hA hAB hP hD hS [true, false, false, false] rfl (fun _ => rfl) (fun hPc hDc => va_runV (As := []) (rest := []) ⟨hx, hb, hml, hown, hts⟩ (k_X12_wrong l D κ β a12 r12 v12_keptMany v12_done v12_sheets v12_holes v12_worms v12_laidMany v12_wanted v12_orderMany v12_firstOrder v12_lines v12_marks v12_dots v12_madeIn v12_bound v12_places v12_maps v12_tapeMany v12_stories v12_base v12_at v12_ends v12_fault v12_opened v12_bodies v12_ran v12_ownKind v12_ownNumber H.size i1 i2 i3 i4 i5 i6 i7 i8 i9 i10 i11 i12 i13 i14 i15 i16 i17 (by omega)) (cwV 0 hts gX12_one_X12_wrong rfl rfl rfl (by decide +kernel) ⟨by dsimp only; omega, by dsimp only; omega⟩) (pk_V hK hS hAB hPc hDc 0 (ci := 12) rfl rfl rfl) rfl rfl hl.1 rfl (lv_room (Nat.le_of_ble_eq_true rfl)) dX12_one_42 ⟨Nat.le_of_ble_eq_true rfl, Nat.le_of_ble_eq_true rfl⟩) (fun x8 x7 H locs hw hPD hS => ?_)
      have h9 : 0 ≤ x7.toInt := hw
      obtain ⟨hP, hD⟩ : PD D A [O12 a12 r12 v12_keptMany v12_done v12_sheets v12_holes v12_worms v12_laidMany v12_wanted v12_orderMany v12_firstOrder v12_lines v12_marks v12_dots v12_madeIn v12_bound v12_places v12_maps v12_tapeMany v12_stories v12_base v12_at v12_ends x7 v12_opened v12_bodies v12_ran v12_ownKind v12_ownNumber, (cI κ (r12 41) 120 f12_tape), (cI κ (r12 45) 720 f12_text), (cI κ (r12 52) 8 f12_names)] H := hPD
      have hpo : (v12_at.toInt ≤ v12_at.toInt ∧ v12_at.toInt ≤ v12_ends.toInt) ∧ (v12_opened.toInt ≤ v12_opened.toInt ∧ v12_opened.toInt ≤ 6 ∧ (0 ≤ x7.toInt ∨ v12_opened.toInt = v12_opened.toInt)) ∧ (v12_fault.toInt < 0 ∨ 0 ≤ x7.toInt) := ⟨(by omega), (by omega), (by omega)⟩
      exact ret _ _ _ _ x8 (v12_at, x7, v12_opened) dX12_one_45 hpo hP hD hS
    refine lv_iload_n hx hb dX12_one_14 rfl (lv_at hl 0 rfl) ?_
    refine lv_bipush (v := 33) hx hb dX12_one_15 (by decide) ?_
    refine lv_icmp_eq (tgt := 32) hx hb dX12_one_17 (by decide) (fun c10 => ?_) (fun c10 => ?_)
    · have c10 := ci_eq c10
      exact lp32 (by omega) _ _ hP hD hS _ hl
    have c10 := ci_ne c10
    refine lv_iload_n hx hb dX12_one_20 rfl (lv_at hl 0 rfl) ?_
    refine lv_bipush (v := 45) hx hb dX12_one_21 (by decide) ?_
    refine lv_icmp_eq (tgt := 32) hx hb dX12_one_23 (by decide) (fun c11 => ?_) (fun c11 => ?_)
    · have c11 := ci_eq c11
      exact lp32 (by omega) _ _ hP hD hS _ hl
    have c11 := ci_ne c11
    refine lv_iload_n hx hb dX12_one_26 rfl (lv_at hl 0 rfl) ?_
    refine lv_bipush (v := 40) hx hb dX12_one_27 (by decide) ?_
    refine lv_icmp_ne (tgt := 145) hx hb dX12_one_29 (by decide) (fun c12 => ?_) (fun c12 => ?_)
    · have c12 := ci_ne c12
      refine lv_iload_n hx hb dX12_one_145 rfl (lv_at hl 0 rfl) ?_
      refine kcm_i hA hAB hP hD hS [false, false, false, false] rfl (fun _ => rfl) (fun hPc hDc => va_runS (As := [.int x2]) (rest := []) ⟨hx, hb, hml, hown, hts⟩ (k_X12_nameOf l D κ β H.size x2) (va_cwS 1 hts gX12_one_X12_nameOf rfl rfl rfl (by decide +kernel) ⟨by dsimp only; omega, by dsimp only; omega⟩) (pk_S hK hS hAB hPc hDc) rfl rfl hl.1 rfl (lv_room (Nat.le_of_ble_eq_true rfl)) dX12_one_146 ⟨Nat.le_of_ble_eq_true rfl, Nat.le_of_ble_eq_true rfl⟩) (fun x13 u14 H locs hw hPD hS => ?_)
      have h15 : x13.toInt = -1 ∨ (0 ≤ x13.toInt ∧ x13.toInt ≤ 7 ∧ x2.toInt ≠ 0) := hw
      obtain ⟨hP, hD⟩ : PD D A [O12 a12 r12 v12_keptMany v12_done v12_sheets v12_holes v12_worms v12_laidMany v12_wanted v12_orderMany v12_firstOrder v12_lines v12_marks v12_dots v12_madeIn v12_bound v12_places v12_maps v12_tapeMany v12_stories v12_base v12_at v12_ends v12_fault v12_opened v12_bodies v12_ran v12_ownKind v12_ownNumber, (cI κ (r12 41) 120 f12_tape), (cI κ (r12 45) 720 f12_text), (cI κ (r12 52) 8 f12_names)] H := hPD
      refine lv_istore_n (lv' := [(2, .int x13), (1, .int x2), (0, .ref a12)]) hx hb dX12_one_149 rfl hl (by decide) rfl (fun ls hl => ?_)
      refine lv_iload_n hx hb dX12_one_150 rfl (lv_at hl 0 rfl) ?_
      refine lv_if_lt (tgt := 171) hx hb dX12_one_151 (by decide) (fun c16 => ?_) (fun c16 => ?_)
      · have c16 := ci_lt c16
        refine lv_iconst (v := 0) hx hb dX12_one_171 (by decide) ?_
        refine lv_istore_n (lv' := [(3, .int 0), (2, .int x13), (1, .int x2), (0, .ref a12)]) hx hb dX12_one_172 rfl hl (by decide) rfl (fun ls hl => ?_)
        refine lv_iconst (v := 0) hx hb dX12_one_173 (by decide) ?_
        refine lv_istore (lv' := [(4, .int 0), (3, .int 0), (2, .int x13), (1, .int x2), (0, .ref a12)]) hx hb dX12_one_174 hl (by decide) rfl (fun ls hl => ?_)
        have lp176 : ∀ (n176 : Nat) (k17 : Int32) (k18 : Int32) (v19 : Int32), (v12_at.toInt ≤ v19.toInt ∧ v19.toInt ≤ v12_ends.toInt) → (v12_fault.toInt < 0 ∨ 0 ≤ v12_fault.toInt) → (0 ≤ k17.toInt ∧ k17.toInt ≤ 4) → (4 - k17.toInt).toNat < n176 → ∀ (H : Heap) (locs : List Loc), va_P D vwCl [O12 a12 r12 v12_keptMany v12_done v12_sheets v12_holes v12_worms v12_laidMany v12_wanted v12_orderMany v12_firstOrder v12_lines v12_marks v12_dots v12_madeIn v12_bound v12_places v12_maps v12_tapeMany v12_stories v12_base v19 v12_ends v12_fault v12_opened v12_bodies v12_ran v12_ownKind v12_ownNumber, (cI κ (r12 41) 120 f12_tape), (cI κ (r12 45) 720 f12_text), (cI κ (r12 52) 8 f12_names)] H → va_D A [O12 a12 r12 v12_keptMany v12_done v12_sheets v12_holes v12_worms v12_laidMany v12_wanted v12_orderMany v12_firstOrder v12_lines v12_marks v12_dots v12_madeIn v12_bound v12_places v12_maps v12_tapeMany v12_stories v12_base v19 v12_ends v12_fault v12_opened v12_bodies v12_ran v12_ownKind v12_ownNumber, (cI κ (r12 41) 120 f12_tape), (cI κ (r12 45) 720 f12_text), (cI κ (r12 52) 8 f12_names)] → va_S A s.heap H locs → ∀ ls : Array Slot, lv_has ls 5 [(4, .int k17), (3, .int k18), (2, .int x13), (1, .int x2), (0, .ref a12)] → W p l e ({ frames := 6 * 0 + 2, cells := 0, slots := 0, locals := 137 * 0 + 60 } : Room) s m args below meth c H locs 0 0 Q (F0 m 176 ls []) := by
          intro n176
          induction n176 with
          | zero =>
            intro k17 k18 v19 h20 h21 h22 m23
            exact absurd m23 (Nat.not_lt_zero _)
          | succ n176 ih176 =>
            intro k17 k18 v19 h20 h21 h22 m23 H locs hP hD hS ls hl
            refine lv_iload hx hb dX12_one_176 (lv_at hl 0 rfl) ?_
            refine lv_iconst (v := 4) hx hb dX12_one_178 (by decide) ?_
            refine lv_icmp_ge (tgt := 229) hx hb dX12_one_179 (by decide) (fun c24 => ?_) (fun c24 => ?_)
            · have c24 := ci_le c24
              refine lv_iload hx hb dX12_one_229 (lv_at hl 0 rfl) ?_
              refine lv_if_ne (tgt := 241) hx hb dX12_one_231 (by decide) (fun c25 => ?_) (fun c25 => ?_)
              · have c25 := ci_ne c25
                refine lv_iload_n hx hb dX12_one_241 rfl (lv_at hl 1 rfl) ?_
                have hpo : (v12_at.toInt ≤ v19.toInt ∧ v19.toInt ≤ v12_ends.toInt) ∧ (v12_opened.toInt ≤ v12_opened.toInt ∧ v12_opened.toInt ≤ 6 ∧ (0 ≤ v12_fault.toInt ∨ v12_opened.toInt = v12_opened.toInt)) ∧ (v12_fault.toInt < 0 ∨ 0 ≤ v12_fault.toInt) := ⟨(by omega), (by omega), (by omega)⟩
                exact ret _ _ _ _ k18 (v19, v12_fault, v12_opened) dX12_one_242 hpo hP hD hS
              have c25 := ci_eq c25
              refine lv_aload_n hx hb dX12_one_234 rfl (lv_at hl 4 rfl) ?_
              refine kcm_i hA hAB hP hD hS [true, false, false, false] rfl (fun _ => rfl) (fun hPc hDc => va_runV (As := []) (rest := []) ⟨hx, hb, hml, hown, hts⟩ (k_X12_wrong l D κ β a12 r12 v12_keptMany v12_done v12_sheets v12_holes v12_worms v12_laidMany v12_wanted v12_orderMany v12_firstOrder v12_lines v12_marks v12_dots v12_madeIn v12_bound v12_places v12_maps v12_tapeMany v12_stories v12_base v19 v12_ends v12_fault v12_opened v12_bodies v12_ran v12_ownKind v12_ownNumber H.size i1 i2 i3 i4 i5 i6 i7 i8 i9 i10 i11 i12 i13 i14 i15 i16 i17 (by omega)) (cwV 0 hts gX12_one_X12_wrong rfl rfl rfl (by decide +kernel) ⟨by dsimp only; omega, by dsimp only; omega⟩) (pk_V hK hS hAB hPc hDc 0 (ci := 12) rfl rfl rfl) rfl rfl hl.1 rfl (lv_room (Nat.le_of_ble_eq_true rfl)) dX12_one_235 ⟨Nat.le_of_ble_eq_true rfl, Nat.le_of_ble_eq_true rfl⟩) (fun x27 x26 H locs hw hPD hS => ?_)
              have h28 : 0 ≤ x26.toInt := hw
              obtain ⟨hP, hD⟩ : PD D A [O12 a12 r12 v12_keptMany v12_done v12_sheets v12_holes v12_worms v12_laidMany v12_wanted v12_orderMany v12_firstOrder v12_lines v12_marks v12_dots v12_madeIn v12_bound v12_places v12_maps v12_tapeMany v12_stories v12_base v19 v12_ends x26 v12_opened v12_bodies v12_ran v12_ownKind v12_ownNumber, (cI κ (r12 41) 120 f12_tape), (cI κ (r12 45) 720 f12_text), (cI κ (r12 52) 8 f12_names)] H := hPD
              refine lv_goto (tgt := 242) hx hb dX12_one_238 (by decide) ?_
              have hpo : (v12_at.toInt ≤ v19.toInt ∧ v19.toInt ≤ v12_ends.toInt) ∧ (v12_opened.toInt ≤ v12_opened.toInt ∧ v12_opened.toInt ≤ 6 ∧ (0 ≤ x26.toInt ∨ v12_opened.toInt = v12_opened.toInt)) ∧ (v12_fault.toInt < 0 ∨ 0 ≤ x26.toInt) := ⟨(by omega), (by omega), (by omega)⟩
              exact ret _ _ _ _ x27 (v19, x26, v12_opened) dX12_one_242 hpo hP hD hS
            have c24 := ci_nle c24
            refine lv_aload_n hx hb dX12_one_182 rfl (lv_at hl 4 rfl) ?_
            refine kcm_i hA hAB hP hD hS [true, true, true, false] rfl (fun _ => rfl) (fun hPc hDc => va_runV (As := []) (rest := []) ⟨hx, hb, hml, hown, hts⟩ (k_X12_byteAt l D κ β a12 r12 v12_keptMany v12_done v12_sheets v12_holes v12_worms v12_laidMany v12_wanted v12_orderMany v12_firstOrder v12_lines v12_marks v12_dots v12_madeIn v12_bound v12_places v12_maps v12_tapeMany v12_stories v12_base v19 v12_ends v12_fault v12_opened v12_bodies v12_ran v12_ownKind v12_ownNumber f12_tape f12_text H.size i1 i2 i3 i4 i5 i6 i7 i8 i9 i10 i11 i12 i13 i14 i15 i16 i17 (by omega)) (cwV 0 hts gX12_one_X12_byteAt rfl rfl rfl (by decide +kernel) ⟨by dsimp only; omega, by dsimp only; omega⟩) (pk_V hK hS hAB hPc hDc 0 (ci := 12) rfl rfl rfl) rfl rfl hl.1 rfl (lv_room (Nat.le_of_ble_eq_true rfl)) dX12_one_183 ⟨Nat.le_of_ble_eq_true rfl, Nat.le_of_ble_eq_true rfl⟩) (fun x29 u30 H locs hw hPD hS => ?_)
            have h31 : x29.toInt = 0 ∨ v19.toInt < v12_ends.toInt := hw
            obtain ⟨hP, hD⟩ : PD D A [O12 a12 r12 v12_keptMany v12_done v12_sheets v12_holes v12_worms v12_laidMany v12_wanted v12_orderMany v12_firstOrder v12_lines v12_marks v12_dots v12_madeIn v12_bound v12_places v12_maps v12_tapeMany v12_stories v12_base v19 v12_ends v12_fault v12_opened v12_bodies v12_ran v12_ownKind v12_ownNumber, (cI κ (r12 41) 120 f12_tape), (cI κ (r12 45) 720 f12_text), (cI κ (r12 52) 8 f12_names)] H := hPD
            refine lv_bipush (v := 48) hx hb dX12_one_186 (by decide) ?_
            refine lv_icmp_lt (tgt := 229) hx hb dX12_one_188 (by decide) (fun c32 => ?_) (fun c32 => ?_)
            · have c32 := ci_lt c32
              refine lv_iload hx hb dX12_one_229 (lv_at hl 0 rfl) ?_
              refine lv_if_ne (tgt := 241) hx hb dX12_one_231 (by decide) (fun c33 => ?_) (fun c33 => ?_)
              · have c33 := ci_ne c33
                refine lv_iload_n hx hb dX12_one_241 rfl (lv_at hl 1 rfl) ?_
                have hpo : (v12_at.toInt ≤ v19.toInt ∧ v19.toInt ≤ v12_ends.toInt) ∧ (v12_opened.toInt ≤ v12_opened.toInt ∧ v12_opened.toInt ≤ 6 ∧ (0 ≤ v12_fault.toInt ∨ v12_opened.toInt = v12_opened.toInt)) ∧ (v12_fault.toInt < 0 ∨ 0 ≤ v12_fault.toInt) := ⟨(by omega), (by omega), (by omega)⟩
                exact ret _ _ _ _ k18 (v19, v12_fault, v12_opened) dX12_one_242 hpo hP hD hS
              have c33 := ci_eq c33
              refine lv_aload_n hx hb dX12_one_234 rfl (lv_at hl 4 rfl) ?_
              refine kcm_i hA hAB hP hD hS [true, false, false, false] rfl (fun _ => rfl) (fun hPc hDc => va_runV (As := []) (rest := []) ⟨hx, hb, hml, hown, hts⟩ (k_X12_wrong l D κ β a12 r12 v12_keptMany v12_done v12_sheets v12_holes v12_worms v12_laidMany v12_wanted v12_orderMany v12_firstOrder v12_lines v12_marks v12_dots v12_madeIn v12_bound v12_places v12_maps v12_tapeMany v12_stories v12_base v19 v12_ends v12_fault v12_opened v12_bodies v12_ran v12_ownKind v12_ownNumber H.size i1 i2 i3 i4 i5 i6 i7 i8 i9 i10 i11 i12 i13 i14 i15 i16 i17 (by omega)) (cwV 0 hts gX12_one_X12_wrong rfl rfl rfl (by decide +kernel) ⟨by dsimp only; omega, by dsimp only; omega⟩) (pk_V hK hS hAB hPc hDc 0 (ci := 12) rfl rfl rfl) rfl rfl hl.1 rfl (lv_room (Nat.le_of_ble_eq_true rfl)) dX12_one_235 ⟨Nat.le_of_ble_eq_true rfl, Nat.le_of_ble_eq_true rfl⟩) (fun x35 x34 H locs hw hPD hS => ?_)
              have h36 : 0 ≤ x34.toInt := hw
              obtain ⟨hP, hD⟩ : PD D A [O12 a12 r12 v12_keptMany v12_done v12_sheets v12_holes v12_worms v12_laidMany v12_wanted v12_orderMany v12_firstOrder v12_lines v12_marks v12_dots v12_madeIn v12_bound v12_places v12_maps v12_tapeMany v12_stories v12_base v19 v12_ends x34 v12_opened v12_bodies v12_ran v12_ownKind v12_ownNumber, (cI κ (r12 41) 120 f12_tape), (cI κ (r12 45) 720 f12_text), (cI κ (r12 52) 8 f12_names)] H := hPD
              refine lv_goto (tgt := 242) hx hb dX12_one_238 (by decide) ?_
              have hpo : (v12_at.toInt ≤ v19.toInt ∧ v19.toInt ≤ v12_ends.toInt) ∧ (v12_opened.toInt ≤ v12_opened.toInt ∧ v12_opened.toInt ≤ 6 ∧ (0 ≤ x34.toInt ∨ v12_opened.toInt = v12_opened.toInt)) ∧ (v12_fault.toInt < 0 ∨ 0 ≤ x34.toInt) := ⟨(by omega), (by omega), (by omega)⟩
              exact ret _ _ _ _ x35 (v19, x34, v12_opened) dX12_one_242 hpo hP hD hS
            have c32 := ci_nlt c32
            refine lv_aload_n hx hb dX12_one_191 rfl (lv_at hl 4 rfl) ?_
            refine kcm_i hA hAB hP hD hS [true, true, true, false] rfl (fun _ => rfl) (fun hPc hDc => va_runV (As := []) (rest := []) ⟨hx, hb, hml, hown, hts⟩ (k_X12_byteAt l D κ β a12 r12 v12_keptMany v12_done v12_sheets v12_holes v12_worms v12_laidMany v12_wanted v12_orderMany v12_firstOrder v12_lines v12_marks v12_dots v12_madeIn v12_bound v12_places v12_maps v12_tapeMany v12_stories v12_base v19 v12_ends v12_fault v12_opened v12_bodies v12_ran v12_ownKind v12_ownNumber f12_tape f12_text H.size i1 i2 i3 i4 i5 i6 i7 i8 i9 i10 i11 i12 i13 i14 i15 i16 i17 (by omega)) (cwV 0 hts gX12_one_X12_byteAt rfl rfl rfl (by decide +kernel) ⟨by dsimp only; omega, by dsimp only; omega⟩) (pk_V hK hS hAB hPc hDc 0 (ci := 12) rfl rfl rfl) rfl rfl hl.1 rfl (lv_room (Nat.le_of_ble_eq_true rfl)) dX12_one_192 ⟨Nat.le_of_ble_eq_true rfl, Nat.le_of_ble_eq_true rfl⟩) (fun x37 u38 H locs hw hPD hS => ?_)
            have h39 : x37.toInt = 0 ∨ v19.toInt < v12_ends.toInt := hw
            obtain ⟨hP, hD⟩ : PD D A [O12 a12 r12 v12_keptMany v12_done v12_sheets v12_holes v12_worms v12_laidMany v12_wanted v12_orderMany v12_firstOrder v12_lines v12_marks v12_dots v12_madeIn v12_bound v12_places v12_maps v12_tapeMany v12_stories v12_base v19 v12_ends v12_fault v12_opened v12_bodies v12_ran v12_ownKind v12_ownNumber, (cI κ (r12 41) 120 f12_tape), (cI κ (r12 45) 720 f12_text), (cI κ (r12 52) 8 f12_names)] H := hPD
            refine lv_bipush (v := 57) hx hb dX12_one_195 (by decide) ?_
            refine lv_icmp_gt (tgt := 229) hx hb dX12_one_197 (by decide) (fun c40 => ?_) (fun c40 => ?_)
            · have c40 := ci_lt c40
              refine lv_iload hx hb dX12_one_229 (lv_at hl 0 rfl) ?_
              refine lv_if_ne (tgt := 241) hx hb dX12_one_231 (by decide) (fun c41 => ?_) (fun c41 => ?_)
              · have c41 := ci_ne c41
                refine lv_iload_n hx hb dX12_one_241 rfl (lv_at hl 1 rfl) ?_
                have hpo : (v12_at.toInt ≤ v19.toInt ∧ v19.toInt ≤ v12_ends.toInt) ∧ (v12_opened.toInt ≤ v12_opened.toInt ∧ v12_opened.toInt ≤ 6 ∧ (0 ≤ v12_fault.toInt ∨ v12_opened.toInt = v12_opened.toInt)) ∧ (v12_fault.toInt < 0 ∨ 0 ≤ v12_fault.toInt) := ⟨(by omega), (by omega), (by omega)⟩
                exact ret _ _ _ _ k18 (v19, v12_fault, v12_opened) dX12_one_242 hpo hP hD hS
              have c41 := ci_eq c41
              refine lv_aload_n hx hb dX12_one_234 rfl (lv_at hl 4 rfl) ?_
              refine kcm_i hA hAB hP hD hS [true, false, false, false] rfl (fun _ => rfl) (fun hPc hDc => va_runV (As := []) (rest := []) ⟨hx, hb, hml, hown, hts⟩ (k_X12_wrong l D κ β a12 r12 v12_keptMany v12_done v12_sheets v12_holes v12_worms v12_laidMany v12_wanted v12_orderMany v12_firstOrder v12_lines v12_marks v12_dots v12_madeIn v12_bound v12_places v12_maps v12_tapeMany v12_stories v12_base v19 v12_ends v12_fault v12_opened v12_bodies v12_ran v12_ownKind v12_ownNumber H.size i1 i2 i3 i4 i5 i6 i7 i8 i9 i10 i11 i12 i13 i14 i15 i16 i17 (by omega)) (cwV 0 hts gX12_one_X12_wrong rfl rfl rfl (by decide +kernel) ⟨by dsimp only; omega, by dsimp only; omega⟩) (pk_V hK hS hAB hPc hDc 0 (ci := 12) rfl rfl rfl) rfl rfl hl.1 rfl (lv_room (Nat.le_of_ble_eq_true rfl)) dX12_one_235 ⟨Nat.le_of_ble_eq_true rfl, Nat.le_of_ble_eq_true rfl⟩) (fun x43 x42 H locs hw hPD hS => ?_)
              have h44 : 0 ≤ x42.toInt := hw
              obtain ⟨hP, hD⟩ : PD D A [O12 a12 r12 v12_keptMany v12_done v12_sheets v12_holes v12_worms v12_laidMany v12_wanted v12_orderMany v12_firstOrder v12_lines v12_marks v12_dots v12_madeIn v12_bound v12_places v12_maps v12_tapeMany v12_stories v12_base v19 v12_ends x42 v12_opened v12_bodies v12_ran v12_ownKind v12_ownNumber, (cI κ (r12 41) 120 f12_tape), (cI κ (r12 45) 720 f12_text), (cI κ (r12 52) 8 f12_names)] H := hPD
              refine lv_goto (tgt := 242) hx hb dX12_one_238 (by decide) ?_
              have hpo : (v12_at.toInt ≤ v19.toInt ∧ v19.toInt ≤ v12_ends.toInt) ∧ (v12_opened.toInt ≤ v12_opened.toInt ∧ v12_opened.toInt ≤ 6 ∧ (0 ≤ x42.toInt ∨ v12_opened.toInt = v12_opened.toInt)) ∧ (v12_fault.toInt < 0 ∨ 0 ≤ x42.toInt) := ⟨(by omega), (by omega), (by omega)⟩
              exact ret _ _ _ _ x43 (v19, x42, v12_opened) dX12_one_242 hpo hP hD hS
            have c40 := ci_nlt c40
            refine lv_bipush (v := 10) hx hb dX12_one_200 (by decide) ?_
            refine lv_iload_n hx hb dX12_one_202 rfl (lv_at hl 1 rfl) ?_
            refine lv_imul hx hb dX12_one_203 ?_
            refine lv_topi (fun x45 e46 => ?_)
            try have h47 : x45.toInt = 10 * k18.toInt := ci_mulL (n := 10) (by decide) e46 (by omega) (by omega)
            refine lv_aload_n hx hb dX12_one_204 rfl (lv_at hl 4 rfl) ?_
            refine kcm_i hA hAB hP hD hS [true, true, true, false] rfl (fun _ => rfl) (fun hPc hDc => va_runV (As := []) (rest := [.int x45]) ⟨hx, hb, hml, hown, hts⟩ (k_X12_byteAt l D κ β a12 r12 v12_keptMany v12_done v12_sheets v12_holes v12_worms v12_laidMany v12_wanted v12_orderMany v12_firstOrder v12_lines v12_marks v12_dots v12_madeIn v12_bound v12_places v12_maps v12_tapeMany v12_stories v12_base v19 v12_ends v12_fault v12_opened v12_bodies v12_ran v12_ownKind v12_ownNumber f12_tape f12_text H.size i1 i2 i3 i4 i5 i6 i7 i8 i9 i10 i11 i12 i13 i14 i15 i16 i17 (by omega)) (cwV 0 hts gX12_one_X12_byteAt rfl rfl rfl (by decide +kernel) ⟨by dsimp only; omega, by dsimp only; omega⟩) (pk_V hK hS hAB hPc hDc 0 (ci := 12) rfl rfl rfl) rfl rfl hl.1 rfl (lv_room (Nat.le_of_ble_eq_true rfl)) dX12_one_205 ⟨Nat.le_of_ble_eq_true rfl, Nat.le_of_ble_eq_true rfl⟩) (fun x48 u49 H locs hw hPD hS => ?_)
            have h50 : x48.toInt = 0 ∨ v19.toInt < v12_ends.toInt := hw
            obtain ⟨hP, hD⟩ : PD D A [O12 a12 r12 v12_keptMany v12_done v12_sheets v12_holes v12_worms v12_laidMany v12_wanted v12_orderMany v12_firstOrder v12_lines v12_marks v12_dots v12_madeIn v12_bound v12_places v12_maps v12_tapeMany v12_stories v12_base v19 v12_ends v12_fault v12_opened v12_bodies v12_ran v12_ownKind v12_ownNumber, (cI κ (r12 41) 120 f12_tape), (cI κ (r12 45) 720 f12_text), (cI κ (r12 52) 8 f12_names)] H := hPD
            refine lv_iadd hx hb dX12_one_208 ?_
            refine lv_topi (fun x51 e52 => ?_)
            try have h53 : x51.toInt = x45.toInt + x48.toInt := ci_add e52 (by omega) (by omega)
            refine lv_bipush (v := 48) hx hb dX12_one_209 (by decide) ?_
            refine lv_isub hx hb dX12_one_211 ?_
            refine lv_topi (fun x54 e55 => ?_)
            try have h56 : x54.toInt = x51.toInt - (48 : Int32).toInt := ci_sub e55 (by omega) (by omega)
            refine lv_istore_n (lv' := [(3, .int x54), (4, .int k17), (2, .int x13), (1, .int x2), (0, .ref a12)]) hx hb dX12_one_212 rfl hl (by decide) rfl (fun ls hl => ?_)
            obtain ⟨x57, e58⟩ : ∃ y : Int32, y = k17 + 1 := ⟨_, rfl⟩
            refine lv_iinc (v := x57) (lv' := [(4, .int x57), (3, .int x54), (2, .int x13), (1, .int x2), (0, .ref a12)]) hx hb dX12_one_213 hl (k := 1) rfl (by rw [e58]; rfl) (by decide) rfl (fun ls hl => ?_)
            try have h59 : x57.toInt = k17.toInt + (1 : Int32).toInt := ci_add e58 (by omega) (by omega)
            refine lv_aload_n hx hb dX12_one_216 rfl (lv_at hl 4 rfl) ?_
            refine lv_dup hx hb dX12_one_217 rfl ?_
            refine va_get (D := D) (ci := 12) (v := .int v19) (C := RX12) (T := TX12) (N := 63) hx hb hts w1 hown hK.1 hP 0 rfl rfl 48 (by decide) w3 (fun _ h9 => h9) rfl dX12_one_218 ?_
            refine lv_iconst (v := 1) hx hb dX12_one_221 (by decide) ?_
            refine lv_iadd hx hb dX12_one_222 ?_
            refine lv_topi (fun x60 e61 => ?_)
            try have h62 : x60.toInt = v19.toInt + (1 : Int32).toInt := ci_add e61 (by omega) (by omega)
            refine va_put (D := D) (ci := 12) (v := .int x60) (ty := .int) (C := RX12) (T := TX12) (N := 63) hx hb hts w1 tyX12 tyX12_ok nmX12 hown hK.1 hP hD hS 0 rfl rfl 48 (by decide) w3 (fun _ h9 => h9) rfl (by decide +kernel) rfl rfl (Nat.le_of_ble_eq_true rfl) dX12_one_223 (fun H locs hP hD hS => ?_)
            obtain ⟨hP, hD⟩ : PD D A [O12 a12 r12 v12_keptMany v12_done v12_sheets v12_holes v12_worms v12_laidMany v12_wanted v12_orderMany v12_firstOrder v12_lines v12_marks v12_dots v12_madeIn v12_bound v12_places v12_maps v12_tapeMany v12_stories v12_base x60 v12_ends v12_fault v12_opened v12_bodies v12_ran v12_ownKind v12_ownNumber, (cI κ (r12 41) 120 f12_tape), (cI κ (r12 45) 720 f12_text), (cI κ (r12 52) 8 f12_names)] H := ⟨hP, hD⟩
            refine lv_goto (tgt := 176) hx hb dX12_one_226 (by decide) ?_
            exact ih176 x57 x54 x60 (by omega) (by omega) (by omega) (by omega) _ _ hP hD hS _ hl
        exact lp176 ((4 - (0 : Int32).toInt).toNat + 1) 0 0 v12_at (by omega) (by omega) (by omega) (by omega) _ _ hP hD hS _ hl
      have c16 := ci_nlt c16
      refine lv_aload_n hx hb dX12_one_154 rfl (lv_at hl 2 rfl) ?_
      refine lv_dup hx hb dX12_one_155 rfl ?_
      refine va_get (D := D) (ci := 12) (v := .int v12_at) (C := RX12) (T := TX12) (N := 63) hx hb hts w1 hown hK.1 hP 0 rfl rfl 48 (by decide) w3 (fun _ h9 => h9) rfl dX12_one_156 ?_
      refine lv_iconst (v := 1) hx hb dX12_one_159 (by decide) ?_
      refine lv_iadd hx hb dX12_one_160 ?_
      refine lv_topi (fun x63 e64 => ?_)
      try have h65 : x63.toInt = v12_at.toInt + (1 : Int32).toInt := ci_add e64 (by omega) (by omega)
      refine va_put (D := D) (ci := 12) (v := .int x63) (ty := .int) (C := RX12) (T := TX12) (N := 63) hx hb hts w1 tyX12 tyX12_ok nmX12 hown hK.1 hP hD hS 0 rfl rfl 48 (by decide) w3 (fun _ h9 => h9) rfl (by decide +kernel) rfl rfl (Nat.le_of_ble_eq_true rfl) dX12_one_161 (fun H locs hP hD hS => ?_)
      obtain ⟨hP, hD⟩ : PD D A [O12 a12 r12 v12_keptMany v12_done v12_sheets v12_holes v12_worms v12_laidMany v12_wanted v12_orderMany v12_firstOrder v12_lines v12_marks v12_dots v12_madeIn v12_bound v12_places v12_maps v12_tapeMany v12_stories v12_base x63 v12_ends v12_fault v12_opened v12_bodies v12_ran v12_ownKind v12_ownNumber, (cI κ (r12 41) 120 f12_tape), (cI κ (r12 45) 720 f12_text), (cI κ (r12 52) 8 f12_names)] H := ⟨hP, hD⟩
      refine lv_aload_n hx hb dX12_one_164 rfl (lv_at hl 2 rfl) ?_
      refine va_get (D := D) (ci := 12) (v := .ref (r12 52)) (C := RX12) (T := TX12) (N := 63) hx hb hts w1 hown hK.1 hP 0 rfl rfl 52 (by decide) w4 (fun _ h9 => h9) rfl dX12_one_165 ?_
      refine lv_iload_n hx hb dX12_one_168 rfl (lv_at hl 0 rfl) ?_
      refine va_iald hx hb hK.1 hP 3 1 rfl rfl (i := x13) (ix (by omega) (by omega)) dX12_one_169 ?_
      refine lv_topi (fun x66 e67 => ?_)
      have hpo : (v12_at.toInt ≤ x63.toInt ∧ x63.toInt ≤ v12_ends.toInt) ∧ (v12_opened.toInt ≤ v12_opened.toInt ∧ v12_opened.toInt ≤ 6 ∧ (0 ≤ v12_fault.toInt ∨ v12_opened.toInt = v12_opened.toInt)) ∧ (v12_fault.toInt < 0 ∨ 0 ≤ v12_fault.toInt) := ⟨(by omega), (by omega), (by omega)⟩
      exact ret _ _ _ _ x66 (x63, v12_fault, v12_opened) dX12_one_170 hpo hP hD hS
    have c12 := ci_eq c12
    exact lp32 (by omega) _ _ hP hD hS _ hl
  have c1 := ci_nlt c1
  refine lv_iconst (v := 0) hx hb dX12_one_7 (by decide) ?_
  have hpo : (v12_at.toInt ≤ v12_at.toInt ∧ v12_at.toInt ≤ v12_ends.toInt) ∧ (v12_opened.toInt ≤ v12_opened.toInt ∧ v12_opened.toInt ≤ 6 ∧ (0 ≤ v12_fault.toInt ∨ v12_opened.toInt = v12_opened.toInt)) ∧ (v12_fault.toInt < 0 ∨ 0 ≤ v12_fault.toInt) := ⟨(by omega), (by omega), (by omega)⟩
  exact ret _ _ _ _ 0 (v12_at, v12_fault, v12_opened) dX12_one_8 hpo hP hD hS
theorem k_X12_either_of (l : Launch) (D : va_G) (κ : Nat → ClassId) (β d : Nat) (h : C_X12_one l D κ β d) : C_X12_either l D κ β d :=
  of_X12_either l D κ β d (of_X12_both l D κ β d (of_X12_compared l D κ β d (of_X12_sums l D κ β d (of_X12_product l D κ β d h))))
theorem k_X12_one (l : Launch) (D : va_G) (κ : Nat → ClassId) (β : Nat) : ∀ d : Nat, C_X12_one l D κ β d
  | 0 => of_X12_one0 l D κ β
  | d + 1 => of_X12_one l D κ β d (k_X12_one l D κ β d) (k_X12_either_of l D κ β d (k_X12_one l D κ β d))
theorem k_X12_either (l : Launch) (D : va_G) (κ : Nat → ClassId) (β d : Nat) : C_X12_either l D κ β d := k_X12_either_of l D κ β d (k_X12_one l D κ β d)
