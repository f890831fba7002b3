set_option maxHeartbeats 4000000 in
set_option maxRecDepth 100000 in
theorem k_X12_liesAs_0 (l : Launch) (D : va_G) (κ : Nat → ClassId) (β : Nat) (a12 : Nat) (r12 : Nat → Nat) (v12_keptMany : Int32) (v12_done : Int32) (v12_sheets : Int32) (v12_holes : Int32) (v12_worms : Int32) (v12_laidMany : Int32) (v12_wanted : Int32) (v12_orderMany : Int32) (v12_firstOrder : Int32) (v12_lines : Int32) (v12_marks : Int32) (v12_dots : Int32) (v12_madeIn : Int32) (v12_bound : Int32) (v12_places : Int32) (v12_maps : Int32) (v12_tapeMany : Int32) (v12_stories : Int32) (v12_base : Int32) (v12_at : Int32) (v12_ends : Int32) (v12_fault : Int32) (v12_opened : Int32) (v12_bodies : Int32) (v12_ran : Int32) (v12_ownKind : Int32) (v12_ownNumber : Int32) (f12_trace : Nat → Int32) (sz : Nat) (p1 : Int32) (p2 : Int32) (i1 : Rg 0 40 v12_keptMany) (i2 : Rg 0 40 v12_done) (i3 : Rg 0 8 v12_sheets) (i4 : Rg 0 40 v12_holes) (i5 : Rg 0 40 v12_worms) (i6 : Rg 0 8 v12_laidMany) (i7 : Rg 0 8 v12_wanted) (i8 : Rg 0 20 v12_lines) (i9 : Rg 0 60 v12_marks) (i10 : Rg 0 40 v12_dots) (i11 : Rg 0 20 v12_places) (i12 : Rg 0 8 v12_maps) (i13 : Rg 0 120 v12_tapeMany) (i14 : Rg 0 6 v12_stories) (i15 : Rg 0 50 v12_bodies) (i16 : Rg 0 1000 v12_ran) (i17 : v12_done.toInt ≤ v12_keptMany.toInt) (i18 : p1.toInt = 0) (i19 : v12_ran.toInt ≤ 900) : Met l yX12_liesAs wsX12_liesAs ({ frames := 1, cells := 0, slots := 0, locals := 21 } : Room) (PcK D κ β [O12 a12 r12 v12_keptMany v12_done v12_sheets v12_holes v12_worms v12_laidMany v12_wanted v12_orderMany v12_firstOrder v12_lines v12_marks v12_dots v12_madeIn v12_bound v12_places v12_maps v12_tapeMany v12_stories v12_base v12_at v12_ends v12_fault v12_opened v12_bodies v12_ran v12_ownKind v12_ownNumber, (cI κ (r12 55) 24 f12_trace)] sz [.ref a12, .int p1, .int p2]) (QiK D (fun (r : Int32) (u : Int32 × (Nat → Int32)) => (0 ≤ u.1.toInt ∧ u.1.toInt ≤ 1000) ∧ (v12_ran.toInt ≤ u.1.toInt ∧ u.1.toInt ≤ v12_ran.toInt + 1)) (fun (u : Int32 × (Nat → Int32)) => [O12 a12 r12 v12_keptMany v12_done v12_sheets v12_holes v12_worms v12_laidMany v12_wanted v12_orderMany v12_firstOrder v12_lines v12_marks v12_dots v12_madeIn v12_bound v12_places v12_maps v12_tapeMany v12_stories v12_base v12_at v12_ends v12_fault v12_opened v12_bodies u.1 v12_ownKind v12_ownNumber, (cI κ (r12 55) 24 u.2)]) [O12 a12 r12 v12_keptMany v12_done v12_sheets v12_holes v12_worms v12_laidMany v12_wanted v12_orderMany v12_firstOrder v12_lines v12_marks v12_dots v12_madeIn v12_bound v12_places v12_maps v12_tapeMany v12_stories v12_base v12_at v12_ends v12_fault v12_opened v12_bodies v12_ran v12_ownKind v12_ownNumber, (cI κ (r12 55) 24 f12_trace)] sz) 0 0 (va_A [O12 a12 r12 v12_keptMany v12_done v12_sheets v12_holes v12_worms v12_laidMany v12_wanted v12_orderMany v12_firstOrder v12_lines v12_marks v12_dots v12_madeIn v12_bound v12_places v12_maps v12_tapeMany v12_stories v12_base v12_at v12_ends v12_fault v12_opened v12_bodies v12_ran v12_ownKind v12_ownNumber, (cI κ (r12 55) 24 f12_trace)] sz) := by
  refine ofK_i (cc := cX12_liesAs) (maxL := 3) (own := RX12) (by decide) rfl rfl (Nat.le_of_ble_eq_true rfl) ?_
  intro p e s m args below meth c Q A ls hsz hx hb hml hts hown hK hA hAB hP hD hl ret
  have hS : va_S A s.heap s.heap [] := va_S.rf
  have hl : lv_has ls 3 [(0, .ref a12), (1, .int p1), (2, .int p2)] := hl
  have w0 := hts (.fieldLink RX12 392 "OlderSkinModel" "ownNumber" "I") (List.mem_of_getElem? (i := 1) rfl)
  have w1 := (fun w h => List.mem_cons_of_mem _ (List.mem_append_right _ h) : ∀ w ∈ u_ws RX12 TX12 63, w ∈ wsX12_liesAs)
  have l0 : (1 : Int32).toInt = 1 := by decide
  have l1 : (0 : Int32).toInt = 0 := by decide
  have l2 : (3 : Int32).toInt = 3 := by decide
  have l3 : (6 : Int32).toInt = 6 := by decide
  have l4 : (7 : Int32).toInt = 7 := by decide
  have i16 : 0 ≤ v12_ran.toInt ∧ v12_ran.toInt ≤ 1000 := i16
  refine lv_iload_n hx hb dX12_liesAs_0 rfl (lv_at hl 1 rfl) ?_
  refine lv_iconst (v := 1) hx hb dX12_liesAs_1 (by decide) ?_
  refine lv_icmp_eq (tgt := 10) hx hb dX12_liesAs_2 (by decide) (fun c1 => ?_) (fun c1 => ?_)
  · have c1 := ci_eq c1
    exfalso
    omega
  have c1 := ci_ne c1
  refine lv_iload_n hx hb dX12_liesAs_5 rfl (lv_at hl 1 rfl) ?_
  refine lv_iconst (v := 3) hx hb dX12_liesAs_6 (by decide) ?_
  refine lv_icmp_ne (tgt := 25) hx hb dX12_liesAs_7 (by decide) (fun c2 => ?_) (fun c2 => ?_)
  · have c2 := ci_ne c2
    refine lv_iload_n hx hb dX12_liesAs_25 rfl (lv_at hl 1 rfl) ?_
    refine lv_bipush (v := 6) hx hb dX12_liesAs_26 (by decide) ?_
    refine lv_icmp_eq (tgt := 37) hx hb dX12_liesAs_28 (by decide) (fun c3 => ?_) (fun c3 => ?_)
    · have c3 := ci_eq c3
      exfalso
      omega
    have c3 := ci_ne c3
    refine lv_iload_n hx hb dX12_liesAs_31 rfl (lv_at hl 1 rfl) ?_
    refine lv_bipush (v := 7) hx hb dX12_liesAs_32 (by decide) ?_
    refine lv_icmp_ne (tgt := 52) hx hb dX12_liesAs_34 (by decide) (fun c4 => ?_) (fun c4 => ?_)
    · have c4 := ci_ne c4
      refine lv_aload_n hx hb dX12_liesAs_52 rfl (lv_at hl 0 rfl) ?_
      refine lv_iconst (v := 1) hx hb dX12_liesAs_53 (by decide) ?_
      refine kcm_v hA hAB hP hD hS [true, true] rfl (fun _ => rfl) (fun hPc hDc => va_runV (As := [.int 1]) (rest := []) ⟨hx, hb, hml, hown, hts⟩ (k_X12_begins l D κ β a12 r12 v12_keptMany v12_done v12_sheets v12_holes v12_worms v12_laidMany v12_wanted v12_orderMany v12_firstOrder v12_lines v12_marks v12_dots v12_madeIn v12_bound v12_places v12_maps v12_tapeMany v12_stories v12_base v12_at v12_ends v12_fault v12_opened v12_bodies v12_ran v12_ownKind v12_ownNumber f12_trace s.heap.size 1 i1 i2 i3 i4 i5 i6 i7 i8 i9 i10 i11 i12 i13 i14 i15 i16 i17 (by omega)) (cwV 1 hts gX12_liesAs_X12_begins rfl rfl rfl (by decide +kernel) ⟨Nat.le_of_ble_eq_true rfl, Nat.le_of_ble_eq_true rfl⟩) (pk_V hK hS hAB hPc hDc 0 (ci := 12) rfl rfl rfl) rfl rfl hl.1 rfl (lv_room (Nat.le_of_ble_eq_true rfl)) dX12_liesAs_54 ⟨Nat.le_of_ble_eq_true rfl, Nat.le_of_ble_eq_true rfl⟩) (fun u7 H locs hw hPD hS => ?_)
      obtain ⟨x5, g6⟩ := u7
      obtain ⟨h8, h9⟩ : (0 ≤ x5.toInt ∧ x5.toInt ≤ 1000) ∧ (x5.toInt = v12_ran.toInt + 1) := hw
      obtain ⟨hP, hD⟩ : PD D A [O12 a12 r12 v12_keptMany v12_done v12_sheets v12_holes v12_worms v12_laidMany v12_wanted v12_orderMany v12_firstOrder v12_lines v12_marks v12_dots v12_madeIn v12_bound v12_places v12_maps v12_tapeMany v12_stories v12_base v12_at v12_ends v12_fault v12_opened v12_bodies x5 v12_ownKind v12_ownNumber, (cI κ (r12 55) 24 g6)] H := hPD
      refine lv_iload_n hx hb dX12_liesAs_57 rfl (lv_at hl 2 rfl) ?_
      refine lv_aload_n hx hb dX12_liesAs_58 rfl (lv_at hl 0 rfl) ?_
      refine va_get (D := D) (ci := 12) (v := .int v12_ownNumber) (C := RX12) (T := TX12) (N := 63) hx hb hts w1 hown hK.1 hP 0 rfl rfl 58 (by decide) w0 (fun _ h9 => h9) rfl dX12_liesAs_59 ?_
      refine lv_iadd hx hb dX12_liesAs_62 ?_
      refine lv_topi (fun x10 e11 => ?_)
      try have h12 : x10.toInt = p2.toInt + v12_ownNumber.toInt := ci_add e11 (by omega) (by omega)
      have hpo : (0 ≤ x5.toInt ∧ x5.toInt ≤ 1000) ∧ (v12_ran.toInt ≤ x5.toInt ∧ x5.toInt ≤ v12_ran.toInt + 1) := ⟨h8, (by omega)⟩
      exact ret _ _ _ _ x10 (x5, g6) dX12_liesAs_63 hpo hP hD hS
    have c4 := ci_eq c4
    exfalso
    omega
  have c2 := ci_eq c2
  exfalso
  omega
set_option maxHeartbeats 4000000 in
set_option maxRecDepth 100000 in
theorem k_X12_liesAs (l : Launch) (D : va_G) (κ : Nat → ClassId) (β : Nat) (a12 : Nat) (r12 : Nat → Nat) (v12_keptMany : Int32) (v12_done : Int32) (v12_sheets : Int32) (v12_holes : Int32) (v12_worms : Int32) (v12_laidMany : Int32) (v12_wanted : Int32) (v12_orderMany : Int32) (v12_firstOrder : Int32) (v12_lines : Int32) (v12_marks : Int32) (v12_dots : Int32) (v12_madeIn : Int32) (v12_bound : Int32) (v12_places : Int32) (v12_maps : Int32) (v12_tapeMany : Int32) (v12_stories : Int32) (v12_base : Int32) (v12_at : Int32) (v12_ends : Int32) (v12_fault : Int32) (v12_opened : Int32) (v12_bodies : Int32) (v12_ran : Int32) (v12_ownKind : Int32) (v12_ownNumber : Int32) (f12_trace : Nat → Int32) (sz : Nat) (p1 : Int32) (p2 : Int32) (i1 : Rg 0 40 v12_keptMany) (i2 : Rg 0 40 v12_done) (i3 : Rg 0 8 v12_sheets) (i4 : Rg 0 40 v12_holes) (i5 : Rg 0 40 v12_worms) (i6 : Rg 0 8 v12_laidMany) (i7 : Rg 0 8 v12_wanted) (i8 : Rg 0 20 v12_lines) (i9 : Rg 0 60 v12_marks) (i10 : Rg 0 40 v12_dots) (i11 : Rg 0 20 v12_places) (i12 : Rg 0 8 v12_maps) (i13 : Rg 0 120 v12_tapeMany) (i14 : Rg 0 6 v12_stories) (i15 : Rg 0 50 v12_bodies) (i16 : Rg 0 1000 v12_ran) (i17 : v12_done.toInt ≤ v12_keptMany.toInt) (i18 : v12_ran.toInt ≤ 890) : Met l yX12_liesAs wsX12_liesAs ({ frames := 2, cells := 0, slots := 0, locals := 43 } : Room) (PcK D κ β [O12 a12 r12 v12_keptMany v12_done v12_sheets v12_holes v12_worms v12_laidMany v12_wanted v12_orderMany v12_firstOrder v12_lines v12_marks v12_dots v12_madeIn v12_bound v12_places v12_maps v12_tapeMany v12_stories v12_base v12_at v12_ends v12_fault v12_opened v12_bodies v12_ran v12_ownKind v12_ownNumber, (cI κ (r12 55) 24 f12_trace)] sz [.ref a12, .int p1, .int p2]) (QiK D (fun (r : Int32) (u : Int32 × (Nat → Int32)) => (0 ≤ u.1.toInt ∧ u.1.toInt ≤ 1000) ∧ (v12_ran.toInt ≤ u.1.toInt ∧ u.1.toInt ≤ v12_ran.toInt + 2)) (fun (u : Int32 × (Nat → Int32)) => [O12 a12 r12 v12_keptMany v12_done v12_sheets v12_holes v12_worms v12_laidMany v12_wanted v12_orderMany v12_firstOrder v12_lines v12_marks v12_dots v12_madeIn v12_bound v12_places v12_maps v12_tapeMany v12_stories v12_base v12_at v12_ends v12_fault v12_opened v12_bodies u.1 v12_ownKind v12_ownNumber, (cI κ (r12 55) 24 u.2)]) [O12 a12 r12 v12_keptMany v12_done v12_sheets v12_holes v12_worms v12_laidMany v12_wanted v12_orderMany v12_firstOrder v12_lines v12_marks v12_dots v12_madeIn v12_bound v12_places v12_maps v12_tapeMany v12_stories v12_base v12_at v12_ends v12_fault v12_opened v12_bodies v12_ran v12_ownKind v12_ownNumber, (cI κ (r12 55) 24 f12_trace)] sz) 0 0 (va_A [O12 a12 r12 v12_keptMany v12_done v12_sheets v12_holes v12_worms v12_laidMany v12_wanted v12_orderMany v12_firstOrder v12_lines v12_marks v12_dots v12_madeIn v12_bound v12_places v12_maps v12_tapeMany v12_stories v12_base v12_at v12_ends v12_fault v12_opened v12_bodies v12_ran v12_ownKind v12_ownNumber, (cI κ (r12 55) 24 f12_trace)] sz) := by
  refine ofK_i (cc := cX12_liesAs) (maxL := 3) (own := RX12) (by decide) rfl rfl (Nat.le_of_ble_eq_true rfl) ?_
  intro p e s m args below meth c Q A ls hsz hx hb hml hts hown hK hA hAB hP hD hl ret
  have hS : va_S A s.heap s.heap [] := va_S.rf
  have hl : lv_has ls 3 [(0, .ref a12), (1, .int p1), (2, .int p2)] := hl
  have w0 := hts (.fieldLink RX12 392 "OlderSkinModel" "ownNumber" "I") (List.mem_of_getElem? (i := 1) rfl)
  have w1 := (fun w h => List.mem_cons_of_mem _ (List.mem_append_right _ h) : ∀ w ∈ u_ws RX12 TX12 63, w ∈ wsX12_liesAs)
  have l0 : (1 : Int32).toInt = 1 := by decide
  have l1 : (0 : Int32).toInt = 0 := by decide
  have l2 : (20 : Int32).toInt = 20 := by decide
  have l3 : (3 : Int32).toInt = 3 := by decide
  have l4 : (6 : Int32).toInt = 6 := by decide
  have l5 : (70 : Int32).toInt = 70 := by decide
  have l6 : (2 : Int32).toInt = 2 := by decide
  have l7 : (7 : Int32).toInt = 7 := by decide
  have i16 : 0 ≤ v12_ran.toInt ∧ v12_ran.toInt ≤ 1000 := i16
  refine lv_iload_n hx hb dX12_liesAs_0 rfl (lv_at hl 1 rfl) ?_
  refine lv_iconst (v := 1) hx hb dX12_liesAs_1 (by decide) ?_
  refine lv_icmp_eq (tgt := 10) hx hb dX12_liesAs_2 (by decide) (fun c1 => ?_) (fun c1 => ?_)
  · have c1 := ci_eq c1
    refine lv_aload_n hx hb dX12_liesAs_10 rfl (lv_at hl 0 rfl) ?_
    refine lv_bipush (v := 20) hx hb dX12_liesAs_11 (by decide) ?_
    refine kcm_v hA hAB hP hD hS [true, true] rfl (fun _ => rfl) (fun hPc hDc => va_runV (As := [.int 20]) (rest := []) ⟨hx, hb, hml, hown, hts⟩ (k_X12_begins l D κ β a12 r12 v12_keptMany v12_done v12_sheets v12_holes v12_worms v12_laidMany v12_wanted v12_orderMany v12_firstOrder v12_lines v12_marks v12_dots v12_madeIn v12_bound v12_places v12_maps v12_tapeMany v12_stories v12_base v12_at v12_ends v12_fault v12_opened v12_bodies v12_ran v12_ownKind v12_ownNumber f12_trace s.heap.size 20 i1 i2 i3 i4 i5 i6 i7 i8 i9 i10 i11 i12 i13 i14 i15 i16 i17 (by omega)) (cwV 1 hts gX12_liesAs_X12_begins rfl rfl rfl (by decide +kernel) ⟨Nat.le_of_ble_eq_true rfl, Nat.le_of_ble_eq_true rfl⟩) (pk_V hK hS hAB hPc hDc 0 (ci := 12) rfl rfl rfl) rfl rfl hl.1 rfl (lv_room (Nat.le_of_ble_eq_true rfl)) dX12_liesAs_13 ⟨Nat.le_of_ble_eq_true rfl, Nat.le_of_ble_eq_true rfl⟩) (fun u4 H locs hw hPD hS => ?_)
    obtain ⟨x2, g3⟩ := u4
    obtain ⟨h5, h6⟩ : (0 ≤ x2.toInt ∧ x2.toInt ≤ 1000) ∧ (x2.toInt = v12_ran.toInt + 1) := hw
    obtain ⟨hP, hD⟩ : PD D A [O12 a12 r12 v12_keptMany v12_done v12_sheets v12_holes v12_worms v12_laidMany v12_wanted v12_orderMany v12_firstOrder v12_lines v12_marks v12_dots v12_madeIn v12_bound v12_places v12_maps v12_tapeMany v12_stories v12_base v12_at v12_ends v12_fault v12_opened v12_bodies x2 v12_ownKind v12_ownNumber, (cI κ (r12 55) 24 g3)] H := hPD
    refine lv_aload_n hx hb dX12_liesAs_16 rfl (lv_at hl 0 rfl) ?_
    refine lv_iconst (v := 0) hx hb dX12_liesAs_17 (by decide) ?_
    refine lv_iload_n hx hb dX12_liesAs_18 rfl (lv_at hl 2 rfl) ?_
    refine kcm_i hA hAB hP hD hS [true, true] rfl (fun _ => rfl) (fun hPc hDc => va_runV (As := [.int 0, .int p2]) (rest := []) ⟨hx, hb, hml, hown, hts⟩ (k_X12_liesAs_0 l D κ β a12 r12 v12_keptMany v12_done v12_sheets v12_holes v12_worms v12_laidMany v12_wanted v12_orderMany v12_firstOrder v12_lines v12_marks v12_dots v12_madeIn v12_bound v12_places v12_maps v12_tapeMany v12_stories v12_base v12_at v12_ends v12_fault v12_opened v12_bodies x2 v12_ownKind v12_ownNumber g3 H.size 0 p2 i1 i2 i3 i4 i5 i6 i7 i8 i9 i10 i11 i12 i13 i14 i15 h5 i17 (by omega) (by omega)) (cwV 2 hts gX12_liesAs_X12_liesAs rfl rfl rfl (by decide +kernel) ⟨Nat.le_of_ble_eq_true rfl, Nat.le_of_ble_eq_true rfl⟩) (pk_V hK hS hAB hPc hDc 0 (ci := 12) rfl rfl rfl) rfl rfl hl.1 rfl (lv_room (Nat.le_of_ble_eq_true rfl)) dX12_liesAs_19 ⟨Nat.le_of_ble_eq_true rfl, Nat.le_of_ble_eq_true rfl⟩) (fun x9 u10 H locs hw hPD hS => ?_)
    obtain ⟨x7, g8⟩ := u10
    obtain ⟨h11, h12⟩ : (0 ≤ x7.toInt ∧ x7.toInt ≤ 1000) ∧ (x2.toInt ≤ x7.toInt ∧ x7.toInt ≤ x2.toInt + 1) := hw
    obtain ⟨hP, hD⟩ : PD D A [O12 a12 r12 v12_keptMany v12_done v12_sheets v12_holes v12_worms v12_laidMany v12_wanted v12_orderMany v12_firstOrder v12_lines v12_marks v12_dots v12_madeIn v12_bound v12_places v12_maps v12_tapeMany v12_stories v12_base v12_at v12_ends v12_fault v12_opened v12_bodies x7 v12_ownKind v12_ownNumber, (cI κ (r12 55) 24 g8)] H := hPD
    refine lv_iconst (v := 3) hx hb dX12_liesAs_22 (by decide) ?_
    refine lv_iadd hx hb dX12_liesAs_23 ?_
    refine lv_topi (fun x13 e14 => ?_)
    try have h15 : x13.toInt = x9.toInt + (3 : Int32).toInt := ci_add e14 (by omega) (by omega)
    have hpo : (0 ≤ x7.toInt ∧ x7.toInt ≤ 1000) ∧ (v12_ran.toInt ≤ x7.toInt ∧ x7.toInt ≤ v12_ran.toInt + 2) := ⟨h11, (by omega)⟩
    exact ret _ _ _ _ x13 (x7, g8) dX12_liesAs_24 hpo hP hD hS
  have c1 := ci_ne c1
  refine lv_iload_n hx hb dX12_liesAs_5 rfl (lv_at hl 1 rfl) ?_
  refine lv_iconst (v := 3) hx hb dX12_liesAs_6 (by decide) ?_
  refine lv_icmp_ne (tgt := 25) hx hb dX12_liesAs_7 (by decide) (fun c16 => ?_) (fun c16 => ?_)
  · have c16 := ci_ne c16
    refine lv_iload_n hx hb dX12_liesAs_25 rfl (lv_at hl 1 rfl) ?_
    refine lv_bipush (v := 6) hx hb dX12_liesAs_26 (by decide) ?_
    refine lv_icmp_eq (tgt := 37) hx hb dX12_liesAs_28 (by decide) (fun c17 => ?_) (fun c17 => ?_)
    · have c17 := ci_eq c17
      refine lv_aload_n hx hb dX12_liesAs_37 rfl (lv_at hl 0 rfl) ?_
      refine lv_bipush (v := 70) hx hb dX12_liesAs_38 (by decide) ?_
      refine kcm_v hA hAB hP hD hS [true, true] rfl (fun _ => rfl) (fun hPc hDc => va_runV (As := [.int 70]) (rest := []) ⟨hx, hb, hml, hown, hts⟩ (k_X12_begins l D κ β a12 r12 v12_keptMany v12_done v12_sheets v12_holes v12_worms v12_laidMany v12_wanted v12_orderMany v12_firstOrder v12_lines v12_marks v12_dots v12_madeIn v12_bound v12_places v12_maps v12_tapeMany v12_stories v12_base v12_at v12_ends v12_fault v12_opened v12_bodies v12_ran v12_ownKind v12_ownNumber f12_trace s.heap.size 70 i1 i2 i3 i4 i5 i6 i7 i8 i9 i10 i11 i12 i13 i14 i15 i16 i17 (by omega)) (cwV 1 hts gX12_liesAs_X12_begins rfl rfl rfl (by decide +kernel) ⟨Nat.le_of_ble_eq_true rfl, Nat.le_of_ble_eq_true rfl⟩) (pk_V hK hS hAB hPc hDc 0 (ci := 12) rfl rfl rfl) rfl rfl hl.1 rfl (lv_room (Nat.le_of_ble_eq_true rfl)) dX12_liesAs_40 ⟨Nat.le_of_ble_eq_true rfl, Nat.le_of_ble_eq_true rfl⟩) (fun u20 H locs hw hPD hS => ?_)
      obtain ⟨x18, g19⟩ := u20
      obtain ⟨h21, h22⟩ : (0 ≤ x18.toInt ∧ x18.toInt ≤ 1000) ∧ (x18.toInt = v12_ran.toInt + 1) := hw
      obtain ⟨hP, hD⟩ : PD D A [O12 a12 r12 v12_keptMany v12_done v12_sheets v12_holes v12_worms v12_laidMany v12_wanted v12_orderMany v12_firstOrder v12_lines v12_marks v12_dots v12_madeIn v12_bound v12_places v12_maps v12_tapeMany v12_stories v12_base v12_at v12_ends v12_fault v12_opened v12_bodies x18 v12_ownKind v12_ownNumber, (cI κ (r12 55) 24 g19)] H := hPD
      refine lv_aload_n hx hb dX12_liesAs_43 rfl (lv_at hl 0 rfl) ?_
      refine lv_iconst (v := 0) hx hb dX12_liesAs_44 (by decide) ?_
      refine lv_iload_n hx hb dX12_liesAs_45 rfl (lv_at hl 2 rfl) ?_
      refine kcm_i hA hAB hP hD hS [true, true] rfl (fun _ => rfl) (fun hPc hDc => va_runV (As := [.int 0, .int p2]) (rest := []) ⟨hx, hb, hml, hown, hts⟩ (k_X12_liesAs_0 l D κ β a12 r12 v12_keptMany v12_done v12_sheets v12_holes v12_worms v12_laidMany v12_wanted v12_orderMany v12_firstOrder v12_lines v12_marks v12_dots v12_madeIn v12_bound v12_places v12_maps v12_tapeMany v12_stories v12_base v12_at v12_ends v12_fault v12_opened v12_bodies x18 v12_ownKind v12_ownNumber g19 H.size 0 p2 i1 i2 i3 i4 i5 i6 i7 i8 i9 i10 i11 i12 i13 i14 i15 h21 i17 (by omega) (by omega)) (cwV 2 hts gX12_liesAs_X12_liesAs rfl rfl rfl (by decide +kernel) ⟨Nat.le_of_ble_eq_true rfl, Nat.le_of_ble_eq_true rfl⟩) (pk_V hK hS hAB hPc hDc 0 (ci := 12) rfl rfl rfl) rfl rfl hl.1 rfl (lv_room (Nat.le_of_ble_eq_true rfl)) dX12_liesAs_46 ⟨Nat.le_of_ble_eq_true rfl, Nat.le_of_ble_eq_true rfl⟩) (fun x25 u26 H locs hw hPD hS => ?_)
      obtain ⟨x23, g24⟩ := u26
      obtain ⟨h27, h28⟩ : (0 ≤ x23.toInt ∧ x23.toInt ≤ 1000) ∧ (x18.toInt ≤ x23.toInt ∧ x23.toInt ≤ x18.toInt + 1) := hw
      obtain ⟨hP, hD⟩ : PD D A [O12 a12 r12 v12_keptMany v12_done v12_sheets v12_holes v12_worms v12_laidMany v12_wanted v12_orderMany v12_firstOrder v12_lines v12_marks v12_dots v12_madeIn v12_bound v12_places v12_maps v12_tapeMany v12_stories v12_base v12_at v12_ends v12_fault v12_opened v12_bodies x23 v12_ownKind v12_ownNumber, (cI κ (r12 55) 24 g24)] H := hPD
      refine lv_iconst (v := 2) hx hb dX12_liesAs_49 (by decide) ?_
      refine lv_imul hx hb dX12_liesAs_50 ?_
      refine lv_topi (fun x29 e30 => ?_)
      try have h31 : x29.toInt = 2 * x25.toInt := ci_mulR (n := 2) (by decide) e30 (by omega) (by omega)
      have hpo : (0 ≤ x23.toInt ∧ x23.toInt ≤ 1000) ∧ (v12_ran.toInt ≤ x23.toInt ∧ x23.toInt ≤ v12_ran.toInt + 2) := ⟨h27, (by omega)⟩
      exact ret _ _ _ _ x29 (x23, g24) dX12_liesAs_51 hpo hP hD hS
    have c17 := ci_ne c17
    refine lv_iload_n hx hb dX12_liesAs_31 rfl (lv_at hl 1 rfl) ?_
    refine lv_bipush (v := 7) hx hb dX12_liesAs_32 (by decide) ?_
    refine lv_icmp_ne (tgt := 52) hx hb dX12_liesAs_34 (by decide) (fun c32 => ?_) (fun c32 => ?_)
    · have c32 := ci_ne c32
      refine lv_aload_n hx hb dX12_liesAs_52 rfl (lv_at hl 0 rfl) ?_
      refine lv_iconst (v := 1) hx hb dX12_liesAs_53 (by decide) ?_
      refine kcm_v hA hAB hP hD hS [true, true] rfl (fun _ => rfl) (fun hPc hDc => va_runV (As := [.int 1]) (rest := []) ⟨hx, hb, hml, hown, hts⟩ (k_X12_begins l D κ β a12 r12 v12_keptMany v12_done v12_sheets v12_holes v12_worms v12_laidMany v12_wanted v12_orderMany v12_firstOrder v12_lines v12_marks v12_dots v12_madeIn v12_bound v12_places v12_maps v12_tapeMany v12_stories v12_base v12_at v12_ends v12_fault v12_opened v12_bodies v12_ran v12_ownKind v12_ownNumber f12_trace s.heap.size 1 i1 i2 i3 i4 i5 i6 i7 i8 i9 i10 i11 i12 i13 i14 i15 i16 i17 (by omega)) (cwV 1 hts gX12_liesAs_X12_begins rfl rfl rfl (by decide +kernel) ⟨Nat.le_of_ble_eq_true rfl, Nat.le_of_ble_eq_true rfl⟩) (pk_V hK hS hAB hPc hDc 0 (ci := 12) rfl rfl rfl) rfl rfl hl.1 rfl (lv_room (Nat.le_of_ble_eq_true rfl)) dX12_liesAs_54 ⟨Nat.le_of_ble_eq_true rfl, Nat.le_of_ble_eq_true rfl⟩) (fun u35 H locs hw hPD hS => ?_)
      obtain ⟨x33, g34⟩ := u35
      obtain ⟨h36, h37⟩ : (0 ≤ x33.toInt ∧ x33.toInt ≤ 1000) ∧ (x33.toInt = v12_ran.toInt + 1) := hw
      obtain ⟨hP, hD⟩ : PD D A [O12 a12 r12 v12_keptMany v12_done v12_sheets v12_holes v12_worms v12_laidMany v12_wanted v12_orderMany v12_firstOrder v12_lines v12_marks v12_dots v12_madeIn v12_bound v12_places v12_maps v12_tapeMany v12_stories v12_base v12_at v12_ends v12_fault v12_opened v12_bodies x33 v12_ownKind v12_ownNumber, (cI κ (r12 55) 24 g34)] H := hPD
      refine lv_iload_n hx hb dX12_liesAs_57 rfl (lv_at hl 2 rfl) ?_
      refine lv_aload_n hx hb dX12_liesAs_58 rfl (lv_at hl 0 rfl) ?_
      refine va_get (D := D) (ci := 12) (v := .int v12_ownNumber) (C := RX12) (T := TX12) (N := 63) hx hb hts w1 hown hK.1 hP 0 rfl rfl 58 (by decide) w0 (fun _ h9 => h9) rfl dX12_liesAs_59 ?_
      refine lv_iadd hx hb dX12_liesAs_62 ?_
      refine lv_topi (fun x38 e39 => ?_)
      try have h40 : x38.toInt = p2.toInt + v12_ownNumber.toInt := ci_add e39 (by omega) (by omega)
      have hpo : (0 ≤ x33.toInt ∧ x33.toInt ≤ 1000) ∧ (v12_ran.toInt ≤ x33.toInt ∧ x33.toInt ≤ v12_ran.toInt + 2) := ⟨h36, (by omega)⟩
      exact ret _ _ _ _ x38 (x33, g34) dX12_liesAs_63 hpo hP hD hS
    have c32 := ci_eq c32
    refine lv_aload_n hx hb dX12_liesAs_37 rfl (lv_at hl 0 rfl) ?_
    refine lv_bipush (v := 70) hx hb dX12_liesAs_38 (by decide) ?_
    refine kcm_v hA hAB hP hD hS [true, true] rfl (fun _ => rfl) (fun hPc hDc => va_runV (As := [.int 70]) (rest := []) ⟨hx, hb, hml, hown, hts⟩ (k_X12_begins l D κ β a12 r12 v12_keptMany v12_done v12_sheets v12_holes v12_worms v12_laidMany v12_wanted v12_orderMany v12_firstOrder v12_lines v12_marks v12_dots v12_madeIn v12_bound v12_places v12_maps v12_tapeMany v12_stories v12_base v12_at v12_ends v12_fault v12_opened v12_bodies v12_ran v12_ownKind v12_ownNumber f12_trace s.heap.size 70 i1 i2 i3 i4 i5 i6 i7 i8 i9 i10 i11 i12 i13 i14 i15 i16 i17 (by omega)) (cwV 1 hts gX12_liesAs_X12_begins rfl rfl rfl (by decide +kernel) ⟨Nat.le_of_ble_eq_true rfl, Nat.le_of_ble_eq_true rfl⟩) (pk_V hK hS hAB hPc hDc 0 (ci := 12) rfl rfl rfl) rfl rfl hl.1 rfl (lv_room (Nat.le_of_ble_eq_true rfl)) dX12_liesAs_40 ⟨Nat.le_of_ble_eq_true rfl, Nat.le_of_ble_eq_true rfl⟩) (fun u43 H locs hw hPD hS => ?_)
    obtain ⟨x41, g42⟩ := u43
    obtain ⟨h44, h45⟩ : (0 ≤ x41.toInt ∧ x41.toInt ≤ 1000) ∧ (x41.toInt = v12_ran.toInt + 1) := hw
    obtain ⟨hP, hD⟩ : PD D A [O12 a12 r12 v12_keptMany v12_done v12_sheets v12_holes v12_worms v12_laidMany v12_wanted v12_orderMany v12_firstOrder v12_lines v12_marks v12_dots v12_madeIn v12_bound v12_places v12_maps v12_tapeMany v12_stories v12_base v12_at v12_ends v12_fault v12_opened v12_bodies x41 v12_ownKind v12_ownNumber, (cI κ (r12 55) 24 g42)] H := hPD
    refine lv_aload_n hx hb dX12_liesAs_43 rfl (lv_at hl 0 rfl) ?_
    refine lv_iconst (v := 0) hx hb dX12_liesAs_44 (by decide) ?_
    refine lv_iload_n hx hb dX12_liesAs_45 rfl (lv_at hl 2 rfl) ?_
    refine kcm_i hA hAB hP hD hS [true, true] rfl (fun _ => rfl) (fun hPc hDc => va_runV (As := [.int 0, .int p2]) (rest := []) ⟨hx, hb, hml, hown, hts⟩ (k_X12_liesAs_0 l D κ β a12 r12 v12_keptMany v12_done v12_sheets v12_holes v12_worms v12_laidMany v12_wanted v12_orderMany v12_firstOrder v12_lines v12_marks v12_dots v12_madeIn v12_bound v12_places v12_maps v12_tapeMany v12_stories v12_base v12_at v12_ends v12_fault v12_opened v12_bodies x41 v12_ownKind v12_ownNumber g42 H.size 0 p2 i1 i2 i3 i4 i5 i6 i7 i8 i9 i10 i11 i12 i13 i14 i15 h44 i17 (by omega) (by omega)) (cwV 2 hts gX12_liesAs_X12_liesAs rfl rfl rfl (by decide +kernel) ⟨Nat.le_of_ble_eq_true rfl, Nat.le_of_ble_eq_true rfl⟩) (pk_V hK hS hAB hPc hDc 0 (ci := 12) rfl rfl rfl) rfl rfl hl.1 rfl (lv_room (Nat.le_of_ble_eq_true rfl)) dX12_liesAs_46 ⟨Nat.le_of_ble_eq_true rfl, Nat.le_of_ble_eq_true rfl⟩) (fun x48 u49 H locs hw hPD hS => ?_)
    obtain ⟨x46, g47⟩ := u49
    obtain ⟨h50, h51⟩ : (0 ≤ x46.toInt ∧ x46.toInt ≤ 1000) ∧ (x41.toInt ≤ x46.toInt ∧ x46.toInt ≤ x41.toInt + 1) := hw
    obtain ⟨hP, hD⟩ : PD D A [O12 a12 r12 v12_keptMany v12_done v12_sheets v12_holes v12_worms v12_laidMany v12_wanted v12_orderMany v12_firstOrder v12_lines v12_marks v12_dots v12_madeIn v12_bound v12_places v12_maps v12_tapeMany v12_stories v12_base v12_at v12_ends v12_fault v12_opened v12_bodies x46 v12_ownKind v12_ownNumber, (cI κ (r12 55) 24 g47)] H := hPD
    refine lv_iconst (v := 2) hx hb dX12_liesAs_49 (by decide) ?_
    refine lv_imul hx hb dX12_liesAs_50 ?_
    refine lv_topi (fun x52 e53 => ?_)
    try have h54 : x52.toInt = 2 * x48.toInt := ci_mulR (n := 2) (by decide) e53 (by omega) (by omega)
    have hpo : (0 ≤ x46.toInt ∧ x46.toInt ≤ 1000) ∧ (v12_ran.toInt ≤ x46.toInt ∧ x46.toInt ≤ v12_ran.toInt + 2) := ⟨h50, (by omega)⟩
    exact ret _ _ _ _ x52 (x46, g47) dX12_liesAs_51 hpo hP hD hS
  have c16 := ci_eq c16
  refine lv_aload_n hx hb dX12_liesAs_10 rfl (lv_at hl 0 rfl) ?_
  refine lv_bipush (v := 20) hx hb dX12_liesAs_11 (by decide) ?_
  refine kcm_v hA hAB hP hD hS [true, true] rfl (fun _ => rfl) (fun hPc hDc => va_runV (As := [.int 20]) (rest := []) ⟨hx, hb, hml, hown, hts⟩ (k_X12_begins l D κ β a12 r12 v12_keptMany v12_done v12_sheets v12_holes v12_worms v12_laidMany v12_wanted v12_orderMany v12_firstOrder v12_lines v12_marks v12_dots v12_madeIn v12_bound v12_places v12_maps v12_tapeMany v12_stories v12_base v12_at v12_ends v12_fault v12_opened v12_bodies v12_ran v12_ownKind v12_ownNumber f12_trace s.heap.size 20 i1 i2 i3 i4 i5 i6 i7 i8 i9 i10 i11 i12 i13 i14 i15 i16 i17 (by omega)) (cwV 1 hts gX12_liesAs_X12_begins rfl rfl rfl (by decide +kernel) ⟨Nat.le_of_ble_eq_true rfl, Nat.le_of_ble_eq_true rfl⟩) (pk_V hK hS hAB hPc hDc 0 (ci := 12) rfl rfl rfl) rfl rfl hl.1 rfl (lv_room (Nat.le_of_ble_eq_true rfl)) dX12_liesAs_13 ⟨Nat.le_of_ble_eq_true rfl, Nat.le_of_ble_eq_true rfl⟩) (fun u57 H locs hw hPD hS => ?_)
  obtain ⟨x55, g56⟩ := u57
  obtain ⟨h58, h59⟩ : (0 ≤ x55.toInt ∧ x55.toInt ≤ 1000) ∧ (x55.toInt = v12_ran.toInt + 1) := hw
  obtain ⟨hP, hD⟩ : PD D A [O12 a12 r12 v12_keptMany v12_done v12_sheets v12_holes v12_worms v12_laidMany v12_wanted v12_orderMany v12_firstOrder v12_lines v12_marks v12_dots v12_madeIn v12_bound v12_places v12_maps v12_tapeMany v12_stories v12_base v12_at v12_ends v12_fault v12_opened v12_bodies x55 v12_ownKind v12_ownNumber, (cI κ (r12 55) 24 g56)] H := hPD
  refine lv_aload_n hx hb dX12_liesAs_16 rfl (lv_at hl 0 rfl) ?_
  refine lv_iconst (v := 0) hx hb dX12_liesAs_17 (by decide) ?_
  refine lv_iload_n hx hb dX12_liesAs_18 rfl (lv_at hl 2 rfl) ?_
  refine kcm_i hA hAB hP hD hS [true, true] rfl (fun _ => rfl) (fun hPc hDc => va_runV (As := [.int 0, .int p2]) (rest := []) ⟨hx, hb, hml, hown, hts⟩ (k_X12_liesAs_0 l D κ β a12 r12 v12_keptMany v12_done v12_sheets v12_holes v12_worms v12_laidMany v12_wanted v12_orderMany v12_firstOrder v12_lines v12_marks v12_dots v12_madeIn v12_bound v12_places v12_maps v12_tapeMany v12_stories v12_base v12_at v12_ends v12_fault v12_opened v12_bodies x55 v12_ownKind v12_ownNumber g56 H.size 0 p2 i1 i2 i3 i4 i5 i6 i7 i8 i9 i10 i11 i12 i13 i14 i15 h58 i17 (by omega) (by omega)) (cwV 2 hts gX12_liesAs_X12_liesAs rfl rfl rfl (by decide +kernel) ⟨Nat.le_of_ble_eq_true rfl, Nat.le_of_ble_eq_true rfl⟩) (pk_V hK hS hAB hPc hDc 0 (ci := 12) rfl rfl rfl) rfl rfl hl.1 rfl (lv_room (Nat.le_of_ble_eq_true rfl)) dX12_liesAs_19 ⟨Nat.le_of_ble_eq_true rfl, Nat.le_of_ble_eq_true rfl⟩) (fun x62 u63 H locs hw hPD hS => ?_)
  obtain ⟨x60, g61⟩ := u63
  obtain ⟨h64, h65⟩ : (0 ≤ x60.toInt ∧ x60.toInt ≤ 1000) ∧ (x55.toInt ≤ x60.toInt ∧ x60.toInt ≤ x55.toInt + 1) := hw
  obtain ⟨hP, hD⟩ : PD D A [O12 a12 r12 v12_keptMany v12_done v12_sheets v12_holes v12_worms v12_laidMany v12_wanted v12_orderMany v12_firstOrder v12_lines v12_marks v12_dots v12_madeIn v12_bound v12_places v12_maps v12_tapeMany v12_stories v12_base v12_at v12_ends v12_fault v12_opened v12_bodies x60 v12_ownKind v12_ownNumber, (cI κ (r12 55) 24 g61)] H := hPD
  refine lv_iconst (v := 3) hx hb dX12_liesAs_22 (by decide) ?_
  refine lv_iadd hx hb dX12_liesAs_23 ?_
  refine lv_topi (fun x66 e67 => ?_)
  try have h68 : x66.toInt = x62.toInt + (3 : Int32).toInt := ci_add e67 (by omega) (by omega)
  have hpo : (0 ≤ x60.toInt ∧ x60.toInt ≤ 1000) ∧ (v12_ran.toInt ≤ x60.toInt ∧ x60.toInt ≤ v12_ran.toInt + 2) := ⟨h64, (by omega)⟩
  exact ret _ _ _ _ x66 (x60, g61) dX12_liesAs_24 hpo hP hD hS
set_option maxHeartbeats 4000000 in
set_option maxRecDepth 100000 in
theorem k_X12_showsAs_0 (l : Launch) (D : va_G) (κ : Nat → ClassId) (β : Nat) (a12 : Nat) (r12 : Nat → Nat) (v12_keptMany : Int32) (v12_done : Int32) (v12_sheets : Int32) (v12_holes : Int32) (v12_worms : Int32) (v12_laidMany : Int32) (v12_wanted : Int32) (v12_orderMany : Int32) (v12_firstOrder : Int32) (v12_lines : Int32) (v12_marks : Int32) (v12_dots : Int32) (v12_madeIn : Int32) (v12_bound : Int32) (v12_places : Int32) (v12_maps : Int32) (v12_tapeMany : Int32) (v12_stories : Int32) (v12_base : Int32) (v12_at : Int32) (v12_ends : Int32) (v12_fault : Int32) (v12_opened : Int32) (v12_bodies : Int32) (v12_ran : Int32) (v12_ownKind : Int32) (v12_ownNumber : Int32) (f12_trace : Nat → Int32) (sz : Nat) (p1 : Int32) (p2 : Int32) (i1 : Rg 0 40 v12_keptMany) (i2 : Rg 0 40 v12_done) (i3 : Rg 0 8 v12_sheets) (i4 : Rg 0 40 v12_holes) (i5 : Rg 0 40 v12_worms) (i6 : Rg 0 8 v12_laidMany) (i7 : Rg 0 8 v12_wanted) (i8 : Rg 0 20 v12_lines) (i9 : Rg 0 60 v12_marks) (i10 : Rg 0 40 v12_dots) (i11 : Rg 0 20 v12_places) (i12 : Rg 0 8 v12_maps) (i13 : Rg 0 120 v12_tapeMany) (i14 : Rg 0 6 v12_stories) (i15 : Rg 0 50 v12_bodies) (i16 : Rg 0 1000 v12_ran) (i17 : v12_done.toInt ≤ v12_keptMany.toInt) (i18 : p1.toInt = 0 ∨ p1.toInt = 1) (i19 : v12_ran.toInt ≤ 890) : Met l yX12_showsAs wsX12_showsAs ({ frames := 1, cells := 0, slots := 0, locals := 21 } : Room) (PcK D κ β [O12 a12 r12 v12_keptMany v12_done v12_sheets v12_holes v12_worms v12_laidMany v12_wanted v12_orderMany v12_firstOrder v12_lines v12_marks v12_dots v12_madeIn v12_bound v12_places v12_maps v12_tapeMany v12_stories v12_base v12_at v12_ends v12_fault v12_opened v12_bodies v12_ran v12_ownKind v12_ownNumber, (cI κ (r12 55) 24 f12_trace)] sz [.ref a12, .int p1, .int p2]) (QiK D (fun (r : Int32) (u : Int32 × (Nat → Int32)) => (0 ≤ u.1.toInt ∧ u.1.toInt ≤ 1000) ∧ (v12_ran.toInt ≤ u.1.toInt ∧ u.1.toInt ≤ v12_ran.toInt + 1)) (fun (u : Int32 × (Nat → Int32)) => [O12 a12 r12 v12_keptMany v12_done v12_sheets v12_holes v12_worms v12_laidMany v12_wanted v12_orderMany v12_firstOrder v12_lines v12_marks v12_dots v12_madeIn v12_bound v12_places v12_maps v12_tapeMany v12_stories v12_base v12_at v12_ends v12_fault v12_opened v12_bodies u.1 v12_ownKind v12_ownNumber, (cI κ (r12 55) 24 u.2)]) [O12 a12 r12 v12_keptMany v12_done v12_sheets v12_holes v12_worms v12_laidMany v12_wanted v12_orderMany v12_firstOrder v12_lines v12_marks v12_dots v12_madeIn v12_bound v12_places v12_maps v12_tapeMany v12_stories v12_base v12_at v12_ends v12_fault v12_opened v12_bodies v12_ran v12_ownKind v12_ownNumber, (cI κ (r12 55) 24 f12_trace)] sz) 0 0 (va_A [O12 a12 r12 v12_keptMany v12_done v12_sheets v12_holes v12_worms v12_laidMany v12_wanted v12_orderMany v12_firstOrder v12_lines v12_marks v12_dots v12_madeIn v12_bound v12_places v12_maps v12_tapeMany v12_stories v12_base v12_at v12_ends v12_fault v12_opened v12_bodies v12_ran v12_ownKind v12_ownNumber, (cI κ (r12 55) 24 f12_trace)] sz) := by
  refine ofK_i (cc := cX12_showsAs) (maxL := 4) (own := RX12) (by decide) rfl rfl (Nat.le_of_ble_eq_true rfl) ?_
  intro p e s m args below meth c Q A ls hsz hx hb hml hts hown hK hA hAB hP hD hl ret
  have hS : va_S A s.heap s.heap [] := va_S.rf
  have hl : lv_has ls 4 [(0, .ref a12), (1, .int p1), (2, .int p2)] := hl
  have w0 := hts (.fieldLink RX12 392 "OlderSkinModel" "ownNumber" "I") (List.mem_of_getElem? (i := 2) rfl)
  have w1 := (fun w h => List.mem_cons_of_mem _ (List.mem_append_right _ h) : ∀ w ∈ u_ws RX12 TX12 63, w ∈ wsX12_showsAs)
  have l0 : (3 : Int32).toInt = 3 := by decide
  have l1 : (0 : Int32).toInt = 0 := by decide
  have l2 : (5 : Int32).toInt = 5 := by decide
  have l3 : (11 : Int32).toInt = 11 := by decide
  have i16 : 0 ≤ v12_ran.toInt ∧ v12_ran.toInt ≤ 1000 := i16
  refine lv_iload_n hx hb dX12_showsAs_0 rfl (lv_at hl 1 rfl) ?_
  refine lv_iconst (v := 3) hx hb dX12_showsAs_1 (by decide) ?_
  refine lv_icmp_ne (tgt := 20) hx hb dX12_showsAs_2 (by decide) (fun c1 => ?_) (fun c1 => ?_)
  · have c1 := ci_ne c1
    refine lv_iload_n hx hb dX12_showsAs_20 rfl (lv_at hl 1 rfl) ?_
    refine lv_iconst (v := 5) hx hb dX12_showsAs_21 (by decide) ?_
    refine lv_icmp_ne (tgt := 50) hx hb dX12_showsAs_22 (by decide) (fun c2 => ?_) (fun c2 => ?_)
    · have c2 := ci_ne c2
      refine lv_aload_n hx hb dX12_showsAs_50 rfl (lv_at hl 0 rfl) ?_
      refine lv_bipush (v := 11) hx hb dX12_showsAs_51 (by decide) ?_
      refine kcm_v hA hAB hP hD hS [true, true] rfl (fun _ => rfl) (fun hPc hDc => va_runV (As := [.int 11]) (rest := []) ⟨hx, hb, hml, hown, hts⟩ (k_X12_begins l D κ β a12 r12 v12_keptMany v12_done v12_sheets v12_holes v12_worms v12_laidMany v12_wanted v12_orderMany v12_firstOrder v12_lines v12_marks v12_dots v12_madeIn v12_bound v12_places v12_maps v12_tapeMany v12_stories v12_base v12_at v12_ends v12_fault v12_opened v12_bodies v12_ran v12_ownKind v12_ownNumber f12_trace s.heap.size 11 i1 i2 i3 i4 i5 i6 i7 i8 i9 i10 i11 i12 i13 i14 i15 i16 i17 (by omega)) (cwV 1 hts gX12_showsAs_X12_begins rfl rfl rfl (by decide +kernel) ⟨Nat.le_of_ble_eq_true rfl, Nat.le_of_ble_eq_true rfl⟩) (pk_V hK hS hAB hPc hDc 0 (ci := 12) rfl rfl rfl) rfl rfl hl.1 rfl (lv_room (Nat.le_of_ble_eq_true rfl)) dX12_showsAs_53 ⟨Nat.le_of_ble_eq_true rfl, Nat.le_of_ble_eq_true rfl⟩) (fun u5 H locs hw hPD hS => ?_)
      obtain ⟨x3, g4⟩ := u5
      obtain ⟨h6, h7⟩ : (0 ≤ x3.toInt ∧ x3.toInt ≤ 1000) ∧ (x3.toInt = v12_ran.toInt + 1) := hw
      obtain ⟨hP, hD⟩ : PD D A [O12 a12 r12 v12_keptMany v12_done v12_sheets v12_holes v12_worms v12_laidMany v12_wanted v12_orderMany v12_firstOrder v12_lines v12_marks v12_dots v12_madeIn v12_bound v12_places v12_maps v12_tapeMany v12_stories v12_base v12_at v12_ends v12_fault v12_opened v12_bodies x3 v12_ownKind v12_ownNumber, (cI κ (r12 55) 24 g4)] H := hPD
      refine lv_iload_n hx hb dX12_showsAs_56 rfl (lv_at hl 2 rfl) ?_
      refine lv_aload_n hx hb dX12_showsAs_57 rfl (lv_at hl 0 rfl) ?_
      refine va_get (D := D) (ci := 12) (v := .int v12_ownNumber) (C := RX12) (T := TX12) (N := 63) hx hb hts w1 hown hK.1 hP 0 rfl rfl 58 (by decide) w0 (fun _ h9 => h9) rfl dX12_showsAs_58 ?_
      refine lv_ixor hx hb dX12_showsAs_61 ?_
      refine lv_topi (fun x8 e9 => ?_)
      have hpo : (0 ≤ x3.toInt ∧ x3.toInt ≤ 1000) ∧ (v12_ran.toInt ≤ x3.toInt ∧ x3.toInt ≤ v12_ran.toInt + 1) := ⟨h6, (by omega)⟩
      exact ret _ _ _ _ x8 (x3, g4) dX12_showsAs_62 hpo hP hD hS
    have c2 := ci_eq c2
    exfalso
    omega
  have c1 := ci_eq c1
  exfalso
  omega
set_option maxHeartbeats 4000000 in
set_option maxRecDepth 100000 in
theorem k_X12_showsAs (l : Launch) (D : va_G) (κ : Nat → ClassId) (β : Nat) (a12 : Nat) (r12 : Nat → Nat) (v12_keptMany : Int32) (v12_done : Int32) (v12_sheets : Int32) (v12_holes : Int32) (v12_worms : Int32) (v12_laidMany : Int32) (v12_wanted : Int32) (v12_orderMany : Int32) (v12_firstOrder : Int32) (v12_lines : Int32) (v12_marks : Int32) (v12_dots : Int32) (v12_madeIn : Int32) (v12_bound : Int32) (v12_places : Int32) (v12_maps : Int32) (v12_tapeMany : Int32) (v12_stories : Int32) (v12_base : Int32) (v12_at : Int32) (v12_ends : Int32) (v12_fault : Int32) (v12_opened : Int32) (v12_bodies : Int32) (v12_ran : Int32) (v12_ownKind : Int32) (v12_ownNumber : Int32) (f12_trace : Nat → Int32) (sz : Nat) (p1 : Int32) (p2 : Int32) (i1 : Rg 0 40 v12_keptMany) (i2 : Rg 0 40 v12_done) (i3 : Rg 0 8 v12_sheets) (i4 : Rg 0 40 v12_holes) (i5 : Rg 0 40 v12_worms) (i6 : Rg 0 8 v12_laidMany) (i7 : Rg 0 8 v12_wanted) (i8 : Rg 0 20 v12_lines) (i9 : Rg 0 60 v12_marks) (i10 : Rg 0 40 v12_dots) (i11 : Rg 0 20 v12_places) (i12 : Rg 0 8 v12_maps) (i13 : Rg 0 120 v12_tapeMany) (i14 : Rg 0 6 v12_stories) (i15 : Rg 0 50 v12_bodies) (i16 : Rg 0 1000 v12_ran) (i17 : v12_done.toInt ≤ v12_keptMany.toInt) (i18 : v12_ran.toInt ≤ 880) : Met l yX12_showsAs wsX12_showsAs ({ frames := 3, cells := 0, slots := 0, locals := 65 } : Room) (PcK D κ β [O12 a12 r12 v12_keptMany v12_done v12_sheets v12_holes v12_worms v12_laidMany v12_wanted v12_orderMany v12_firstOrder v12_lines v12_marks v12_dots v12_madeIn v12_bound v12_places v12_maps v12_tapeMany v12_stories v12_base v12_at v12_ends v12_fault v12_opened v12_bodies v12_ran v12_ownKind v12_ownNumber, (cI κ (r12 55) 24 f12_trace)] sz [.ref a12, .int p1, .int p2]) (QiK D (fun (r : Int32) (u : Int32 × (Nat → Int32)) => (0 ≤ u.1.toInt ∧ u.1.toInt ≤ 1000) ∧ (v12_ran.toInt ≤ u.1.toInt ∧ u.1.toInt ≤ v12_ran.toInt + 4)) (fun (u : Int32 × (Nat → Int32)) => [O12 a12 r12 v12_keptMany v12_done v12_sheets v12_holes v12_worms v12_laidMany v12_wanted v12_orderMany v12_firstOrder v12_lines v12_marks v12_dots v12_madeIn v12_bound v12_places v12_maps v12_tapeMany v12_stories v12_base v12_at v12_ends v12_fault v12_opened v12_bodies u.1 v12_ownKind v12_ownNumber, (cI κ (r12 55) 24 u.2)]) [O12 a12 r12 v12_keptMany v12_done v12_sheets v12_holes v12_worms v12_laidMany v12_wanted v12_orderMany v12_firstOrder v12_lines v12_marks v12_dots v12_madeIn v12_bound v12_places v12_maps v12_tapeMany v12_stories v12_base v12_at v12_ends v12_fault v12_opened v12_bodies v12_ran v12_ownKind v12_ownNumber, (cI κ (r12 55) 24 f12_trace)] sz) 0 0 (va_A [O12 a12 r12 v12_keptMany v12_done v12_sheets v12_holes v12_worms v12_laidMany v12_wanted v12_orderMany v12_firstOrder v12_lines v12_marks v12_dots v12_madeIn v12_bound v12_places v12_maps v12_tapeMany v12_stories v12_base v12_at v12_ends v12_fault v12_opened v12_bodies v12_ran v12_ownKind v12_ownNumber, (cI κ (r12 55) 24 f12_trace)] sz) := by
  refine ofK_i (cc := cX12_showsAs) (maxL := 4) (own := RX12) (by decide) rfl rfl (Nat.le_of_ble_eq_true rfl) ?_
  intro p e s m args below meth c Q A ls hsz hx hb hml hts hown hK hA hAB hP hD hl ret
  have hS : va_S A s.heap s.heap [] := va_S.rf
  have hl : lv_has ls 4 [(0, .ref a12), (1, .int p1), (2, .int p2)] := hl
  have w0 := hts (.fieldLink RX12 392 "OlderSkinModel" "ownNumber" "I") (List.mem_of_getElem? (i := 2) rfl)
  have w1 := (fun w h => List.mem_cons_of_mem _ (List.mem_append_right _ h) : ∀ w ∈ u_ws RX12 TX12 63, w ∈ wsX12_showsAs)
  have w2 := hts (.fieldLink RX12 398 "OlderSkinModel" "ownKind" "I") (List.mem_of_getElem? (i := 1) rfl)
  have l0 : (3 : Int32).toInt = 3 := by decide
  have l1 : (0 : Int32).toInt = 0 := by decide
  have l2 : (5 : Int32).toInt = 5 := by decide
  have l3 : (11 : Int32).toInt = 11 := by decide
  have l4 : (60 : Int32).toInt = 60 := by decide
  have l5 : (2 : Int32).toInt = 2 := by decide
  have l6 : (40 : Int32).toInt = 40 := by decide
  have l7 : (1 : Int32).toInt = 1 := by decide
  have i16 : 0 ≤ v12_ran.toInt ∧ v12_ran.toInt ≤ 1000 := i16
  refine lv_iload_n hx hb dX12_showsAs_0 rfl (lv_at hl 1 rfl) ?_
  refine lv_iconst (v := 3) hx hb dX12_showsAs_1 (by decide) ?_
  refine lv_icmp_ne (tgt := 20) hx hb dX12_showsAs_2 (by decide) (fun c1 => ?_) (fun c1 => ?_)
  · have c1 := ci_ne c1
    refine lv_iload_n hx hb dX12_showsAs_20 rfl (lv_at hl 1 rfl) ?_
    refine lv_iconst (v := 5) hx hb dX12_showsAs_21 (by decide) ?_
    refine lv_icmp_ne (tgt := 50) hx hb dX12_showsAs_22 (by decide) (fun c2 => ?_) (fun c2 => ?_)
    · have c2 := ci_ne c2
      refine lv_aload_n hx hb dX12_showsAs_50 rfl (lv_at hl 0 rfl) ?_
      refine lv_bipush (v := 11) hx hb dX12_showsAs_51 (by decide) ?_
      refine kcm_v hA hAB hP hD hS [true, true] rfl (fun _ => rfl) (fun hPc hDc => va_runV (As := [.int 11]) (rest := []) ⟨hx, hb, hml, hown, hts⟩ (k_X12_begins l D κ β a12 r12 v12_keptMany v12_done v12_sheets v12_holes v12_worms v12_laidMany v12_wanted v12_orderMany v12_firstOrder v12_lines v12_marks v12_dots v12_madeIn v12_bound v12_places v12_maps v12_tapeMany v12_stories v12_base v12_at v12_ends v12_fault v12_opened v12_bodies v12_ran v12_ownKind v12_ownNumber f12_trace s.heap.size 11 i1 i2 i3 i4 i5 i6 i7 i8 i9 i10 i11 i12 i13 i14 i15 i16 i17 (by omega)) (cwV 1 hts gX12_showsAs_X12_begins rfl rfl rfl (by decide +kernel) ⟨Nat.le_of_ble_eq_true rfl, Nat.le_of_ble_eq_true rfl⟩) (pk_V hK hS hAB hPc hDc 0 (ci := 12) rfl rfl rfl) rfl rfl hl.1 rfl (lv_room (Nat.le_of_ble_eq_true rfl)) dX12_showsAs_53 ⟨Nat.le_of_ble_eq_true rfl, Nat.le_of_ble_eq_true rfl⟩) (fun u5 H locs hw hPD hS => ?_)
      obtain ⟨x3, g4⟩ := u5
      obtain ⟨h6, h7⟩ : (0 ≤ x3.toInt ∧ x3.toInt ≤ 1000) ∧ (x3.toInt = v12_ran.toInt + 1) := hw
      obtain ⟨hP, hD⟩ : PD D A [O12 a12 r12 v12_keptMany v12_done v12_sheets v12_holes v12_worms v12_laidMany v12_wanted v12_orderMany v12_firstOrder v12_lines v12_marks v12_dots v12_madeIn v12_bound v12_places v12_maps v12_tapeMany v12_stories v12_base v12_at v12_ends v12_fault v12_opened v12_bodies x3 v12_ownKind v12_ownNumber, (cI κ (r12 55) 24 g4)] H := hPD
      refine lv_iload_n hx hb dX12_showsAs_56 rfl (lv_at hl 2 rfl) ?_
      refine lv_aload_n hx hb dX12_showsAs_57 rfl (lv_at hl 0 rfl) ?_
      refine va_get (D := D) (ci := 12) (v := .int v12_ownNumber) (C := RX12) (T := TX12) (N := 63) hx hb hts w1 hown hK.1 hP 0 rfl rfl 58 (by decide) w0 (fun _ h9 => h9) rfl dX12_showsAs_58 ?_
      refine lv_ixor hx hb dX12_showsAs_61 ?_
      refine lv_topi (fun x8 e9 => ?_)
      have hpo : (0 ≤ x3.toInt ∧ x3.toInt ≤ 1000) ∧ (v12_ran.toInt ≤ x3.toInt ∧ x3.toInt ≤ v12_ran.toInt + 4) := ⟨h6, (by omega)⟩
      exact ret _ _ _ _ x8 (x3, g4) dX12_showsAs_62 hpo hP hD hS
    have c2 := ci_eq c2
    refine lv_aload_n hx hb dX12_showsAs_25 rfl (lv_at hl 0 rfl) ?_
    refine lv_bipush (v := 60) hx hb dX12_showsAs_26 (by decide) ?_
    refine kcm_v hA hAB hP hD hS [true, true] rfl (fun _ => rfl) (fun hPc hDc => va_runV (As := [.int 60]) (rest := []) ⟨hx, hb, hml, hown, hts⟩ (k_X12_begins l D κ β a12 r12 v12_keptMany v12_done v12_sheets v12_holes v12_worms v12_laidMany v12_wanted v12_orderMany v12_firstOrder v12_lines v12_marks v12_dots v12_madeIn v12_bound v12_places v12_maps v12_tapeMany v12_stories v12_base v12_at v12_ends v12_fault v12_opened v12_bodies v12_ran v12_ownKind v12_ownNumber f12_trace s.heap.size 60 i1 i2 i3 i4 i5 i6 i7 i8 i9 i10 i11 i12 i13 i14 i15 i16 i17 (by omega)) (cwV 1 hts gX12_showsAs_X12_begins rfl rfl rfl (by decide +kernel) ⟨Nat.le_of_ble_eq_true rfl, Nat.le_of_ble_eq_true rfl⟩) (pk_V hK hS hAB hPc hDc 0 (ci := 12) rfl rfl rfl) rfl rfl hl.1 rfl (lv_room (Nat.le_of_ble_eq_true rfl)) dX12_showsAs_28 ⟨Nat.le_of_ble_eq_true rfl, Nat.le_of_ble_eq_true rfl⟩) (fun u12 H locs hw hPD hS => ?_)
    obtain ⟨x10, g11⟩ := u12
    obtain ⟨h13, h14⟩ : (0 ≤ x10.toInt ∧ x10.toInt ≤ 1000) ∧ (x10.toInt = v12_ran.toInt + 1) := hw
    obtain ⟨hP, hD⟩ : PD D A [O12 a12 r12 v12_keptMany v12_done v12_sheets v12_holes v12_worms v12_laidMany v12_wanted v12_orderMany v12_firstOrder v12_lines v12_marks v12_dots v12_madeIn v12_bound v12_places v12_maps v12_tapeMany v12_stories v12_base v12_at v12_ends v12_fault v12_opened v12_bodies x10 v12_ownKind v12_ownNumber, (cI κ (r12 55) 24 g11)] H := hPD
    refine lv_aload_n hx hb dX12_showsAs_31 rfl (lv_at hl 0 rfl) ?_
    refine lv_iconst (v := 0) hx hb dX12_showsAs_32 (by decide) ?_
    refine lv_iload_n hx hb dX12_showsAs_33 rfl (lv_at hl 2 rfl) ?_
    refine kcm_i hA hAB hP hD hS [true, true] rfl (fun _ => rfl) (fun hPc hDc => va_runV (As := [.int 0, .int p2]) (rest := []) ⟨hx, hb, hml, hown, hts⟩ (k_X12_showsAs_0 l D κ β a12 r12 v12_keptMany v12_done v12_sheets v12_holes v12_worms v12_laidMany v12_wanted v12_orderMany v12_firstOrder v12_lines v12_marks v12_dots v12_madeIn v12_bound v12_places v12_maps v12_tapeMany v12_stories v12_base v12_at v12_ends v12_fault v12_opened v12_bodies x10 v12_ownKind v12_ownNumber g11 H.size 0 p2 i1 i2 i3 i4 i5 i6 i7 i8 i9 i10 i11 i12 i13 i14 i15 h13 i17 (by omega) (by omega)) (cwV 2 hts gX12_showsAs_X12_showsAs rfl rfl rfl (by decide +kernel) ⟨Nat.le_of_ble_eq_true rfl, Nat.le_of_ble_eq_true rfl⟩) (pk_V hK hS hAB hPc hDc 0 (ci := 12) rfl rfl rfl) rfl rfl hl.1 rfl (lv_room (Nat.le_of_ble_eq_true rfl)) dX12_showsAs_34 ⟨Nat.le_of_ble_eq_true rfl, Nat.le_of_ble_eq_true rfl⟩) (fun x17 u18 H locs hw hPD hS => ?_)
    obtain ⟨x15, g16⟩ := u18
    obtain ⟨h19, h20⟩ : (0 ≤ x15.toInt ∧ x15.toInt ≤ 1000) ∧ (x10.toInt ≤ x15.toInt ∧ x15.toInt ≤ x10.toInt + 1) := hw
    obtain ⟨hP, hD⟩ : PD D A [O12 a12 r12 v12_keptMany v12_done v12_sheets v12_holes v12_worms v12_laidMany v12_wanted v12_orderMany v12_firstOrder v12_lines v12_marks v12_dots v12_madeIn v12_bound v12_places v12_maps v12_tapeMany v12_stories v12_base v12_at v12_ends v12_fault v12_opened v12_bodies x15 v12_ownKind v12_ownNumber, (cI κ (r12 55) 24 g16)] H := hPD
    refine lv_istore_n (lv' := [(3, .int x17), (0, .ref a12), (1, .int p1), (2, .int p2)]) hx hb dX12_showsAs_37 rfl hl (by decide) rfl (fun ls hl => ?_)
    refine lv_iload_n hx hb dX12_showsAs_38 rfl (lv_at hl 0 rfl) ?_
    refine lv_aload_n hx hb dX12_showsAs_39 rfl (lv_at hl 1 rfl) ?_
    refine lv_aload_n hx hb dX12_showsAs_40 rfl (lv_at hl 1 rfl) ?_
    refine va_get (D := D) (ci := 12) (v := .int v12_ownKind) (C := RX12) (T := TX12) (N := 63) hx hb hts w1 hown hK.1 hP 0 rfl rfl 57 (by decide) w2 (fun _ h9 => h9) rfl dX12_showsAs_41 ?_
    refine lv_iconst (v := 2) hx hb dX12_showsAs_44 (by decide) ?_
    refine kcm_i hA hAB hP hD hS [true, true] rfl (fun _ => rfl) (fun hPc hDc => va_runV (As := [.int v12_ownKind, .int 2]) (rest := [.int x17]) ⟨hx, hb, hml, hown, hts⟩ (k_X12_liesAs l D κ β a12 r12 v12_keptMany v12_done v12_sheets v12_holes v12_worms v12_laidMany v12_wanted v12_orderMany v12_firstOrder v12_lines v12_marks v12_dots v12_madeIn v12_bound v12_places v12_maps v12_tapeMany v12_stories v12_base v12_at v12_ends v12_fault v12_opened v12_bodies x15 v12_ownKind v12_ownNumber g16 H.size v12_ownKind 2 i1 i2 i3 i4 i5 i6 i7 i8 i9 i10 i11 i12 i13 i14 i15 h19 i17 (by omega)) (cwV 2 hts gX12_showsAs_X12_liesAs rfl rfl rfl (by decide +kernel) ⟨Nat.le_of_ble_eq_true rfl, Nat.le_of_ble_eq_true rfl⟩) (pk_V hK hS hAB hPc hDc 0 (ci := 12) rfl rfl rfl) rfl rfl hl.1 rfl (lv_room (Nat.le_of_ble_eq_true rfl)) dX12_showsAs_45 ⟨Nat.le_of_ble_eq_true rfl, Nat.le_of_ble_eq_true rfl⟩) (fun x23 u24 H locs hw hPD hS => ?_)
    obtain ⟨x21, g22⟩ := u24
    obtain ⟨h25, h26⟩ : (0 ≤ x21.toInt ∧ x21.toInt ≤ 1000) ∧ (x15.toInt ≤ x21.toInt ∧ x21.toInt ≤ x15.toInt + 2) := hw
    obtain ⟨hP, hD⟩ : PD D A [O12 a12 r12 v12_keptMany v12_done v12_sheets v12_holes v12_worms v12_laidMany v12_wanted v12_orderMany v12_firstOrder v12_lines v12_marks v12_dots v12_madeIn v12_bound v12_places v12_maps v12_tapeMany v12_stories v12_base v12_at v12_ends v12_fault v12_opened v12_bodies x21 v12_ownKind v12_ownNumber, (cI κ (r12 55) 24 g22)] H := hPD
    refine lv_isub hx hb dX12_showsAs_48 ?_
    refine lv_topi (fun x27 e28 => ?_)
    try have h29 : x27.toInt = x17.toInt - x23.toInt := ci_sub e28 (by omega) (by omega)
    have hpo : (0 ≤ x21.toInt ∧ x21.toInt ≤ 1000) ∧ (v12_ran.toInt ≤ x21.toInt ∧ x21.toInt ≤ v12_ran.toInt + 4) := ⟨h25, (by omega)⟩
    exact ret _ _ _ _ x27 (x21, g22) dX12_showsAs_49 hpo hP hD hS
  have c1 := ci_eq c1
  refine lv_aload_n hx hb dX12_showsAs_5 rfl (lv_at hl 0 rfl) ?_
  refine lv_bipush (v := 40) hx hb dX12_showsAs_6 (by decide) ?_
  refine kcm_v hA hAB hP hD hS [true, true] rfl (fun _ => rfl) (fun hPc hDc => va_runV (As := [.int 40]) (rest := []) ⟨hx, hb, hml, hown, hts⟩ (k_X12_begins l D κ β a12 r12 v12_keptMany v12_done v12_sheets v12_holes v12_worms v12_laidMany v12_wanted v12_orderMany v12_firstOrder v12_lines v12_marks v12_dots v12_madeIn v12_bound v12_places v12_maps v12_tapeMany v12_stories v12_base v12_at v12_ends v12_fault v12_opened v12_bodies v12_ran v12_ownKind v12_ownNumber f12_trace s.heap.size 40 i1 i2 i3 i4 i5 i6 i7 i8 i9 i10 i11 i12 i13 i14 i15 i16 i17 (by omega)) (cwV 1 hts gX12_showsAs_X12_begins rfl rfl rfl (by decide +kernel) ⟨Nat.le_of_ble_eq_true rfl, Nat.le_of_ble_eq_true rfl⟩) (pk_V hK hS hAB hPc hDc 0 (ci := 12) rfl rfl rfl) rfl rfl hl.1 rfl (lv_room (Nat.le_of_ble_eq_true rfl)) dX12_showsAs_8 ⟨Nat.le_of_ble_eq_true rfl, Nat.le_of_ble_eq_true rfl⟩) (fun u32 H locs hw hPD hS => ?_)
  obtain ⟨x30, g31⟩ := u32
  obtain ⟨h33, h34⟩ : (0 ≤ x30.toInt ∧ x30.toInt ≤ 1000) ∧ (x30.toInt = v12_ran.toInt + 1) := hw
  obtain ⟨hP, hD⟩ : PD D A [O12 a12 r12 v12_keptMany v12_done v12_sheets v12_holes v12_worms v12_laidMany v12_wanted v12_orderMany v12_firstOrder v12_lines v12_marks v12_dots v12_madeIn v12_bound v12_places v12_maps v12_tapeMany v12_stories v12_base v12_at v12_ends v12_fault v12_opened v12_bodies x30 v12_ownKind v12_ownNumber, (cI κ (r12 55) 24 g31)] H := hPD
  refine lv_aload_n hx hb dX12_showsAs_11 rfl (lv_at hl 0 rfl) ?_
  refine lv_iconst (v := 1) hx hb dX12_showsAs_12 (by decide) ?_
  refine lv_iload_n hx hb dX12_showsAs_13 rfl (lv_at hl 2 rfl) ?_
  refine kcm_i hA hAB hP hD hS [true, true] rfl (fun _ => rfl) (fun hPc hDc => va_runV (As := [.int 1, .int p2]) (rest := []) ⟨hx, hb, hml, hown, hts⟩ (k_X12_showsAs_0 l D κ β a12 r12 v12_keptMany v12_done v12_sheets v12_holes v12_worms v12_laidMany v12_wanted v12_orderMany v12_firstOrder v12_lines v12_marks v12_dots v12_madeIn v12_bound v12_places v12_maps v12_tapeMany v12_stories v12_base v12_at v12_ends v12_fault v12_opened v12_bodies x30 v12_ownKind v12_ownNumber g31 H.size 1 p2 i1 i2 i3 i4 i5 i6 i7 i8 i9 i10 i11 i12 i13 i14 i15 h33 i17 (by omega) (by omega)) (cwV 2 hts gX12_showsAs_X12_showsAs rfl rfl rfl (by decide +kernel) ⟨Nat.le_of_ble_eq_true rfl, Nat.le_of_ble_eq_true rfl⟩) (pk_V hK hS hAB hPc hDc 0 (ci := 12) rfl rfl rfl) rfl rfl hl.1 rfl (lv_room (Nat.le_of_ble_eq_true rfl)) dX12_showsAs_14 ⟨Nat.le_of_ble_eq_true rfl, Nat.le_of_ble_eq_true rfl⟩) (fun x37 u38 H locs hw hPD hS => ?_)
  obtain ⟨x35, g36⟩ := u38
  obtain ⟨h39, h40⟩ : (0 ≤ x35.toInt ∧ x35.toInt ≤ 1000) ∧ (x30.toInt ≤ x35.toInt ∧ x35.toInt ≤ x30.toInt + 1) := hw
  obtain ⟨hP, hD⟩ : PD D A [O12 a12 r12 v12_keptMany v12_done v12_sheets v12_holes v12_worms v12_laidMany v12_wanted v12_orderMany v12_firstOrder v12_lines v12_marks v12_dots v12_madeIn v12_bound v12_places v12_maps v12_tapeMany v12_stories v12_base v12_at v12_ends v12_fault v12_opened v12_bodies x35 v12_ownKind v12_ownNumber, (cI κ (r12 55) 24 g36)] H := hPD
  refine lv_iconst (v := 3) hx hb dX12_showsAs_17 (by decide) ?_
  refine lv_imul hx hb dX12_showsAs_18 ?_
  refine lv_topi (fun x41 e42 => ?_)
  try have h43 : x41.toInt = 3 * x37.toInt := ci_mulR (n := 3) (by decide) e42 (by omega) (by omega)
  have hpo : (0 ≤ x35.toInt ∧ x35.toInt ≤ 1000) ∧ (v12_ran.toInt ≤ x35.toInt ∧ x35.toInt ≤ v12_ran.toInt + 4) := ⟨h39, (by omega)⟩
  exact ret _ _ _ _ x41 (x35, g36) dX12_showsAs_19 hpo hP hD hS
set_option maxHeartbeats 4000000 in
set_option maxRecDepth 100000 in
theorem k_X12_needsAs_0 (l : Launch) (D : va_G) (κ : Nat → ClassId) (β : Nat) (a12 : Nat) (r12 : Nat → Nat) (v12_keptMany : Int32) (v12_done : Int32) (v12_sheets : Int32) (v12_holes : Int32) (v12_worms : Int32) (v12_laidMany : Int32) (v12_wanted : Int32) (v12_orderMany : Int32) (v12_firstOrder : Int32) (v12_lines : Int32) (v12_marks : Int32) (v12_dots : Int32) (v12_madeIn : Int32) (v12_bound : Int32) (v12_places : Int32) (v12_maps : Int32) (v12_tapeMany : Int32) (v12_stories : Int32) (v12_base : Int32) (v12_at : Int32) (v12_ends : Int32) (v12_fault : Int32) (v12_opened : Int32) (v12_bodies : Int32) (v12_ran : Int32) (v12_ownKind : Int32) (v12_ownNumber : Int32) (f12_trace : Nat → Int32) (sz : Nat) (p1 : Int32) (p2 : Int32) (i1 : Rg 0 40 v12_keptMany) (i2 : Rg 0 40 v12_done) (i3 : Rg 0 8 v12_sheets) (i4 : Rg 0 40 v12_holes) (i5 : Rg 0 40 v12_worms) (i6 : Rg 0 8 v12_laidMany) (i7 : Rg 0 8 v12_wanted) (i8 : Rg 0 20 v12_lines) (i9 : Rg 0 60 v12_marks) (i10 : Rg 0 40 v12_dots) (i11 : Rg 0 20 v12_places) (i12 : Rg 0 8 v12_maps) (i13 : Rg 0 120 v12_tapeMany) (i14 : Rg 0 6 v12_stories) (i15 : Rg 0 50 v12_bodies) (i16 : Rg 0 1000 v12_ran) (i17 : v12_done.toInt ≤ v12_keptMany.toInt) (i18 : p1.toInt = 0 ∨ p1.toInt = 6) (i19 : v12_ran.toInt ≤ 870) : Met l yX12_needsAs wsX12_needsAs ({ frames := 3, cells := 0, slots := 0, locals := 65 } : Room) (PcK D κ β [O12 a12 r12 v12_keptMany v12_done v12_sheets v12_holes v12_worms v12_laidMany v12_wanted v12_orderMany v12_firstOrder v12_lines v12_marks v12_dots v12_madeIn v12_bound v12_places v12_maps v12_tapeMany v12_stories v12_base v12_at v12_ends v12_fault v12_opened v12_bodies v12_ran v12_ownKind v12_ownNumber, (cI κ (r12 55) 24 f12_trace)] sz [.ref a12, .int p1, .int p2]) (QiK D (fun (r : Int32) (u : Int32 × (Nat → Int32)) => (0 ≤ u.1.toInt ∧ u.1.toInt ≤ 1000) ∧ (v12_ran.toInt ≤ u.1.toInt ∧ u.1.toInt ≤ v12_ran.toInt + 3)) (fun (u : Int32 × (Nat → Int32)) => [O12 a12 r12 v12_keptMany v12_done v12_sheets v12_holes v12_worms v12_laidMany v12_wanted v12_orderMany v12_firstOrder v12_lines v12_marks v12_dots v12_madeIn v12_bound v12_places v12_maps v12_tapeMany v12_stories v12_base v12_at v12_ends v12_fault v12_opened v12_bodies u.1 v12_ownKind v12_ownNumber, (cI κ (r12 55) 24 u.2)]) [O12 a12 r12 v12_keptMany v12_done v12_sheets v12_holes v12_worms v12_laidMany v12_wanted v12_orderMany v12_firstOrder v12_lines v12_marks v12_dots v12_madeIn v12_bound v12_places v12_maps v12_tapeMany v12_stories v12_base v12_at v12_ends v12_fault v12_opened v12_bodies v12_ran v12_ownKind v12_ownNumber, (cI κ (r12 55) 24 f12_trace)] sz) 0 0 (va_A [O12 a12 r12 v12_keptMany v12_done v12_sheets v12_holes v12_worms v12_laidMany v12_wanted v12_orderMany v12_firstOrder v12_lines v12_marks v12_dots v12_madeIn v12_bound v12_places v12_maps v12_tapeMany v12_stories v12_base v12_at v12_ends v12_fault v12_opened v12_bodies v12_ran v12_ownKind v12_ownNumber, (cI κ (r12 55) 24 f12_trace)] sz) := by
  refine ofK_i (cc := cX12_needsAs) (maxL := 4) (own := RX12) (by decide) rfl rfl (Nat.le_of_ble_eq_true rfl) ?_
  intro p e s m args below meth c Q A ls hsz hx hb hml hts hown hK hA hAB hP hD hl ret
  have hS : va_S A s.heap s.heap [] := va_S.rf
  have hl : lv_has ls 4 [(0, .ref a12), (1, .int p1), (2, .int p2)] := hl
  have w0 := hts (.fieldLink RX12 398 "OlderSkinModel" "ownKind" "I") (List.mem_of_getElem? (i := 1) rfl)
  have w1 := (fun w h => List.mem_cons_of_mem _ (List.mem_append_right _ h) : ∀ w ∈ u_ws RX12 TX12 63, w ∈ wsX12_needsAs)
  have l0 : (4 : Int32).toInt = 4 := by decide
  have l1 : (0 : Int32).toInt = 0 := by decide
  have l2 : (2 : Int32).toInt = 2 := by decide
  have l3 : (7 : Int32).toInt = 7 := by decide
  have l4 : (10 : Int32).toInt = 10 := by decide
  have i16 : 0 ≤ v12_ran.toInt ∧ v12_ran.toInt ≤ 1000 := i16
  refine lv_iload_n hx hb dX12_needsAs_0 rfl (lv_at hl 1 rfl) ?_
  refine lv_iconst (v := 4) hx hb dX12_needsAs_1 (by decide) ?_
  refine lv_icmp_ne (tgt := 20) hx hb dX12_needsAs_2 (by decide) (fun c1 => ?_) (fun c1 => ?_)
  · have c1 := ci_ne c1
    refine lv_iload_n hx hb dX12_needsAs_20 rfl (lv_at hl 1 rfl) ?_
    refine lv_iconst (v := 2) hx hb dX12_needsAs_21 (by decide) ?_
    refine lv_icmp_ne (tgt := 39) hx hb dX12_needsAs_22 (by decide) (fun c2 => ?_) (fun c2 => ?_)
    · have c2 := ci_ne c2
      refine lv_iload_n hx hb dX12_needsAs_39 rfl (lv_at hl 1 rfl) ?_
      refine lv_bipush (v := 7) hx hb dX12_needsAs_40 (by decide) ?_
      refine lv_icmp_ne (tgt := 71) hx hb dX12_needsAs_42 (by decide) (fun c3 => ?_) (fun c3 => ?_)
      · have c3 := ci_ne c3
        refine lv_aload_n hx hb dX12_needsAs_71 rfl (lv_at hl 0 rfl) ?_
        refine lv_bipush (v := 10) hx hb dX12_needsAs_72 (by decide) ?_
        refine kcm_v hA hAB hP hD hS [true, true] rfl (fun _ => rfl) (fun hPc hDc => va_runV (As := [.int 10]) (rest := []) ⟨hx, hb, hml, hown, hts⟩ (k_X12_begins l D κ β a12 r12 v12_keptMany v12_done v12_sheets v12_holes v12_worms v12_laidMany v12_wanted v12_orderMany v12_firstOrder v12_lines v12_marks v12_dots v12_madeIn v12_bound v12_places v12_maps v12_tapeMany v12_stories v12_base v12_at v12_ends v12_fault v12_opened v12_bodies v12_ran v12_ownKind v12_ownNumber f12_trace s.heap.size 10 i1 i2 i3 i4 i5 i6 i7 i8 i9 i10 i11 i12 i13 i14 i15 i16 i17 (by omega)) (cwV 1 hts gX12_needsAs_X12_begins rfl rfl rfl (by decide +kernel) ⟨Nat.le_of_ble_eq_true rfl, Nat.le_of_ble_eq_true rfl⟩) (pk_V hK hS hAB hPc hDc 0 (ci := 12) rfl rfl rfl) rfl rfl hl.1 rfl (lv_room (Nat.le_of_ble_eq_true rfl)) dX12_needsAs_74 ⟨Nat.le_of_ble_eq_true rfl, Nat.le_of_ble_eq_true rfl⟩) (fun u6 H locs hw hPD hS => ?_)
        obtain ⟨x4, g5⟩ := u6
        obtain ⟨h7, h8⟩ : (0 ≤ x4.toInt ∧ x4.toInt ≤ 1000) ∧ (x4.toInt = v12_ran.toInt + 1) := hw
        obtain ⟨hP, hD⟩ : PD D A [O12 a12 r12 v12_keptMany v12_done v12_sheets v12_holes v12_worms v12_laidMany v12_wanted v12_orderMany v12_firstOrder v12_lines v12_marks v12_dots v12_madeIn v12_bound v12_places v12_maps v12_tapeMany v12_stories v12_base v12_at v12_ends v12_fault v12_opened v12_bodies x4 v12_ownKind v12_ownNumber, (cI κ (r12 55) 24 g5)] H := hPD
        refine lv_aload_n hx hb dX12_needsAs_77 rfl (lv_at hl 0 rfl) ?_
        refine lv_aload_n hx hb dX12_needsAs_78 rfl (lv_at hl 0 rfl) ?_
        refine va_get (D := D) (ci := 12) (v := .int v12_ownKind) (C := RX12) (T := TX12) (N := 63) hx hb hts w1 hown hK.1 hP 0 rfl rfl 57 (by decide) w0 (fun _ h9 => h9) rfl dX12_needsAs_79 ?_
        refine lv_iload_n hx hb dX12_needsAs_82 rfl (lv_at hl 2 rfl) ?_
        refine kcm_i hA hAB hP hD hS [true, true] rfl (fun _ => rfl) (fun hPc hDc => va_runV (As := [.int v12_ownKind, .int p2]) (rest := []) ⟨hx, hb, hml, hown, hts⟩ (k_X12_liesAs l D κ β a12 r12 v12_keptMany v12_done v12_sheets v12_holes v12_worms v12_laidMany v12_wanted v12_orderMany v12_firstOrder v12_lines v12_marks v12_dots v12_madeIn v12_bound v12_places v12_maps v12_tapeMany v12_stories v12_base v12_at v12_ends v12_fault v12_opened v12_bodies x4 v12_ownKind v12_ownNumber g5 H.size v12_ownKind p2 i1 i2 i3 i4 i5 i6 i7 i8 i9 i10 i11 i12 i13 i14 i15 h7 i17 (by omega)) (cwV 2 hts gX12_needsAs_X12_liesAs rfl rfl rfl (by decide +kernel) ⟨Nat.le_of_ble_eq_true rfl, Nat.le_of_ble_eq_true rfl⟩) (pk_V hK hS hAB hPc hDc 0 (ci := 12) rfl rfl rfl) rfl rfl hl.1 rfl (lv_room (Nat.le_of_ble_eq_true rfl)) dX12_needsAs_83 ⟨Nat.le_of_ble_eq_true rfl, Nat.le_of_ble_eq_true rfl⟩) (fun x11 u12 H locs hw hPD hS => ?_)
        obtain ⟨x9, g10⟩ := u12
        obtain ⟨h13, h14⟩ : (0 ≤ x9.toInt ∧ x9.toInt ≤ 1000) ∧ (x4.toInt ≤ x9.toInt ∧ x9.toInt ≤ x4.toInt + 2) := hw
        obtain ⟨hP, hD⟩ : PD D A [O12 a12 r12 v12_keptMany v12_done v12_sheets v12_holes v12_worms v12_laidMany v12_wanted v12_orderMany v12_firstOrder v12_lines v12_marks v12_dots v12_madeIn v12_bound v12_places v12_maps v12_tapeMany v12_stories v12_base v12_at v12_ends v12_fault v12_opened v12_bodies x9 v12_ownKind v12_ownNumber, (cI κ (r12 55) 24 g10)] H := hPD
        refine lv_iconst (v := 2) hx hb dX12_needsAs_86 (by decide) ?_
        refine lv_imul hx hb dX12_needsAs_87 ?_
        refine lv_topi (fun x15 e16 => ?_)
        try have h17 : x15.toInt = 2 * x11.toInt := ci_mulR (n := 2) (by decide) e16 (by omega) (by omega)
        have hpo : (0 ≤ x9.toInt ∧ x9.toInt ≤ 1000) ∧ (v12_ran.toInt ≤ x9.toInt ∧ x9.toInt ≤ v12_ran.toInt + 3) := ⟨h13, (by omega)⟩
        exact ret _ _ _ _ x15 (x9, g10) dX12_needsAs_88 hpo hP hD hS
      have c3 := ci_eq c3
      exfalso
      omega
    have c2 := ci_eq c2
    exfalso
    omega
  have c1 := ci_eq c1
  exfalso
  omega
set_option maxHeartbeats 4000000 in
set_option maxRecDepth 100000 in
theorem k_X12_needsAs_2 (l : Launch) (D : va_G) (κ : Nat → ClassId) (β : Nat) (a12 : Nat) (r12 : Nat → Nat) (v12_keptMany : Int32) (v12_done : Int32) (v12_sheets : Int32) (v12_holes : Int32) (v12_worms : Int32) (v12_laidMany : Int32) (v12_wanted : Int32) (v12_orderMany : Int32) (v12_firstOrder : Int32) (v12_lines : Int32) (v12_marks : Int32) (v12_dots : Int32) (v12_madeIn : Int32) (v12_bound : Int32) (v12_places : Int32) (v12_maps : Int32) (v12_tapeMany : Int32) (v12_stories : Int32) (v12_base : Int32) (v12_at : Int32) (v12_ends : Int32) (v12_fault : Int32) (v12_opened : Int32) (v12_bodies : Int32) (v12_ran : Int32) (v12_ownKind : Int32) (v12_ownNumber : Int32) (f12_trace : Nat → Int32) (sz : Nat) (p1 : Int32) (p2 : Int32) (i1 : Rg 0 40 v12_keptMany) (i2 : Rg 0 40 v12_done) (i3 : Rg 0 8 v12_sheets) (i4 : Rg 0 40 v12_holes) (i5 : Rg 0 40 v12_worms) (i6 : Rg 0 8 v12_laidMany) (i7 : Rg 0 8 v12_wanted) (i8 : Rg 0 20 v12_lines) (i9 : Rg 0 60 v12_marks) (i10 : Rg 0 40 v12_dots) (i11 : Rg 0 20 v12_places) (i12 : Rg 0 8 v12_maps) (i13 : Rg 0 120 v12_tapeMany) (i14 : Rg 0 6 v12_stories) (i15 : Rg 0 50 v12_bodies) (i16 : Rg 0 1000 v12_ran) (i17 : v12_done.toInt ≤ v12_keptMany.toInt) (i18 : p1.toInt = 2) (i19 : v12_ran.toInt ≤ 860) : Met l yX12_needsAs wsX12_needsAs ({ frames := 4, cells := 0, slots := 0, locals := 88 } : Room) (PcK D κ β [O12 a12 r12 v12_keptMany v12_done v12_sheets v12_holes v12_worms v12_laidMany v12_wanted v12_orderMany v12_firstOrder v12_lines v12_marks v12_dots v12_madeIn v12_bound v12_places v12_maps v12_tapeMany v12_stories v12_base v12_at v12_ends v12_fault v12_opened v12_bodies v12_ran v12_ownKind v12_ownNumber, (cI κ (r12 55) 24 f12_trace)] sz [.ref a12, .int p1, .int p2]) (QiK D (fun (r : Int32) (u : Int32 × (Nat → Int32)) => (0 ≤ u.1.toInt ∧ u.1.toInt ≤ 1000) ∧ (v12_ran.toInt ≤ u.1.toInt ∧ u.1.toInt ≤ v12_ran.toInt + 4)) (fun (u : Int32 × (Nat → Int32)) => [O12 a12 r12 v12_keptMany v12_done v12_sheets v12_holes v12_worms v12_laidMany v12_wanted v12_orderMany v12_firstOrder v12_lines v12_marks v12_dots v12_madeIn v12_bound v12_places v12_maps v12_tapeMany v12_stories v12_base v12_at v12_ends v12_fault v12_opened v12_bodies u.1 v12_ownKind v12_ownNumber, (cI κ (r12 55) 24 u.2)]) [O12 a12 r12 v12_keptMany v12_done v12_sheets v12_holes v12_worms v12_laidMany v12_wanted v12_orderMany v12_firstOrder v12_lines v12_marks v12_dots v12_madeIn v12_bound v12_places v12_maps v12_tapeMany v12_stories v12_base v12_at v12_ends v12_fault v12_opened v12_bodies v12_ran v12_ownKind v12_ownNumber, (cI κ (r12 55) 24 f12_trace)] sz) 0 0 (va_A [O12 a12 r12 v12_keptMany v12_done v12_sheets v12_holes v12_worms v12_laidMany v12_wanted v12_orderMany v12_firstOrder v12_lines v12_marks v12_dots v12_madeIn v12_bound v12_places v12_maps v12_tapeMany v12_stories v12_base v12_at v12_ends v12_fault v12_opened v12_bodies v12_ran v12_ownKind v12_ownNumber, (cI κ (r12 55) 24 f12_trace)] sz) := by
  refine ofK_i (cc := cX12_needsAs) (maxL := 4) (own := RX12) (by decide) rfl rfl (Nat.le_of_ble_eq_true rfl) ?_
  intro p e s m args below meth c Q A ls hsz hx hb hml hts hown hK hA hAB hP hD hl ret
  have hS : va_S A s.heap s.heap [] := va_S.rf
  have hl : lv_has ls 4 [(0, .ref a12), (1, .int p1), (2, .int p2)] := hl
  have l0 : (4 : Int32).toInt = 4 := by decide
  have l1 : (0 : Int32).toInt = 0 := by decide
  have l2 : (2 : Int32).toInt = 2 := by decide
  have l3 : (30 : Int32).toInt = 30 := by decide
  have i16 : 0 ≤ v12_ran.toInt ∧ v12_ran.toInt ≤ 1000 := i16
  refine lv_iload_n hx hb dX12_needsAs_0 rfl (lv_at hl 1 rfl) ?_
  refine lv_iconst (v := 4) hx hb dX12_needsAs_1 (by decide) ?_
  refine lv_icmp_ne (tgt := 20) hx hb dX12_needsAs_2 (by decide) (fun c1 => ?_) (fun c1 => ?_)
  · have c1 := ci_ne c1
    refine lv_iload_n hx hb dX12_needsAs_20 rfl (lv_at hl 1 rfl) ?_
    refine lv_iconst (v := 2) hx hb dX12_needsAs_21 (by decide) ?_
    refine lv_icmp_ne (tgt := 39) hx hb dX12_needsAs_22 (by decide) (fun c2 => ?_) (fun c2 => ?_)
    · have c2 := ci_ne c2
      exfalso
      omega
    have c2 := ci_eq c2
    refine lv_aload_n hx hb dX12_needsAs_25 rfl (lv_at hl 0 rfl) ?_
    refine lv_bipush (v := 30) hx hb dX12_needsAs_26 (by decide) ?_
    refine kcm_v hA hAB hP hD hS [true, true] rfl (fun _ => rfl) (fun hPc hDc => va_runV (As := [.int 30]) (rest := []) ⟨hx, hb, hml, hown, hts⟩ (k_X12_begins l D κ β a12 r12 v12_keptMany v12_done v12_sheets v12_holes v12_worms v12_laidMany v12_wanted v12_orderMany v12_firstOrder v12_lines v12_marks v12_dots v12_madeIn v12_bound v12_places v12_maps v12_tapeMany v12_stories v12_base v12_at v12_ends v12_fault v12_opened v12_bodies v12_ran v12_ownKind v12_ownNumber f12_trace s.heap.size 30 i1 i2 i3 i4 i5 i6 i7 i8 i9 i10 i11 i12 i13 i14 i15 i16 i17 (by omega)) (cwV 1 hts gX12_needsAs_X12_begins rfl rfl rfl (by decide +kernel) ⟨Nat.le_of_ble_eq_true rfl, Nat.le_of_ble_eq_true rfl⟩) (pk_V hK hS hAB hPc hDc 0 (ci := 12) rfl rfl rfl) rfl rfl hl.1 rfl (lv_room (Nat.le_of_ble_eq_true rfl)) dX12_needsAs_28 ⟨Nat.le_of_ble_eq_true rfl, Nat.le_of_ble_eq_true rfl⟩) (fun u5 H locs hw hPD hS => ?_)
    obtain ⟨x3, g4⟩ := u5
    obtain ⟨h6, h7⟩ : (0 ≤ x3.toInt ∧ x3.toInt ≤ 1000) ∧ (x3.toInt = v12_ran.toInt + 1) := hw
    obtain ⟨hP, hD⟩ : PD D A [O12 a12 r12 v12_keptMany v12_done v12_sheets v12_holes v12_worms v12_laidMany v12_wanted v12_orderMany v12_firstOrder v12_lines v12_marks v12_dots v12_madeIn v12_bound v12_places v12_maps v12_tapeMany v12_stories v12_base v12_at v12_ends v12_fault v12_opened v12_bodies x3 v12_ownKind v12_ownNumber, (cI κ (r12 55) 24 g4)] H := hPD
    refine lv_aload_n hx hb dX12_needsAs_31 rfl (lv_at hl 0 rfl) ?_
    refine lv_iconst (v := 0) hx hb dX12_needsAs_32 (by decide) ?_
    refine lv_iload_n hx hb dX12_needsAs_33 rfl (lv_at hl 2 rfl) ?_
    refine kcm_i hA hAB hP hD hS [true, true] rfl (fun _ => rfl) (fun hPc hDc => va_runV (As := [.int 0, .int p2]) (rest := []) ⟨hx, hb, hml, hown, hts⟩ (k_X12_needsAs_0 l D κ β a12 r12 v12_keptMany v12_done v12_sheets v12_holes v12_worms v12_laidMany v12_wanted v12_orderMany v12_firstOrder v12_lines v12_marks v12_dots v12_madeIn v12_bound v12_places v12_maps v12_tapeMany v12_stories v12_base v12_at v12_ends v12_fault v12_opened v12_bodies x3 v12_ownKind v12_ownNumber g4 H.size 0 p2 i1 i2 i3 i4 i5 i6 i7 i8 i9 i10 i11 i12 i13 i14 i15 h6 i17 (by omega) (by omega)) (cwV 2 hts gX12_needsAs_X12_needsAs rfl rfl rfl (by decide +kernel) ⟨Nat.le_of_ble_eq_true rfl, Nat.le_of_ble_eq_true rfl⟩) (pk_V hK hS hAB hPc hDc 0 (ci := 12) rfl rfl rfl) rfl rfl hl.1 rfl (lv_room (Nat.le_of_ble_eq_true rfl)) dX12_needsAs_34 ⟨Nat.le_of_ble_eq_true rfl, Nat.le_of_ble_eq_true rfl⟩) (fun x10 u11 H locs hw hPD hS => ?_)
    obtain ⟨x8, g9⟩ := u11
    obtain ⟨h12, h13⟩ : (0 ≤ x8.toInt ∧ x8.toInt ≤ 1000) ∧ (x3.toInt ≤ x8.toInt ∧ x8.toInt ≤ x3.toInt + 3) := hw
    obtain ⟨hP, hD⟩ : PD D A [O12 a12 r12 v12_keptMany v12_done v12_sheets v12_holes v12_worms v12_laidMany v12_wanted v12_orderMany v12_firstOrder v12_lines v12_marks v12_dots v12_madeIn v12_bound v12_places v12_maps v12_tapeMany v12_stories v12_base v12_at v12_ends v12_fault v12_opened v12_bodies x8 v12_ownKind v12_ownNumber, (cI κ (r12 55) 24 g9)] H := hPD
    refine lv_ineg hx hb dX12_needsAs_37 ?_
    refine lv_topi (fun x14 e15 => ?_)
    try have h16 : x14.toInt = -x10.toInt := ci_neg e15 (by omega)
    have hpo : (0 ≤ x8.toInt ∧ x8.toInt ≤ 1000) ∧ (v12_ran.toInt ≤ x8.toInt ∧ x8.toInt ≤ v12_ran.toInt + 4) := ⟨h12, (by omega)⟩
    exact ret _ _ _ _ x14 (x8, g9) dX12_needsAs_38 hpo hP hD hS
  have c1 := ci_eq c1
  exfalso
  omega
set_option maxHeartbeats 4000000 in
set_option maxRecDepth 100000 in
theorem k_X12_needsAs (l : Launch) (D : va_G) (κ : Nat → ClassId) (β : Nat) (a12 : Nat) (r12 : Nat → Nat) (v12_keptMany : Int32) (v12_done : Int32) (v12_sheets : Int32) (v12_holes : Int32) (v12_worms : Int32) (v12_laidMany : Int32) (v12_wanted : Int32) (v12_orderMany : Int32) (v12_firstOrder : Int32) (v12_lines : Int32) (v12_marks : Int32) (v12_dots : Int32) (v12_madeIn : Int32) (v12_bound : Int32) (v12_places : Int32) (v12_maps : Int32) (v12_tapeMany : Int32) (v12_stories : Int32) (v12_base : Int32) (v12_at : Int32) (v12_ends : Int32) (v12_fault : Int32) (v12_opened : Int32) (v12_bodies : Int32) (v12_ran : Int32) (v12_ownKind : Int32) (v12_ownNumber : Int32) (f12_trace : Nat → Int32) (sz : Nat) (p1 : Int32) (p2 : Int32) (i1 : Rg 0 40 v12_keptMany) (i2 : Rg 0 40 v12_done) (i3 : Rg 0 8 v12_sheets) (i4 : Rg 0 40 v12_holes) (i5 : Rg 0 40 v12_worms) (i6 : Rg 0 8 v12_laidMany) (i7 : Rg 0 8 v12_wanted) (i8 : Rg 0 20 v12_lines) (i9 : Rg 0 60 v12_marks) (i10 : Rg 0 40 v12_dots) (i11 : Rg 0 20 v12_places) (i12 : Rg 0 8 v12_maps) (i13 : Rg 0 120 v12_tapeMany) (i14 : Rg 0 6 v12_stories) (i15 : Rg 0 50 v12_bodies) (i16 : Rg 0 1000 v12_ran) (i17 : v12_done.toInt ≤ v12_keptMany.toInt) (i18 : v12_ran.toInt ≤ 850) : Met l yX12_needsAs wsX12_needsAs ({ frames := 5, cells := 0, slots := 0, locals := 111 } : Room) (PcK D κ β [O12 a12 r12 v12_keptMany v12_done v12_sheets v12_holes v12_worms v12_laidMany v12_wanted v12_orderMany v12_firstOrder v12_lines v12_marks v12_dots v12_madeIn v12_bound v12_places v12_maps v12_tapeMany v12_stories v12_base v12_at v12_ends v12_fault v12_opened v12_bodies v12_ran v12_ownKind v12_ownNumber, (cI κ (r12 55) 24 f12_trace)] sz [.ref a12, .int p1, .int p2]) (QiK D (fun (r : Int32) (u : Int32 × (Nat → Int32)) => (0 ≤ u.1.toInt ∧ u.1.toInt ≤ 1000) ∧ (v12_ran.toInt ≤ u.1.toInt ∧ u.1.toInt ≤ v12_ran.toInt + 8)) (fun (u : Int32 × (Nat → Int32)) => [O12 a12 r12 v12_keptMany v12_done v12_sheets v12_holes v12_worms v12_laidMany v12_wanted v12_orderMany v12_firstOrder v12_lines v12_marks v12_dots v12_madeIn v12_bound v12_places v12_maps v12_tapeMany v12_stories v12_base v12_at v12_ends v12_fault v12_opened v12_bodies u.1 v12_ownKind v12_ownNumber, (cI κ (r12 55) 24 u.2)]) [O12 a12 r12 v12_keptMany v12_done v12_sheets v12_holes v12_worms v12_laidMany v12_wanted v12_orderMany v12_firstOrder v12_lines v12_marks v12_dots v12_madeIn v12_bound v12_places v12_maps v12_tapeMany v12_stories v12_base v12_at v12_ends v12_fault v12_opened v12_bodies v12_ran v12_ownKind v12_ownNumber, (cI κ (r12 55) 24 f12_trace)] sz) 0 0 (va_A [O12 a12 r12 v12_keptMany v12_done v12_sheets v12_holes v12_worms v12_laidMany v12_wanted v12_orderMany v12_firstOrder v12_lines v12_marks v12_dots v12_madeIn v12_bound v12_places v12_maps v12_tapeMany v12_stories v12_base v12_at v12_ends v12_fault v12_opened v12_bodies v12_ran v12_ownKind v12_ownNumber, (cI κ (r12 55) 24 f12_trace)] sz) := by
  refine ofK_i (cc := cX12_needsAs) (maxL := 4) (own := RX12) (by decide) rfl rfl (Nat.le_of_ble_eq_true rfl) ?_
  intro p e s m args below meth c Q A ls hsz hx hb hml hts hown hK hA hAB hP hD hl ret
  have hS : va_S A s.heap s.heap [] := va_S.rf
  have hl : lv_has ls 4 [(0, .ref a12), (1, .int p1), (2, .int p2)] := hl
  have w0 := hts (.fieldLink RX12 398 "OlderSkinModel" "ownKind" "I") (List.mem_of_getElem? (i := 1) rfl)
  have w1 := (fun w h => List.mem_cons_of_mem _ (List.mem_append_right _ h) : ∀ w ∈ u_ws RX12 TX12 63, w ∈ wsX12_needsAs)
  have l0 : (4 : Int32).toInt = 4 := by decide
  have l1 : (0 : Int32).toInt = 0 := by decide
  have l2 : (2 : Int32).toInt = 2 := by decide
  have l3 : (7 : Int32).toInt = 7 := by decide
  have l4 : (10 : Int32).toInt = 10 := by decide
  have l5 : (80 : Int32).toInt = 80 := by decide
  have l6 : (6 : Int32).toInt = 6 := by decide
  have l7 : (30 : Int32).toInt = 30 := by decide
  have l8 : (51 : Int32).toInt = 51 := by decide
  have l9 : (1 : Int32).toInt = 1 := by decide
  have i16 : 0 ≤ v12_ran.toInt ∧ v12_ran.toInt ≤ 1000 := i16
  refine lv_iload_n hx hb dX12_needsAs_0 rfl (lv_at hl 1 rfl) ?_
  refine lv_iconst (v := 4) hx hb dX12_needsAs_1 (by decide) ?_
  refine lv_icmp_ne (tgt := 20) hx hb dX12_needsAs_2 (by decide) (fun c1 => ?_) (fun c1 => ?_)
  · have c1 := ci_ne c1
    refine lv_iload_n hx hb dX12_needsAs_20 rfl (lv_at hl 1 rfl) ?_
    refine lv_iconst (v := 2) hx hb dX12_needsAs_21 (by decide) ?_
    refine lv_icmp_ne (tgt := 39) hx hb dX12_needsAs_22 (by decide) (fun c2 => ?_) (fun c2 => ?_)
    · have c2 := ci_ne c2
      refine lv_iload_n hx hb dX12_needsAs_39 rfl (lv_at hl 1 rfl) ?_
      refine lv_bipush (v := 7) hx hb dX12_needsAs_40 (by decide) ?_
      refine lv_icmp_ne (tgt := 71) hx hb dX12_needsAs_42 (by decide) (fun c3 => ?_) (fun c3 => ?_)
      · have c3 := ci_ne c3
        refine lv_aload_n hx hb dX12_needsAs_71 rfl (lv_at hl 0 rfl) ?_
        refine lv_bipush (v := 10) hx hb dX12_needsAs_72 (by decide) ?_
        refine kcm_v hA hAB hP hD hS [true, true] rfl (fun _ => rfl) (fun hPc hDc => va_runV (As := [.int 10]) (rest := []) ⟨hx, hb, hml, hown, hts⟩ (k_X12_begins l D κ β a12 r12 v12_keptMany v12_done v12_sheets v12_holes v12_worms v12_laidMany v12_wanted v12_orderMany v12_firstOrder v12_lines v12_marks v12_dots v12_madeIn v12_bound v12_places v12_maps v12_tapeMany v12_stories v12_base v12_at v12_ends v12_fault v12_opened v12_bodies v12_ran v12_ownKind v12_ownNumber f12_trace s.heap.size 10 i1 i2 i3 i4 i5 i6 i7 i8 i9 i10 i11 i12 i13 i14 i15 i16 i17 (by omega)) (cwV 1 hts gX12_needsAs_X12_begins rfl rfl rfl (by decide +kernel) ⟨Nat.le_of_ble_eq_true rfl, Nat.le_of_ble_eq_true rfl⟩) (pk_V hK hS hAB hPc hDc 0 (ci := 12) rfl rfl rfl) rfl rfl hl.1 rfl (lv_room (Nat.le_of_ble_eq_true rfl)) dX12_needsAs_74 ⟨Nat.le_of_ble_eq_true rfl, Nat.le_of_ble_eq_true rfl⟩) (fun u6 H locs hw hPD hS => ?_)
        obtain ⟨x4, g5⟩ := u6
        obtain ⟨h7, h8⟩ : (0 ≤ x4.toInt ∧ x4.toInt ≤ 1000) ∧ (x4.toInt = v12_ran.toInt + 1) := hw
        obtain ⟨hP, hD⟩ : PD D A [O12 a12 r12 v12_keptMany v12_done v12_sheets v12_holes v12_worms v12_laidMany v12_wanted v12_orderMany v12_firstOrder v12_lines v12_marks v12_dots v12_madeIn v12_bound v12_places v12_maps v12_tapeMany v12_stories v12_base v12_at v12_ends v12_fault v12_opened v12_bodies x4 v12_ownKind v12_ownNumber, (cI κ (r12 55) 24 g5)] H := hPD
        refine lv_aload_n hx hb dX12_needsAs_77 rfl (lv_at hl 0 rfl) ?_
        refine lv_aload_n hx hb dX12_needsAs_78 rfl (lv_at hl 0 rfl) ?_
        refine va_get (D := D) (ci := 12) (v := .int v12_ownKind) (C := RX12) (T := TX12) (N := 63) hx hb hts w1 hown hK.1 hP 0 rfl rfl 57 (by decide) w0 (fun _ h9 => h9) rfl dX12_needsAs_79 ?_
        refine lv_iload_n hx hb dX12_needsAs_82 rfl (lv_at hl 2 rfl) ?_
        refine kcm_i hA hAB hP hD hS [true, true] rfl (fun _ => rfl) (fun hPc hDc => va_runV (As := [.int v12_ownKind, .int p2]) (rest := []) ⟨hx, hb, hml, hown, hts⟩ (k_X12_liesAs l D κ β a12 r12 v12_keptMany v12_done v12_sheets v12_holes v12_worms v12_laidMany v12_wanted v12_orderMany v12_firstOrder v12_lines v12_marks v12_dots v12_madeIn v12_bound v12_places v12_maps v12_tapeMany v12_stories v12_base v12_at v12_ends v12_fault v12_opened v12_bodies x4 v12_ownKind v12_ownNumber g5 H.size v12_ownKind p2 i1 i2 i3 i4 i5 i6 i7 i8 i9 i10 i11 i12 i13 i14 i15 h7 i17 (by omega)) (cwV 2 hts gX12_needsAs_X12_liesAs rfl rfl rfl (by decide +kernel) ⟨Nat.le_of_ble_eq_true rfl, Nat.le_of_ble_eq_true rfl⟩) (pk_V hK hS hAB hPc hDc 0 (ci := 12) rfl rfl rfl) rfl rfl hl.1 rfl (lv_room (Nat.le_of_ble_eq_true rfl)) dX12_needsAs_83 ⟨Nat.le_of_ble_eq_true rfl, Nat.le_of_ble_eq_true rfl⟩) (fun x11 u12 H locs hw hPD hS => ?_)
        obtain ⟨x9, g10⟩ := u12
        obtain ⟨h13, h14⟩ : (0 ≤ x9.toInt ∧ x9.toInt ≤ 1000) ∧ (x4.toInt ≤ x9.toInt ∧ x9.toInt ≤ x4.toInt + 2) := hw
        obtain ⟨hP, hD⟩ : PD D A [O12 a12 r12 v12_keptMany v12_done v12_sheets v12_holes v12_worms v12_laidMany v12_wanted v12_orderMany v12_firstOrder v12_lines v12_marks v12_dots v12_madeIn v12_bound v12_places v12_maps v12_tapeMany v12_stories v12_base v12_at v12_ends v12_fault v12_opened v12_bodies x9 v12_ownKind v12_ownNumber, (cI κ (r12 55) 24 g10)] H := hPD
        refine lv_iconst (v := 2) hx hb dX12_needsAs_86 (by decide) ?_
        refine lv_imul hx hb dX12_needsAs_87 ?_
        refine lv_topi (fun x15 e16 => ?_)
        try have h17 : x15.toInt = 2 * x11.toInt := ci_mulR (n := 2) (by decide) e16 (by omega) (by omega)
        have hpo : (0 ≤ x9.toInt ∧ x9.toInt ≤ 1000) ∧ (v12_ran.toInt ≤ x9.toInt ∧ x9.toInt ≤ v12_ran.toInt + 8) := ⟨h13, (by omega)⟩
        exact ret _ _ _ _ x15 (x9, g10) dX12_needsAs_88 hpo hP hD hS
      have c3 := ci_eq c3
      refine lv_aload_n hx hb dX12_needsAs_45 rfl (lv_at hl 0 rfl) ?_
      refine lv_bipush (v := 80) hx hb dX12_needsAs_46 (by decide) ?_
      refine kcm_v hA hAB hP hD hS [true, true] rfl (fun _ => rfl) (fun hPc hDc => va_runV (As := [.int 80]) (rest := []) ⟨hx, hb, hml, hown, hts⟩ (k_X12_begins l D κ β a12 r12 v12_keptMany v12_done v12_sheets v12_holes v12_worms v12_laidMany v12_wanted v12_orderMany v12_firstOrder v12_lines v12_marks v12_dots v12_madeIn v12_bound v12_places v12_maps v12_tapeMany v12_stories v12_base v12_at v12_ends v12_fault v12_opened v12_bodies v12_ran v12_ownKind v12_ownNumber f12_trace s.heap.size 80 i1 i2 i3 i4 i5 i6 i7 i8 i9 i10 i11 i12 i13 i14 i15 i16 i17 (by omega)) (cwV 1 hts gX12_needsAs_X12_begins rfl rfl rfl (by decide +kernel) ⟨Nat.le_of_ble_eq_true rfl, Nat.le_of_ble_eq_true rfl⟩) (pk_V hK hS hAB hPc hDc 0 (ci := 12) rfl rfl rfl) rfl rfl hl.1 rfl (lv_room (Nat.le_of_ble_eq_true rfl)) dX12_needsAs_48 ⟨Nat.le_of_ble_eq_true rfl, Nat.le_of_ble_eq_true rfl⟩) (fun u20 H locs hw hPD hS => ?_)
      obtain ⟨x18, g19⟩ := u20
      obtain ⟨h21, h22⟩ : (0 ≤ x18.toInt ∧ x18.toInt ≤ 1000) ∧ (x18.toInt = v12_ran.toInt + 1) := hw
      obtain ⟨hP, hD⟩ : PD D A [O12 a12 r12 v12_keptMany v12_done v12_sheets v12_holes v12_worms v12_laidMany v12_wanted v12_orderMany v12_firstOrder v12_lines v12_marks v12_dots v12_madeIn v12_bound v12_places v12_maps v12_tapeMany v12_stories v12_base v12_at v12_ends v12_fault v12_opened v12_bodies x18 v12_ownKind v12_ownNumber, (cI κ (r12 55) 24 g19)] H := hPD
      refine lv_aload_n hx hb dX12_needsAs_51 rfl (lv_at hl 0 rfl) ?_
      refine lv_bipush (v := 6) hx hb dX12_needsAs_52 (by decide) ?_
      refine lv_iload_n hx hb dX12_needsAs_54 rfl (lv_at hl 2 rfl) ?_
      refine kcm_i hA hAB hP hD hS [true, true] rfl (fun _ => rfl) (fun hPc hDc => va_runV (As := [.int 6, .int p2]) (rest := []) ⟨hx, hb, hml, hown, hts⟩ (k_X12_needsAs_0 l D κ β a12 r12 v12_keptMany v12_done v12_sheets v12_holes v12_worms v12_laidMany v12_wanted v12_orderMany v12_firstOrder v12_lines v12_marks v12_dots v12_madeIn v12_bound v12_places v12_maps v12_tapeMany v12_stories v12_base v12_at v12_ends v12_fault v12_opened v12_bodies x18 v12_ownKind v12_ownNumber g19 H.size 6 p2 i1 i2 i3 i4 i5 i6 i7 i8 i9 i10 i11 i12 i13 i14 i15 h21 i17 (by omega) (by omega)) (cwV 2 hts gX12_needsAs_X12_needsAs rfl rfl rfl (by decide +kernel) ⟨Nat.le_of_ble_eq_true rfl, Nat.le_of_ble_eq_true rfl⟩) (pk_V hK hS hAB hPc hDc 0 (ci := 12) rfl rfl rfl) rfl rfl hl.1 rfl (lv_room (Nat.le_of_ble_eq_true rfl)) dX12_needsAs_55 ⟨Nat.le_of_ble_eq_true rfl, Nat.le_of_ble_eq_true rfl⟩) (fun x25 u26 H locs hw hPD hS => ?_)
      obtain ⟨x23, g24⟩ := u26
      obtain ⟨h27, h28⟩ : (0 ≤ x23.toInt ∧ x23.toInt ≤ 1000) ∧ (x18.toInt ≤ x23.toInt ∧ x23.toInt ≤ x18.toInt + 3) := hw
      obtain ⟨hP, hD⟩ : PD D A [O12 a12 r12 v12_keptMany v12_done v12_sheets v12_holes v12_worms v12_laidMany v12_wanted v12_orderMany v12_firstOrder v12_lines v12_marks v12_dots v12_madeIn v12_bound v12_places v12_maps v12_tapeMany v12_stories v12_base v12_at v12_ends v12_fault v12_opened v12_bodies x23 v12_ownKind v12_ownNumber, (cI κ (r12 55) 24 g24)] H := hPD
      refine lv_istore_n (lv' := [(3, .int x25), (0, .ref a12), (1, .int p1), (2, .int p2)]) hx hb dX12_needsAs_58 rfl hl (by decide) rfl (fun ls hl => ?_)
      refine lv_iload_n hx hb dX12_needsAs_59 rfl (lv_at hl 0 rfl) ?_
      refine lv_aload_n hx hb dX12_needsAs_60 rfl (lv_at hl 1 rfl) ?_
      refine lv_aload_n hx hb dX12_needsAs_61 rfl (lv_at hl 1 rfl) ?_
      refine va_get (D := D) (ci := 12) (v := .int v12_ownKind) (C := RX12) (T := TX12) (N := 63) hx hb hts w1 hown hK.1 hP 0 rfl rfl 57 (by decide) w0 (fun _ h9 => h9) rfl dX12_needsAs_62 ?_
      refine lv_iconst (v := 2) hx hb dX12_needsAs_65 (by decide) ?_
      refine kcm_i hA hAB hP hD hS [true, true] rfl (fun _ => rfl) (fun hPc hDc => va_runV (As := [.int v12_ownKind, .int 2]) (rest := [.int x25]) ⟨hx, hb, hml, hown, hts⟩ (k_X12_showsAs l D κ β a12 r12 v12_keptMany v12_done v12_sheets v12_holes v12_worms v12_laidMany v12_wanted v12_orderMany v12_firstOrder v12_lines v12_marks v12_dots v12_madeIn v12_bound v12_places v12_maps v12_tapeMany v12_stories v12_base v12_at v12_ends v12_fault v12_opened v12_bodies x23 v12_ownKind v12_ownNumber g24 H.size v12_ownKind 2 i1 i2 i3 i4 i5 i6 i7 i8 i9 i10 i11 i12 i13 i14 i15 h27 i17 (by omega)) (cwV 2 hts gX12_needsAs_X12_showsAs rfl rfl rfl (by decide +kernel) ⟨Nat.le_of_ble_eq_true rfl, Nat.le_of_ble_eq_true rfl⟩) (pk_V hK hS hAB hPc hDc 0 (ci := 12) rfl rfl rfl) rfl rfl hl.1 rfl (lv_room (Nat.le_of_ble_eq_true rfl)) dX12_needsAs_66 ⟨Nat.le_of_ble_eq_true rfl, Nat.le_of_ble_eq_true rfl⟩) (fun x31 u32 H locs hw hPD hS => ?_)
      obtain ⟨x29, g30⟩ := u32
      obtain ⟨h33, h34⟩ : (0 ≤ x29.toInt ∧ x29.toInt ≤ 1000) ∧ (x23.toInt ≤ x29.toInt ∧ x29.toInt ≤ x23.toInt + 4) := hw
      obtain ⟨hP, hD⟩ : PD D A [O12 a12 r12 v12_keptMany v12_done v12_sheets v12_holes v12_worms v12_laidMany v12_wanted v12_orderMany v12_firstOrder v12_lines v12_marks v12_dots v12_madeIn v12_bound v12_places v12_maps v12_tapeMany v12_stories v12_base v12_at v12_ends v12_fault v12_opened v12_bodies x29 v12_ownKind v12_ownNumber, (cI κ (r12 55) 24 g30)] H := hPD
      refine lv_iadd hx hb dX12_needsAs_69 ?_
      refine lv_topi (fun x35 e36 => ?_)
      try have h37 : x35.toInt = x25.toInt + x31.toInt := ci_add e36 (by omega) (by omega)
      have hpo : (0 ≤ x29.toInt ∧ x29.toInt ≤ 1000) ∧ (v12_ran.toInt ≤ x29.toInt ∧ x29.toInt ≤ v12_ran.toInt + 8) := ⟨h33, (by omega)⟩
      exact ret _ _ _ _ x35 (x29, g30) dX12_needsAs_70 hpo hP hD hS
    have c2 := ci_eq c2
    refine lv_aload_n hx hb dX12_needsAs_25 rfl (lv_at hl 0 rfl) ?_
    refine lv_bipush (v := 30) hx hb dX12_needsAs_26 (by decide) ?_
    refine kcm_v hA hAB hP hD hS [true, true] rfl (fun _ => rfl) (fun hPc hDc => va_runV (As := [.int 30]) (rest := []) ⟨hx, hb, hml, hown, hts⟩ (k_X12_begins l D κ β a12 r12 v12_keptMany v12_done v12_sheets v12_holes v12_worms v12_laidMany v12_wanted v12_orderMany v12_firstOrder v12_lines v12_marks v12_dots v12_madeIn v12_bound v12_places v12_maps v12_tapeMany v12_stories v12_base v12_at v12_ends v12_fault v12_opened v12_bodies v12_ran v12_ownKind v12_ownNumber f12_trace s.heap.size 30 i1 i2 i3 i4 i5 i6 i7 i8 i9 i10 i11 i12 i13 i14 i15 i16 i17 (by omega)) (cwV 1 hts gX12_needsAs_X12_begins rfl rfl rfl (by decide +kernel) ⟨Nat.le_of_ble_eq_true rfl, Nat.le_of_ble_eq_true rfl⟩) (pk_V hK hS hAB hPc hDc 0 (ci := 12) rfl rfl rfl) rfl rfl hl.1 rfl (lv_room (Nat.le_of_ble_eq_true rfl)) dX12_needsAs_28 ⟨Nat.le_of_ble_eq_true rfl, Nat.le_of_ble_eq_true rfl⟩) (fun u40 H locs hw hPD hS => ?_)
    obtain ⟨x38, g39⟩ := u40
    obtain ⟨h41, h42⟩ : (0 ≤ x38.toInt ∧ x38.toInt ≤ 1000) ∧ (x38.toInt = v12_ran.toInt + 1) := hw
    obtain ⟨hP, hD⟩ : PD D A [O12 a12 r12 v12_keptMany v12_done v12_sheets v12_holes v12_worms v12_laidMany v12_wanted v12_orderMany v12_firstOrder v12_lines v12_marks v12_dots v12_madeIn v12_bound v12_places v12_maps v12_tapeMany v12_stories v12_base v12_at v12_ends v12_fault v12_opened v12_bodies x38 v12_ownKind v12_ownNumber, (cI κ (r12 55) 24 g39)] H := hPD
    refine lv_aload_n hx hb dX12_needsAs_31 rfl (lv_at hl 0 rfl) ?_
    refine lv_iconst (v := 0) hx hb dX12_needsAs_32 (by decide) ?_
    refine lv_iload_n hx hb dX12_needsAs_33 rfl (lv_at hl 2 rfl) ?_
    refine kcm_i hA hAB hP hD hS [true, true] rfl (fun _ => rfl) (fun hPc hDc => va_runV (As := [.int 0, .int p2]) (rest := []) ⟨hx, hb, hml, hown, hts⟩ (k_X12_needsAs_0 l D κ β a12 r12 v12_keptMany v12_done v12_sheets v12_holes v12_worms v12_laidMany v12_wanted v12_orderMany v12_firstOrder v12_lines v12_marks v12_dots v12_madeIn v12_bound v12_places v12_maps v12_tapeMany v12_stories v12_base v12_at v12_ends v12_fault v12_opened v12_bodies x38 v12_ownKind v12_ownNumber g39 H.size 0 p2 i1 i2 i3 i4 i5 i6 i7 i8 i9 i10 i11 i12 i13 i14 i15 h41 i17 (by omega) (by omega)) (cwV 2 hts gX12_needsAs_X12_needsAs rfl rfl rfl (by decide +kernel) ⟨Nat.le_of_ble_eq_true rfl, Nat.le_of_ble_eq_true rfl⟩) (pk_V hK hS hAB hPc hDc 0 (ci := 12) rfl rfl rfl) rfl rfl hl.1 rfl (lv_room (Nat.le_of_ble_eq_true rfl)) dX12_needsAs_34 ⟨Nat.le_of_ble_eq_true rfl, Nat.le_of_ble_eq_true rfl⟩) (fun x45 u46 H locs hw hPD hS => ?_)
    obtain ⟨x43, g44⟩ := u46
    obtain ⟨h47, h48⟩ : (0 ≤ x43.toInt ∧ x43.toInt ≤ 1000) ∧ (x38.toInt ≤ x43.toInt ∧ x43.toInt ≤ x38.toInt + 3) := hw
    obtain ⟨hP, hD⟩ : PD D A [O12 a12 r12 v12_keptMany v12_done v12_sheets v12_holes v12_worms v12_laidMany v12_wanted v12_orderMany v12_firstOrder v12_lines v12_marks v12_dots v12_madeIn v12_bound v12_places v12_maps v12_tapeMany v12_stories v12_base v12_at v12_ends v12_fault v12_opened v12_bodies x43 v12_ownKind v12_ownNumber, (cI κ (r12 55) 24 g44)] H := hPD
    refine lv_ineg hx hb dX12_needsAs_37 ?_
    refine lv_topi (fun x49 e50 => ?_)
    try have h51 : x49.toInt = -x45.toInt := ci_neg e50 (by omega)
    have hpo : (0 ≤ x43.toInt ∧ x43.toInt ≤ 1000) ∧ (v12_ran.toInt ≤ x43.toInt ∧ x43.toInt ≤ v12_ran.toInt + 8) := ⟨h47, (by omega)⟩
    exact ret _ _ _ _ x49 (x43, g44) dX12_needsAs_38 hpo hP hD hS
  have c1 := ci_eq c1
  refine lv_aload_n hx hb dX12_needsAs_5 rfl (lv_at hl 0 rfl) ?_
  refine lv_bipush (v := 51) hx hb dX12_needsAs_6 (by decide) ?_
  refine kcm_v hA hAB hP hD hS [true, true] rfl (fun _ => rfl) (fun hPc hDc => va_runV (As := [.int 51]) (rest := []) ⟨hx, hb, hml, hown, hts⟩ (k_X12_begins l D κ β a12 r12 v12_keptMany v12_done v12_sheets v12_holes v12_worms v12_laidMany v12_wanted v12_orderMany v12_firstOrder v12_lines v12_marks v12_dots v12_madeIn v12_bound v12_places v12_maps v12_tapeMany v12_stories v12_base v12_at v12_ends v12_fault v12_opened v12_bodies v12_ran v12_ownKind v12_ownNumber f12_trace s.heap.size 51 i1 i2 i3 i4 i5 i6 i7 i8 i9 i10 i11 i12 i13 i14 i15 i16 i17 (by omega)) (cwV 1 hts gX12_needsAs_X12_begins rfl rfl rfl (by decide +kernel) ⟨Nat.le_of_ble_eq_true rfl, Nat.le_of_ble_eq_true rfl⟩) (pk_V hK hS hAB hPc hDc 0 (ci := 12) rfl rfl rfl) rfl rfl hl.1 rfl (lv_room (Nat.le_of_ble_eq_true rfl)) dX12_needsAs_8 ⟨Nat.le_of_ble_eq_true rfl, Nat.le_of_ble_eq_true rfl⟩) (fun u54 H locs hw hPD hS => ?_)
  obtain ⟨x52, g53⟩ := u54
  obtain ⟨h55, h56⟩ : (0 ≤ x52.toInt ∧ x52.toInt ≤ 1000) ∧ (x52.toInt = v12_ran.toInt + 1) := hw
  obtain ⟨hP, hD⟩ : PD D A [O12 a12 r12 v12_keptMany v12_done v12_sheets v12_holes v12_worms v12_laidMany v12_wanted v12_orderMany v12_firstOrder v12_lines v12_marks v12_dots v12_madeIn v12_bound v12_places v12_maps v12_tapeMany v12_stories v12_base v12_at v12_ends v12_fault v12_opened v12_bodies x52 v12_ownKind v12_ownNumber, (cI κ (r12 55) 24 g53)] H := hPD
  refine lv_aload_n hx hb dX12_needsAs_11 rfl (lv_at hl 0 rfl) ?_
  refine lv_iconst (v := 2) hx hb dX12_needsAs_12 (by decide) ?_
  refine lv_iload_n hx hb dX12_needsAs_13 rfl (lv_at hl 2 rfl) ?_
  refine lv_iconst (v := 1) hx hb dX12_needsAs_14 (by decide) ?_
  refine lv_iadd hx hb dX12_needsAs_15 ?_
  refine lv_topi (fun x57 e58 => ?_)
  try have h59 : x57.toInt = p2.toInt + (1 : Int32).toInt := ci_add e58 (by omega) (by omega)
  refine kcm_i hA hAB hP hD hS [true, true] rfl (fun _ => rfl) (fun hPc hDc => va_runV (As := [.int 2, .int x57]) (rest := []) ⟨hx, hb, hml, hown, hts⟩ (k_X12_needsAs_2 l D κ β a12 r12 v12_keptMany v12_done v12_sheets v12_holes v12_worms v12_laidMany v12_wanted v12_orderMany v12_firstOrder v12_lines v12_marks v12_dots v12_madeIn v12_bound v12_places v12_maps v12_tapeMany v12_stories v12_base v12_at v12_ends v12_fault v12_opened v12_bodies x52 v12_ownKind v12_ownNumber g53 H.size 2 x57 i1 i2 i3 i4 i5 i6 i7 i8 i9 i10 i11 i12 i13 i14 i15 h55 i17 (by omega) (by omega)) (cwV 2 hts gX12_needsAs_X12_needsAs rfl rfl rfl (by decide +kernel) ⟨Nat.le_of_ble_eq_true rfl, Nat.le_of_ble_eq_true rfl⟩) (pk_V hK hS hAB hPc hDc 0 (ci := 12) rfl rfl rfl) rfl rfl hl.1 rfl (lv_room (Nat.le_of_ble_eq_true rfl)) dX12_needsAs_16 ⟨Nat.le_of_ble_eq_true rfl, Nat.le_of_ble_eq_true rfl⟩) (fun x62 u63 H locs hw hPD hS => ?_)
  obtain ⟨x60, g61⟩ := u63
  obtain ⟨h64, h65⟩ : (0 ≤ x60.toInt ∧ x60.toInt ≤ 1000) ∧ (x52.toInt ≤ x60.toInt ∧ x60.toInt ≤ x52.toInt + 4) := hw
  obtain ⟨hP, hD⟩ : PD D A [O12 a12 r12 v12_keptMany v12_done v12_sheets v12_holes v12_worms v12_laidMany v12_wanted v12_orderMany v12_firstOrder v12_lines v12_marks v12_dots v12_madeIn v12_bound v12_places v12_maps v12_tapeMany v12_stories v12_base v12_at v12_ends v12_fault v12_opened v12_bodies x60 v12_ownKind v12_ownNumber, (cI κ (r12 55) 24 g61)] H := hPD
  have hpo : (0 ≤ x60.toInt ∧ x60.toInt ≤ 1000) ∧ (v12_ran.toInt ≤ x60.toInt ∧ x60.toInt ≤ v12_ran.toInt + 8) := ⟨h64, (by omega)⟩
  exact ret _ _ _ _ x62 (x60, g61) dX12_needsAs_19 hpo hP hD hS
set_option maxHeartbeats 4000000 in
set_option maxRecDepth 100000 in
theorem k_X12_tellsAs_0 (l : Launch) (D : va_G) (κ : Nat → ClassId) (β : Nat) (a12 : Nat) (r12 : Nat → Nat) (v12_keptMany : Int32) (v12_done : Int32) (v12_sheets : Int32) (v12_holes : Int32) (v12_worms : Int32) (v12_laidMany : Int32) (v12_wanted : Int32) (v12_orderMany : Int32) (v12_firstOrder : Int32) (v12_lines : Int32) (v12_marks : Int32) (v12_dots : Int32) (v12_madeIn : Int32) (v12_bound : Int32) (v12_places : Int32) (v12_maps : Int32) (v12_tapeMany : Int32) (v12_stories : Int32) (v12_base : Int32) (v12_at : Int32) (v12_ends : Int32) (v12_fault : Int32) (v12_opened : Int32) (v12_bodies : Int32) (v12_ran : Int32) (v12_ownKind : Int32) (v12_ownNumber : Int32) (f12_trace : Nat → Int32) (sz : Nat) (p1 : Int32) (p2 : Int32) (i1 : Rg 0 40 v12_keptMany) (i2 : Rg 0 40 v12_done) (i3 : Rg 0 8 v12_sheets) (i4 : Rg 0 40 v12_holes) (i5 : Rg 0 40 v12_worms) (i6 : Rg 0 8 v12_laidMany) (i7 : Rg 0 8 v12_wanted) (i8 : Rg 0 20 v12_lines) (i9 : Rg 0 60 v12_marks) (i10 : Rg 0 40 v12_dots) (i11 : Rg 0 20 v12_places) (i12 : Rg 0 8 v12_maps) (i13 : Rg 0 120 v12_tapeMany) (i14 : Rg 0 6 v12_stories) (i15 : Rg 0 50 v12_bodies) (i16 : Rg 0 1000 v12_ran) (i17 : v12_done.toInt ≤ v12_keptMany.toInt) (i18 : p1.toInt ≠ 4 ∧ p1.toInt ≠ 7) (i19 : v12_ran.toInt ≤ 840) : Met l yX12_tellsAs wsX12_tellsAs ({ frames := 6, cells := 0, slots := 0, locals := 134 } : Room) (PcK D κ β [O12 a12 r12 v12_keptMany v12_done v12_sheets v12_holes v12_worms v12_laidMany v12_wanted v12_orderMany v12_firstOrder v12_lines v12_marks v12_dots v12_madeIn v12_bound v12_places v12_maps v12_tapeMany v12_stories v12_base v12_at v12_ends v12_fault v12_opened v12_bodies v12_ran v12_ownKind v12_ownNumber, (cI κ (r12 55) 24 f12_trace)] sz [.ref a12, .int p1, .int p2]) (QiK D (fun (r : Int32) (u : Int32 × (Nat → Int32)) => (0 ≤ u.1.toInt ∧ u.1.toInt ≤ 1000) ∧ (v12_ran.toInt ≤ u.1.toInt ∧ u.1.toInt ≤ v12_ran.toInt + 13)) (fun (u : Int32 × (Nat → Int32)) => [O12 a12 r12 v12_keptMany v12_done v12_sheets v12_holes v12_worms v12_laidMany v12_wanted v12_orderMany v12_firstOrder v12_lines v12_marks v12_dots v12_madeIn v12_bound v12_places v12_maps v12_tapeMany v12_stories v12_base v12_at v12_ends v12_fault v12_opened v12_bodies u.1 v12_ownKind v12_ownNumber, (cI κ (r12 55) 24 u.2)]) [O12 a12 r12 v12_keptMany v12_done v12_sheets v12_holes v12_worms v12_laidMany v12_wanted v12_orderMany v12_firstOrder v12_lines v12_marks v12_dots v12_madeIn v12_bound v12_places v12_maps v12_tapeMany v12_stories v12_base v12_at v12_ends v12_fault v12_opened v12_bodies v12_ran v12_ownKind v12_ownNumber, (cI κ (r12 55) 24 f12_trace)] sz) 0 0 (va_A [O12 a12 r12 v12_keptMany v12_done v12_sheets v12_holes v12_worms v12_laidMany v12_wanted v12_orderMany v12_firstOrder v12_lines v12_marks v12_dots v12_madeIn v12_bound v12_places v12_maps v12_tapeMany v12_stories v12_base v12_at v12_ends v12_fault v12_opened v12_bodies v12_ran v12_ownKind v12_ownNumber, (cI κ (r12 55) 24 f12_trace)] sz) := by
  refine ofK_i (cc := cX12_tellsAs) (maxL := 4) (own := RX12) (by decide) rfl rfl (Nat.le_of_ble_eq_true rfl) ?_
  intro p e s m args below meth c Q A ls hsz hx hb hml hts hown hK hA hAB hP hD hl ret
  have hS : va_S A s.heap s.heap [] := va_S.rf
  have hl : lv_has ls 4 [(0, .ref a12), (1, .int p1), (2, .int p2)] := hl
  have w0 := hts (.fieldLink RX12 398 "OlderSkinModel" "ownKind" "I") (List.mem_of_getElem? (i := 1) rfl)
  have w1 := (fun w h => List.mem_cons_of_mem _ (List.mem_append_right _ h) : ∀ w ∈ u_ws RX12 TX12 63, w ∈ wsX12_tellsAs)
  have l0 : (4 : Int32).toInt = 4 := by decide
  have l1 : (0 : Int32).toInt = 0 := by decide
  have l2 : (7 : Int32).toInt = 7 := by decide
  have l3 : (2 : Int32).toInt = 2 := by decide
  have l4 : (1 : Int32).toInt = 1 := by decide
  have i16 : 0 ≤ v12_ran.toInt ∧ v12_ran.toInt ≤ 1000 := i16
  refine lv_iload_n hx hb dX12_tellsAs_0 rfl (lv_at hl 1 rfl) ?_
  refine lv_iconst (v := 4) hx hb dX12_tellsAs_1 (by decide) ?_
  refine lv_icmp_ne (tgt := 20) hx hb dX12_tellsAs_2 (by decide) (fun c1 => ?_) (fun c1 => ?_)
  · have c1 := ci_ne c1
    refine lv_iload_n hx hb dX12_tellsAs_20 rfl (lv_at hl 1 rfl) ?_
    refine lv_bipush (v := 7) hx hb dX12_tellsAs_21 (by decide) ?_
    refine lv_icmp_ne (tgt := 42) hx hb dX12_tellsAs_23 (by decide) (fun c2 => ?_) (fun c2 => ?_)
    · have c2 := ci_ne c2
      refine lv_aload_n hx hb dX12_tellsAs_42 rfl (lv_at hl 0 rfl) ?_
      refine lv_iconst (v := 2) hx hb dX12_tellsAs_43 (by decide) ?_
      refine kcm_v hA hAB hP hD hS [true, true] rfl (fun _ => rfl) (fun hPc hDc => va_runV (As := [.int 2]) (rest := []) ⟨hx, hb, hml, hown, hts⟩ (k_X12_begins l D κ β a12 r12 v12_keptMany v12_done v12_sheets v12_holes v12_worms v12_laidMany v12_wanted v12_orderMany v12_firstOrder v12_lines v12_marks v12_dots v12_madeIn v12_bound v12_places v12_maps v12_tapeMany v12_stories v12_base v12_at v12_ends v12_fault v12_opened v12_bodies v12_ran v12_ownKind v12_ownNumber f12_trace s.heap.size 2 i1 i2 i3 i4 i5 i6 i7 i8 i9 i10 i11 i12 i13 i14 i15 i16 i17 (by omega)) (cwV 1 hts gX12_tellsAs_X12_begins rfl rfl rfl (by decide +kernel) ⟨Nat.le_of_ble_eq_true rfl, Nat.le_of_ble_eq_true rfl⟩) (pk_V hK hS hAB hPc hDc 0 (ci := 12) rfl rfl rfl) rfl rfl hl.1 rfl (lv_room (Nat.le_of_ble_eq_true rfl)) dX12_tellsAs_44 ⟨Nat.le_of_ble_eq_true rfl, Nat.le_of_ble_eq_true rfl⟩) (fun u5 H locs hw hPD hS => ?_)
      obtain ⟨x3, g4⟩ := u5
      obtain ⟨h6, h7⟩ : (0 ≤ x3.toInt ∧ x3.toInt ≤ 1000) ∧ (x3.toInt = v12_ran.toInt + 1) := hw
      obtain ⟨hP, hD⟩ : PD D A [O12 a12 r12 v12_keptMany v12_done v12_sheets v12_holes v12_worms v12_laidMany v12_wanted v12_orderMany v12_firstOrder v12_lines v12_marks v12_dots v12_madeIn v12_bound v12_places v12_maps v12_tapeMany v12_stories v12_base v12_at v12_ends v12_fault v12_opened v12_bodies x3 v12_ownKind v12_ownNumber, (cI κ (r12 55) 24 g4)] H := hPD
      refine lv_aload_n hx hb dX12_tellsAs_47 rfl (lv_at hl 0 rfl) ?_
      refine lv_aload_n hx hb dX12_tellsAs_48 rfl (lv_at hl 0 rfl) ?_
      refine va_get (D := D) (ci := 12) (v := .int v12_ownKind) (C := RX12) (T := TX12) (N := 63) hx hb hts w1 hown hK.1 hP 0 rfl rfl 57 (by decide) w0 (fun _ h9 => h9) rfl dX12_tellsAs_49 ?_
      refine lv_iload_n hx hb dX12_tellsAs_52 rfl (lv_at hl 2 rfl) ?_
      refine kcm_i hA hAB hP hD hS [true, true] rfl (fun _ => rfl) (fun hPc hDc => va_runV (As := [.int v12_ownKind, .int p2]) (rest := []) ⟨hx, hb, hml, hown, hts⟩ (k_X12_needsAs l D κ β a12 r12 v12_keptMany v12_done v12_sheets v12_holes v12_worms v12_laidMany v12_wanted v12_orderMany v12_firstOrder v12_lines v12_marks v12_dots v12_madeIn v12_bound v12_places v12_maps v12_tapeMany v12_stories v12_base v12_at v12_ends v12_fault v12_opened v12_bodies x3 v12_ownKind v12_ownNumber g4 H.size v12_ownKind p2 i1 i2 i3 i4 i5 i6 i7 i8 i9 i10 i11 i12 i13 i14 i15 h6 i17 (by omega)) (cwV 2 hts gX12_tellsAs_X12_needsAs rfl rfl rfl (by decide +kernel) ⟨Nat.le_of_ble_eq_true rfl, Nat.le_of_ble_eq_true rfl⟩) (pk_V hK hS hAB hPc hDc 0 (ci := 12) rfl rfl rfl) rfl rfl hl.1 rfl (lv_room (Nat.le_of_ble_eq_true rfl)) dX12_tellsAs_53 ⟨Nat.le_of_ble_eq_true rfl, Nat.le_of_ble_eq_true rfl⟩) (fun x10 u11 H locs hw hPD hS => ?_)
      obtain ⟨x8, g9⟩ := u11
      obtain ⟨h12, h13⟩ : (0 ≤ x8.toInt ∧ x8.toInt ≤ 1000) ∧ (x3.toInt ≤ x8.toInt ∧ x8.toInt ≤ x3.toInt + 8) := hw
      obtain ⟨hP, hD⟩ : PD D A [O12 a12 r12 v12_keptMany v12_done v12_sheets v12_holes v12_worms v12_laidMany v12_wanted v12_orderMany v12_firstOrder v12_lines v12_marks v12_dots v12_madeIn v12_bound v12_places v12_maps v12_tapeMany v12_stories v12_base v12_at v12_ends v12_fault v12_opened v12_bodies x8 v12_ownKind v12_ownNumber, (cI κ (r12 55) 24 g9)] H := hPD
      refine lv_istore_n (lv' := [(3, .int x10), (0, .ref a12), (1, .int p1), (2, .int p2)]) hx hb dX12_tellsAs_56 rfl hl (by decide) rfl (fun ls hl => ?_)
      refine lv_iload_n hx hb dX12_tellsAs_57 rfl (lv_at hl 0 rfl) ?_
      refine lv_aload_n hx hb dX12_tellsAs_58 rfl (lv_at hl 1 rfl) ?_
      refine lv_aload_n hx hb dX12_tellsAs_59 rfl (lv_at hl 1 rfl) ?_
      refine va_get (D := D) (ci := 12) (v := .int v12_ownKind) (C := RX12) (T := TX12) (N := 63) hx hb hts w1 hown hK.1 hP 0 rfl rfl 57 (by decide) w0 (fun _ h9 => h9) rfl dX12_tellsAs_60 ?_
      refine lv_iconst (v := 1) hx hb dX12_tellsAs_63 (by decide) ?_
      refine kcm_i hA hAB hP hD hS [true, true] rfl (fun _ => rfl) (fun hPc hDc => va_runV (As := [.int v12_ownKind, .int 1]) (rest := [.int x10]) ⟨hx, hb, hml, hown, hts⟩ (k_X12_showsAs l D κ β a12 r12 v12_keptMany v12_done v12_sheets v12_holes v12_worms v12_laidMany v12_wanted v12_orderMany v12_firstOrder v12_lines v12_marks v12_dots v12_madeIn v12_bound v12_places v12_maps v12_tapeMany v12_stories v12_base v12_at v12_ends v12_fault v12_opened v12_bodies x8 v12_ownKind v12_ownNumber g9 H.size v12_ownKind 1 i1 i2 i3 i4 i5 i6 i7 i8 i9 i10 i11 i12 i13 i14 i15 h12 i17 (by omega)) (cwV 2 hts gX12_tellsAs_X12_showsAs rfl rfl rfl (by decide +kernel) ⟨Nat.le_of_ble_eq_true rfl, Nat.le_of_ble_eq_true rfl⟩) (pk_V hK hS hAB hPc hDc 0 (ci := 12) rfl rfl rfl) rfl rfl hl.1 rfl (lv_room (Nat.le_of_ble_eq_true rfl)) dX12_tellsAs_64 ⟨Nat.le_of_ble_eq_true rfl, Nat.le_of_ble_eq_true rfl⟩) (fun x16 u17 H locs hw hPD hS => ?_)
      obtain ⟨x14, g15⟩ := u17
      obtain ⟨h18, h19⟩ : (0 ≤ x14.toInt ∧ x14.toInt ≤ 1000) ∧ (x8.toInt ≤ x14.toInt ∧ x14.toInt ≤ x8.toInt + 4) := hw
      obtain ⟨hP, hD⟩ : PD D A [O12 a12 r12 v12_keptMany v12_done v12_sheets v12_holes v12_worms v12_laidMany v12_wanted v12_orderMany v12_firstOrder v12_lines v12_marks v12_dots v12_madeIn v12_bound v12_places v12_maps v12_tapeMany v12_stories v12_base v12_at v12_ends v12_fault v12_opened v12_bodies x14 v12_ownKind v12_ownNumber, (cI κ (r12 55) 24 g15)] H := hPD
      refine lv_isub hx hb dX12_tellsAs_67 ?_
      refine lv_topi (fun x20 e21 => ?_)
      try have h22 : x20.toInt = x10.toInt - x16.toInt := ci_sub e21 (by omega) (by omega)
      have hpo : (0 ≤ x14.toInt ∧ x14.toInt ≤ 1000) ∧ (v12_ran.toInt ≤ x14.toInt ∧ x14.toInt ≤ v12_ran.toInt + 13) := ⟨h18, (by omega)⟩
      exact ret _ _ _ _ x20 (x14, g15) dX12_tellsAs_68 hpo hP hD hS
    have c2 := ci_eq c2
    exfalso
    omega
  have c1 := ci_eq c1
  exfalso
  omega
set_option maxHeartbeats 4000000 in
set_option maxRecDepth 100000 in
theorem k_X12_tellsAs (l : Launch) (D : va_G) (κ : Nat → ClassId) (β : Nat) (a12 : Nat) (r12 : Nat → Nat) (v12_keptMany : Int32) (v12_done : Int32) (v12_sheets : Int32) (v12_holes : Int32) (v12_worms : Int32) (v12_laidMany : Int32) (v12_wanted : Int32) (v12_orderMany : Int32) (v12_firstOrder : Int32) (v12_lines : Int32) (v12_marks : Int32) (v12_dots : Int32) (v12_madeIn : Int32) (v12_bound : Int32) (v12_places : Int32) (v12_maps : Int32) (v12_tapeMany : Int32) (v12_stories : Int32) (v12_base : Int32) (v12_at : Int32) (v12_ends : Int32) (v12_fault : Int32) (v12_opened : Int32) (v12_bodies : Int32) (v12_ran : Int32) (v12_ownKind : Int32) (v12_ownNumber : Int32) (f12_trace : Nat → Int32) (sz : Nat) (p1 : Int32) (p2 : Int32) (i1 : Rg 0 40 v12_keptMany) (i2 : Rg 0 40 v12_done) (i3 : Rg 0 8 v12_sheets) (i4 : Rg 0 40 v12_holes) (i5 : Rg 0 40 v12_worms) (i6 : Rg 0 8 v12_laidMany) (i7 : Rg 0 8 v12_wanted) (i8 : Rg 0 20 v12_lines) (i9 : Rg 0 60 v12_marks) (i10 : Rg 0 40 v12_dots) (i11 : Rg 0 20 v12_places) (i12 : Rg 0 8 v12_maps) (i13 : Rg 0 120 v12_tapeMany) (i14 : Rg 0 6 v12_stories) (i15 : Rg 0 50 v12_bodies) (i16 : Rg 0 1000 v12_ran) (i17 : v12_done.toInt ≤ v12_keptMany.toInt) (i18 : v12_ran.toInt ≤ 830) : Met l yX12_tellsAs wsX12_tellsAs ({ frames := 7, cells := 0, slots := 0, locals := 157 } : Room) (PcK D κ β [O12 a12 r12 v12_keptMany v12_done v12_sheets v12_holes v12_worms v12_laidMany v12_wanted v12_orderMany v12_firstOrder v12_lines v12_marks v12_dots v12_madeIn v12_bound v12_places v12_maps v12_tapeMany v12_stories v12_base v12_at v12_ends v12_fault v12_opened v12_bodies v12_ran v12_ownKind v12_ownNumber, (cI κ (r12 55) 24 f12_trace)] sz [.ref a12, .int p1, .int p2]) (QiK D (fun (r : Int32) (u : Int32 × (Nat → Int32)) => (0 ≤ u.1.toInt ∧ u.1.toInt ≤ 1000) ∧ (v12_ran.toInt ≤ u.1.toInt ∧ u.1.toInt ≤ v12_ran.toInt + 14)) (fun (u : Int32 × (Nat → Int32)) => [O12 a12 r12 v12_keptMany v12_done v12_sheets v12_holes v12_worms v12_laidMany v12_wanted v12_orderMany v12_firstOrder v12_lines v12_marks v12_dots v12_madeIn v12_bound v12_places v12_maps v12_tapeMany v12_stories v12_base v12_at v12_ends v12_fault v12_opened v12_bodies u.1 v12_ownKind v12_ownNumber, (cI κ (r12 55) 24 u.2)]) [O12 a12 r12 v12_keptMany v12_done v12_sheets v12_holes v12_worms v12_laidMany v12_wanted v12_orderMany v12_firstOrder v12_lines v12_marks v12_dots v12_madeIn v12_bound v12_places v12_maps v12_tapeMany v12_stories v12_base v12_at v12_ends v12_fault v12_opened v12_bodies v12_ran v12_ownKind v12_ownNumber, (cI κ (r12 55) 24 f12_trace)] sz) 0 0 (va_A [O12 a12 r12 v12_keptMany v12_done v12_sheets v12_holes v12_worms v12_laidMany v12_wanted v12_orderMany v12_firstOrder v12_lines v12_marks v12_dots v12_madeIn v12_bound v12_places v12_maps v12_tapeMany v12_stories v12_base v12_at v12_ends v12_fault v12_opened v12_bodies v12_ran v12_ownKind v12_ownNumber, (cI κ (r12 55) 24 f12_trace)] sz) := by
  refine ofK_i (cc := cX12_tellsAs) (maxL := 4) (own := RX12) (by decide) rfl rfl (Nat.le_of_ble_eq_true rfl) ?_
  intro p e s m args below meth c Q A ls hsz hx hb hml hts hown hK hA hAB hP hD hl ret
  have hS : va_S A s.heap s.heap [] := va_S.rf
  have hl : lv_has ls 4 [(0, .ref a12), (1, .int p1), (2, .int p2)] := hl
  have w0 := hts (.fieldLink RX12 398 "OlderSkinModel" "ownKind" "I") (List.mem_of_getElem? (i := 1) rfl)
  have w1 := (fun w h => List.mem_cons_of_mem _ (List.mem_append_right _ h) : ∀ w ∈ u_ws RX12 TX12 63, w ∈ wsX12_tellsAs)
  have l0 : (4 : Int32).toInt = 4 := by decide
  have l1 : (0 : Int32).toInt = 0 := by decide
  have l2 : (7 : Int32).toInt = 7 := by decide
  have l3 : (2 : Int32).toInt = 2 := by decide
  have l4 : (1 : Int32).toInt = 1 := by decide
  have l5 : (81 : Int32).toInt = 81 := by decide
  have l6 : (6 : Int32).toInt = 6 := by decide
  have l7 : (50 : Int32).toInt = 50 := by decide
  have l8 : (5 : Int32).toInt = 5 := by decide
  have i16 : 0 ≤ v12_ran.toInt ∧ v12_ran.toInt ≤ 1000 := i16
  refine lv_iload_n hx hb dX12_tellsAs_0 rfl (lv_at hl 1 rfl) ?_
  refine lv_iconst (v := 4) hx hb dX12_tellsAs_1 (by decide) ?_
  refine lv_icmp_ne (tgt := 20) hx hb dX12_tellsAs_2 (by decide) (fun c1 => ?_) (fun c1 => ?_)
  · have c1 := ci_ne c1
    refine lv_iload_n hx hb dX12_tellsAs_20 rfl (lv_at hl 1 rfl) ?_
    refine lv_bipush (v := 7) hx hb dX12_tellsAs_21 (by decide) ?_
    refine lv_icmp_ne (tgt := 42) hx hb dX12_tellsAs_23 (by decide) (fun c2 => ?_) (fun c2 => ?_)
    · have c2 := ci_ne c2
      refine lv_aload_n hx hb dX12_tellsAs_42 rfl (lv_at hl 0 rfl) ?_
      refine lv_iconst (v := 2) hx hb dX12_tellsAs_43 (by decide) ?_
      refine kcm_v hA hAB hP hD hS [true, true] rfl (fun _ => rfl) (fun hPc hDc => va_runV (As := [.int 2]) (rest := []) ⟨hx, hb, hml, hown, hts⟩ (k_X12_begins l D κ β a12 r12 v12_keptMany v12_done v12_sheets v12_holes v12_worms v12_laidMany v12_wanted v12_orderMany v12_firstOrder v12_lines v12_marks v12_dots v12_madeIn v12_bound v12_places v12_maps v12_tapeMany v12_stories v12_base v12_at v12_ends v12_fault v12_opened v12_bodies v12_ran v12_ownKind v12_ownNumber f12_trace s.heap.size 2 i1 i2 i3 i4 i5 i6 i7 i8 i9 i10 i11 i12 i13 i14 i15 i16 i17 (by omega)) (cwV 1 hts gX12_tellsAs_X12_begins rfl rfl rfl (by decide +kernel) ⟨Nat.le_of_ble_eq_true rfl, Nat.le_of_ble_eq_true rfl⟩) (pk_V hK hS hAB hPc hDc 0 (ci := 12) rfl rfl rfl) rfl rfl hl.1 rfl (lv_room (Nat.le_of_ble_eq_true rfl)) dX12_tellsAs_44 ⟨Nat.le_of_ble_eq_true rfl, Nat.le_of_ble_eq_true rfl⟩) (fun u5 H locs hw hPD hS => ?_)
      obtain ⟨x3, g4⟩ := u5
      obtain ⟨h6, h7⟩ : (0 ≤ x3.toInt ∧ x3.toInt ≤ 1000) ∧ (x3.toInt = v12_ran.toInt + 1) := hw
      obtain ⟨hP, hD⟩ : PD D A [O12 a12 r12 v12_keptMany v12_done v12_sheets v12_holes v12_worms v12_laidMany v12_wanted v12_orderMany v12_firstOrder v12_lines v12_marks v12_dots v12_madeIn v12_bound v12_places v12_maps v12_tapeMany v12_stories v12_base v12_at v12_ends v12_fault v12_opened v12_bodies x3 v12_ownKind v12_ownNumber, (cI κ (r12 55) 24 g4)] H := hPD
      refine lv_aload_n hx hb dX12_tellsAs_47 rfl (lv_at hl 0 rfl) ?_
      refine lv_aload_n hx hb dX12_tellsAs_48 rfl (lv_at hl 0 rfl) ?_
      refine va_get (D := D) (ci := 12) (v := .int v12_ownKind) (C := RX12) (T := TX12) (N := 63) hx hb hts w1 hown hK.1 hP 0 rfl rfl 57 (by decide) w0 (fun _ h9 => h9) rfl dX12_tellsAs_49 ?_
      refine lv_iload_n hx hb dX12_tellsAs_52 rfl (lv_at hl 2 rfl) ?_
      refine kcm_i hA hAB hP hD hS [true, true] rfl (fun _ => rfl) (fun hPc hDc => va_runV (As := [.int v12_ownKind, .int p2]) (rest := []) ⟨hx, hb, hml, hown, hts⟩ (k_X12_needsAs l D κ β a12 r12 v12_keptMany v12_done v12_sheets v12_holes v12_worms v12_laidMany v12_wanted v12_orderMany v12_firstOrder v12_lines v12_marks v12_dots v12_madeIn v12_bound v12_places v12_maps v12_tapeMany v12_stories v12_base v12_at v12_ends v12_fault v12_opened v12_bodies x3 v12_ownKind v12_ownNumber g4 H.size v12_ownKind p2 i1 i2 i3 i4 i5 i6 i7 i8 i9 i10 i11 i12 i13 i14 i15 h6 i17 (by omega)) (cwV 2 hts gX12_tellsAs_X12_needsAs rfl rfl rfl (by decide +kernel) ⟨Nat.le_of_ble_eq_true rfl, Nat.le_of_ble_eq_true rfl⟩) (pk_V hK hS hAB hPc hDc 0 (ci := 12) rfl rfl rfl) rfl rfl hl.1 rfl (lv_room (Nat.le_of_ble_eq_true rfl)) dX12_tellsAs_53 ⟨Nat.le_of_ble_eq_true rfl, Nat.le_of_ble_eq_true rfl⟩) (fun x10 u11 H locs hw hPD hS => ?_)
      obtain ⟨x8, g9⟩ := u11
      obtain ⟨h12, h13⟩ : (0 ≤ x8.toInt ∧ x8.toInt ≤ 1000) ∧ (x3.toInt ≤ x8.toInt ∧ x8.toInt ≤ x3.toInt + 8) := hw
      obtain ⟨hP, hD⟩ : PD D A [O12 a12 r12 v12_keptMany v12_done v12_sheets v12_holes v12_worms v12_laidMany v12_wanted v12_orderMany v12_firstOrder v12_lines v12_marks v12_dots v12_madeIn v12_bound v12_places v12_maps v12_tapeMany v12_stories v12_base v12_at v12_ends v12_fault v12_opened v12_bodies x8 v12_ownKind v12_ownNumber, (cI κ (r12 55) 24 g9)] H := hPD
      refine lv_istore_n (lv' := [(3, .int x10), (0, .ref a12), (1, .int p1), (2, .int p2)]) hx hb dX12_tellsAs_56 rfl hl (by decide) rfl (fun ls hl => ?_)
      refine lv_iload_n hx hb dX12_tellsAs_57 rfl (lv_at hl 0 rfl) ?_
      refine lv_aload_n hx hb dX12_tellsAs_58 rfl (lv_at hl 1 rfl) ?_
      refine lv_aload_n hx hb dX12_tellsAs_59 rfl (lv_at hl 1 rfl) ?_
      refine va_get (D := D) (ci := 12) (v := .int v12_ownKind) (C := RX12) (T := TX12) (N := 63) hx hb hts w1 hown hK.1 hP 0 rfl rfl 57 (by decide) w0 (fun _ h9 => h9) rfl dX12_tellsAs_60 ?_
      refine lv_iconst (v := 1) hx hb dX12_tellsAs_63 (by decide) ?_
      refine kcm_i hA hAB hP hD hS [true, true] rfl (fun _ => rfl) (fun hPc hDc => va_runV (As := [.int v12_ownKind, .int 1]) (rest := [.int x10]) ⟨hx, hb, hml, hown, hts⟩ (k_X12_showsAs l D κ β a12 r12 v12_keptMany v12_done v12_sheets v12_holes v12_worms v12_laidMany v12_wanted v12_orderMany v12_firstOrder v12_lines v12_marks v12_dots v12_madeIn v12_bound v12_places v12_maps v12_tapeMany v12_stories v12_base v12_at v12_ends v12_fault v12_opened v12_bodies x8 v12_ownKind v12_ownNumber g9 H.size v12_ownKind 1 i1 i2 i3 i4 i5 i6 i7 i8 i9 i10 i11 i12 i13 i14 i15 h12 i17 (by omega)) (cwV 2 hts gX12_tellsAs_X12_showsAs rfl rfl rfl (by decide +kernel) ⟨Nat.le_of_ble_eq_true rfl, Nat.le_of_ble_eq_true rfl⟩) (pk_V hK hS hAB hPc hDc 0 (ci := 12) rfl rfl rfl) rfl rfl hl.1 rfl (lv_room (Nat.le_of_ble_eq_true rfl)) dX12_tellsAs_64 ⟨Nat.le_of_ble_eq_true rfl, Nat.le_of_ble_eq_true rfl⟩) (fun x16 u17 H locs hw hPD hS => ?_)
      obtain ⟨x14, g15⟩ := u17
      obtain ⟨h18, h19⟩ : (0 ≤ x14.toInt ∧ x14.toInt ≤ 1000) ∧ (x8.toInt ≤ x14.toInt ∧ x14.toInt ≤ x8.toInt + 4) := hw
      obtain ⟨hP, hD⟩ : PD D A [O12 a12 r12 v12_keptMany v12_done v12_sheets v12_holes v12_worms v12_laidMany v12_wanted v12_orderMany v12_firstOrder v12_lines v12_marks v12_dots v12_madeIn v12_bound v12_places v12_maps v12_tapeMany v12_stories v12_base v12_at v12_ends v12_fault v12_opened v12_bodies x14 v12_ownKind v12_ownNumber, (cI κ (r12 55) 24 g15)] H := hPD
      refine lv_isub hx hb dX12_tellsAs_67 ?_
      refine lv_topi (fun x20 e21 => ?_)
      try have h22 : x20.toInt = x10.toInt - x16.toInt := ci_sub e21 (by omega) (by omega)
      have hpo : (0 ≤ x14.toInt ∧ x14.toInt ≤ 1000) ∧ (v12_ran.toInt ≤ x14.toInt ∧ x14.toInt ≤ v12_ran.toInt + 14) := ⟨h18, (by omega)⟩
      exact ret _ _ _ _ x20 (x14, g15) dX12_tellsAs_68 hpo hP hD hS
    have c2 := ci_eq c2
    refine lv_aload_n hx hb dX12_tellsAs_26 rfl (lv_at hl 0 rfl) ?_
    refine lv_bipush (v := 81) hx hb dX12_tellsAs_27 (by decide) ?_
    refine kcm_v hA hAB hP hD hS [true, true] rfl (fun _ => rfl) (fun hPc hDc => va_runV (As := [.int 81]) (rest := []) ⟨hx, hb, hml, hown, hts⟩ (k_X12_begins l D κ β a12 r12 v12_keptMany v12_done v12_sheets v12_holes v12_worms v12_laidMany v12_wanted v12_orderMany v12_firstOrder v12_lines v12_marks v12_dots v12_madeIn v12_bound v12_places v12_maps v12_tapeMany v12_stories v12_base v12_at v12_ends v12_fault v12_opened v12_bodies v12_ran v12_ownKind v12_ownNumber f12_trace s.heap.size 81 i1 i2 i3 i4 i5 i6 i7 i8 i9 i10 i11 i12 i13 i14 i15 i16 i17 (by omega)) (cwV 1 hts gX12_tellsAs_X12_begins rfl rfl rfl (by decide +kernel) ⟨Nat.le_of_ble_eq_true rfl, Nat.le_of_ble_eq_true rfl⟩) (pk_V hK hS hAB hPc hDc 0 (ci := 12) rfl rfl rfl) rfl rfl hl.1 rfl (lv_room (Nat.le_of_ble_eq_true rfl)) dX12_tellsAs_29 ⟨Nat.le_of_ble_eq_true rfl, Nat.le_of_ble_eq_true rfl⟩) (fun u25 H locs hw hPD hS => ?_)
    obtain ⟨x23, g24⟩ := u25
    obtain ⟨h26, h27⟩ : (0 ≤ x23.toInt ∧ x23.toInt ≤ 1000) ∧ (x23.toInt = v12_ran.toInt + 1) := hw
    obtain ⟨hP, hD⟩ : PD D A [O12 a12 r12 v12_keptMany v12_done v12_sheets v12_holes v12_worms v12_laidMany v12_wanted v12_orderMany v12_firstOrder v12_lines v12_marks v12_dots v12_madeIn v12_bound v12_places v12_maps v12_tapeMany v12_stories v12_base v12_at v12_ends v12_fault v12_opened v12_bodies x23 v12_ownKind v12_ownNumber, (cI κ (r12 55) 24 g24)] H := hPD
    refine lv_aload_n hx hb dX12_tellsAs_32 rfl (lv_at hl 0 rfl) ?_
    refine lv_bipush (v := 6) hx hb dX12_tellsAs_33 (by decide) ?_
    refine lv_iload_n hx hb dX12_tellsAs_35 rfl (lv_at hl 2 rfl) ?_
    refine kcm_i hA hAB hP hD hS [true, true] rfl (fun _ => rfl) (fun hPc hDc => va_runV (As := [.int 6, .int p2]) (rest := []) ⟨hx, hb, hml, hown, hts⟩ (k_X12_tellsAs_0 l D κ β a12 r12 v12_keptMany v12_done v12_sheets v12_holes v12_worms v12_laidMany v12_wanted v12_orderMany v12_firstOrder v12_lines v12_marks v12_dots v12_madeIn v12_bound v12_places v12_maps v12_tapeMany v12_stories v12_base v12_at v12_ends v12_fault v12_opened v12_bodies x23 v12_ownKind v12_ownNumber g24 H.size 6 p2 i1 i2 i3 i4 i5 i6 i7 i8 i9 i10 i11 i12 i13 i14 i15 h26 i17 (by omega) (by omega)) (cwV 2 hts gX12_tellsAs_X12_tellsAs rfl rfl rfl (by decide +kernel) ⟨Nat.le_of_ble_eq_true rfl, Nat.le_of_ble_eq_true rfl⟩) (pk_V hK hS hAB hPc hDc 0 (ci := 12) rfl rfl rfl) rfl rfl hl.1 rfl (lv_room (Nat.le_of_ble_eq_true rfl)) dX12_tellsAs_36 ⟨Nat.le_of_ble_eq_true rfl, Nat.le_of_ble_eq_true rfl⟩) (fun x30 u31 H locs hw hPD hS => ?_)
    obtain ⟨x28, g29⟩ := u31
    obtain ⟨h32, h33⟩ : (0 ≤ x28.toInt ∧ x28.toInt ≤ 1000) ∧ (x23.toInt ≤ x28.toInt ∧ x28.toInt ≤ x23.toInt + 13) := hw
    obtain ⟨hP, hD⟩ : PD D A [O12 a12 r12 v12_keptMany v12_done v12_sheets v12_holes v12_worms v12_laidMany v12_wanted v12_orderMany v12_firstOrder v12_lines v12_marks v12_dots v12_madeIn v12_bound v12_places v12_maps v12_tapeMany v12_stories v12_base v12_at v12_ends v12_fault v12_opened v12_bodies x28 v12_ownKind v12_ownNumber, (cI κ (r12 55) 24 g29)] H := hPD
    refine lv_iconst (v := 1) hx hb dX12_tellsAs_39 (by decide) ?_
    refine lv_isub hx hb dX12_tellsAs_40 ?_
    refine lv_topi (fun x34 e35 => ?_)
    try have h36 : x34.toInt = x30.toInt - (1 : Int32).toInt := ci_sub e35 (by omega) (by omega)
    have hpo : (0 ≤ x28.toInt ∧ x28.toInt ≤ 1000) ∧ (v12_ran.toInt ≤ x28.toInt ∧ x28.toInt ≤ v12_ran.toInt + 14) := ⟨h32, (by omega)⟩
    exact ret _ _ _ _ x34 (x28, g29) dX12_tellsAs_41 hpo hP hD hS
  have c1 := ci_eq c1
  refine lv_aload_n hx hb dX12_tellsAs_5 rfl (lv_at hl 0 rfl) ?_
  refine lv_bipush (v := 50) hx hb dX12_tellsAs_6 (by decide) ?_
  refine kcm_v hA hAB hP hD hS [true, true] rfl (fun _ => rfl) (fun hPc hDc => va_runV (As := [.int 50]) (rest := []) ⟨hx, hb, hml, hown, hts⟩ (k_X12_begins l D κ β a12 r12 v12_keptMany v12_done v12_sheets v12_holes v12_worms v12_laidMany v12_wanted v12_orderMany v12_firstOrder v12_lines v12_marks v12_dots v12_madeIn v12_bound v12_places v12_maps v12_tapeMany v12_stories v12_base v12_at v12_ends v12_fault v12_opened v12_bodies v12_ran v12_ownKind v12_ownNumber f12_trace s.heap.size 50 i1 i2 i3 i4 i5 i6 i7 i8 i9 i10 i11 i12 i13 i14 i15 i16 i17 (by omega)) (cwV 1 hts gX12_tellsAs_X12_begins rfl rfl rfl (by decide +kernel) ⟨Nat.le_of_ble_eq_true rfl, Nat.le_of_ble_eq_true rfl⟩) (pk_V hK hS hAB hPc hDc 0 (ci := 12) rfl rfl rfl) rfl rfl hl.1 rfl (lv_room (Nat.le_of_ble_eq_true rfl)) dX12_tellsAs_8 ⟨Nat.le_of_ble_eq_true rfl, Nat.le_of_ble_eq_true rfl⟩) (fun u39 H locs hw hPD hS => ?_)
  obtain ⟨x37, g38⟩ := u39
  obtain ⟨h40, h41⟩ : (0 ≤ x37.toInt ∧ x37.toInt ≤ 1000) ∧ (x37.toInt = v12_ran.toInt + 1) := hw
  obtain ⟨hP, hD⟩ : PD D A [O12 a12 r12 v12_keptMany v12_done v12_sheets v12_holes v12_worms v12_laidMany v12_wanted v12_orderMany v12_firstOrder v12_lines v12_marks v12_dots v12_madeIn v12_bound v12_places v12_maps v12_tapeMany v12_stories v12_base v12_at v12_ends v12_fault v12_opened v12_bodies x37 v12_ownKind v12_ownNumber, (cI κ (r12 55) 24 g38)] H := hPD
  refine lv_aload_n hx hb dX12_tellsAs_11 rfl (lv_at hl 0 rfl) ?_
  refine lv_iconst (v := 2) hx hb dX12_tellsAs_12 (by decide) ?_
  refine lv_iload_n hx hb dX12_tellsAs_13 rfl (lv_at hl 2 rfl) ?_
  refine kcm_i hA hAB hP hD hS [true, true] rfl (fun _ => rfl) (fun hPc hDc => va_runV (As := [.int 2, .int p2]) (rest := []) ⟨hx, hb, hml, hown, hts⟩ (k_X12_tellsAs_0 l D κ β a12 r12 v12_keptMany v12_done v12_sheets v12_holes v12_worms v12_laidMany v12_wanted v12_orderMany v12_firstOrder v12_lines v12_marks v12_dots v12_madeIn v12_bound v12_places v12_maps v12_tapeMany v12_stories v12_base v12_at v12_ends v12_fault v12_opened v12_bodies x37 v12_ownKind v12_ownNumber g38 H.size 2 p2 i1 i2 i3 i4 i5 i6 i7 i8 i9 i10 i11 i12 i13 i14 i15 h40 i17 (by omega) (by omega)) (cwV 2 hts gX12_tellsAs_X12_tellsAs rfl rfl rfl (by decide +kernel) ⟨Nat.le_of_ble_eq_true rfl, Nat.le_of_ble_eq_true rfl⟩) (pk_V hK hS hAB hPc hDc 0 (ci := 12) rfl rfl rfl) rfl rfl hl.1 rfl (lv_room (Nat.le_of_ble_eq_true rfl)) dX12_tellsAs_14 ⟨Nat.le_of_ble_eq_true rfl, Nat.le_of_ble_eq_true rfl⟩) (fun x44 u45 H locs hw hPD hS => ?_)
  obtain ⟨x42, g43⟩ := u45
  obtain ⟨h46, h47⟩ : (0 ≤ x42.toInt ∧ x42.toInt ≤ 1000) ∧ (x37.toInt ≤ x42.toInt ∧ x42.toInt ≤ x37.toInt + 13) := hw
  obtain ⟨hP, hD⟩ : PD D A [O12 a12 r12 v12_keptMany v12_done v12_sheets v12_holes v12_worms v12_laidMany v12_wanted v12_orderMany v12_firstOrder v12_lines v12_marks v12_dots v12_madeIn v12_bound v12_places v12_maps v12_tapeMany v12_stories v12_base v12_at v12_ends v12_fault v12_opened v12_bodies x42 v12_ownKind v12_ownNumber, (cI κ (r12 55) 24 g43)] H := hPD
  refine lv_iconst (v := 5) hx hb dX12_tellsAs_17 (by decide) ?_
  refine lv_ixor hx hb dX12_tellsAs_18 ?_
  refine lv_topi (fun x48 e49 => ?_)
  have hpo : (0 ≤ x42.toInt ∧ x42.toInt ≤ 1000) ∧ (v12_ran.toInt ≤ x42.toInt ∧ x42.toInt ≤ v12_ran.toInt + 14) := ⟨h46, (by omega)⟩
  exact ret _ _ _ _ x48 (x42, g43) dX12_tellsAs_19 hpo hP hD hS
set_option maxHeartbeats 4000000 in
set_option maxRecDepth 100000 in
theorem k_X12_act (l : Launch) (D : va_G) (κ : Nat → ClassId) (β : Nat) (a12 : Nat) (r12 : Nat → Nat) (v12_keptMany : Int32) (v12_done : Int32) (v12_sheets : Int32) (v12_holes : Int32) (v12_worms : Int32) (v12_laidMany : Int32) (v12_wanted : Int32) (v12_orderMany : Int32) (v12_firstOrder : Int32) (v12_lines : Int32) (v12_marks : Int32) (v12_dots : Int32) (v12_madeIn : Int32) (v12_bound : Int32) (v12_places : Int32) (v12_maps : Int32) (v12_tapeMany : Int32) (v12_stories : Int32) (v12_base : Int32) (v12_at : Int32) (v12_ends : Int32) (v12_fault : Int32) (v12_opened : Int32) (v12_bodies : Int32) (v12_ran : Int32) (v12_ownKind : Int32) (v12_ownNumber : Int32) (f12_bodyKind : Nat → Int32) (f12_trace : Nat → Int32) (sz : Nat) (p1 : Int32) (p2 : Int32) (p3 : Int32) (i1 : Rg 0 40 v12_keptMany) (i2 : Rg 0 40 v12_done) (i3 : Rg 0 8 v12_sheets) (i4 : Rg 0 40 v12_holes) (i5 : Rg 0 40 v12_worms) (i6 : Rg 0 8 v12_laidMany) (i7 : Rg 0 8 v12_wanted) (i8 : Rg 0 20 v12_lines) (i9 : Rg 0 60 v12_marks) (i10 : Rg 0 40 v12_dots) (i11 : Rg 0 20 v12_places) (i12 : Rg 0 8 v12_maps) (i13 : Rg 0 120 v12_tapeMany) (i14 : Rg 0 6 v12_stories) (i15 : Rg 0 50 v12_bodies) (i16 : Rg 0 1000 v12_ran) (i17 : v12_done.toInt ≤ v12_keptMany.toInt) : Met l yX12_act wsX12_act ({ frames := 8, cells := 0, slots := 0, locals := 180 } : Room) (PcK D κ β [O12 a12 r12 v12_keptMany v12_done v12_sheets v12_holes v12_worms v12_laidMany v12_wanted v12_orderMany v12_firstOrder v12_lines v12_marks v12_dots v12_madeIn v12_bound v12_places v12_maps v12_tapeMany v12_stories v12_base v12_at v12_ends v12_fault v12_opened v12_bodies v12_ran v12_ownKind v12_ownNumber, (cI κ (r12 54) 50 f12_bodyKind), (cI κ (r12 55) 24 f12_trace)] sz [.ref a12, .int p1, .int p2, .int p3]) (QiK D (fun (r : Int32) (u : Int32 × Int32 × Int32 × (Nat → Int32)) => 0 ≤ u.1.toInt ∧ u.1.toInt ≤ 1000) (fun (u : Int32 × Int32 × Int32 × (Nat → Int32)) => [O12 a12 r12 v12_keptMany v12_done v12_sheets v12_holes v12_worms v12_laidMany v12_wanted v12_orderMany v12_firstOrder v12_lines v12_marks v12_dots v12_madeIn v12_bound v12_places v12_maps v12_tapeMany v12_stories v12_base v12_at v12_ends v12_fault v12_opened v12_bodies u.1 u.2.1 u.2.2.1, (cI κ (r12 54) 50 f12_bodyKind), (cI κ (r12 55) 24 u.2.2.2)]) [O12 a12 r12 v12_keptMany v12_done v12_sheets v12_holes v12_worms v12_laidMany v12_wanted v12_orderMany v12_firstOrder v12_lines v12_marks v12_dots v12_madeIn v12_bound v12_places v12_maps v12_tapeMany v12_stories v12_base v12_at v12_ends v12_fault v12_opened v12_bodies v12_ran v12_ownKind v12_ownNumber, (cI κ (r12 54) 50 f12_bodyKind), (cI κ (r12 55) 24 f12_trace)] sz) 0 0 (va_A [O12 a12 r12 v12_keptMany v12_done v12_sheets v12_holes v12_worms v12_laidMany v12_wanted v12_orderMany v12_firstOrder v12_lines v12_marks v12_dots v12_madeIn v12_bound v12_places v12_maps v12_tapeMany v12_stories v12_base v12_at v12_ends v12_fault v12_opened v12_bodies v12_ran v12_ownKind v12_ownNumber, (cI κ (r12 54) 50 f12_bodyKind), (cI κ (r12 55) 24 f12_trace)] sz) := by
  refine ofK_i (cc := cX12_act) (maxL := 4) (own := RX12) (by decide) rfl rfl (Nat.le_of_ble_eq_true rfl) ?_
  intro p e s m args below meth c Q A ls hsz hx hb hml hts hown hK hA hAB hP hD hl ret
  have hS : va_S A s.heap s.heap [] := va_S.rf
  have hl : lv_has ls 4 [(0, .ref a12), (1, .int p1), (2, .int p2), (3, .int p3)] := hl
  have w0 := hts (.fieldLink RX12 382 "OlderSkinModel" "ran" "I") (List.mem_of_getElem? (i := 1) rfl)
  have w1 := (fun w h => List.mem_cons_of_mem _ (List.mem_append_right _ h) : ∀ w ∈ u_ws RX12 TX12 63, w ∈ wsX12_act)
  have w2 := hts (.fieldLink RX12 101 "OlderSkinModel" "bodyKind" "[I") (List.mem_of_getElem? (i := 2) rfl)
  have w3 := hts (.fieldLink RX12 398 "OlderSkinModel" "ownKind" "I") (List.mem_of_getElem? (i := 3) rfl)
  have w4 := hts (.fieldLink RX12 392 "OlderSkinModel" "ownNumber" "I") (List.mem_of_getElem? (i := 4) rfl)
  have l0 : (0 : Int32).toInt = 0 := by decide
  have i15 : 0 ≤ v12_bodies.toInt ∧ v12_bodies.toInt ≤ 50 := i15
  have i16 : 0 ≤ v12_ran.toInt ∧ v12_ran.toInt ≤ 1000 := i16
  refine lv_aload_n hx hb dX12_act_0 rfl (lv_at hl 0 rfl) ?_
  refine lv_iconst (v := 0) hx hb dX12_act_1 (by decide) ?_
  refine va_put (D := D) (ci := 12) (v := .int 0) (ty := .int) (C := RX12) (T := TX12) (N := 63) hx hb hts w1 tyX12 tyX12_ok nmX12 hown hK.1 hP hD hS 0 rfl rfl 56 (by decide) w0 (fun _ h9 => h9) rfl (by decide +kernel) rfl rfl (Nat.le_of_ble_eq_true rfl) dX12_act_2 (fun H locs hP hD hS => ?_)
  obtain ⟨hP, hD⟩ : PD D A [O12 a12 r12 v12_keptMany v12_done v12_sheets v12_holes v12_worms v12_laidMany v12_wanted v12_orderMany v12_firstOrder v12_lines v12_marks v12_dots v12_madeIn v12_bound v12_places v12_maps v12_tapeMany v12_stories v12_base v12_at v12_ends v12_fault v12_opened v12_bodies 0 v12_ownKind v12_ownNumber, (cI κ (r12 54) 50 f12_bodyKind), (cI κ (r12 55) 24 f12_trace)] H := ⟨hP, hD⟩
  have h1 : 0 ≤ (0 : Int32).toInt ∧ (0 : Int32).toInt ≤ 1000 := by omega
  refine lv_aload_n hx hb dX12_act_5 rfl (lv_at hl 0 rfl) ?_
  refine lv_iload_n hx hb dX12_act_6 rfl (lv_at hl 1 rfl) ?_
  refine kcm_i hA hAB hP hD hS [true, false, false] rfl (fun _ => rfl) (fun hPc hDc => va_runV (As := [.int p1]) (rest := []) ⟨hx, hb, hml, hown, hts⟩ (k_X12_isBody l D κ β a12 r12 v12_keptMany v12_done v12_sheets v12_holes v12_worms v12_laidMany v12_wanted v12_orderMany v12_firstOrder v12_lines v12_marks v12_dots v12_madeIn v12_bound v12_places v12_maps v12_tapeMany v12_stories v12_base v12_at v12_ends v12_fault v12_opened v12_bodies 0 v12_ownKind v12_ownNumber H.size p1 i1 i2 i3 i4 i5 i6 i7 i8 i9 i10 i11 i12 i13 i14 i15 h1 i17) (cwV 1 hts gX12_act_X12_isBody rfl rfl rfl (by decide +kernel) ⟨Nat.le_of_ble_eq_true rfl, Nat.le_of_ble_eq_true rfl⟩) (pk_V hK hS hAB hPc hDc 0 (ci := 12) rfl rfl rfl) rfl rfl hl.1 rfl (lv_room (Nat.le_of_ble_eq_true rfl)) dX12_act_7 ⟨Nat.le_of_ble_eq_true rfl, Nat.le_of_ble_eq_true rfl⟩) (fun x2 u3 H locs hw hPD hS => ?_)
  have h4 : (x2.toInt = 1 ∧ 0 ≤ p1.toInt ∧ p1.toInt < v12_bodies.toInt) ∨ (x2.toInt = 0 ∧ (p1.toInt < 0 ∨ v12_bodies.toInt ≤ p1.toInt)) := hw
  obtain ⟨hP, hD⟩ : PD D A [O12 a12 r12 v12_keptMany v12_done v12_sheets v12_holes v12_worms v12_laidMany v12_wanted v12_orderMany v12_firstOrder v12_lines v12_marks v12_dots v12_madeIn v12_bound v12_places v12_maps v12_tapeMany v12_stories v12_base v12_at v12_ends v12_fault v12_opened v12_bodies 0 v12_ownKind v12_ownNumber, (cI κ (r12 54) 50 f12_bodyKind), (cI κ (r12 55) 24 f12_trace)] H := hPD
  refine lv_if_ne (tgt := 15) hx hb dX12_act_10 (by decide) (fun c5 => ?_) (fun c5 => ?_)
  · have c5 := ci_ne c5
    refine lv_aload_n hx hb dX12_act_15 rfl (lv_at hl 0 rfl) ?_
    refine lv_aload_n hx hb dX12_act_16 rfl (lv_at hl 0 rfl) ?_
    refine va_get (D := D) (ci := 12) (v := .ref (r12 54)) (C := RX12) (T := TX12) (N := 63) hx hb hts w1 hown hK.1 hP 0 rfl rfl 54 (by decide) w2 (fun _ h9 => h9) rfl dX12_act_17 ?_
    refine lv_iload_n hx hb dX12_act_20 rfl (lv_at hl 1 rfl) ?_
    refine va_iald hx hb hK.1 hP 1 1 rfl rfl (i := p1) (ix (by omega) (by omega)) dX12_act_21 ?_
    refine lv_topi (fun x6 e7 => ?_)
    refine va_put (D := D) (ci := 12) (v := .int x6) (ty := .int) (C := RX12) (T := TX12) (N := 63) hx hb hts w1 tyX12 tyX12_ok nmX12 hown hK.1 hP hD hS 0 rfl rfl 57 (by decide) w3 (fun _ h9 => h9) rfl (by decide +kernel) rfl rfl (Nat.le_of_ble_eq_true rfl) dX12_act_22 (fun H locs hP hD hS => ?_)
    obtain ⟨hP, hD⟩ : PD D A [O12 a12 r12 v12_keptMany v12_done v12_sheets v12_holes v12_worms v12_laidMany v12_wanted v12_orderMany v12_firstOrder v12_lines v12_marks v12_dots v12_madeIn v12_bound v12_places v12_maps v12_tapeMany v12_stories v12_base v12_at v12_ends v12_fault v12_opened v12_bodies 0 x6 v12_ownNumber, (cI κ (r12 54) 50 f12_bodyKind), (cI κ (r12 55) 24 f12_trace)] H := ⟨hP, hD⟩
    refine lv_aload_n hx hb dX12_act_25 rfl (lv_at hl 0 rfl) ?_
    refine lv_iload_n hx hb dX12_act_26 rfl (lv_at hl 1 rfl) ?_
    refine va_put (D := D) (ci := 12) (v := .int p1) (ty := .int) (C := RX12) (T := TX12) (N := 63) hx hb hts w1 tyX12 tyX12_ok nmX12 hown hK.1 hP hD hS 0 rfl rfl 58 (by decide) w4 (fun _ h9 => h9) rfl (by decide +kernel) rfl rfl (Nat.le_of_ble_eq_true rfl) dX12_act_27 (fun H locs hP hD hS => ?_)
    obtain ⟨hP, hD⟩ : PD D A [O12 a12 r12 v12_keptMany v12_done v12_sheets v12_holes v12_worms v12_laidMany v12_wanted v12_orderMany v12_firstOrder v12_lines v12_marks v12_dots v12_madeIn v12_bound v12_places v12_maps v12_tapeMany v12_stories v12_base v12_at v12_ends v12_fault v12_opened v12_bodies 0 x6 p1, (cI κ (r12 54) 50 f12_bodyKind), (cI κ (r12 55) 24 f12_trace)] H := ⟨hP, hD⟩
    refine lv_iload_n hx hb dX12_act_30 rfl (lv_at hl 2 rfl) ?_
    by_cases c8 : p2.toInt = 0
    · refine lv_tableIn (off := 29) (tgt := 60) hx hb dX12_act_31 (by omega) (by omega) (by rw [c8]; decide) (by decide) ?_
      refine lv_aload_n hx hb dX12_act_60 rfl (lv_at hl 0 rfl) ?_
      refine lv_aload_n hx hb dX12_act_61 rfl (lv_at hl 0 rfl) ?_
      refine va_get (D := D) (ci := 12) (v := .int x6) (C := RX12) (T := TX12) (N := 63) hx hb hts w1 hown hK.1 hP 0 rfl rfl 57 (by decide) w3 (fun _ h9 => h9) rfl dX12_act_62 ?_
      refine lv_iload_n hx hb dX12_act_65 rfl (lv_at hl 3 rfl) ?_
      refine kcm_i hA hAB hP hD hS [true, false, true] rfl (fun _ => rfl) (fun hPc hDc => va_runV (As := [.int x6, .int p3]) (rest := []) ⟨hx, hb, hml, hown, hts⟩ (k_X12_liesAs l D κ β a12 r12 v12_keptMany v12_done v12_sheets v12_holes v12_worms v12_laidMany v12_wanted v12_orderMany v12_firstOrder v12_lines v12_marks v12_dots v12_madeIn v12_bound v12_places v12_maps v12_tapeMany v12_stories v12_base v12_at v12_ends v12_fault v12_opened v12_bodies 0 x6 p1 f12_trace H.size x6 p3 i1 i2 i3 i4 i5 i6 i7 i8 i9 i10 i11 i12 i13 i14 i15 h1 i17 (by omega)) (cwV 2 hts gX12_act_X12_liesAs rfl rfl rfl (by decide +kernel) ⟨Nat.le_of_ble_eq_true rfl, Nat.le_of_ble_eq_true rfl⟩) (pk_V hK hS hAB hPc hDc 0 (ci := 12) rfl rfl rfl) rfl rfl hl.1 rfl (lv_room (Nat.le_of_ble_eq_true rfl)) dX12_act_66 ⟨Nat.le_of_ble_eq_true rfl, Nat.le_of_ble_eq_true rfl⟩) (fun x11 u12 H locs hw hPD hS => ?_)
      obtain ⟨x9, g10⟩ := u12
      obtain ⟨h13, h14⟩ : (0 ≤ x9.toInt ∧ x9.toInt ≤ 1000) ∧ ((0 : Int32).toInt ≤ x9.toInt ∧ x9.toInt ≤ (0 : Int32).toInt + 2) := hw
      obtain ⟨hP, hD⟩ : PD D A [O12 a12 r12 v12_keptMany v12_done v12_sheets v12_holes v12_worms v12_laidMany v12_wanted v12_orderMany v12_firstOrder v12_lines v12_marks v12_dots v12_madeIn v12_bound v12_places v12_maps v12_tapeMany v12_stories v12_base v12_at v12_ends v12_fault v12_opened v12_bodies x9 x6 p1, (cI κ (r12 54) 50 f12_bodyKind), (cI κ (r12 55) 24 g10)] H := hPD
      have hpo : 0 ≤ x9.toInt ∧ x9.toInt ≤ 1000 := h13
      exact ret _ _ _ _ x11 (x9, x6, p1, g10) dX12_act_69 hpo hP hD hS
    by_cases c15 : p2.toInt = 1
    · refine lv_tableIn (off := 39) (tgt := 70) hx hb dX12_act_31 (by omega) (by omega) (by rw [c15]; decide) (by decide) ?_
      refine lv_aload_n hx hb dX12_act_70 rfl (lv_at hl 0 rfl) ?_
      refine lv_aload_n hx hb dX12_act_71 rfl (lv_at hl 0 rfl) ?_
      refine va_get (D := D) (ci := 12) (v := .int x6) (C := RX12) (T := TX12) (N := 63) hx hb hts w1 hown hK.1 hP 0 rfl rfl 57 (by decide) w3 (fun _ h9 => h9) rfl dX12_act_72 ?_
      refine lv_iload_n hx hb dX12_act_75 rfl (lv_at hl 3 rfl) ?_
      refine kcm_i hA hAB hP hD hS [true, false, true] rfl (fun _ => rfl) (fun hPc hDc => va_runV (As := [.int x6, .int p3]) (rest := []) ⟨hx, hb, hml, hown, hts⟩ (k_X12_needsAs l D κ β a12 r12 v12_keptMany v12_done v12_sheets v12_holes v12_worms v12_laidMany v12_wanted v12_orderMany v12_firstOrder v12_lines v12_marks v12_dots v12_madeIn v12_bound v12_places v12_maps v12_tapeMany v12_stories v12_base v12_at v12_ends v12_fault v12_opened v12_bodies 0 x6 p1 f12_trace H.size x6 p3 i1 i2 i3 i4 i5 i6 i7 i8 i9 i10 i11 i12 i13 i14 i15 h1 i17 (by omega)) (cwV 2 hts gX12_act_X12_needsAs rfl rfl rfl (by decide +kernel) ⟨Nat.le_of_ble_eq_true rfl, Nat.le_of_ble_eq_true rfl⟩) (pk_V hK hS hAB hPc hDc 0 (ci := 12) rfl rfl rfl) rfl rfl hl.1 rfl (lv_room (Nat.le_of_ble_eq_true rfl)) dX12_act_76 ⟨Nat.le_of_ble_eq_true rfl, Nat.le_of_ble_eq_true rfl⟩) (fun x18 u19 H locs hw hPD hS => ?_)
      obtain ⟨x16, g17⟩ := u19
      obtain ⟨h20, h21⟩ : (0 ≤ x16.toInt ∧ x16.toInt ≤ 1000) ∧ ((0 : Int32).toInt ≤ x16.toInt ∧ x16.toInt ≤ (0 : Int32).toInt + 8) := hw
      obtain ⟨hP, hD⟩ : PD D A [O12 a12 r12 v12_keptMany v12_done v12_sheets v12_holes v12_worms v12_laidMany v12_wanted v12_orderMany v12_firstOrder v12_lines v12_marks v12_dots v12_madeIn v12_bound v12_places v12_maps v12_tapeMany v12_stories v12_base v12_at v12_ends v12_fault v12_opened v12_bodies x16 x6 p1, (cI κ (r12 54) 50 f12_bodyKind), (cI κ (r12 55) 24 g17)] H := hPD
      have hpo : 0 ≤ x16.toInt ∧ x16.toInt ≤ 1000 := h20
      exact ret _ _ _ _ x18 (x16, x6, p1, g17) dX12_act_79 hpo hP hD hS
    by_cases c22 : p2.toInt = 2
    · refine lv_tableIn (off := 49) (tgt := 80) hx hb dX12_act_31 (by omega) (by omega) (by rw [c22]; decide) (by decide) ?_
      refine lv_aload_n hx hb dX12_act_80 rfl (lv_at hl 0 rfl) ?_
      refine lv_aload_n hx hb dX12_act_81 rfl (lv_at hl 0 rfl) ?_
      refine va_get (D := D) (ci := 12) (v := .int x6) (C := RX12) (T := TX12) (N := 63) hx hb hts w1 hown hK.1 hP 0 rfl rfl 57 (by decide) w3 (fun _ h9 => h9) rfl dX12_act_82 ?_
      refine lv_iload_n hx hb dX12_act_85 rfl (lv_at hl 3 rfl) ?_
      refine kcm_i hA hAB hP hD hS [true, false, true] rfl (fun _ => rfl) (fun hPc hDc => va_runV (As := [.int x6, .int p3]) (rest := []) ⟨hx, hb, hml, hown, hts⟩ (k_X12_showsAs l D κ β a12 r12 v12_keptMany v12_done v12_sheets v12_holes v12_worms v12_laidMany v12_wanted v12_orderMany v12_firstOrder v12_lines v12_marks v12_dots v12_madeIn v12_bound v12_places v12_maps v12_tapeMany v12_stories v12_base v12_at v12_ends v12_fault v12_opened v12_bodies 0 x6 p1 f12_trace H.size x6 p3 i1 i2 i3 i4 i5 i6 i7 i8 i9 i10 i11 i12 i13 i14 i15 h1 i17 (by omega)) (cwV 2 hts gX12_act_X12_showsAs rfl rfl rfl (by decide +kernel) ⟨Nat.le_of_ble_eq_true rfl, Nat.le_of_ble_eq_true rfl⟩) (pk_V hK hS hAB hPc hDc 0 (ci := 12) rfl rfl rfl) rfl rfl hl.1 rfl (lv_room (Nat.le_of_ble_eq_true rfl)) dX12_act_86 ⟨Nat.le_of_ble_eq_true rfl, Nat.le_of_ble_eq_true rfl⟩) (fun x25 u26 H locs hw hPD hS => ?_)
      obtain ⟨x23, g24⟩ := u26
      obtain ⟨h27, h28⟩ : (0 ≤ x23.toInt ∧ x23.toInt ≤ 1000) ∧ ((0 : Int32).toInt ≤ x23.toInt ∧ x23.toInt ≤ (0 : Int32).toInt + 4) := hw
      obtain ⟨hP, hD⟩ : PD D A [O12 a12 r12 v12_keptMany v12_done v12_sheets v12_holes v12_worms v12_laidMany v12_wanted v12_orderMany v12_firstOrder v12_lines v12_marks v12_dots v12_madeIn v12_bound v12_places v12_maps v12_tapeMany v12_stories v12_base v12_at v12_ends v12_fault v12_opened v12_bodies x23 x6 p1, (cI κ (r12 54) 50 f12_bodyKind), (cI κ (r12 55) 24 g24)] H := hPD
      have hpo : 0 ≤ x23.toInt ∧ x23.toInt ≤ 1000 := h27
      exact ret _ _ _ _ x25 (x23, x6, p1, g24) dX12_act_89 hpo hP hD hS
    by_cases c29 : p2.toInt = 3
    · refine lv_tableIn (off := 59) (tgt := 90) hx hb dX12_act_31 (by omega) (by omega) (by rw [c29]; decide) (by decide) ?_
      refine lv_aload_n hx hb dX12_act_90 rfl (lv_at hl 0 rfl) ?_
      refine lv_aload_n hx hb dX12_act_91 rfl (lv_at hl 0 rfl) ?_
      refine va_get (D := D) (ci := 12) (v := .int x6) (C := RX12) (T := TX12) (N := 63) hx hb hts w1 hown hK.1 hP 0 rfl rfl 57 (by decide) w3 (fun _ h9 => h9) rfl dX12_act_92 ?_
      refine lv_iload_n hx hb dX12_act_95 rfl (lv_at hl 3 rfl) ?_
      refine kcm_i hA hAB hP hD hS [true, false, true] rfl (fun _ => rfl) (fun hPc hDc => va_runV (As := [.int x6, .int p3]) (rest := []) ⟨hx, hb, hml, hown, hts⟩ (k_X12_tellsAs l D κ β a12 r12 v12_keptMany v12_done v12_sheets v12_holes v12_worms v12_laidMany v12_wanted v12_orderMany v12_firstOrder v12_lines v12_marks v12_dots v12_madeIn v12_bound v12_places v12_maps v12_tapeMany v12_stories v12_base v12_at v12_ends v12_fault v12_opened v12_bodies 0 x6 p1 f12_trace H.size x6 p3 i1 i2 i3 i4 i5 i6 i7 i8 i9 i10 i11 i12 i13 i14 i15 h1 i17 (by omega)) (cwV 2 hts gX12_act_X12_tellsAs rfl rfl rfl (by decide +kernel) ⟨Nat.le_of_ble_eq_true rfl, Nat.le_of_ble_eq_true rfl⟩) (pk_V hK hS hAB hPc hDc 0 (ci := 12) rfl rfl rfl) rfl rfl hl.1 rfl (lv_room (Nat.le_of_ble_eq_true rfl)) dX12_act_96 ⟨Nat.le_of_ble_eq_true rfl, Nat.le_of_ble_eq_true rfl⟩) (fun x32 u33 H locs hw hPD hS => ?_)
      obtain ⟨x30, g31⟩ := u33
      obtain ⟨h34, h35⟩ : (0 ≤ x30.toInt ∧ x30.toInt ≤ 1000) ∧ ((0 : Int32).toInt ≤ x30.toInt ∧ x30.toInt ≤ (0 : Int32).toInt + 14) := hw
      obtain ⟨hP, hD⟩ : PD D A [O12 a12 r12 v12_keptMany v12_done v12_sheets v12_holes v12_worms v12_laidMany v12_wanted v12_orderMany v12_firstOrder v12_lines v12_marks v12_dots v12_madeIn v12_bound v12_places v12_maps v12_tapeMany v12_stories v12_base v12_at v12_ends v12_fault v12_opened v12_bodies x30 x6 p1, (cI κ (r12 54) 50 f12_bodyKind), (cI κ (r12 55) 24 g31)] H := hPD
      have hpo : 0 ≤ x30.toInt ∧ x30.toInt ≤ 1000 := h34
      exact ret _ _ _ _ x32 (x30, x6, p1, g31) dX12_act_99 hpo hP hD hS
    refine lv_tableOut (tgt := 100) hx hb dX12_act_31 (by omega) (by decide) ?_
    refine lv_iconst (v := 0) hx hb dX12_act_100 (by decide) ?_
    have hpo : 0 ≤ (0 : Int32).toInt ∧ (0 : Int32).toInt ≤ 1000 := h1
    exact ret _ _ _ _ 0 (0, x6, p1, f12_trace) dX12_act_101 hpo hP hD hS
  have c5 := ci_eq c5
  refine lv_iconst (v := 0) hx hb dX12_act_13 (by decide) ?_
  have hpo : 0 ≤ (0 : Int32).toInt ∧ (0 : Int32).toInt ≤ 1000 := h1
  exact ret _ _ _ _ 0 (0, v12_ownKind, v12_ownNumber, f12_trace) dX12_act_14 hpo hP hD hS
