set_option maxHeartbeats 4000000 in
set_option maxRecDepth 100000 in
theorem k_X12_liesAs_0 (l : Launch) (D : va_G) (κ : Nat → ClassId) (β : Nat) (a12 : Nat) (r12 : Nat → Nat) (v12_keptMany : Int32) (v12_done : Int32) (v12_sheets : Int32) (v12_holes : Int32) (v12_worms : Int32) (v12_laidMany : Int32) (v12_wanted : Int32) (v12_orderMany : Int32) (v12_firstOrder : Int32) (v12_lines : Int32) (v12_marks : Int32) (v12_dots : Int32) (v12_madeIn : Int32) (v12_bound : Int32) (v12_places : Int32) (v12_maps : Int32) (v12_tapeMany : Int32) (v12_stories : Int32) (v12_base : Int32) (v12_at : Int32) (v12_ends : Int32) (v12_fault : Int32) (v12_opened : Int32) (v12_bodies : Int32) (v12_ran : Int32) (v12_ownKind : Int32) (v12_ownNumber : Int32) (f12_trace : Nat → Int32) (sz : Nat) (p1 : Int32) (p2 : Int32) (i1 : Rg 0 40 v12_keptMany) (i2 : Rg 0 40 v12_done) (i3 : Rg 0 8 v12_sheets) (i4 : Rg 0 40 v12_holes) (i5 : Rg 0 40 v12_worms) (i6 : Rg 0 8 v12_laidMany) (i7 : Rg 0 8 v12_wanted) (i8 : Rg 0 20 v12_lines) (i9 : Rg 0 60 v12_marks) (i10 : Rg 0 40 v12_dots) (i11 : Rg 0 20 v12_places) (i12 : Rg 0 8 v12_maps) (i13 : Rg 0 120 v12_tapeMany) (i14 : Rg 0 6 v12_stories) (i15 : Rg 0 50 v12_bodies) (i16 : Rg 0 1000 v12_ran) (i17 : v12_done.toInt ≤ v12_keptMany.toInt) (i18 : p1.toInt = 0) (i19 : v12_ran.toInt ≤ 900) : Met l yX12_liesAs wsX12_liesAs ({ frames := 1, cells := 0, slots := 0, locals := 21 } : Room) (PcK D κ β [O12 a12 r12 v12_keptMany v12_done v12_sheets v12_holes v12_worms v12_laidMany v12_wanted v12_orderMany v12_firstOrder v12_lines v12_marks v12_dots v12_madeIn v12_bound v12_places v12_maps v12_tapeMany v12_stories v12_base v12_at v12_ends v12_fault v12_opened v12_bodies v12_ran v12_ownKind v12_ownNumber, (cI κ (r12 55) 24 f12_trace)] sz [.ref a12, .int p1, .int p2]) (QiK D (fun (r : Int32) (u : Int32 × (Nat → Int32)) => (0 ≤ u.1.toInt ∧ u.1.toInt ≤ 1000) ∧ (v12_ran.toInt ≤ u.1.toInt ∧ u.1.toInt ≤ v12_ran.toInt + 1) ∧ (r = p2 + v12_ownNumber) ∧ (u.2 = wrL f12_trace v12_ran.toInt ([1])) ∧ (u.1.toInt = v12_ran.toInt + ((([1]).length : Nat) : Int))) (fun (u : Int32 × (Nat → Int32)) => [O12 a12 r12 v12_keptMany v12_done v12_sheets v12_holes v12_worms v12_laidMany v12_wanted v12_orderMany v12_firstOrder v12_lines v12_marks v12_dots v12_madeIn v12_bound v12_places v12_maps v12_tapeMany v12_stories v12_base v12_at v12_ends v12_fault v12_opened v12_bodies u.1 v12_ownKind v12_ownNumber, (cI κ (r12 55) 24 u.2)]) [O12 a12 r12 v12_keptMany v12_done v12_sheets v12_holes v12_worms v12_laidMany v12_wanted v12_orderMany v12_firstOrder v12_lines v12_marks v12_dots v12_madeIn v12_bound v12_places v12_maps v12_tapeMany v12_stories v12_base v12_at v12_ends v12_fault v12_opened v12_bodies v12_ran v12_ownKind v12_ownNumber, (cI κ (r12 55) 24 f12_trace)] sz) 0 0 (va_A [O12 a12 r12 v12_keptMany v12_done v12_sheets v12_holes v12_worms v12_laidMany v12_wanted v12_orderMany v12_firstOrder v12_lines v12_marks v12_dots v12_madeIn v12_bound v12_places v12_maps v12_tapeMany v12_stories v12_base v12_at v12_ends v12_fault v12_opened v12_bodies v12_ran v12_ownKind v12_ownNumber, (cI κ (r12 55) 24 f12_trace)] sz) := by
  refine ofK_i (cc := cX12_liesAs) (maxL := 3) (own := RX12) (by decide) rfl rfl (Nat.le_of_ble_eq_true rfl) ?_
  intro p e s m args below meth c Q A ls hsz hx hb hml hts hown hK hA hAB hP hD hl ret
  have hS : va_S A s.heap s.heap [] := va_S.rf
  have hl : lv_has ls 3 [(0, .ref a12), (1, .int p1), (2, .int p2)] := hl
  have w0 := hts (.fieldLink RX12 392 "OlderSkinModel" "ownNumber" "I") (List.mem_of_getElem? (i := 1) rfl)
  have w1 := (fun w h => List.mem_cons_of_mem _ (List.mem_append_right _ h) : ∀ w ∈ u_ws RX12 TX12 63, w ∈ wsX12_liesAs)
  have l0 : (1 : Int32).toInt = 1 := by decide
  have l1 : (0 : Int32).toInt = 0 := by decide
  have l2 : (3 : Int32).toInt = 3 := by decide
  have l3 : (6 : Int32).toInt = 6 := by decide
  have l4 : (7 : Int32).toInt = 7 := by decide
  have i16 : 0 ≤ v12_ran.toInt ∧ v12_ran.toInt ≤ 1000 := i16
  refine lv_iload_n hx hb dX12_liesAs_0 rfl (lv_at hl 1 rfl) ?_
  refine lv_iconst (v := 1) hx hb dX12_liesAs_1 (by decide) ?_
  refine lv_icmp_eq (tgt := 10) hx hb dX12_liesAs_2 (by decide) (fun c1 => ?_) (fun c1 => ?_)
  · have c1 := ci_eq c1
    exfalso
    omega
  have c1 := ci_ne c1
  refine lv_iload_n hx hb dX12_liesAs_5 rfl (lv_at hl 1 rfl) ?_
  refine lv_iconst (v := 3) hx hb dX12_liesAs_6 (by decide) ?_
  refine lv_icmp_ne (tgt := 25) hx hb dX12_liesAs_7 (by decide) (fun c2 => ?_) (fun c2 => ?_)
  · have c2 := ci_ne c2
    refine lv_iload_n hx hb dX12_liesAs_25 rfl (lv_at hl 1 rfl) ?_
    refine lv_bipush (v := 6) hx hb dX12_liesAs_26 (by decide) ?_
    refine lv_icmp_eq (tgt := 37) hx hb dX12_liesAs_28 (by decide) (fun c3 => ?_) (fun c3 => ?_)
    · have c3 := ci_eq c3
      exfalso
      omega
    have c3 := ci_ne c3
    refine lv_iload_n hx hb dX12_liesAs_31 rfl (lv_at hl 1 rfl) ?_
    refine lv_bipush (v := 7) hx hb dX12_liesAs_32 (by decide) ?_
    refine lv_icmp_ne (tgt := 52) hx hb dX12_liesAs_34 (by decide) (fun c4 => ?_) (fun c4 => ?_)
    · have c4 := ci_ne c4
      refine lv_aload_n hx hb dX12_liesAs_52 rfl (lv_at hl 0 rfl) ?_
      refine lv_iconst (v := 1) hx hb dX12_liesAs_53 (by decide) ?_
      refine kcm_v hA hAB hP hD hS [true, true] rfl (fun _ => rfl) (fun hPc hDc => va_runV (As := [.int 1]) (rest := []) ⟨hx, hb, hml, hown, hts⟩ (k_X12_begins l D κ β a12 r12 v12_keptMany v12_done v12_sheets v12_holes v12_worms v12_laidMany v12_wanted v12_orderMany v12_firstOrder v12_lines v12_marks v12_dots v12_madeIn v12_bound v12_places v12_maps v12_tapeMany v12_stories v12_base v12_at v12_ends v12_fault v12_opened v12_bodies v12_ran v12_ownKind v12_ownNumber f12_trace s.heap.size 1 i1 i2 i3 i4 i5 i6 i7 i8 i9 i10 i11 i12 i13 i14 i15 i16 i17 (by omega)) (cwV 1 hts gX12_liesAs_X12_begins rfl rfl rfl (by decide +kernel) ⟨Nat.le_of_ble_eq_true rfl, Nat.le_of_ble_eq_true rfl⟩) (pk_V hK hS hAB hPc hDc 0 (ci := 12) rfl rfl rfl) rfl rfl hl.1 rfl (lv_room (Nat.le_of_ble_eq_true rfl)) dX12_liesAs_54 ⟨Nat.le_of_ble_eq_true rfl, Nat.le_of_ble_eq_true rfl⟩) (fun u7 H locs hw hPD hS => ?_)
      obtain ⟨x5, g6⟩ := u7
      obtain ⟨h8, h9, h10⟩ : (0 ≤ x5.toInt ∧ x5.toInt ≤ 1000) ∧ (x5.toInt = v12_ran.toInt + 1) ∧ (g6 = wrL f12_trace v12_ran.toInt ([(1 : Int32).toInt])) := hw
      obtain ⟨hP, hD⟩ : PD D A [O12 a12 r12 v12_keptMany v12_done v12_sheets v12_holes v12_worms v12_laidMany v12_wanted v12_orderMany v12_firstOrder v12_lines v12_marks v12_dots v12_madeIn v12_bound v12_places v12_maps v12_tapeMany v12_stories v12_base v12_at v12_ends v12_fault v12_opened v12_bodies x5 v12_ownKind v12_ownNumber, (cI κ (r12 55) 24 g6)] H := hPD
      have hw1 : g6 = wrL f12_trace v12_ran.toInt ([(1 : Int32).toInt]) := by assumption
      have hl1 : x5.toInt = v12_ran.toInt + (((([(1 : Int32).toInt])).length : Nat) : Int) := by first | assumption | (show _ = _ + ((1 : Nat) : Int); omega)
      refine lv_iload_n hx hb dX12_liesAs_57 rfl (lv_at hl 2 rfl) ?_
      refine lv_aload_n hx hb dX12_liesAs_58 rfl (lv_at hl 0 rfl) ?_
      refine va_get (D := D) (ci := 12) (v := .int v12_ownNumber) (C := RX12) (T := TX12) (N := 63) hx hb hts w1 hown hK.1 hP 0 rfl rfl 58 (by decide) w0 (fun _ h9 => h9) rfl dX12_liesAs_59 ?_
      refine lv_iadd hx hb dX12_liesAs_62 ?_
      refine lv_topi (fun x11 e12 => ?_)
      try have h13 : x11.toInt = p2.toInt + v12_ownNumber.toInt := ci_add e12 (by omega) (by omega)
      have hpo : (0 ≤ x5.toInt ∧ x5.toInt ≤ 1000) ∧ (v12_ran.toInt ≤ x5.toInt ∧ x5.toInt ≤ v12_ran.toInt + 1) ∧ (x11 = p2 + v12_ownNumber) ∧ (g6 = wrL f12_trace v12_ran.toInt ([1])) ∧ (x5.toInt = v12_ran.toInt + ((([1]).length : Nat) : Int)) := ⟨h8, (by omega), e12, (by exact hw1), (by exact hl1)⟩
      exact ret _ _ _ _ x11 (x5, g6) dX12_liesAs_63 hpo hP hD hS
    have c4 := ci_eq c4
    exfalso
    omega
  have c2 := ci_eq c2
  exfalso
  omega
set_option maxHeartbeats 4000000 in
set_option maxRecDepth 100000 in
theorem k_X12_liesAs (l : Launch) (D : va_G) (κ : Nat → ClassId) (β : Nat) (a12 : Nat) (r12 : Nat → Nat) (v12_keptMany : Int32) (v12_done : Int32) (v12_sheets : Int32) (v12_holes : Int32) (v12_worms : Int32) (v12_laidMany : Int32) (v12_wanted : Int32) (v12_orderMany : Int32) (v12_firstOrder : Int32) (v12_lines : Int32) (v12_marks : Int32) (v12_dots : Int32) (v12_madeIn : Int32) (v12_bound : Int32) (v12_places : Int32) (v12_maps : Int32) (v12_tapeMany : Int32) (v12_stories : Int32) (v12_base : Int32) (v12_at : Int32) (v12_ends : Int32) (v12_fault : Int32) (v12_opened : Int32) (v12_bodies : Int32) (v12_ran : Int32) (v12_ownKind : Int32) (v12_ownNumber : Int32) (f12_trace : Nat → Int32) (sz : Nat) (p1 : Int32) (p2 : Int32) (i1 : Rg 0 40 v12_keptMany) (i2 : Rg 0 40 v12_done) (i3 : Rg 0 8 v12_sheets) (i4 : Rg 0 40 v12_holes) (i5 : Rg 0 40 v12_worms) (i6 : Rg 0 8 v12_laidMany) (i7 : Rg 0 8 v12_wanted) (i8 : Rg 0 20 v12_lines) (i9 : Rg 0 60 v12_marks) (i10 : Rg 0 40 v12_dots) (i11 : Rg 0 20 v12_places) (i12 : Rg 0 8 v12_maps) (i13 : Rg 0 120 v12_tapeMany) (i14 : Rg 0 6 v12_stories) (i15 : Rg 0 50 v12_bodies) (i16 : Rg 0 1000 v12_ran) (i17 : v12_done.toInt ≤ v12_keptMany.toInt) (i18 : v12_ran.toInt ≤ 890) : Met l yX12_liesAs wsX12_liesAs ({ frames := 2, cells := 0, slots := 0, locals := 43 } : Room) (PcK D κ β [O12 a12 r12 v12_keptMany v12_done v12_sheets v12_holes v12_worms v12_laidMany v12_wanted v12_orderMany v12_firstOrder v12_lines v12_marks v12_dots v12_madeIn v12_bound v12_places v12_maps v12_tapeMany v12_stories v12_base v12_at v12_ends v12_fault v12_opened v12_bodies v12_ran v12_ownKind v12_ownNumber, (cI κ (r12 55) 24 f12_trace)] sz [.ref a12, .int p1, .int p2]) (QiK D (fun (r : Int32) (u : Int32 × (Nat → Int32)) => (0 ≤ u.1.toInt ∧ u.1.toInt ≤ 1000) ∧ (v12_ran.toInt ≤ u.1.toInt ∧ u.1.toInt ≤ v12_ran.toInt + 2) ∧ (r = liesP v12_ownNumber p1.toInt p2) ∧ (u.2 = wrL f12_trace v12_ran.toInt (liesT p1.toInt)) ∧ (u.1.toInt = v12_ran.toInt + (((liesT p1.toInt).length : Nat) : Int))) (fun (u : Int32 × (Nat → Int32)) => [O12 a12 r12 v12_keptMany v12_done v12_sheets v12_holes v12_worms v12_laidMany v12_wanted v12_orderMany v12_firstOrder v12_lines v12_marks v12_dots v12_madeIn v12_bound v12_places v12_maps v12_tapeMany v12_stories v12_base v12_at v12_ends v12_fault v12_opened v12_bodies u.1 v12_ownKind v12_ownNumber, (cI κ (r12 55) 24 u.2)]) [O12 a12 r12 v12_keptMany v12_done v12_sheets v12_holes v12_worms v12_laidMany v12_wanted v12_orderMany v12_firstOrder v12_lines v12_marks v12_dots v12_madeIn v12_bound v12_places v12_maps v12_tapeMany v12_stories v12_base v12_at v12_ends v12_fault v12_opened v12_bodies v12_ran v12_ownKind v12_ownNumber, (cI κ (r12 55) 24 f12_trace)] sz) 0 0 (va_A [O12 a12 r12 v12_keptMany v12_done v12_sheets v12_holes v12_worms v12_laidMany v12_wanted v12_orderMany v12_firstOrder v12_lines v12_marks v12_dots v12_madeIn v12_bound v12_places v12_maps v12_tapeMany v12_stories v12_base v12_at v12_ends v12_fault v12_opened v12_bodies v12_ran v12_ownKind v12_ownNumber, (cI κ (r12 55) 24 f12_trace)] sz) := by
  refine ofK_i (cc := cX12_liesAs) (maxL := 3) (own := RX12) (by decide) rfl rfl (Nat.le_of_ble_eq_true rfl) ?_
  intro p e s m args below meth c Q A ls hsz hx hb hml hts hown hK hA hAB hP hD hl ret
  have hS : va_S A s.heap s.heap [] := va_S.rf
  have hl : lv_has ls 3 [(0, .ref a12), (1, .int p1), (2, .int p2)] := hl
  have w0 := hts (.fieldLink RX12 392 "OlderSkinModel" "ownNumber" "I") (List.mem_of_getElem? (i := 1) rfl)
  have w1 := (fun w h => List.mem_cons_of_mem _ (List.mem_append_right _ h) : ∀ w ∈ u_ws RX12 TX12 63, w ∈ wsX12_liesAs)
  have l0 : (1 : Int32).toInt = 1 := by decide
  have l1 : (0 : Int32).toInt = 0 := by decide
  have l2 : (20 : Int32).toInt = 20 := by decide
  have l3 : (3 : Int32).toInt = 3 := by decide
  have l4 : (6 : Int32).toInt = 6 := by decide
  have l5 : (70 : Int32).toInt = 70 := by decide
  have l6 : (2 : Int32).toInt = 2 := by decide
  have l7 : (7 : Int32).toInt = 7 := by decide
  have i16 : 0 ≤ v12_ran.toInt ∧ v12_ran.toInt ≤ 1000 := i16
  refine lv_iload_n hx hb dX12_liesAs_0 rfl (lv_at hl 1 rfl) ?_
  refine lv_iconst (v := 1) hx hb dX12_liesAs_1 (by decide) ?_
  refine lv_icmp_eq (tgt := 10) hx hb dX12_liesAs_2 (by decide) (fun c1 => ?_) (fun c1 => ?_)
  · have c1 := ci_eq c1
    refine lv_aload_n hx hb dX12_liesAs_10 rfl (lv_at hl 0 rfl) ?_
    refine lv_bipush (v := 20) hx hb dX12_liesAs_11 (by decide) ?_
    refine kcm_v hA hAB hP hD hS [true, true] rfl (fun _ => rfl) (fun hPc hDc => va_runV (As := [.int 20]) (rest := []) ⟨hx, hb, hml, hown, hts⟩ (k_X12_begins l D κ β a12 r12 v12_keptMany v12_done v12_sheets v12_holes v12_worms v12_laidMany v12_wanted v12_orderMany v12_firstOrder v12_lines v12_marks v12_dots v12_madeIn v12_bound v12_places v12_maps v12_tapeMany v12_stories v12_base v12_at v12_ends v12_fault v12_opened v12_bodies v12_ran v12_ownKind v12_ownNumber f12_trace s.heap.size 20 i1 i2 i3 i4 i5 i6 i7 i8 i9 i10 i11 i12 i13 i14 i15 i16 i17 (by omega)) (cwV 1 hts gX12_liesAs_X12_begins rfl rfl rfl (by decide +kernel) ⟨Nat.le_of_ble_eq_true rfl, Nat.le_of_ble_eq_true rfl⟩) (pk_V hK hS hAB hPc hDc 0 (ci := 12) rfl rfl rfl) rfl rfl hl.1 rfl (lv_room (Nat.le_of_ble_eq_true rfl)) dX12_liesAs_13 ⟨Nat.le_of_ble_eq_true rfl, Nat.le_of_ble_eq_true rfl⟩) (fun u4 H locs hw hPD hS => ?_)
    obtain ⟨x2, g3⟩ := u4
    obtain ⟨h5, h6, h7⟩ : (0 ≤ x2.toInt ∧ x2.toInt ≤ 1000) ∧ (x2.toInt = v12_ran.toInt + 1) ∧ (g3 = wrL f12_trace v12_ran.toInt ([(20 : Int32).toInt])) := hw
    obtain ⟨hP, hD⟩ : PD D A [O12 a12 r12 v12_keptMany v12_done v12_sheets v12_holes v12_worms v12_laidMany v12_wanted v12_orderMany v12_firstOrder v12_lines v12_marks v12_dots v12_madeIn v12_bound v12_places v12_maps v12_tapeMany v12_stories v12_base v12_at v12_ends v12_fault v12_opened v12_bodies x2 v12_ownKind v12_ownNumber, (cI κ (r12 55) 24 g3)] H := hPD
    have hw1 : g3 = wrL f12_trace v12_ran.toInt ([(20 : Int32).toInt]) := by assumption
    have hl1 : x2.toInt = v12_ran.toInt + (((([(20 : Int32).toInt])).length : Nat) : Int) := by first | assumption | (show _ = _ + ((1 : Nat) : Int); omega)
    refine lv_aload_n hx hb dX12_liesAs_16 rfl (lv_at hl 0 rfl) ?_
    refine lv_iconst (v := 0) hx hb dX12_liesAs_17 (by decide) ?_
    refine lv_iload_n hx hb dX12_liesAs_18 rfl (lv_at hl 2 rfl) ?_
    refine kcm_i hA hAB hP hD hS [true, true] rfl (fun _ => rfl) (fun hPc hDc => va_runV (As := [.int 0, .int p2]) (rest := []) ⟨hx, hb, hml, hown, hts⟩ (k_X12_liesAs_0 l D κ β a12 r12 v12_keptMany v12_done v12_sheets v12_holes v12_worms v12_laidMany v12_wanted v12_orderMany v12_firstOrder v12_lines v12_marks v12_dots v12_madeIn v12_bound v12_places v12_maps v12_tapeMany v12_stories v12_base v12_at v12_ends v12_fault v12_opened v12_bodies x2 v12_ownKind v12_ownNumber g3 H.size 0 p2 i1 i2 i3 i4 i5 i6 i7 i8 i9 i10 i11 i12 i13 i14 i15 h5 i17 (by omega) (by omega)) (cwV 2 hts gX12_liesAs_X12_liesAs rfl rfl rfl (by decide +kernel) ⟨Nat.le_of_ble_eq_true rfl, Nat.le_of_ble_eq_true rfl⟩) (pk_V hK hS hAB hPc hDc 0 (ci := 12) rfl rfl rfl) rfl rfl hl.1 rfl (lv_room (Nat.le_of_ble_eq_true rfl)) dX12_liesAs_19 ⟨Nat.le_of_ble_eq_true rfl, Nat.le_of_ble_eq_true rfl⟩) (fun x10 u11 H locs hw hPD hS => ?_)
    obtain ⟨x8, g9⟩ := u11
    obtain ⟨h12, h13, h14, h15, h16⟩ : (0 ≤ x8.toInt ∧ x8.toInt ≤ 1000) ∧ (x2.toInt ≤ x8.toInt ∧ x8.toInt ≤ x2.toInt + 1) ∧ (x10 = p2 + v12_ownNumber) ∧ (g9 = wrL g3 x2.toInt ([1])) ∧ (x8.toInt = x2.toInt + ((([1]).length : Nat) : Int)) := hw
    obtain ⟨hP, hD⟩ : PD D A [O12 a12 r12 v12_keptMany v12_done v12_sheets v12_holes v12_worms v12_laidMany v12_wanted v12_orderMany v12_firstOrder v12_lines v12_marks v12_dots v12_madeIn v12_bound v12_places v12_maps v12_tapeMany v12_stories v12_base v12_at v12_ends v12_fault v12_opened v12_bodies x8 v12_ownKind v12_ownNumber, (cI κ (r12 55) 24 g9)] H := hPD
    have hq : x10 = p2 + v12_ownNumber := by assumption
    have hw2 : g9 = wrL f12_trace v12_ran.toInt (([(20 : Int32).toInt]) ++ ([1])) := by rw [wrL_app, ← hw1, ← hl1]; assumption
    have hl2 : x8.toInt = v12_ran.toInt + ((((([(20 : Int32).toInt]) ++ ([1]))).length : Nat) : Int) := by rw [List.length_append]; omega
    refine lv_iconst (v := 3) hx hb dX12_liesAs_22 (by decide) ?_
    refine lv_iadd hx hb dX12_liesAs_23 ?_
    refine lv_topi (fun x17 e18 => ?_)
    try have h19 : x17.toInt = x10.toInt + (3 : Int32).toInt := ci_add e18 (by omega) (by omega)
    have hpo : (0 ≤ x8.toInt ∧ x8.toInt ≤ 1000) ∧ (v12_ran.toInt ≤ x8.toInt ∧ x8.toInt ≤ v12_ran.toInt + 2) ∧ (x17 = liesP v12_ownNumber p1.toInt p2) ∧ (g9 = wrL f12_trace v12_ran.toInt (liesT p1.toInt)) ∧ (x8.toInt = v12_ran.toInt + (((liesT p1.toInt).length : Nat) : Int)) := ⟨h12, (by omega), (by unfold liesP; rw [if_pos (by omega), e18, hq]), (by unfold liesT; rw [if_pos (by omega)]; exact hw2), (by unfold liesT; rw [if_pos (by omega)]; exact hl2)⟩
    exact ret _ _ _ _ x17 (x8, g9) dX12_liesAs_24 hpo hP hD hS
  have c1 := ci_ne c1
  refine lv_iload_n hx hb dX12_liesAs_5 rfl (lv_at hl 1 rfl) ?_
  refine lv_iconst (v := 3) hx hb dX12_liesAs_6 (by decide) ?_
  refine lv_icmp_ne (tgt := 25) hx hb dX12_liesAs_7 (by decide) (fun c20 => ?_) (fun c20 => ?_)
  · have c20 := ci_ne c20
    refine lv_iload_n hx hb dX12_liesAs_25 rfl (lv_at hl 1 rfl) ?_
    refine lv_bipush (v := 6) hx hb dX12_liesAs_26 (by decide) ?_
    refine lv_icmp_eq (tgt := 37) hx hb dX12_liesAs_28 (by decide) (fun c21 => ?_) (fun c21 => ?_)
    · have c21 := ci_eq c21
      refine lv_aload_n hx hb dX12_liesAs_37 rfl (lv_at hl 0 rfl) ?_
      refine lv_bipush (v := 70) hx hb dX12_liesAs_38 (by decide) ?_
      refine kcm_v hA hAB hP hD hS [true, true] rfl (fun _ => rfl) (fun hPc hDc => va_runV (As := [.int 70]) (rest := []) ⟨hx, hb, hml, hown, hts⟩ (k_X12_begins l D κ β a12 r12 v12_keptMany v12_done v12_sheets v12_holes v12_worms v12_laidMany v12_wanted v12_orderMany v12_firstOrder v12_lines v12_marks v12_dots v12_madeIn v12_bound v12_places v12_maps v12_tapeMany v12_stories v12_base v12_at v12_ends v12_fault v12_opened v12_bodies v12_ran v12_ownKind v12_ownNumber f12_trace s.heap.size 70 i1 i2 i3 i4 i5 i6 i7 i8 i9 i10 i11 i12 i13 i14 i15 i16 i17 (by omega)) (cwV 1 hts gX12_liesAs_X12_begins rfl rfl rfl (by decide +kernel) ⟨Nat.le_of_ble_eq_true rfl, Nat.le_of_ble_eq_true rfl⟩) (pk_V hK hS hAB hPc hDc 0 (ci := 12) rfl rfl rfl) rfl rfl hl.1 rfl (lv_room (Nat.le_of_ble_eq_true rfl)) dX12_liesAs_40 ⟨Nat.le_of_ble_eq_true rfl, Nat.le_of_ble_eq_true rfl⟩) (fun u24 H locs hw hPD hS => ?_)
      obtain ⟨x22, g23⟩ := u24
      obtain ⟨h25, h26, h27⟩ : (0 ≤ x22.toInt ∧ x22.toInt ≤ 1000) ∧ (x22.toInt = v12_ran.toInt + 1) ∧ (g23 = wrL f12_trace v12_ran.toInt ([(70 : Int32).toInt])) := hw
      obtain ⟨hP, hD⟩ : PD D A [O12 a12 r12 v12_keptMany v12_done v12_sheets v12_holes v12_worms v12_laidMany v12_wanted v12_orderMany v12_firstOrder v12_lines v12_marks v12_dots v12_madeIn v12_bound v12_places v12_maps v12_tapeMany v12_stories v12_base v12_at v12_ends v12_fault v12_opened v12_bodies x22 v12_ownKind v12_ownNumber, (cI κ (r12 55) 24 g23)] H := hPD
      have hw1 : g23 = wrL f12_trace v12_ran.toInt ([(70 : Int32).toInt]) := by assumption
      have hl1 : x22.toInt = v12_ran.toInt + (((([(70 : Int32).toInt])).length : Nat) : Int) := by first | assumption | (show _ = _ + ((1 : Nat) : Int); omega)
      refine lv_aload_n hx hb dX12_liesAs_43 rfl (lv_at hl 0 rfl) ?_
      refine lv_iconst (v := 0) hx hb dX12_liesAs_44 (by decide) ?_
      refine lv_iload_n hx hb dX12_liesAs_45 rfl (lv_at hl 2 rfl) ?_
      refine kcm_i hA hAB hP hD hS [true, true] rfl (fun _ => rfl) (fun hPc hDc => va_runV (As := [.int 0, .int p2]) (rest := []) ⟨hx, hb, hml, hown, hts⟩ (k_X12_liesAs_0 l D κ β a12 r12 v12_keptMany v12_done v12_sheets v12_holes v12_worms v12_laidMany v12_wanted v12_orderMany v12_firstOrder v12_lines v12_marks v12_dots v12_madeIn v12_bound v12_places v12_maps v12_tapeMany v12_stories v12_base v12_at v12_ends v12_fault v12_opened v12_bodies x22 v12_ownKind v12_ownNumber g23 H.size 0 p2 i1 i2 i3 i4 i5 i6 i7 i8 i9 i10 i11 i12 i13 i14 i15 h25 i17 (by omega) (by omega)) (cwV 2 hts gX12_liesAs_X12_liesAs rfl rfl rfl (by decide +kernel) ⟨Nat.le_of_ble_eq_true rfl, Nat.le_of_ble_eq_true rfl⟩) (pk_V hK hS hAB hPc hDc 0 (ci := 12) rfl rfl rfl) rfl rfl hl.1 rfl (lv_room (Nat.le_of_ble_eq_true rfl)) dX12_liesAs_46 ⟨Nat.le_of_ble_eq_true rfl, Nat.le_of_ble_eq_true rfl⟩) (fun x30 u31 H locs hw hPD hS => ?_)
      obtain ⟨x28, g29⟩ := u31
      obtain ⟨h32, h33, h34, h35, h36⟩ : (0 ≤ x28.toInt ∧ x28.toInt ≤ 1000) ∧ (x22.toInt ≤ x28.toInt ∧ x28.toInt ≤ x22.toInt + 1) ∧ (x30 = p2 + v12_ownNumber) ∧ (g29 = wrL g23 x22.toInt ([1])) ∧ (x28.toInt = x22.toInt + ((([1]).length : Nat) : Int)) := hw
      obtain ⟨hP, hD⟩ : PD D A [O12 a12 r12 v12_keptMany v12_done v12_sheets v12_holes v12_worms v12_laidMany v12_wanted v12_orderMany v12_firstOrder v12_lines v12_marks v12_dots v12_madeIn v12_bound v12_places v12_maps v12_tapeMany v12_stories v12_base v12_at v12_ends v12_fault v12_opened v12_bodies x28 v12_ownKind v12_ownNumber, (cI κ (r12 55) 24 g29)] H := hPD
      have hq : x30 = p2 + v12_ownNumber := by assumption
      have hw2 : g29 = wrL f12_trace v12_ran.toInt (([(70 : Int32).toInt]) ++ ([1])) := by rw [wrL_app, ← hw1, ← hl1]; assumption
      have hl2 : x28.toInt = v12_ran.toInt + ((((([(70 : Int32).toInt]) ++ ([1]))).length : Nat) : Int) := by rw [List.length_append]; omega
      refine lv_iconst (v := 2) hx hb dX12_liesAs_49 (by decide) ?_
      refine lv_imul hx hb dX12_liesAs_50 ?_
      refine lv_topi (fun x37 e38 => ?_)
      try have h39 : x37.toInt = 2 * x30.toInt := ci_mulR (n := 2) (by decide) e38 (by omega) (by omega)
      have hpo : (0 ≤ x28.toInt ∧ x28.toInt ≤ 1000) ∧ (v12_ran.toInt ≤ x28.toInt ∧ x28.toInt ≤ v12_ran.toInt + 2) ∧ (x37 = liesP v12_ownNumber p1.toInt p2) ∧ (g29 = wrL f12_trace v12_ran.toInt (liesT p1.toInt)) ∧ (x28.toInt = v12_ran.toInt + (((liesT p1.toInt).length : Nat) : Int)) := ⟨h32, (by omega), (by unfold liesP; rw [if_neg (by omega), if_pos (by omega), e38, hq]), (by unfold liesT; rw [if_neg (by omega), if_pos (by omega)]; exact hw2), (by unfold liesT; rw [if_neg (by omega), if_pos (by omega)]; exact hl2)⟩
      exact ret _ _ _ _ x37 (x28, g29) dX12_liesAs_51 hpo hP hD hS
    have c21 := ci_ne c21
    refine lv_iload_n hx hb dX12_liesAs_31 rfl (lv_at hl 1 rfl) ?_
    refine lv_bipush (v := 7) hx hb dX12_liesAs_32 (by decide) ?_
    refine lv_icmp_ne (tgt := 52) hx hb dX12_liesAs_34 (by decide) (fun c40 => ?_) (fun c40 => ?_)
    · have c40 := ci_ne c40
      refine lv_aload_n hx hb dX12_liesAs_52 rfl (lv_at hl 0 rfl) ?_
      refine lv_iconst (v := 1) hx hb dX12_liesAs_53 (by decide) ?_
      refine kcm_v hA hAB hP hD hS [true, true] rfl (fun _ => rfl) (fun hPc hDc => va_runV (As := [.int 1]) (rest := []) ⟨hx, hb, hml, hown, hts⟩ (k_X12_begins l D κ β a12 r12 v12_keptMany v12_done v12_sheets v12_holes v12_worms v12_laidMany v12_wanted v12_orderMany v12_firstOrder v12_lines v12_marks v12_dots v12_madeIn v12_bound v12_places v12_maps v12_tapeMany v12_stories v12_base v12_at v12_ends v12_fault v12_opened v12_bodies v12_ran v12_ownKind v12_ownNumber f12_trace s.heap.size 1 i1 i2 i3 i4 i5 i6 i7 i8 i9 i10 i11 i12 i13 i14 i15 i16 i17 (by omega)) (cwV 1 hts gX12_liesAs_X12_begins rfl rfl rfl (by decide +kernel) ⟨Nat.le_of_ble_eq_true rfl, Nat.le_of_ble_eq_true rfl⟩) (pk_V hK hS hAB hPc hDc 0 (ci := 12) rfl rfl rfl) rfl rfl hl.1 rfl (lv_room (Nat.le_of_ble_eq_true rfl)) dX12_liesAs_54 ⟨Nat.le_of_ble_eq_true rfl, Nat.le_of_ble_eq_true rfl⟩) (fun u43 H locs hw hPD hS => ?_)
      obtain ⟨x41, g42⟩ := u43
      obtain ⟨h44, h45, h46⟩ : (0 ≤ x41.toInt ∧ x41.toInt ≤ 1000) ∧ (x41.toInt = v12_ran.toInt + 1) ∧ (g42 = wrL f12_trace v12_ran.toInt ([(1 : Int32).toInt])) := hw
      obtain ⟨hP, hD⟩ : PD D A [O12 a12 r12 v12_keptMany v12_done v12_sheets v12_holes v12_worms v12_laidMany v12_wanted v12_orderMany v12_firstOrder v12_lines v12_marks v12_dots v12_madeIn v12_bound v12_places v12_maps v12_tapeMany v12_stories v12_base v12_at v12_ends v12_fault v12_opened v12_bodies x41 v12_ownKind v12_ownNumber, (cI κ (r12 55) 24 g42)] H := hPD
      have hw1 : g42 = wrL f12_trace v12_ran.toInt ([(1 : Int32).toInt]) := by assumption
      have hl1 : x41.toInt = v12_ran.toInt + (((([(1 : Int32).toInt])).length : Nat) : Int) := by first | assumption | (show _ = _ + ((1 : Nat) : Int); omega)
      refine lv_iload_n hx hb dX12_liesAs_57 rfl (lv_at hl 2 rfl) ?_
      refine lv_aload_n hx hb dX12_liesAs_58 rfl (lv_at hl 0 rfl) ?_
      refine va_get (D := D) (ci := 12) (v := .int v12_ownNumber) (C := RX12) (T := TX12) (N := 63) hx hb hts w1 hown hK.1 hP 0 rfl rfl 58 (by decide) w0 (fun _ h9 => h9) rfl dX12_liesAs_59 ?_
      refine lv_iadd hx hb dX12_liesAs_62 ?_
      refine lv_topi (fun x47 e48 => ?_)
      try have h49 : x47.toInt = p2.toInt + v12_ownNumber.toInt := ci_add e48 (by omega) (by omega)
      have hpo : (0 ≤ x41.toInt ∧ x41.toInt ≤ 1000) ∧ (v12_ran.toInt ≤ x41.toInt ∧ x41.toInt ≤ v12_ran.toInt + 2) ∧ (x47 = liesP v12_ownNumber p1.toInt p2) ∧ (g42 = wrL f12_trace v12_ran.toInt (liesT p1.toInt)) ∧ (x41.toInt = v12_ran.toInt + (((liesT p1.toInt).length : Nat) : Int)) := ⟨h44, (by omega), (by unfold liesP; rw [if_neg (by omega), if_neg (by omega), e48]), (by unfold liesT; rw [if_neg (by omega), if_neg (by omega)]; exact hw1), (by unfold liesT; rw [if_neg (by omega), if_neg (by omega)]; exact hl1)⟩
      exact ret _ _ _ _ x47 (x41, g42) dX12_liesAs_63 hpo hP hD hS
    have c40 := ci_eq c40
    refine lv_aload_n hx hb dX12_liesAs_37 rfl (lv_at hl 0 rfl) ?_
    refine lv_bipush (v := 70) hx hb dX12_liesAs_38 (by decide) ?_
    refine kcm_v hA hAB hP hD hS [true, true] rfl (fun _ => rfl) (fun hPc hDc => va_runV (As := [.int 70]) (rest := []) ⟨hx, hb, hml, hown, hts⟩ (k_X12_begins l D κ β a12 r12 v12_keptMany v12_done v12_sheets v12_holes v12_worms v12_laidMany v12_wanted v12_orderMany v12_firstOrder v12_lines v12_marks v12_dots v12_madeIn v12_bound v12_places v12_maps v12_tapeMany v12_stories v12_base v12_at v12_ends v12_fault v12_opened v12_bodies v12_ran v12_ownKind v12_ownNumber f12_trace s.heap.size 70 i1 i2 i3 i4 i5 i6 i7 i8 i9 i10 i11 i12 i13 i14 i15 i16 i17 (by omega)) (cwV 1 hts gX12_liesAs_X12_begins rfl rfl rfl (by decide +kernel) ⟨Nat.le_of_ble_eq_true rfl, Nat.le_of_ble_eq_true rfl⟩) (pk_V hK hS hAB hPc hDc 0 (ci := 12) rfl rfl rfl) rfl rfl hl.1 rfl (lv_room (Nat.le_of_ble_eq_true rfl)) dX12_liesAs_40 ⟨Nat.le_of_ble_eq_true rfl, Nat.le_of_ble_eq_true rfl⟩) (fun u52 H locs hw hPD hS => ?_)
    obtain ⟨x50, g51⟩ := u52
    obtain ⟨h53, h54, h55⟩ : (0 ≤ x50.toInt ∧ x50.toInt ≤ 1000) ∧ (x50.toInt = v12_ran.toInt + 1) ∧ (g51 = wrL f12_trace v12_ran.toInt ([(70 : Int32).toInt])) := hw
    obtain ⟨hP, hD⟩ : PD D A [O12 a12 r12 v12_keptMany v12_done v12_sheets v12_holes v12_worms v12_laidMany v12_wanted v12_orderMany v12_firstOrder v12_lines v12_marks v12_dots v12_madeIn v12_bound v12_places v12_maps v12_tapeMany v12_stories v12_base v12_at v12_ends v12_fault v12_opened v12_bodies x50 v12_ownKind v12_ownNumber, (cI κ (r12 55) 24 g51)] H := hPD
    have hw1 : g51 = wrL f12_trace v12_ran.toInt ([(70 : Int32).toInt]) := by assumption
    have hl1 : x50.toInt = v12_ran.toInt + (((([(70 : Int32).toInt])).length : Nat) : Int) := by first | assumption | (show _ = _ + ((1 : Nat) : Int); omega)
    refine lv_aload_n hx hb dX12_liesAs_43 rfl (lv_at hl 0 rfl) ?_
    refine lv_iconst (v := 0) hx hb dX12_liesAs_44 (by decide) ?_
    refine lv_iload_n hx hb dX12_liesAs_45 rfl (lv_at hl 2 rfl) ?_
    refine kcm_i hA hAB hP hD hS [true, true] rfl (fun _ => rfl) (fun hPc hDc => va_runV (As := [.int 0, .int p2]) (rest := []) ⟨hx, hb, hml, hown, hts⟩ (k_X12_liesAs_0 l D κ β a12 r12 v12_keptMany v12_done v12_sheets v12_holes v12_worms v12_laidMany v12_wanted v12_orderMany v12_firstOrder v12_lines v12_marks v12_dots v12_madeIn v12_bound v12_places v12_maps v12_tapeMany v12_stories v12_base v12_at v12_ends v12_fault v12_opened v12_bodies x50 v12_ownKind v12_ownNumber g51 H.size 0 p2 i1 i2 i3 i4 i5 i6 i7 i8 i9 i10 i11 i12 i13 i14 i15 h53 i17 (by omega) (by omega)) (cwV 2 hts gX12_liesAs_X12_liesAs rfl rfl rfl (by decide +kernel) ⟨Nat.le_of_ble_eq_true rfl, Nat.le_of_ble_eq_true rfl⟩) (pk_V hK hS hAB hPc hDc 0 (ci := 12) rfl rfl rfl) rfl rfl hl.1 rfl (lv_room (Nat.le_of_ble_eq_true rfl)) dX12_liesAs_46 ⟨Nat.le_of_ble_eq_true rfl, Nat.le_of_ble_eq_true rfl⟩) (fun x58 u59 H locs hw hPD hS => ?_)
    obtain ⟨x56, g57⟩ := u59
    obtain ⟨h60, h61, h62, h63, h64⟩ : (0 ≤ x56.toInt ∧ x56.toInt ≤ 1000) ∧ (x50.toInt ≤ x56.toInt ∧ x56.toInt ≤ x50.toInt + 1) ∧ (x58 = p2 + v12_ownNumber) ∧ (g57 = wrL g51 x50.toInt ([1])) ∧ (x56.toInt = x50.toInt + ((([1]).length : Nat) : Int)) := hw
    obtain ⟨hP, hD⟩ : PD D A [O12 a12 r12 v12_keptMany v12_done v12_sheets v12_holes v12_worms v12_laidMany v12_wanted v12_orderMany v12_firstOrder v12_lines v12_marks v12_dots v12_madeIn v12_bound v12_places v12_maps v12_tapeMany v12_stories v12_base v12_at v12_ends v12_fault v12_opened v12_bodies x56 v12_ownKind v12_ownNumber, (cI κ (r12 55) 24 g57)] H := hPD
    have hq : x58 = p2 + v12_ownNumber := by assumption
    have hw2 : g57 = wrL f12_trace v12_ran.toInt (([(70 : Int32).toInt]) ++ ([1])) := by rw [wrL_app, ← hw1, ← hl1]; assumption
    have hl2 : x56.toInt = v12_ran.toInt + ((((([(70 : Int32).toInt]) ++ ([1]))).length : Nat) : Int) := by rw [List.length_append]; omega
    refine lv_iconst (v := 2) hx hb dX12_liesAs_49 (by decide) ?_
    refine lv_imul hx hb dX12_liesAs_50 ?_
    refine lv_topi (fun x65 e66 => ?_)
    try have h67 : x65.toInt = 2 * x58.toInt := ci_mulR (n := 2) (by decide) e66 (by omega) (by omega)
    have hpo : (0 ≤ x56.toInt ∧ x56.toInt ≤ 1000) ∧ (v12_ran.toInt ≤ x56.toInt ∧ x56.toInt ≤ v12_ran.toInt + 2) ∧ (x65 = liesP v12_ownNumber p1.toInt p2) ∧ (g57 = wrL f12_trace v12_ran.toInt (liesT p1.toInt)) ∧ (x56.toInt = v12_ran.toInt + (((liesT p1.toInt).length : Nat) : Int)) := ⟨h60, (by omega), (by unfold liesP; rw [if_neg (by omega), if_pos (by omega), e66, hq]), (by unfold liesT; rw [if_neg (by omega), if_pos (by omega)]; exact hw2), (by unfold liesT; rw [if_neg (by omega), if_pos (by omega)]; exact hl2)⟩
    exact ret _ _ _ _ x65 (x56, g57) dX12_liesAs_51 hpo hP hD hS
  have c20 := ci_eq c20
  refine lv_aload_n hx hb dX12_liesAs_10 rfl (lv_at hl 0 rfl) ?_
  refine lv_bipush (v := 20) hx hb dX12_liesAs_11 (by decide) ?_
  refine kcm_v hA hAB hP hD hS [true, true] rfl (fun _ => rfl) (fun hPc hDc => va_runV (As := [.int 20]) (rest := []) ⟨hx, hb, hml, hown, hts⟩ (k_X12_begins l D κ β a12 r12 v12_keptMany v12_done v12_sheets v12_holes v12_worms v12_laidMany v12_wanted v12_orderMany v12_firstOrder v12_lines v12_marks v12_dots v12_madeIn v12_bound v12_places v12_maps v12_tapeMany v12_stories v12_base v12_at v12_ends v12_fault v12_opened v12_bodies v12_ran v12_ownKind v12_ownNumber f12_trace s.heap.size 20 i1 i2 i3 i4 i5 i6 i7 i8 i9 i10 i11 i12 i13 i14 i15 i16 i17 (by omega)) (cwV 1 hts gX12_liesAs_X12_begins rfl rfl rfl (by decide +kernel) ⟨Nat.le_of_ble_eq_true rfl, Nat.le_of_ble_eq_true rfl⟩) (pk_V hK hS hAB hPc hDc 0 (ci := 12) rfl rfl rfl) rfl rfl hl.1 rfl (lv_room (Nat.le_of_ble_eq_true rfl)) dX12_liesAs_13 ⟨Nat.le_of_ble_eq_true rfl, Nat.le_of_ble_eq_true rfl⟩) (fun u70 H locs hw hPD hS => ?_)
  obtain ⟨x68, g69⟩ := u70
  obtain ⟨h71, h72, h73⟩ : (0 ≤ x68.toInt ∧ x68.toInt ≤ 1000) ∧ (x68.toInt = v12_ran.toInt + 1) ∧ (g69 = wrL f12_trace v12_ran.toInt ([(20 : Int32).toInt])) := hw
  obtain ⟨hP, hD⟩ : PD D A [O12 a12 r12 v12_keptMany v12_done v12_sheets v12_holes v12_worms v12_laidMany v12_wanted v12_orderMany v12_firstOrder v12_lines v12_marks v12_dots v12_madeIn v12_bound v12_places v12_maps v12_tapeMany v12_stories v12_base v12_at v12_ends v12_fault v12_opened v12_bodies x68 v12_ownKind v12_ownNumber, (cI κ (r12 55) 24 g69)] H := hPD
  have hw1 : g69 = wrL f12_trace v12_ran.toInt ([(20 : Int32).toInt]) := by assumption
  have hl1 : x68.toInt = v12_ran.toInt + (((([(20 : Int32).toInt])).length : Nat) : Int) := by first | assumption | (show _ = _ + ((1 : Nat) : Int); omega)
  refine lv_aload_n hx hb dX12_liesAs_16 rfl (lv_at hl 0 rfl) ?_
  refine lv_iconst (v := 0) hx hb dX12_liesAs_17 (by decide) ?_
  refine lv_iload_n hx hb dX12_liesAs_18 rfl (lv_at hl 2 rfl) ?_
  refine kcm_i hA hAB hP hD hS [true, true] rfl (fun _ => rfl) (fun hPc hDc => va_runV (As := [.int 0, .int p2]) (rest := []) ⟨hx, hb, hml, hown, hts⟩ (k_X12_liesAs_0 l D κ β a12 r12 v12_keptMany v12_done v12_sheets v12_holes v12_worms v12_laidMany v12_wanted v12_orderMany v12_firstOrder v12_lines v12_marks v12_dots v12_madeIn v12_bound v12_places v12_maps v12_tapeMany v12_stories v12_base v12_at v12_ends v12_fault v12_opened v12_bodies x68 v12_ownKind v12_ownNumber g69 H.size 0 p2 i1 i2 i3 i4 i5 i6 i7 i8 i9 i10 i11 i12 i13 i14 i15 h71 i17 (by omega) (by omega)) (cwV 2 hts gX12_liesAs_X12_liesAs rfl rfl rfl (by decide +kernel) ⟨Nat.le_of_ble_eq_true rfl, Nat.le_of_ble_eq_true rfl⟩) (pk_V hK hS hAB hPc hDc 0 (ci := 12) rfl rfl rfl) rfl rfl hl.1 rfl (lv_room (Nat.le_of_ble_eq_true rfl)) dX12_liesAs_19 ⟨Nat.le_of_ble_eq_true rfl, Nat.le_of_ble_eq_true rfl⟩) (fun x76 u77 H locs hw hPD hS => ?_)
  obtain ⟨x74, g75⟩ := u77
  obtain ⟨h78, h79, h80, h81, h82⟩ : (0 ≤ x74.toInt ∧ x74.toInt ≤ 1000) ∧ (x68.toInt ≤ x74.toInt ∧ x74.toInt ≤ x68.toInt + 1) ∧ (x76 = p2 + v12_ownNumber) ∧ (g75 = wrL g69 x68.toInt ([1])) ∧ (x74.toInt = x68.toInt + ((([1]).length : Nat) : Int)) := hw
  obtain ⟨hP, hD⟩ : PD D A [O12 a12 r12 v12_keptMany v12_done v12_sheets v12_holes v12_worms v12_laidMany v12_wanted v12_orderMany v12_firstOrder v12_lines v12_marks v12_dots v12_madeIn v12_bound v12_places v12_maps v12_tapeMany v12_stories v12_base v12_at v12_ends v12_fault v12_opened v12_bodies x74 v12_ownKind v12_ownNumber, (cI κ (r12 55) 24 g75)] H := hPD
  have hq : x76 = p2 + v12_ownNumber := by assumption
  have hw2 : g75 = wrL f12_trace v12_ran.toInt (([(20 : Int32).toInt]) ++ ([1])) := by rw [wrL_app, ← hw1, ← hl1]; assumption
  have hl2 : x74.toInt = v12_ran.toInt + ((((([(20 : Int32).toInt]) ++ ([1]))).length : Nat) : Int) := by rw [List.length_append]; omega
  refine lv_iconst (v := 3) hx hb dX12_liesAs_22 (by decide) ?_
  refine lv_iadd hx hb dX12_liesAs_23 ?_
  refine lv_topi (fun x83 e84 => ?_)
  try have h85 : x83.toInt = x76.toInt + (3 : Int32).toInt := ci_add e84 (by omega) (by omega)
  have hpo : (0 ≤ x74.toInt ∧ x74.toInt ≤ 1000) ∧ (v12_ran.toInt ≤ x74.toInt ∧ x74.toInt ≤ v12_ran.toInt + 2) ∧ (x83 = liesP v12_ownNumber p1.toInt p2) ∧ (g75 = wrL f12_trace v12_ran.toInt (liesT p1.toInt)) ∧ (x74.toInt = v12_ran.toInt + (((liesT p1.toInt).length : Nat) : Int)) := ⟨h78, (by omega), (by unfold liesP; rw [if_pos (by omega), e84, hq]), (by unfold liesT; rw [if_pos (by omega)]; exact hw2), (by unfold liesT; rw [if_pos (by omega)]; exact hl2)⟩
  exact ret _ _ _ _ x83 (x74, g75) dX12_liesAs_24 hpo hP hD hS
set_option maxHeartbeats 4000000 in
set_option maxRecDepth 100000 in
theorem k_X12_showsAs_0 (l : Launch) (D : va_G) (κ : Nat → ClassId) (β : Nat) (a12 : Nat) (r12 : Nat → Nat) (v12_keptMany : Int32) (v12_done : Int32) (v12_sheets : Int32) (v12_holes : Int32) (v12_worms : Int32) (v12_laidMany : Int32) (v12_wanted : Int32) (v12_orderMany : Int32) (v12_firstOrder : Int32) (v12_lines : Int32) (v12_marks : Int32) (v12_dots : Int32) (v12_madeIn : Int32) (v12_bound : Int32) (v12_places : Int32) (v12_maps : Int32) (v12_tapeMany : Int32) (v12_stories : Int32) (v12_base : Int32) (v12_at : Int32) (v12_ends : Int32) (v12_fault : Int32) (v12_opened : Int32) (v12_bodies : Int32) (v12_ran : Int32) (v12_ownKind : Int32) (v12_ownNumber : Int32) (f12_trace : Nat → Int32) (sz : Nat) (p1 : Int32) (p2 : Int32) (i1 : Rg 0 40 v12_keptMany) (i2 : Rg 0 40 v12_done) (i3 : Rg 0 8 v12_sheets) (i4 : Rg 0 40 v12_holes) (i5 : Rg 0 40 v12_worms) (i6 : Rg 0 8 v12_laidMany) (i7 : Rg 0 8 v12_wanted) (i8 : Rg 0 20 v12_lines) (i9 : Rg 0 60 v12_marks) (i10 : Rg 0 40 v12_dots) (i11 : Rg 0 20 v12_places) (i12 : Rg 0 8 v12_maps) (i13 : Rg 0 120 v12_tapeMany) (i14 : Rg 0 6 v12_stories) (i15 : Rg 0 50 v12_bodies) (i16 : Rg 0 1000 v12_ran) (i17 : v12_done.toInt ≤ v12_keptMany.toInt) (i18 : p1.toInt = 0 ∨ p1.toInt = 1) (i19 : v12_ran.toInt ≤ 890) : Met l yX12_showsAs wsX12_showsAs ({ frames := 1, cells := 0, slots := 0, locals := 21 } : Room) (PcK D κ β [O12 a12 r12 v12_keptMany v12_done v12_sheets v12_holes v12_worms v12_laidMany v12_wanted v12_orderMany v12_firstOrder v12_lines v12_marks v12_dots v12_madeIn v12_bound v12_places v12_maps v12_tapeMany v12_stories v12_base v12_at v12_ends v12_fault v12_opened v12_bodies v12_ran v12_ownKind v12_ownNumber, (cI κ (r12 55) 24 f12_trace)] sz [.ref a12, .int p1, .int p2]) (QiK D (fun (r : Int32) (u : Int32 × (Nat → Int32)) => (0 ≤ u.1.toInt ∧ u.1.toInt ≤ 1000) ∧ (v12_ran.toInt ≤ u.1.toInt ∧ u.1.toInt ≤ v12_ran.toInt + 1) ∧ (r = p2 ^^^ v12_ownNumber) ∧ (u.2 = wrL f12_trace v12_ran.toInt ([11])) ∧ (u.1.toInt = v12_ran.toInt + ((([11]).length : Nat) : Int))) (fun (u : Int32 × (Nat → Int32)) => [O12 a12 r12 v12_keptMany v12_done v12_sheets v12_holes v12_worms v12_laidMany v12_wanted v12_orderMany v12_firstOrder v12_lines v12_marks v12_dots v12_madeIn v12_bound v12_places v12_maps v12_tapeMany v12_stories v12_base v12_at v12_ends v12_fault v12_opened v12_bodies u.1 v12_ownKind v12_ownNumber, (cI κ (r12 55) 24 u.2)]) [O12 a12 r12 v12_keptMany v12_done v12_sheets v12_holes v12_worms v12_laidMany v12_wanted v12_orderMany v12_firstOrder v12_lines v12_marks v12_dots v12_madeIn v12_bound v12_places v12_maps v12_tapeMany v12_stories v12_base v12_at v12_ends v12_fault v12_opened v12_bodies v12_ran v12_ownKind v12_ownNumber, (cI κ (r12 55) 24 f12_trace)] sz) 0 0 (va_A [O12 a12 r12 v12_keptMany v12_done v12_sheets v12_holes v12_worms v12_laidMany v12_wanted v12_orderMany v12_firstOrder v12_lines v12_marks v12_dots v12_madeIn v12_bound v12_places v12_maps v12_tapeMany v12_stories v12_base v12_at v12_ends v12_fault v12_opened v12_bodies v12_ran v12_ownKind v12_ownNumber, (cI κ (r12 55) 24 f12_trace)] sz) := by
  refine ofK_i (cc := cX12_showsAs) (maxL := 4) (own := RX12) (by decide) rfl rfl (Nat.le_of_ble_eq_true rfl) ?_
  intro p e s m args below meth c Q A ls hsz hx hb hml hts hown hK hA hAB hP hD hl ret
  have hS : va_S A s.heap s.heap [] := va_S.rf
  have hl : lv_has ls 4 [(0, .ref a12), (1, .int p1), (2, .int p2)] := hl
  have w0 := hts (.fieldLink RX12 392 "OlderSkinModel" "ownNumber" "I") (List.mem_of_getElem? (i := 2) rfl)
  have w1 := (fun w h => List.mem_cons_of_mem _ (List.mem_append_right _ h) : ∀ w ∈ u_ws RX12 TX12 63, w ∈ wsX12_showsAs)
  have l0 : (3 : Int32).toInt = 3 := by decide
  have l1 : (0 : Int32).toInt = 0 := by decide
  have l2 : (5 : Int32).toInt = 5 := by decide
  have l3 : (11 : Int32).toInt = 11 := by decide
  have i16 : 0 ≤ v12_ran.toInt ∧ v12_ran.toInt ≤ 1000 := i16
  refine lv_iload_n hx hb dX12_showsAs_0 rfl (lv_at hl 1 rfl) ?_
  refine lv_iconst (v := 3) hx hb dX12_showsAs_1 (by decide) ?_
  refine lv_icmp_ne (tgt := 20) hx hb dX12_showsAs_2 (by decide) (fun c1 => ?_) (fun c1 => ?_)
  · have c1 := ci_ne c1
    refine lv_iload_n hx hb dX12_showsAs_20 rfl (lv_at hl 1 rfl) ?_
    refine lv_iconst (v := 5) hx hb dX12_showsAs_21 (by decide) ?_
    refine lv_icmp_ne (tgt := 50) hx hb dX12_showsAs_22 (by decide) (fun c2 => ?_) (fun c2 => ?_)
    · have c2 := ci_ne c2
      refine lv_aload_n hx hb dX12_showsAs_50 rfl (lv_at hl 0 rfl) ?_
      refine lv_bipush (v := 11) hx hb dX12_showsAs_51 (by decide) ?_
      refine kcm_v hA hAB hP hD hS [true, true] rfl (fun _ => rfl) (fun hPc hDc => va_runV (As := [.int 11]) (rest := []) ⟨hx, hb, hml, hown, hts⟩ (k_X12_begins l D κ β a12 r12 v12_keptMany v12_done v12_sheets v12_holes v12_worms v12_laidMany v12_wanted v12_orderMany v12_firstOrder v12_lines v12_marks v12_dots v12_madeIn v12_bound v12_places v12_maps v12_tapeMany v12_stories v12_base v12_at v12_ends v12_fault v12_opened v12_bodies v12_ran v12_ownKind v12_ownNumber f12_trace s.heap.size 11 i1 i2 i3 i4 i5 i6 i7 i8 i9 i10 i11 i12 i13 i14 i15 i16 i17 (by omega)) (cwV 1 hts gX12_showsAs_X12_begins rfl rfl rfl (by decide +kernel) ⟨Nat.le_of_ble_eq_true rfl, Nat.le_of_ble_eq_true rfl⟩) (pk_V hK hS hAB hPc hDc 0 (ci := 12) rfl rfl rfl) rfl rfl hl.1 rfl (lv_room (Nat.le_of_ble_eq_true rfl)) dX12_showsAs_53 ⟨Nat.le_of_ble_eq_true rfl, Nat.le_of_ble_eq_true rfl⟩) (fun u5 H locs hw hPD hS => ?_)
      obtain ⟨x3, g4⟩ := u5
      obtain ⟨h6, h7, h8⟩ : (0 ≤ x3.toInt ∧ x3.toInt ≤ 1000) ∧ (x3.toInt = v12_ran.toInt + 1) ∧ (g4 = wrL f12_trace v12_ran.toInt ([(11 : Int32).toInt])) := hw
      obtain ⟨hP, hD⟩ : PD D A [O12 a12 r12 v12_keptMany v12_done v12_sheets v12_holes v12_worms v12_laidMany v12_wanted v12_orderMany v12_firstOrder v12_lines v12_marks v12_dots v12_madeIn v12_bound v12_places v12_maps v12_tapeMany v12_stories v12_base v12_at v12_ends v12_fault v12_opened v12_bodies x3 v12_ownKind v12_ownNumber, (cI κ (r12 55) 24 g4)] H := hPD
      have hw1 : g4 = wrL f12_trace v12_ran.toInt ([(11 : Int32).toInt]) := by assumption
      have hl1 : x3.toInt = v12_ran.toInt + (((([(11 : Int32).toInt])).length : Nat) : Int) := by first | assumption | (show _ = _ + ((1 : Nat) : Int); omega)
      refine lv_iload_n hx hb dX12_showsAs_56 rfl (lv_at hl 2 rfl) ?_
      refine lv_aload_n hx hb dX12_showsAs_57 rfl (lv_at hl 0 rfl) ?_
      refine va_get (D := D) (ci := 12) (v := .int v12_ownNumber) (C := RX12) (T := TX12) (N := 63) hx hb hts w1 hown hK.1 hP 0 rfl rfl 58 (by decide) w0 (fun _ h9 => h9) rfl dX12_showsAs_58 ?_
      refine lv_ixor hx hb dX12_showsAs_61 ?_
      refine lv_topi (fun x9 e10 => ?_)
      have hpo : (0 ≤ x3.toInt ∧ x3.toInt ≤ 1000) ∧ (v12_ran.toInt ≤ x3.toInt ∧ x3.toInt ≤ v12_ran.toInt + 1) ∧ (x9 = p2 ^^^ v12_ownNumber) ∧ (g4 = wrL f12_trace v12_ran.toInt ([11])) ∧ (x3.toInt = v12_ran.toInt + ((([11]).length : Nat) : Int)) := ⟨h6, (by omega), e10, (by exact hw1), (by exact hl1)⟩
      exact ret _ _ _ _ x9 (x3, g4) dX12_showsAs_62 hpo hP hD hS
    have c2 := ci_eq c2
    exfalso
    omega
  have c1 := ci_eq c1
  exfalso
  omega
set_option maxHeartbeats 4000000 in
set_option maxRecDepth 100000 in
theorem k_X12_showsAs (l : Launch) (D : va_G) (κ : Nat → ClassId) (β : Nat) (a12 : Nat) (r12 : Nat → Nat) (v12_keptMany : Int32) (v12_done : Int32) (v12_sheets : Int32) (v12_holes : Int32) (v12_worms : Int32) (v12_laidMany : Int32) (v12_wanted : Int32) (v12_orderMany : Int32) (v12_firstOrder : Int32) (v12_lines : Int32) (v12_marks : Int32) (v12_dots : Int32) (v12_madeIn : Int32) (v12_bound : Int32) (v12_places : Int32) (v12_maps : Int32) (v12_tapeMany : Int32) (v12_stories : Int32) (v12_base : Int32) (v12_at : Int32) (v12_ends : Int32) (v12_fault : Int32) (v12_opened : Int32) (v12_bodies : Int32) (v12_ran : Int32) (v12_ownKind : Int32) (v12_ownNumber : Int32) (f12_trace : Nat → Int32) (sz : Nat) (p1 : Int32) (p2 : Int32) (i1 : Rg 0 40 v12_keptMany) (i2 : Rg 0 40 v12_done) (i3 : Rg 0 8 v12_sheets) (i4 : Rg 0 40 v12_holes) (i5 : Rg 0 40 v12_worms) (i6 : Rg 0 8 v12_laidMany) (i7 : Rg 0 8 v12_wanted) (i8 : Rg 0 20 v12_lines) (i9 : Rg 0 60 v12_marks) (i10 : Rg 0 40 v12_dots) (i11 : Rg 0 20 v12_places) (i12 : Rg 0 8 v12_maps) (i13 : Rg 0 120 v12_tapeMany) (i14 : Rg 0 6 v12_stories) (i15 : Rg 0 50 v12_bodies) (i16 : Rg 0 1000 v12_ran) (i17 : v12_done.toInt ≤ v12_keptMany.toInt) (i18 : v12_ran.toInt ≤ 880) : Met l yX12_showsAs wsX12_showsAs ({ frames := 3, cells := 0, slots := 0, locals := 65 } : Room) (PcK D κ β [O12 a12 r12 v12_keptMany v12_done v12_sheets v12_holes v12_worms v12_laidMany v12_wanted v12_orderMany v12_firstOrder v12_lines v12_marks v12_dots v12_madeIn v12_bound v12_places v12_maps v12_tapeMany v12_stories v12_base v12_at v12_ends v12_fault v12_opened v12_bodies v12_ran v12_ownKind v12_ownNumber, (cI κ (r12 55) 24 f12_trace)] sz [.ref a12, .int p1, .int p2]) (QiK D (fun (r : Int32) (u : Int32 × (Nat → Int32)) => (0 ≤ u.1.toInt ∧ u.1.toInt ≤ 1000) ∧ (v12_ran.toInt ≤ u.1.toInt ∧ u.1.toInt ≤ v12_ran.toInt + 4) ∧ (r = showsP v12_ownNumber v12_ownKind.toInt p1.toInt p2) ∧ (u.2 = wrL f12_trace v12_ran.toInt (showsT v12_ownKind.toInt p1.toInt)) ∧ (u.1.toInt = v12_ran.toInt + (((showsT v12_ownKind.toInt p1.toInt).length : Nat) : Int))) (fun (u : Int32 × (Nat → Int32)) => [O12 a12 r12 v12_keptMany v12_done v12_sheets v12_holes v12_worms v12_laidMany v12_wanted v12_orderMany v12_firstOrder v12_lines v12_marks v12_dots v12_madeIn v12_bound v12_places v12_maps v12_tapeMany v12_stories v12_base v12_at v12_ends v12_fault v12_opened v12_bodies u.1 v12_ownKind v12_ownNumber, (cI κ (r12 55) 24 u.2)]) [O12 a12 r12 v12_keptMany v12_done v12_sheets v12_holes v12_worms v12_laidMany v12_wanted v12_orderMany v12_firstOrder v12_lines v12_marks v12_dots v12_madeIn v12_bound v12_places v12_maps v12_tapeMany v12_stories v12_base v12_at v12_ends v12_fault v12_opened v12_bodies v12_ran v12_ownKind v12_ownNumber, (cI κ (r12 55) 24 f12_trace)] sz) 0 0 (va_A [O12 a12 r12 v12_keptMany v12_done v12_sheets v12_holes v12_worms v12_laidMany v12_wanted v12_orderMany v12_firstOrder v12_lines v12_marks v12_dots v12_madeIn v12_bound v12_places v12_maps v12_tapeMany v12_stories v12_base v12_at v12_ends v12_fault v12_opened v12_bodies v12_ran v12_ownKind v12_ownNumber, (cI κ (r12 55) 24 f12_trace)] sz) := by
  refine ofK_i (cc := cX12_showsAs) (maxL := 4) (own := RX12) (by decide) rfl rfl (Nat.le_of_ble_eq_true rfl) ?_
  intro p e s m args below meth c Q A ls hsz hx hb hml hts hown hK hA hAB hP hD hl ret
  have hS : va_S A s.heap s.heap [] := va_S.rf
  have hl : lv_has ls 4 [(0, .ref a12), (1, .int p1), (2, .int p2)] := hl
  have w0 := hts (.fieldLink RX12 392 "OlderSkinModel" "ownNumber" "I") (List.mem_of_getElem? (i := 2) rfl)
  have w1 := (fun w h => List.mem_cons_of_mem _ (List.mem_append_right _ h) : ∀ w ∈ u_ws RX12 TX12 63, w ∈ wsX12_showsAs)
  have w2 := hts (.fieldLink RX12 398 "OlderSkinModel" "ownKind" "I") (List.mem_of_getElem? (i := 1) rfl)
  have l0 : (3 : Int32).toInt = 3 := by decide
  have l1 : (0 : Int32).toInt = 0 := by decide
  have l2 : (5 : Int32).toInt = 5 := by decide
  have l3 : (11 : Int32).toInt = 11 := by decide
  have l4 : (60 : Int32).toInt = 60 := by decide
  have l5 : (2 : Int32).toInt = 2 := by decide
  have l6 : (40 : Int32).toInt = 40 := by decide
  have l7 : (1 : Int32).toInt = 1 := by decide
  have i16 : 0 ≤ v12_ran.toInt ∧ v12_ran.toInt ≤ 1000 := i16
  refine lv_iload_n hx hb dX12_showsAs_0 rfl (lv_at hl 1 rfl) ?_
  refine lv_iconst (v := 3) hx hb dX12_showsAs_1 (by decide) ?_
  refine lv_icmp_ne (tgt := 20) hx hb dX12_showsAs_2 (by decide) (fun c1 => ?_) (fun c1 => ?_)
  · have c1 := ci_ne c1
    refine lv_iload_n hx hb dX12_showsAs_20 rfl (lv_at hl 1 rfl) ?_
    refine lv_iconst (v := 5) hx hb dX12_showsAs_21 (by decide) ?_
    refine lv_icmp_ne (tgt := 50) hx hb dX12_showsAs_22 (by decide) (fun c2 => ?_) (fun c2 => ?_)
    · have c2 := ci_ne c2
      refine lv_aload_n hx hb dX12_showsAs_50 rfl (lv_at hl 0 rfl) ?_
      refine lv_bipush (v := 11) hx hb dX12_showsAs_51 (by decide) ?_
      refine kcm_v hA hAB hP hD hS [true, true] rfl (fun _ => rfl) (fun hPc hDc => va_runV (As := [.int 11]) (rest := []) ⟨hx, hb, hml, hown, hts⟩ (k_X12_begins l D κ β a12 r12 v12_keptMany v12_done v12_sheets v12_holes v12_worms v12_laidMany v12_wanted v12_orderMany v12_firstOrder v12_lines v12_marks v12_dots v12_madeIn v12_bound v12_places v12_maps v12_tapeMany v12_stories v12_base v12_at v12_ends v12_fault v12_opened v12_bodies v12_ran v12_ownKind v12_ownNumber f12_trace s.heap.size 11 i1 i2 i3 i4 i5 i6 i7 i8 i9 i10 i11 i12 i13 i14 i15 i16 i17 (by omega)) (cwV 1 hts gX12_showsAs_X12_begins rfl rfl rfl (by decide +kernel) ⟨Nat.le_of_ble_eq_true rfl, Nat.le_of_ble_eq_true rfl⟩) (pk_V hK hS hAB hPc hDc 0 (ci := 12) rfl rfl rfl) rfl rfl hl.1 rfl (lv_room (Nat.le_of_ble_eq_true rfl)) dX12_showsAs_53 ⟨Nat.le_of_ble_eq_true rfl, Nat.le_of_ble_eq_true rfl⟩) (fun u5 H locs hw hPD hS => ?_)
      obtain ⟨x3, g4⟩ := u5
      obtain ⟨h6, h7, h8⟩ : (0 ≤ x3.toInt ∧ x3.toInt ≤ 1000) ∧ (x3.toInt = v12_ran.toInt + 1) ∧ (g4 = wrL f12_trace v12_ran.toInt ([(11 : Int32).toInt])) := hw
      obtain ⟨hP, hD⟩ : PD D A [O12 a12 r12 v12_keptMany v12_done v12_sheets v12_holes v12_worms v12_laidMany v12_wanted v12_orderMany v12_firstOrder v12_lines v12_marks v12_dots v12_madeIn v12_bound v12_places v12_maps v12_tapeMany v12_stories v12_base v12_at v12_ends v12_fault v12_opened v12_bodies x3 v12_ownKind v12_ownNumber, (cI κ (r12 55) 24 g4)] H := hPD
      have hw1 : g4 = wrL f12_trace v12_ran.toInt ([(11 : Int32).toInt]) := by assumption
      have hl1 : x3.toInt = v12_ran.toInt + (((([(11 : Int32).toInt])).length : Nat) : Int) := by first | assumption | (show _ = _ + ((1 : Nat) : Int); omega)
      refine lv_iload_n hx hb dX12_showsAs_56 rfl (lv_at hl 2 rfl) ?_
      refine lv_aload_n hx hb dX12_showsAs_57 rfl (lv_at hl 0 rfl) ?_
      refine va_get (D := D) (ci := 12) (v := .int v12_ownNumber) (C := RX12) (T := TX12) (N := 63) hx hb hts w1 hown hK.1 hP 0 rfl rfl 58 (by decide) w0 (fun _ h9 => h9) rfl dX12_showsAs_58 ?_
      refine lv_ixor hx hb dX12_showsAs_61 ?_
      refine lv_topi (fun x9 e10 => ?_)
      have hpo : (0 ≤ x3.toInt ∧ x3.toInt ≤ 1000) ∧ (v12_ran.toInt ≤ x3.toInt ∧ x3.toInt ≤ v12_ran.toInt + 4) ∧ (x9 = showsP v12_ownNumber v12_ownKind.toInt p1.toInt p2) ∧ (g4 = wrL f12_trace v12_ran.toInt (showsT v12_ownKind.toInt p1.toInt)) ∧ (x3.toInt = v12_ran.toInt + (((showsT v12_ownKind.toInt p1.toInt).length : Nat) : Int)) := ⟨h6, (by omega), (by unfold showsP; rw [if_neg (by omega), if_neg (by omega), e10]), (by unfold showsT; rw [if_neg (by omega), if_neg (by omega)]; exact hw1), (by unfold showsT; rw [if_neg (by omega), if_neg (by omega)]; exact hl1)⟩
      exact ret _ _ _ _ x9 (x3, g4) dX12_showsAs_62 hpo hP hD hS
    have c2 := ci_eq c2
    refine lv_aload_n hx hb dX12_showsAs_25 rfl (lv_at hl 0 rfl) ?_
    refine lv_bipush (v := 60) hx hb dX12_showsAs_26 (by decide) ?_
    refine kcm_v hA hAB hP hD hS [true, true] rfl (fun _ => rfl) (fun hPc hDc => va_runV (As := [.int 60]) (rest := []) ⟨hx, hb, hml, hown, hts⟩ (k_X12_begins l D κ β a12 r12 v12_keptMany v12_done v12_sheets v12_holes v12_worms v12_laidMany v12_wanted v12_orderMany v12_firstOrder v12_lines v12_marks v12_dots v12_madeIn v12_bound v12_places v12_maps v12_tapeMany v12_stories v12_base v12_at v12_ends v12_fault v12_opened v12_bodies v12_ran v12_ownKind v12_ownNumber f12_trace s.heap.size 60 i1 i2 i3 i4 i5 i6 i7 i8 i9 i10 i11 i12 i13 i14 i15 i16 i17 (by omega)) (cwV 1 hts gX12_showsAs_X12_begins rfl rfl rfl (by decide +kernel) ⟨Nat.le_of_ble_eq_true rfl, Nat.le_of_ble_eq_true rfl⟩) (pk_V hK hS hAB hPc hDc 0 (ci := 12) rfl rfl rfl) rfl rfl hl.1 rfl (lv_room (Nat.le_of_ble_eq_true rfl)) dX12_showsAs_28 ⟨Nat.le_of_ble_eq_true rfl, Nat.le_of_ble_eq_true rfl⟩) (fun u13 H locs hw hPD hS => ?_)
    obtain ⟨x11, g12⟩ := u13
    obtain ⟨h14, h15, h16⟩ : (0 ≤ x11.toInt ∧ x11.toInt ≤ 1000) ∧ (x11.toInt = v12_ran.toInt + 1) ∧ (g12 = wrL f12_trace v12_ran.toInt ([(60 : Int32).toInt])) := hw
    obtain ⟨hP, hD⟩ : PD D A [O12 a12 r12 v12_keptMany v12_done v12_sheets v12_holes v12_worms v12_laidMany v12_wanted v12_orderMany v12_firstOrder v12_lines v12_marks v12_dots v12_madeIn v12_bound v12_places v12_maps v12_tapeMany v12_stories v12_base v12_at v12_ends v12_fault v12_opened v12_bodies x11 v12_ownKind v12_ownNumber, (cI κ (r12 55) 24 g12)] H := hPD
    have hw1 : g12 = wrL f12_trace v12_ran.toInt ([(60 : Int32).toInt]) := by assumption
    have hl1 : x11.toInt = v12_ran.toInt + (((([(60 : Int32).toInt])).length : Nat) : Int) := by first | assumption | (show _ = _ + ((1 : Nat) : Int); omega)
    refine lv_aload_n hx hb dX12_showsAs_31 rfl (lv_at hl 0 rfl) ?_
    refine lv_iconst (v := 0) hx hb dX12_showsAs_32 (by decide) ?_
    refine lv_iload_n hx hb dX12_showsAs_33 rfl (lv_at hl 2 rfl) ?_
    refine kcm_i hA hAB hP hD hS [true, true] rfl (fun _ => rfl) (fun hPc hDc => va_runV (As := [.int 0, .int p2]) (rest := []) ⟨hx, hb, hml, hown, hts⟩ (k_X12_showsAs_0 l D κ β a12 r12 v12_keptMany v12_done v12_sheets v12_holes v12_worms v12_laidMany v12_wanted v12_orderMany v12_firstOrder v12_lines v12_marks v12_dots v12_madeIn v12_bound v12_places v12_maps v12_tapeMany v12_stories v12_base v12_at v12_ends v12_fault v12_opened v12_bodies x11 v12_ownKind v12_ownNumber g12 H.size 0 p2 i1 i2 i3 i4 i5 i6 i7 i8 i9 i10 i11 i12 i13 i14 i15 h14 i17 (by omega) (by omega)) (cwV 2 hts gX12_showsAs_X12_showsAs rfl rfl rfl (by decide +kernel) ⟨Nat.le_of_ble_eq_true rfl, Nat.le_of_ble_eq_true rfl⟩) (pk_V hK hS hAB hPc hDc 0 (ci := 12) rfl rfl rfl) rfl rfl hl.1 rfl (lv_room (Nat.le_of_ble_eq_true rfl)) dX12_showsAs_34 ⟨Nat.le_of_ble_eq_true rfl, Nat.le_of_ble_eq_true rfl⟩) (fun x19 u20 H locs hw hPD hS => ?_)
    obtain ⟨x17, g18⟩ := u20
    obtain ⟨h21, h22, h23, h24, h25⟩ : (0 ≤ x17.toInt ∧ x17.toInt ≤ 1000) ∧ (x11.toInt ≤ x17.toInt ∧ x17.toInt ≤ x11.toInt + 1) ∧ (x19 = p2 ^^^ v12_ownNumber) ∧ (g18 = wrL g12 x11.toInt ([11])) ∧ (x17.toInt = x11.toInt + ((([11]).length : Nat) : Int)) := hw
    obtain ⟨hP, hD⟩ : PD D A [O12 a12 r12 v12_keptMany v12_done v12_sheets v12_holes v12_worms v12_laidMany v12_wanted v12_orderMany v12_firstOrder v12_lines v12_marks v12_dots v12_madeIn v12_bound v12_places v12_maps v12_tapeMany v12_stories v12_base v12_at v12_ends v12_fault v12_opened v12_bodies x17 v12_ownKind v12_ownNumber, (cI κ (r12 55) 24 g18)] H := hPD
    have hq : x19 = p2 ^^^ v12_ownNumber := by assumption
    have hw2 : g18 = wrL f12_trace v12_ran.toInt (([(60 : Int32).toInt]) ++ ([11])) := by rw [wrL_app, ← hw1, ← hl1]; assumption
    have hl2 : x17.toInt = v12_ran.toInt + ((((([(60 : Int32).toInt]) ++ ([11]))).length : Nat) : Int) := by rw [List.length_append]; omega
    refine lv_istore_n (lv' := [(3, .int x19), (0, .ref a12), (1, .int p1), (2, .int p2)]) hx hb dX12_showsAs_37 rfl hl (by decide) rfl (fun ls hl => ?_)
    refine lv_iload_n hx hb dX12_showsAs_38 rfl (lv_at hl 0 rfl) ?_
    refine lv_aload_n hx hb dX12_showsAs_39 rfl (lv_at hl 1 rfl) ?_
    refine lv_aload_n hx hb dX12_showsAs_40 rfl (lv_at hl 1 rfl) ?_
    refine va_get (D := D) (ci := 12) (v := .int v12_ownKind) (C := RX12) (T := TX12) (N := 63) hx hb hts w1 hown hK.1 hP 0 rfl rfl 57 (by decide) w2 (fun _ h9 => h9) rfl dX12_showsAs_41 ?_
    refine lv_iconst (v := 2) hx hb dX12_showsAs_44 (by decide) ?_
    refine kcm_i hA hAB hP hD hS [true, true] rfl (fun _ => rfl) (fun hPc hDc => va_runV (As := [.int v12_ownKind, .int 2]) (rest := [.int x19]) ⟨hx, hb, hml, hown, hts⟩ (k_X12_liesAs l D κ β a12 r12 v12_keptMany v12_done v12_sheets v12_holes v12_worms v12_laidMany v12_wanted v12_orderMany v12_firstOrder v12_lines v12_marks v12_dots v12_madeIn v12_bound v12_places v12_maps v12_tapeMany v12_stories v12_base v12_at v12_ends v12_fault v12_opened v12_bodies x17 v12_ownKind v12_ownNumber g18 H.size v12_ownKind 2 i1 i2 i3 i4 i5 i6 i7 i8 i9 i10 i11 i12 i13 i14 i15 h21 i17 (by omega)) (cwV 2 hts gX12_showsAs_X12_liesAs rfl rfl rfl (by decide +kernel) ⟨Nat.le_of_ble_eq_true rfl, Nat.le_of_ble_eq_true rfl⟩) (pk_V hK hS hAB hPc hDc 0 (ci := 12) rfl rfl rfl) rfl rfl hl.1 rfl (lv_room (Nat.le_of_ble_eq_true rfl)) dX12_showsAs_45 ⟨Nat.le_of_ble_eq_true rfl, Nat.le_of_ble_eq_true rfl⟩) (fun x28 u29 H locs hw hPD hS => ?_)
    obtain ⟨x26, g27⟩ := u29
    obtain ⟨h30, h31, h32, h33, h34⟩ : (0 ≤ x26.toInt ∧ x26.toInt ≤ 1000) ∧ (x17.toInt ≤ x26.toInt ∧ x26.toInt ≤ x17.toInt + 2) ∧ (x28 = liesP v12_ownNumber v12_ownKind.toInt (2 : Int32)) ∧ (g27 = wrL g18 x17.toInt (liesT v12_ownKind.toInt)) ∧ (x26.toInt = x17.toInt + (((liesT v12_ownKind.toInt).length : Nat) : Int)) := hw
    obtain ⟨hP, hD⟩ : PD D A [O12 a12 r12 v12_keptMany v12_done v12_sheets v12_holes v12_worms v12_laidMany v12_wanted v12_orderMany v12_firstOrder v12_lines v12_marks v12_dots v12_madeIn v12_bound v12_places v12_maps v12_tapeMany v12_stories v12_base v12_at v12_ends v12_fault v12_opened v12_bodies x26 v12_ownKind v12_ownNumber, (cI κ (r12 55) 24 g27)] H := hPD
    have hq2 : x28 = liesP v12_ownNumber v12_ownKind.toInt (2 : Int32) := by assumption
    have hw3 : g27 = wrL f12_trace v12_ran.toInt (([(60 : Int32).toInt] ++ [11]) ++ (liesT v12_ownKind.toInt)) := by rw [wrL_app, ← hw2, ← hl2]; assumption
    have hl3 : x26.toInt = v12_ran.toInt + ((((([(60 : Int32).toInt] ++ [11]) ++ (liesT v12_ownKind.toInt))).length : Nat) : Int) := by rw [List.length_append]; omega
    refine lv_isub hx hb dX12_showsAs_48 ?_
    refine lv_topi (fun x35 e36 => ?_)
    try have h37 : x35.toInt = x19.toInt - x28.toInt := ci_sub e36 (by omega) (by omega)
    have hpo : (0 ≤ x26.toInt ∧ x26.toInt ≤ 1000) ∧ (v12_ran.toInt ≤ x26.toInt ∧ x26.toInt ≤ v12_ran.toInt + 4) ∧ (x35 = showsP v12_ownNumber v12_ownKind.toInt p1.toInt p2) ∧ (g27 = wrL f12_trace v12_ran.toInt (showsT v12_ownKind.toInt p1.toInt)) ∧ (x26.toInt = v12_ran.toInt + (((showsT v12_ownKind.toInt p1.toInt).length : Nat) : Int)) := ⟨h30, (by omega), (by unfold showsP; rw [if_neg (by omega), if_pos (by omega), e36, hq, hq2]), (by unfold showsT; rw [if_neg (by omega), if_pos (by omega)]; exact hw3), (by unfold showsT; rw [if_neg (by omega), if_pos (by omega)]; exact hl3)⟩
    exact ret _ _ _ _ x35 (x26, g27) dX12_showsAs_49 hpo hP hD hS
  have c1 := ci_eq c1
  refine lv_aload_n hx hb dX12_showsAs_5 rfl (lv_at hl 0 rfl) ?_
  refine lv_bipush (v := 40) hx hb dX12_showsAs_6 (by decide) ?_
  refine kcm_v hA hAB hP hD hS [true, true] rfl (fun _ => rfl) (fun hPc hDc => va_runV (As := [.int 40]) (rest := []) ⟨hx, hb, hml, hown, hts⟩ (k_X12_begins l D κ β a12 r12 v12_keptMany v12_done v12_sheets v12_holes v12_worms v12_laidMany v12_wanted v12_orderMany v12_firstOrder v12_lines v12_marks v12_dots v12_madeIn v12_bound v12_places v12_maps v12_tapeMany v12_stories v12_base v12_at v12_ends v12_fault v12_opened v12_bodies v12_ran v12_ownKind v12_ownNumber f12_trace s.heap.size 40 i1 i2 i3 i4 i5 i6 i7 i8 i9 i10 i11 i12 i13 i14 i15 i16 i17 (by omega)) (cwV 1 hts gX12_showsAs_X12_begins rfl rfl rfl (by decide +kernel) ⟨Nat.le_of_ble_eq_true rfl, Nat.le_of_ble_eq_true rfl⟩) (pk_V hK hS hAB hPc hDc 0 (ci := 12) rfl rfl rfl) rfl rfl hl.1 rfl (lv_room (Nat.le_of_ble_eq_true rfl)) dX12_showsAs_8 ⟨Nat.le_of_ble_eq_true rfl, Nat.le_of_ble_eq_true rfl⟩) (fun u40 H locs hw hPD hS => ?_)
  obtain ⟨x38, g39⟩ := u40
  obtain ⟨h41, h42, h43⟩ : (0 ≤ x38.toInt ∧ x38.toInt ≤ 1000) ∧ (x38.toInt = v12_ran.toInt + 1) ∧ (g39 = wrL f12_trace v12_ran.toInt ([(40 : Int32).toInt])) := hw
  obtain ⟨hP, hD⟩ : PD D A [O12 a12 r12 v12_keptMany v12_done v12_sheets v12_holes v12_worms v12_laidMany v12_wanted v12_orderMany v12_firstOrder v12_lines v12_marks v12_dots v12_madeIn v12_bound v12_places v12_maps v12_tapeMany v12_stories v12_base v12_at v12_ends v12_fault v12_opened v12_bodies x38 v12_ownKind v12_ownNumber, (cI κ (r12 55) 24 g39)] H := hPD
  have hw1 : g39 = wrL f12_trace v12_ran.toInt ([(40 : Int32).toInt]) := by assumption
  have hl1 : x38.toInt = v12_ran.toInt + (((([(40 : Int32).toInt])).length : Nat) : Int) := by first | assumption | (show _ = _ + ((1 : Nat) : Int); omega)
  refine lv_aload_n hx hb dX12_showsAs_11 rfl (lv_at hl 0 rfl) ?_
  refine lv_iconst (v := 1) hx hb dX12_showsAs_12 (by decide) ?_
  refine lv_iload_n hx hb dX12_showsAs_13 rfl (lv_at hl 2 rfl) ?_
  refine kcm_i hA hAB hP hD hS [true, true] rfl (fun _ => rfl) (fun hPc hDc => va_runV (As := [.int 1, .int p2]) (rest := []) ⟨hx, hb, hml, hown, hts⟩ (k_X12_showsAs_0 l D κ β a12 r12 v12_keptMany v12_done v12_sheets v12_holes v12_worms v12_laidMany v12_wanted v12_orderMany v12_firstOrder v12_lines v12_marks v12_dots v12_madeIn v12_bound v12_places v12_maps v12_tapeMany v12_stories v12_base v12_at v12_ends v12_fault v12_opened v12_bodies x38 v12_ownKind v12_ownNumber g39 H.size 1 p2 i1 i2 i3 i4 i5 i6 i7 i8 i9 i10 i11 i12 i13 i14 i15 h41 i17 (by omega) (by omega)) (cwV 2 hts gX12_showsAs_X12_showsAs rfl rfl rfl (by decide +kernel) ⟨Nat.le_of_ble_eq_true rfl, Nat.le_of_ble_eq_true rfl⟩) (pk_V hK hS hAB hPc hDc 0 (ci := 12) rfl rfl rfl) rfl rfl hl.1 rfl (lv_room (Nat.le_of_ble_eq_true rfl)) dX12_showsAs_14 ⟨Nat.le_of_ble_eq_true rfl, Nat.le_of_ble_eq_true rfl⟩) (fun x46 u47 H locs hw hPD hS => ?_)
  obtain ⟨x44, g45⟩ := u47
  obtain ⟨h48, h49, h50, h51, h52⟩ : (0 ≤ x44.toInt ∧ x44.toInt ≤ 1000) ∧ (x38.toInt ≤ x44.toInt ∧ x44.toInt ≤ x38.toInt + 1) ∧ (x46 = p2 ^^^ v12_ownNumber) ∧ (g45 = wrL g39 x38.toInt ([11])) ∧ (x44.toInt = x38.toInt + ((([11]).length : Nat) : Int)) := hw
  obtain ⟨hP, hD⟩ : PD D A [O12 a12 r12 v12_keptMany v12_done v12_sheets v12_holes v12_worms v12_laidMany v12_wanted v12_orderMany v12_firstOrder v12_lines v12_marks v12_dots v12_madeIn v12_bound v12_places v12_maps v12_tapeMany v12_stories v12_base v12_at v12_ends v12_fault v12_opened v12_bodies x44 v12_ownKind v12_ownNumber, (cI κ (r12 55) 24 g45)] H := hPD
  have hq : x46 = p2 ^^^ v12_ownNumber := by assumption
  have hw2 : g45 = wrL f12_trace v12_ran.toInt (([(40 : Int32).toInt]) ++ ([11])) := by rw [wrL_app, ← hw1, ← hl1]; assumption
  have hl2 : x44.toInt = v12_ran.toInt + ((((([(40 : Int32).toInt]) ++ ([11]))).length : Nat) : Int) := by rw [List.length_append]; omega
  refine lv_iconst (v := 3) hx hb dX12_showsAs_17 (by decide) ?_
  refine lv_imul hx hb dX12_showsAs_18 ?_
  refine lv_topi (fun x53 e54 => ?_)
  try have h55 : x53.toInt = 3 * x46.toInt := ci_mulR (n := 3) (by decide) e54 (by omega) (by omega)
  have hpo : (0 ≤ x44.toInt ∧ x44.toInt ≤ 1000) ∧ (v12_ran.toInt ≤ x44.toInt ∧ x44.toInt ≤ v12_ran.toInt + 4) ∧ (x53 = showsP v12_ownNumber v12_ownKind.toInt p1.toInt p2) ∧ (g45 = wrL f12_trace v12_ran.toInt (showsT v12_ownKind.toInt p1.toInt)) ∧ (x44.toInt = v12_ran.toInt + (((showsT v12_ownKind.toInt p1.toInt).length : Nat) : Int)) := ⟨h48, (by omega), (by unfold showsP; rw [if_pos (by omega), e54, hq]), (by unfold showsT; rw [if_pos (by omega)]; exact hw2), (by unfold showsT; rw [if_pos (by omega)]; exact hl2)⟩
  exact ret _ _ _ _ x53 (x44, g45) dX12_showsAs_19 hpo hP hD hS
set_option maxHeartbeats 4000000 in
set_option maxRecDepth 100000 in
theorem k_X12_needsAs_0 (l : Launch) (D : va_G) (κ : Nat → ClassId) (β : Nat) (a12 : Nat) (r12 : Nat → Nat) (v12_keptMany : Int32) (v12_done : Int32) (v12_sheets : Int32) (v12_holes : Int32) (v12_worms : Int32) (v12_laidMany : Int32) (v12_wanted : Int32) (v12_orderMany : Int32) (v12_firstOrder : Int32) (v12_lines : Int32) (v12_marks : Int32) (v12_dots : Int32) (v12_madeIn : Int32) (v12_bound : Int32) (v12_places : Int32) (v12_maps : Int32) (v12_tapeMany : Int32) (v12_stories : Int32) (v12_base : Int32) (v12_at : Int32) (v12_ends : Int32) (v12_fault : Int32) (v12_opened : Int32) (v12_bodies : Int32) (v12_ran : Int32) (v12_ownKind : Int32) (v12_ownNumber : Int32) (f12_trace : Nat → Int32) (sz : Nat) (p1 : Int32) (p2 : Int32) (i1 : Rg 0 40 v12_keptMany) (i2 : Rg 0 40 v12_done) (i3 : Rg 0 8 v12_sheets) (i4 : Rg 0 40 v12_holes) (i5 : Rg 0 40 v12_worms) (i6 : Rg 0 8 v12_laidMany) (i7 : Rg 0 8 v12_wanted) (i8 : Rg 0 20 v12_lines) (i9 : Rg 0 60 v12_marks) (i10 : Rg 0 40 v12_dots) (i11 : Rg 0 20 v12_places) (i12 : Rg 0 8 v12_maps) (i13 : Rg 0 120 v12_tapeMany) (i14 : Rg 0 6 v12_stories) (i15 : Rg 0 50 v12_bodies) (i16 : Rg 0 1000 v12_ran) (i17 : v12_done.toInt ≤ v12_keptMany.toInt) (i18 : p1.toInt = 0 ∨ p1.toInt = 6) (i19 : v12_ran.toInt ≤ 870) : Met l yX12_needsAs wsX12_needsAs ({ frames := 3, cells := 0, slots := 0, locals := 65 } : Room) (PcK D κ β [O12 a12 r12 v12_keptMany v12_done v12_sheets v12_holes v12_worms v12_laidMany v12_wanted v12_orderMany v12_firstOrder v12_lines v12_marks v12_dots v12_madeIn v12_bound v12_places v12_maps v12_tapeMany v12_stories v12_base v12_at v12_ends v12_fault v12_opened v12_bodies v12_ran v12_ownKind v12_ownNumber, (cI κ (r12 55) 24 f12_trace)] sz [.ref a12, .int p1, .int p2]) (QiK D (fun (r : Int32) (u : Int32 × (Nat → Int32)) => (0 ≤ u.1.toInt ∧ u.1.toInt ≤ 1000) ∧ (v12_ran.toInt ≤ u.1.toInt ∧ u.1.toInt ≤ v12_ran.toInt + 3) ∧ (r = liesP v12_ownNumber v12_ownKind.toInt p2 * 2) ∧ (u.2 = wrL f12_trace v12_ran.toInt ([10] ++ liesT v12_ownKind.toInt)) ∧ (u.1.toInt = v12_ran.toInt + ((([10] ++ liesT v12_ownKind.toInt).length : Nat) : Int))) (fun (u : Int32 × (Nat → Int32)) => [O12 a12 r12 v12_keptMany v12_done v12_sheets v12_holes v12_worms v12_laidMany v12_wanted v12_orderMany v12_firstOrder v12_lines v12_marks v12_dots v12_madeIn v12_bound v12_places v12_maps v12_tapeMany v12_stories v12_base v12_at v12_ends v12_fault v12_opened v12_bodies u.1 v12_ownKind v12_ownNumber, (cI κ (r12 55) 24 u.2)]) [O12 a12 r12 v12_keptMany v12_done v12_sheets v12_holes v12_worms v12_laidMany v12_wanted v12_orderMany v12_firstOrder v12_lines v12_marks v12_dots v12_madeIn v12_bound v12_places v12_maps v12_tapeMany v12_stories v12_base v12_at v12_ends v12_fault v12_opened v12_bodies v12_ran v12_ownKind v12_ownNumber, (cI κ (r12 55) 24 f12_trace)] sz) 0 0 (va_A [O12 a12 r12 v12_keptMany v12_done v12_sheets v12_holes v12_worms v12_laidMany v12_wanted v12_orderMany v12_firstOrder v12_lines v12_marks v12_dots v12_madeIn v12_bound v12_places v12_maps v12_tapeMany v12_stories v12_base v12_at v12_ends v12_fault v12_opened v12_bodies v12_ran v12_ownKind v12_ownNumber, (cI κ (r12 55) 24 f12_trace)] sz) := by
  refine ofK_i (cc := cX12_needsAs) (maxL := 4) (own := RX12) (by decide) rfl rfl (Nat.le_of_ble_eq_true rfl) ?_
  intro p e s m args below meth c Q A ls hsz hx hb hml hts hown hK hA hAB hP hD hl ret
  have hS : va_S A s.heap s.heap [] := va_S.rf
  have hl : lv_has ls 4 [(0, .ref a12), (1, .int p1), (2, .int p2)] := hl
  have w0 := hts (.fieldLink RX12 398 "OlderSkinModel" "ownKind" "I") (List.mem_of_getElem? (i := 1) rfl)
  have w1 := (fun w h => List.mem_cons_of_mem _ (List.mem_append_right _ h) : ∀ w ∈ u_ws RX12 TX12 63, w ∈ wsX12_needsAs)
  have l0 : (4 : Int32).toInt = 4 := by decide
  have l1 : (0 : Int32).toInt = 0 := by decide
  have l2 : (2 : Int32).toInt = 2 := by decide
  have l3 : (7 : Int32).toInt = 7 := by decide
  have l4 : (10 : Int32).toInt = 10 := by decide
  have i16 : 0 ≤ v12_ran.toInt ∧ v12_ran.toInt ≤ 1000 := i16
  refine lv_iload_n hx hb dX12_needsAs_0 rfl (lv_at hl 1 rfl) ?_
  refine lv_iconst (v := 4) hx hb dX12_needsAs_1 (by decide) ?_
  refine lv_icmp_ne (tgt := 20) hx hb dX12_needsAs_2 (by decide) (fun c1 => ?_) (fun c1 => ?_)
  · have c1 := ci_ne c1
    refine lv_iload_n hx hb dX12_needsAs_20 rfl (lv_at hl 1 rfl) ?_
    refine lv_iconst (v := 2) hx hb dX12_needsAs_21 (by decide) ?_
    refine lv_icmp_ne (tgt := 39) hx hb dX12_needsAs_22 (by decide) (fun c2 => ?_) (fun c2 => ?_)
    · have c2 := ci_ne c2
      refine lv_iload_n hx hb dX12_needsAs_39 rfl (lv_at hl 1 rfl) ?_
      refine lv_bipush (v := 7) hx hb dX12_needsAs_40 (by decide) ?_
      refine lv_icmp_ne (tgt := 71) hx hb dX12_needsAs_42 (by decide) (fun c3 => ?_) (fun c3 => ?_)
      · have c3 := ci_ne c3
        refine lv_aload_n hx hb dX12_needsAs_71 rfl (lv_at hl 0 rfl) ?_
        refine lv_bipush (v := 10) hx hb dX12_needsAs_72 (by decide) ?_
        refine kcm_v hA hAB hP hD hS [true, true] rfl (fun _ => rfl) (fun hPc hDc => va_runV (As := [.int 10]) (rest := []) ⟨hx, hb, hml, hown, hts⟩ (k_X12_begins l D κ β a12 r12 v12_keptMany v12_done v12_sheets v12_holes v12_worms v12_laidMany v12_wanted v12_orderMany v12_firstOrder v12_lines v12_marks v12_dots v12_madeIn v12_bound v12_places v12_maps v12_tapeMany v12_stories v12_base v12_at v12_ends v12_fault v12_opened v12_bodies v12_ran v12_ownKind v12_ownNumber f12_trace s.heap.size 10 i1 i2 i3 i4 i5 i6 i7 i8 i9 i10 i11 i12 i13 i14 i15 i16 i17 (by omega)) (cwV 1 hts gX12_needsAs_X12_begins rfl rfl rfl (by decide +kernel) ⟨Nat.le_of_ble_eq_true rfl, Nat.le_of_ble_eq_true rfl⟩) (pk_V hK hS hAB hPc hDc 0 (ci := 12) rfl rfl rfl) rfl rfl hl.1 rfl (lv_room (Nat.le_of_ble_eq_true rfl)) dX12_needsAs_74 ⟨Nat.le_of_ble_eq_true rfl, Nat.le_of_ble_eq_true rfl⟩) (fun u6 H locs hw hPD hS => ?_)
        obtain ⟨x4, g5⟩ := u6
        obtain ⟨h7, h8, h9⟩ : (0 ≤ x4.toInt ∧ x4.toInt ≤ 1000) ∧ (x4.toInt = v12_ran.toInt + 1) ∧ (g5 = wrL f12_trace v12_ran.toInt ([(10 : Int32).toInt])) := hw
        obtain ⟨hP, hD⟩ : PD D A [O12 a12 r12 v12_keptMany v12_done v12_sheets v12_holes v12_worms v12_laidMany v12_wanted v12_orderMany v12_firstOrder v12_lines v12_marks v12_dots v12_madeIn v12_bound v12_places v12_maps v12_tapeMany v12_stories v12_base v12_at v12_ends v12_fault v12_opened v12_bodies x4 v12_ownKind v12_ownNumber, (cI κ (r12 55) 24 g5)] H := hPD
        have hw1 : g5 = wrL f12_trace v12_ran.toInt ([(10 : Int32).toInt]) := by assumption
        have hl1 : x4.toInt = v12_ran.toInt + (((([(10 : Int32).toInt])).length : Nat) : Int) := by first | assumption | (show _ = _ + ((1 : Nat) : Int); omega)
        refine lv_aload_n hx hb dX12_needsAs_77 rfl (lv_at hl 0 rfl) ?_
        refine lv_aload_n hx hb dX12_needsAs_78 rfl (lv_at hl 0 rfl) ?_
        refine va_get (D := D) (ci := 12) (v := .int v12_ownKind) (C := RX12) (T := TX12) (N := 63) hx hb hts w1 hown hK.1 hP 0 rfl rfl 57 (by decide) w0 (fun _ h9 => h9) rfl dX12_needsAs_79 ?_
        refine lv_iload_n hx hb dX12_needsAs_82 rfl (lv_at hl 2 rfl) ?_
        refine kcm_i hA hAB hP hD hS [true, true] rfl (fun _ => rfl) (fun hPc hDc => va_runV (As := [.int v12_ownKind, .int p2]) (rest := []) ⟨hx, hb, hml, hown, hts⟩ (k_X12_liesAs l D κ β a12 r12 v12_keptMany v12_done v12_sheets v12_holes v12_worms v12_laidMany v12_wanted v12_orderMany v12_firstOrder v12_lines v12_marks v12_dots v12_madeIn v12_bound v12_places v12_maps v12_tapeMany v12_stories v12_base v12_at v12_ends v12_fault v12_opened v12_bodies x4 v12_ownKind v12_ownNumber g5 H.size v12_ownKind p2 i1 i2 i3 i4 i5 i6 i7 i8 i9 i10 i11 i12 i13 i14 i15 h7 i17 (by omega)) (cwV 2 hts gX12_needsAs_X12_liesAs rfl rfl rfl (by decide +kernel) ⟨Nat.le_of_ble_eq_true rfl, Nat.le_of_ble_eq_true rfl⟩) (pk_V hK hS hAB hPc hDc 0 (ci := 12) rfl rfl rfl) rfl rfl hl.1 rfl (lv_room (Nat.le_of_ble_eq_true rfl)) dX12_needsAs_83 ⟨Nat.le_of_ble_eq_true rfl, Nat.le_of_ble_eq_true rfl⟩) (fun x12 u13 H locs hw hPD hS => ?_)
        obtain ⟨x10, g11⟩ := u13
        obtain ⟨h14, h15, h16, h17, h18⟩ : (0 ≤ x10.toInt ∧ x10.toInt ≤ 1000) ∧ (x4.toInt ≤ x10.toInt ∧ x10.toInt ≤ x4.toInt + 2) ∧ (x12 = liesP v12_ownNumber v12_ownKind.toInt p2) ∧ (g11 = wrL g5 x4.toInt (liesT v12_ownKind.toInt)) ∧ (x10.toInt = x4.toInt + (((liesT v12_ownKind.toInt).length : Nat) : Int)) := hw
        obtain ⟨hP, hD⟩ : PD D A [O12 a12 r12 v12_keptMany v12_done v12_sheets v12_holes v12_worms v12_laidMany v12_wanted v12_orderMany v12_firstOrder v12_lines v12_marks v12_dots v12_madeIn v12_bound v12_places v12_maps v12_tapeMany v12_stories v12_base v12_at v12_ends v12_fault v12_opened v12_bodies x10 v12_ownKind v12_ownNumber, (cI κ (r12 55) 24 g11)] H := hPD
        have hq : x12 = liesP v12_ownNumber v12_ownKind.toInt p2 := by assumption
        have hw2 : g11 = wrL f12_trace v12_ran.toInt (([(10 : Int32).toInt]) ++ (liesT v12_ownKind.toInt)) := by rw [wrL_app, ← hw1, ← hl1]; assumption
        have hl2 : x10.toInt = v12_ran.toInt + ((((([(10 : Int32).toInt]) ++ (liesT v12_ownKind.toInt))).length : Nat) : Int) := by rw [List.length_append]; omega
        refine lv_iconst (v := 2) hx hb dX12_needsAs_86 (by decide) ?_
        refine lv_imul hx hb dX12_needsAs_87 ?_
        refine lv_topi (fun x19 e20 => ?_)
        try have h21 : x19.toInt = 2 * x12.toInt := ci_mulR (n := 2) (by decide) e20 (by omega) (by omega)
        have hpo : (0 ≤ x10.toInt ∧ x10.toInt ≤ 1000) ∧ (v12_ran.toInt ≤ x10.toInt ∧ x10.toInt ≤ v12_ran.toInt + 3) ∧ (x19 = liesP v12_ownNumber v12_ownKind.toInt p2 * 2) ∧ (g11 = wrL f12_trace v12_ran.toInt ([10] ++ liesT v12_ownKind.toInt)) ∧ (x10.toInt = v12_ran.toInt + ((([10] ++ liesT v12_ownKind.toInt).length : Nat) : Int)) := ⟨h14, (by omega), (by rw [e20, hq]), (by exact hw2), (by exact hl2)⟩
        exact ret _ _ _ _ x19 (x10, g11) dX12_needsAs_88 hpo hP hD hS
      have c3 := ci_eq c3
      exfalso
      omega
    have c2 := ci_eq c2
    exfalso
    omega
  have c1 := ci_eq c1
  exfalso
  omega
set_option maxHeartbeats 4000000 in
set_option maxRecDepth 100000 in
theorem k_X12_needsAs_2 (l : Launch) (D : va_G) (κ : Nat → ClassId) (β : Nat) (a12 : Nat) (r12 : Nat → Nat) (v12_keptMany : Int32) (v12_done : Int32) (v12_sheets : Int32) (v12_holes : Int32) (v12_worms : Int32) (v12_laidMany : Int32) (v12_wanted : Int32) (v12_orderMany : Int32) (v12_firstOrder : Int32) (v12_lines : Int32) (v12_marks : Int32) (v12_dots : Int32) (v12_madeIn : Int32) (v12_bound : Int32) (v12_places : Int32) (v12_maps : Int32) (v12_tapeMany : Int32) (v12_stories : Int32) (v12_base : Int32) (v12_at : Int32) (v12_ends : Int32) (v12_fault : Int32) (v12_opened : Int32) (v12_bodies : Int32) (v12_ran : Int32) (v12_ownKind : Int32) (v12_ownNumber : Int32) (f12_trace : Nat → Int32) (sz : Nat) (p1 : Int32) (p2 : Int32) (i1 : Rg 0 40 v12_keptMany) (i2 : Rg 0 40 v12_done) (i3 : Rg 0 8 v12_sheets) (i4 : Rg 0 40 v12_holes) (i5 : Rg 0 40 v12_worms) (i6 : Rg 0 8 v12_laidMany) (i7 : Rg 0 8 v12_wanted) (i8 : Rg 0 20 v12_lines) (i9 : Rg 0 60 v12_marks) (i10 : Rg 0 40 v12_dots) (i11 : Rg 0 20 v12_places) (i12 : Rg 0 8 v12_maps) (i13 : Rg 0 120 v12_tapeMany) (i14 : Rg 0 6 v12_stories) (i15 : Rg 0 50 v12_bodies) (i16 : Rg 0 1000 v12_ran) (i17 : v12_done.toInt ≤ v12_keptMany.toInt) (i18 : p1.toInt = 2) (i19 : v12_ran.toInt ≤ 860) : Met l yX12_needsAs wsX12_needsAs ({ frames := 4, cells := 0, slots := 0, locals := 88 } : Room) (PcK D κ β [O12 a12 r12 v12_keptMany v12_done v12_sheets v12_holes v12_worms v12_laidMany v12_wanted v12_orderMany v12_firstOrder v12_lines v12_marks v12_dots v12_madeIn v12_bound v12_places v12_maps v12_tapeMany v12_stories v12_base v12_at v12_ends v12_fault v12_opened v12_bodies v12_ran v12_ownKind v12_ownNumber, (cI κ (r12 55) 24 f12_trace)] sz [.ref a12, .int p1, .int p2]) (QiK D (fun (r : Int32) (u : Int32 × (Nat → Int32)) => (0 ≤ u.1.toInt ∧ u.1.toInt ≤ 1000) ∧ (v12_ran.toInt ≤ u.1.toInt ∧ u.1.toInt ≤ v12_ran.toInt + 4) ∧ (r = -(liesP v12_ownNumber v12_ownKind.toInt p2 * 2)) ∧ (u.2 = wrL f12_trace v12_ran.toInt ([30, 10] ++ liesT v12_ownKind.toInt)) ∧ (u.1.toInt = v12_ran.toInt + ((([30, 10] ++ liesT v12_ownKind.toInt).length : Nat) : Int))) (fun (u : Int32 × (Nat → Int32)) => [O12 a12 r12 v12_keptMany v12_done v12_sheets v12_holes v12_worms v12_laidMany v12_wanted v12_orderMany v12_firstOrder v12_lines v12_marks v12_dots v12_madeIn v12_bound v12_places v12_maps v12_tapeMany v12_stories v12_base v12_at v12_ends v12_fault v12_opened v12_bodies u.1 v12_ownKind v12_ownNumber, (cI κ (r12 55) 24 u.2)]) [O12 a12 r12 v12_keptMany v12_done v12_sheets v12_holes v12_worms v12_laidMany v12_wanted v12_orderMany v12_firstOrder v12_lines v12_marks v12_dots v12_madeIn v12_bound v12_places v12_maps v12_tapeMany v12_stories v12_base v12_at v12_ends v12_fault v12_opened v12_bodies v12_ran v12_ownKind v12_ownNumber, (cI κ (r12 55) 24 f12_trace)] sz) 0 0 (va_A [O12 a12 r12 v12_keptMany v12_done v12_sheets v12_holes v12_worms v12_laidMany v12_wanted v12_orderMany v12_firstOrder v12_lines v12_marks v12_dots v12_madeIn v12_bound v12_places v12_maps v12_tapeMany v12_stories v12_base v12_at v12_ends v12_fault v12_opened v12_bodies v12_ran v12_ownKind v12_ownNumber, (cI κ (r12 55) 24 f12_trace)] sz) := by
  refine ofK_i (cc := cX12_needsAs) (maxL := 4) (own := RX12) (by decide) rfl rfl (Nat.le_of_ble_eq_true rfl) ?_
  intro p e s m args below meth c Q A ls hsz hx hb hml hts hown hK hA hAB hP hD hl ret
  have hS : va_S A s.heap s.heap [] := va_S.rf
  have hl : lv_has ls 4 [(0, .ref a12), (1, .int p1), (2, .int p2)] := hl
  have l0 : (4 : Int32).toInt = 4 := by decide
  have l1 : (0 : Int32).toInt = 0 := by decide
  have l2 : (2 : Int32).toInt = 2 := by decide
  have l3 : (30 : Int32).toInt = 30 := by decide
  have i16 : 0 ≤ v12_ran.toInt ∧ v12_ran.toInt ≤ 1000 := i16
  refine lv_iload_n hx hb dX12_needsAs_0 rfl (lv_at hl 1 rfl) ?_
  refine lv_iconst (v := 4) hx hb dX12_needsAs_1 (by decide) ?_
  refine lv_icmp_ne (tgt := 20) hx hb dX12_needsAs_2 (by decide) (fun c1 => ?_) (fun c1 => ?_)
  · have c1 := ci_ne c1
    refine lv_iload_n hx hb dX12_needsAs_20 rfl (lv_at hl 1 rfl) ?_
    refine lv_iconst (v := 2) hx hb dX12_needsAs_21 (by decide) ?_
    refine lv_icmp_ne (tgt := 39) hx hb dX12_needsAs_22 (by decide) (fun c2 => ?_) (fun c2 => ?_)
    · have c2 := ci_ne c2
      exfalso
      omega
    have c2 := ci_eq c2
    refine lv_aload_n hx hb dX12_needsAs_25 rfl (lv_at hl 0 rfl) ?_
    refine lv_bipush (v := 30) hx hb dX12_needsAs_26 (by decide) ?_
    refine kcm_v hA hAB hP hD hS [true, true] rfl (fun _ => rfl) (fun hPc hDc => va_runV (As := [.int 30]) (rest := []) ⟨hx, hb, hml, hown, hts⟩ (k_X12_begins l D κ β a12 r12 v12_keptMany v12_done v12_sheets v12_holes v12_worms v12_laidMany v12_wanted v12_orderMany v12_firstOrder v12_lines v12_marks v12_dots v12_madeIn v12_bound v12_places v12_maps v12_tapeMany v12_stories v12_base v12_at v12_ends v12_fault v12_opened v12_bodies v12_ran v12_ownKind v12_ownNumber f12_trace s.heap.size 30 i1 i2 i3 i4 i5 i6 i7 i8 i9 i10 i11 i12 i13 i14 i15 i16 i17 (by omega)) (cwV 1 hts gX12_needsAs_X12_begins rfl rfl rfl (by decide +kernel) ⟨Nat.le_of_ble_eq_true rfl, Nat.le_of_ble_eq_true rfl⟩) (pk_V hK hS hAB hPc hDc 0 (ci := 12) rfl rfl rfl) rfl rfl hl.1 rfl (lv_room (Nat.le_of_ble_eq_true rfl)) dX12_needsAs_28 ⟨Nat.le_of_ble_eq_true rfl, Nat.le_of_ble_eq_true rfl⟩) (fun u5 H locs hw hPD hS => ?_)
    obtain ⟨x3, g4⟩ := u5
    obtain ⟨h6, h7, h8⟩ : (0 ≤ x3.toInt ∧ x3.toInt ≤ 1000) ∧ (x3.toInt = v12_ran.toInt + 1) ∧ (g4 = wrL f12_trace v12_ran.toInt ([(30 : Int32).toInt])) := hw
    obtain ⟨hP, hD⟩ : PD D A [O12 a12 r12 v12_keptMany v12_done v12_sheets v12_holes v12_worms v12_laidMany v12_wanted v12_orderMany v12_firstOrder v12_lines v12_marks v12_dots v12_madeIn v12_bound v12_places v12_maps v12_tapeMany v12_stories v12_base v12_at v12_ends v12_fault v12_opened v12_bodies x3 v12_ownKind v12_ownNumber, (cI κ (r12 55) 24 g4)] H := hPD
    have hw1 : g4 = wrL f12_trace v12_ran.toInt ([(30 : Int32).toInt]) := by assumption
    have hl1 : x3.toInt = v12_ran.toInt + (((([(30 : Int32).toInt])).length : Nat) : Int) := by first | assumption | (show _ = _ + ((1 : Nat) : Int); omega)
    refine lv_aload_n hx hb dX12_needsAs_31 rfl (lv_at hl 0 rfl) ?_
    refine lv_iconst (v := 0) hx hb dX12_needsAs_32 (by decide) ?_
    refine lv_iload_n hx hb dX12_needsAs_33 rfl (lv_at hl 2 rfl) ?_
    refine kcm_i hA hAB hP hD hS [true, true] rfl (fun _ => rfl) (fun hPc hDc => va_runV (As := [.int 0, .int p2]) (rest := []) ⟨hx, hb, hml, hown, hts⟩ (k_X12_needsAs_0 l D κ β a12 r12 v12_keptMany v12_done v12_sheets v12_holes v12_worms v12_laidMany v12_wanted v12_orderMany v12_firstOrder v12_lines v12_marks v12_dots v12_madeIn v12_bound v12_places v12_maps v12_tapeMany v12_stories v12_base v12_at v12_ends v12_fault v12_opened v12_bodies x3 v12_ownKind v12_ownNumber g4 H.size 0 p2 i1 i2 i3 i4 i5 i6 i7 i8 i9 i10 i11 i12 i13 i14 i15 h6 i17 (by omega) (by omega)) (cwV 2 hts gX12_needsAs_X12_needsAs rfl rfl rfl (by decide +kernel) ⟨Nat.le_of_ble_eq_true rfl, Nat.le_of_ble_eq_true rfl⟩) (pk_V hK hS hAB hPc hDc 0 (ci := 12) rfl rfl rfl) rfl rfl hl.1 rfl (lv_room (Nat.le_of_ble_eq_true rfl)) dX12_needsAs_34 ⟨Nat.le_of_ble_eq_true rfl, Nat.le_of_ble_eq_true rfl⟩) (fun x11 u12 H locs hw hPD hS => ?_)
    obtain ⟨x9, g10⟩ := u12
    obtain ⟨h13, h14, h15, h16, h17⟩ : (0 ≤ x9.toInt ∧ x9.toInt ≤ 1000) ∧ (x3.toInt ≤ x9.toInt ∧ x9.toInt ≤ x3.toInt + 3) ∧ (x11 = liesP v12_ownNumber v12_ownKind.toInt p2 * 2) ∧ (g10 = wrL g4 x3.toInt ([10] ++ liesT v12_ownKind.toInt)) ∧ (x9.toInt = x3.toInt + ((([10] ++ liesT v12_ownKind.toInt).length : Nat) : Int)) := hw
    obtain ⟨hP, hD⟩ : PD D A [O12 a12 r12 v12_keptMany v12_done v12_sheets v12_holes v12_worms v12_laidMany v12_wanted v12_orderMany v12_firstOrder v12_lines v12_marks v12_dots v12_madeIn v12_bound v12_places v12_maps v12_tapeMany v12_stories v12_base v12_at v12_ends v12_fault v12_opened v12_bodies x9 v12_ownKind v12_ownNumber, (cI κ (r12 55) 24 g10)] H := hPD
    have hq : x11 = liesP v12_ownNumber v12_ownKind.toInt p2 * 2 := by assumption
    have hw2 : g10 = wrL f12_trace v12_ran.toInt (([(30 : Int32).toInt]) ++ ([10] ++ liesT v12_ownKind.toInt)) := by rw [wrL_app, ← hw1, ← hl1]; assumption
    have hl2 : x9.toInt = v12_ran.toInt + ((((([(30 : Int32).toInt]) ++ ([10] ++ liesT v12_ownKind.toInt))).length : Nat) : Int) := by rw [List.length_append]; omega
    refine lv_ineg hx hb dX12_needsAs_37 ?_
    refine lv_topi (fun x18 e19 => ?_)
    try have h20 : x18.toInt = -x11.toInt := ci_neg e19 (by omega)
    have hpo : (0 ≤ x9.toInt ∧ x9.toInt ≤ 1000) ∧ (v12_ran.toInt ≤ x9.toInt ∧ x9.toInt ≤ v12_ran.toInt + 4) ∧ (x18 = -(liesP v12_ownNumber v12_ownKind.toInt p2 * 2)) ∧ (g10 = wrL f12_trace v12_ran.toInt ([30, 10] ++ liesT v12_ownKind.toInt)) ∧ (x9.toInt = v12_ran.toInt + ((([30, 10] ++ liesT v12_ownKind.toInt).length : Nat) : Int)) := ⟨h13, (by omega), (by rw [e19, hq]), (by exact hw2), (by exact hl2)⟩
    exact ret _ _ _ _ x18 (x9, g10) dX12_needsAs_38 hpo hP hD hS
  have c1 := ci_eq c1
  exfalso
  omega
set_option maxHeartbeats 4000000 in
set_option maxRecDepth 100000 in
theorem k_X12_needsAs (l : Launch) (D : va_G) (κ : Nat → ClassId) (β : Nat) (a12 : Nat) (r12 : Nat → Nat) (v12_keptMany : Int32) (v12_done : Int32) (v12_sheets : Int32) (v12_holes : Int32) (v12_worms : Int32) (v12_laidMany : Int32) (v12_wanted : Int32) (v12_orderMany : Int32) (v12_firstOrder : Int32) (v12_lines : Int32) (v12_marks : Int32) (v12_dots : Int32) (v12_madeIn : Int32) (v12_bound : Int32) (v12_places : Int32) (v12_maps : Int32) (v12_tapeMany : Int32) (v12_stories : Int32) (v12_base : Int32) (v12_at : Int32) (v12_ends : Int32) (v12_fault : Int32) (v12_opened : Int32) (v12_bodies : Int32) (v12_ran : Int32) (v12_ownKind : Int32) (v12_ownNumber : Int32) (f12_trace : Nat → Int32) (sz : Nat) (p1 : Int32) (p2 : Int32) (i1 : Rg 0 40 v12_keptMany) (i2 : Rg 0 40 v12_done) (i3 : Rg 0 8 v12_sheets) (i4 : Rg 0 40 v12_holes) (i5 : Rg 0 40 v12_worms) (i6 : Rg 0 8 v12_laidMany) (i7 : Rg 0 8 v12_wanted) (i8 : Rg 0 20 v12_lines) (i9 : Rg 0 60 v12_marks) (i10 : Rg 0 40 v12_dots) (i11 : Rg 0 20 v12_places) (i12 : Rg 0 8 v12_maps) (i13 : Rg 0 120 v12_tapeMany) (i14 : Rg 0 6 v12_stories) (i15 : Rg 0 50 v12_bodies) (i16 : Rg 0 1000 v12_ran) (i17 : v12_done.toInt ≤ v12_keptMany.toInt) (i18 : v12_ran.toInt ≤ 850) : Met l yX12_needsAs wsX12_needsAs ({ frames := 5, cells := 0, slots := 0, locals := 111 } : Room) (PcK D κ β [O12 a12 r12 v12_keptMany v12_done v12_sheets v12_holes v12_worms v12_laidMany v12_wanted v12_orderMany v12_firstOrder v12_lines v12_marks v12_dots v12_madeIn v12_bound v12_places v12_maps v12_tapeMany v12_stories v12_base v12_at v12_ends v12_fault v12_opened v12_bodies v12_ran v12_ownKind v12_ownNumber, (cI κ (r12 55) 24 f12_trace)] sz [.ref a12, .int p1, .int p2]) (QiK D (fun (r : Int32) (u : Int32 × (Nat → Int32)) => (0 ≤ u.1.toInt ∧ u.1.toInt ≤ 1000) ∧ (v12_ran.toInt ≤ u.1.toInt ∧ u.1.toInt ≤ v12_ran.toInt + 8) ∧ (r = needsP v12_ownNumber v12_ownKind.toInt p1.toInt p2) ∧ (u.2 = wrL f12_trace v12_ran.toInt (needsT v12_ownKind.toInt p1.toInt)) ∧ (u.1.toInt = v12_ran.toInt + (((needsT v12_ownKind.toInt p1.toInt).length : Nat) : Int))) (fun (u : Int32 × (Nat → Int32)) => [O12 a12 r12 v12_keptMany v12_done v12_sheets v12_holes v12_worms v12_laidMany v12_wanted v12_orderMany v12_firstOrder v12_lines v12_marks v12_dots v12_madeIn v12_bound v12_places v12_maps v12_tapeMany v12_stories v12_base v12_at v12_ends v12_fault v12_opened v12_bodies u.1 v12_ownKind v12_ownNumber, (cI κ (r12 55) 24 u.2)]) [O12 a12 r12 v12_keptMany v12_done v12_sheets v12_holes v12_worms v12_laidMany v12_wanted v12_orderMany v12_firstOrder v12_lines v12_marks v12_dots v12_madeIn v12_bound v12_places v12_maps v12_tapeMany v12_stories v12_base v12_at v12_ends v12_fault v12_opened v12_bodies v12_ran v12_ownKind v12_ownNumber, (cI κ (r12 55) 24 f12_trace)] sz) 0 0 (va_A [O12 a12 r12 v12_keptMany v12_done v12_sheets v12_holes v12_worms v12_laidMany v12_wanted v12_orderMany v12_firstOrder v12_lines v12_marks v12_dots v12_madeIn v12_bound v12_places v12_maps v12_tapeMany v12_stories v12_base v12_at v12_ends v12_fault v12_opened v12_bodies v12_ran v12_ownKind v12_ownNumber, (cI κ (r12 55) 24 f12_trace)] sz) := by
  refine ofK_i (cc := cX12_needsAs) (maxL := 4) (own := RX12) (by decide) rfl rfl (Nat.le_of_ble_eq_true rfl) ?_
  intro p e s m args below meth c Q A ls hsz hx hb hml hts hown hK hA hAB hP hD hl ret
  have hS : va_S A s.heap s.heap [] := va_S.rf
  have hl : lv_has ls 4 [(0, .ref a12), (1, .int p1), (2, .int p2)] := hl
  have w0 := hts (.fieldLink RX12 398 "OlderSkinModel" "ownKind" "I") (List.mem_of_getElem? (i := 1) rfl)
  have w1 := (fun w h => List.mem_cons_of_mem _ (List.mem_append_right _ h) : ∀ w ∈ u_ws RX12 TX12 63, w ∈ wsX12_needsAs)
  have l0 : (4 : Int32).toInt = 4 := by decide
  have l1 : (0 : Int32).toInt = 0 := by decide
  have l2 : (2 : Int32).toInt = 2 := by decide
  have l3 : (7 : Int32).toInt = 7 := by decide
  have l4 : (10 : Int32).toInt = 10 := by decide
  have l5 : (80 : Int32).toInt = 80 := by decide
  have l6 : (6 : Int32).toInt = 6 := by decide
  have l7 : (30 : Int32).toInt = 30 := by decide
  have l8 : (51 : Int32).toInt = 51 := by decide
  have l9 : (1 : Int32).toInt = 1 := by decide
  have i16 : 0 ≤ v12_ran.toInt ∧ v12_ran.toInt ≤ 1000 := i16
  refine lv_iload_n hx hb dX12_needsAs_0 rfl (lv_at hl 1 rfl) ?_
  refine lv_iconst (v := 4) hx hb dX12_needsAs_1 (by decide) ?_
  refine lv_icmp_ne (tgt := 20) hx hb dX12_needsAs_2 (by decide) (fun c1 => ?_) (fun c1 => ?_)
  · have c1 := ci_ne c1
    refine lv_iload_n hx hb dX12_needsAs_20 rfl (lv_at hl 1 rfl) ?_
    refine lv_iconst (v := 2) hx hb dX12_needsAs_21 (by decide) ?_
    refine lv_icmp_ne (tgt := 39) hx hb dX12_needsAs_22 (by decide) (fun c2 => ?_) (fun c2 => ?_)
    · have c2 := ci_ne c2
      refine lv_iload_n hx hb dX12_needsAs_39 rfl (lv_at hl 1 rfl) ?_
      refine lv_bipush (v := 7) hx hb dX12_needsAs_40 (by decide) ?_
      refine lv_icmp_ne (tgt := 71) hx hb dX12_needsAs_42 (by decide) (fun c3 => ?_) (fun c3 => ?_)
      · have c3 := ci_ne c3
        refine lv_aload_n hx hb dX12_needsAs_71 rfl (lv_at hl 0 rfl) ?_
        refine lv_bipush (v := 10) hx hb dX12_needsAs_72 (by decide) ?_
        refine kcm_v hA hAB hP hD hS [true, true] rfl (fun _ => rfl) (fun hPc hDc => va_runV (As := [.int 10]) (rest := []) ⟨hx, hb, hml, hown, hts⟩ (k_X12_begins l D κ β a12 r12 v12_keptMany v12_done v12_sheets v12_holes v12_worms v12_laidMany v12_wanted v12_orderMany v12_firstOrder v12_lines v12_marks v12_dots v12_madeIn v12_bound v12_places v12_maps v12_tapeMany v12_stories v12_base v12_at v12_ends v12_fault v12_opened v12_bodies v12_ran v12_ownKind v12_ownNumber f12_trace s.heap.size 10 i1 i2 i3 i4 i5 i6 i7 i8 i9 i10 i11 i12 i13 i14 i15 i16 i17 (by omega)) (cwV 1 hts gX12_needsAs_X12_begins rfl rfl rfl (by decide +kernel) ⟨Nat.le_of_ble_eq_true rfl, Nat.le_of_ble_eq_true rfl⟩) (pk_V hK hS hAB hPc hDc 0 (ci := 12) rfl rfl rfl) rfl rfl hl.1 rfl (lv_room (Nat.le_of_ble_eq_true rfl)) dX12_needsAs_74 ⟨Nat.le_of_ble_eq_true rfl, Nat.le_of_ble_eq_true rfl⟩) (fun u6 H locs hw hPD hS => ?_)
        obtain ⟨x4, g5⟩ := u6
        obtain ⟨h7, h8, h9⟩ : (0 ≤ x4.toInt ∧ x4.toInt ≤ 1000) ∧ (x4.toInt = v12_ran.toInt + 1) ∧ (g5 = wrL f12_trace v12_ran.toInt ([(10 : Int32).toInt])) := hw
        obtain ⟨hP, hD⟩ : PD D A [O12 a12 r12 v12_keptMany v12_done v12_sheets v12_holes v12_worms v12_laidMany v12_wanted v12_orderMany v12_firstOrder v12_lines v12_marks v12_dots v12_madeIn v12_bound v12_places v12_maps v12_tapeMany v12_stories v12_base v12_at v12_ends v12_fault v12_opened v12_bodies x4 v12_ownKind v12_ownNumber, (cI κ (r12 55) 24 g5)] H := hPD
        have hw1 : g5 = wrL f12_trace v12_ran.toInt ([(10 : Int32).toInt]) := by assumption
        have hl1 : x4.toInt = v12_ran.toInt + (((([(10 : Int32).toInt])).length : Nat) : Int) := by first | assumption | (show _ = _ + ((1 : Nat) : Int); omega)
        refine lv_aload_n hx hb dX12_needsAs_77 rfl (lv_at hl 0 rfl) ?_
        refine lv_aload_n hx hb dX12_needsAs_78 rfl (lv_at hl 0 rfl) ?_
        refine va_get (D := D) (ci := 12) (v := .int v12_ownKind) (C := RX12) (T := TX12) (N := 63) hx hb hts w1 hown hK.1 hP 0 rfl rfl 57 (by decide) w0 (fun _ h9 => h9) rfl dX12_needsAs_79 ?_
        refine lv_iload_n hx hb dX12_needsAs_82 rfl (lv_at hl 2 rfl) ?_
        refine kcm_i hA hAB hP hD hS [true, true] rfl (fun _ => rfl) (fun hPc hDc => va_runV (As := [.int v12_ownKind, .int p2]) (rest := []) ⟨hx, hb, hml, hown, hts⟩ (k_X12_liesAs l D κ β a12 r12 v12_keptMany v12_done v12_sheets v12_holes v12_worms v12_laidMany v12_wanted v12_orderMany v12_firstOrder v12_lines v12_marks v12_dots v12_madeIn v12_bound v12_places v12_maps v12_tapeMany v12_stories v12_base v12_at v12_ends v12_fault v12_opened v12_bodies x4 v12_ownKind v12_ownNumber g5 H.size v12_ownKind p2 i1 i2 i3 i4 i5 i6 i7 i8 i9 i10 i11 i12 i13 i14 i15 h7 i17 (by omega)) (cwV 2 hts gX12_needsAs_X12_liesAs rfl rfl rfl (by decide +kernel) ⟨Nat.le_of_ble_eq_true rfl, Nat.le_of_ble_eq_true rfl⟩) (pk_V hK hS hAB hPc hDc 0 (ci := 12) rfl rfl rfl) rfl rfl hl.1 rfl (lv_room (Nat.le_of_ble_eq_true rfl)) dX12_needsAs_83 ⟨Nat.le_of_ble_eq_true rfl, Nat.le_of_ble_eq_true rfl⟩) (fun x12 u13 H locs hw hPD hS => ?_)
        obtain ⟨x10, g11⟩ := u13
        obtain ⟨h14, h15, h16, h17, h18⟩ : (0 ≤ x10.toInt ∧ x10.toInt ≤ 1000) ∧ (x4.toInt ≤ x10.toInt ∧ x10.toInt ≤ x4.toInt + 2) ∧ (x12 = liesP v12_ownNumber v12_ownKind.toInt p2) ∧ (g11 = wrL g5 x4.toInt (liesT v12_ownKind.toInt)) ∧ (x10.toInt = x4.toInt + (((liesT v12_ownKind.toInt).length : Nat) : Int)) := hw
        obtain ⟨hP, hD⟩ : PD D A [O12 a12 r12 v12_keptMany v12_done v12_sheets v12_holes v12_worms v12_laidMany v12_wanted v12_orderMany v12_firstOrder v12_lines v12_marks v12_dots v12_madeIn v12_bound v12_places v12_maps v12_tapeMany v12_stories v12_base v12_at v12_ends v12_fault v12_opened v12_bodies x10 v12_ownKind v12_ownNumber, (cI κ (r12 55) 24 g11)] H := hPD
        have hq : x12 = liesP v12_ownNumber v12_ownKind.toInt p2 := by assumption
        have hw2 : g11 = wrL f12_trace v12_ran.toInt (([(10 : Int32).toInt]) ++ (liesT v12_ownKind.toInt)) := by rw [wrL_app, ← hw1, ← hl1]; assumption
        have hl2 : x10.toInt = v12_ran.toInt + ((((([(10 : Int32).toInt]) ++ (liesT v12_ownKind.toInt))).length : Nat) : Int) := by rw [List.length_append]; omega
        refine lv_iconst (v := 2) hx hb dX12_needsAs_86 (by decide) ?_
        refine lv_imul hx hb dX12_needsAs_87 ?_
        refine lv_topi (fun x19 e20 => ?_)
        try have h21 : x19.toInt = 2 * x12.toInt := ci_mulR (n := 2) (by decide) e20 (by omega) (by omega)
        have hpo : (0 ≤ x10.toInt ∧ x10.toInt ≤ 1000) ∧ (v12_ran.toInt ≤ x10.toInt ∧ x10.toInt ≤ v12_ran.toInt + 8) ∧ (x19 = needsP v12_ownNumber v12_ownKind.toInt p1.toInt p2) ∧ (g11 = wrL f12_trace v12_ran.toInt (needsT v12_ownKind.toInt p1.toInt)) ∧ (x10.toInt = v12_ran.toInt + (((needsT v12_ownKind.toInt p1.toInt).length : Nat) : Int)) := ⟨h14, (by omega), (by unfold needsP; rw [if_neg (by omega), if_neg (by omega), if_neg (by omega), e20, hq]), (by unfold needsT; rw [if_neg (by omega), if_neg (by omega), if_neg (by omega)]; exact hw2), (by unfold needsT; rw [if_neg (by omega), if_neg (by omega), if_neg (by omega)]; exact hl2)⟩
        exact ret _ _ _ _ x19 (x10, g11) dX12_needsAs_88 hpo hP hD hS
      have c3 := ci_eq c3
      refine lv_aload_n hx hb dX12_needsAs_45 rfl (lv_at hl 0 rfl) ?_
      refine lv_bipush (v := 80) hx hb dX12_needsAs_46 (by decide) ?_
      refine kcm_v hA hAB hP hD hS [true, true] rfl (fun _ => rfl) (fun hPc hDc => va_runV (As := [.int 80]) (rest := []) ⟨hx, hb, hml, hown, hts⟩ (k_X12_begins l D κ β a12 r12 v12_keptMany v12_done v12_sheets v12_holes v12_worms v12_laidMany v12_wanted v12_orderMany v12_firstOrder v12_lines v12_marks v12_dots v12_madeIn v12_bound v12_places v12_maps v12_tapeMany v12_stories v12_base v12_at v12_ends v12_fault v12_opened v12_bodies v12_ran v12_ownKind v12_ownNumber f12_trace s.heap.size 80 i1 i2 i3 i4 i5 i6 i7 i8 i9 i10 i11 i12 i13 i14 i15 i16 i17 (by omega)) (cwV 1 hts gX12_needsAs_X12_begins rfl rfl rfl (by decide +kernel) ⟨Nat.le_of_ble_eq_true rfl, Nat.le_of_ble_eq_true rfl⟩) (pk_V hK hS hAB hPc hDc 0 (ci := 12) rfl rfl rfl) rfl rfl hl.1 rfl (lv_room (Nat.le_of_ble_eq_true rfl)) dX12_needsAs_48 ⟨Nat.le_of_ble_eq_true rfl, Nat.le_of_ble_eq_true rfl⟩) (fun u24 H locs hw hPD hS => ?_)
      obtain ⟨x22, g23⟩ := u24
      obtain ⟨h25, h26, h27⟩ : (0 ≤ x22.toInt ∧ x22.toInt ≤ 1000) ∧ (x22.toInt = v12_ran.toInt + 1) ∧ (g23 = wrL f12_trace v12_ran.toInt ([(80 : Int32).toInt])) := hw
      obtain ⟨hP, hD⟩ : PD D A [O12 a12 r12 v12_keptMany v12_done v12_sheets v12_holes v12_worms v12_laidMany v12_wanted v12_orderMany v12_firstOrder v12_lines v12_marks v12_dots v12_madeIn v12_bound v12_places v12_maps v12_tapeMany v12_stories v12_base v12_at v12_ends v12_fault v12_opened v12_bodies x22 v12_ownKind v12_ownNumber, (cI κ (r12 55) 24 g23)] H := hPD
      have hw1 : g23 = wrL f12_trace v12_ran.toInt ([(80 : Int32).toInt]) := by assumption
      have hl1 : x22.toInt = v12_ran.toInt + (((([(80 : Int32).toInt])).length : Nat) : Int) := by first | assumption | (show _ = _ + ((1 : Nat) : Int); omega)
      refine lv_aload_n hx hb dX12_needsAs_51 rfl (lv_at hl 0 rfl) ?_
      refine lv_bipush (v := 6) hx hb dX12_needsAs_52 (by decide) ?_
      refine lv_iload_n hx hb dX12_needsAs_54 rfl (lv_at hl 2 rfl) ?_
      refine kcm_i hA hAB hP hD hS [true, true] rfl (fun _ => rfl) (fun hPc hDc => va_runV (As := [.int 6, .int p2]) (rest := []) ⟨hx, hb, hml, hown, hts⟩ (k_X12_needsAs_0 l D κ β a12 r12 v12_keptMany v12_done v12_sheets v12_holes v12_worms v12_laidMany v12_wanted v12_orderMany v12_firstOrder v12_lines v12_marks v12_dots v12_madeIn v12_bound v12_places v12_maps v12_tapeMany v12_stories v12_base v12_at v12_ends v12_fault v12_opened v12_bodies x22 v12_ownKind v12_ownNumber g23 H.size 6 p2 i1 i2 i3 i4 i5 i6 i7 i8 i9 i10 i11 i12 i13 i14 i15 h25 i17 (by omega) (by omega)) (cwV 2 hts gX12_needsAs_X12_needsAs rfl rfl rfl (by decide +kernel) ⟨Nat.le_of_ble_eq_true rfl, Nat.le_of_ble_eq_true rfl⟩) (pk_V hK hS hAB hPc hDc 0 (ci := 12) rfl rfl rfl) rfl rfl hl.1 rfl (lv_room (Nat.le_of_ble_eq_true rfl)) dX12_needsAs_55 ⟨Nat.le_of_ble_eq_true rfl, Nat.le_of_ble_eq_true rfl⟩) (fun x30 u31 H locs hw hPD hS => ?_)
      obtain ⟨x28, g29⟩ := u31
      obtain ⟨h32, h33, h34, h35, h36⟩ : (0 ≤ x28.toInt ∧ x28.toInt ≤ 1000) ∧ (x22.toInt ≤ x28.toInt ∧ x28.toInt ≤ x22.toInt + 3) ∧ (x30 = liesP v12_ownNumber v12_ownKind.toInt p2 * 2) ∧ (g29 = wrL g23 x22.toInt ([10] ++ liesT v12_ownKind.toInt)) ∧ (x28.toInt = x22.toInt + ((([10] ++ liesT v12_ownKind.toInt).length : Nat) : Int)) := hw
      obtain ⟨hP, hD⟩ : PD D A [O12 a12 r12 v12_keptMany v12_done v12_sheets v12_holes v12_worms v12_laidMany v12_wanted v12_orderMany v12_firstOrder v12_lines v12_marks v12_dots v12_madeIn v12_bound v12_places v12_maps v12_tapeMany v12_stories v12_base v12_at v12_ends v12_fault v12_opened v12_bodies x28 v12_ownKind v12_ownNumber, (cI κ (r12 55) 24 g29)] H := hPD
      have hq : x30 = liesP v12_ownNumber v12_ownKind.toInt p2 * 2 := by assumption
      have hw2 : g29 = wrL f12_trace v12_ran.toInt (([(80 : Int32).toInt]) ++ ([10] ++ liesT v12_ownKind.toInt)) := by rw [wrL_app, ← hw1, ← hl1]; assumption
      have hl2 : x28.toInt = v12_ran.toInt + ((((([(80 : Int32).toInt]) ++ ([10] ++ liesT v12_ownKind.toInt))).length : Nat) : Int) := by rw [List.length_append]; omega
      refine lv_istore_n (lv' := [(3, .int x30), (0, .ref a12), (1, .int p1), (2, .int p2)]) hx hb dX12_needsAs_58 rfl hl (by decide) rfl (fun ls hl => ?_)
      refine lv_iload_n hx hb dX12_needsAs_59 rfl (lv_at hl 0 rfl) ?_
      refine lv_aload_n hx hb dX12_needsAs_60 rfl (lv_at hl 1 rfl) ?_
      refine lv_aload_n hx hb dX12_needsAs_61 rfl (lv_at hl 1 rfl) ?_
      refine va_get (D := D) (ci := 12) (v := .int v12_ownKind) (C := RX12) (T := TX12) (N := 63) hx hb hts w1 hown hK.1 hP 0 rfl rfl 57 (by decide) w0 (fun _ h9 => h9) rfl dX12_needsAs_62 ?_
      refine lv_iconst (v := 2) hx hb dX12_needsAs_65 (by decide) ?_
      refine kcm_i hA hAB hP hD hS [true, true] rfl (fun _ => rfl) (fun hPc hDc => va_runV (As := [.int v12_ownKind, .int 2]) (rest := [.int x30]) ⟨hx, hb, hml, hown, hts⟩ (k_X12_showsAs l D κ β a12 r12 v12_keptMany v12_done v12_sheets v12_holes v12_worms v12_laidMany v12_wanted v12_orderMany v12_firstOrder v12_lines v12_marks v12_dots v12_madeIn v12_bound v12_places v12_maps v12_tapeMany v12_stories v12_base v12_at v12_ends v12_fault v12_opened v12_bodies x28 v12_ownKind v12_ownNumber g29 H.size v12_ownKind 2 i1 i2 i3 i4 i5 i6 i7 i8 i9 i10 i11 i12 i13 i14 i15 h32 i17 (by omega)) (cwV 2 hts gX12_needsAs_X12_showsAs rfl rfl rfl (by decide +kernel) ⟨Nat.le_of_ble_eq_true rfl, Nat.le_of_ble_eq_true rfl⟩) (pk_V hK hS hAB hPc hDc 0 (ci := 12) rfl rfl rfl) rfl rfl hl.1 rfl (lv_room (Nat.le_of_ble_eq_true rfl)) dX12_needsAs_66 ⟨Nat.le_of_ble_eq_true rfl, Nat.le_of_ble_eq_true rfl⟩) (fun x39 u40 H locs hw hPD hS => ?_)
      obtain ⟨x37, g38⟩ := u40
      obtain ⟨h41, h42, h43, h44, h45⟩ : (0 ≤ x37.toInt ∧ x37.toInt ≤ 1000) ∧ (x28.toInt ≤ x37.toInt ∧ x37.toInt ≤ x28.toInt + 4) ∧ (x39 = showsP v12_ownNumber v12_ownKind.toInt v12_ownKind.toInt (2 : Int32)) ∧ (g38 = wrL g29 x28.toInt (showsT v12_ownKind.toInt v12_ownKind.toInt)) ∧ (x37.toInt = x28.toInt + (((showsT v12_ownKind.toInt v12_ownKind.toInt).length : Nat) : Int)) := hw
      obtain ⟨hP, hD⟩ : PD D A [O12 a12 r12 v12_keptMany v12_done v12_sheets v12_holes v12_worms v12_laidMany v12_wanted v12_orderMany v12_firstOrder v12_lines v12_marks v12_dots v12_madeIn v12_bound v12_places v12_maps v12_tapeMany v12_stories v12_base v12_at v12_ends v12_fault v12_opened v12_bodies x37 v12_ownKind v12_ownNumber, (cI κ (r12 55) 24 g38)] H := hPD
      have hq2 : x39 = showsP v12_ownNumber v12_ownKind.toInt v12_ownKind.toInt (2 : Int32) := by assumption
      have hw3 : g38 = wrL f12_trace v12_ran.toInt (([(80 : Int32).toInt] ++ ([10] ++ liesT v12_ownKind.toInt)) ++ (showsT v12_ownKind.toInt v12_ownKind.toInt)) := by rw [wrL_app, ← hw2, ← hl2]; assumption
      have hl3 : x37.toInt = v12_ran.toInt + ((((([(80 : Int32).toInt] ++ ([10] ++ liesT v12_ownKind.toInt)) ++ (showsT v12_ownKind.toInt v12_ownKind.toInt))).length : Nat) : Int) := by rw [List.length_append]; omega
      refine lv_iadd hx hb dX12_needsAs_69 ?_
      refine lv_topi (fun x46 e47 => ?_)
      try have h48 : x46.toInt = x30.toInt + x39.toInt := ci_add e47 (by omega) (by omega)
      have hpo : (0 ≤ x37.toInt ∧ x37.toInt ≤ 1000) ∧ (v12_ran.toInt ≤ x37.toInt ∧ x37.toInt ≤ v12_ran.toInt + 8) ∧ (x46 = needsP v12_ownNumber v12_ownKind.toInt p1.toInt p2) ∧ (g38 = wrL f12_trace v12_ran.toInt (needsT v12_ownKind.toInt p1.toInt)) ∧ (x37.toInt = v12_ran.toInt + (((needsT v12_ownKind.toInt p1.toInt).length : Nat) : Int)) := ⟨h41, (by omega), (by unfold needsP; rw [if_neg (by omega), if_neg (by omega), if_pos (by omega), e47, hq, hq2]), (by unfold needsT; rw [if_neg (by omega), if_neg (by omega), if_pos (by omega)]; exact hw3), (by unfold needsT; rw [if_neg (by omega), if_neg (by omega), if_pos (by omega)]; exact hl3)⟩
      exact ret _ _ _ _ x46 (x37, g38) dX12_needsAs_70 hpo hP hD hS
    have c2 := ci_eq c2
    refine lv_aload_n hx hb dX12_needsAs_25 rfl (lv_at hl 0 rfl) ?_
    refine lv_bipush (v := 30) hx hb dX12_needsAs_26 (by decide) ?_
    refine kcm_v hA hAB hP hD hS [true, true] rfl (fun _ => rfl) (fun hPc hDc => va_runV (As := [.int 30]) (rest := []) ⟨hx, hb, hml, hown, hts⟩ (k_X12_begins l D κ β a12 r12 v12_keptMany v12_done v12_sheets v12_holes v12_worms v12_laidMany v12_wanted v12_orderMany v12_firstOrder v12_lines v12_marks v12_dots v12_madeIn v12_bound v12_places v12_maps v12_tapeMany v12_stories v12_base v12_at v12_ends v12_fault v12_opened v12_bodies v12_ran v12_ownKind v12_ownNumber f12_trace s.heap.size 30 i1 i2 i3 i4 i5 i6 i7 i8 i9 i10 i11 i12 i13 i14 i15 i16 i17 (by omega)) (cwV 1 hts gX12_needsAs_X12_begins rfl rfl rfl (by decide +kernel) ⟨Nat.le_of_ble_eq_true rfl, Nat.le_of_ble_eq_true rfl⟩) (pk_V hK hS hAB hPc hDc 0 (ci := 12) rfl rfl rfl) rfl rfl hl.1 rfl (lv_room (Nat.le_of_ble_eq_true rfl)) dX12_needsAs_28 ⟨Nat.le_of_ble_eq_true rfl, Nat.le_of_ble_eq_true rfl⟩) (fun u51 H locs hw hPD hS => ?_)
    obtain ⟨x49, g50⟩ := u51
    obtain ⟨h52, h53, h54⟩ : (0 ≤ x49.toInt ∧ x49.toInt ≤ 1000) ∧ (x49.toInt = v12_ran.toInt + 1) ∧ (g50 = wrL f12_trace v12_ran.toInt ([(30 : Int32).toInt])) := hw
    obtain ⟨hP, hD⟩ : PD D A [O12 a12 r12 v12_keptMany v12_done v12_sheets v12_holes v12_worms v12_laidMany v12_wanted v12_orderMany v12_firstOrder v12_lines v12_marks v12_dots v12_madeIn v12_bound v12_places v12_maps v12_tapeMany v12_stories v12_base v12_at v12_ends v12_fault v12_opened v12_bodies x49 v12_ownKind v12_ownNumber, (cI κ (r12 55) 24 g50)] H := hPD
    have hw1 : g50 = wrL f12_trace v12_ran.toInt ([(30 : Int32).toInt]) := by assumption
    have hl1 : x49.toInt = v12_ran.toInt + (((([(30 : Int32).toInt])).length : Nat) : Int) := by first | assumption | (show _ = _ + ((1 : Nat) : Int); omega)
    refine lv_aload_n hx hb dX12_needsAs_31 rfl (lv_at hl 0 rfl) ?_
    refine lv_iconst (v := 0) hx hb dX12_needsAs_32 (by decide) ?_
    refine lv_iload_n hx hb dX12_needsAs_33 rfl (lv_at hl 2 rfl) ?_
    refine kcm_i hA hAB hP hD hS [true, true] rfl (fun _ => rfl) (fun hPc hDc => va_runV (As := [.int 0, .int p2]) (rest := []) ⟨hx, hb, hml, hown, hts⟩ (k_X12_needsAs_0 l D κ β a12 r12 v12_keptMany v12_done v12_sheets v12_holes v12_worms v12_laidMany v12_wanted v12_orderMany v12_firstOrder v12_lines v12_marks v12_dots v12_madeIn v12_bound v12_places v12_maps v12_tapeMany v12_stories v12_base v12_at v12_ends v12_fault v12_opened v12_bodies x49 v12_ownKind v12_ownNumber g50 H.size 0 p2 i1 i2 i3 i4 i5 i6 i7 i8 i9 i10 i11 i12 i13 i14 i15 h52 i17 (by omega) (by omega)) (cwV 2 hts gX12_needsAs_X12_needsAs rfl rfl rfl (by decide +kernel) ⟨Nat.le_of_ble_eq_true rfl, Nat.le_of_ble_eq_true rfl⟩) (pk_V hK hS hAB hPc hDc 0 (ci := 12) rfl rfl rfl) rfl rfl hl.1 rfl (lv_room (Nat.le_of_ble_eq_true rfl)) dX12_needsAs_34 ⟨Nat.le_of_ble_eq_true rfl, Nat.le_of_ble_eq_true rfl⟩) (fun x57 u58 H locs hw hPD hS => ?_)
    obtain ⟨x55, g56⟩ := u58
    obtain ⟨h59, h60, h61, h62, h63⟩ : (0 ≤ x55.toInt ∧ x55.toInt ≤ 1000) ∧ (x49.toInt ≤ x55.toInt ∧ x55.toInt ≤ x49.toInt + 3) ∧ (x57 = liesP v12_ownNumber v12_ownKind.toInt p2 * 2) ∧ (g56 = wrL g50 x49.toInt ([10] ++ liesT v12_ownKind.toInt)) ∧ (x55.toInt = x49.toInt + ((([10] ++ liesT v12_ownKind.toInt).length : Nat) : Int)) := hw
    obtain ⟨hP, hD⟩ : PD D A [O12 a12 r12 v12_keptMany v12_done v12_sheets v12_holes v12_worms v12_laidMany v12_wanted v12_orderMany v12_firstOrder v12_lines v12_marks v12_dots v12_madeIn v12_bound v12_places v12_maps v12_tapeMany v12_stories v12_base v12_at v12_ends v12_fault v12_opened v12_bodies x55 v12_ownKind v12_ownNumber, (cI κ (r12 55) 24 g56)] H := hPD
    have hq : x57 = liesP v12_ownNumber v12_ownKind.toInt p2 * 2 := by assumption
    have hw2 : g56 = wrL f12_trace v12_ran.toInt (([(30 : Int32).toInt]) ++ ([10] ++ liesT v12_ownKind.toInt)) := by rw [wrL_app, ← hw1, ← hl1]; assumption
    have hl2 : x55.toInt = v12_ran.toInt + ((((([(30 : Int32).toInt]) ++ ([10] ++ liesT v12_ownKind.toInt))).length : Nat) : Int) := by rw [List.length_append]; omega
    refine lv_ineg hx hb dX12_needsAs_37 ?_
    refine lv_topi (fun x64 e65 => ?_)
    try have h66 : x64.toInt = -x57.toInt := ci_neg e65 (by omega)
    have hpo : (0 ≤ x55.toInt ∧ x55.toInt ≤ 1000) ∧ (v12_ran.toInt ≤ x55.toInt ∧ x55.toInt ≤ v12_ran.toInt + 8) ∧ (x64 = needsP v12_ownNumber v12_ownKind.toInt p1.toInt p2) ∧ (g56 = wrL f12_trace v12_ran.toInt (needsT v12_ownKind.toInt p1.toInt)) ∧ (x55.toInt = v12_ran.toInt + (((needsT v12_ownKind.toInt p1.toInt).length : Nat) : Int)) := ⟨h59, (by omega), (by unfold needsP; rw [if_neg (by omega), if_pos (by omega), e65, hq]), (by unfold needsT; rw [if_neg (by omega), if_pos (by omega)]; exact hw2), (by unfold needsT; rw [if_neg (by omega), if_pos (by omega)]; exact hl2)⟩
    exact ret _ _ _ _ x64 (x55, g56) dX12_needsAs_38 hpo hP hD hS
  have c1 := ci_eq c1
  refine lv_aload_n hx hb dX12_needsAs_5 rfl (lv_at hl 0 rfl) ?_
  refine lv_bipush (v := 51) hx hb dX12_needsAs_6 (by decide) ?_
  refine kcm_v hA hAB hP hD hS [true, true] rfl (fun _ => rfl) (fun hPc hDc => va_runV (As := [.int 51]) (rest := []) ⟨hx, hb, hml, hown, hts⟩ (k_X12_begins l D κ β a12 r12 v12_keptMany v12_done v12_sheets v12_holes v12_worms v12_laidMany v12_wanted v12_orderMany v12_firstOrder v12_lines v12_marks v12_dots v12_madeIn v12_bound v12_places v12_maps v12_tapeMany v12_stories v12_base v12_at v12_ends v12_fault v12_opened v12_bodies v12_ran v12_ownKind v12_ownNumber f12_trace s.heap.size 51 i1 i2 i3 i4 i5 i6 i7 i8 i9 i10 i11 i12 i13 i14 i15 i16 i17 (by omega)) (cwV 1 hts gX12_needsAs_X12_begins rfl rfl rfl (by decide +kernel) ⟨Nat.le_of_ble_eq_true rfl, Nat.le_of_ble_eq_true rfl⟩) (pk_V hK hS hAB hPc hDc 0 (ci := 12) rfl rfl rfl) rfl rfl hl.1 rfl (lv_room (Nat.le_of_ble_eq_true rfl)) dX12_needsAs_8 ⟨Nat.le_of_ble_eq_true rfl, Nat.le_of_ble_eq_true rfl⟩) (fun u69 H locs hw hPD hS => ?_)
  obtain ⟨x67, g68⟩ := u69
  obtain ⟨h70, h71, h72⟩ : (0 ≤ x67.toInt ∧ x67.toInt ≤ 1000) ∧ (x67.toInt = v12_ran.toInt + 1) ∧ (g68 = wrL f12_trace v12_ran.toInt ([(51 : Int32).toInt])) := hw
  obtain ⟨hP, hD⟩ : PD D A [O12 a12 r12 v12_keptMany v12_done v12_sheets v12_holes v12_worms v12_laidMany v12_wanted v12_orderMany v12_firstOrder v12_lines v12_marks v12_dots v12_madeIn v12_bound v12_places v12_maps v12_tapeMany v12_stories v12_base v12_at v12_ends v12_fault v12_opened v12_bodies x67 v12_ownKind v12_ownNumber, (cI κ (r12 55) 24 g68)] H := hPD
  have hw1 : g68 = wrL f12_trace v12_ran.toInt ([(51 : Int32).toInt]) := by assumption
  have hl1 : x67.toInt = v12_ran.toInt + (((([(51 : Int32).toInt])).length : Nat) : Int) := by first | assumption | (show _ = _ + ((1 : Nat) : Int); omega)
  refine lv_aload_n hx hb dX12_needsAs_11 rfl (lv_at hl 0 rfl) ?_
  refine lv_iconst (v := 2) hx hb dX12_needsAs_12 (by decide) ?_
  refine lv_iload_n hx hb dX12_needsAs_13 rfl (lv_at hl 2 rfl) ?_
  refine lv_iconst (v := 1) hx hb dX12_needsAs_14 (by decide) ?_
  refine lv_iadd hx hb dX12_needsAs_15 ?_
  refine lv_topi (fun x73 e74 => ?_)
  try have h75 : x73.toInt = p2.toInt + (1 : Int32).toInt := ci_add e74 (by omega) (by omega)
  have hx1 : x73 = p2 + 1 := e74
  refine kcm_i hA hAB hP hD hS [true, true] rfl (fun _ => rfl) (fun hPc hDc => va_runV (As := [.int 2, .int x73]) (rest := []) ⟨hx, hb, hml, hown, hts⟩ (k_X12_needsAs_2 l D κ β a12 r12 v12_keptMany v12_done v12_sheets v12_holes v12_worms v12_laidMany v12_wanted v12_orderMany v12_firstOrder v12_lines v12_marks v12_dots v12_madeIn v12_bound v12_places v12_maps v12_tapeMany v12_stories v12_base v12_at v12_ends v12_fault v12_opened v12_bodies x67 v12_ownKind v12_ownNumber g68 H.size 2 x73 i1 i2 i3 i4 i5 i6 i7 i8 i9 i10 i11 i12 i13 i14 i15 h70 i17 (by omega) (by omega)) (cwV 2 hts gX12_needsAs_X12_needsAs rfl rfl rfl (by decide +kernel) ⟨Nat.le_of_ble_eq_true rfl, Nat.le_of_ble_eq_true rfl⟩) (pk_V hK hS hAB hPc hDc 0 (ci := 12) rfl rfl rfl) rfl rfl hl.1 rfl (lv_room (Nat.le_of_ble_eq_true rfl)) dX12_needsAs_16 ⟨Nat.le_of_ble_eq_true rfl, Nat.le_of_ble_eq_true rfl⟩) (fun x78 u79 H locs hw hPD hS => ?_)
  obtain ⟨x76, g77⟩ := u79
  obtain ⟨h80, h81, h82, h83, h84⟩ : (0 ≤ x76.toInt ∧ x76.toInt ≤ 1000) ∧ (x67.toInt ≤ x76.toInt ∧ x76.toInt ≤ x67.toInt + 4) ∧ (x78 = -(liesP v12_ownNumber v12_ownKind.toInt x73 * 2)) ∧ (g77 = wrL g68 x67.toInt ([30, 10] ++ liesT v12_ownKind.toInt)) ∧ (x76.toInt = x67.toInt + ((([30, 10] ++ liesT v12_ownKind.toInt).length : Nat) : Int)) := hw
  obtain ⟨hP, hD⟩ : PD D A [O12 a12 r12 v12_keptMany v12_done v12_sheets v12_holes v12_worms v12_laidMany v12_wanted v12_orderMany v12_firstOrder v12_lines v12_marks v12_dots v12_madeIn v12_bound v12_places v12_maps v12_tapeMany v12_stories v12_base v12_at v12_ends v12_fault v12_opened v12_bodies x76 v12_ownKind v12_ownNumber, (cI κ (r12 55) 24 g77)] H := hPD
  have hq : x78 = -(liesP v12_ownNumber v12_ownKind.toInt (p2 + 1) * 2) := by rw [← hx1]; assumption
  have hw2 : g77 = wrL f12_trace v12_ran.toInt (([(51 : Int32).toInt]) ++ ([30, 10] ++ liesT v12_ownKind.toInt)) := by rw [wrL_app, ← hw1, ← hl1]; assumption
  have hl2 : x76.toInt = v12_ran.toInt + ((((([(51 : Int32).toInt]) ++ ([30, 10] ++ liesT v12_ownKind.toInt))).length : Nat) : Int) := by rw [List.length_append]; omega
  have hpo : (0 ≤ x76.toInt ∧ x76.toInt ≤ 1000) ∧ (v12_ran.toInt ≤ x76.toInt ∧ x76.toInt ≤ v12_ran.toInt + 8) ∧ (x78 = needsP v12_ownNumber v12_ownKind.toInt p1.toInt p2) ∧ (g77 = wrL f12_trace v12_ran.toInt (needsT v12_ownKind.toInt p1.toInt)) ∧ (x76.toInt = v12_ran.toInt + (((needsT v12_ownKind.toInt p1.toInt).length : Nat) : Int)) := ⟨h80, (by omega), (by unfold needsP; rw [if_pos (by omega)]; exact hq), (by unfold needsT; rw [if_pos (by omega)]; exact hw2), (by unfold needsT; rw [if_pos (by omega)]; exact hl2)⟩
  exact ret _ _ _ _ x78 (x76, g77) dX12_needsAs_19 hpo hP hD hS
set_option maxHeartbeats 4000000 in
set_option maxRecDepth 100000 in
theorem k_X12_tellsAs_0 (l : Launch) (D : va_G) (κ : Nat → ClassId) (β : Nat) (a12 : Nat) (r12 : Nat → Nat) (v12_keptMany : Int32) (v12_done : Int32) (v12_sheets : Int32) (v12_holes : Int32) (v12_worms : Int32) (v12_laidMany : Int32) (v12_wanted : Int32) (v12_orderMany : Int32) (v12_firstOrder : Int32) (v12_lines : Int32) (v12_marks : Int32) (v12_dots : Int32) (v12_madeIn : Int32) (v12_bound : Int32) (v12_places : Int32) (v12_maps : Int32) (v12_tapeMany : Int32) (v12_stories : Int32) (v12_base : Int32) (v12_at : Int32) (v12_ends : Int32) (v12_fault : Int32) (v12_opened : Int32) (v12_bodies : Int32) (v12_ran : Int32) (v12_ownKind : Int32) (v12_ownNumber : Int32) (f12_trace : Nat → Int32) (sz : Nat) (p1 : Int32) (p2 : Int32) (i1 : Rg 0 40 v12_keptMany) (i2 : Rg 0 40 v12_done) (i3 : Rg 0 8 v12_sheets) (i4 : Rg 0 40 v12_holes) (i5 : Rg 0 40 v12_worms) (i6 : Rg 0 8 v12_laidMany) (i7 : Rg 0 8 v12_wanted) (i8 : Rg 0 20 v12_lines) (i9 : Rg 0 60 v12_marks) (i10 : Rg 0 40 v12_dots) (i11 : Rg 0 20 v12_places) (i12 : Rg 0 8 v12_maps) (i13 : Rg 0 120 v12_tapeMany) (i14 : Rg 0 6 v12_stories) (i15 : Rg 0 50 v12_bodies) (i16 : Rg 0 1000 v12_ran) (i17 : v12_done.toInt ≤ v12_keptMany.toInt) (i18 : p1.toInt ≠ 4 ∧ p1.toInt ≠ 7) (i19 : v12_ran.toInt ≤ 840) : Met l yX12_tellsAs wsX12_tellsAs ({ frames := 6, cells := 0, slots := 0, locals := 134 } : Room) (PcK D κ β [O12 a12 r12 v12_keptMany v12_done v12_sheets v12_holes v12_worms v12_laidMany v12_wanted v12_orderMany v12_firstOrder v12_lines v12_marks v12_dots v12_madeIn v12_bound v12_places v12_maps v12_tapeMany v12_stories v12_base v12_at v12_ends v12_fault v12_opened v12_bodies v12_ran v12_ownKind v12_ownNumber, (cI κ (r12 55) 24 f12_trace)] sz [.ref a12, .int p1, .int p2]) (QiK D (fun (r : Int32) (u : Int32 × (Nat → Int32)) => (0 ≤ u.1.toInt ∧ u.1.toInt ≤ 1000) ∧ (v12_ran.toInt ≤ u.1.toInt ∧ u.1.toInt ≤ v12_ran.toInt + 13) ∧ (r = needsP v12_ownNumber v12_ownKind.toInt v12_ownKind.toInt p2 - showsP v12_ownNumber v12_ownKind.toInt v12_ownKind.toInt 1) ∧ (u.2 = wrL f12_trace v12_ran.toInt ([2] ++ needsT v12_ownKind.toInt v12_ownKind.toInt ++ showsT v12_ownKind.toInt v12_ownKind.toInt)) ∧ (u.1.toInt = v12_ran.toInt + ((([2] ++ needsT v12_ownKind.toInt v12_ownKind.toInt ++ showsT v12_ownKind.toInt v12_ownKind.toInt).length : Nat) : Int))) (fun (u : Int32 × (Nat → Int32)) => [O12 a12 r12 v12_keptMany v12_done v12_sheets v12_holes v12_worms v12_laidMany v12_wanted v12_orderMany v12_firstOrder v12_lines v12_marks v12_dots v12_madeIn v12_bound v12_places v12_maps v12_tapeMany v12_stories v12_base v12_at v12_ends v12_fault v12_opened v12_bodies u.1 v12_ownKind v12_ownNumber, (cI κ (r12 55) 24 u.2)]) [O12 a12 r12 v12_keptMany v12_done v12_sheets v12_holes v12_worms v12_laidMany v12_wanted v12_orderMany v12_firstOrder v12_lines v12_marks v12_dots v12_madeIn v12_bound v12_places v12_maps v12_tapeMany v12_stories v12_base v12_at v12_ends v12_fault v12_opened v12_bodies v12_ran v12_ownKind v12_ownNumber, (cI κ (r12 55) 24 f12_trace)] sz) 0 0 (va_A [O12 a12 r12 v12_keptMany v12_done v12_sheets v12_holes v12_worms v12_laidMany v12_wanted v12_orderMany v12_firstOrder v12_lines v12_marks v12_dots v12_madeIn v12_bound v12_places v12_maps v12_tapeMany v12_stories v12_base v12_at v12_ends v12_fault v12_opened v12_bodies v12_ran v12_ownKind v12_ownNumber, (cI κ (r12 55) 24 f12_trace)] sz) := by
  refine ofK_i (cc := cX12_tellsAs) (maxL := 4) (own := RX12) (by decide) rfl rfl (Nat.le_of_ble_eq_true rfl) ?_
  intro p e s m args below meth c Q A ls hsz hx hb hml hts hown hK hA hAB hP hD hl ret
  have hS : va_S A s.heap s.heap [] := va_S.rf
  have hl : lv_has ls 4 [(0, .ref a12), (1, .int p1), (2, .int p2)] := hl
  have w0 := hts (.fieldLink RX12 398 "OlderSkinModel" "ownKind" "I") (List.mem_of_getElem? (i := 1) rfl)
  have w1 := (fun w h => List.mem_cons_of_mem _ (List.mem_append_right _ h) : ∀ w ∈ u_ws RX12 TX12 63, w ∈ wsX12_tellsAs)
  have l0 : (4 : Int32).toInt = 4 := by decide
  have l1 : (0 : Int32).toInt = 0 := by decide
  have l2 : (7 : Int32).toInt = 7 := by decide
  have l3 : (2 : Int32).toInt = 2 := by decide
  have l4 : (1 : Int32).toInt = 1 := by decide
  have i16 : 0 ≤ v12_ran.toInt ∧ v12_ran.toInt ≤ 1000 := i16
  refine lv_iload_n hx hb dX12_tellsAs_0 rfl (lv_at hl 1 rfl) ?_
  refine lv_iconst (v := 4) hx hb dX12_tellsAs_1 (by decide) ?_
  refine lv_icmp_ne (tgt := 20) hx hb dX12_tellsAs_2 (by decide) (fun c1 => ?_) (fun c1 => ?_)
  · have c1 := ci_ne c1
    refine lv_iload_n hx hb dX12_tellsAs_20 rfl (lv_at hl 1 rfl) ?_
    refine lv_bipush (v := 7) hx hb dX12_tellsAs_21 (by decide) ?_
    refine lv_icmp_ne (tgt := 42) hx hb dX12_tellsAs_23 (by decide) (fun c2 => ?_) (fun c2 => ?_)
    · have c2 := ci_ne c2
      refine lv_aload_n hx hb dX12_tellsAs_42 rfl (lv_at hl 0 rfl) ?_
      refine lv_iconst (v := 2) hx hb dX12_tellsAs_43 (by decide) ?_
      refine kcm_v hA hAB hP hD hS [true, true] rfl (fun _ => rfl) (fun hPc hDc => va_runV (As := [.int 2]) (rest := []) ⟨hx, hb, hml, hown, hts⟩ (k_X12_begins l D κ β a12 r12 v12_keptMany v12_done v12_sheets v12_holes v12_worms v12_laidMany v12_wanted v12_orderMany v12_firstOrder v12_lines v12_marks v12_dots v12_madeIn v12_bound v12_places v12_maps v12_tapeMany v12_stories v12_base v12_at v12_ends v12_fault v12_opened v12_bodies v12_ran v12_ownKind v12_ownNumber f12_trace s.heap.size 2 i1 i2 i3 i4 i5 i6 i7 i8 i9 i10 i11 i12 i13 i14 i15 i16 i17 (by omega)) (cwV 1 hts gX12_tellsAs_X12_begins rfl rfl rfl (by decide +kernel) ⟨Nat.le_of_ble_eq_true rfl, Nat.le_of_ble_eq_true rfl⟩) (pk_V hK hS hAB hPc hDc 0 (ci := 12) rfl rfl rfl) rfl rfl hl.1 rfl (lv_room (Nat.le_of_ble_eq_true rfl)) dX12_tellsAs_44 ⟨Nat.le_of_ble_eq_true rfl, Nat.le_of_ble_eq_true rfl⟩) (fun u5 H locs hw hPD hS => ?_)
      obtain ⟨x3, g4⟩ := u5
      obtain ⟨h6, h7, h8⟩ : (0 ≤ x3.toInt ∧ x3.toInt ≤ 1000) ∧ (x3.toInt = v12_ran.toInt + 1) ∧ (g4 = wrL f12_trace v12_ran.toInt ([(2 : Int32).toInt])) := hw
      obtain ⟨hP, hD⟩ : PD D A [O12 a12 r12 v12_keptMany v12_done v12_sheets v12_holes v12_worms v12_laidMany v12_wanted v12_orderMany v12_firstOrder v12_lines v12_marks v12_dots v12_madeIn v12_bound v12_places v12_maps v12_tapeMany v12_stories v12_base v12_at v12_ends v12_fault v12_opened v12_bodies x3 v12_ownKind v12_ownNumber, (cI κ (r12 55) 24 g4)] H := hPD
      have hw1 : g4 = wrL f12_trace v12_ran.toInt ([(2 : Int32).toInt]) := by assumption
      have hl1 : x3.toInt = v12_ran.toInt + (((([(2 : Int32).toInt])).length : Nat) : Int) := by first | assumption | (show _ = _ + ((1 : Nat) : Int); omega)
      refine lv_aload_n hx hb dX12_tellsAs_47 rfl (lv_at hl 0 rfl) ?_
      refine lv_aload_n hx hb dX12_tellsAs_48 rfl (lv_at hl 0 rfl) ?_
      refine va_get (D := D) (ci := 12) (v := .int v12_ownKind) (C := RX12) (T := TX12) (N := 63) hx hb hts w1 hown hK.1 hP 0 rfl rfl 57 (by decide) w0 (fun _ h9 => h9) rfl dX12_tellsAs_49 ?_
      refine lv_iload_n hx hb dX12_tellsAs_52 rfl (lv_at hl 2 rfl) ?_
      refine kcm_i hA hAB hP hD hS [true, true] rfl (fun _ => rfl) (fun hPc hDc => va_runV (As := [.int v12_ownKind, .int p2]) (rest := []) ⟨hx, hb, hml, hown, hts⟩ (k_X12_needsAs l D κ β a12 r12 v12_keptMany v12_done v12_sheets v12_holes v12_worms v12_laidMany v12_wanted v12_orderMany v12_firstOrder v12_lines v12_marks v12_dots v12_madeIn v12_bound v12_places v12_maps v12_tapeMany v12_stories v12_base v12_at v12_ends v12_fault v12_opened v12_bodies x3 v12_ownKind v12_ownNumber g4 H.size v12_ownKind p2 i1 i2 i3 i4 i5 i6 i7 i8 i9 i10 i11 i12 i13 i14 i15 h6 i17 (by omega)) (cwV 2 hts gX12_tellsAs_X12_needsAs rfl rfl rfl (by decide +kernel) ⟨Nat.le_of_ble_eq_true rfl, Nat.le_of_ble_eq_true rfl⟩) (pk_V hK hS hAB hPc hDc 0 (ci := 12) rfl rfl rfl) rfl rfl hl.1 rfl (lv_room (Nat.le_of_ble_eq_true rfl)) dX12_tellsAs_53 ⟨Nat.le_of_ble_eq_true rfl, Nat.le_of_ble_eq_true rfl⟩) (fun x11 u12 H locs hw hPD hS => ?_)
      obtain ⟨x9, g10⟩ := u12
      obtain ⟨h13, h14, h15, h16, h17⟩ : (0 ≤ x9.toInt ∧ x9.toInt ≤ 1000) ∧ (x3.toInt ≤ x9.toInt ∧ x9.toInt ≤ x3.toInt + 8) ∧ (x11 = needsP v12_ownNumber v12_ownKind.toInt v12_ownKind.toInt p2) ∧ (g10 = wrL g4 x3.toInt (needsT v12_ownKind.toInt v12_ownKind.toInt)) ∧ (x9.toInt = x3.toInt + (((needsT v12_ownKind.toInt v12_ownKind.toInt).length : Nat) : Int)) := hw
      obtain ⟨hP, hD⟩ : PD D A [O12 a12 r12 v12_keptMany v12_done v12_sheets v12_holes v12_worms v12_laidMany v12_wanted v12_orderMany v12_firstOrder v12_lines v12_marks v12_dots v12_madeIn v12_bound v12_places v12_maps v12_tapeMany v12_stories v12_base v12_at v12_ends v12_fault v12_opened v12_bodies x9 v12_ownKind v12_ownNumber, (cI κ (r12 55) 24 g10)] H := hPD
      have hq : x11 = needsP v12_ownNumber v12_ownKind.toInt v12_ownKind.toInt p2 := by assumption
      have hw2 : g10 = wrL f12_trace v12_ran.toInt (([(2 : Int32).toInt]) ++ (needsT v12_ownKind.toInt v12_ownKind.toInt)) := by rw [wrL_app, ← hw1, ← hl1]; assumption
      have hl2 : x9.toInt = v12_ran.toInt + ((((([(2 : Int32).toInt]) ++ (needsT v12_ownKind.toInt v12_ownKind.toInt))).length : Nat) : Int) := by rw [List.length_append]; omega
      refine lv_istore_n (lv' := [(3, .int x11), (0, .ref a12), (1, .int p1), (2, .int p2)]) hx hb dX12_tellsAs_56 rfl hl (by decide) rfl (fun ls hl => ?_)
      refine lv_iload_n hx hb dX12_tellsAs_57 rfl (lv_at hl 0 rfl) ?_
      refine lv_aload_n hx hb dX12_tellsAs_58 rfl (lv_at hl 1 rfl) ?_
      refine lv_aload_n hx hb dX12_tellsAs_59 rfl (lv_at hl 1 rfl) ?_
      refine va_get (D := D) (ci := 12) (v := .int v12_ownKind) (C := RX12) (T := TX12) (N := 63) hx hb hts w1 hown hK.1 hP 0 rfl rfl 57 (by decide) w0 (fun _ h9 => h9) rfl dX12_tellsAs_60 ?_
      refine lv_iconst (v := 1) hx hb dX12_tellsAs_63 (by decide) ?_
      refine kcm_i hA hAB hP hD hS [true, true] rfl (fun _ => rfl) (fun hPc hDc => va_runV (As := [.int v12_ownKind, .int 1]) (rest := [.int x11]) ⟨hx, hb, hml, hown, hts⟩ (k_X12_showsAs l D κ β a12 r12 v12_keptMany v12_done v12_sheets v12_holes v12_worms v12_laidMany v12_wanted v12_orderMany v12_firstOrder v12_lines v12_marks v12_dots v12_madeIn v12_bound v12_places v12_maps v12_tapeMany v12_stories v12_base v12_at v12_ends v12_fault v12_opened v12_bodies x9 v12_ownKind v12_ownNumber g10 H.size v12_ownKind 1 i1 i2 i3 i4 i5 i6 i7 i8 i9 i10 i11 i12 i13 i14 i15 h13 i17 (by omega)) (cwV 2 hts gX12_tellsAs_X12_showsAs rfl rfl rfl (by decide +kernel) ⟨Nat.le_of_ble_eq_true rfl, Nat.le_of_ble_eq_true rfl⟩) (pk_V hK hS hAB hPc hDc 0 (ci := 12) rfl rfl rfl) rfl rfl hl.1 rfl (lv_room (Nat.le_of_ble_eq_true rfl)) dX12_tellsAs_64 ⟨Nat.le_of_ble_eq_true rfl, Nat.le_of_ble_eq_true rfl⟩) (fun x20 u21 H locs hw hPD hS => ?_)
      obtain ⟨x18, g19⟩ := u21
      obtain ⟨h22, h23, h24, h25, h26⟩ : (0 ≤ x18.toInt ∧ x18.toInt ≤ 1000) ∧ (x9.toInt ≤ x18.toInt ∧ x18.toInt ≤ x9.toInt + 4) ∧ (x20 = showsP v12_ownNumber v12_ownKind.toInt v12_ownKind.toInt (1 : Int32)) ∧ (g19 = wrL g10 x9.toInt (showsT v12_ownKind.toInt v12_ownKind.toInt)) ∧ (x18.toInt = x9.toInt + (((showsT v12_ownKind.toInt v12_ownKind.toInt).length : Nat) : Int)) := hw
      obtain ⟨hP, hD⟩ : PD D A [O12 a12 r12 v12_keptMany v12_done v12_sheets v12_holes v12_worms v12_laidMany v12_wanted v12_orderMany v12_firstOrder v12_lines v12_marks v12_dots v12_madeIn v12_bound v12_places v12_maps v12_tapeMany v12_stories v12_base v12_at v12_ends v12_fault v12_opened v12_bodies x18 v12_ownKind v12_ownNumber, (cI κ (r12 55) 24 g19)] H := hPD
      have hq2 : x20 = showsP v12_ownNumber v12_ownKind.toInt v12_ownKind.toInt (1 : Int32) := by assumption
      have hw3 : g19 = wrL f12_trace v12_ran.toInt (([(2 : Int32).toInt] ++ needsT v12_ownKind.toInt v12_ownKind.toInt) ++ (showsT v12_ownKind.toInt v12_ownKind.toInt)) := by rw [wrL_app, ← hw2, ← hl2]; assumption
      have hl3 : x18.toInt = v12_ran.toInt + ((((([(2 : Int32).toInt] ++ needsT v12_ownKind.toInt v12_ownKind.toInt) ++ (showsT v12_ownKind.toInt v12_ownKind.toInt))).length : Nat) : Int) := by rw [List.length_append]; omega
      refine lv_isub hx hb dX12_tellsAs_67 ?_
      refine lv_topi (fun x27 e28 => ?_)
      try have h29 : x27.toInt = x11.toInt - x20.toInt := ci_sub e28 (by omega) (by omega)
      have hpo : (0 ≤ x18.toInt ∧ x18.toInt ≤ 1000) ∧ (v12_ran.toInt ≤ x18.toInt ∧ x18.toInt ≤ v12_ran.toInt + 13) ∧ (x27 = needsP v12_ownNumber v12_ownKind.toInt v12_ownKind.toInt p2 - showsP v12_ownNumber v12_ownKind.toInt v12_ownKind.toInt 1) ∧ (g19 = wrL f12_trace v12_ran.toInt ([2] ++ needsT v12_ownKind.toInt v12_ownKind.toInt ++ showsT v12_ownKind.toInt v12_ownKind.toInt)) ∧ (x18.toInt = v12_ran.toInt + ((([2] ++ needsT v12_ownKind.toInt v12_ownKind.toInt ++ showsT v12_ownKind.toInt v12_ownKind.toInt).length : Nat) : Int)) := ⟨h22, (by omega), (by rw [e28, hq, hq2]), (by exact hw3), (by exact hl3)⟩
      exact ret _ _ _ _ x27 (x18, g19) dX12_tellsAs_68 hpo hP hD hS
    have c2 := ci_eq c2
    exfalso
    omega
  have c1 := ci_eq c1
  exfalso
  omega
set_option maxHeartbeats 4000000 in
set_option maxRecDepth 100000 in
theorem k_X12_tellsAs (l : Launch) (D : va_G) (κ : Nat → ClassId) (β : Nat) (a12 : Nat) (r12 : Nat → Nat) (v12_keptMany : Int32) (v12_done : Int32) (v12_sheets : Int32) (v12_holes : Int32) (v12_worms : Int32) (v12_laidMany : Int32) (v12_wanted : Int32) (v12_orderMany : Int32) (v12_firstOrder : Int32) (v12_lines : Int32) (v12_marks : Int32) (v12_dots : Int32) (v12_madeIn : Int32) (v12_bound : Int32) (v12_places : Int32) (v12_maps : Int32) (v12_tapeMany : Int32) (v12_stories : Int32) (v12_base : Int32) (v12_at : Int32) (v12_ends : Int32) (v12_fault : Int32) (v12_opened : Int32) (v12_bodies : Int32) (v12_ran : Int32) (v12_ownKind : Int32) (v12_ownNumber : Int32) (f12_trace : Nat → Int32) (sz : Nat) (p1 : Int32) (p2 : Int32) (i1 : Rg 0 40 v12_keptMany) (i2 : Rg 0 40 v12_done) (i3 : Rg 0 8 v12_sheets) (i4 : Rg 0 40 v12_holes) (i5 : Rg 0 40 v12_worms) (i6 : Rg 0 8 v12_laidMany) (i7 : Rg 0 8 v12_wanted) (i8 : Rg 0 20 v12_lines) (i9 : Rg 0 60 v12_marks) (i10 : Rg 0 40 v12_dots) (i11 : Rg 0 20 v12_places) (i12 : Rg 0 8 v12_maps) (i13 : Rg 0 120 v12_tapeMany) (i14 : Rg 0 6 v12_stories) (i15 : Rg 0 50 v12_bodies) (i16 : Rg 0 1000 v12_ran) (i17 : v12_done.toInt ≤ v12_keptMany.toInt) (i18 : v12_ran.toInt ≤ 830) : Met l yX12_tellsAs wsX12_tellsAs ({ frames := 7, cells := 0, slots := 0, locals := 157 } : Room) (PcK D κ β [O12 a12 r12 v12_keptMany v12_done v12_sheets v12_holes v12_worms v12_laidMany v12_wanted v12_orderMany v12_firstOrder v12_lines v12_marks v12_dots v12_madeIn v12_bound v12_places v12_maps v12_tapeMany v12_stories v12_base v12_at v12_ends v12_fault v12_opened v12_bodies v12_ran v12_ownKind v12_ownNumber, (cI κ (r12 55) 24 f12_trace)] sz [.ref a12, .int p1, .int p2]) (QiK D (fun (r : Int32) (u : Int32 × (Nat → Int32)) => (0 ≤ u.1.toInt ∧ u.1.toInt ≤ 1000) ∧ (v12_ran.toInt ≤ u.1.toInt ∧ u.1.toInt ≤ v12_ran.toInt + 14) ∧ (r = tellsP v12_ownNumber v12_ownKind.toInt p1.toInt p2) ∧ (u.2 = wrL f12_trace v12_ran.toInt (tellsT v12_ownKind.toInt p1.toInt)) ∧ (u.1.toInt = v12_ran.toInt + (((tellsT v12_ownKind.toInt p1.toInt).length : Nat) : Int))) (fun (u : Int32 × (Nat → Int32)) => [O12 a12 r12 v12_keptMany v12_done v12_sheets v12_holes v12_worms v12_laidMany v12_wanted v12_orderMany v12_firstOrder v12_lines v12_marks v12_dots v12_madeIn v12_bound v12_places v12_maps v12_tapeMany v12_stories v12_base v12_at v12_ends v12_fault v12_opened v12_bodies u.1 v12_ownKind v12_ownNumber, (cI κ (r12 55) 24 u.2)]) [O12 a12 r12 v12_keptMany v12_done v12_sheets v12_holes v12_worms v12_laidMany v12_wanted v12_orderMany v12_firstOrder v12_lines v12_marks v12_dots v12_madeIn v12_bound v12_places v12_maps v12_tapeMany v12_stories v12_base v12_at v12_ends v12_fault v12_opened v12_bodies v12_ran v12_ownKind v12_ownNumber, (cI κ (r12 55) 24 f12_trace)] sz) 0 0 (va_A [O12 a12 r12 v12_keptMany v12_done v12_sheets v12_holes v12_worms v12_laidMany v12_wanted v12_orderMany v12_firstOrder v12_lines v12_marks v12_dots v12_madeIn v12_bound v12_places v12_maps v12_tapeMany v12_stories v12_base v12_at v12_ends v12_fault v12_opened v12_bodies v12_ran v12_ownKind v12_ownNumber, (cI κ (r12 55) 24 f12_trace)] sz) := by
  refine ofK_i (cc := cX12_tellsAs) (maxL := 4) (own := RX12) (by decide) rfl rfl (Nat.le_of_ble_eq_true rfl) ?_
  intro p e s m args below meth c Q A ls hsz hx hb hml hts hown hK hA hAB hP hD hl ret
  have hS : va_S A s.heap s.heap [] := va_S.rf
  have hl : lv_has ls 4 [(0, .ref a12), (1, .int p1), (2, .int p2)] := hl
  have w0 := hts (.fieldLink RX12 398 "OlderSkinModel" "ownKind" "I") (List.mem_of_getElem? (i := 1) rfl)
  have w1 := (fun w h => List.mem_cons_of_mem _ (List.mem_append_right _ h) : ∀ w ∈ u_ws RX12 TX12 63, w ∈ wsX12_tellsAs)
  have l0 : (4 : Int32).toInt = 4 := by decide
  have l1 : (0 : Int32).toInt = 0 := by decide
  have l2 : (7 : Int32).toInt = 7 := by decide
  have l3 : (2 : Int32).toInt = 2 := by decide
  have l4 : (1 : Int32).toInt = 1 := by decide
  have l5 : (81 : Int32).toInt = 81 := by decide
  have l6 : (6 : Int32).toInt = 6 := by decide
  have l7 : (50 : Int32).toInt = 50 := by decide
  have l8 : (5 : Int32).toInt = 5 := by decide
  have i16 : 0 ≤ v12_ran.toInt ∧ v12_ran.toInt ≤ 1000 := i16
  refine lv_iload_n hx hb dX12_tellsAs_0 rfl (lv_at hl 1 rfl) ?_
  refine lv_iconst (v := 4) hx hb dX12_tellsAs_1 (by decide) ?_
  refine lv_icmp_ne (tgt := 20) hx hb dX12_tellsAs_2 (by decide) (fun c1 => ?_) (fun c1 => ?_)
  · have c1 := ci_ne c1
    refine lv_iload_n hx hb dX12_tellsAs_20 rfl (lv_at hl 1 rfl) ?_
    refine lv_bipush (v := 7) hx hb dX12_tellsAs_21 (by decide) ?_
    refine lv_icmp_ne (tgt := 42) hx hb dX12_tellsAs_23 (by decide) (fun c2 => ?_) (fun c2 => ?_)
    · have c2 := ci_ne c2
      refine lv_aload_n hx hb dX12_tellsAs_42 rfl (lv_at hl 0 rfl) ?_
      refine lv_iconst (v := 2) hx hb dX12_tellsAs_43 (by decide) ?_
      refine kcm_v hA hAB hP hD hS [true, true] rfl (fun _ => rfl) (fun hPc hDc => va_runV (As := [.int 2]) (rest := []) ⟨hx, hb, hml, hown, hts⟩ (k_X12_begins l D κ β a12 r12 v12_keptMany v12_done v12_sheets v12_holes v12_worms v12_laidMany v12_wanted v12_orderMany v12_firstOrder v12_lines v12_marks v12_dots v12_madeIn v12_bound v12_places v12_maps v12_tapeMany v12_stories v12_base v12_at v12_ends v12_fault v12_opened v12_bodies v12_ran v12_ownKind v12_ownNumber f12_trace s.heap.size 2 i1 i2 i3 i4 i5 i6 i7 i8 i9 i10 i11 i12 i13 i14 i15 i16 i17 (by omega)) (cwV 1 hts gX12_tellsAs_X12_begins rfl rfl rfl (by decide +kernel) ⟨Nat.le_of_ble_eq_true rfl, Nat.le_of_ble_eq_true rfl⟩) (pk_V hK hS hAB hPc hDc 0 (ci := 12) rfl rfl rfl) rfl rfl hl.1 rfl (lv_room (Nat.le_of_ble_eq_true rfl)) dX12_tellsAs_44 ⟨Nat.le_of_ble_eq_true rfl, Nat.le_of_ble_eq_true rfl⟩) (fun u5 H locs hw hPD hS => ?_)
      obtain ⟨x3, g4⟩ := u5
      obtain ⟨h6, h7, h8⟩ : (0 ≤ x3.toInt ∧ x3.toInt ≤ 1000) ∧ (x3.toInt = v12_ran.toInt + 1) ∧ (g4 = wrL f12_trace v12_ran.toInt ([(2 : Int32).toInt])) := hw
      obtain ⟨hP, hD⟩ : PD D A [O12 a12 r12 v12_keptMany v12_done v12_sheets v12_holes v12_worms v12_laidMany v12_wanted v12_orderMany v12_firstOrder v12_lines v12_marks v12_dots v12_madeIn v12_bound v12_places v12_maps v12_tapeMany v12_stories v12_base v12_at v12_ends v12_fault v12_opened v12_bodies x3 v12_ownKind v12_ownNumber, (cI κ (r12 55) 24 g4)] H := hPD
      have hw1 : g4 = wrL f12_trace v12_ran.toInt ([(2 : Int32).toInt]) := by assumption
      have hl1 : x3.toInt = v12_ran.toInt + (((([(2 : Int32).toInt])).length : Nat) : Int) := by first | assumption | (show _ = _ + ((1 : Nat) : Int); omega)
      refine lv_aload_n hx hb dX12_tellsAs_47 rfl (lv_at hl 0 rfl) ?_
      refine lv_aload_n hx hb dX12_tellsAs_48 rfl (lv_at hl 0 rfl) ?_
      refine va_get (D := D) (ci := 12) (v := .int v12_ownKind) (C := RX12) (T := TX12) (N := 63) hx hb hts w1 hown hK.1 hP 0 rfl rfl 57 (by decide) w0 (fun _ h9 => h9) rfl dX12_tellsAs_49 ?_
      refine lv_iload_n hx hb dX12_tellsAs_52 rfl (lv_at hl 2 rfl) ?_
      refine kcm_i hA hAB hP hD hS [true, true] rfl (fun _ => rfl) (fun hPc hDc => va_runV (As := [.int v12_ownKind, .int p2]) (rest := []) ⟨hx, hb, hml, hown, hts⟩ (k_X12_needsAs l D κ β a12 r12 v12_keptMany v12_done v12_sheets v12_holes v12_worms v12_laidMany v12_wanted v12_orderMany v12_firstOrder v12_lines v12_marks v12_dots v12_madeIn v12_bound v12_places v12_maps v12_tapeMany v12_stories v12_base v12_at v12_ends v12_fault v12_opened v12_bodies x3 v12_ownKind v12_ownNumber g4 H.size v12_ownKind p2 i1 i2 i3 i4 i5 i6 i7 i8 i9 i10 i11 i12 i13 i14 i15 h6 i17 (by omega)) (cwV 2 hts gX12_tellsAs_X12_needsAs rfl rfl rfl (by decide +kernel) ⟨Nat.le_of_ble_eq_true rfl, Nat.le_of_ble_eq_true rfl⟩) (pk_V hK hS hAB hPc hDc 0 (ci := 12) rfl rfl rfl) rfl rfl hl.1 rfl (lv_room (Nat.le_of_ble_eq_true rfl)) dX12_tellsAs_53 ⟨Nat.le_of_ble_eq_true rfl, Nat.le_of_ble_eq_true rfl⟩) (fun x11 u12 H locs hw hPD hS => ?_)
      obtain ⟨x9, g10⟩ := u12
      obtain ⟨h13, h14, h15, h16, h17⟩ : (0 ≤ x9.toInt ∧ x9.toInt ≤ 1000) ∧ (x3.toInt ≤ x9.toInt ∧ x9.toInt ≤ x3.toInt + 8) ∧ (x11 = needsP v12_ownNumber v12_ownKind.toInt v12_ownKind.toInt p2) ∧ (g10 = wrL g4 x3.toInt (needsT v12_ownKind.toInt v12_ownKind.toInt)) ∧ (x9.toInt = x3.toInt + (((needsT v12_ownKind.toInt v12_ownKind.toInt).length : Nat) : Int)) := hw
      obtain ⟨hP, hD⟩ : PD D A [O12 a12 r12 v12_keptMany v12_done v12_sheets v12_holes v12_worms v12_laidMany v12_wanted v12_orderMany v12_firstOrder v12_lines v12_marks v12_dots v12_madeIn v12_bound v12_places v12_maps v12_tapeMany v12_stories v12_base v12_at v12_ends v12_fault v12_opened v12_bodies x9 v12_ownKind v12_ownNumber, (cI κ (r12 55) 24 g10)] H := hPD
      have hq : x11 = needsP v12_ownNumber v12_ownKind.toInt v12_ownKind.toInt p2 := by assumption
      have hw2 : g10 = wrL f12_trace v12_ran.toInt (([(2 : Int32).toInt]) ++ (needsT v12_ownKind.toInt v12_ownKind.toInt)) := by rw [wrL_app, ← hw1, ← hl1]; assumption
      have hl2 : x9.toInt = v12_ran.toInt + ((((([(2 : Int32).toInt]) ++ (needsT v12_ownKind.toInt v12_ownKind.toInt))).length : Nat) : Int) := by rw [List.length_append]; omega
      refine lv_istore_n (lv' := [(3, .int x11), (0, .ref a12), (1, .int p1), (2, .int p2)]) hx hb dX12_tellsAs_56 rfl hl (by decide) rfl (fun ls hl => ?_)
      refine lv_iload_n hx hb dX12_tellsAs_57 rfl (lv_at hl 0 rfl) ?_
      refine lv_aload_n hx hb dX12_tellsAs_58 rfl (lv_at hl 1 rfl) ?_
      refine lv_aload_n hx hb dX12_tellsAs_59 rfl (lv_at hl 1 rfl) ?_
      refine va_get (D := D) (ci := 12) (v := .int v12_ownKind) (C := RX12) (T := TX12) (N := 63) hx hb hts w1 hown hK.1 hP 0 rfl rfl 57 (by decide) w0 (fun _ h9 => h9) rfl dX12_tellsAs_60 ?_
      refine lv_iconst (v := 1) hx hb dX12_tellsAs_63 (by decide) ?_
      refine kcm_i hA hAB hP hD hS [true, true] rfl (fun _ => rfl) (fun hPc hDc => va_runV (As := [.int v12_ownKind, .int 1]) (rest := [.int x11]) ⟨hx, hb, hml, hown, hts⟩ (k_X12_showsAs l D κ β a12 r12 v12_keptMany v12_done v12_sheets v12_holes v12_worms v12_laidMany v12_wanted v12_orderMany v12_firstOrder v12_lines v12_marks v12_dots v12_madeIn v12_bound v12_places v12_maps v12_tapeMany v12_stories v12_base v12_at v12_ends v12_fault v12_opened v12_bodies x9 v12_ownKind v12_ownNumber g10 H.size v12_ownKind 1 i1 i2 i3 i4 i5 i6 i7 i8 i9 i10 i11 i12 i13 i14 i15 h13 i17 (by omega)) (cwV 2 hts gX12_tellsAs_X12_showsAs rfl rfl rfl (by decide +kernel) ⟨Nat.le_of_ble_eq_true rfl, Nat.le_of_ble_eq_true rfl⟩) (pk_V hK hS hAB hPc hDc 0 (ci := 12) rfl rfl rfl) rfl rfl hl.1 rfl (lv_room (Nat.le_of_ble_eq_true rfl)) dX12_tellsAs_64 ⟨Nat.le_of_ble_eq_true rfl, Nat.le_of_ble_eq_true rfl⟩) (fun x20 u21 H locs hw hPD hS => ?_)
      obtain ⟨x18, g19⟩ := u21
      obtain ⟨h22, h23, h24, h25, h26⟩ : (0 ≤ x18.toInt ∧ x18.toInt ≤ 1000) ∧ (x9.toInt ≤ x18.toInt ∧ x18.toInt ≤ x9.toInt + 4) ∧ (x20 = showsP v12_ownNumber v12_ownKind.toInt v12_ownKind.toInt (1 : Int32)) ∧ (g19 = wrL g10 x9.toInt (showsT v12_ownKind.toInt v12_ownKind.toInt)) ∧ (x18.toInt = x9.toInt + (((showsT v12_ownKind.toInt v12_ownKind.toInt).length : Nat) : Int)) := hw
      obtain ⟨hP, hD⟩ : PD D A [O12 a12 r12 v12_keptMany v12_done v12_sheets v12_holes v12_worms v12_laidMany v12_wanted v12_orderMany v12_firstOrder v12_lines v12_marks v12_dots v12_madeIn v12_bound v12_places v12_maps v12_tapeMany v12_stories v12_base v12_at v12_ends v12_fault v12_opened v12_bodies x18 v12_ownKind v12_ownNumber, (cI κ (r12 55) 24 g19)] H := hPD
      have hq2 : x20 = showsP v12_ownNumber v12_ownKind.toInt v12_ownKind.toInt (1 : Int32) := by assumption
      have hw3 : g19 = wrL f12_trace v12_ran.toInt (([(2 : Int32).toInt] ++ needsT v12_ownKind.toInt v12_ownKind.toInt) ++ (showsT v12_ownKind.toInt v12_ownKind.toInt)) := by rw [wrL_app, ← hw2, ← hl2]; assumption
      have hl3 : x18.toInt = v12_ran.toInt + ((((([(2 : Int32).toInt] ++ needsT v12_ownKind.toInt v12_ownKind.toInt) ++ (showsT v12_ownKind.toInt v12_ownKind.toInt))).length : Nat) : Int) := by rw [List.length_append]; omega
      refine lv_isub hx hb dX12_tellsAs_67 ?_
      refine lv_topi (fun x27 e28 => ?_)
      try have h29 : x27.toInt = x11.toInt - x20.toInt := ci_sub e28 (by omega) (by omega)
      have hpo : (0 ≤ x18.toInt ∧ x18.toInt ≤ 1000) ∧ (v12_ran.toInt ≤ x18.toInt ∧ x18.toInt ≤ v12_ran.toInt + 14) ∧ (x27 = tellsP v12_ownNumber v12_ownKind.toInt p1.toInt p2) ∧ (g19 = wrL f12_trace v12_ran.toInt (tellsT v12_ownKind.toInt p1.toInt)) ∧ (x18.toInt = v12_ran.toInt + (((tellsT v12_ownKind.toInt p1.toInt).length : Nat) : Int)) := ⟨h22, (by omega), (by unfold tellsP; rw [if_neg (by omega), if_neg (by omega), e28, hq, hq2]), (by unfold tellsT; rw [if_neg (by omega), if_neg (by omega)]; exact hw3), (by unfold tellsT; rw [if_neg (by omega), if_neg (by omega)]; exact hl3)⟩
      exact ret _ _ _ _ x27 (x18, g19) dX12_tellsAs_68 hpo hP hD hS
    have c2 := ci_eq c2
    refine lv_aload_n hx hb dX12_tellsAs_26 rfl (lv_at hl 0 rfl) ?_
    refine lv_bipush (v := 81) hx hb dX12_tellsAs_27 (by decide) ?_
    refine kcm_v hA hAB hP hD hS [true, true] rfl (fun _ => rfl) (fun hPc hDc => va_runV (As := [.int 81]) (rest := []) ⟨hx, hb, hml, hown, hts⟩ (k_X12_begins l D κ β a12 r12 v12_keptMany v12_done v12_sheets v12_holes v12_worms v12_laidMany v12_wanted v12_orderMany v12_firstOrder v12_lines v12_marks v12_dots v12_madeIn v12_bound v12_places v12_maps v12_tapeMany v12_stories v12_base v12_at v12_ends v12_fault v12_opened v12_bodies v12_ran v12_ownKind v12_ownNumber f12_trace s.heap.size 81 i1 i2 i3 i4 i5 i6 i7 i8 i9 i10 i11 i12 i13 i14 i15 i16 i17 (by omega)) (cwV 1 hts gX12_tellsAs_X12_begins rfl rfl rfl (by decide +kernel) ⟨Nat.le_of_ble_eq_true rfl, Nat.le_of_ble_eq_true rfl⟩) (pk_V hK hS hAB hPc hDc 0 (ci := 12) rfl rfl rfl) rfl rfl hl.1 rfl (lv_room (Nat.le_of_ble_eq_true rfl)) dX12_tellsAs_29 ⟨Nat.le_of_ble_eq_true rfl, Nat.le_of_ble_eq_true rfl⟩) (fun u32 H locs hw hPD hS => ?_)
    obtain ⟨x30, g31⟩ := u32
    obtain ⟨h33, h34, h35⟩ : (0 ≤ x30.toInt ∧ x30.toInt ≤ 1000) ∧ (x30.toInt = v12_ran.toInt + 1) ∧ (g31 = wrL f12_trace v12_ran.toInt ([(81 : Int32).toInt])) := hw
    obtain ⟨hP, hD⟩ : PD D A [O12 a12 r12 v12_keptMany v12_done v12_sheets v12_holes v12_worms v12_laidMany v12_wanted v12_orderMany v12_firstOrder v12_lines v12_marks v12_dots v12_madeIn v12_bound v12_places v12_maps v12_tapeMany v12_stories v12_base v12_at v12_ends v12_fault v12_opened v12_bodies x30 v12_ownKind v12_ownNumber, (cI κ (r12 55) 24 g31)] H := hPD
    have hw1 : g31 = wrL f12_trace v12_ran.toInt ([(81 : Int32).toInt]) := by assumption
    have hl1 : x30.toInt = v12_ran.toInt + (((([(81 : Int32).toInt])).length : Nat) : Int) := by first | assumption | (show _ = _ + ((1 : Nat) : Int); omega)
    refine lv_aload_n hx hb dX12_tellsAs_32 rfl (lv_at hl 0 rfl) ?_
    refine lv_bipush (v := 6) hx hb dX12_tellsAs_33 (by decide) ?_
    refine lv_iload_n hx hb dX12_tellsAs_35 rfl (lv_at hl 2 rfl) ?_
    refine kcm_i hA hAB hP hD hS [true, true] rfl (fun _ => rfl) (fun hPc hDc => va_runV (As := [.int 6, .int p2]) (rest := []) ⟨hx, hb, hml, hown, hts⟩ (k_X12_tellsAs_0 l D κ β a12 r12 v12_keptMany v12_done v12_sheets v12_holes v12_worms v12_laidMany v12_wanted v12_orderMany v12_firstOrder v12_lines v12_marks v12_dots v12_madeIn v12_bound v12_places v12_maps v12_tapeMany v12_stories v12_base v12_at v12_ends v12_fault v12_opened v12_bodies x30 v12_ownKind v12_ownNumber g31 H.size 6 p2 i1 i2 i3 i4 i5 i6 i7 i8 i9 i10 i11 i12 i13 i14 i15 h33 i17 (by omega) (by omega)) (cwV 2 hts gX12_tellsAs_X12_tellsAs rfl rfl rfl (by decide +kernel) ⟨Nat.le_of_ble_eq_true rfl, Nat.le_of_ble_eq_true rfl⟩) (pk_V hK hS hAB hPc hDc 0 (ci := 12) rfl rfl rfl) rfl rfl hl.1 rfl (lv_room (Nat.le_of_ble_eq_true rfl)) dX12_tellsAs_36 ⟨Nat.le_of_ble_eq_true rfl, Nat.le_of_ble_eq_true rfl⟩) (fun x38 u39 H locs hw hPD hS => ?_)
    obtain ⟨x36, g37⟩ := u39
    obtain ⟨h40, h41, h42, h43, h44⟩ : (0 ≤ x36.toInt ∧ x36.toInt ≤ 1000) ∧ (x30.toInt ≤ x36.toInt ∧ x36.toInt ≤ x30.toInt + 13) ∧ (x38 = needsP v12_ownNumber v12_ownKind.toInt v12_ownKind.toInt p2 - showsP v12_ownNumber v12_ownKind.toInt v12_ownKind.toInt 1) ∧ (g37 = wrL g31 x30.toInt ([2] ++ needsT v12_ownKind.toInt v12_ownKind.toInt ++ showsT v12_ownKind.toInt v12_ownKind.toInt)) ∧ (x36.toInt = x30.toInt + ((([2] ++ needsT v12_ownKind.toInt v12_ownKind.toInt ++ showsT v12_ownKind.toInt v12_ownKind.toInt).length : Nat) : Int)) := hw
    obtain ⟨hP, hD⟩ : PD D A [O12 a12 r12 v12_keptMany v12_done v12_sheets v12_holes v12_worms v12_laidMany v12_wanted v12_orderMany v12_firstOrder v12_lines v12_marks v12_dots v12_madeIn v12_bound v12_places v12_maps v12_tapeMany v12_stories v12_base v12_at v12_ends v12_fault v12_opened v12_bodies x36 v12_ownKind v12_ownNumber, (cI κ (r12 55) 24 g37)] H := hPD
    have hq : x38 = needsP v12_ownNumber v12_ownKind.toInt v12_ownKind.toInt p2 - showsP v12_ownNumber v12_ownKind.toInt v12_ownKind.toInt 1 := by assumption
    have hw2 : g37 = wrL f12_trace v12_ran.toInt (([(81 : Int32).toInt]) ++ ([2] ++ needsT v12_ownKind.toInt v12_ownKind.toInt ++ showsT v12_ownKind.toInt v12_ownKind.toInt)) := by rw [wrL_app, ← hw1, ← hl1]; assumption
    have hl2 : x36.toInt = v12_ran.toInt + ((((([(81 : Int32).toInt]) ++ ([2] ++ needsT v12_ownKind.toInt v12_ownKind.toInt ++ showsT v12_ownKind.toInt v12_ownKind.toInt))).length : Nat) : Int) := by rw [List.length_append]; omega
    refine lv_iconst (v := 1) hx hb dX12_tellsAs_39 (by decide) ?_
    refine lv_isub hx hb dX12_tellsAs_40 ?_
    refine lv_topi (fun x45 e46 => ?_)
    try have h47 : x45.toInt = x38.toInt - (1 : Int32).toInt := ci_sub e46 (by omega) (by omega)
    have hpo : (0 ≤ x36.toInt ∧ x36.toInt ≤ 1000) ∧ (v12_ran.toInt ≤ x36.toInt ∧ x36.toInt ≤ v12_ran.toInt + 14) ∧ (x45 = tellsP v12_ownNumber v12_ownKind.toInt p1.toInt p2) ∧ (g37 = wrL f12_trace v12_ran.toInt (tellsT v12_ownKind.toInt p1.toInt)) ∧ (x36.toInt = v12_ran.toInt + (((tellsT v12_ownKind.toInt p1.toInt).length : Nat) : Int)) := ⟨h40, (by omega), (by unfold tellsP; rw [if_neg (by omega), if_pos (by omega), e46, hq]), (by unfold tellsT; rw [if_neg (by omega), if_pos (by omega)]; exact hw2), (by unfold tellsT; rw [if_neg (by omega), if_pos (by omega)]; exact hl2)⟩
    exact ret _ _ _ _ x45 (x36, g37) dX12_tellsAs_41 hpo hP hD hS
  have c1 := ci_eq c1
  refine lv_aload_n hx hb dX12_tellsAs_5 rfl (lv_at hl 0 rfl) ?_
  refine lv_bipush (v := 50) hx hb dX12_tellsAs_6 (by decide) ?_
  refine kcm_v hA hAB hP hD hS [true, true] rfl (fun _ => rfl) (fun hPc hDc => va_runV (As := [.int 50]) (rest := []) ⟨hx, hb, hml, hown, hts⟩ (k_X12_begins l D κ β a12 r12 v12_keptMany v12_done v12_sheets v12_holes v12_worms v12_laidMany v12_wanted v12_orderMany v12_firstOrder v12_lines v12_marks v12_dots v12_madeIn v12_bound v12_places v12_maps v12_tapeMany v12_stories v12_base v12_at v12_ends v12_fault v12_opened v12_bodies v12_ran v12_ownKind v12_ownNumber f12_trace s.heap.size 50 i1 i2 i3 i4 i5 i6 i7 i8 i9 i10 i11 i12 i13 i14 i15 i16 i17 (by omega)) (cwV 1 hts gX12_tellsAs_X12_begins rfl rfl rfl (by decide +kernel) ⟨Nat.le_of_ble_eq_true rfl, Nat.le_of_ble_eq_true rfl⟩) (pk_V hK hS hAB hPc hDc 0 (ci := 12) rfl rfl rfl) rfl rfl hl.1 rfl (lv_room (Nat.le_of_ble_eq_true rfl)) dX12_tellsAs_8 ⟨Nat.le_of_ble_eq_true rfl, Nat.le_of_ble_eq_true rfl⟩) (fun u50 H locs hw hPD hS => ?_)
  obtain ⟨x48, g49⟩ := u50
  obtain ⟨h51, h52, h53⟩ : (0 ≤ x48.toInt ∧ x48.toInt ≤ 1000) ∧ (x48.toInt = v12_ran.toInt + 1) ∧ (g49 = wrL f12_trace v12_ran.toInt ([(50 : Int32).toInt])) := hw
  obtain ⟨hP, hD⟩ : PD D A [O12 a12 r12 v12_keptMany v12_done v12_sheets v12_holes v12_worms v12_laidMany v12_wanted v12_orderMany v12_firstOrder v12_lines v12_marks v12_dots v12_madeIn v12_bound v12_places v12_maps v12_tapeMany v12_stories v12_base v12_at v12_ends v12_fault v12_opened v12_bodies x48 v12_ownKind v12_ownNumber, (cI κ (r12 55) 24 g49)] H := hPD
  have hw1 : g49 = wrL f12_trace v12_ran.toInt ([(50 : Int32).toInt]) := by assumption
  have hl1 : x48.toInt = v12_ran.toInt + (((([(50 : Int32).toInt])).length : Nat) : Int) := by first | assumption | (show _ = _ + ((1 : Nat) : Int); omega)
  refine lv_aload_n hx hb dX12_tellsAs_11 rfl (lv_at hl 0 rfl) ?_
  refine lv_iconst (v := 2) hx hb dX12_tellsAs_12 (by decide) ?_
  refine lv_iload_n hx hb dX12_tellsAs_13 rfl (lv_at hl 2 rfl) ?_
  refine kcm_i hA hAB hP hD hS [true, true] rfl (fun _ => rfl) (fun hPc hDc => va_runV (As := [.int 2, .int p2]) (rest := []) ⟨hx, hb, hml, hown, hts⟩ (k_X12_tellsAs_0 l D κ β a12 r12 v12_keptMany v12_done v12_sheets v12_holes v12_worms v12_laidMany v12_wanted v12_orderMany v12_firstOrder v12_lines v12_marks v12_dots v12_madeIn v12_bound v12_places v12_maps v12_tapeMany v12_stories v12_base v12_at v12_ends v12_fault v12_opened v12_bodies x48 v12_ownKind v12_ownNumber g49 H.size 2 p2 i1 i2 i3 i4 i5 i6 i7 i8 i9 i10 i11 i12 i13 i14 i15 h51 i17 (by omega) (by omega)) (cwV 2 hts gX12_tellsAs_X12_tellsAs rfl rfl rfl (by decide +kernel) ⟨Nat.le_of_ble_eq_true rfl, Nat.le_of_ble_eq_true rfl⟩) (pk_V hK hS hAB hPc hDc 0 (ci := 12) rfl rfl rfl) rfl rfl hl.1 rfl (lv_room (Nat.le_of_ble_eq_true rfl)) dX12_tellsAs_14 ⟨Nat.le_of_ble_eq_true rfl, Nat.le_of_ble_eq_true rfl⟩) (fun x56 u57 H locs hw hPD hS => ?_)
  obtain ⟨x54, g55⟩ := u57
  obtain ⟨h58, h59, h60, h61, h62⟩ : (0 ≤ x54.toInt ∧ x54.toInt ≤ 1000) ∧ (x48.toInt ≤ x54.toInt ∧ x54.toInt ≤ x48.toInt + 13) ∧ (x56 = needsP v12_ownNumber v12_ownKind.toInt v12_ownKind.toInt p2 - showsP v12_ownNumber v12_ownKind.toInt v12_ownKind.toInt 1) ∧ (g55 = wrL g49 x48.toInt ([2] ++ needsT v12_ownKind.toInt v12_ownKind.toInt ++ showsT v12_ownKind.toInt v12_ownKind.toInt)) ∧ (x54.toInt = x48.toInt + ((([2] ++ needsT v12_ownKind.toInt v12_ownKind.toInt ++ showsT v12_ownKind.toInt v12_ownKind.toInt).length : Nat) : Int)) := hw
  obtain ⟨hP, hD⟩ : PD D A [O12 a12 r12 v12_keptMany v12_done v12_sheets v12_holes v12_worms v12_laidMany v12_wanted v12_orderMany v12_firstOrder v12_lines v12_marks v12_dots v12_madeIn v12_bound v12_places v12_maps v12_tapeMany v12_stories v12_base v12_at v12_ends v12_fault v12_opened v12_bodies x54 v12_ownKind v12_ownNumber, (cI κ (r12 55) 24 g55)] H := hPD
  have hq : x56 = needsP v12_ownNumber v12_ownKind.toInt v12_ownKind.toInt p2 - showsP v12_ownNumber v12_ownKind.toInt v12_ownKind.toInt 1 := by assumption
  have hw2 : g55 = wrL f12_trace v12_ran.toInt (([(50 : Int32).toInt]) ++ ([2] ++ needsT v12_ownKind.toInt v12_ownKind.toInt ++ showsT v12_ownKind.toInt v12_ownKind.toInt)) := by rw [wrL_app, ← hw1, ← hl1]; assumption
  have hl2 : x54.toInt = v12_ran.toInt + ((((([(50 : Int32).toInt]) ++ ([2] ++ needsT v12_ownKind.toInt v12_ownKind.toInt ++ showsT v12_ownKind.toInt v12_ownKind.toInt))).length : Nat) : Int) := by rw [List.length_append]; omega
  refine lv_iconst (v := 5) hx hb dX12_tellsAs_17 (by decide) ?_
  refine lv_ixor hx hb dX12_tellsAs_18 ?_
  refine lv_topi (fun x63 e64 => ?_)
  have hpo : (0 ≤ x54.toInt ∧ x54.toInt ≤ 1000) ∧ (v12_ran.toInt ≤ x54.toInt ∧ x54.toInt ≤ v12_ran.toInt + 14) ∧ (x63 = tellsP v12_ownNumber v12_ownKind.toInt p1.toInt p2) ∧ (g55 = wrL f12_trace v12_ran.toInt (tellsT v12_ownKind.toInt p1.toInt)) ∧ (x54.toInt = v12_ran.toInt + (((tellsT v12_ownKind.toInt p1.toInt).length : Nat) : Int)) := ⟨h58, (by omega), (by unfold tellsP; rw [if_pos (by omega), e64, hq]), (by unfold tellsT; rw [if_pos (by omega)]; exact hw2), (by unfold tellsT; rw [if_pos (by omega)]; exact hl2)⟩
  exact ret _ _ _ _ x63 (x54, g55) dX12_tellsAs_19 hpo hP hD hS
set_option maxHeartbeats 4000000 in
set_option maxRecDepth 100000 in
theorem k_X12_act (l : Launch) (D : va_G) (κ : Nat → ClassId) (β : Nat) (a12 : Nat) (r12 : Nat → Nat) (v12_keptMany : Int32) (v12_done : Int32) (v12_sheets : Int32) (v12_holes : Int32) (v12_worms : Int32) (v12_laidMany : Int32) (v12_wanted : Int32) (v12_orderMany : Int32) (v12_firstOrder : Int32) (v12_lines : Int32) (v12_marks : Int32) (v12_dots : Int32) (v12_madeIn : Int32) (v12_bound : Int32) (v12_places : Int32) (v12_maps : Int32) (v12_tapeMany : Int32) (v12_stories : Int32) (v12_base : Int32) (v12_at : Int32) (v12_ends : Int32) (v12_fault : Int32) (v12_opened : Int32) (v12_bodies : Int32) (v12_ran : Int32) (v12_ownKind : Int32) (v12_ownNumber : Int32) (f12_bodyKind : Nat → Int32) (f12_trace : Nat → Int32) (sz : Nat) (p1 : Int32) (p2 : Int32) (p3 : Int32) (i1 : Rg 0 40 v12_keptMany) (i2 : Rg 0 40 v12_done) (i3 : Rg 0 8 v12_sheets) (i4 : Rg 0 40 v12_holes) (i5 : Rg 0 40 v12_worms) (i6 : Rg 0 8 v12_laidMany) (i7 : Rg 0 8 v12_wanted) (i8 : Rg 0 20 v12_lines) (i9 : Rg 0 60 v12_marks) (i10 : Rg 0 40 v12_dots) (i11 : Rg 0 20 v12_places) (i12 : Rg 0 8 v12_maps) (i13 : Rg 0 120 v12_tapeMany) (i14 : Rg 0 6 v12_stories) (i15 : Rg 0 50 v12_bodies) (i16 : Rg 0 1000 v12_ran) (hf12_bodyKind : ∀ j : Nat, 0 ≤ (f12_bodyKind j).toInt ∧ (f12_bodyKind j).toInt ≤ 7) (i17 : v12_done.toInt ≤ v12_keptMany.toInt) : Met l yX12_act wsX12_act ({ frames := 8, cells := 0, slots := 0, locals := 180 } : Room) (PcK D κ β [O12 a12 r12 v12_keptMany v12_done v12_sheets v12_holes v12_worms v12_laidMany v12_wanted v12_orderMany v12_firstOrder v12_lines v12_marks v12_dots v12_madeIn v12_bound v12_places v12_maps v12_tapeMany v12_stories v12_base v12_at v12_ends v12_fault v12_opened v12_bodies v12_ran v12_ownKind v12_ownNumber, (cI κ (r12 54) 50 f12_bodyKind), (cI κ (r12 55) 24 f12_trace)] sz [.ref a12, .int p1, .int p2, .int p3]) (QiK D (fun (r : Int32) (u : Int32 × Int32 × Int32 × (Nat → Int32)) => (0 ≤ u.1.toInt ∧ u.1.toInt ≤ 1000) ∧ ((0 ≤ p1.toInt ∧ p1.toInt < v12_bodies.toInt ∧ 0 ≤ p2.toInt ∧ p2.toInt ≤ 3) → r = actP p1 p2.toInt (f12_bodyKind p1.toNatClampNeg).toInt p3) ∧ ((0 ≤ p1.toInt ∧ p1.toInt < v12_bodies.toInt ∧ 0 ≤ p2.toInt ∧ p2.toInt ≤ 3) ∨ r.toInt = 0) ∧ ((0 ≤ p1.toInt ∧ p1.toInt < v12_bodies.toInt ∧ 0 ≤ p2.toInt ∧ p2.toInt ≤ 3) → u.2.2.2 = wrL f12_trace (0 : Int32).toInt (actT p2.toInt (f12_bodyKind p1.toNatClampNeg).toInt)) ∧ ((0 ≤ p1.toInt ∧ p1.toInt < v12_bodies.toInt ∧ 0 ≤ p2.toInt ∧ p2.toInt ≤ 3) → u.1.toInt = (0 : Int32).toInt + (((actT p2.toInt (f12_bodyKind p1.toNatClampNeg).toInt).length : Nat) : Int)) ∧ ((0 ≤ p1.toInt ∧ p1.toInt < v12_bodies.toInt ∧ 0 ≤ p2.toInt ∧ p2.toInt ≤ 3) ∨ u.2.2.2 = f12_trace) ∧ ((0 ≤ p1.toInt ∧ p1.toInt < v12_bodies.toInt ∧ 0 ≤ p2.toInt ∧ p2.toInt ≤ 3) ∨ u.1.toInt = 0)) (fun (u : Int32 × Int32 × Int32 × (Nat → Int32)) => [O12 a12 r12 v12_keptMany v12_done v12_sheets v12_holes v12_worms v12_laidMany v12_wanted v12_orderMany v12_firstOrder v12_lines v12_marks v12_dots v12_madeIn v12_bound v12_places v12_maps v12_tapeMany v12_stories v12_base v12_at v12_ends v12_fault v12_opened v12_bodies u.1 u.2.1 u.2.2.1, (cI κ (r12 54) 50 f12_bodyKind), (cI κ (r12 55) 24 u.2.2.2)]) [O12 a12 r12 v12_keptMany v12_done v12_sheets v12_holes v12_worms v12_laidMany v12_wanted v12_orderMany v12_firstOrder v12_lines v12_marks v12_dots v12_madeIn v12_bound v12_places v12_maps v12_tapeMany v12_stories v12_base v12_at v12_ends v12_fault v12_opened v12_bodies v12_ran v12_ownKind v12_ownNumber, (cI κ (r12 54) 50 f12_bodyKind), (cI κ (r12 55) 24 f12_trace)] sz) 0 0 (va_A [O12 a12 r12 v12_keptMany v12_done v12_sheets v12_holes v12_worms v12_laidMany v12_wanted v12_orderMany v12_firstOrder v12_lines v12_marks v12_dots v12_madeIn v12_bound v12_places v12_maps v12_tapeMany v12_stories v12_base v12_at v12_ends v12_fault v12_opened v12_bodies v12_ran v12_ownKind v12_ownNumber, (cI κ (r12 54) 50 f12_bodyKind), (cI κ (r12 55) 24 f12_trace)] sz) := by
  refine ofK_i (cc := cX12_act) (maxL := 4) (own := RX12) (by decide) rfl rfl (Nat.le_of_ble_eq_true rfl) ?_
  intro p e s m args below meth c Q A ls hsz hx hb hml hts hown hK hA hAB hP hD hl ret
  have hS : va_S A s.heap s.heap [] := va_S.rf
  have hl : lv_has ls 4 [(0, .ref a12), (1, .int p1), (2, .int p2), (3, .int p3)] := hl
  have w0 := hts (.fieldLink RX12 382 "OlderSkinModel" "ran" "I") (List.mem_of_getElem? (i := 1) rfl)
  have w1 := (fun w h => List.mem_cons_of_mem _ (List.mem_append_right _ h) : ∀ w ∈ u_ws RX12 TX12 63, w ∈ wsX12_act)
  have w2 := hts (.fieldLink RX12 101 "OlderSkinModel" "bodyKind" "[I") (List.mem_of_getElem? (i := 2) rfl)
  have w3 := hts (.fieldLink RX12 398 "OlderSkinModel" "ownKind" "I") (List.mem_of_getElem? (i := 3) rfl)
  have w4 := hts (.fieldLink RX12 392 "OlderSkinModel" "ownNumber" "I") (List.mem_of_getElem? (i := 4) rfl)
  have l0 : (0 : Int32).toInt = 0 := by decide
  have i15 : 0 ≤ v12_bodies.toInt ∧ v12_bodies.toInt ≤ 50 := i15
  have i16 : 0 ≤ v12_ran.toInt ∧ v12_ran.toInt ≤ 1000 := i16
  refine lv_aload_n hx hb dX12_act_0 rfl (lv_at hl 0 rfl) ?_
  refine lv_iconst (v := 0) hx hb dX12_act_1 (by decide) ?_
  refine va_put (D := D) (ci := 12) (v := .int 0) (ty := .int) (C := RX12) (T := TX12) (N := 63) hx hb hts w1 tyX12 tyX12_ok nmX12 hown hK.1 hP hD hS 0 rfl rfl 56 (by decide) w0 (fun _ h9 => h9) rfl (by decide +kernel) rfl rfl (Nat.le_of_ble_eq_true rfl) dX12_act_2 (fun H locs hP hD hS => ?_)
  obtain ⟨hP, hD⟩ : PD D A [O12 a12 r12 v12_keptMany v12_done v12_sheets v12_holes v12_worms v12_laidMany v12_wanted v12_orderMany v12_firstOrder v12_lines v12_marks v12_dots v12_madeIn v12_bound v12_places v12_maps v12_tapeMany v12_stories v12_base v12_at v12_ends v12_fault v12_opened v12_bodies 0 v12_ownKind v12_ownNumber, (cI κ (r12 54) 50 f12_bodyKind), (cI κ (r12 55) 24 f12_trace)] H := ⟨hP, hD⟩
  have h1 : 0 ≤ (0 : Int32).toInt ∧ (0 : Int32).toInt ≤ 1000 := by omega
  refine lv_aload_n hx hb dX12_act_5 rfl (lv_at hl 0 rfl) ?_
  refine lv_iload_n hx hb dX12_act_6 rfl (lv_at hl 1 rfl) ?_
  refine kcm_i hA hAB hP hD hS [true, false, false] rfl (fun _ => rfl) (fun hPc hDc => va_runV (As := [.int p1]) (rest := []) ⟨hx, hb, hml, hown, hts⟩ (k_X12_isBody l D κ β a12 r12 v12_keptMany v12_done v12_sheets v12_holes v12_worms v12_laidMany v12_wanted v12_orderMany v12_firstOrder v12_lines v12_marks v12_dots v12_madeIn v12_bound v12_places v12_maps v12_tapeMany v12_stories v12_base v12_at v12_ends v12_fault v12_opened v12_bodies 0 v12_ownKind v12_ownNumber H.size p1 i1 i2 i3 i4 i5 i6 i7 i8 i9 i10 i11 i12 i13 i14 i15 h1 i17) (cwV 1 hts gX12_act_X12_isBody rfl rfl rfl (by decide +kernel) ⟨Nat.le_of_ble_eq_true rfl, Nat.le_of_ble_eq_true rfl⟩) (pk_V hK hS hAB hPc hDc 0 (ci := 12) rfl rfl rfl) rfl rfl hl.1 rfl (lv_room (Nat.le_of_ble_eq_true rfl)) dX12_act_7 ⟨Nat.le_of_ble_eq_true rfl, Nat.le_of_ble_eq_true rfl⟩) (fun x2 u3 H locs hw hPD hS => ?_)
  have h4 : (x2.toInt = 1 ∧ 0 ≤ p1.toInt ∧ p1.toInt < v12_bodies.toInt) ∨ (x2.toInt = 0 ∧ (p1.toInt < 0 ∨ v12_bodies.toInt ≤ p1.toInt)) := hw
  obtain ⟨hP, hD⟩ : PD D A [O12 a12 r12 v12_keptMany v12_done v12_sheets v12_holes v12_worms v12_laidMany v12_wanted v12_orderMany v12_firstOrder v12_lines v12_marks v12_dots v12_madeIn v12_bound v12_places v12_maps v12_tapeMany v12_stories v12_base v12_at v12_ends v12_fault v12_opened v12_bodies 0 v12_ownKind v12_ownNumber, (cI κ (r12 54) 50 f12_bodyKind), (cI κ (r12 55) 24 f12_trace)] H := hPD
  refine lv_if_ne (tgt := 15) hx hb dX12_act_10 (by decide) (fun c5 => ?_) (fun c5 => ?_)
  · have c5 := ci_ne c5
    refine lv_aload_n hx hb dX12_act_15 rfl (lv_at hl 0 rfl) ?_
    refine lv_aload_n hx hb dX12_act_16 rfl (lv_at hl 0 rfl) ?_
    refine va_get (D := D) (ci := 12) (v := .ref (r12 54)) (C := RX12) (T := TX12) (N := 63) hx hb hts w1 hown hK.1 hP 0 rfl rfl 54 (by decide) w2 (fun _ h9 => h9) rfl dX12_act_17 ?_
    refine lv_iload_n hx hb dX12_act_20 rfl (lv_at hl 1 rfl) ?_
    refine va_iald hx hb hK.1 hP 1 1 rfl rfl (i := p1) (ix (by omega) (by omega)) dX12_act_21 ?_
    refine lv_topi (fun x6 e7 => ?_)
    have h8 : 0 ≤ x6.toInt ∧ x6.toInt ≤ 7 := by rw [e7]; exact hf12_bodyKind _
    have hk9 : x6.toInt = (f12_bodyKind p1.toNatClampNeg).toInt := congrArg Int32.toInt e7
    refine va_put (D := D) (ci := 12) (v := .int x6) (ty := .int) (C := RX12) (T := TX12) (N := 63) hx hb hts w1 tyX12 tyX12_ok nmX12 hown hK.1 hP hD hS 0 rfl rfl 57 (by decide) w3 (fun _ h9 => h9) rfl (by decide +kernel) rfl rfl (Nat.le_of_ble_eq_true rfl) dX12_act_22 (fun H locs hP hD hS => ?_)
    obtain ⟨hP, hD⟩ : PD D A [O12 a12 r12 v12_keptMany v12_done v12_sheets v12_holes v12_worms v12_laidMany v12_wanted v12_orderMany v12_firstOrder v12_lines v12_marks v12_dots v12_madeIn v12_bound v12_places v12_maps v12_tapeMany v12_stories v12_base v12_at v12_ends v12_fault v12_opened v12_bodies 0 x6 v12_ownNumber, (cI κ (r12 54) 50 f12_bodyKind), (cI κ (r12 55) 24 f12_trace)] H := ⟨hP, hD⟩
    refine lv_aload_n hx hb dX12_act_25 rfl (lv_at hl 0 rfl) ?_
    refine lv_iload_n hx hb dX12_act_26 rfl (lv_at hl 1 rfl) ?_
    refine va_put (D := D) (ci := 12) (v := .int p1) (ty := .int) (C := RX12) (T := TX12) (N := 63) hx hb hts w1 tyX12 tyX12_ok nmX12 hown hK.1 hP hD hS 0 rfl rfl 58 (by decide) w4 (fun _ h9 => h9) rfl (by decide +kernel) rfl rfl (Nat.le_of_ble_eq_true rfl) dX12_act_27 (fun H locs hP hD hS => ?_)
    obtain ⟨hP, hD⟩ : PD D A [O12 a12 r12 v12_keptMany v12_done v12_sheets v12_holes v12_worms v12_laidMany v12_wanted v12_orderMany v12_firstOrder v12_lines v12_marks v12_dots v12_madeIn v12_bound v12_places v12_maps v12_tapeMany v12_stories v12_base v12_at v12_ends v12_fault v12_opened v12_bodies 0 x6 p1, (cI κ (r12 54) 50 f12_bodyKind), (cI κ (r12 55) 24 f12_trace)] H := ⟨hP, hD⟩
    refine lv_iload_n hx hb dX12_act_30 rfl (lv_at hl 2 rfl) ?_
    by_cases c9 : p2.toInt = 0
    · refine lv_tableIn (off := 29) (tgt := 60) hx hb dX12_act_31 (by omega) (by omega) (by rw [c9]; decide) (by decide) ?_
      refine lv_aload_n hx hb dX12_act_60 rfl (lv_at hl 0 rfl) ?_
      refine lv_aload_n hx hb dX12_act_61 rfl (lv_at hl 0 rfl) ?_
      refine va_get (D := D) (ci := 12) (v := .int x6) (C := RX12) (T := TX12) (N := 63) hx hb hts w1 hown hK.1 hP 0 rfl rfl 57 (by decide) w3 (fun _ h9 => h9) rfl dX12_act_62 ?_
      refine lv_iload_n hx hb dX12_act_65 rfl (lv_at hl 3 rfl) ?_
      refine kcm_i hA hAB hP hD hS [true, false, true] rfl (fun _ => rfl) (fun hPc hDc => va_runV (As := [.int x6, .int p3]) (rest := []) ⟨hx, hb, hml, hown, hts⟩ (k_X12_liesAs l D κ β a12 r12 v12_keptMany v12_done v12_sheets v12_holes v12_worms v12_laidMany v12_wanted v12_orderMany v12_firstOrder v12_lines v12_marks v12_dots v12_madeIn v12_bound v12_places v12_maps v12_tapeMany v12_stories v12_base v12_at v12_ends v12_fault v12_opened v12_bodies 0 x6 p1 f12_trace H.size x6 p3 i1 i2 i3 i4 i5 i6 i7 i8 i9 i10 i11 i12 i13 i14 i15 h1 i17 (by omega)) (cwV 2 hts gX12_act_X12_liesAs rfl rfl rfl (by decide +kernel) ⟨Nat.le_of_ble_eq_true rfl, Nat.le_of_ble_eq_true rfl⟩) (pk_V hK hS hAB hPc hDc 0 (ci := 12) rfl rfl rfl) rfl rfl hl.1 rfl (lv_room (Nat.le_of_ble_eq_true rfl)) dX12_act_66 ⟨Nat.le_of_ble_eq_true rfl, Nat.le_of_ble_eq_true rfl⟩) (fun x12 u13 H locs hw hPD hS => ?_)
      obtain ⟨x10, g11⟩ := u13
      obtain ⟨h14, h15, h16, h17, h18⟩ : (0 ≤ x10.toInt ∧ x10.toInt ≤ 1000) ∧ ((0 : Int32).toInt ≤ x10.toInt ∧ x10.toInt ≤ (0 : Int32).toInt + 2) ∧ (x12 = liesP p1 x6.toInt p3) ∧ (g11 = wrL f12_trace (0 : Int32).toInt (liesT x6.toInt)) ∧ (x10.toInt = (0 : Int32).toInt + (((liesT x6.toInt).length : Nat) : Int)) := hw
      obtain ⟨hP, hD⟩ : PD D A [O12 a12 r12 v12_keptMany v12_done v12_sheets v12_holes v12_worms v12_laidMany v12_wanted v12_orderMany v12_firstOrder v12_lines v12_marks v12_dots v12_madeIn v12_bound v12_places v12_maps v12_tapeMany v12_stories v12_base v12_at v12_ends v12_fault v12_opened v12_bodies x10 x6 p1, (cI κ (r12 54) 50 f12_bodyKind), (cI κ (r12 55) 24 g11)] H := hPD
      have hpo : (0 ≤ x10.toInt ∧ x10.toInt ≤ 1000) ∧ ((0 ≤ p1.toInt ∧ p1.toInt < v12_bodies.toInt ∧ 0 ≤ p2.toInt ∧ p2.toInt ≤ 3) → x12 = actP p1 p2.toInt (f12_bodyKind p1.toNatClampNeg).toInt p3) ∧ ((0 ≤ p1.toInt ∧ p1.toInt < v12_bodies.toInt ∧ 0 ≤ p2.toInt ∧ p2.toInt ≤ 3) ∨ x12.toInt = 0) ∧ ((0 ≤ p1.toInt ∧ p1.toInt < v12_bodies.toInt ∧ 0 ≤ p2.toInt ∧ p2.toInt ≤ 3) → g11 = wrL f12_trace (0 : Int32).toInt (actT p2.toInt (f12_bodyKind p1.toNatClampNeg).toInt)) ∧ ((0 ≤ p1.toInt ∧ p1.toInt < v12_bodies.toInt ∧ 0 ≤ p2.toInt ∧ p2.toInt ≤ 3) → x10.toInt = (0 : Int32).toInt + (((actT p2.toInt (f12_bodyKind p1.toNatClampNeg).toInt).length : Nat) : Int)) ∧ ((0 ≤ p1.toInt ∧ p1.toInt < v12_bodies.toInt ∧ 0 ≤ p2.toInt ∧ p2.toInt ≤ 3) ∨ g11 = f12_trace) ∧ ((0 ≤ p1.toInt ∧ p1.toInt < v12_bodies.toInt ∧ 0 ≤ p2.toInt ∧ p2.toInt ≤ 3) ∨ x10.toInt = 0) := ⟨h14, (fun _ => by unfold actP; rw [if_pos (by omega), ← hk9]; assumption), (by omega), (fun _ => by unfold actT; rw [if_pos (by omega), ← hk9]; assumption), (fun _ => by unfold actT; rw [if_pos (by omega), ← hk9]; assumption), (Or.inl (by omega)), (by omega)⟩
      exact ret _ _ _ _ x12 (x10, x6, p1, g11) dX12_act_69 hpo hP hD hS
    by_cases c19 : p2.toInt = 1
    · refine lv_tableIn (off := 39) (tgt := 70) hx hb dX12_act_31 (by omega) (by omega) (by rw [c19]; decide) (by decide) ?_
      refine lv_aload_n hx hb dX12_act_70 rfl (lv_at hl 0 rfl) ?_
      refine lv_aload_n hx hb dX12_act_71 rfl (lv_at hl 0 rfl) ?_
      refine va_get (D := D) (ci := 12) (v := .int x6) (C := RX12) (T := TX12) (N := 63) hx hb hts w1 hown hK.1 hP 0 rfl rfl 57 (by decide) w3 (fun _ h9 => h9) rfl dX12_act_72 ?_
      refine lv_iload_n hx hb dX12_act_75 rfl (lv_at hl 3 rfl) ?_
      refine kcm_i hA hAB hP hD hS [true, false, true] rfl (fun _ => rfl) (fun hPc hDc => va_runV (As := [.int x6, .int p3]) (rest := []) ⟨hx, hb, hml, hown, hts⟩ (k_X12_needsAs l D κ β a12 r12 v12_keptMany v12_done v12_sheets v12_holes v12_worms v12_laidMany v12_wanted v12_orderMany v12_firstOrder v12_lines v12_marks v12_dots v12_madeIn v12_bound v12_places v12_maps v12_tapeMany v12_stories v12_base v12_at v12_ends v12_fault v12_opened v12_bodies 0 x6 p1 f12_trace H.size x6 p3 i1 i2 i3 i4 i5 i6 i7 i8 i9 i10 i11 i12 i13 i14 i15 h1 i17 (by omega)) (cwV 2 hts gX12_act_X12_needsAs rfl rfl rfl (by decide +kernel) ⟨Nat.le_of_ble_eq_true rfl, Nat.le_of_ble_eq_true rfl⟩) (pk_V hK hS hAB hPc hDc 0 (ci := 12) rfl rfl rfl) rfl rfl hl.1 rfl (lv_room (Nat.le_of_ble_eq_true rfl)) dX12_act_76 ⟨Nat.le_of_ble_eq_true rfl, Nat.le_of_ble_eq_true rfl⟩) (fun x22 u23 H locs hw hPD hS => ?_)
      obtain ⟨x20, g21⟩ := u23
      obtain ⟨h24, h25, h26, h27, h28⟩ : (0 ≤ x20.toInt ∧ x20.toInt ≤ 1000) ∧ ((0 : Int32).toInt ≤ x20.toInt ∧ x20.toInt ≤ (0 : Int32).toInt + 8) ∧ (x22 = needsP p1 x6.toInt x6.toInt p3) ∧ (g21 = wrL f12_trace (0 : Int32).toInt (needsT x6.toInt x6.toInt)) ∧ (x20.toInt = (0 : Int32).toInt + (((needsT x6.toInt x6.toInt).length : Nat) : Int)) := hw
      obtain ⟨hP, hD⟩ : PD D A [O12 a12 r12 v12_keptMany v12_done v12_sheets v12_holes v12_worms v12_laidMany v12_wanted v12_orderMany v12_firstOrder v12_lines v12_marks v12_dots v12_madeIn v12_bound v12_places v12_maps v12_tapeMany v12_stories v12_base v12_at v12_ends v12_fault v12_opened v12_bodies x20 x6 p1, (cI κ (r12 54) 50 f12_bodyKind), (cI κ (r12 55) 24 g21)] H := hPD
      have hpo : (0 ≤ x20.toInt ∧ x20.toInt ≤ 1000) ∧ ((0 ≤ p1.toInt ∧ p1.toInt < v12_bodies.toInt ∧ 0 ≤ p2.toInt ∧ p2.toInt ≤ 3) → x22 = actP p1 p2.toInt (f12_bodyKind p1.toNatClampNeg).toInt p3) ∧ ((0 ≤ p1.toInt ∧ p1.toInt < v12_bodies.toInt ∧ 0 ≤ p2.toInt ∧ p2.toInt ≤ 3) ∨ x22.toInt = 0) ∧ ((0 ≤ p1.toInt ∧ p1.toInt < v12_bodies.toInt ∧ 0 ≤ p2.toInt ∧ p2.toInt ≤ 3) → g21 = wrL f12_trace (0 : Int32).toInt (actT p2.toInt (f12_bodyKind p1.toNatClampNeg).toInt)) ∧ ((0 ≤ p1.toInt ∧ p1.toInt < v12_bodies.toInt ∧ 0 ≤ p2.toInt ∧ p2.toInt ≤ 3) → x20.toInt = (0 : Int32).toInt + (((actT p2.toInt (f12_bodyKind p1.toNatClampNeg).toInt).length : Nat) : Int)) ∧ ((0 ≤ p1.toInt ∧ p1.toInt < v12_bodies.toInt ∧ 0 ≤ p2.toInt ∧ p2.toInt ≤ 3) ∨ g21 = f12_trace) ∧ ((0 ≤ p1.toInt ∧ p1.toInt < v12_bodies.toInt ∧ 0 ≤ p2.toInt ∧ p2.toInt ≤ 3) ∨ x20.toInt = 0) := ⟨h24, (fun _ => by unfold actP; rw [if_neg (by omega), if_pos (by omega), ← hk9]; assumption), (by omega), (fun _ => by unfold actT; rw [if_neg (by omega), if_pos (by omega), ← hk9]; assumption), (fun _ => by unfold actT; rw [if_neg (by omega), if_pos (by omega), ← hk9]; assumption), (Or.inl (by omega)), (by omega)⟩
      exact ret _ _ _ _ x22 (x20, x6, p1, g21) dX12_act_79 hpo hP hD hS
    by_cases c29 : p2.toInt = 2
    · refine lv_tableIn (off := 49) (tgt := 80) hx hb dX12_act_31 (by omega) (by omega) (by rw [c29]; decide) (by decide) ?_
      refine lv_aload_n hx hb dX12_act_80 rfl (lv_at hl 0 rfl) ?_
      refine lv_aload_n hx hb dX12_act_81 rfl (lv_at hl 0 rfl) ?_
      refine va_get (D := D) (ci := 12) (v := .int x6) (C := RX12) (T := TX12) (N := 63) hx hb hts w1 hown hK.1 hP 0 rfl rfl 57 (by decide) w3 (fun _ h9 => h9) rfl dX12_act_82 ?_
      refine lv_iload_n hx hb dX12_act_85 rfl (lv_at hl 3 rfl) ?_
      refine kcm_i hA hAB hP hD hS [true, false, true] rfl (fun _ => rfl) (fun hPc hDc => va_runV (As := [.int x6, .int p3]) (rest := []) ⟨hx, hb, hml, hown, hts⟩ (k_X12_showsAs l D κ β a12 r12 v12_keptMany v12_done v12_sheets v12_holes v12_worms v12_laidMany v12_wanted v12_orderMany v12_firstOrder v12_lines v12_marks v12_dots v12_madeIn v12_bound v12_places v12_maps v12_tapeMany v12_stories v12_base v12_at v12_ends v12_fault v12_opened v12_bodies 0 x6 p1 f12_trace H.size x6 p3 i1 i2 i3 i4 i5 i6 i7 i8 i9 i10 i11 i12 i13 i14 i15 h1 i17 (by omega)) (cwV 2 hts gX12_act_X12_showsAs rfl rfl rfl (by decide +kernel) ⟨Nat.le_of_ble_eq_true rfl, Nat.le_of_ble_eq_true rfl⟩) (pk_V hK hS hAB hPc hDc 0 (ci := 12) rfl rfl rfl) rfl rfl hl.1 rfl (lv_room (Nat.le_of_ble_eq_true rfl)) dX12_act_86 ⟨Nat.le_of_ble_eq_true rfl, Nat.le_of_ble_eq_true rfl⟩) (fun x32 u33 H locs hw hPD hS => ?_)
      obtain ⟨x30, g31⟩ := u33
      obtain ⟨h34, h35, h36, h37, h38⟩ : (0 ≤ x30.toInt ∧ x30.toInt ≤ 1000) ∧ ((0 : Int32).toInt ≤ x30.toInt ∧ x30.toInt ≤ (0 : Int32).toInt + 4) ∧ (x32 = showsP p1 x6.toInt x6.toInt p3) ∧ (g31 = wrL f12_trace (0 : Int32).toInt (showsT x6.toInt x6.toInt)) ∧ (x30.toInt = (0 : Int32).toInt + (((showsT x6.toInt x6.toInt).length : Nat) : Int)) := hw
      obtain ⟨hP, hD⟩ : PD D A [O12 a12 r12 v12_keptMany v12_done v12_sheets v12_holes v12_worms v12_laidMany v12_wanted v12_orderMany v12_firstOrder v12_lines v12_marks v12_dots v12_madeIn v12_bound v12_places v12_maps v12_tapeMany v12_stories v12_base v12_at v12_ends v12_fault v12_opened v12_bodies x30 x6 p1, (cI κ (r12 54) 50 f12_bodyKind), (cI κ (r12 55) 24 g31)] H := hPD
      have hpo : (0 ≤ x30.toInt ∧ x30.toInt ≤ 1000) ∧ ((0 ≤ p1.toInt ∧ p1.toInt < v12_bodies.toInt ∧ 0 ≤ p2.toInt ∧ p2.toInt ≤ 3) → x32 = actP p1 p2.toInt (f12_bodyKind p1.toNatClampNeg).toInt p3) ∧ ((0 ≤ p1.toInt ∧ p1.toInt < v12_bodies.toInt ∧ 0 ≤ p2.toInt ∧ p2.toInt ≤ 3) ∨ x32.toInt = 0) ∧ ((0 ≤ p1.toInt ∧ p1.toInt < v12_bodies.toInt ∧ 0 ≤ p2.toInt ∧ p2.toInt ≤ 3) → g31 = wrL f12_trace (0 : Int32).toInt (actT p2.toInt (f12_bodyKind p1.toNatClampNeg).toInt)) ∧ ((0 ≤ p1.toInt ∧ p1.toInt < v12_bodies.toInt ∧ 0 ≤ p2.toInt ∧ p2.toInt ≤ 3) → x30.toInt = (0 : Int32).toInt + (((actT p2.toInt (f12_bodyKind p1.toNatClampNeg).toInt).length : Nat) : Int)) ∧ ((0 ≤ p1.toInt ∧ p1.toInt < v12_bodies.toInt ∧ 0 ≤ p2.toInt ∧ p2.toInt ≤ 3) ∨ g31 = f12_trace) ∧ ((0 ≤ p1.toInt ∧ p1.toInt < v12_bodies.toInt ∧ 0 ≤ p2.toInt ∧ p2.toInt ≤ 3) ∨ x30.toInt = 0) := ⟨h34, (fun _ => by unfold actP; rw [if_neg (by omega), if_neg (by omega), if_pos (by omega), ← hk9]; assumption), (by omega), (fun _ => by unfold actT; rw [if_neg (by omega), if_neg (by omega), if_pos (by omega), ← hk9]; assumption), (fun _ => by unfold actT; rw [if_neg (by omega), if_neg (by omega), if_pos (by omega), ← hk9]; assumption), (Or.inl (by omega)), (by omega)⟩
      exact ret _ _ _ _ x32 (x30, x6, p1, g31) dX12_act_89 hpo hP hD hS
    by_cases c39 : p2.toInt = 3
    · refine lv_tableIn (off := 59) (tgt := 90) hx hb dX12_act_31 (by omega) (by omega) (by rw [c39]; decide) (by decide) ?_
      refine lv_aload_n hx hb dX12_act_90 rfl (lv_at hl 0 rfl) ?_
      refine lv_aload_n hx hb dX12_act_91 rfl (lv_at hl 0 rfl) ?_
      refine va_get (D := D) (ci := 12) (v := .int x6) (C := RX12) (T := TX12) (N := 63) hx hb hts w1 hown hK.1 hP 0 rfl rfl 57 (by decide) w3 (fun _ h9 => h9) rfl dX12_act_92 ?_
      refine lv_iload_n hx hb dX12_act_95 rfl (lv_at hl 3 rfl) ?_
      refine kcm_i hA hAB hP hD hS [true, false, true] rfl (fun _ => rfl) (fun hPc hDc => va_runV (As := [.int x6, .int p3]) (rest := []) ⟨hx, hb, hml, hown, hts⟩ (k_X12_tellsAs l D κ β a12 r12 v12_keptMany v12_done v12_sheets v12_holes v12_worms v12_laidMany v12_wanted v12_orderMany v12_firstOrder v12_lines v12_marks v12_dots v12_madeIn v12_bound v12_places v12_maps v12_tapeMany v12_stories v12_base v12_at v12_ends v12_fault v12_opened v12_bodies 0 x6 p1 f12_trace H.size x6 p3 i1 i2 i3 i4 i5 i6 i7 i8 i9 i10 i11 i12 i13 i14 i15 h1 i17 (by omega)) (cwV 2 hts gX12_act_X12_tellsAs rfl rfl rfl (by decide +kernel) ⟨Nat.le_of_ble_eq_true rfl, Nat.le_of_ble_eq_true rfl⟩) (pk_V hK hS hAB hPc hDc 0 (ci := 12) rfl rfl rfl) rfl rfl hl.1 rfl (lv_room (Nat.le_of_ble_eq_true rfl)) dX12_act_96 ⟨Nat.le_of_ble_eq_true rfl, Nat.le_of_ble_eq_true rfl⟩) (fun x42 u43 H locs hw hPD hS => ?_)
      obtain ⟨x40, g41⟩ := u43
      obtain ⟨h44, h45, h46, h47, h48⟩ : (0 ≤ x40.toInt ∧ x40.toInt ≤ 1000) ∧ ((0 : Int32).toInt ≤ x40.toInt ∧ x40.toInt ≤ (0 : Int32).toInt + 14) ∧ (x42 = tellsP p1 x6.toInt x6.toInt p3) ∧ (g41 = wrL f12_trace (0 : Int32).toInt (tellsT x6.toInt x6.toInt)) ∧ (x40.toInt = (0 : Int32).toInt + (((tellsT x6.toInt x6.toInt).length : Nat) : Int)) := hw
      obtain ⟨hP, hD⟩ : PD D A [O12 a12 r12 v12_keptMany v12_done v12_sheets v12_holes v12_worms v12_laidMany v12_wanted v12_orderMany v12_firstOrder v12_lines v12_marks v12_dots v12_madeIn v12_bound v12_places v12_maps v12_tapeMany v12_stories v12_base v12_at v12_ends v12_fault v12_opened v12_bodies x40 x6 p1, (cI κ (r12 54) 50 f12_bodyKind), (cI κ (r12 55) 24 g41)] H := hPD
      have hpo : (0 ≤ x40.toInt ∧ x40.toInt ≤ 1000) ∧ ((0 ≤ p1.toInt ∧ p1.toInt < v12_bodies.toInt ∧ 0 ≤ p2.toInt ∧ p2.toInt ≤ 3) → x42 = actP p1 p2.toInt (f12_bodyKind p1.toNatClampNeg).toInt p3) ∧ ((0 ≤ p1.toInt ∧ p1.toInt < v12_bodies.toInt ∧ 0 ≤ p2.toInt ∧ p2.toInt ≤ 3) ∨ x42.toInt = 0) ∧ ((0 ≤ p1.toInt ∧ p1.toInt < v12_bodies.toInt ∧ 0 ≤ p2.toInt ∧ p2.toInt ≤ 3) → g41 = wrL f12_trace (0 : Int32).toInt (actT p2.toInt (f12_bodyKind p1.toNatClampNeg).toInt)) ∧ ((0 ≤ p1.toInt ∧ p1.toInt < v12_bodies.toInt ∧ 0 ≤ p2.toInt ∧ p2.toInt ≤ 3) → x40.toInt = (0 : Int32).toInt + (((actT p2.toInt (f12_bodyKind p1.toNatClampNeg).toInt).length : Nat) : Int)) ∧ ((0 ≤ p1.toInt ∧ p1.toInt < v12_bodies.toInt ∧ 0 ≤ p2.toInt ∧ p2.toInt ≤ 3) ∨ g41 = f12_trace) ∧ ((0 ≤ p1.toInt ∧ p1.toInt < v12_bodies.toInt ∧ 0 ≤ p2.toInt ∧ p2.toInt ≤ 3) ∨ x40.toInt = 0) := ⟨h44, (fun _ => by unfold actP; rw [if_neg (by omega), if_neg (by omega), if_neg (by omega), ← hk9]; assumption), (by omega), (fun _ => by unfold actT; rw [if_neg (by omega), if_neg (by omega), if_neg (by omega), ← hk9]; assumption), (fun _ => by unfold actT; rw [if_neg (by omega), if_neg (by omega), if_neg (by omega), ← hk9]; assumption), (Or.inl (by omega)), (by omega)⟩
      exact ret _ _ _ _ x42 (x40, x6, p1, g41) dX12_act_99 hpo hP hD hS
    refine lv_tableOut (tgt := 100) hx hb dX12_act_31 (by omega) (by decide) ?_
    refine lv_iconst (v := 0) hx hb dX12_act_100 (by decide) ?_
    have hpo : (0 ≤ (0 : Int32).toInt ∧ (0 : Int32).toInt ≤ 1000) ∧ ((0 ≤ p1.toInt ∧ p1.toInt < v12_bodies.toInt ∧ 0 ≤ p2.toInt ∧ p2.toInt ≤ 3) → (0 : Int32) = actP p1 p2.toInt (f12_bodyKind p1.toNatClampNeg).toInt p3) ∧ ((0 ≤ p1.toInt ∧ p1.toInt < v12_bodies.toInt ∧ 0 ≤ p2.toInt ∧ p2.toInt ≤ 3) ∨ (0 : Int32).toInt = 0) ∧ ((0 ≤ p1.toInt ∧ p1.toInt < v12_bodies.toInt ∧ 0 ≤ p2.toInt ∧ p2.toInt ≤ 3) → f12_trace = wrL f12_trace (0 : Int32).toInt (actT p2.toInt (f12_bodyKind p1.toNatClampNeg).toInt)) ∧ ((0 ≤ p1.toInt ∧ p1.toInt < v12_bodies.toInt ∧ 0 ≤ p2.toInt ∧ p2.toInt ≤ 3) → (0 : Int32).toInt = (0 : Int32).toInt + (((actT p2.toInt (f12_bodyKind p1.toNatClampNeg).toInt).length : Nat) : Int)) ∧ ((0 ≤ p1.toInt ∧ p1.toInt < v12_bodies.toInt ∧ 0 ≤ p2.toInt ∧ p2.toInt ≤ 3) ∨ f12_trace = f12_trace) ∧ ((0 ≤ p1.toInt ∧ p1.toInt < v12_bodies.toInt ∧ 0 ≤ p2.toInt ∧ p2.toInt ≤ 3) ∨ (0 : Int32).toInt = 0) := ⟨h1, (fun h => absurd h (by omega)), (by omega), (fun h => absurd h (by omega)), (fun h => absurd h (by omega)), (Or.inr rfl), (by omega)⟩
    exact ret _ _ _ _ 0 (0, x6, p1, f12_trace) dX12_act_101 hpo hP hD hS
  have c5 := ci_eq c5
  refine lv_iconst (v := 0) hx hb dX12_act_13 (by decide) ?_
  have hpo : (0 ≤ (0 : Int32).toInt ∧ (0 : Int32).toInt ≤ 1000) ∧ ((0 ≤ p1.toInt ∧ p1.toInt < v12_bodies.toInt ∧ 0 ≤ p2.toInt ∧ p2.toInt ≤ 3) → (0 : Int32) = actP p1 p2.toInt (f12_bodyKind p1.toNatClampNeg).toInt p3) ∧ ((0 ≤ p1.toInt ∧ p1.toInt < v12_bodies.toInt ∧ 0 ≤ p2.toInt ∧ p2.toInt ≤ 3) ∨ (0 : Int32).toInt = 0) ∧ ((0 ≤ p1.toInt ∧ p1.toInt < v12_bodies.toInt ∧ 0 ≤ p2.toInt ∧ p2.toInt ≤ 3) → f12_trace = wrL f12_trace (0 : Int32).toInt (actT p2.toInt (f12_bodyKind p1.toNatClampNeg).toInt)) ∧ ((0 ≤ p1.toInt ∧ p1.toInt < v12_bodies.toInt ∧ 0 ≤ p2.toInt ∧ p2.toInt ≤ 3) → (0 : Int32).toInt = (0 : Int32).toInt + (((actT p2.toInt (f12_bodyKind p1.toNatClampNeg).toInt).length : Nat) : Int)) ∧ ((0 ≤ p1.toInt ∧ p1.toInt < v12_bodies.toInt ∧ 0 ≤ p2.toInt ∧ p2.toInt ≤ 3) ∨ f12_trace = f12_trace) ∧ ((0 ≤ p1.toInt ∧ p1.toInt < v12_bodies.toInt ∧ 0 ≤ p2.toInt ∧ p2.toInt ≤ 3) ∨ (0 : Int32).toInt = 0) := ⟨h1, (fun h => absurd h (by omega)), (by omega), (fun h => absurd h (by omega)), (fun h => absurd h (by omega)), (Or.inr rfl), (by omega)⟩
  exact ret _ _ _ _ 0 (0, v12_ownKind, v12_ownNumber, f12_trace) dX12_act_14 hpo hP hD hS
