set_option maxHeartbeats 4000000 in
set_option maxRecDepth 100000 in
theorem k_X12_lets (l : Launch) (D : va_G) (κ : Nat → ClassId) (β : Nat) (a12 : Nat) (r12 : Nat → Nat) (v12_keptMany : Int32) (v12_done : Int32) (v12_sheets : Int32) (v12_holes : Int32) (v12_worms : Int32) (v12_laidMany : Int32) (v12_wanted : Int32) (v12_orderMany : Int32) (v12_firstOrder : Int32) (v12_lines : Int32) (v12_marks : Int32) (v12_dots : Int32) (v12_madeIn : Int32) (v12_bound : Int32) (v12_places : Int32) (v12_maps : Int32) (v12_tapeMany : Int32) (v12_stories : Int32) (v12_base : Int32) (v12_at : Int32) (v12_ends : Int32) (v12_fault : Int32) (v12_opened : Int32) (v12_bodies : Int32) (v12_ran : Int32) (v12_ownKind : Int32) (v12_ownNumber : Int32) (sz : Nat) (i1 : Rg 0 40 v12_keptMany) (i2 : Rg 0 40 v12_done) (i3 : Rg 0 8 v12_sheets) (i4 : Rg 0 40 v12_holes) (i5 : Rg 0 40 v12_worms) (i6 : Rg 0 8 v12_laidMany) (i7 : Rg 0 8 v12_wanted) (i8 : Rg 0 20 v12_lines) (i9 : Rg 0 60 v12_marks) (i10 : Rg 0 40 v12_dots) (i11 : Rg 0 20 v12_places) (i12 : Rg 0 8 v12_maps) (i13 : Rg 0 120 v12_tapeMany) (i14 : Rg 0 6 v12_stories) (i15 : Rg 0 50 v12_bodies) (i16 : Rg 0 1000 v12_ran) (i17 : v12_done.toInt ≤ v12_keptMany.toInt) (i18 : (1 : Int) ≤ 0) : Met l yX12_lets wsX12_lets ({ frames := 1, cells := 0, slots := 0, locals := 30 } : Room) (PcK D κ β [O12 a12 r12 v12_keptMany v12_done v12_sheets v12_holes v12_worms v12_laidMany v12_wanted v12_orderMany v12_firstOrder v12_lines v12_marks v12_dots v12_madeIn v12_bound v12_places v12_maps v12_tapeMany v12_stories v12_base v12_at v12_ends v12_fault v12_opened v12_bodies v12_ran v12_ownKind v12_ownNumber] sz [.ref a12]) (QiK D (fun (r : Int32) (u : Unit) => r.toInt = 0 ∨ r.toInt = 1) (fun (u : Unit) => [O12 a12 r12 v12_keptMany v12_done v12_sheets v12_holes v12_worms v12_laidMany v12_wanted v12_orderMany v12_firstOrder v12_lines v12_marks v12_dots v12_madeIn v12_bound v12_places v12_maps v12_tapeMany v12_stories v12_base v12_at v12_ends v12_fault v12_opened v12_bodies v12_ran v12_ownKind v12_ownNumber]) [O12 a12 r12 v12_keptMany v12_done v12_sheets v12_holes v12_worms v12_laidMany v12_wanted v12_orderMany v12_firstOrder v12_lines v12_marks v12_dots v12_madeIn v12_bound v12_places v12_maps v12_tapeMany v12_stories v12_base v12_at v12_ends v12_fault v12_opened v12_bodies v12_ran v12_ownKind v12_ownNumber] sz) 0 0 (va_A [O12 a12 r12 v12_keptMany v12_done v12_sheets v12_holes v12_worms v12_laidMany v12_wanted v12_orderMany v12_firstOrder v12_lines v12_marks v12_dots v12_madeIn v12_bound v12_places v12_maps v12_tapeMany v12_stories v12_base v12_at v12_ends v12_fault v12_opened v12_bodies v12_ran v12_ownKind v12_ownNumber] sz) := by
  refine ofK_z (cc := cX12_lets) (maxL := 6) (own := RX12) (by decide) rfl rfl (Nat.le_of_ble_eq_true rfl) ?_
  intro p e s m args below meth c Q A ls hsz hx hb hml hts hown hK hA hAB hP hD hl ret
  have hS : va_S A s.heap s.heap [] := va_S.rf
  have hl : lv_has ls 6 [(0, .ref a12)] := hl
  have i5 : 0 ≤ v12_worms.toInt ∧ v12_worms.toInt ≤ 40 := i5
  have i6 : 0 ≤ v12_laidMany.toInt ∧ v12_laidMany.toInt ≤ 8 := i6
  exfalso
  omega
def C_X12_goFrom (l : Launch) (D : va_G) (κ : Nat → ClassId) (β d : Nat) : Prop := ∀ (a12 : Nat) (r12 : Nat → Nat) (v12_keptMany : Int32) (v12_done : Int32) (v12_sheets : Int32) (v12_holes : Int32) (v12_worms : Int32) (v12_laidMany : Int32) (v12_wanted : Int32) (v12_orderMany : Int32) (v12_firstOrder : Int32) (v12_lines : Int32) (v12_marks : Int32) (v12_dots : Int32) (v12_madeIn : Int32) (v12_bound : Int32) (v12_places : Int32) (v12_maps : Int32) (v12_tapeMany : Int32) (v12_stories : Int32) (v12_base : Int32) (v12_at : Int32) (v12_ends : Int32) (v12_fault : Int32) (v12_opened : Int32) (v12_bodies : Int32) (v12_ran : Int32) (v12_ownKind : Int32) (v12_ownNumber : Int32) (f12_wormSheets : Nat → Int32) (f12_laid : Nat → Int32) (f12_sides : Nat → Int32) (sz : Nat) (p1 : Int32) (p2 : Int32) (i1 : Rg 0 40 v12_keptMany) (i2 : Rg 0 40 v12_done) (i3 : Rg 0 8 v12_sheets) (i4 : Rg 0 40 v12_holes) (i5 : Rg 0 40 v12_worms) (i6 : Rg 0 8 v12_laidMany) (i7 : Rg 0 8 v12_wanted) (i8 : Rg 0 20 v12_lines) (i9 : Rg 0 60 v12_marks) (i10 : Rg 0 40 v12_dots) (i11 : Rg 0 20 v12_places) (i12 : Rg 0 8 v12_maps) (i13 : Rg 0 120 v12_tapeMany) (i14 : Rg 0 6 v12_stories) (i15 : Rg 0 50 v12_bodies) (i16 : Rg 0 1000 v12_ran) (hf12_laid : ∀ j : Nat, 0 ≤ (f12_laid j).toInt ∧ (f12_laid j).toInt ≤ 7) (i17 : v12_done.toInt ≤ v12_keptMany.toInt) (i18 : v12_laidMany.toInt ≤ v12_wanted.toInt) (i19 : v12_wanted.toInt - v12_laidMany.toInt < d) (i20 : v12_laidMany.toInt = 0) (i21 : v12_wanted.toInt = 0) (i22 : v12_orderMany.toInt = 0) (i23 : p2.toInt = 0) (i24 : v12_keptMany.toInt = 0) (i25 : v12_done.toInt = 0) (i26 : v12_sheets.toInt = 0) (i27 : v12_holes.toInt = 0) (i28 : v12_worms.toInt = 0) (i29 : v12_lines.toInt = 0) (i30 : v12_marks.toInt = 0) (i31 : v12_dots.toInt = 0) (i32 : v12_madeIn.toInt = 2001) (i33 : v12_places.toInt = 0) (i34 : v12_maps.toInt = 0) (i35 : v12_tapeMany.toInt = 0) (i36 : v12_stories.toInt = 0) (i37 : v12_bodies.toInt = 0), Met l yX12_goFrom wsX12_goFrom ({ frames := d, cells := 0, slots := 0, locals := 23 * d + 50 } : Room) (PcK D κ β [O12 a12 r12 v12_keptMany v12_done v12_sheets v12_holes v12_worms v12_laidMany v12_wanted v12_orderMany v12_firstOrder v12_lines v12_marks v12_dots v12_madeIn v12_bound v12_places v12_maps v12_tapeMany v12_stories v12_base v12_at v12_ends v12_fault v12_opened v12_bodies v12_ran v12_ownKind v12_ownNumber, (cI κ (r12 12) 40 f12_wormSheets), (cI κ (r12 14) 8 f12_laid), (cI κ (r12 19) 64 f12_sides)] sz [.ref a12, .int p1, .int p2]) (QvK D (fun (u : Int32 × Int32 × Int32 × (Nat → Int32) × (Nat → Int32)) => (0 ≤ u.1.toInt ∧ u.1.toInt ≤ 8) ∧ (∀ j : Nat, 0 ≤ (u.2.2.2.1 j).toInt ∧ (u.2.2.2.1 j).toInt ≤ 7) ∧ (u.1.toInt = v12_laidMany.toInt) ∧ (u.2.1.toInt = 1) ∧ (u.2.2.1.toInt = 0)) (fun (u : Int32 × Int32 × Int32 × (Nat → Int32) × (Nat → Int32)) => [O12 a12 r12 v12_keptMany v12_done v12_sheets v12_holes v12_worms u.1 v12_wanted u.2.1 u.2.2.1 v12_lines v12_marks v12_dots v12_madeIn v12_bound v12_places v12_maps v12_tapeMany v12_stories v12_base v12_at v12_ends v12_fault v12_opened v12_bodies v12_ran v12_ownKind v12_ownNumber, (cI κ (r12 12) 40 f12_wormSheets), (cI κ (r12 14) 8 u.2.2.2.1), (cI κ (r12 19) 64 u.2.2.2.2)]) [O12 a12 r12 v12_keptMany v12_done v12_sheets v12_holes v12_worms v12_laidMany v12_wanted v12_orderMany v12_firstOrder v12_lines v12_marks v12_dots v12_madeIn v12_bound v12_places v12_maps v12_tapeMany v12_stories v12_base v12_at v12_ends v12_fault v12_opened v12_bodies v12_ran v12_ownKind v12_ownNumber, (cI κ (r12 12) 40 f12_wormSheets), (cI κ (r12 14) 8 f12_laid), (cI κ (r12 19) 64 f12_sides)] sz) 0 0 (va_A [O12 a12 r12 v12_keptMany v12_done v12_sheets v12_holes v12_worms v12_laidMany v12_wanted v12_orderMany v12_firstOrder v12_lines v12_marks v12_dots v12_madeIn v12_bound v12_places v12_maps v12_tapeMany v12_stories v12_base v12_at v12_ends v12_fault v12_opened v12_bodies v12_ran v12_ownKind v12_ownNumber, (cI κ (r12 12) 40 f12_wormSheets), (cI κ (r12 14) 8 f12_laid), (cI κ (r12 19) 64 f12_sides)] sz)
set_option maxHeartbeats 4000000 in
set_option maxRecDepth 100000 in
theorem of_X12_goFrom (l : Launch) (D : va_G) (κ : Nat → ClassId) (β d : Nat) (h_go : C_X12_goFrom l D κ β d) : C_X12_goFrom l D κ β (d + 1) := by
  intro a12 r12 v12_keptMany v12_done v12_sheets v12_holes v12_worms v12_laidMany v12_wanted v12_orderMany v12_firstOrder v12_lines v12_marks v12_dots v12_madeIn v12_bound v12_places v12_maps v12_tapeMany v12_stories v12_base v12_at v12_ends v12_fault v12_opened v12_bodies v12_ran v12_ownKind v12_ownNumber f12_wormSheets f12_laid f12_sides sz p1 p2 i1 i2 i3 i4 i5 i6 i7 i8 i9 i10 i11 i12 i13 i14 i15 i16 hf12_laid i17 i18 i19 i20 i21 i22 i23 i24 i25 i26 i27 i28 i29 i30 i31 i32 i33 i34 i35 i36 i37
  refine ofK_v (cc := cX12_goFrom) (maxL := 4) (own := RX12) (by decide) rfl rfl (Nat.le_of_ble_eq_true rfl) ?_
  intro p e s m args below meth c Q A ls hsz hx hb hml hts hown hK hA hAB hP hD hl hname ret
  have hS : va_S A s.heap s.heap [] := va_S.rf
  have hl : lv_has ls 4 [(0, .ref a12), (1, .int p1), (2, .int p2)] := hl
  have w0 := hts (.fieldLink RX12 173 "OlderSkinModel" "laidMany" "I") (List.mem_of_getElem? (i := 1) rfl)
  have w1 := (fun w h => List.mem_cons_of_mem _ (List.mem_append_right _ h) : ∀ w ∈ u_ws RX12 TX12 63, w ∈ wsX12_goFrom)
  have w2 := hts (.fieldLink RX12 176 "OlderSkinModel" "wanted" "I") (List.mem_of_getElem? (i := 2) rfl)
  have w3 := hts (.fieldLink RX12 179 "OlderSkinModel" "orderMany" "I") (List.mem_of_getElem? (i := 3) rfl)
  have w4 := hts (.fieldLink RX12 182 "OlderSkinModel" "firstOrder" "I") (List.mem_of_getElem? (i := 4) rfl)
  have l0 : (0 : Int32).toInt = 0 := by decide
  have l1 : (1 : Int32).toInt = 1 := by decide
  have i3 : 0 ≤ v12_sheets.toInt ∧ v12_sheets.toInt ≤ 8 := i3
  have i6 : 0 ≤ v12_laidMany.toInt ∧ v12_laidMany.toInt ≤ 8 := i6
  have i7 : 0 ≤ v12_wanted.toInt ∧ v12_wanted.toInt ≤ 8 := i7
  refine lv_aload_n hx hb dX12_goFrom_0 rfl (lv_at hl 0 rfl) ?_
  refine va_get (D := D) (ci := 12) (v := .int v12_laidMany) (C := RX12) (T := TX12) (N := 63) hx hb hts w1 hown hK.1 hP 0 rfl rfl 15 (by decide) w0 (fun _ h9 => h9) rfl dX12_goFrom_1 ?_
  refine lv_aload_n hx hb dX12_goFrom_4 rfl (lv_at hl 0 rfl) ?_
  refine va_get (D := D) (ci := 12) (v := .int v12_wanted) (C := RX12) (T := TX12) (N := 63) hx hb hts w1 hown hK.1 hP 0 rfl rfl 16 (by decide) w2 (fun _ h9 => h9) rfl dX12_goFrom_5 ?_
  refine lv_icmp_ne (tgt := 111) hx hb dX12_goFrom_8 (by decide) (fun c1 => ?_) (fun c1 => ?_)
  · have c1 := ci_ne c1
    exfalso
    omega
  have c1 := ci_eq c1
  refine lv_aload_n hx hb dX12_goFrom_11 rfl (lv_at hl 0 rfl) ?_
  refine lv_aload_n hx hb dX12_goFrom_12 rfl (lv_at hl 0 rfl) ?_
  refine va_get (D := D) (ci := 12) (v := .int v12_orderMany) (C := RX12) (T := TX12) (N := 63) hx hb hts w1 hown hK.1 hP 0 rfl rfl 17 (by decide) w3 (fun _ h9 => h9) rfl dX12_goFrom_13 ?_
  refine lv_if_ne (tgt := 23) hx hb dX12_goFrom_16 (by decide) (fun c2 => ?_) (fun c2 => ?_)
  · have c2 := ci_ne c2
    refine lv_aload_n hx hb dX12_goFrom_23 rfl (lv_at hl 0 rfl) ?_
    refine va_get (D := D) (ci := 12) (v := .int v12_firstOrder) (C := RX12) (T := TX12) (N := 63) hx hb hts w1 hown hK.1 hP 0 rfl rfl 18 (by decide) w4 (fun _ h9 => h9) rfl dX12_goFrom_24 ?_
    refine va_put (D := D) (ci := 12) (v := .int v12_firstOrder) (ty := .int) (C := RX12) (T := TX12) (N := 63) hx hb hts w1 tyX12 tyX12_ok nmX12 hown hK.1 hP hD hS 0 rfl rfl 18 (by decide) w4 (fun _ h9 => h9) rfl (by decide +kernel) rfl rfl (Nat.le_of_ble_eq_true rfl) dX12_goFrom_27 (fun H locs hP hD hS => ?_)
    obtain ⟨hP, hD⟩ : PD D A [O12 a12 r12 v12_keptMany v12_done v12_sheets v12_holes v12_worms v12_laidMany v12_wanted v12_orderMany v12_firstOrder v12_lines v12_marks v12_dots v12_madeIn v12_bound v12_places v12_maps v12_tapeMany v12_stories v12_base v12_at v12_ends v12_fault v12_opened v12_bodies v12_ran v12_ownKind v12_ownNumber, (cI κ (r12 12) 40 f12_wormSheets), (cI κ (r12 14) 8 f12_laid), (cI κ (r12 19) 64 f12_sides)] H := ⟨hP, hD⟩
    refine lv_aload_n hx hb dX12_goFrom_30 rfl (lv_at hl 0 rfl) ?_
    refine lv_dup hx hb dX12_goFrom_31 rfl ?_
    refine va_get (D := D) (ci := 12) (v := .int v12_orderMany) (C := RX12) (T := TX12) (N := 63) hx hb hts w1 hown hK.1 hP 0 rfl rfl 17 (by decide) w3 (fun _ h9 => h9) rfl dX12_goFrom_32 ?_
    refine lv_iconst (v := 1) hx hb dX12_goFrom_35 (by decide) ?_
    refine lv_iadd hx hb dX12_goFrom_36 ?_
    refine lv_topi (fun x3 e4 => ?_)
    try have h5 : x3.toInt = v12_orderMany.toInt + (1 : Int32).toInt := ci_add e4 (by omega) (by omega)
    refine va_put (D := D) (ci := 12) (v := .int x3) (ty := .int) (C := RX12) (T := TX12) (N := 63) hx hb hts w1 tyX12 tyX12_ok nmX12 hown hK.1 hP hD hS 0 rfl rfl 17 (by decide) w3 (fun _ h9 => h9) rfl (by decide +kernel) rfl rfl (Nat.le_of_ble_eq_true rfl) dX12_goFrom_37 (fun H locs hP hD hS => ?_)
    obtain ⟨hP, hD⟩ : PD D A [O12 a12 r12 v12_keptMany v12_done v12_sheets v12_holes v12_worms v12_laidMany v12_wanted x3 v12_firstOrder v12_lines v12_marks v12_dots v12_madeIn v12_bound v12_places v12_maps v12_tapeMany v12_stories v12_base v12_at v12_ends v12_fault v12_opened v12_bodies v12_ran v12_ownKind v12_ownNumber, (cI κ (r12 12) 40 f12_wormSheets), (cI κ (r12 14) 8 f12_laid), (cI κ (r12 19) 64 f12_sides)] H := ⟨hP, hD⟩
    refine lv_iconst (v := 1) hx hb dX12_goFrom_40 (by decide) ?_
    refine lv_istore_n (lv' := [(3, .int 1), (0, .ref a12), (1, .int p1), (2, .int p2)]) hx hb dX12_goFrom_41 rfl hl (by decide) rfl (fun ls hl => ?_)
    have lp42 : ∀ (n42 : Nat), (1 ≤ (1 : Int32).toInt) → (0 ≤ (1 : Int32).toInt) → (v12_laidMany.toInt - (1 : Int32).toInt).toNat < n42 → ∀ (H : Heap) (locs : List Loc), va_P D vwCl [O12 a12 r12 v12_keptMany v12_done v12_sheets v12_holes v12_worms v12_laidMany v12_wanted x3 v12_firstOrder v12_lines v12_marks v12_dots v12_madeIn v12_bound v12_places v12_maps v12_tapeMany v12_stories v12_base v12_at v12_ends v12_fault v12_opened v12_bodies v12_ran v12_ownKind v12_ownNumber, (cI κ (r12 12) 40 f12_wormSheets), (cI κ (r12 14) 8 f12_laid), (cI κ (r12 19) 64 f12_sides)] H → va_D A [O12 a12 r12 v12_keptMany v12_done v12_sheets v12_holes v12_worms v12_laidMany v12_wanted x3 v12_firstOrder v12_lines v12_marks v12_dots v12_madeIn v12_bound v12_places v12_maps v12_tapeMany v12_stories v12_base v12_at v12_ends v12_fault v12_opened v12_bodies v12_ran v12_ownKind v12_ownNumber, (cI κ (r12 12) 40 f12_wormSheets), (cI κ (r12 14) 8 f12_laid), (cI κ (r12 19) 64 f12_sides)] → va_S A s.heap H locs → ∀ ls : Array Slot, lv_has ls 4 [(3, .int 1), (0, .ref a12), (1, .int p1), (2, .int p2)] → W p l e ({ frames := (d + 1), cells := 0, slots := 0, locals := 23 * (d + 1) + 50 } : Room) s m args below meth c H locs 0 0 Q (F0 m 42 ls []) := by
      intro n42
      induction n42 with
      | zero =>
        intro h6 h7 m8
        exact absurd m8 (Nat.not_lt_zero _)
      | succ n42 ih42 =>
        intro h6 h7 m8 H locs hP hD hS ls hl
        refine lv_iload_n hx hb dX12_goFrom_42 rfl (lv_at hl 0 rfl) ?_
        refine lv_aload_n hx hb dX12_goFrom_43 rfl (lv_at hl 1 rfl) ?_
        refine va_get (D := D) (ci := 12) (v := .int v12_laidMany) (C := RX12) (T := TX12) (N := 63) hx hb hts w1 hown hK.1 hP 0 rfl rfl 15 (by decide) w0 (fun _ h9 => h9) rfl dX12_goFrom_44 ?_
        refine lv_icmp_ge (tgt := 110) hx hb dX12_goFrom_47 (by decide) (fun c9 => ?_) (fun c9 => ?_)
        · have c9 := ci_le c9
          have hpo : (0 ≤ v12_laidMany.toInt ∧ v12_laidMany.toInt ≤ 8) ∧ (∀ j : Nat, 0 ≤ (f12_laid j).toInt ∧ (f12_laid j).toInt ≤ 7) ∧ (v12_laidMany.toInt = v12_laidMany.toInt) ∧ (x3.toInt = 1) ∧ (v12_firstOrder.toInt = 0) := ⟨i6, hf12_laid, (by omega), (by omega), (by omega)⟩
          exact ret _ _ _ _ (v12_laidMany, x3, v12_firstOrder, f12_laid, f12_sides) dX12_goFrom_110 hpo hP hD hS
        have c9 := ci_nle c9
        exfalso
        omega
    exact lp42 ((v12_laidMany.toInt - (1 : Int32).toInt).toNat + 1) (by omega) (by omega) (by omega) _ _ hP hD hS _ hl
  have c2 := ci_eq c2
  refine lv_iload_n hx hb dX12_goFrom_19 rfl (lv_at hl 2 rfl) ?_
  refine lv_goto (tgt := 27) hx hb dX12_goFrom_20 (by decide) ?_
  refine va_put (D := D) (ci := 12) (v := .int p2) (ty := .int) (C := RX12) (T := TX12) (N := 63) hx hb hts w1 tyX12 tyX12_ok nmX12 hown hK.1 hP hD hS 0 rfl rfl 18 (by decide) w4 (fun _ h9 => h9) rfl (by decide +kernel) rfl rfl (Nat.le_of_ble_eq_true rfl) dX12_goFrom_27 (fun H locs hP hD hS => ?_)
  obtain ⟨hP, hD⟩ : PD D A [O12 a12 r12 v12_keptMany v12_done v12_sheets v12_holes v12_worms v12_laidMany v12_wanted v12_orderMany p2 v12_lines v12_marks v12_dots v12_madeIn v12_bound v12_places v12_maps v12_tapeMany v12_stories v12_base v12_at v12_ends v12_fault v12_opened v12_bodies v12_ran v12_ownKind v12_ownNumber, (cI κ (r12 12) 40 f12_wormSheets), (cI κ (r12 14) 8 f12_laid), (cI κ (r12 19) 64 f12_sides)] H := ⟨hP, hD⟩
  refine lv_aload_n hx hb dX12_goFrom_30 rfl (lv_at hl 0 rfl) ?_
  refine lv_dup hx hb dX12_goFrom_31 rfl ?_
  refine va_get (D := D) (ci := 12) (v := .int v12_orderMany) (C := RX12) (T := TX12) (N := 63) hx hb hts w1 hown hK.1 hP 0 rfl rfl 17 (by decide) w3 (fun _ h9 => h9) rfl dX12_goFrom_32 ?_
  refine lv_iconst (v := 1) hx hb dX12_goFrom_35 (by decide) ?_
  refine lv_iadd hx hb dX12_goFrom_36 ?_
  refine lv_topi (fun x10 e11 => ?_)
  try have h12 : x10.toInt = v12_orderMany.toInt + (1 : Int32).toInt := ci_add e11 (by omega) (by omega)
  refine va_put (D := D) (ci := 12) (v := .int x10) (ty := .int) (C := RX12) (T := TX12) (N := 63) hx hb hts w1 tyX12 tyX12_ok nmX12 hown hK.1 hP hD hS 0 rfl rfl 17 (by decide) w3 (fun _ h9 => h9) rfl (by decide +kernel) rfl rfl (Nat.le_of_ble_eq_true rfl) dX12_goFrom_37 (fun H locs hP hD hS => ?_)
  obtain ⟨hP, hD⟩ : PD D A [O12 a12 r12 v12_keptMany v12_done v12_sheets v12_holes v12_worms v12_laidMany v12_wanted x10 p2 v12_lines v12_marks v12_dots v12_madeIn v12_bound v12_places v12_maps v12_tapeMany v12_stories v12_base v12_at v12_ends v12_fault v12_opened v12_bodies v12_ran v12_ownKind v12_ownNumber, (cI κ (r12 12) 40 f12_wormSheets), (cI κ (r12 14) 8 f12_laid), (cI κ (r12 19) 64 f12_sides)] H := ⟨hP, hD⟩
  refine lv_iconst (v := 1) hx hb dX12_goFrom_40 (by decide) ?_
  refine lv_istore_n (lv' := [(3, .int 1), (0, .ref a12), (1, .int p1), (2, .int p2)]) hx hb dX12_goFrom_41 rfl hl (by decide) rfl (fun ls hl => ?_)
  have lp42 : ∀ (n42 : Nat), (1 ≤ (1 : Int32).toInt) → (0 ≤ (1 : Int32).toInt) → (v12_laidMany.toInt - (1 : Int32).toInt).toNat < n42 → ∀ (H : Heap) (locs : List Loc), va_P D vwCl [O12 a12 r12 v12_keptMany v12_done v12_sheets v12_holes v12_worms v12_laidMany v12_wanted x10 p2 v12_lines v12_marks v12_dots v12_madeIn v12_bound v12_places v12_maps v12_tapeMany v12_stories v12_base v12_at v12_ends v12_fault v12_opened v12_bodies v12_ran v12_ownKind v12_ownNumber, (cI κ (r12 12) 40 f12_wormSheets), (cI κ (r12 14) 8 f12_laid), (cI κ (r12 19) 64 f12_sides)] H → va_D A [O12 a12 r12 v12_keptMany v12_done v12_sheets v12_holes v12_worms v12_laidMany v12_wanted x10 p2 v12_lines v12_marks v12_dots v12_madeIn v12_bound v12_places v12_maps v12_tapeMany v12_stories v12_base v12_at v12_ends v12_fault v12_opened v12_bodies v12_ran v12_ownKind v12_ownNumber, (cI κ (r12 12) 40 f12_wormSheets), (cI κ (r12 14) 8 f12_laid), (cI κ (r12 19) 64 f12_sides)] → va_S A s.heap H locs → ∀ ls : Array Slot, lv_has ls 4 [(3, .int 1), (0, .ref a12), (1, .int p1), (2, .int p2)] → W p l e ({ frames := (d + 1), cells := 0, slots := 0, locals := 23 * (d + 1) + 50 } : Room) s m args below meth c H locs 0 0 Q (F0 m 42 ls []) := by
    intro n42
    induction n42 with
    | zero =>
      intro h13 h14 m15
      exact absurd m15 (Nat.not_lt_zero _)
    | succ n42 ih42 =>
      intro h13 h14 m15 H locs hP hD hS ls hl
      refine lv_iload_n hx hb dX12_goFrom_42 rfl (lv_at hl 0 rfl) ?_
      refine lv_aload_n hx hb dX12_goFrom_43 rfl (lv_at hl 1 rfl) ?_
      refine va_get (D := D) (ci := 12) (v := .int v12_laidMany) (C := RX12) (T := TX12) (N := 63) hx hb hts w1 hown hK.1 hP 0 rfl rfl 15 (by decide) w0 (fun _ h9 => h9) rfl dX12_goFrom_44 ?_
      refine lv_icmp_ge (tgt := 110) hx hb dX12_goFrom_47 (by decide) (fun c16 => ?_) (fun c16 => ?_)
      · have c16 := ci_le c16
        have hpo : (0 ≤ v12_laidMany.toInt ∧ v12_laidMany.toInt ≤ 8) ∧ (∀ j : Nat, 0 ≤ (f12_laid j).toInt ∧ (f12_laid j).toInt ≤ 7) ∧ (v12_laidMany.toInt = v12_laidMany.toInt) ∧ (x10.toInt = 1) ∧ (p2.toInt = 0) := ⟨i6, hf12_laid, (by omega), (by omega), (by omega)⟩
        exact ret _ _ _ _ (v12_laidMany, x10, p2, f12_laid, f12_sides) dX12_goFrom_110 hpo hP hD hS
      have c16 := ci_nle c16
      exfalso
      omega
  exact lp42 ((v12_laidMany.toInt - (1 : Int32).toInt).toNat + 1) (by omega) (by omega) (by omega) _ _ hP hD hS _ hl
theorem k_X12_goFrom (l : Launch) (D : va_G) (κ : Nat → ClassId) (β : Nat) : ∀ d : Nat, C_X12_goFrom l D κ β d
  | 0 => by
    intro a12 r12 v12_keptMany v12_done v12_sheets v12_holes v12_worms v12_laidMany v12_wanted v12_orderMany v12_firstOrder v12_lines v12_marks v12_dots v12_madeIn v12_bound v12_places v12_maps v12_tapeMany v12_stories v12_base v12_at v12_ends v12_fault v12_opened v12_bodies v12_ran v12_ownKind v12_ownNumber f12_wormSheets f12_laid f12_sides sz p1 p2 i1 i2 i3 i4 i5 i6 i7 i8 i9 i10 i11 i12 i13 i14 i15 i16 hf12_laid i17 i18 i19 i20 i21 i22 i23 i24 i25 i26 i27 i28 i29 i30 i31 i32 i33 i34 i35 i36 i37
    exfalso
    omega
  | d + 1 => of_X12_goFrom l D κ β d (k_X12_goFrom l D κ β d)
set_option maxHeartbeats 4000000 in
set_option maxRecDepth 100000 in
theorem k_X12_findOrders (l : Launch) (D : va_G) (κ : Nat → ClassId) (β : Nat) (a12 : Nat) (r12 : Nat → Nat) (v12_keptMany : Int32) (v12_done : Int32) (v12_sheets : Int32) (v12_holes : Int32) (v12_worms : Int32) (v12_laidMany : Int32) (v12_wanted : Int32) (v12_orderMany : Int32) (v12_firstOrder : Int32) (v12_lines : Int32) (v12_marks : Int32) (v12_dots : Int32) (v12_madeIn : Int32) (v12_bound : Int32) (v12_places : Int32) (v12_maps : Int32) (v12_tapeMany : Int32) (v12_stories : Int32) (v12_base : Int32) (v12_at : Int32) (v12_ends : Int32) (v12_fault : Int32) (v12_opened : Int32) (v12_bodies : Int32) (v12_ran : Int32) (v12_ownKind : Int32) (v12_ownNumber : Int32) (f12_wormSheets : Nat → Int32) (f12_laid : Nat → Int32) (f12_sides : Nat → Int32) (sz : Nat) (p1 : Int32) (p2 : Int32) (i1 : Rg 0 40 v12_keptMany) (i2 : Rg 0 40 v12_done) (i3 : Rg 0 8 v12_sheets) (i4 : Rg 0 40 v12_holes) (i5 : Rg 0 40 v12_worms) (i6 : Rg 0 8 v12_laidMany) (i7 : Rg 0 8 v12_wanted) (i8 : Rg 0 20 v12_lines) (i9 : Rg 0 60 v12_marks) (i10 : Rg 0 40 v12_dots) (i11 : Rg 0 20 v12_places) (i12 : Rg 0 8 v12_maps) (i13 : Rg 0 120 v12_tapeMany) (i14 : Rg 0 6 v12_stories) (i15 : Rg 0 50 v12_bodies) (i16 : Rg 0 1000 v12_ran) (hf12_laid : ∀ j : Nat, 0 ≤ (f12_laid j).toInt ∧ (f12_laid j).toInt ≤ 7) (i17 : v12_done.toInt ≤ v12_keptMany.toInt) (i18 : p2.toInt < 0 ∨ 1 ≤ v12_sheets.toInt) (i19 : v12_keptMany.toInt = 0) (i20 : v12_done.toInt = 0) (i21 : v12_sheets.toInt = 0) (i22 : v12_holes.toInt = 0) (i23 : v12_worms.toInt = 0) (i24 : v12_lines.toInt = 0) (i25 : v12_marks.toInt = 0) (i26 : v12_dots.toInt = 0) (i27 : v12_madeIn.toInt = 2001) (i28 : v12_places.toInt = 0) (i29 : v12_maps.toInt = 0) (i30 : v12_tapeMany.toInt = 0) (i31 : v12_stories.toInt = 0) (i32 : v12_bodies.toInt = 0) : Met l yX12_findOrders wsX12_findOrders ({ frames := 10, cells := 0, slots := 0, locals := 280 } : Room) (PcK D κ β [O12 a12 r12 v12_keptMany v12_done v12_sheets v12_holes v12_worms v12_laidMany v12_wanted v12_orderMany v12_firstOrder v12_lines v12_marks v12_dots v12_madeIn v12_bound v12_places v12_maps v12_tapeMany v12_stories v12_base v12_at v12_ends v12_fault v12_opened v12_bodies v12_ran v12_ownKind v12_ownNumber, (cI κ (r12 12) 40 f12_wormSheets), (cI κ (r12 14) 8 f12_laid), (cI κ (r12 19) 64 f12_sides)] sz [.ref a12, .int p1, .int p2]) (QvK D (fun (u : Int32 × Int32 × Int32 × Int32 × Int32 × (Nat → Int32) × (Nat → Int32)) => (0 ≤ u.1.toInt ∧ u.1.toInt ≤ 40) ∧ (0 ≤ u.2.1.toInt ∧ u.2.1.toInt ≤ 8) ∧ (0 ≤ u.2.2.1.toInt ∧ u.2.2.1.toInt ≤ 8) ∧ (∀ j : Nat, 0 ≤ (u.2.2.2.2.2.1 j).toInt ∧ (u.2.2.2.2.2.1 j).toInt ≤ 7) ∧ (u.2.2.2.1.toInt = 1) ∧ (u.2.2.2.2.1.toInt = 0)) (fun (u : Int32 × Int32 × Int32 × Int32 × Int32 × (Nat → Int32) × (Nat → Int32)) => [O12 a12 r12 v12_keptMany v12_done v12_sheets v12_holes u.1 u.2.1 u.2.2.1 u.2.2.2.1 u.2.2.2.2.1 v12_lines v12_marks v12_dots v12_madeIn v12_bound v12_places v12_maps v12_tapeMany v12_stories v12_base v12_at v12_ends v12_fault v12_opened v12_bodies v12_ran v12_ownKind v12_ownNumber, (cI κ (r12 12) 40 f12_wormSheets), (cI κ (r12 14) 8 u.2.2.2.2.2.1), (cI κ (r12 19) 64 u.2.2.2.2.2.2)]) [O12 a12 r12 v12_keptMany v12_done v12_sheets v12_holes v12_worms v12_laidMany v12_wanted v12_orderMany v12_firstOrder v12_lines v12_marks v12_dots v12_madeIn v12_bound v12_places v12_maps v12_tapeMany v12_stories v12_base v12_at v12_ends v12_fault v12_opened v12_bodies v12_ran v12_ownKind v12_ownNumber, (cI κ (r12 12) 40 f12_wormSheets), (cI κ (r12 14) 8 f12_laid), (cI κ (r12 19) 64 f12_sides)] sz) 0 0 (va_A [O12 a12 r12 v12_keptMany v12_done v12_sheets v12_holes v12_worms v12_laidMany v12_wanted v12_orderMany v12_firstOrder v12_lines v12_marks v12_dots v12_madeIn v12_bound v12_places v12_maps v12_tapeMany v12_stories v12_base v12_at v12_ends v12_fault v12_opened v12_bodies v12_ran v12_ownKind v12_ownNumber, (cI κ (r12 12) 40 f12_wormSheets), (cI κ (r12 14) 8 f12_laid), (cI κ (r12 19) 64 f12_sides)] sz) := by
  refine ofK_v (cc := cX12_findOrders) (maxL := 4) (own := RX12) (by decide) rfl rfl (Nat.le_of_ble_eq_true rfl) ?_
  intro p e s m args below meth c Q A ls hsz hx hb hml hts hown hK hA hAB hP hD hl hname ret
  have hS : va_S A s.heap s.heap [] := va_S.rf
  have hl : lv_has ls 4 [(0, .ref a12), (1, .int p1), (2, .int p2)] := hl
  have w0 := hts (.fieldLink RX12 179 "OlderSkinModel" "orderMany" "I") (List.mem_of_getElem? (i := 2) rfl)
  have w1 := (fun w h => List.mem_cons_of_mem _ (List.mem_append_right _ h) : ∀ w ∈ u_ws RX12 TX12 63, w ∈ wsX12_findOrders)
  have w2 := hts (.fieldLink RX12 182 "OlderSkinModel" "firstOrder" "I") (List.mem_of_getElem? (i := 3) rfl)
  have w3 := hts (.fieldLink RX12 173 "OlderSkinModel" "laidMany" "I") (List.mem_of_getElem? (i := 4) rfl)
  have w4 := hts (.fieldLink RX12 133 "OlderSkinModel" "sheets" "I") (List.mem_of_getElem? (i := 5) rfl)
  have w5 := hts (.fieldLink RX12 176 "OlderSkinModel" "wanted" "I") (List.mem_of_getElem? (i := 6) rfl)
  have w6 := hts (.fieldLink RX12 40 "OlderSkinModel" "sides" "[I") (List.mem_of_getElem? (i := 1) rfl)
  have l0 : (0 : Int32).toInt = 0 := by decide
  have l1 : (64 : Int32).toInt = 64 := by decide
  have l2 : (1 : Int32).toInt = 1 := by decide
  have i3 : 0 ≤ v12_sheets.toInt ∧ v12_sheets.toInt ≤ 8 := i3
  have i5 : 0 ≤ v12_worms.toInt ∧ v12_worms.toInt ≤ 40 := i5
  have i6 : 0 ≤ v12_laidMany.toInt ∧ v12_laidMany.toInt ≤ 8 := i6
  have i7 : 0 ≤ v12_wanted.toInt ∧ v12_wanted.toInt ≤ 8 := i7
  refine lv_aload_n hx hb dX12_findOrders_0 rfl (lv_at hl 0 rfl) ?_
  refine lv_iload_n hx hb dX12_findOrders_1 rfl (lv_at hl 1 rfl) ?_
  refine lv_iload_n hx hb dX12_findOrders_2 rfl (lv_at hl 2 rfl) ?_
  refine kcm_v hA hAB hP hD hS [true, false, false, false] rfl (fun _ => rfl) (fun hPc hDc => va_runV (As := [.int p1, .int p2]) (rest := []) ⟨hx, hb, hml, hown, hts⟩ (k_X12_findWorms l D κ β a12 r12 v12_keptMany v12_done v12_sheets v12_holes v12_worms v12_laidMany v12_wanted v12_orderMany v12_firstOrder v12_lines v12_marks v12_dots v12_madeIn v12_bound v12_places v12_maps v12_tapeMany v12_stories v12_base v12_at v12_ends v12_fault v12_opened v12_bodies v12_ran v12_ownKind v12_ownNumber s.heap.size p1 p2 i1 i2 i3 i4 i5 i6 i7 i8 i9 i10 i11 i12 i13 i14 i15 i16 i17 (by omega) (by omega) (by omega) (by omega) (by omega) (by omega) (by omega) (by omega) (by omega) (by omega) (by omega) (by omega) (by omega) (by omega)) (cwV 2 hts gX12_findOrders_X12_findWorms rfl rfl rfl (by decide +kernel) ⟨Nat.le_of_ble_eq_true rfl, Nat.le_of_ble_eq_true rfl⟩) (pk_V hK hS hAB hPc hDc 0 (ci := 12) rfl rfl rfl) rfl rfl hl.1 rfl (lv_room (Nat.le_of_ble_eq_true rfl)) dX12_findOrders_3 ⟨Nat.le_of_ble_eq_true rfl, Nat.le_of_ble_eq_true rfl⟩) (fun x1 H locs hw hPD hS => ?_)
  obtain ⟨h2, h3⟩ : (0 ≤ x1.toInt ∧ x1.toInt ≤ 40) ∧ (x1.toInt = 0) := hw
  obtain ⟨hP, hD⟩ : PD D A [O12 a12 r12 v12_keptMany v12_done v12_sheets v12_holes x1 v12_laidMany v12_wanted v12_orderMany v12_firstOrder v12_lines v12_marks v12_dots v12_madeIn v12_bound v12_places v12_maps v12_tapeMany v12_stories v12_base v12_at v12_ends v12_fault v12_opened v12_bodies v12_ran v12_ownKind v12_ownNumber, (cI κ (r12 12) 40 f12_wormSheets), (cI κ (r12 14) 8 f12_laid), (cI κ (r12 19) 64 f12_sides)] H := hPD
  refine lv_iconst (v := 0) hx hb dX12_findOrders_6 (by decide) ?_
  refine lv_istore_n (lv' := [(3, .int 0), (0, .ref a12), (1, .int p1), (2, .int p2)]) hx hb dX12_findOrders_7 rfl hl (by decide) rfl (fun ls hl => ?_)
  have lp8 : ∀ (n8 : Nat) (k4 : Int32) (g5 : Nat → Int32), (0 ≤ k4.toInt) → (64 - k4.toInt).toNat < n8 → ∀ (H : Heap) (locs : List Loc), va_P D vwCl [O12 a12 r12 v12_keptMany v12_done v12_sheets v12_holes x1 v12_laidMany v12_wanted v12_orderMany v12_firstOrder v12_lines v12_marks v12_dots v12_madeIn v12_bound v12_places v12_maps v12_tapeMany v12_stories v12_base v12_at v12_ends v12_fault v12_opened v12_bodies v12_ran v12_ownKind v12_ownNumber, (cI κ (r12 12) 40 f12_wormSheets), (cI κ (r12 14) 8 f12_laid), (cI κ (r12 19) 64 g5)] H → va_D A [O12 a12 r12 v12_keptMany v12_done v12_sheets v12_holes x1 v12_laidMany v12_wanted v12_orderMany v12_firstOrder v12_lines v12_marks v12_dots v12_madeIn v12_bound v12_places v12_maps v12_tapeMany v12_stories v12_base v12_at v12_ends v12_fault v12_opened v12_bodies v12_ran v12_ownKind v12_ownNumber, (cI κ (r12 12) 40 f12_wormSheets), (cI κ (r12 14) 8 f12_laid), (cI κ (r12 19) 64 g5)] → va_S A s.heap H locs → ∀ ls : Array Slot, lv_has ls 4 [(3, .int k4), (0, .ref a12), (1, .int p1), (2, .int p2)] → W p l e ({ frames := 10, cells := 0, slots := 0, locals := 280 } : Room) s m args below meth c H locs 0 0 Q (F0 m 8 ls []) := by
    intro n8
    induction n8 with
    | zero =>
      intro k4 g5 h6 m7
      exact absurd m7 (Nat.not_lt_zero _)
    | succ n8 ih8 =>
      intro k4 g5 h6 m7 H locs hP hD hS ls hl
      refine lv_iload_n hx hb dX12_findOrders_8 rfl (lv_at hl 0 rfl) ?_
      refine lv_bipush (v := 64) hx hb dX12_findOrders_9 (by decide) ?_
      refine lv_icmp_ge (tgt := 27) hx hb dX12_findOrders_11 (by decide) (fun c8 => ?_) (fun c8 => ?_)
      · have c8 := ci_le c8
        refine lv_aload_n hx hb dX12_findOrders_27 rfl (lv_at hl 1 rfl) ?_
        refine lv_iconst (v := 0) hx hb dX12_findOrders_28 (by decide) ?_
        refine va_put (D := D) (ci := 12) (v := .int 0) (ty := .int) (C := RX12) (T := TX12) (N := 63) hx hb hts w1 tyX12 tyX12_ok nmX12 hown hK.1 hP hD hS 0 rfl rfl 17 (by decide) w0 (fun _ h9 => h9) rfl (by decide +kernel) rfl rfl (Nat.le_of_ble_eq_true rfl) dX12_findOrders_29 (fun H locs hP hD hS => ?_)
        obtain ⟨hP, hD⟩ : PD D A [O12 a12 r12 v12_keptMany v12_done v12_sheets v12_holes x1 v12_laidMany v12_wanted 0 v12_firstOrder v12_lines v12_marks v12_dots v12_madeIn v12_bound v12_places v12_maps v12_tapeMany v12_stories v12_base v12_at v12_ends v12_fault v12_opened v12_bodies v12_ran v12_ownKind v12_ownNumber, (cI κ (r12 12) 40 f12_wormSheets), (cI κ (r12 14) 8 f12_laid), (cI κ (r12 19) 64 g5)] H := ⟨hP, hD⟩
        refine lv_aload_n hx hb dX12_findOrders_32 rfl (lv_at hl 1 rfl) ?_
        refine lv_iconst (v := 0) hx hb dX12_findOrders_33 (by decide) ?_
        refine va_put (D := D) (ci := 12) (v := .int 0) (ty := .int) (C := RX12) (T := TX12) (N := 63) hx hb hts w1 tyX12 tyX12_ok nmX12 hown hK.1 hP hD hS 0 rfl rfl 18 (by decide) w2 (fun _ h9 => h9) rfl (by decide +kernel) rfl rfl (Nat.le_of_ble_eq_true rfl) dX12_findOrders_34 (fun H locs hP hD hS => ?_)
        obtain ⟨hP, hD⟩ : PD D A [O12 a12 r12 v12_keptMany v12_done v12_sheets v12_holes x1 v12_laidMany v12_wanted 0 0 v12_lines v12_marks v12_dots v12_madeIn v12_bound v12_places v12_maps v12_tapeMany v12_stories v12_base v12_at v12_ends v12_fault v12_opened v12_bodies v12_ran v12_ownKind v12_ownNumber, (cI κ (r12 12) 40 f12_wormSheets), (cI κ (r12 14) 8 f12_laid), (cI κ (r12 19) 64 g5)] H := ⟨hP, hD⟩
        refine lv_aload_n hx hb dX12_findOrders_37 rfl (lv_at hl 1 rfl) ?_
        refine lv_iconst (v := 0) hx hb dX12_findOrders_38 (by decide) ?_
        refine va_put (D := D) (ci := 12) (v := .int 0) (ty := .int) (C := RX12) (T := TX12) (N := 63) hx hb hts w1 tyX12 tyX12_ok nmX12 hown hK.1 hP hD hS 0 rfl rfl 15 (by decide) w3 (fun _ h9 => h9) rfl (by decide +kernel) rfl rfl (Nat.le_of_ble_eq_true rfl) dX12_findOrders_39 (fun H locs hP hD hS => ?_)
        obtain ⟨hP, hD⟩ : PD D A [O12 a12 r12 v12_keptMany v12_done v12_sheets v12_holes x1 0 v12_wanted 0 0 v12_lines v12_marks v12_dots v12_madeIn v12_bound v12_places v12_maps v12_tapeMany v12_stories v12_base v12_at v12_ends v12_fault v12_opened v12_bodies v12_ran v12_ownKind v12_ownNumber, (cI κ (r12 12) 40 f12_wormSheets), (cI κ (r12 14) 8 f12_laid), (cI κ (r12 19) 64 g5)] H := ⟨hP, hD⟩
        have h9 : 0 ≤ (0 : Int32).toInt ∧ (0 : Int32).toInt ≤ 8 := by omega
        refine lv_aload_n hx hb dX12_findOrders_42 rfl (lv_at hl 1 rfl) ?_
        refine lv_iload_n hx hb dX12_findOrders_43 rfl (lv_at hl 3 rfl) ?_
        refine lv_if_ge (tgt := 54) hx hb dX12_findOrders_44 (by decide) (fun c10 => ?_) (fun c10 => ?_)
        · have c10 := ci_le c10
          refine lv_aload_n hx hb dX12_findOrders_54 rfl (lv_at hl 1 rfl) ?_
          refine va_get (D := D) (ci := 12) (v := .int v12_sheets) (C := RX12) (T := TX12) (N := 63) hx hb hts w1 hown hK.1 hP 0 rfl rfl 6 (by decide) w4 (fun _ h9 => h9) rfl dX12_findOrders_55 ?_
          refine lv_iconst (v := 1) hx hb dX12_findOrders_58 (by decide) ?_
          refine lv_isub hx hb dX12_findOrders_59 ?_
          refine lv_topi (fun x11 e12 => ?_)
          try have h13 : x11.toInt = v12_sheets.toInt - (1 : Int32).toInt := ci_sub e12 (by omega) (by omega)
          refine va_put (D := D) (ci := 12) (v := .int x11) (ty := .int) (C := RX12) (T := TX12) (N := 63) hx hb hts w1 tyX12 tyX12_ok nmX12 hown hK.1 hP hD hS 0 rfl rfl 16 (by decide) w5 (fun _ h9 => h9) rfl (by decide +kernel) rfl rfl (Nat.le_of_ble_eq_true rfl) dX12_findOrders_60 (fun H locs hP hD hS => ?_)
          obtain ⟨hP, hD⟩ : PD D A [O12 a12 r12 v12_keptMany v12_done v12_sheets v12_holes x1 0 x11 0 0 v12_lines v12_marks v12_dots v12_madeIn v12_bound v12_places v12_maps v12_tapeMany v12_stories v12_base v12_at v12_ends v12_fault v12_opened v12_bodies v12_ran v12_ownKind v12_ownNumber, (cI κ (r12 12) 40 f12_wormSheets), (cI κ (r12 14) 8 f12_laid), (cI κ (r12 19) 64 g5)] H := ⟨hP, hD⟩
          have h14 : 0 ≤ x11.toInt ∧ x11.toInt ≤ 8 := by omega
          refine lv_aload_n hx hb dX12_findOrders_63 rfl (lv_at hl 1 rfl) ?_
          refine lv_iload_n hx hb dX12_findOrders_64 rfl (lv_at hl 3 rfl) ?_
          refine lv_if_ge (tgt := 72) hx hb dX12_findOrders_65 (by decide) (fun c15 => ?_) (fun c15 => ?_)
          · have c15 := ci_le c15
            refine lv_iconst (v := 1) hx hb dX12_findOrders_72 (by decide) ?_
            refine lv_iload_n hx hb dX12_findOrders_73 rfl (lv_at hl 3 rfl) ?_
            refine lv_ishl hx hb dX12_findOrders_74 ?_
            refine lv_topi (fun x16 e17 => ?_)
            refine lv_iconst (v := 0) hx hb dX12_findOrders_75 (by decide) ?_
            refine kcm_v hA hAB hP hD hS [true, true, true, true] rfl (fun _ => rfl) (fun hPc hDc => va_runV (As := [.int x16, .int 0]) (rest := []) ⟨hx, hb, hml, hown, hts⟩ (k_X12_goFrom l D κ β 9 a12 r12 v12_keptMany v12_done v12_sheets v12_holes x1 0 x11 0 0 v12_lines v12_marks v12_dots v12_madeIn v12_bound v12_places v12_maps v12_tapeMany v12_stories v12_base v12_at v12_ends v12_fault v12_opened v12_bodies v12_ran v12_ownKind v12_ownNumber f12_wormSheets f12_laid g5 H.size x16 0 i1 i2 i3 i4 h2 h9 h14 i8 i9 i10 i11 i12 i13 i14 i15 i16 hf12_laid i17 (by omega) (by omega) (by omega) (by omega) (by omega) (by omega) (by omega) (by omega) (by omega) (by omega) (by omega) (by omega) (by omega) (by omega) (by omega) (by omega) (by omega) (by omega) (by omega) (by omega)) (cwV 2 hts gX12_findOrders_X12_goFrom rfl rfl rfl (by decide +kernel) ⟨Nat.le_of_ble_eq_true rfl, Nat.le_of_ble_eq_true rfl⟩) (pk_V hK hS hAB hPc hDc 0 (ci := 12) rfl rfl rfl) rfl rfl hl.1 rfl (lv_room (Nat.le_of_ble_eq_true rfl)) dX12_findOrders_76 ⟨Nat.le_of_ble_eq_true rfl, Nat.le_of_ble_eq_true rfl⟩) (fun u23 H locs hw hPD hS => ?_)
            obtain ⟨x18, x19, x20, g21, g22⟩ := u23
            obtain ⟨h24, h25, h26, h27, h28⟩ : (0 ≤ x18.toInt ∧ x18.toInt ≤ 8) ∧ (∀ j : Nat, 0 ≤ (g21 j).toInt ∧ (g21 j).toInt ≤ 7) ∧ (x18.toInt = (0 : Int32).toInt) ∧ (x19.toInt = 1) ∧ (x20.toInt = 0) := hw
            obtain ⟨hP, hD⟩ : PD D A [O12 a12 r12 v12_keptMany v12_done v12_sheets v12_holes x1 x18 x11 x19 x20 v12_lines v12_marks v12_dots v12_madeIn v12_bound v12_places v12_maps v12_tapeMany v12_stories v12_base v12_at v12_ends v12_fault v12_opened v12_bodies v12_ran v12_ownKind v12_ownNumber, (cI κ (r12 12) 40 f12_wormSheets), (cI κ (r12 14) 8 g21), (cI κ (r12 19) 64 g22)] H := hPD
            have hpo : (0 ≤ x1.toInt ∧ x1.toInt ≤ 40) ∧ (0 ≤ x18.toInt ∧ x18.toInt ≤ 8) ∧ (0 ≤ x11.toInt ∧ x11.toInt ≤ 8) ∧ (∀ j : Nat, 0 ≤ (g21 j).toInt ∧ (g21 j).toInt ≤ 7) ∧ (x19.toInt = 1) ∧ (x20.toInt = 0) := ⟨h2, h24, h14, h25, (by omega), (by omega)⟩
            exact ret _ _ _ _ (x1, x18, x11, x19, x20, g21, g22) dX12_findOrders_79 hpo hP hD hS
          have c15 := ci_nle c15
          refine lv_iconst (v := 0) hx hb dX12_findOrders_68 (by decide) ?_
          refine lv_goto (tgt := 75) hx hb dX12_findOrders_69 (by decide) ?_
          refine lv_iconst (v := 0) hx hb dX12_findOrders_75 (by decide) ?_
          refine kcm_v hA hAB hP hD hS [true, true, true, true] rfl (fun _ => rfl) (fun hPc hDc => va_runV (As := [.int 0, .int 0]) (rest := []) ⟨hx, hb, hml, hown, hts⟩ (k_X12_goFrom l D κ β 9 a12 r12 v12_keptMany v12_done v12_sheets v12_holes x1 0 x11 0 0 v12_lines v12_marks v12_dots v12_madeIn v12_bound v12_places v12_maps v12_tapeMany v12_stories v12_base v12_at v12_ends v12_fault v12_opened v12_bodies v12_ran v12_ownKind v12_ownNumber f12_wormSheets f12_laid g5 H.size 0 0 i1 i2 i3 i4 h2 h9 h14 i8 i9 i10 i11 i12 i13 i14 i15 i16 hf12_laid i17 (by omega) (by omega) (by omega) (by omega) (by omega) (by omega) (by omega) (by omega) (by omega) (by omega) (by omega) (by omega) (by omega) (by omega) (by omega) (by omega) (by omega) (by omega) (by omega) (by omega)) (cwV 2 hts gX12_findOrders_X12_goFrom rfl rfl rfl (by decide +kernel) ⟨Nat.le_of_ble_eq_true rfl, Nat.le_of_ble_eq_true rfl⟩) (pk_V hK hS hAB hPc hDc 0 (ci := 12) rfl rfl rfl) rfl rfl hl.1 rfl (lv_room (Nat.le_of_ble_eq_true rfl)) dX12_findOrders_76 ⟨Nat.le_of_ble_eq_true rfl, Nat.le_of_ble_eq_true rfl⟩) (fun u34 H locs hw hPD hS => ?_)
          obtain ⟨x29, x30, x31, g32, g33⟩ := u34
          obtain ⟨h35, h36, h37, h38, h39⟩ : (0 ≤ x29.toInt ∧ x29.toInt ≤ 8) ∧ (∀ j : Nat, 0 ≤ (g32 j).toInt ∧ (g32 j).toInt ≤ 7) ∧ (x29.toInt = (0 : Int32).toInt) ∧ (x30.toInt = 1) ∧ (x31.toInt = 0) := hw
          obtain ⟨hP, hD⟩ : PD D A [O12 a12 r12 v12_keptMany v12_done v12_sheets v12_holes x1 x29 x11 x30 x31 v12_lines v12_marks v12_dots v12_madeIn v12_bound v12_places v12_maps v12_tapeMany v12_stories v12_base v12_at v12_ends v12_fault v12_opened v12_bodies v12_ran v12_ownKind v12_ownNumber, (cI κ (r12 12) 40 f12_wormSheets), (cI κ (r12 14) 8 g32), (cI κ (r12 19) 64 g33)] H := hPD
          have hpo : (0 ≤ x1.toInt ∧ x1.toInt ≤ 40) ∧ (0 ≤ x29.toInt ∧ x29.toInt ≤ 8) ∧ (0 ≤ x11.toInt ∧ x11.toInt ≤ 8) ∧ (∀ j : Nat, 0 ≤ (g32 j).toInt ∧ (g32 j).toInt ≤ 7) ∧ (x30.toInt = 1) ∧ (x31.toInt = 0) := ⟨h2, h35, h14, h36, (by omega), (by omega)⟩
          exact ret _ _ _ _ (x1, x29, x11, x30, x31, g32, g33) dX12_findOrders_79 hpo hP hD hS
        have c10 := ci_nle c10
        refine lv_aload_n hx hb dX12_findOrders_47 rfl (lv_at hl 1 rfl) ?_
        refine va_get (D := D) (ci := 12) (v := .int v12_sheets) (C := RX12) (T := TX12) (N := 63) hx hb hts w1 hown hK.1 hP 0 rfl rfl 6 (by decide) w4 (fun _ h9 => h9) rfl dX12_findOrders_48 ?_
        refine lv_goto (tgt := 60) hx hb dX12_findOrders_51 (by decide) ?_
        refine va_put (D := D) (ci := 12) (v := .int v12_sheets) (ty := .int) (C := RX12) (T := TX12) (N := 63) hx hb hts w1 tyX12 tyX12_ok nmX12 hown hK.1 hP hD hS 0 rfl rfl 16 (by decide) w5 (fun _ h9 => h9) rfl (by decide +kernel) rfl rfl (Nat.le_of_ble_eq_true rfl) dX12_findOrders_60 (fun H locs hP hD hS => ?_)
        obtain ⟨hP, hD⟩ : PD D A [O12 a12 r12 v12_keptMany v12_done v12_sheets v12_holes x1 0 v12_sheets 0 0 v12_lines v12_marks v12_dots v12_madeIn v12_bound v12_places v12_maps v12_tapeMany v12_stories v12_base v12_at v12_ends v12_fault v12_opened v12_bodies v12_ran v12_ownKind v12_ownNumber, (cI κ (r12 12) 40 f12_wormSheets), (cI κ (r12 14) 8 f12_laid), (cI κ (r12 19) 64 g5)] H := ⟨hP, hD⟩
        refine lv_aload_n hx hb dX12_findOrders_63 rfl (lv_at hl 1 rfl) ?_
        refine lv_iload_n hx hb dX12_findOrders_64 rfl (lv_at hl 3 rfl) ?_
        refine lv_if_ge (tgt := 72) hx hb dX12_findOrders_65 (by decide) (fun c40 => ?_) (fun c40 => ?_)
        · have c40 := ci_le c40
          refine lv_iconst (v := 1) hx hb dX12_findOrders_72 (by decide) ?_
          refine lv_iload_n hx hb dX12_findOrders_73 rfl (lv_at hl 3 rfl) ?_
          refine lv_ishl hx hb dX12_findOrders_74 ?_
          refine lv_topi (fun x41 e42 => ?_)
          refine lv_iconst (v := 0) hx hb dX12_findOrders_75 (by decide) ?_
          refine kcm_v hA hAB hP hD hS [true, true, true, true] rfl (fun _ => rfl) (fun hPc hDc => va_runV (As := [.int x41, .int 0]) (rest := []) ⟨hx, hb, hml, hown, hts⟩ (k_X12_goFrom l D κ β 9 a12 r12 v12_keptMany v12_done v12_sheets v12_holes x1 0 v12_sheets 0 0 v12_lines v12_marks v12_dots v12_madeIn v12_bound v12_places v12_maps v12_tapeMany v12_stories v12_base v12_at v12_ends v12_fault v12_opened v12_bodies v12_ran v12_ownKind v12_ownNumber f12_wormSheets f12_laid g5 H.size x41 0 i1 i2 i3 i4 h2 h9 i3 i8 i9 i10 i11 i12 i13 i14 i15 i16 hf12_laid i17 (by omega) (by omega) (by omega) (by omega) (by omega) (by omega) (by omega) (by omega) (by omega) (by omega) (by omega) (by omega) (by omega) (by omega) (by omega) (by omega) (by omega) (by omega) (by omega) (by omega)) (cwV 2 hts gX12_findOrders_X12_goFrom rfl rfl rfl (by decide +kernel) ⟨Nat.le_of_ble_eq_true rfl, Nat.le_of_ble_eq_true rfl⟩) (pk_V hK hS hAB hPc hDc 0 (ci := 12) rfl rfl rfl) rfl rfl hl.1 rfl (lv_room (Nat.le_of_ble_eq_true rfl)) dX12_findOrders_76 ⟨Nat.le_of_ble_eq_true rfl, Nat.le_of_ble_eq_true rfl⟩) (fun u48 H locs hw hPD hS => ?_)
          obtain ⟨x43, x44, x45, g46, g47⟩ := u48
          obtain ⟨h49, h50, h51, h52, h53⟩ : (0 ≤ x43.toInt ∧ x43.toInt ≤ 8) ∧ (∀ j : Nat, 0 ≤ (g46 j).toInt ∧ (g46 j).toInt ≤ 7) ∧ (x43.toInt = (0 : Int32).toInt) ∧ (x44.toInt = 1) ∧ (x45.toInt = 0) := hw
          obtain ⟨hP, hD⟩ : PD D A [O12 a12 r12 v12_keptMany v12_done v12_sheets v12_holes x1 x43 v12_sheets x44 x45 v12_lines v12_marks v12_dots v12_madeIn v12_bound v12_places v12_maps v12_tapeMany v12_stories v12_base v12_at v12_ends v12_fault v12_opened v12_bodies v12_ran v12_ownKind v12_ownNumber, (cI κ (r12 12) 40 f12_wormSheets), (cI κ (r12 14) 8 g46), (cI κ (r12 19) 64 g47)] H := hPD
          have hpo : (0 ≤ x1.toInt ∧ x1.toInt ≤ 40) ∧ (0 ≤ x43.toInt ∧ x43.toInt ≤ 8) ∧ (0 ≤ v12_sheets.toInt ∧ v12_sheets.toInt ≤ 8) ∧ (∀ j : Nat, 0 ≤ (g46 j).toInt ∧ (g46 j).toInt ≤ 7) ∧ (x44.toInt = 1) ∧ (x45.toInt = 0) := ⟨h2, h49, i3, h50, (by omega), (by omega)⟩
          exact ret _ _ _ _ (x1, x43, v12_sheets, x44, x45, g46, g47) dX12_findOrders_79 hpo hP hD hS
        have c40 := ci_nle c40
        refine lv_iconst (v := 0) hx hb dX12_findOrders_68 (by decide) ?_
        refine lv_goto (tgt := 75) hx hb dX12_findOrders_69 (by decide) ?_
        refine lv_iconst (v := 0) hx hb dX12_findOrders_75 (by decide) ?_
        refine kcm_v hA hAB hP hD hS [true, true, true, true] rfl (fun _ => rfl) (fun hPc hDc => va_runV (As := [.int 0, .int 0]) (rest := []) ⟨hx, hb, hml, hown, hts⟩ (k_X12_goFrom l D κ β 9 a12 r12 v12_keptMany v12_done v12_sheets v12_holes x1 0 v12_sheets 0 0 v12_lines v12_marks v12_dots v12_madeIn v12_bound v12_places v12_maps v12_tapeMany v12_stories v12_base v12_at v12_ends v12_fault v12_opened v12_bodies v12_ran v12_ownKind v12_ownNumber f12_wormSheets f12_laid g5 H.size 0 0 i1 i2 i3 i4 h2 h9 i3 i8 i9 i10 i11 i12 i13 i14 i15 i16 hf12_laid i17 (by omega) (by omega) (by omega) (by omega) (by omega) (by omega) (by omega) (by omega) (by omega) (by omega) (by omega) (by omega) (by omega) (by omega) (by omega) (by omega) (by omega) (by omega) (by omega) (by omega)) (cwV 2 hts gX12_findOrders_X12_goFrom rfl rfl rfl (by decide +kernel) ⟨Nat.le_of_ble_eq_true rfl, Nat.le_of_ble_eq_true rfl⟩) (pk_V hK hS hAB hPc hDc 0 (ci := 12) rfl rfl rfl) rfl rfl hl.1 rfl (lv_room (Nat.le_of_ble_eq_true rfl)) dX12_findOrders_76 ⟨Nat.le_of_ble_eq_true rfl, Nat.le_of_ble_eq_true rfl⟩) (fun u59 H locs hw hPD hS => ?_)
        obtain ⟨x54, x55, x56, g57, g58⟩ := u59
        obtain ⟨h60, h61, h62, h63, h64⟩ : (0 ≤ x54.toInt ∧ x54.toInt ≤ 8) ∧ (∀ j : Nat, 0 ≤ (g57 j).toInt ∧ (g57 j).toInt ≤ 7) ∧ (x54.toInt = (0 : Int32).toInt) ∧ (x55.toInt = 1) ∧ (x56.toInt = 0) := hw
        obtain ⟨hP, hD⟩ : PD D A [O12 a12 r12 v12_keptMany v12_done v12_sheets v12_holes x1 x54 v12_sheets x55 x56 v12_lines v12_marks v12_dots v12_madeIn v12_bound v12_places v12_maps v12_tapeMany v12_stories v12_base v12_at v12_ends v12_fault v12_opened v12_bodies v12_ran v12_ownKind v12_ownNumber, (cI κ (r12 12) 40 f12_wormSheets), (cI κ (r12 14) 8 g57), (cI κ (r12 19) 64 g58)] H := hPD
        have hpo : (0 ≤ x1.toInt ∧ x1.toInt ≤ 40) ∧ (0 ≤ x54.toInt ∧ x54.toInt ≤ 8) ∧ (0 ≤ v12_sheets.toInt ∧ v12_sheets.toInt ≤ 8) ∧ (∀ j : Nat, 0 ≤ (g57 j).toInt ∧ (g57 j).toInt ≤ 7) ∧ (x55.toInt = 1) ∧ (x56.toInt = 0) := ⟨h2, h60, i3, h61, (by omega), (by omega)⟩
        exact ret _ _ _ _ (x1, x54, v12_sheets, x55, x56, g57, g58) dX12_findOrders_79 hpo hP hD hS
      have c8 := ci_nle c8
      refine lv_aload_n hx hb dX12_findOrders_14 rfl (lv_at hl 1 rfl) ?_
      refine va_get (D := D) (ci := 12) (v := .ref (r12 19)) (C := RX12) (T := TX12) (N := 63) hx hb hts w1 hown hK.1 hP 0 rfl rfl 19 (by decide) w6 (fun _ h9 => h9) rfl dX12_findOrders_15 ?_
      refine lv_iload_n hx hb dX12_findOrders_18 rfl (lv_at hl 0 rfl) ?_
      refine lv_iconst (v := 0) hx hb dX12_findOrders_19 (by decide) ?_
      refine va_iast hx hb hK.1 hP hD hS 3 1 rfl rfl (i := k4) (ix (by omega) (by omega)) dX12_findOrders_20 (fun H locs hP hD hS => ?_)
      obtain ⟨g65, e66⟩ : ∃ y : Nat → Int32, y = upd g5 k4.toNatClampNeg 0 := ⟨_, rfl⟩
      rw [← e66] at hP hD
      obtain ⟨hP, hD⟩ : PD D A [O12 a12 r12 v12_keptMany v12_done v12_sheets v12_holes x1 v12_laidMany v12_wanted v12_orderMany v12_firstOrder v12_lines v12_marks v12_dots v12_madeIn v12_bound v12_places v12_maps v12_tapeMany v12_stories v12_base v12_at v12_ends v12_fault v12_opened v12_bodies v12_ran v12_ownKind v12_ownNumber, (cI κ (r12 12) 40 f12_wormSheets), (cI κ (r12 14) 8 f12_laid), (cI κ (r12 19) 64 g65)] H := ⟨hP, hD⟩
      obtain ⟨x67, e68⟩ : ∃ y : Int32, y = k4 + 1 := ⟨_, rfl⟩
      refine lv_iinc (v := x67) (lv' := [(3, .int x67), (0, .ref a12), (1, .int p1), (2, .int p2)]) hx hb dX12_findOrders_21 hl (k := 0) rfl (by rw [e68]; rfl) (by decide) rfl (fun ls hl => ?_)
      try have h69 : x67.toInt = k4.toInt + (1 : Int32).toInt := ci_add e68 (by omega) (by omega)
      refine lv_goto (tgt := 8) hx hb dX12_findOrders_24 (by decide) ?_
      exact ih8 x67 g65 (by omega) (by omega) _ _ hP hD hS _ hl
  exact lp8 ((64 - (0 : Int32).toInt).toNat + 1) 0 f12_sides (by omega) (by omega) _ _ hP hD hS _ hl
set_option maxHeartbeats 4000000 in
set_option maxRecDepth 100000 in
theorem k_X12_orders (l : Launch) (D : va_G) (κ : Nat → ClassId) (β : Nat) (a12 : Nat) (r12 : Nat → Nat) (v12_keptMany : Int32) (v12_done : Int32) (v12_sheets : Int32) (v12_holes : Int32) (v12_worms : Int32) (v12_laidMany : Int32) (v12_wanted : Int32) (v12_orderMany : Int32) (v12_firstOrder : Int32) (v12_lines : Int32) (v12_marks : Int32) (v12_dots : Int32) (v12_madeIn : Int32) (v12_bound : Int32) (v12_places : Int32) (v12_maps : Int32) (v12_tapeMany : Int32) (v12_stories : Int32) (v12_base : Int32) (v12_at : Int32) (v12_ends : Int32) (v12_fault : Int32) (v12_opened : Int32) (v12_bodies : Int32) (v12_ran : Int32) (v12_ownKind : Int32) (v12_ownNumber : Int32) (f12_wormSheets : Nat → Int32) (f12_laid : Nat → Int32) (f12_sides : Nat → Int32) (sz : Nat) (p1 : Int32) (p2 : Int32) (i1 : Rg 0 40 v12_keptMany) (i2 : Rg 0 40 v12_done) (i3 : Rg 0 8 v12_sheets) (i4 : Rg 0 40 v12_holes) (i5 : Rg 0 40 v12_worms) (i6 : Rg 0 8 v12_laidMany) (i7 : Rg 0 8 v12_wanted) (i8 : Rg 0 20 v12_lines) (i9 : Rg 0 60 v12_marks) (i10 : Rg 0 40 v12_dots) (i11 : Rg 0 20 v12_places) (i12 : Rg 0 8 v12_maps) (i13 : Rg 0 120 v12_tapeMany) (i14 : Rg 0 6 v12_stories) (i15 : Rg 0 50 v12_bodies) (i16 : Rg 0 1000 v12_ran) (hf12_laid : ∀ j : Nat, 0 ≤ (f12_laid j).toInt ∧ (f12_laid j).toInt ≤ 7) (i17 : v12_done.toInt ≤ v12_keptMany.toInt) (i18 : v12_keptMany.toInt = 0) (i19 : v12_done.toInt = 0) (i20 : v12_sheets.toInt = 0) (i21 : v12_holes.toInt = 0) (i22 : v12_worms.toInt = 0) (i23 : v12_lines.toInt = 0) (i24 : v12_marks.toInt = 0) (i25 : v12_dots.toInt = 0) (i26 : v12_madeIn.toInt = 2001) (i27 : v12_places.toInt = 0) (i28 : v12_maps.toInt = 0) (i29 : v12_tapeMany.toInt = 0) (i30 : v12_stories.toInt = 0) (i31 : v12_bodies.toInt = 0) : Met l yX12_orders wsX12_orders ({ frames := 11, cells := 0, slots := 0, locals := 303 } : Room) (PcK D κ β [O12 a12 r12 v12_keptMany v12_done v12_sheets v12_holes v12_worms v12_laidMany v12_wanted v12_orderMany v12_firstOrder v12_lines v12_marks v12_dots v12_madeIn v12_bound v12_places v12_maps v12_tapeMany v12_stories v12_base v12_at v12_ends v12_fault v12_opened v12_bodies v12_ran v12_ownKind v12_ownNumber, (cI κ (r12 12) 40 f12_wormSheets), (cI κ (r12 14) 8 f12_laid), (cI κ (r12 19) 64 f12_sides)] sz [.ref a12, .int p1, .int p2]) (QiK D (fun (r : Int32) (u : Int32 × Int32 × Int32 × Int32 × Int32 × (Nat → Int32) × (Nat → Int32)) => (0 ≤ u.1.toInt ∧ u.1.toInt ≤ 40) ∧ (0 ≤ u.2.1.toInt ∧ u.2.1.toInt ≤ 8) ∧ (0 ≤ u.2.2.1.toInt ∧ u.2.2.1.toInt ≤ 8) ∧ (∀ j : Nat, 0 ≤ (u.2.2.2.2.2.1 j).toInt ∧ (u.2.2.2.2.2.1 j).toInt ≤ 7) ∧ (((0 ≤ p1.toInt ∧ p1.toInt ≤ 99) ∧ p2.toInt = 0 ∧ r.toInt = 1) ∨ ((0 ≤ p1.toInt ∧ p1.toInt ≤ 99) ∧ p2.toInt = 1 ∧ r.toInt = 0) ∨ (¬ (0 ≤ p1.toInt ∧ p1.toInt ≤ 99 ∧ 0 ≤ p2.toInt ∧ p2.toInt ≤ 1) ∧ r.toInt = -1))) (fun (u : Int32 × Int32 × Int32 × Int32 × Int32 × (Nat → Int32) × (Nat → Int32)) => [O12 a12 r12 v12_keptMany v12_done v12_sheets v12_holes u.1 u.2.1 u.2.2.1 u.2.2.2.1 u.2.2.2.2.1 v12_lines v12_marks v12_dots v12_madeIn v12_bound v12_places v12_maps v12_tapeMany v12_stories v12_base v12_at v12_ends v12_fault v12_opened v12_bodies v12_ran v12_ownKind v12_ownNumber, (cI κ (r12 12) 40 f12_wormSheets), (cI κ (r12 14) 8 u.2.2.2.2.2.1), (cI κ (r12 19) 64 u.2.2.2.2.2.2)]) [O12 a12 r12 v12_keptMany v12_done v12_sheets v12_holes v12_worms v12_laidMany v12_wanted v12_orderMany v12_firstOrder v12_lines v12_marks v12_dots v12_madeIn v12_bound v12_places v12_maps v12_tapeMany v12_stories v12_base v12_at v12_ends v12_fault v12_opened v12_bodies v12_ran v12_ownKind v12_ownNumber, (cI κ (r12 12) 40 f12_wormSheets), (cI κ (r12 14) 8 f12_laid), (cI κ (r12 19) 64 f12_sides)] sz) 0 0 (va_A [O12 a12 r12 v12_keptMany v12_done v12_sheets v12_holes v12_worms v12_laidMany v12_wanted v12_orderMany v12_firstOrder v12_lines v12_marks v12_dots v12_madeIn v12_bound v12_places v12_maps v12_tapeMany v12_stories v12_base v12_at v12_ends v12_fault v12_opened v12_bodies v12_ran v12_ownKind v12_ownNumber, (cI κ (r12 12) 40 f12_wormSheets), (cI κ (r12 14) 8 f12_laid), (cI κ (r12 19) 64 f12_sides)] sz) := by
  refine ofK_i (cc := cX12_orders) (maxL := 3) (own := RX12) (by decide) rfl rfl (Nat.le_of_ble_eq_true rfl) ?_
  intro p e s m args below meth c Q A ls hsz hx hb hml hts hown hK hA hAB hP hD hl ret
  have hS : va_S A s.heap s.heap [] := va_S.rf
  have hl : lv_has ls 3 [(0, .ref a12), (1, .int p1), (2, .int p2)] := hl
  have w0 := hts (.fieldLink RX12 133 "OlderSkinModel" "sheets" "I") (List.mem_of_getElem? (i := 1) rfl)
  have w1 := (fun w h => List.mem_cons_of_mem _ (List.mem_append_right _ h) : ∀ w ∈ u_ws RX12 TX12 63, w ∈ wsX12_orders)
  have w2 := hts (.fieldLink RX12 179 "OlderSkinModel" "orderMany" "I") (List.mem_of_getElem? (i := 2) rfl)
  have w3 := hts (.fieldLink RX12 182 "OlderSkinModel" "firstOrder" "I") (List.mem_of_getElem? (i := 3) rfl)
  have l0 : (0 : Int32).toInt = 0 := by decide
  have l1 : ((-1) : Int32).toInt = -1 := by decide
  have l2 : (0 : Int64).toInt = 0 := by decide
  have l3 : (1 : Int64).toInt = 1 := by decide
  have l4 : (6 : Int32).toInt = 6 := by decide
  have l5 : ((-2) : Int32).toInt = -2 := by decide
  have l6 : ((-4) : Int32).toInt = -4 := by decide
  have i3 : 0 ≤ v12_sheets.toInt ∧ v12_sheets.toInt ≤ 8 := i3
  refine lv_iload_n hx hb dX12_orders_0 rfl (lv_at hl 1 rfl) ?_
  refine kcm_i hA hAB hP hD hS [false, false, false, false] rfl (fun _ => rfl) (fun hPc hDc => va_runS (As := [.int p1]) (rest := []) ⟨hx, hb, hml, hown, hts⟩ (k_X12_isSlack l D κ β s.heap.size p1) (va_cwS 1 hts gX12_orders_X12_isSlack rfl rfl rfl (by decide +kernel) ⟨Nat.le_of_ble_eq_true rfl, Nat.le_of_ble_eq_true rfl⟩) (pk_S hK hS hAB hPc hDc) rfl rfl hl.1 rfl (lv_room (Nat.le_of_ble_eq_true rfl)) dX12_orders_1 ⟨Nat.le_of_ble_eq_true rfl, Nat.le_of_ble_eq_true rfl⟩) (fun x1 u2 H locs hw hPD hS => ?_)
  have h3 : (x1.toInt = 1 ∧ 0 ≤ p1.toInt ∧ p1.toInt ≤ 99) ∨ (x1.toInt = 0 ∧ (p1.toInt < 0 ∨ 99 < p1.toInt)) := hw
  obtain ⟨hP, hD⟩ : PD D A [O12 a12 r12 v12_keptMany v12_done v12_sheets v12_holes v12_worms v12_laidMany v12_wanted v12_orderMany v12_firstOrder v12_lines v12_marks v12_dots v12_madeIn v12_bound v12_places v12_maps v12_tapeMany v12_stories v12_base v12_at v12_ends v12_fault v12_opened v12_bodies v12_ran v12_ownKind v12_ownNumber, (cI κ (r12 12) 40 f12_wormSheets), (cI κ (r12 14) 8 f12_laid), (cI κ (r12 19) 64 f12_sides)] H := hPD
  refine lv_if_eq (tgt := 17) hx hb dX12_orders_4 (by decide) (fun c4 => ?_) (fun c4 => ?_)
  · have c4 := ci_eq c4
    refine lv_iconst (v := (-1)) hx hb dX12_orders_17 (by decide) ?_
    have hpo : (0 ≤ v12_worms.toInt ∧ v12_worms.toInt ≤ 40) ∧ (0 ≤ v12_laidMany.toInt ∧ v12_laidMany.toInt ≤ 8) ∧ (0 ≤ v12_wanted.toInt ∧ v12_wanted.toInt ≤ 8) ∧ (∀ j : Nat, 0 ≤ (f12_laid j).toInt ∧ (f12_laid j).toInt ≤ 7) ∧ (((0 ≤ p1.toInt ∧ p1.toInt ≤ 99) ∧ p2.toInt = 0 ∧ ((-1) : Int32).toInt = 1) ∨ ((0 ≤ p1.toInt ∧ p1.toInt ≤ 99) ∧ p2.toInt = 1 ∧ ((-1) : Int32).toInt = 0) ∨ (¬ (0 ≤ p1.toInt ∧ p1.toInt ≤ 99 ∧ 0 ≤ p2.toInt ∧ p2.toInt ≤ 1) ∧ ((-1) : Int32).toInt = -1)) := ⟨i5, i6, i7, hf12_laid, (by omega)⟩
    exact ret _ _ _ _ (-1) (v12_worms, v12_laidMany, v12_wanted, v12_orderMany, v12_firstOrder, f12_laid, f12_sides) dX12_orders_18 hpo hP hD hS
  have c4 := ci_ne c4
  refine lv_iload_n hx hb dX12_orders_7 rfl (lv_at hl 2 rfl) ?_
  refine lv_i2l hx hb dX12_orders_8 rfl ?_
  refine lv_topl (fun x5 e6 => ?_)
  have h7 : x5.toInt = p2.toInt := cl_i2l e6
  refine lv_lconst (v := (0 : Int64)) hx hb dX12_orders_9 (by decide) ?_
  refine lv_lconst (v := (1 : Int64)) hx hb dX12_orders_10 (by decide) ?_
  refine kcm_i hA hAB hP hD hS [false, false, false, false] rfl (fun _ => rfl) (fun hPc hDc => va_runS (As := [.long x5, .long (0 : Int64), .long (1 : Int64)]) (rest := []) ⟨hx, hb, hml, hown, hts⟩ (k_X12_within l D κ β H.size x5 (0 : Int64) (1 : Int64)) (va_cwS 3 hts gX12_orders_X12_within rfl rfl rfl (by decide +kernel) ⟨Nat.le_of_ble_eq_true rfl, Nat.le_of_ble_eq_true rfl⟩) (pk_S hK hS hAB hPc hDc) rfl rfl hl.1 rfl (lv_room (Nat.le_of_ble_eq_true rfl)) dX12_orders_11 ⟨Nat.le_of_ble_eq_true rfl, Nat.le_of_ble_eq_true rfl⟩) (fun x8 u9 H locs hw hPD hS => ?_)
  have h10 : (x8.toInt = 1 ∧ (0 : Int64).toInt ≤ x5.toInt ∧ x5.toInt ≤ (1 : Int64).toInt) ∨ (x8.toInt = 0 ∧ (x5.toInt < (0 : Int64).toInt ∨ (1 : Int64).toInt < x5.toInt)) := hw
  obtain ⟨hP, hD⟩ : PD D A [O12 a12 r12 v12_keptMany v12_done v12_sheets v12_holes v12_worms v12_laidMany v12_wanted v12_orderMany v12_firstOrder v12_lines v12_marks v12_dots v12_madeIn v12_bound v12_places v12_maps v12_tapeMany v12_stories v12_base v12_at v12_ends v12_fault v12_opened v12_bodies v12_ran v12_ownKind v12_ownNumber, (cI κ (r12 12) 40 f12_wormSheets), (cI κ (r12 14) 8 f12_laid), (cI κ (r12 19) 64 f12_sides)] H := hPD
  refine lv_if_ne (tgt := 19) hx hb dX12_orders_14 (by decide) (fun c11 => ?_) (fun c11 => ?_)
  · have c11 := ci_ne c11
    refine lv_aload_n hx hb dX12_orders_19 rfl (lv_at hl 0 rfl) ?_
    refine va_get (D := D) (ci := 12) (v := .int v12_sheets) (C := RX12) (T := TX12) (N := 63) hx hb hts w1 hown hK.1 hP 0 rfl rfl 6 (by decide) w0 (fun _ h9 => h9) rfl dX12_orders_20 ?_
    refine lv_bipush (v := 6) hx hb dX12_orders_23 (by decide) ?_
    refine lv_icmp_le (tgt := 31) hx hb dX12_orders_25 (by decide) (fun c12 => ?_) (fun c12 => ?_)
    · have c12 := ci_le c12
      refine lv_aload_n hx hb dX12_orders_31 rfl (lv_at hl 0 rfl) ?_
      refine lv_iload_n hx hb dX12_orders_32 rfl (lv_at hl 1 rfl) ?_
      refine lv_iconst (v := (-1)) hx hb dX12_orders_33 (by decide) ?_
      refine kcm_v hA hAB hP hD hS [true, true, true, true] rfl (fun _ => rfl) (fun hPc hDc => va_runV (As := [.int p1, .int (-1)]) (rest := []) ⟨hx, hb, hml, hown, hts⟩ (k_X12_findOrders l D κ β a12 r12 v12_keptMany v12_done v12_sheets v12_holes v12_worms v12_laidMany v12_wanted v12_orderMany v12_firstOrder v12_lines v12_marks v12_dots v12_madeIn v12_bound v12_places v12_maps v12_tapeMany v12_stories v12_base v12_at v12_ends v12_fault v12_opened v12_bodies v12_ran v12_ownKind v12_ownNumber f12_wormSheets f12_laid f12_sides H.size p1 (-1) i1 i2 i3 i4 i5 i6 i7 i8 i9 i10 i11 i12 i13 i14 i15 i16 hf12_laid i17 (by omega) (by omega) (by omega) (by omega) (by omega) (by omega) (by omega) (by omega) (by omega) (by omega) (by omega) (by omega) (by omega) (by omega) (by omega)) (cwV 2 hts gX12_orders_X12_findOrders rfl rfl rfl (by decide +kernel) ⟨Nat.le_of_ble_eq_true rfl, Nat.le_of_ble_eq_true rfl⟩) (pk_V hK hS hAB hPc hDc 0 (ci := 12) rfl rfl rfl) rfl rfl hl.1 rfl (lv_room (Nat.le_of_ble_eq_true rfl)) dX12_orders_34 ⟨Nat.le_of_ble_eq_true rfl, Nat.le_of_ble_eq_true rfl⟩) (fun u20 H locs hw hPD hS => ?_)
      obtain ⟨x13, x14, x15, x16, x17, g18, g19⟩ := u20
      obtain ⟨h21, h22, h23, h24, h25, h26⟩ : (Rg 0 40 x13) ∧ (Rg 0 8 x14) ∧ (Rg 0 8 x15) ∧ (∀ j : Nat, 0 ≤ (g18 j).toInt ∧ (g18 j).toInt ≤ 7) ∧ (x16.toInt = 1) ∧ (x17.toInt = 0) := hw
      obtain ⟨hP, hD⟩ : PD D A [O12 a12 r12 v12_keptMany v12_done v12_sheets v12_holes x13 x14 x15 x16 x17 v12_lines v12_marks v12_dots v12_madeIn v12_bound v12_places v12_maps v12_tapeMany v12_stories v12_base v12_at v12_ends v12_fault v12_opened v12_bodies v12_ran v12_ownKind v12_ownNumber, (cI κ (r12 12) 40 f12_wormSheets), (cI κ (r12 14) 8 g18), (cI κ (r12 19) 64 g19)] H := hPD
      refine lv_iload_n hx hb dX12_orders_37 rfl (lv_at hl 2 rfl) ?_
      refine lv_if_ne (tgt := 48) hx hb dX12_orders_38 (by decide) (fun c27 => ?_) (fun c27 => ?_)
      · have c27 := ci_ne c27
        refine lv_aload_n hx hb dX12_orders_48 rfl (lv_at hl 0 rfl) ?_
        refine va_get (D := D) (ci := 12) (v := .int x16) (C := RX12) (T := TX12) (N := 63) hx hb hts w1 hown hK.1 hP 0 rfl rfl 17 (by decide) w2 (fun _ h9 => h9) rfl dX12_orders_49 ?_
        refine lv_if_ne (tgt := 60) hx hb dX12_orders_52 (by decide) (fun c28 => ?_) (fun c28 => ?_)
        · have c28 := ci_ne c28
          refine lv_aload_n hx hb dX12_orders_60 rfl (lv_at hl 0 rfl) ?_
          refine va_get (D := D) (ci := 12) (v := .int x17) (C := RX12) (T := TX12) (N := 63) hx hb hts w1 hown hK.1 hP 0 rfl rfl 18 (by decide) w3 (fun _ h9 => h9) rfl dX12_orders_61 ?_
          have hpo : (0 ≤ x13.toInt ∧ x13.toInt ≤ 40) ∧ (0 ≤ x14.toInt ∧ x14.toInt ≤ 8) ∧ (0 ≤ x15.toInt ∧ x15.toInt ≤ 8) ∧ (∀ j : Nat, 0 ≤ (g18 j).toInt ∧ (g18 j).toInt ≤ 7) ∧ (((0 ≤ p1.toInt ∧ p1.toInt ≤ 99) ∧ p2.toInt = 0 ∧ x17.toInt = 1) ∨ ((0 ≤ p1.toInt ∧ p1.toInt ≤ 99) ∧ p2.toInt = 1 ∧ x17.toInt = 0) ∨ (¬ (0 ≤ p1.toInt ∧ p1.toInt ≤ 99 ∧ 0 ≤ p2.toInt ∧ p2.toInt ≤ 1) ∧ x17.toInt = -1)) := ⟨h21, h22, h23, h24, (by omega)⟩
          exact ret _ _ _ _ x17 (x13, x14, x15, x16, x17, g18, g19) dX12_orders_64 hpo hP hD hS
        have c28 := ci_eq c28
        refine lv_bipush (v := (-2)) hx hb dX12_orders_55 (by decide) ?_
        refine lv_goto (tgt := 64) hx hb dX12_orders_57 (by decide) ?_
        have hpo : (0 ≤ x13.toInt ∧ x13.toInt ≤ 40) ∧ (0 ≤ x14.toInt ∧ x14.toInt ≤ 8) ∧ (0 ≤ x15.toInt ∧ x15.toInt ≤ 8) ∧ (∀ j : Nat, 0 ≤ (g18 j).toInt ∧ (g18 j).toInt ≤ 7) ∧ (((0 ≤ p1.toInt ∧ p1.toInt ≤ 99) ∧ p2.toInt = 0 ∧ ((-2) : Int32).toInt = 1) ∨ ((0 ≤ p1.toInt ∧ p1.toInt ≤ 99) ∧ p2.toInt = 1 ∧ ((-2) : Int32).toInt = 0) ∨ (¬ (0 ≤ p1.toInt ∧ p1.toInt ≤ 99 ∧ 0 ≤ p2.toInt ∧ p2.toInt ≤ 1) ∧ ((-2) : Int32).toInt = -1)) := ⟨h21, h22, h23, h24, (by omega)⟩
        exact ret _ _ _ _ (-2) (x13, x14, x15, x16, x17, g18, g19) dX12_orders_64 hpo hP hD hS
      have c27 := ci_eq c27
      refine lv_aload_n hx hb dX12_orders_41 rfl (lv_at hl 0 rfl) ?_
      refine va_get (D := D) (ci := 12) (v := .int x16) (C := RX12) (T := TX12) (N := 63) hx hb hts w1 hown hK.1 hP 0 rfl rfl 17 (by decide) w2 (fun _ h9 => h9) rfl dX12_orders_42 ?_
      refine lv_goto (tgt := 64) hx hb dX12_orders_45 (by decide) ?_
      have hpo : (0 ≤ x13.toInt ∧ x13.toInt ≤ 40) ∧ (0 ≤ x14.toInt ∧ x14.toInt ≤ 8) ∧ (0 ≤ x15.toInt ∧ x15.toInt ≤ 8) ∧ (∀ j : Nat, 0 ≤ (g18 j).toInt ∧ (g18 j).toInt ≤ 7) ∧ (((0 ≤ p1.toInt ∧ p1.toInt ≤ 99) ∧ p2.toInt = 0 ∧ x16.toInt = 1) ∨ ((0 ≤ p1.toInt ∧ p1.toInt ≤ 99) ∧ p2.toInt = 1 ∧ x16.toInt = 0) ∨ (¬ (0 ≤ p1.toInt ∧ p1.toInt ≤ 99 ∧ 0 ≤ p2.toInt ∧ p2.toInt ≤ 1) ∧ x16.toInt = -1)) := ⟨h21, h22, h23, h24, (by omega)⟩
      exact ret _ _ _ _ x16 (x13, x14, x15, x16, x17, g18, g19) dX12_orders_64 hpo hP hD hS
    have c12 := ci_nle c12
    refine lv_bipush (v := (-4)) hx hb dX12_orders_28 (by decide) ?_
    have hpo : (0 ≤ v12_worms.toInt ∧ v12_worms.toInt ≤ 40) ∧ (0 ≤ v12_laidMany.toInt ∧ v12_laidMany.toInt ≤ 8) ∧ (0 ≤ v12_wanted.toInt ∧ v12_wanted.toInt ≤ 8) ∧ (∀ j : Nat, 0 ≤ (f12_laid j).toInt ∧ (f12_laid j).toInt ≤ 7) ∧ (((0 ≤ p1.toInt ∧ p1.toInt ≤ 99) ∧ p2.toInt = 0 ∧ ((-4) : Int32).toInt = 1) ∨ ((0 ≤ p1.toInt ∧ p1.toInt ≤ 99) ∧ p2.toInt = 1 ∧ ((-4) : Int32).toInt = 0) ∨ (¬ (0 ≤ p1.toInt ∧ p1.toInt ≤ 99 ∧ 0 ≤ p2.toInt ∧ p2.toInt ≤ 1) ∧ ((-4) : Int32).toInt = -1)) := ⟨i5, i6, i7, hf12_laid, (by omega)⟩
    exact ret _ _ _ _ (-4) (v12_worms, v12_laidMany, v12_wanted, v12_orderMany, v12_firstOrder, f12_laid, f12_sides) dX12_orders_30 hpo hP hD hS
  have c11 := ci_eq c11
  refine lv_iconst (v := (-1)) hx hb dX12_orders_17 (by decide) ?_
  have hpo : (0 ≤ v12_worms.toInt ∧ v12_worms.toInt ≤ 40) ∧ (0 ≤ v12_laidMany.toInt ∧ v12_laidMany.toInt ≤ 8) ∧ (0 ≤ v12_wanted.toInt ∧ v12_wanted.toInt ≤ 8) ∧ (∀ j : Nat, 0 ≤ (f12_laid j).toInt ∧ (f12_laid j).toInt ≤ 7) ∧ (((0 ≤ p1.toInt ∧ p1.toInt ≤ 99) ∧ p2.toInt = 0 ∧ ((-1) : Int32).toInt = 1) ∨ ((0 ≤ p1.toInt ∧ p1.toInt ≤ 99) ∧ p2.toInt = 1 ∧ ((-1) : Int32).toInt = 0) ∨ (¬ (0 ≤ p1.toInt ∧ p1.toInt ≤ 99 ∧ 0 ≤ p2.toInt ∧ p2.toInt ≤ 1) ∧ ((-1) : Int32).toInt = -1)) := ⟨i5, i6, i7, hf12_laid, (by omega)⟩
  exact ret _ _ _ _ (-1) (v12_worms, v12_laidMany, v12_wanted, v12_orderMany, v12_firstOrder, f12_laid, f12_sides) dX12_orders_18 hpo hP hD hS
set_option maxHeartbeats 4000000 in
set_option maxRecDepth 100000 in
theorem k_X12_side (l : Launch) (D : va_G) (κ : Nat → ClassId) (β : Nat) (a12 : Nat) (r12 : Nat → Nat) (v12_keptMany : Int32) (v12_done : Int32) (v12_sheets : Int32) (v12_holes : Int32) (v12_worms : Int32) (v12_laidMany : Int32) (v12_wanted : Int32) (v12_orderMany : Int32) (v12_firstOrder : Int32) (v12_lines : Int32) (v12_marks : Int32) (v12_dots : Int32) (v12_madeIn : Int32) (v12_bound : Int32) (v12_places : Int32) (v12_maps : Int32) (v12_tapeMany : Int32) (v12_stories : Int32) (v12_base : Int32) (v12_at : Int32) (v12_ends : Int32) (v12_fault : Int32) (v12_opened : Int32) (v12_bodies : Int32) (v12_ran : Int32) (v12_ownKind : Int32) (v12_ownNumber : Int32) (sz : Nat) (p1 : Int32) (p2 : Int32) (p3 : Int32) (i1 : Rg 0 40 v12_keptMany) (i2 : Rg 0 40 v12_done) (i3 : Rg 0 8 v12_sheets) (i4 : Rg 0 40 v12_holes) (i5 : Rg 0 40 v12_worms) (i6 : Rg 0 8 v12_laidMany) (i7 : Rg 0 8 v12_wanted) (i8 : Rg 0 20 v12_lines) (i9 : Rg 0 60 v12_marks) (i10 : Rg 0 40 v12_dots) (i11 : Rg 0 20 v12_places) (i12 : Rg 0 8 v12_maps) (i13 : Rg 0 120 v12_tapeMany) (i14 : Rg 0 6 v12_stories) (i15 : Rg 0 50 v12_bodies) (i16 : Rg 0 1000 v12_ran) (i17 : v12_done.toInt ≤ v12_keptMany.toInt) (i18 : v12_keptMany.toInt = 0) (i19 : v12_done.toInt = 0) (i20 : v12_sheets.toInt = 0) (i21 : v12_holes.toInt = 0) (i22 : v12_worms.toInt = 0) (i23 : v12_lines.toInt = 0) (i24 : v12_marks.toInt = 0) (i25 : v12_dots.toInt = 0) (i26 : v12_madeIn.toInt = 2001) (i27 : v12_places.toInt = 0) (i28 : v12_maps.toInt = 0) (i29 : v12_tapeMany.toInt = 0) (i30 : v12_stories.toInt = 0) (i31 : v12_bodies.toInt = 0) : Met l yX12_side wsX12_side ({ frames := 2, cells := 0, slots := 0, locals := 46 } : Room) (PcK D κ β [O12 a12 r12 v12_keptMany v12_done v12_sheets v12_holes v12_worms v12_laidMany v12_wanted v12_orderMany v12_firstOrder v12_lines v12_marks v12_dots v12_madeIn v12_bound v12_places v12_maps v12_tapeMany v12_stories v12_base v12_at v12_ends v12_fault v12_opened v12_bodies v12_ran v12_ownKind v12_ownNumber] sz [.ref a12, .int p1, .int p2, .int p3]) (QiK D (fun (r : Int32) (u : Unit) => r.toInt = -1) (fun (u : Unit) => [O12 a12 r12 v12_keptMany v12_done v12_sheets v12_holes v12_worms v12_laidMany v12_wanted v12_orderMany v12_firstOrder v12_lines v12_marks v12_dots v12_madeIn v12_bound v12_places v12_maps v12_tapeMany v12_stories v12_base v12_at v12_ends v12_fault v12_opened v12_bodies v12_ran v12_ownKind v12_ownNumber]) [O12 a12 r12 v12_keptMany v12_done v12_sheets v12_holes v12_worms v12_laidMany v12_wanted v12_orderMany v12_firstOrder v12_lines v12_marks v12_dots v12_madeIn v12_bound v12_places v12_maps v12_tapeMany v12_stories v12_base v12_at v12_ends v12_fault v12_opened v12_bodies v12_ran v12_ownKind v12_ownNumber] sz) 0 0 (va_A [O12 a12 r12 v12_keptMany v12_done v12_sheets v12_holes v12_worms v12_laidMany v12_wanted v12_orderMany v12_firstOrder v12_lines v12_marks v12_dots v12_madeIn v12_bound v12_places v12_maps v12_tapeMany v12_stories v12_base v12_at v12_ends v12_fault v12_opened v12_bodies v12_ran v12_ownKind v12_ownNumber] sz) := by
  refine ofK_i (cc := cX12_side) (maxL := 5) (own := RX12) (by decide) rfl rfl (Nat.le_of_ble_eq_true rfl) ?_
  intro p e s m args below meth c Q A ls hsz hx hb hml hts hown hK hA hAB hP hD hl ret
  have hS : va_S A s.heap s.heap [] := va_S.rf
  have hl : lv_has ls 5 [(0, .ref a12), (1, .int p1), (2, .int p2), (3, .int p3)] := hl
  have l0 : (0 : Int32).toInt = 0 := by decide
  have l1 : ((-1) : Int32).toInt = -1 := by decide
  have l2 : (10 : Int32).toInt = 10 := by decide
  have i3 : 0 ≤ v12_sheets.toInt ∧ v12_sheets.toInt ≤ 8 := i3
  refine lv_iload_n hx hb dX12_side_0 rfl (lv_at hl 1 rfl) ?_
  refine kcm_i hA hAB hP hD hS [false] rfl (fun _ => rfl) (fun hPc hDc => va_runS (As := [.int p1]) (rest := []) ⟨hx, hb, hml, hown, hts⟩ (k_X12_isSlack l D κ β s.heap.size p1) (va_cwS 1 hts gX12_side_X12_isSlack rfl rfl rfl (by decide +kernel) ⟨Nat.le_of_ble_eq_true rfl, Nat.le_of_ble_eq_true rfl⟩) (pk_S hK hS hAB hPc hDc) rfl rfl hl.1 rfl (lv_room (Nat.le_of_ble_eq_true rfl)) dX12_side_1 ⟨Nat.le_of_ble_eq_true rfl, Nat.le_of_ble_eq_true rfl⟩) (fun x1 u2 H locs hw hPD hS => ?_)
  have h3 : (x1.toInt = 1 ∧ 0 ≤ p1.toInt ∧ p1.toInt ≤ 99) ∨ (x1.toInt = 0 ∧ (p1.toInt < 0 ∨ 99 < p1.toInt)) := hw
  obtain ⟨hP, hD⟩ : PD D A [O12 a12 r12 v12_keptMany v12_done v12_sheets v12_holes v12_worms v12_laidMany v12_wanted v12_orderMany v12_firstOrder v12_lines v12_marks v12_dots v12_madeIn v12_bound v12_places v12_maps v12_tapeMany v12_stories v12_base v12_at v12_ends v12_fault v12_opened v12_bodies v12_ran v12_ownKind v12_ownNumber] H := hPD
  refine lv_if_eq (tgt := 54) hx hb dX12_side_4 (by decide) (fun c4 => ?_) (fun c4 => ?_)
  · have c4 := ci_eq c4
    refine lv_iconst (v := (-1)) hx hb dX12_side_54 (by decide) ?_
    have hpo : ((-1) : Int32).toInt = -1 := (by omega)
    exact ret _ _ _ _ (-1) () dX12_side_55 hpo hP hD hS
  have c4 := ci_ne c4
  refine lv_iload_n hx hb dX12_side_7 rfl (lv_at hl 2 rfl) ?_
  refine lv_if_lt (tgt := 54) hx hb dX12_side_8 (by decide) (fun c5 => ?_) (fun c5 => ?_)
  · have c5 := ci_lt c5
    refine lv_iconst (v := (-1)) hx hb dX12_side_54 (by decide) ?_
    have hpo : ((-1) : Int32).toInt = -1 := (by omega)
    exact ret _ _ _ _ (-1) () dX12_side_55 hpo hP hD hS
  have c5 := ci_nlt c5
  refine lv_aload_n hx hb dX12_side_11 rfl (lv_at hl 0 rfl) ?_
  refine lv_iload_n hx hb dX12_side_12 rfl (lv_at hl 2 rfl) ?_
  refine lv_bipush (v := 10) hx hb dX12_side_13 (by decide) ?_
  refine lv_idiv hx hb dX12_side_15 (by decide) ?_
  refine lv_topi (fun x6 e7 => ?_)
  have h8 := ci_divL (n := 10) (by decide) (by decide) e7
  refine kcm_i hA hAB hP hD hS [true] rfl (fun _ => rfl) (fun hPc hDc => va_runV (As := [.int x6]) (rest := []) ⟨hx, hb, hml, hown, hts⟩ (k_X12_isSheet l D κ β a12 r12 v12_keptMany v12_done v12_sheets v12_holes v12_worms v12_laidMany v12_wanted v12_orderMany v12_firstOrder v12_lines v12_marks v12_dots v12_madeIn v12_bound v12_places v12_maps v12_tapeMany v12_stories v12_base v12_at v12_ends v12_fault v12_opened v12_bodies v12_ran v12_ownKind v12_ownNumber H.size x6 i1 i2 i3 i4 i5 i6 i7 i8 i9 i10 i11 i12 i13 i14 i15 i16 i17 (by omega) (by omega) (by omega) (by omega) (by omega) (by omega) (by omega) (by omega) (by omega) (by omega) (by omega) (by omega) (by omega) (by omega)) (cwV 1 hts gX12_side_X12_isSheet rfl rfl rfl (by decide +kernel) ⟨Nat.le_of_ble_eq_true rfl, Nat.le_of_ble_eq_true rfl⟩) (pk_V hK hS hAB hPc hDc 0 (ci := 12) rfl rfl rfl) rfl rfl hl.1 rfl (lv_room (Nat.le_of_ble_eq_true rfl)) dX12_side_16 ⟨Nat.le_of_ble_eq_true rfl, Nat.le_of_ble_eq_true rfl⟩) (fun x9 u10 H locs hw hPD hS => ?_)
  have h11 : (x9.toInt = 1 ∧ 0 ≤ x6.toInt ∧ x6.toInt < v12_sheets.toInt) ∨ (x9.toInt = 0 ∧ (x6.toInt < 0 ∨ v12_sheets.toInt ≤ x6.toInt)) := hw
  obtain ⟨hP, hD⟩ : PD D A [O12 a12 r12 v12_keptMany v12_done v12_sheets v12_holes v12_worms v12_laidMany v12_wanted v12_orderMany v12_firstOrder v12_lines v12_marks v12_dots v12_madeIn v12_bound v12_places v12_maps v12_tapeMany v12_stories v12_base v12_at v12_ends v12_fault v12_opened v12_bodies v12_ran v12_ownKind v12_ownNumber] H := hPD
  refine lv_if_eq (tgt := 54) hx hb dX12_side_19 (by decide) (fun c12 => ?_) (fun c12 => ?_)
  · have c12 := ci_eq c12
    refine lv_iconst (v := (-1)) hx hb dX12_side_54 (by decide) ?_
    have hpo : ((-1) : Int32).toInt = -1 := (by omega)
    exact ret _ _ _ _ (-1) () dX12_side_55 hpo hP hD hS
  have c12 := ci_ne c12
  exfalso
  omega
set_option maxHeartbeats 4000000 in
set_option maxRecDepth 100000 in
theorem k_X12_without (l : Launch) (D : va_G) (κ : Nat → ClassId) (β : Nat) (a12 : Nat) (r12 : Nat → Nat) (v12_keptMany : Int32) (v12_done : Int32) (v12_sheets : Int32) (v12_holes : Int32) (v12_worms : Int32) (v12_laidMany : Int32) (v12_wanted : Int32) (v12_orderMany : Int32) (v12_firstOrder : Int32) (v12_lines : Int32) (v12_marks : Int32) (v12_dots : Int32) (v12_madeIn : Int32) (v12_bound : Int32) (v12_places : Int32) (v12_maps : Int32) (v12_tapeMany : Int32) (v12_stories : Int32) (v12_base : Int32) (v12_at : Int32) (v12_ends : Int32) (v12_fault : Int32) (v12_opened : Int32) (v12_bodies : Int32) (v12_ran : Int32) (v12_ownKind : Int32) (v12_ownNumber : Int32) (sz : Nat) (p1 : Int32) (p2 : Int32) (i1 : Rg 0 40 v12_keptMany) (i2 : Rg 0 40 v12_done) (i3 : Rg 0 8 v12_sheets) (i4 : Rg 0 40 v12_holes) (i5 : Rg 0 40 v12_worms) (i6 : Rg 0 8 v12_laidMany) (i7 : Rg 0 8 v12_wanted) (i8 : Rg 0 20 v12_lines) (i9 : Rg 0 60 v12_marks) (i10 : Rg 0 40 v12_dots) (i11 : Rg 0 20 v12_places) (i12 : Rg 0 8 v12_maps) (i13 : Rg 0 120 v12_tapeMany) (i14 : Rg 0 6 v12_stories) (i15 : Rg 0 50 v12_bodies) (i16 : Rg 0 1000 v12_ran) (i17 : v12_done.toInt ≤ v12_keptMany.toInt) (i18 : v12_keptMany.toInt = 0) (i19 : v12_done.toInt = 0) (i20 : v12_sheets.toInt = 0) (i21 : v12_holes.toInt = 0) (i22 : v12_worms.toInt = 0) (i23 : v12_lines.toInt = 0) (i24 : v12_marks.toInt = 0) (i25 : v12_dots.toInt = 0) (i26 : v12_madeIn.toInt = 2001) (i27 : v12_places.toInt = 0) (i28 : v12_maps.toInt = 0) (i29 : v12_tapeMany.toInt = 0) (i30 : v12_stories.toInt = 0) (i31 : v12_bodies.toInt = 0) : Met l yX12_without wsX12_without ({ frames := 2, cells := 0, slots := 0, locals := 46 } : Room) (PcK D κ β [O12 a12 r12 v12_keptMany v12_done v12_sheets v12_holes v12_worms v12_laidMany v12_wanted v12_orderMany v12_firstOrder v12_lines v12_marks v12_dots v12_madeIn v12_bound v12_places v12_maps v12_tapeMany v12_stories v12_base v12_at v12_ends v12_fault v12_opened v12_bodies v12_ran v12_ownKind v12_ownNumber] sz [.ref a12, .int p1, .int p2]) (QiK D (fun (r : Int32) (u : Unit) => r.toInt = -1) (fun (u : Unit) => [O12 a12 r12 v12_keptMany v12_done v12_sheets v12_holes v12_worms v12_laidMany v12_wanted v12_orderMany v12_firstOrder v12_lines v12_marks v12_dots v12_madeIn v12_bound v12_places v12_maps v12_tapeMany v12_stories v12_base v12_at v12_ends v12_fault v12_opened v12_bodies v12_ran v12_ownKind v12_ownNumber]) [O12 a12 r12 v12_keptMany v12_done v12_sheets v12_holes v12_worms v12_laidMany v12_wanted v12_orderMany v12_firstOrder v12_lines v12_marks v12_dots v12_madeIn v12_bound v12_places v12_maps v12_tapeMany v12_stories v12_base v12_at v12_ends v12_fault v12_opened v12_bodies v12_ran v12_ownKind v12_ownNumber] sz) 0 0 (va_A [O12 a12 r12 v12_keptMany v12_done v12_sheets v12_holes v12_worms v12_laidMany v12_wanted v12_orderMany v12_firstOrder v12_lines v12_marks v12_dots v12_madeIn v12_bound v12_places v12_maps v12_tapeMany v12_stories v12_base v12_at v12_ends v12_fault v12_opened v12_bodies v12_ran v12_ownKind v12_ownNumber] sz) := by
  refine ofK_i (cc := cX12_without) (maxL := 3) (own := RX12) (by decide) rfl rfl (Nat.le_of_ble_eq_true rfl) ?_
  intro p e s m args below meth c Q A ls hsz hx hb hml hts hown hK hA hAB hP hD hl ret
  have hS : va_S A s.heap s.heap [] := va_S.rf
  have hl : lv_has ls 3 [(0, .ref a12), (1, .int p1), (2, .int p2)] := hl
  have l0 : (0 : Int32).toInt = 0 := by decide
  have l1 : ((-1) : Int32).toInt = -1 := by decide
  have i3 : 0 ≤ v12_sheets.toInt ∧ v12_sheets.toInt ≤ 8 := i3
  refine lv_iload_n hx hb dX12_without_0 rfl (lv_at hl 1 rfl) ?_
  refine kcm_i hA hAB hP hD hS [false] rfl (fun _ => rfl) (fun hPc hDc => va_runS (As := [.int p1]) (rest := []) ⟨hx, hb, hml, hown, hts⟩ (k_X12_isSlack l D κ β s.heap.size p1) (va_cwS 1 hts gX12_without_X12_isSlack rfl rfl rfl (by decide +kernel) ⟨Nat.le_of_ble_eq_true rfl, Nat.le_of_ble_eq_true rfl⟩) (pk_S hK hS hAB hPc hDc) rfl rfl hl.1 rfl (lv_room (Nat.le_of_ble_eq_true rfl)) dX12_without_1 ⟨Nat.le_of_ble_eq_true rfl, Nat.le_of_ble_eq_true rfl⟩) (fun x1 u2 H locs hw hPD hS => ?_)
  have h3 : (x1.toInt = 1 ∧ 0 ≤ p1.toInt ∧ p1.toInt ≤ 99) ∨ (x1.toInt = 0 ∧ (p1.toInt < 0 ∨ 99 < p1.toInt)) := hw
  obtain ⟨hP, hD⟩ : PD D A [O12 a12 r12 v12_keptMany v12_done v12_sheets v12_holes v12_worms v12_laidMany v12_wanted v12_orderMany v12_firstOrder v12_lines v12_marks v12_dots v12_madeIn v12_bound v12_places v12_maps v12_tapeMany v12_stories v12_base v12_at v12_ends v12_fault v12_opened v12_bodies v12_ran v12_ownKind v12_ownNumber] H := hPD
  refine lv_if_eq (tgt := 15) hx hb dX12_without_4 (by decide) (fun c4 => ?_) (fun c4 => ?_)
  · have c4 := ci_eq c4
    refine lv_iconst (v := (-1)) hx hb dX12_without_15 (by decide) ?_
    have hpo : ((-1) : Int32).toInt = -1 := (by omega)
    exact ret _ _ _ _ (-1) () dX12_without_16 hpo hP hD hS
  have c4 := ci_ne c4
  refine lv_aload_n hx hb dX12_without_7 rfl (lv_at hl 0 rfl) ?_
  refine lv_iload_n hx hb dX12_without_8 rfl (lv_at hl 2 rfl) ?_
  refine kcm_i hA hAB hP hD hS [true] rfl (fun _ => rfl) (fun hPc hDc => va_runV (As := [.int p2]) (rest := []) ⟨hx, hb, hml, hown, hts⟩ (k_X12_isSheet l D κ β a12 r12 v12_keptMany v12_done v12_sheets v12_holes v12_worms v12_laidMany v12_wanted v12_orderMany v12_firstOrder v12_lines v12_marks v12_dots v12_madeIn v12_bound v12_places v12_maps v12_tapeMany v12_stories v12_base v12_at v12_ends v12_fault v12_opened v12_bodies v12_ran v12_ownKind v12_ownNumber H.size p2 i1 i2 i3 i4 i5 i6 i7 i8 i9 i10 i11 i12 i13 i14 i15 i16 i17 (by omega) (by omega) (by omega) (by omega) (by omega) (by omega) (by omega) (by omega) (by omega) (by omega) (by omega) (by omega) (by omega) (by omega)) (cwV 1 hts gX12_without_X12_isSheet rfl rfl rfl (by decide +kernel) ⟨Nat.le_of_ble_eq_true rfl, Nat.le_of_ble_eq_true rfl⟩) (pk_V hK hS hAB hPc hDc 0 (ci := 12) rfl rfl rfl) rfl rfl hl.1 rfl (lv_room (Nat.le_of_ble_eq_true rfl)) dX12_without_9 ⟨Nat.le_of_ble_eq_true rfl, Nat.le_of_ble_eq_true rfl⟩) (fun x5 u6 H locs hw hPD hS => ?_)
  have h7 : (x5.toInt = 1 ∧ 0 ≤ p2.toInt ∧ p2.toInt < v12_sheets.toInt) ∨ (x5.toInt = 0 ∧ (p2.toInt < 0 ∨ v12_sheets.toInt ≤ p2.toInt)) := hw
  obtain ⟨hP, hD⟩ : PD D A [O12 a12 r12 v12_keptMany v12_done v12_sheets v12_holes v12_worms v12_laidMany v12_wanted v12_orderMany v12_firstOrder v12_lines v12_marks v12_dots v12_madeIn v12_bound v12_places v12_maps v12_tapeMany v12_stories v12_base v12_at v12_ends v12_fault v12_opened v12_bodies v12_ran v12_ownKind v12_ownNumber] H := hPD
  refine lv_if_ne (tgt := 17) hx hb dX12_without_12 (by decide) (fun c8 => ?_) (fun c8 => ?_)
  · have c8 := ci_ne c8
    exfalso
    omega
  have c8 := ci_eq c8
  refine lv_iconst (v := (-1)) hx hb dX12_without_15 (by decide) ?_
  have hpo : ((-1) : Int32).toInt = -1 := (by omega)
  exact ret _ _ _ _ (-1) () dX12_without_16 hpo hP hD hS
