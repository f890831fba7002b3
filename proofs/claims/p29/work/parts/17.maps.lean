set_option maxHeartbeats 4000000 in
set_option maxRecDepth 100000 in
theorem k_X4_isMap (l : Launch) (D : va_G) (κ : Nat → ClassId) (β : Nat) (a4 : Nat) (r4 : Nat → Nat) (v4_count : Int32) (sz : Nat) (p1 : Int32) (i1 : Rg 0 8 v4_count) : Met l yX4_isMap wsX4_isMap ({ frames := 1, cells := 0, slots := 0, locals := 22 } : Room) (PcK D κ β [O4 a4 r4 v4_count] sz [.ref a4, .int p1]) (QiK D (fun (r : Int32) (u : Unit) => (r.toInt = 1 ∧ 0 ≤ p1.toInt ∧ p1.toInt < v4_count.toInt) ∨ (r.toInt = 0 ∧ (p1.toInt < 0 ∨ v4_count.toInt ≤ p1.toInt))) (fun (u : Unit) => [O4 a4 r4 v4_count]) [O4 a4 r4 v4_count] sz) 0 0 (va_A [O4 a4 r4 v4_count] sz) := by
  refine ofK_z (cc := cX4_isMap) (maxL := 2) (own := RX4) (by decide) rfl rfl (Nat.le_of_ble_eq_true rfl) ?_
  intro p e s m args below meth c Q A ls hsz hx hb hml hts hown hK hA hAB hP hD hl ret
  have hS : va_S A s.heap s.heap [] := va_S.rf
  have hl : lv_has ls 2 [(0, .ref a4), (1, .int p1)] := hl
  have w0 := hts (.fieldLink RX4 18 "OlderSkin$Maps" "count" "I") (List.mem_of_getElem? (i := 1) rfl)
  have w1 := (fun w h => List.mem_cons_of_mem _ (List.mem_append_right _ h) : ∀ w ∈ u_ws RX4 TX4 3, w ∈ wsX4_isMap)
  have w2 := hts (.initialized RX11) (List.mem_of_getElem? (i := 3) rfl)
  have w3 := hts (.static yX11_within) (List.mem_of_getElem? (i := 2) rfl)
  have w4 := hK.2.1 ("OlderSkin$Maps", 22, ⟨"OlderSkin", "within", "(III)Z"⟩, "OlderSkin") (by decide +kernel)
  have l0 : (0 : Int32).toInt = 0 := by decide
  have l1 : (1 : Int32).toInt = 1 := by decide
  have i1 : 0 ≤ v4_count.toInt ∧ v4_count.toInt ≤ 8 := i1
  refine lv_iload_n hx hb dX4_isMap_0 rfl (lv_at hl 1 rfl) ?_
  refine lv_iconst (v := 0) hx hb dX4_isMap_1 (by decide) ?_
  refine lv_aload_n hx hb dX4_isMap_2 rfl (lv_at hl 0 rfl) ?_
  refine va_get (D := D) (ci := 4) (v := .int v4_count) (C := RX4) (T := TX4) (N := 3) hx hb hts w1 hown hK.1 hP 0 rfl rfl 2 (by decide) w0 (fun _ h9 => h9) rfl dX4_isMap_3 ?_
  refine lv_iconst (v := 1) hx hb dX4_isMap_6 (by decide) ?_
  refine lv_isub hx hb dX4_isMap_7 ?_
  refine lv_topi (fun x1 e2 => ?_)
  try have h3 : x1.toInt = v4_count.toInt - (1 : Int32).toInt := ci_sub e2 (by omega) (by omega)
  refine kcm_i hA hAB hP hD hS [false] rfl (fun _ => rfl) (fun hPc hDc => va_runSN (As := [.int p1, .int 0, .int x1]) (rest := []) ⟨hx, hb, hml, hown, hts⟩ (k_X11_within l D κ β s.heap.size p1 0 x1) ⟨va_cnB 3 hts gX4_isMap_X11_within_n22 rfl rfl rfl w4 w2 (by decide +kernel) ⟨Nat.le_of_ble_eq_true rfl, Nat.le_of_ble_eq_true rfl⟩, w3, trivial⟩ (pk_S hK hS hAB hPc hDc) rfl rfl hl.1 rfl (lv_room (Nat.le_of_ble_eq_true rfl)) dX4_isMap_8 ⟨Nat.le_of_ble_eq_true rfl, Nat.le_of_ble_eq_true rfl⟩) (fun x4 u5 H locs hw hPD hS => ?_)
  have h6 : (x4.toInt = 1 ∧ (0 : Int32).toInt ≤ p1.toInt ∧ p1.toInt ≤ x1.toInt) ∨ (x4.toInt = 0 ∧ (p1.toInt < (0 : Int32).toInt ∨ x1.toInt < p1.toInt)) := hw
  obtain ⟨hP, hD⟩ : PD D A [O4 a4 r4 v4_count] H := hPD
  have hpo : (x4.toInt = 1 ∧ 0 ≤ p1.toInt ∧ p1.toInt < v4_count.toInt) ∨ (x4.toInt = 0 ∧ (p1.toInt < 0 ∨ v4_count.toInt ≤ p1.toInt)) := (by omega)
  exact ret _ _ _ _ x4 () dX4_isMap_11 (by omega) hpo hP hD hS
set_option maxHeartbeats 4000000 in
set_option maxRecDepth 100000 in
theorem k_X4_add (l : Launch) (D : va_G) (κ : Nat → ClassId) (β : Nat) (a4 : Nat) (r4 : Nat → Nat) (v4_count : Int32) (f4_years : Nat → Int32) (f4_slips : Nat → Int32) (sz : Nat) (p1 : Int32) (p2 : Int32) (i1 : Rg 0 8 v4_count) (hf4_slips : ∀ j : Nat, 0 ≤ (f4_slips j).toInt ∧ (f4_slips j).toInt ≤ 65535) (i2 : 0 ≤ p2.toInt ∧ p2.toInt ≤ 65535) : Met l yX4_add wsX4_add ({ frames := 0, cells := 0, slots := 0, locals := 0 } : Room) (PcK D κ β [O4 a4 r4 v4_count, (cI κ (r4 0) 8 f4_years), (cI κ (r4 1) 8 f4_slips)] sz [.ref a4, .int p1, .int p2]) (QiK D (fun (r : Int32) (u : Int32 × (Nat → Int32) × (Nat → Int32)) => (0 ≤ u.1.toInt ∧ u.1.toInt ≤ 8) ∧ (∀ j : Nat, 0 ≤ (u.2.2 j).toInt ∧ (u.2.2 j).toInt ≤ 65535) ∧ ((v4_count.toInt = 8 ∧ r.toInt = -3 ∧ u.1.toInt = v4_count.toInt) ∨ (v4_count.toInt < 8 ∧ r.toInt = v4_count.toInt ∧ u.1.toInt = v4_count.toInt + 1)) ∧ (u.2.1 = addF v4_count 8 f4_years p1) ∧ (u.2.2 = addF v4_count 8 f4_slips p2)) (fun (u : Int32 × (Nat → Int32) × (Nat → Int32)) => [O4 a4 r4 u.1, (cI κ (r4 0) 8 u.2.1), (cI κ (r4 1) 8 u.2.2)]) [O4 a4 r4 v4_count, (cI κ (r4 0) 8 f4_years), (cI κ (r4 1) 8 f4_slips)] sz) 0 0 (va_A [O4 a4 r4 v4_count, (cI κ (r4 0) 8 f4_years), (cI κ (r4 1) 8 f4_slips)] sz) := by
  refine ofK_i (cc := cX4_add) (maxL := 3) (own := RX4) (by decide) rfl rfl (Nat.le_of_ble_eq_true rfl) ?_
  intro p e s m args below meth c Q A ls hsz hx hb hml hts hown hK hA hAB hP hD hl ret
  have hS : va_S A s.heap s.heap [] := va_S.rf
  have hl : lv_has ls 3 [(0, .ref a4), (1, .int p1), (2, .int p2)] := hl
  have w0 := hts (.fieldLink RX4 18 "OlderSkin$Maps" "count" "I") (List.mem_of_getElem? (i := 1) rfl)
  have w1 := (fun w h => List.mem_cons_of_mem _ (List.mem_append_right _ h) : ∀ w ∈ u_ws RX4 TX4 3, w ∈ wsX4_add)
  have w2 := hts (.fieldLink RX4 9 "OlderSkin$Maps" "years" "[I") (List.mem_of_getElem? (i := 2) rfl)
  have w3 := hts (.fieldLink RX4 15 "OlderSkin$Maps" "slips" "[I") (List.mem_of_getElem? (i := 3) rfl)
  have l0 : (8 : Int32).toInt = 8 := by decide
  have l1 : (0 : Int32).toInt = 0 := by decide
  have l2 : (1 : Int32).toInt = 1 := by decide
  have l3 : ((-3) : Int32).toInt = -3 := by decide
  have i1 : 0 ≤ v4_count.toInt ∧ v4_count.toInt ≤ 8 := i1
  refine lv_aload_n hx hb dX4_add_0 rfl (lv_at hl 0 rfl) ?_
  refine va_get (D := D) (ci := 4) (v := .int v4_count) (C := RX4) (T := TX4) (N := 3) hx hb hts w1 hown hK.1 hP 0 rfl rfl 2 (by decide) w0 (fun _ h9 => h9) rfl dX4_add_1 ?_
  refine lv_aload_n hx hb dX4_add_4 rfl (lv_at hl 0 rfl) ?_
  refine va_get (D := D) (ci := 4) (v := .ref (r4 0)) (C := RX4) (T := TX4) (N := 3) hx hb hts w1 hown hK.1 hP 0 rfl rfl 0 (by decide) w2 (fun _ h9 => h9) rfl dX4_add_5 ?_
  refine va_alen hx hb hK.1 hP 1 1 rfl rfl (v := 8) rfl dX4_add_8 ?_
  refine lv_icmp_ne (tgt := 15) hx hb dX4_add_9 (by decide) (fun c1 => ?_) (fun c1 => ?_)
  · have c1 := ci_ne c1
    refine lv_aload_n hx hb dX4_add_15 rfl (lv_at hl 0 rfl) ?_
    refine va_get (D := D) (ci := 4) (v := .ref (r4 0)) (C := RX4) (T := TX4) (N := 3) hx hb hts w1 hown hK.1 hP 0 rfl rfl 0 (by decide) w2 (fun _ h9 => h9) rfl dX4_add_16 ?_
    refine lv_aload_n hx hb dX4_add_19 rfl (lv_at hl 0 rfl) ?_
    refine va_get (D := D) (ci := 4) (v := .int v4_count) (C := RX4) (T := TX4) (N := 3) hx hb hts w1 hown hK.1 hP 0 rfl rfl 2 (by decide) w0 (fun _ h9 => h9) rfl dX4_add_20 ?_
    refine lv_iload_n hx hb dX4_add_23 rfl (lv_at hl 1 rfl) ?_
    refine va_iast hx hb hK.1 hP hD hS 1 1 rfl rfl (i := v4_count) (ix (by omega) (by omega)) dX4_add_24 (fun H locs hP hD hS => ?_)
    obtain ⟨g2, e3⟩ : ∃ y : Nat → Int32, y = upd f4_years v4_count.toNatClampNeg p1 := ⟨_, rfl⟩
    rw [← e3] at hP hD
    obtain ⟨hP, hD⟩ : PD D A [O4 a4 r4 v4_count, (cI κ (r4 0) 8 g2), (cI κ (r4 1) 8 f4_slips)] H := ⟨hP, hD⟩
    refine lv_aload_n hx hb dX4_add_25 rfl (lv_at hl 0 rfl) ?_
    refine va_get (D := D) (ci := 4) (v := .ref (r4 1)) (C := RX4) (T := TX4) (N := 3) hx hb hts w1 hown hK.1 hP 0 rfl rfl 1 (by decide) w3 (fun _ h9 => h9) rfl dX4_add_26 ?_
    refine lv_aload_n hx hb dX4_add_29 rfl (lv_at hl 0 rfl) ?_
    refine va_get (D := D) (ci := 4) (v := .int v4_count) (C := RX4) (T := TX4) (N := 3) hx hb hts w1 hown hK.1 hP 0 rfl rfl 2 (by decide) w0 (fun _ h9 => h9) rfl dX4_add_30 ?_
    refine lv_iload_n hx hb dX4_add_33 rfl (lv_at hl 2 rfl) ?_
    refine va_iast hx hb hK.1 hP hD hS 2 1 rfl rfl (i := v4_count) (ix (by omega) (by omega)) dX4_add_34 (fun H locs hP hD hS => ?_)
    obtain ⟨g4, e5⟩ : ∃ y : Nat → Int32, y = upd f4_slips v4_count.toNatClampNeg p2 := ⟨_, rfl⟩
    rw [← e5] at hP hD
    obtain ⟨hP, hD⟩ : PD D A [O4 a4 r4 v4_count, (cI κ (r4 0) 8 g2), (cI κ (r4 1) 8 g4)] H := ⟨hP, hD⟩
    have h6 : ∀ j : Nat, 0 ≤ (g4 j).toInt ∧ (g4 j).toInt ≤ 65535 := by rw [e5]; exact all_upd (P := fun z => 0 ≤ z.toInt ∧ z.toInt ≤ 65535) hf4_slips (by omega)
    refine lv_aload_n hx hb dX4_add_35 rfl (lv_at hl 0 rfl) ?_
    refine lv_dup hx hb dX4_add_36 rfl ?_
    refine va_get (D := D) (ci := 4) (v := .int v4_count) (C := RX4) (T := TX4) (N := 3) hx hb hts w1 hown hK.1 hP 0 rfl rfl 2 (by decide) w0 (fun _ h9 => h9) rfl dX4_add_37 ?_
    refine lv_dup_x1 hx hb dX4_add_40 rfl rfl ?_
    refine lv_iconst (v := 1) hx hb dX4_add_41 (by decide) ?_
    refine lv_iadd hx hb dX4_add_42 ?_
    refine lv_topi (fun x7 e8 => ?_)
    try have h9 : x7.toInt = v4_count.toInt + (1 : Int32).toInt := ci_add e8 (by omega) (by omega)
    refine va_put (D := D) (ci := 4) (v := .int x7) (ty := .int) (C := RX4) (T := TX4) (N := 3) hx hb hts w1 tyX4 tyX4_ok nmX4 hown hK.1 hP hD hS 0 rfl rfl 2 (by decide) w0 (fun _ h9 => h9) rfl (by decide +kernel) rfl rfl (Nat.le_of_ble_eq_true rfl) dX4_add_43 (fun H locs hP hD hS => ?_)
    obtain ⟨hP, hD⟩ : PD D A [O4 a4 r4 x7, (cI κ (r4 0) 8 g2), (cI κ (r4 1) 8 g4)] H := ⟨hP, hD⟩
    have h10 : 0 ≤ x7.toInt ∧ x7.toInt ≤ 8 := by omega
    have hpo : (0 ≤ x7.toInt ∧ x7.toInt ≤ 8) ∧ (∀ j : Nat, 0 ≤ (g4 j).toInt ∧ (g4 j).toInt ≤ 65535) ∧ ((v4_count.toInt = 8 ∧ v4_count.toInt = -3 ∧ x7.toInt = v4_count.toInt) ∨ (v4_count.toInt < 8 ∧ v4_count.toInt = v4_count.toInt ∧ x7.toInt = v4_count.toInt + 1)) ∧ (g2 = addF v4_count 8 f4_years p1) ∧ (g4 = addF v4_count 8 f4_slips p2) := ⟨h10, h6, (by omega), (by first | (rw [addF_ok (by omega)]; assumption) | exact (addF_no (by omega)).symm), (by first | (rw [addF_ok (by omega)]; assumption) | exact (addF_no (by omega)).symm)⟩
    exact ret _ _ _ _ v4_count (x7, g2, g4) dX4_add_46 hpo hP hD hS
  have c1 := ci_eq c1
  refine lv_bipush (v := (-3)) hx hb dX4_add_12 (by decide) ?_
  have hpo : (0 ≤ v4_count.toInt ∧ v4_count.toInt ≤ 8) ∧ (∀ j : Nat, 0 ≤ (f4_slips j).toInt ∧ (f4_slips j).toInt ≤ 65535) ∧ ((v4_count.toInt = 8 ∧ ((-3) : Int32).toInt = -3 ∧ v4_count.toInt = v4_count.toInt) ∨ (v4_count.toInt < 8 ∧ ((-3) : Int32).toInt = v4_count.toInt ∧ v4_count.toInt = v4_count.toInt + 1)) ∧ (f4_years = addF v4_count 8 f4_years p1) ∧ (f4_slips = addF v4_count 8 f4_slips p2) := ⟨i1, hf4_slips, (by omega), (by first | (rw [addF_ok (by omega)]; assumption) | exact (addF_no (by omega)).symm), (by first | (rw [addF_ok (by omega)]; assumption) | exact (addF_no (by omega)).symm)⟩
  exact ret _ _ _ _ (-3) (v4_count, f4_years, f4_slips) dX4_add_14 hpo hP hD hS
set_option maxHeartbeats 4000000 in
set_option maxRecDepth 100000 in
theorem k_X4_apart (l : Launch) (D : va_G) (κ : Nat → ClassId) (β : Nat) (a4 : Nat) (r4 : Nat → Nat) (v4_count : Int32) (f4_slips : Nat → Int32) (sz : Nat) (p1 : Int32) (p2 : Int32) (i1 : Rg 0 8 v4_count) (hf4_slips : ∀ j : Nat, 0 ≤ (f4_slips j).toInt ∧ (f4_slips j).toInt ≤ 65535) (i2 : 0 ≤ p1.toInt ∧ p1.toInt ≤ 7) (i3 : 0 ≤ p2.toInt ∧ p2.toInt ≤ 7) : Met l yX4_apart wsX4_apart ({ frames := 1, cells := 0, slots := 0, locals := 20 } : Room) (PcK D κ β [O4 a4 r4 v4_count, (cI κ (r4 1) 8 f4_slips)] sz [.ref a4, .int p1, .int p2]) (QiK D (fun (r : Int32) (u : Unit) => r.toInt = apF f4_slips p1.toNatClampNeg p2.toNatClampNeg) (fun (u : Unit) => [O4 a4 r4 v4_count, (cI κ (r4 1) 8 f4_slips)]) [O4 a4 r4 v4_count, (cI κ (r4 1) 8 f4_slips)] sz) 0 0 (va_A [O4 a4 r4 v4_count, (cI κ (r4 1) 8 f4_slips)] sz) := by
  refine ofK_i (cc := cX4_apart) (maxL := 3) (own := RX4) (by decide) rfl rfl (Nat.le_of_ble_eq_true rfl) ?_
  intro p e s m args below meth c Q A ls hsz hx hb hml hts hown hK hA hAB hP hD hl ret
  have hS : va_S A s.heap s.heap [] := va_S.rf
  have hl : lv_has ls 3 [(0, .ref a4), (1, .int p1), (2, .int p2)] := hl
  have w0 := hts (.fieldLink RX4 15 "OlderSkin$Maps" "slips" "[I") (List.mem_of_getElem? (i := 1) rfl)
  have w1 := (fun w h => List.mem_cons_of_mem _ (List.mem_append_right _ h) : ∀ w ∈ u_ws RX4 TX4 3, w ∈ wsX4_apart)
  refine lv_aload_n hx hb dX4_apart_0 rfl (lv_at hl 0 rfl) ?_
  refine va_get (D := D) (ci := 4) (v := .ref (r4 1)) (C := RX4) (T := TX4) (N := 3) hx hb hts w1 hown hK.1 hP 0 rfl rfl 1 (by decide) w0 (fun _ h9 => h9) rfl dX4_apart_1 ?_
  refine lv_iload_n hx hb dX4_apart_4 rfl (lv_at hl 1 rfl) ?_
  refine va_iald hx hb hK.1 hP 1 1 rfl rfl (i := p1) (ix (by omega) (by omega)) dX4_apart_5 ?_
  refine lv_topi (fun x1 e2 => ?_)
  have h3 : 0 ≤ x1.toInt ∧ x1.toInt ≤ 65535 := by rw [e2]; exact hf4_slips _
  have hy1 : x1 = f4_slips p1.toNatClampNeg := e2
  refine lv_aload_n hx hb dX4_apart_6 rfl (lv_at hl 0 rfl) ?_
  refine va_get (D := D) (ci := 4) (v := .ref (r4 1)) (C := RX4) (T := TX4) (N := 3) hx hb hts w1 hown hK.1 hP 0 rfl rfl 1 (by decide) w0 (fun _ h9 => h9) rfl dX4_apart_7 ?_
  refine lv_iload_n hx hb dX4_apart_10 rfl (lv_at hl 2 rfl) ?_
  refine va_iald hx hb hK.1 hP 1 1 rfl rfl (i := p2) (ix (by omega) (by omega)) dX4_apart_11 ?_
  refine lv_topi (fun x4 e5 => ?_)
  have h6 : 0 ≤ x4.toInt ∧ x4.toInt ≤ 65535 := by rw [e5]; exact hf4_slips _
  have hy2 : x4 = f4_slips p2.toNatClampNeg := e5
  refine lv_ixor hx hb dX4_apart_12 ?_
  refine lv_topi (fun x7 e8 => ?_)
  have hx9 : x7 = f4_slips p1.toNatClampNeg ^^^ f4_slips p2.toNatClampNeg := by rw [e8, hy1, hy2]
  have hx8 := xor_16 e8 (by omega) (by omega) (by omega) (by omega)
  refine kcm_i hA hAB hP hD hS [false, false] rfl (fun _ => rfl) (fun hPc hDc => va_runS (As := [.int x7]) (rest := []) ⟨hx, hb, hml, hown, hts⟩ (k_J6_bitCount_0f7a4 l D κ β s.heap.size x7) (va_cwS 1 hts gX4_apart_J6_bitCount_0f7a4 rfl rfl rfl (by decide +kernel) ⟨Nat.le_of_ble_eq_true rfl, Nat.le_of_ble_eq_true rfl⟩) (pk_S hK hS hAB hPc hDc) rfl rfl hl.1 rfl (lv_room (Nat.le_of_ble_eq_true rfl)) dX4_apart_13 ⟨Nat.le_of_ble_eq_true rfl, Nat.le_of_ble_eq_true rfl⟩) (fun x9 u10 H locs hw hPD hS => ?_)
  have h11 : 65536 ≤ nb x7 ∨ x9.toInt = ((popN (nb x7) : Nat) : Int) := hw
  obtain ⟨hP, hD⟩ : PD D A [O4 a4 r4 v4_count, (cI κ (r4 1) 8 f4_slips)] H := hPD
  have hpo : x9.toInt = apF f4_slips p1.toNatClampNeg p2.toNatClampNeg := (by unfold apF; rw [← hx9]; omega)
  exact ret _ _ _ _ x9 () dX4_apart_16 hpo hP hD hS
set_option maxHeartbeats 4000000 in
set_option maxRecDepth 100000 in
theorem k_X4_isNearer (l : Launch) (D : va_G) (κ : Nat → ClassId) (β : Nat) (a4 : Nat) (r4 : Nat → Nat) (v4_count : Int32) (f4_years : Nat → Int32) (f4_slips : Nat → Int32) (sz : Nat) (p1 : Int32) (p2 : Int32) (p3 : Int32) (i1 : Rg 0 8 v4_count) (hf4_slips : ∀ j : Nat, 0 ≤ (f4_slips j).toInt ∧ (f4_slips j).toInt ≤ 65535) (i2 : 0 ≤ p1.toInt ∧ p1.toInt ≤ 7) (i3 : 0 ≤ p2.toInt ∧ p2.toInt ≤ 7) (i4 : 0 ≤ p3.toInt ∧ p3.toInt ≤ 7) : Met l yX4_isNearer wsX4_isNearer ({ frames := 2, cells := 0, slots := 0, locals := 42 } : Room) (PcK D κ β [O4 a4 r4 v4_count, (cI κ (r4 0) 8 f4_years), (cI κ (r4 1) 8 f4_slips)] sz [.ref a4, .int p1, .int p2, .int p3]) (QiK D (fun (r : Int32) (u : Unit) => (r.toInt = 1 ∧ (apF f4_slips p1.toNatClampNeg p2.toNatClampNeg < apF f4_slips p1.toNatClampNeg p3.toNatClampNeg ∨ (apF f4_slips p1.toNatClampNeg p2.toNatClampNeg = apF f4_slips p1.toNatClampNeg p3.toNatClampNeg ∧ (f4_years p3.toNatClampNeg).toInt < (f4_years p2.toNatClampNeg).toInt))) ∨ (r.toInt = 0 ∧ ¬ (apF f4_slips p1.toNatClampNeg p2.toNatClampNeg < apF f4_slips p1.toNatClampNeg p3.toNatClampNeg ∨ (apF f4_slips p1.toNatClampNeg p2.toNatClampNeg = apF f4_slips p1.toNatClampNeg p3.toNatClampNeg ∧ (f4_years p3.toNatClampNeg).toInt < (f4_years p2.toNatClampNeg).toInt)))) (fun (u : Unit) => [O4 a4 r4 v4_count, (cI κ (r4 0) 8 f4_years), (cI κ (r4 1) 8 f4_slips)]) [O4 a4 r4 v4_count, (cI κ (r4 0) 8 f4_years), (cI κ (r4 1) 8 f4_slips)] sz) 0 0 (va_A [O4 a4 r4 v4_count, (cI κ (r4 0) 8 f4_years), (cI κ (r4 1) 8 f4_slips)] sz) := by
  refine ofK_z (cc := cX4_isNearer) (maxL := 6) (own := RX4) (by decide) rfl rfl (Nat.le_of_ble_eq_true rfl) ?_
  intro p e s m args below meth c Q A ls hsz hx hb hml hts hown hK hA hAB hP hD hl ret
  have hS : va_S A s.heap s.heap [] := va_S.rf
  have hl : lv_has ls 6 [(0, .ref a4), (1, .int p1), (2, .int p2), (3, .int p3)] := hl
  have w0 := hts (.fieldLink RX4 9 "OlderSkin$Maps" "years" "[I") (List.mem_of_getElem? (i := 1) rfl)
  have w1 := (fun w h => List.mem_cons_of_mem _ (List.mem_append_right _ h) : ∀ w ∈ u_ws RX4 TX4 3, w ∈ wsX4_isNearer)
  have l0 : (0 : Int32).toInt = 0 := by decide
  have l1 : (1 : Int32).toInt = 1 := by decide
  refine lv_aload_n hx hb dX4_isNearer_0 rfl (lv_at hl 0 rfl) ?_
  refine lv_iload_n hx hb dX4_isNearer_1 rfl (lv_at hl 1 rfl) ?_
  refine lv_iload_n hx hb dX4_isNearer_2 rfl (lv_at hl 2 rfl) ?_
  refine kcm_i hA hAB hP hD hS [true, false, true] rfl (fun _ => rfl) (fun hPc hDc => va_runV (As := [.int p1, .int p2]) (rest := []) ⟨hx, hb, hml, hown, hts⟩ (k_X4_apart l D κ β a4 r4 v4_count f4_slips s.heap.size p1 p2 i1 hf4_slips (by omega) (by omega)) (cwV 2 hts gX4_isNearer_X4_apart rfl rfl rfl (by decide +kernel) ⟨Nat.le_of_ble_eq_true rfl, Nat.le_of_ble_eq_true rfl⟩) (pk_V hK hS hAB hPc hDc 0 (ci := 4) rfl rfl rfl) rfl rfl hl.1 rfl (lv_room (Nat.le_of_ble_eq_true rfl)) dX4_isNearer_3 ⟨Nat.le_of_ble_eq_true rfl, Nat.le_of_ble_eq_true rfl⟩) (fun x1 u2 H locs hw hPD hS => ?_)
  have h3 : x1.toInt = apF f4_slips p1.toNatClampNeg p2.toNatClampNeg := hw
  obtain ⟨hP, hD⟩ : PD D A [O4 a4 r4 v4_count, (cI κ (r4 0) 8 f4_years), (cI κ (r4 1) 8 f4_slips)] H := hPD
  refine lv_istore (lv' := [(4, .int x1), (0, .ref a4), (1, .int p1), (2, .int p2), (3, .int p3)]) hx hb dX4_isNearer_6 hl (by decide) rfl (fun ls hl => ?_)
  refine lv_aload_n hx hb dX4_isNearer_8 rfl (lv_at hl 1 rfl) ?_
  refine lv_iload_n hx hb dX4_isNearer_9 rfl (lv_at hl 2 rfl) ?_
  refine lv_iload_n hx hb dX4_isNearer_10 rfl (lv_at hl 4 rfl) ?_
  refine kcm_i hA hAB hP hD hS [true, false, true] rfl (fun _ => rfl) (fun hPc hDc => va_runV (As := [.int p1, .int p3]) (rest := []) ⟨hx, hb, hml, hown, hts⟩ (k_X4_apart l D κ β a4 r4 v4_count f4_slips H.size p1 p3 i1 hf4_slips (by omega) (by omega)) (cwV 2 hts gX4_isNearer_X4_apart rfl rfl rfl (by decide +kernel) ⟨Nat.le_of_ble_eq_true rfl, Nat.le_of_ble_eq_true rfl⟩) (pk_V hK hS hAB hPc hDc 0 (ci := 4) rfl rfl rfl) rfl rfl hl.1 rfl (lv_room (Nat.le_of_ble_eq_true rfl)) dX4_isNearer_11 ⟨Nat.le_of_ble_eq_true rfl, Nat.le_of_ble_eq_true rfl⟩) (fun x4 u5 H locs hw hPD hS => ?_)
  have h6 : x4.toInt = apF f4_slips p1.toNatClampNeg p3.toNatClampNeg := hw
  obtain ⟨hP, hD⟩ : PD D A [O4 a4 r4 v4_count, (cI κ (r4 0) 8 f4_years), (cI κ (r4 1) 8 f4_slips)] H := hPD
  refine lv_istore (lv' := [(5, .int x4), (4, .int x1), (0, .ref a4), (1, .int p1), (2, .int p2), (3, .int p3)]) hx hb dX4_isNearer_14 hl (by decide) rfl (fun ls hl => ?_)
  refine lv_iload hx hb dX4_isNearer_16 (lv_at hl 1 rfl) ?_
  refine lv_iload hx hb dX4_isNearer_18 (lv_at hl 0 rfl) ?_
  refine lv_icmp_lt (tgt := 45) hx hb dX4_isNearer_20 (by decide) (fun c7 => ?_) (fun c7 => ?_)
  · have c7 := ci_lt c7
    refine lv_iconst (v := 1) hx hb dX4_isNearer_45 (by decide) ?_
    refine lv_goto (tgt := 50) hx hb dX4_isNearer_46 (by decide) ?_
    have hpo : ((1 : Int32).toInt = 1 ∧ (apF f4_slips p1.toNatClampNeg p2.toNatClampNeg < apF f4_slips p1.toNatClampNeg p3.toNatClampNeg ∨ (apF f4_slips p1.toNatClampNeg p2.toNatClampNeg = apF f4_slips p1.toNatClampNeg p3.toNatClampNeg ∧ (f4_years p3.toNatClampNeg).toInt < (f4_years p2.toNatClampNeg).toInt))) ∨ ((1 : Int32).toInt = 0 ∧ ¬ (apF f4_slips p1.toNatClampNeg p2.toNatClampNeg < apF f4_slips p1.toNatClampNeg p3.toNatClampNeg ∨ (apF f4_slips p1.toNatClampNeg p2.toNatClampNeg = apF f4_slips p1.toNatClampNeg p3.toNatClampNeg ∧ (f4_years p3.toNatClampNeg).toInt < (f4_years p2.toNatClampNeg).toInt))) := (by omega)
    exact ret _ _ _ _ 1 () dX4_isNearer_50 (by omega) hpo hP hD hS
  have c7 := ci_nlt c7
  refine lv_iload hx hb dX4_isNearer_23 (lv_at hl 1 rfl) ?_
  refine lv_iload hx hb dX4_isNearer_25 (lv_at hl 0 rfl) ?_
  refine lv_icmp_ne (tgt := 49) hx hb dX4_isNearer_27 (by decide) (fun c8 => ?_) (fun c8 => ?_)
  · have c8 := ci_ne c8
    refine lv_iconst (v := 0) hx hb dX4_isNearer_49 (by decide) ?_
    have hpo : ((0 : Int32).toInt = 1 ∧ (apF f4_slips p1.toNatClampNeg p2.toNatClampNeg < apF f4_slips p1.toNatClampNeg p3.toNatClampNeg ∨ (apF f4_slips p1.toNatClampNeg p2.toNatClampNeg = apF f4_slips p1.toNatClampNeg p3.toNatClampNeg ∧ (f4_years p3.toNatClampNeg).toInt < (f4_years p2.toNatClampNeg).toInt))) ∨ ((0 : Int32).toInt = 0 ∧ ¬ (apF f4_slips p1.toNatClampNeg p2.toNatClampNeg < apF f4_slips p1.toNatClampNeg p3.toNatClampNeg ∨ (apF f4_slips p1.toNatClampNeg p2.toNatClampNeg = apF f4_slips p1.toNatClampNeg p3.toNatClampNeg ∧ (f4_years p3.toNatClampNeg).toInt < (f4_years p2.toNatClampNeg).toInt))) := (by omega)
    exact ret _ _ _ _ 0 () dX4_isNearer_50 (by omega) hpo hP hD hS
  have c8 := ci_eq c8
  refine lv_aload_n hx hb dX4_isNearer_30 rfl (lv_at hl 2 rfl) ?_
  refine va_get (D := D) (ci := 4) (v := .ref (r4 0)) (C := RX4) (T := TX4) (N := 3) hx hb hts w1 hown hK.1 hP 0 rfl rfl 0 (by decide) w0 (fun _ h9 => h9) rfl dX4_isNearer_31 ?_
  refine lv_iload_n hx hb dX4_isNearer_34 rfl (lv_at hl 4 rfl) ?_
  refine va_iald hx hb hK.1 hP 1 1 rfl rfl (i := p2) (ix (by omega) (by omega)) dX4_isNearer_35 ?_
  refine lv_topi (fun x9 e10 => ?_)
  have hz1 : x9.toInt = (f4_years p2.toNatClampNeg).toInt := congrArg Int32.toInt e10
  refine lv_aload_n hx hb dX4_isNearer_36 rfl (lv_at hl 2 rfl) ?_
  refine va_get (D := D) (ci := 4) (v := .ref (r4 0)) (C := RX4) (T := TX4) (N := 3) hx hb hts w1 hown hK.1 hP 0 rfl rfl 0 (by decide) w0 (fun _ h9 => h9) rfl dX4_isNearer_37 ?_
  refine lv_iload_n hx hb dX4_isNearer_40 rfl (lv_at hl 5 rfl) ?_
  refine va_iald hx hb hK.1 hP 1 1 rfl rfl (i := p3) (ix (by omega) (by omega)) dX4_isNearer_41 ?_
  refine lv_topi (fun x11 e12 => ?_)
  have hz2 : x11.toInt = (f4_years p3.toNatClampNeg).toInt := congrArg Int32.toInt e12
  refine lv_icmp_le (tgt := 49) hx hb dX4_isNearer_42 (by decide) (fun c13 => ?_) (fun c13 => ?_)
  · have c13 := ci_le c13
    refine lv_iconst (v := 0) hx hb dX4_isNearer_49 (by decide) ?_
    have hpo : ((0 : Int32).toInt = 1 ∧ (apF f4_slips p1.toNatClampNeg p2.toNatClampNeg < apF f4_slips p1.toNatClampNeg p3.toNatClampNeg ∨ (apF f4_slips p1.toNatClampNeg p2.toNatClampNeg = apF f4_slips p1.toNatClampNeg p3.toNatClampNeg ∧ (f4_years p3.toNatClampNeg).toInt < (f4_years p2.toNatClampNeg).toInt))) ∨ ((0 : Int32).toInt = 0 ∧ ¬ (apF f4_slips p1.toNatClampNeg p2.toNatClampNeg < apF f4_slips p1.toNatClampNeg p3.toNatClampNeg ∨ (apF f4_slips p1.toNatClampNeg p2.toNatClampNeg = apF f4_slips p1.toNatClampNeg p3.toNatClampNeg ∧ (f4_years p3.toNatClampNeg).toInt < (f4_years p2.toNatClampNeg).toInt))) := (by omega)
    exact ret _ _ _ _ 0 () dX4_isNearer_50 (by omega) hpo hP hD hS
  have c13 := ci_nle c13
  refine lv_iconst (v := 1) hx hb dX4_isNearer_45 (by decide) ?_
  refine lv_goto (tgt := 50) hx hb dX4_isNearer_46 (by decide) ?_
  have hpo : ((1 : Int32).toInt = 1 ∧ (apF f4_slips p1.toNatClampNeg p2.toNatClampNeg < apF f4_slips p1.toNatClampNeg p3.toNatClampNeg ∨ (apF f4_slips p1.toNatClampNeg p2.toNatClampNeg = apF f4_slips p1.toNatClampNeg p3.toNatClampNeg ∧ (f4_years p3.toNatClampNeg).toInt < (f4_years p2.toNatClampNeg).toInt))) ∨ ((1 : Int32).toInt = 0 ∧ ¬ (apF f4_slips p1.toNatClampNeg p2.toNatClampNeg < apF f4_slips p1.toNatClampNeg p3.toNatClampNeg ∨ (apF f4_slips p1.toNatClampNeg p2.toNatClampNeg = apF f4_slips p1.toNatClampNeg p3.toNatClampNeg ∧ (f4_years p3.toNatClampNeg).toInt < (f4_years p2.toNatClampNeg).toInt))) := (by omega)
  exact ret _ _ _ _ 1 () dX4_isNearer_50 (by omega) hpo hP hD hS
set_option maxHeartbeats 4000000 in
set_option maxRecDepth 100000 in
theorem k_X4_fatherOf (l : Launch) (D : va_G) (κ : Nat → ClassId) (β : Nat) (a4 : Nat) (r4 : Nat → Nat) (v4_count : Int32) (f4_years : Nat → Int32) (f4_slips : Nat → Int32) (sz : Nat) (p1 : Int32) (i1 : Rg 0 8 v4_count) (hf4_slips : ∀ j : Nat, 0 ≤ (f4_slips j).toInt ∧ (f4_slips j).toInt ≤ 65535) (i2 : 0 ≤ p1.toInt ∧ p1.toInt ≤ 7) : Met l yX4_fatherOf wsX4_fatherOf ({ frames := 3, cells := 0, slots := 0, locals := 67 } : Room) (PcK D κ β [O4 a4 r4 v4_count, (cI κ (r4 0) 8 f4_years), (cI κ (r4 1) 8 f4_slips)] sz [.ref a4, .int p1]) (QiK D (fun (r : Int32) (u : Unit) => (-1 ≤ r.toInt ∧ r.toInt < v4_count.toInt) ∧ (r.toInt = faF f4_years f4_slips p1.toNatClampNeg v4_count.toInt.toNat)) (fun (u : Unit) => [O4 a4 r4 v4_count, (cI κ (r4 0) 8 f4_years), (cI κ (r4 1) 8 f4_slips)]) [O4 a4 r4 v4_count, (cI κ (r4 0) 8 f4_years), (cI κ (r4 1) 8 f4_slips)] sz) 0 0 (va_A [O4 a4 r4 v4_count, (cI κ (r4 0) 8 f4_years), (cI κ (r4 1) 8 f4_slips)] sz) := by
  refine ofK_i (cc := cX4_fatherOf) (maxL := 4) (own := RX4) (by decide) rfl rfl (Nat.le_of_ble_eq_true rfl) ?_
  intro p e s m args below meth c Q A ls hsz hx hb hml hts hown hK hA hAB hP hD hl ret
  have hS : va_S A s.heap s.heap [] := va_S.rf
  have hl : lv_has ls 4 [(0, .ref a4), (1, .int p1)] := hl
  have w0 := hts (.fieldLink RX4 18 "OlderSkin$Maps" "count" "I") (List.mem_of_getElem? (i := 1) rfl)
  have w1 := (fun w h => List.mem_cons_of_mem _ (List.mem_append_right _ h) : ∀ w ∈ u_ws RX4 TX4 3, w ∈ wsX4_fatherOf)
  have w2 := hts (.fieldLink RX4 9 "OlderSkin$Maps" "years" "[I") (List.mem_of_getElem? (i := 2) rfl)
  have l0 : ((-1) : Int32).toInt = -1 := by decide
  have l1 : (0 : Int32).toInt = 0 := by decide
  have l2 : (1 : Int32).toInt = 1 := by decide
  have i1 : 0 ≤ v4_count.toInt ∧ v4_count.toInt ≤ 8 := i1
  refine lv_iconst (v := (-1)) hx hb dX4_fatherOf_0 (by decide) ?_
  refine lv_istore_n (lv' := [(2, .int (-1)), (0, .ref a4), (1, .int p1)]) hx hb dX4_fatherOf_1 rfl hl (by decide) rfl (fun ls hl => ?_)
  refine lv_iconst (v := 0) hx hb dX4_fatherOf_2 (by decide) ?_
  refine lv_istore_n (lv' := [(3, .int 0), (2, .int (-1)), (0, .ref a4), (1, .int p1)]) hx hb dX4_fatherOf_3 rfl hl (by decide) rfl (fun ls hl => ?_)
  have lp4 : ∀ (n4 : Nat) (k1 : Int32) (k2 : Int32), (-1 ≤ k2.toInt ∧ k2.toInt < v4_count.toInt) → (k1.toInt ≤ v4_count.toInt) → (faF f4_years f4_slips p1.toNatClampNeg k1.toInt.toNat = k2.toInt) → (0 ≤ k1.toInt) → (v4_count.toInt - k1.toInt).toNat < n4 → ∀ (H : Heap) (locs : List Loc), va_P D vwCl [O4 a4 r4 v4_count, (cI κ (r4 0) 8 f4_years), (cI κ (r4 1) 8 f4_slips)] H → va_D A [O4 a4 r4 v4_count, (cI κ (r4 0) 8 f4_years), (cI κ (r4 1) 8 f4_slips)] → va_S A s.heap H locs → ∀ ls : Array Slot, lv_has ls 4 [(3, .int k1), (2, .int k2), (0, .ref a4), (1, .int p1)] → W p l e ({ frames := 3, cells := 0, slots := 0, locals := 67 } : Room) s m args below meth c H locs 0 0 Q (F0 m 4 ls []) := by
    intro n4
    induction n4 with
    | zero =>
      intro k1 k2 h3 h4 h5 h6 m7
      exact absurd m7 (Nat.not_lt_zero _)
    | succ n4 ih4 =>
      intro k1 k2 h3 h4 h5 h6 m7 H locs hP hD hS ls hl
      have hFA : faF f4_years f4_slips p1.toNatClampNeg k1.toInt.toNat = k2.toInt := by assumption
      have hst := fun (kz9 : Int32) (hz9 : kz9.toInt = k1.toInt + 1) => faF_step (y := f4_years) (s := f4_slips) (m := p1.toNatClampNeg) (k := k1) (k' := kz9) (b := k2) (Or.inl hFA) (by omega) hz9
      refine lv_iload_n hx hb dX4_fatherOf_4 rfl (lv_at hl 0 rfl) ?_
      refine lv_aload_n hx hb dX4_fatherOf_5 rfl (lv_at hl 2 rfl) ?_
      refine va_get (D := D) (ci := 4) (v := .int v4_count) (C := RX4) (T := TX4) (N := 3) hx hb hts w1 hown hK.1 hP 0 rfl rfl 2 (by decide) w0 (fun _ h9 => h9) rfl dX4_fatherOf_6 ?_
      refine lv_icmp_ge (tgt := 49) hx hb dX4_fatherOf_9 (by decide) (fun c8 => ?_) (fun c8 => ?_)
      · have c8 := ci_le c8
        refine lv_iload_n hx hb dX4_fatherOf_49 rfl (lv_at hl 1 rfl) ?_
        have hpo : (-1 ≤ k2.toInt ∧ k2.toInt < v4_count.toInt) ∧ (k2.toInt = faF f4_years f4_slips p1.toNatClampNeg v4_count.toInt.toNat) := ⟨(by omega), (by rw [← (show k1.toInt.toNat = v4_count.toInt.toNat from by omega)]; omega)⟩
        exact ret _ _ _ _ k2 () dX4_fatherOf_50 hpo hP hD hS
      have c8 := ci_nle c8
      refine lv_aload_n hx hb dX4_fatherOf_12 rfl (lv_at hl 2 rfl) ?_
      refine va_get (D := D) (ci := 4) (v := .ref (r4 0)) (C := RX4) (T := TX4) (N := 3) hx hb hts w1 hown hK.1 hP 0 rfl rfl 0 (by decide) w2 (fun _ h9 => h9) rfl dX4_fatherOf_13 ?_
      refine lv_iload_n hx hb dX4_fatherOf_16 rfl (lv_at hl 0 rfl) ?_
      refine va_iald hx hb hK.1 hP 1 1 rfl rfl (i := k1) (ix (by omega) (by omega)) dX4_fatherOf_17 ?_
      refine lv_topi (fun x9 e10 => ?_)
      have hz1 : x9.toInt = (f4_years k1.toNatClampNeg).toInt := congrArg Int32.toInt e10
      refine lv_aload_n hx hb dX4_fatherOf_18 rfl (lv_at hl 2 rfl) ?_
      refine va_get (D := D) (ci := 4) (v := .ref (r4 0)) (C := RX4) (T := TX4) (N := 3) hx hb hts w1 hown hK.1 hP 0 rfl rfl 0 (by decide) w2 (fun _ h9 => h9) rfl dX4_fatherOf_19 ?_
      refine lv_iload_n hx hb dX4_fatherOf_22 rfl (lv_at hl 3 rfl) ?_
      refine va_iald hx hb hK.1 hP 1 1 rfl rfl (i := p1) (ix (by omega) (by omega)) dX4_fatherOf_23 ?_
      refine lv_topi (fun x11 e12 => ?_)
      have hz2 : x11.toInt = (f4_years p1.toNatClampNeg).toInt := congrArg Int32.toInt e12
      refine lv_icmp_ge (tgt := 43) hx hb dX4_fatherOf_24 (by decide) (fun c13 => ?_) (fun c13 => ?_)
      · have c13 := ci_le c13
        obtain ⟨x14, e15⟩ : ∃ y : Int32, y = k1 + 1 := ⟨_, rfl⟩
        refine lv_iinc (v := x14) (lv' := [(3, .int x14), (2, .int k2), (0, .ref a4), (1, .int p1)]) hx hb dX4_fatherOf_43 hl (k := 0) rfl (by rw [e15]; rfl) (by decide) rfl (fun ls hl => ?_)
        try have h16 : x14.toInt = k1.toInt + (1 : Int32).toInt := ci_add e15 (by omega) (by omega)
        refine lv_goto (tgt := 4) hx hb dX4_fatherOf_46 (by decide) ?_
        exact ih4 x14 k2 (by omega) (by omega) (by first | (rw [show x14.toInt.toNat = 0 from by omega]; show (-1 : Int) = _; omega) | (rw [hst x14 (by omega), if_pos (by omega)] <;> omega) | (rw [hst x14 (by omega), if_neg (by omega)] <;> omega)) (by omega) (by omega) _ _ hP hD hS _ hl
      have c13 := ci_nle c13
      refine lv_iload_n hx hb dX4_fatherOf_27 rfl (lv_at hl 1 rfl) ?_
      refine lv_if_lt (tgt := 41) hx hb dX4_fatherOf_28 (by decide) (fun c17 => ?_) (fun c17 => ?_)
      · have c17 := ci_lt c17
        refine lv_iload_n hx hb dX4_fatherOf_41 rfl (lv_at hl 0 rfl) ?_
        refine lv_istore_n (lv' := [(2, .int k1), (3, .int k1), (0, .ref a4), (1, .int p1)]) hx hb dX4_fatherOf_42 rfl hl (by decide) rfl (fun ls hl => ?_)
        obtain ⟨x18, e19⟩ : ∃ y : Int32, y = k1 + 1 := ⟨_, rfl⟩
        refine lv_iinc (v := x18) (lv' := [(3, .int x18), (2, .int k1), (0, .ref a4), (1, .int p1)]) hx hb dX4_fatherOf_43 hl (k := 1) rfl (by rw [e19]; rfl) (by decide) rfl (fun ls hl => ?_)
        try have h20 : x18.toInt = k1.toInt + (1 : Int32).toInt := ci_add e19 (by omega) (by omega)
        refine lv_goto (tgt := 4) hx hb dX4_fatherOf_46 (by decide) ?_
        exact ih4 x18 k1 (by omega) (by omega) (by first | (rw [show x18.toInt.toNat = 0 from by omega]; show (-1 : Int) = _; omega) | (rw [hst x18 (by omega), if_pos (by omega)] <;> omega) | (rw [hst x18 (by omega), if_neg (by omega)] <;> omega)) (by omega) (by omega) _ _ hP hD hS _ hl
      have c17 := ci_nlt c17
      refine lv_aload_n hx hb dX4_fatherOf_31 rfl (lv_at hl 2 rfl) ?_
      refine lv_iload_n hx hb dX4_fatherOf_32 rfl (lv_at hl 3 rfl) ?_
      refine lv_iload_n hx hb dX4_fatherOf_33 rfl (lv_at hl 0 rfl) ?_
      refine lv_iload_n hx hb dX4_fatherOf_34 rfl (lv_at hl 1 rfl) ?_
      refine kcm_i hA hAB hP hD hS [true, true, true] rfl (fun _ => rfl) (fun hPc hDc => va_runV (As := [.int p1, .int k1, .int k2]) (rest := []) ⟨hx, hb, hml, hown, hts⟩ (k_X4_isNearer l D κ β a4 r4 v4_count f4_years f4_slips H.size p1 k1 k2 i1 hf4_slips (by omega) (by omega) (by omega)) (cwV 3 hts gX4_fatherOf_X4_isNearer rfl rfl rfl (by decide +kernel) ⟨Nat.le_of_ble_eq_true rfl, Nat.le_of_ble_eq_true rfl⟩) (pk_V hK hS hAB hPc hDc 0 (ci := 4) rfl rfl rfl) rfl rfl hl.1 rfl (lv_room (Nat.le_of_ble_eq_true rfl)) dX4_fatherOf_35 ⟨Nat.le_of_ble_eq_true rfl, Nat.le_of_ble_eq_true rfl⟩) (fun x21 u22 H locs hw hPD hS => ?_)
      have h23 : (x21.toInt = 1 ∧ (apF f4_slips p1.toNatClampNeg k1.toNatClampNeg < apF f4_slips p1.toNatClampNeg k2.toNatClampNeg ∨ (apF f4_slips p1.toNatClampNeg k1.toNatClampNeg = apF f4_slips p1.toNatClampNeg k2.toNatClampNeg ∧ (f4_years k2.toNatClampNeg).toInt < (f4_years k1.toNatClampNeg).toInt))) ∨ (x21.toInt = 0 ∧ ¬ (apF f4_slips p1.toNatClampNeg k1.toNatClampNeg < apF f4_slips p1.toNatClampNeg k2.toNatClampNeg ∨ (apF f4_slips p1.toNatClampNeg k1.toNatClampNeg = apF f4_slips p1.toNatClampNeg k2.toNatClampNeg ∧ (f4_years k2.toNatClampNeg).toInt < (f4_years k1.toNatClampNeg).toInt))) := hw
      obtain ⟨hP, hD⟩ : PD D A [O4 a4 r4 v4_count, (cI κ (r4 0) 8 f4_years), (cI κ (r4 1) 8 f4_slips)] H := hPD
      refine lv_if_eq (tgt := 43) hx hb dX4_fatherOf_38 (by decide) (fun c24 => ?_) (fun c24 => ?_)
      · have c24 := ci_eq c24
        obtain ⟨x25, e26⟩ : ∃ y : Int32, y = k1 + 1 := ⟨_, rfl⟩
        refine lv_iinc (v := x25) (lv' := [(3, .int x25), (2, .int k2), (0, .ref a4), (1, .int p1)]) hx hb dX4_fatherOf_43 hl (k := 0) rfl (by rw [e26]; rfl) (by decide) rfl (fun ls hl => ?_)
        try have h27 : x25.toInt = k1.toInt + (1 : Int32).toInt := ci_add e26 (by omega) (by omega)
        refine lv_goto (tgt := 4) hx hb dX4_fatherOf_46 (by decide) ?_
        exact ih4 x25 k2 (by omega) (by omega) (by first | (rw [show x25.toInt.toNat = 0 from by omega]; show (-1 : Int) = _; omega) | (rw [hst x25 (by omega), if_pos (by omega)] <;> omega) | (rw [hst x25 (by omega), if_neg (by omega)] <;> omega)) (by omega) (by omega) _ _ hP hD hS _ hl
      have c24 := ci_ne c24
      refine lv_iload_n hx hb dX4_fatherOf_41 rfl (lv_at hl 0 rfl) ?_
      refine lv_istore_n (lv' := [(2, .int k1), (3, .int k1), (0, .ref a4), (1, .int p1)]) hx hb dX4_fatherOf_42 rfl hl (by decide) rfl (fun ls hl => ?_)
      obtain ⟨x28, e29⟩ : ∃ y : Int32, y = k1 + 1 := ⟨_, rfl⟩
      refine lv_iinc (v := x28) (lv' := [(3, .int x28), (2, .int k1), (0, .ref a4), (1, .int p1)]) hx hb dX4_fatherOf_43 hl (k := 1) rfl (by rw [e29]; rfl) (by decide) rfl (fun ls hl => ?_)
      try have h30 : x28.toInt = k1.toInt + (1 : Int32).toInt := ci_add e29 (by omega) (by omega)
      refine lv_goto (tgt := 4) hx hb dX4_fatherOf_46 (by decide) ?_
      exact ih4 x28 k1 (by omega) (by omega) (by first | (rw [show x28.toInt.toNat = 0 from by omega]; show (-1 : Int) = _; omega) | (rw [hst x28 (by omega), if_pos (by omega)] <;> omega) | (rw [hst x28 (by omega), if_neg (by omega)] <;> omega)) (by omega) (by omega) _ _ hP hD hS _ hl
  exact lp4 ((v4_count.toInt - (0 : Int32).toInt).toNat + 1) 0 (-1) (by omega) (by omega) (by first | (rw [show (0 : Int32).toInt.toNat = 0 from by omega]; show (-1 : Int) = _; omega) | (rw [hst (0 : Int32) (by omega), if_pos (by omega)] <;> omega) | (rw [hst (0 : Int32) (by omega), if_neg (by omega)] <;> omega)) (by omega) (by omega) _ _ hP hD hS _ hl
set_option maxHeartbeats 4000000 in
set_option maxRecDepth 100000 in
theorem k_X4_leadsTo (l : Launch) (D : va_G) (κ : Nat → ClassId) (β : Nat) (a4 : Nat) (r4 : Nat → Nat) (v4_count : Int32) (f4_years : Nat → Int32) (f4_slips : Nat → Int32) (sz : Nat) (p1 : Int32) (p2 : Int32) (i1 : Rg 0 8 v4_count) (hf4_slips : ∀ j : Nat, 0 ≤ (f4_slips j).toInt ∧ (f4_slips j).toInt ≤ 65535) (i2 : 0 ≤ p1.toInt ∧ p1.toInt ≤ 7) : Met l yX4_leadsTo wsX4_leadsTo ({ frames := 4, cells := 0, slots := 0, locals := 90 } : Room) (PcK D κ β [O4 a4 r4 v4_count, (cI κ (r4 0) 8 f4_years), (cI κ (r4 1) 8 f4_slips)] sz [.ref a4, .int p1, .int p2]) (QiK D (fun (r : Int32) (u : Unit) => (r.toInt = 1 ∧ rcF f4_years f4_slips v4_count.toInt.toNat p2.toInt v4_count.toInt.toNat (faF f4_years f4_slips p1.toNatClampNeg v4_count.toInt.toNat) = 1) ∨ (r.toInt = 0 ∧ rcF f4_years f4_slips v4_count.toInt.toNat p2.toInt v4_count.toInt.toNat (faF f4_years f4_slips p1.toNatClampNeg v4_count.toInt.toNat) = 0)) (fun (u : Unit) => [O4 a4 r4 v4_count, (cI κ (r4 0) 8 f4_years), (cI κ (r4 1) 8 f4_slips)]) [O4 a4 r4 v4_count, (cI κ (r4 0) 8 f4_years), (cI κ (r4 1) 8 f4_slips)] sz) 0 0 (va_A [O4 a4 r4 v4_count, (cI κ (r4 0) 8 f4_years), (cI κ (r4 1) 8 f4_slips)] sz) := by
  refine ofK_z (cc := cX4_leadsTo) (maxL := 5) (own := RX4) (by decide) rfl rfl (Nat.le_of_ble_eq_true rfl) ?_
  intro p e s m args below meth c Q A ls hsz hx hb hml hts hown hK hA hAB hP hD hl ret
  have hS : va_S A s.heap s.heap [] := va_S.rf
  have hl : lv_has ls 5 [(0, .ref a4), (1, .int p1), (2, .int p2)] := hl
  have w0 := hts (.fieldLink RX4 18 "OlderSkin$Maps" "count" "I") (List.mem_of_getElem? (i := 1) rfl)
  have w1 := (fun w h => List.mem_cons_of_mem _ (List.mem_append_right _ h) : ∀ w ∈ u_ws RX4 TX4 3, w ∈ wsX4_leadsTo)
  have l0 : (0 : Int32).toInt = 0 := by decide
  have l1 : (1 : Int32).toInt = 1 := by decide
  have i1 : 0 ≤ v4_count.toInt ∧ v4_count.toInt ≤ 8 := i1
  refine lv_aload_n hx hb dX4_leadsTo_0 rfl (lv_at hl 0 rfl) ?_
  refine lv_iload_n hx hb dX4_leadsTo_1 rfl (lv_at hl 1 rfl) ?_
  refine kcm_i hA hAB hP hD hS [true, true, true] rfl (fun _ => rfl) (fun hPc hDc => va_runV (As := [.int p1]) (rest := []) ⟨hx, hb, hml, hown, hts⟩ (k_X4_fatherOf l D κ β a4 r4 v4_count f4_years f4_slips s.heap.size p1 i1 hf4_slips (by omega)) (cwV 1 hts gX4_leadsTo_X4_fatherOf rfl rfl rfl (by decide +kernel) ⟨Nat.le_of_ble_eq_true rfl, Nat.le_of_ble_eq_true rfl⟩) (pk_V hK hS hAB hPc hDc 0 (ci := 4) rfl rfl rfl) rfl rfl hl.1 rfl (lv_room (Nat.le_of_ble_eq_true rfl)) dX4_leadsTo_2 ⟨Nat.le_of_ble_eq_true rfl, Nat.le_of_ble_eq_true rfl⟩) (fun x1 u2 H locs hw hPD hS => ?_)
  obtain ⟨h3, h4⟩ : (-1 ≤ x1.toInt ∧ x1.toInt < v4_count.toInt) ∧ (x1.toInt = faF f4_years f4_slips p1.toNatClampNeg v4_count.toInt.toNat) := hw
  obtain ⟨hP, hD⟩ : PD D A [O4 a4 r4 v4_count, (cI κ (r4 0) 8 f4_years), (cI κ (r4 1) 8 f4_slips)] H := hPD
  have hf0 : x1.toInt = faF f4_years f4_slips p1.toNatClampNeg v4_count.toInt.toNat := by assumption
  refine lv_istore_n (lv' := [(3, .int x1), (0, .ref a4), (1, .int p1), (2, .int p2)]) hx hb dX4_leadsTo_5 rfl hl (by decide) rfl (fun ls hl => ?_)
  refine lv_iconst (v := 0) hx hb dX4_leadsTo_6 (by decide) ?_
  refine lv_istore (lv' := [(4, .int 0), (3, .int x1), (0, .ref a4), (1, .int p1), (2, .int p2)]) hx hb dX4_leadsTo_7 hl (by decide) rfl (fun ls hl => ?_)
  have lp9 : ∀ (n9 : Nat) (k5 : Int32) (k6 : Int32), (-1 ≤ k6.toInt ∧ k6.toInt < v4_count.toInt) → (k5.toInt ≤ v4_count.toInt) → (rcF f4_years f4_slips v4_count.toInt.toNat p2.toInt (v4_count.toInt - k5.toInt).toNat k6.toInt = rcF f4_years f4_slips v4_count.toInt.toNat p2.toInt v4_count.toInt.toNat (faF f4_years f4_slips p1.toNatClampNeg v4_count.toInt.toNat)) → (0 ≤ k5.toInt) → (v4_count.toInt - k5.toInt).toNat < n9 → ∀ (H : Heap) (locs : List Loc), va_P D vwCl [O4 a4 r4 v4_count, (cI κ (r4 0) 8 f4_years), (cI κ (r4 1) 8 f4_slips)] H → va_D A [O4 a4 r4 v4_count, (cI κ (r4 0) 8 f4_years), (cI κ (r4 1) 8 f4_slips)] → va_S A s.heap H locs → ∀ ls : Array Slot, lv_has ls 5 [(4, .int k5), (3, .int k6), (0, .ref a4), (1, .int p1), (2, .int p2)] → W p l e ({ frames := 4, cells := 0, slots := 0, locals := 90 } : Room) s m args below meth c H locs 0 0 Q (F0 m 9 ls []) := by
    intro n9
    induction n9 with
    | zero =>
      intro k5 k6 h7 h8 h9 h10 m11
      exact absurd m11 (Nat.not_lt_zero _)
    | succ n9 ih9 =>
      intro k5 k6 h7 h8 h9 h10 m11 H locs hP hD hS ls hl
      have hRC : rcF f4_years f4_slips v4_count.toInt.toNat p2.toInt (v4_count.toInt - k5.toInt).toNat k6.toInt = rcF f4_years f4_slips v4_count.toInt.toNat p2.toInt v4_count.toInt.toNat (faF f4_years f4_slips p1.toNatClampNeg v4_count.toInt.toNat) := by assumption
      refine lv_iload hx hb dX4_leadsTo_9 (lv_at hl 0 rfl) ?_
      refine lv_aload_n hx hb dX4_leadsTo_11 rfl (lv_at hl 2 rfl) ?_
      refine va_get (D := D) (ci := 4) (v := .int v4_count) (C := RX4) (T := TX4) (N := 3) hx hb hts w1 hown hK.1 hP 0 rfl rfl 2 (by decide) w0 (fun _ h9 => h9) rfl dX4_leadsTo_12 ?_
      refine lv_icmp_ge (tgt := 41) hx hb dX4_leadsTo_15 (by decide) (fun c12 => ?_) (fun c12 => ?_)
      · have c12 := ci_le c12
        refine lv_iconst (v := 0) hx hb dX4_leadsTo_41 (by decide) ?_
        have hpo : ((0 : Int32).toInt = 1 ∧ rcF f4_years f4_slips v4_count.toInt.toNat p2.toInt v4_count.toInt.toNat (faF f4_years f4_slips p1.toNatClampNeg v4_count.toInt.toNat) = 1) ∨ ((0 : Int32).toInt = 0 ∧ rcF f4_years f4_slips v4_count.toInt.toNat p2.toInt v4_count.toInt.toNat (faF f4_years f4_slips p1.toNatClampNeg v4_count.toInt.toNat) = 0) := (Or.inr ⟨by omega, by rw [← hRC]; first | exact rc_neg (by omega) _ | (rw [show (v4_count.toInt - k5.toInt).toNat = 0 from by omega]; rfl)⟩)
        exact ret _ _ _ _ 0 () dX4_leadsTo_42 (by omega) hpo hP hD hS
      have c12 := ci_nle c12
      refine lv_iload_n hx hb dX4_leadsTo_18 rfl (lv_at hl 1 rfl) ?_
      refine lv_if_lt (tgt := 41) hx hb dX4_leadsTo_19 (by decide) (fun c13 => ?_) (fun c13 => ?_)
      · have c13 := ci_lt c13
        refine lv_iconst (v := 0) hx hb dX4_leadsTo_41 (by decide) ?_
        have hpo : ((0 : Int32).toInt = 1 ∧ rcF f4_years f4_slips v4_count.toInt.toNat p2.toInt v4_count.toInt.toNat (faF f4_years f4_slips p1.toNatClampNeg v4_count.toInt.toNat) = 1) ∨ ((0 : Int32).toInt = 0 ∧ rcF f4_years f4_slips v4_count.toInt.toNat p2.toInt v4_count.toInt.toNat (faF f4_years f4_slips p1.toNatClampNeg v4_count.toInt.toNat) = 0) := (Or.inr ⟨by omega, by rw [← hRC]; first | exact rc_neg (by omega) _ | (rw [show (v4_count.toInt - k5.toInt).toNat = 0 from by omega]; rfl)⟩)
        exact ret _ _ _ _ 0 () dX4_leadsTo_42 (by omega) hpo hP hD hS
      have c13 := ci_nlt c13
      refine lv_iload_n hx hb dX4_leadsTo_22 rfl (lv_at hl 1 rfl) ?_
      refine lv_iload_n hx hb dX4_leadsTo_23 rfl (lv_at hl 4 rfl) ?_
      refine lv_icmp_ne (tgt := 29) hx hb dX4_leadsTo_24 (by decide) (fun c14 => ?_) (fun c14 => ?_)
      · have c14 := ci_ne c14
        refine lv_aload_n hx hb dX4_leadsTo_29 rfl (lv_at hl 2 rfl) ?_
        refine lv_iload_n hx hb dX4_leadsTo_30 rfl (lv_at hl 1 rfl) ?_
        refine kcm_i hA hAB hP hD hS [true, true, true] rfl (fun _ => rfl) (fun hPc hDc => va_runV (As := [.int k6]) (rest := []) ⟨hx, hb, hml, hown, hts⟩ (k_X4_fatherOf l D κ β a4 r4 v4_count f4_years f4_slips H.size k6 i1 hf4_slips (by omega)) (cwV 1 hts gX4_leadsTo_X4_fatherOf rfl rfl rfl (by decide +kernel) ⟨Nat.le_of_ble_eq_true rfl, Nat.le_of_ble_eq_true rfl⟩) (pk_V hK hS hAB hPc hDc 0 (ci := 4) rfl rfl rfl) rfl rfl hl.1 rfl (lv_room (Nat.le_of_ble_eq_true rfl)) dX4_leadsTo_31 ⟨Nat.le_of_ble_eq_true rfl, Nat.le_of_ble_eq_true rfl⟩) (fun x15 u16 H locs hw hPD hS => ?_)
        obtain ⟨h17, h18⟩ : (-1 ≤ x15.toInt ∧ x15.toInt < v4_count.toInt) ∧ (x15.toInt = faF f4_years f4_slips k6.toNatClampNeg v4_count.toInt.toNat) := hw
        obtain ⟨hP, hD⟩ : PD D A [O4 a4 r4 v4_count, (cI κ (r4 0) 8 f4_years), (cI κ (r4 1) 8 f4_slips)] H := hPD
        have hf1 : x15.toInt = faF f4_years f4_slips k6.toNatClampNeg v4_count.toInt.toNat := by assumption
        have hgo : rcF f4_years f4_slips v4_count.toInt.toNat p2.toInt (v4_count.toInt - k5.toInt).toNat k6.toInt = rcF f4_years f4_slips v4_count.toInt.toNat p2.toInt (v4_count.toInt - k5.toInt - 1).toNat (faF f4_years f4_slips k6.toNatClampNeg v4_count.toInt.toNat) := by rw [show (v4_count.toInt - k5.toInt).toNat = (v4_count.toInt - k5.toInt - 1).toNat + 1 from by omega, rc_go (by omega) (by omega)]; rfl
        refine lv_istore_n (lv' := [(3, .int x15), (4, .int k5), (0, .ref a4), (1, .int p1), (2, .int p2)]) hx hb dX4_leadsTo_34 rfl hl (by decide) rfl (fun ls hl => ?_)
        obtain ⟨x19, e20⟩ : ∃ y : Int32, y = k5 + 1 := ⟨_, rfl⟩
        refine lv_iinc (v := x19) (lv' := [(4, .int x19), (3, .int x15), (0, .ref a4), (1, .int p1), (2, .int p2)]) hx hb dX4_leadsTo_35 hl (k := 1) rfl (by rw [e20]; rfl) (by decide) rfl (fun ls hl => ?_)
        try have h21 : x19.toInt = k5.toInt + (1 : Int32).toInt := ci_add e20 (by omega) (by omega)
        refine lv_goto (tgt := 9) hx hb dX4_leadsTo_38 (by decide) ?_
        exact ih9 x19 x15 (by omega) (by omega) (by first | (rw [← hf0, show v4_count.toInt - x19.toInt = v4_count.toInt from by omega]) | (rw [← hRC, hgo, ← hf1]; congr 1; omega)) (by omega) (by omega) _ _ hP hD hS _ hl
      have c14 := ci_eq c14
      refine lv_iconst (v := 1) hx hb dX4_leadsTo_27 (by decide) ?_
      have hpo : ((1 : Int32).toInt = 1 ∧ rcF f4_years f4_slips v4_count.toInt.toNat p2.toInt v4_count.toInt.toNat (faF f4_years f4_slips p1.toNatClampNeg v4_count.toInt.toNat) = 1) ∨ ((1 : Int32).toInt = 0 ∧ rcF f4_years f4_slips v4_count.toInt.toNat p2.toInt v4_count.toInt.toNat (faF f4_years f4_slips p1.toNatClampNeg v4_count.toInt.toNat) = 0) := (Or.inl ⟨by omega, by rw [← hRC]; exact rc_hit (by omega) (by omega) (by omega)⟩)
      exact ret _ _ _ _ 1 () dX4_leadsTo_28 (by omega) hpo hP hD hS
  exact lp9 ((v4_count.toInt - (0 : Int32).toInt).toNat + 1) 0 x1 (by omega) (by omega) (by first | (rw [← hf0, show v4_count.toInt - (0 : Int32).toInt = v4_count.toInt from by omega]) | (rw [← hRC, hgo, ← hf1]; congr 1; omega)) (by omega) (by omega) _ _ hP hD hS _ hl
set_option maxHeartbeats 4000000 in
set_option maxRecDepth 100000 in
theorem k_X4_tree (l : Launch) (D : va_G) (κ : Nat → ClassId) (β : Nat) (a4 : Nat) (r4 : Nat → Nat) (v4_count : Int32) (f4_years : Nat → Int32) (f4_slips : Nat → Int32) (sz : Nat) (i1 : Rg 0 8 v4_count) (hf4_slips : ∀ j : Nat, 0 ≤ (f4_slips j).toInt ∧ (f4_slips j).toInt ≤ 65535) : Met l yX4_tree wsX4_tree ({ frames := 4, cells := 0, slots := 0, locals := 90 } : Room) (PcK D κ β [O4 a4 r4 v4_count, (cI κ (r4 0) 8 f4_years), (cI κ (r4 1) 8 f4_slips)] sz [.ref a4]) (QiK D (fun (r : Int32) (u : Unit) => r.toInt = trF f4_years f4_slips v4_count.toInt.toNat v4_count.toInt.toNat) (fun (u : Unit) => [O4 a4 r4 v4_count, (cI κ (r4 0) 8 f4_years), (cI κ (r4 1) 8 f4_slips)]) [O4 a4 r4 v4_count, (cI κ (r4 0) 8 f4_years), (cI κ (r4 1) 8 f4_slips)] sz) 0 0 (va_A [O4 a4 r4 v4_count, (cI κ (r4 0) 8 f4_years), (cI κ (r4 1) 8 f4_slips)] sz) := by
  refine ofK_i (cc := cX4_tree) (maxL := 4) (own := RX4) (by decide) rfl rfl (Nat.le_of_ble_eq_true rfl) ?_
  intro p e s m args below meth c Q A ls hsz hx hb hml hts hown hK hA hAB hP hD hl ret
  have hS : va_S A s.heap s.heap [] := va_S.rf
  have hl : lv_has ls 4 [(0, .ref a4)] := hl
  have w0 := hts (.fieldLink RX4 18 "OlderSkin$Maps" "count" "I") (List.mem_of_getElem? (i := 1) rfl)
  have w1 := (fun w h => List.mem_cons_of_mem _ (List.mem_append_right _ h) : ∀ w ∈ u_ws RX4 TX4 3, w ∈ wsX4_tree)
  have l0 : (0 : Int32).toInt = 0 := by decide
  have l1 : (1 : Int32).toInt = 1 := by decide
  have i1 : 0 ≤ v4_count.toInt ∧ v4_count.toInt ≤ 8 := i1
  refine lv_iconst (v := 0) hx hb dX4_tree_0 (by decide) ?_
  refine lv_istore_n (lv' := [(1, .int 0), (0, .ref a4)]) hx hb dX4_tree_1 rfl hl (by decide) rfl (fun ls hl => ?_)
  refine lv_iconst (v := 0) hx hb dX4_tree_2 (by decide) ?_
  refine lv_istore_n (lv' := [(2, .int 0), (1, .int 0), (0, .ref a4)]) hx hb dX4_tree_3 rfl hl (by decide) rfl (fun ls hl => ?_)
  have lp4 : ∀ (n4 : Nat) (k1 : Int32) (k2 : Int32), (k1.toInt ≤ v4_count.toInt) → (0 ≤ k2.toInt ∧ k2.toInt ≤ 16 * k1.toInt) → (k2.toInt = trF f4_years f4_slips v4_count.toInt.toNat k1.toInt.toNat) → (0 ≤ k1.toInt) → (v4_count.toInt - k1.toInt).toNat < n4 → ∀ (H : Heap) (locs : List Loc), va_P D vwCl [O4 a4 r4 v4_count, (cI κ (r4 0) 8 f4_years), (cI κ (r4 1) 8 f4_slips)] H → va_D A [O4 a4 r4 v4_count, (cI κ (r4 0) 8 f4_years), (cI κ (r4 1) 8 f4_slips)] → va_S A s.heap H locs → ∀ ls : Array Slot, lv_has ls 4 [(2, .int k1), (1, .int k2), (0, .ref a4)] → W p l e ({ frames := 4, cells := 0, slots := 0, locals := 90 } : Room) s m args below meth c H locs 0 0 Q (F0 m 4 ls []) := by
    intro n4
    induction n4 with
    | zero =>
      intro k1 k2 h3 h4 h5 h6 m7
      exact absurd m7 (Nat.not_lt_zero _)
    | succ n4 ih4 =>
      intro k1 k2 h3 h4 h5 h6 m7 H locs hP hD hS ls hl
      have hTR : k2.toInt = trF f4_years f4_slips v4_count.toInt.toNat k1.toInt.toNat := by assumption
      have hst := fun (kz9 : Int32) (hz9 : kz9.toInt = k1.toInt + 1) => trF_step (y := f4_years) (s := f4_slips) (n := v4_count.toInt.toNat) (k := k1) (k' := kz9) (by omega) hz9
      refine lv_iload_n hx hb dX4_tree_4 rfl (lv_at hl 0 rfl) ?_
      refine lv_aload_n hx hb dX4_tree_5 rfl (lv_at hl 2 rfl) ?_
      refine va_get (D := D) (ci := 4) (v := .int v4_count) (C := RX4) (T := TX4) (N := 3) hx hb hts w1 hown hK.1 hP 0 rfl rfl 2 (by decide) w0 (fun _ h9 => h9) rfl dX4_tree_6 ?_
      refine lv_icmp_ge (tgt := 41) hx hb dX4_tree_9 (by decide) (fun c8 => ?_) (fun c8 => ?_)
      · have c8 := ci_le c8
        refine lv_iload_n hx hb dX4_tree_41 rfl (lv_at hl 1 rfl) ?_
        have hpo : k2.toInt = trF f4_years f4_slips v4_count.toInt.toNat v4_count.toInt.toNat := (by have h9 := hTR; rw [show k1.toInt.toNat = v4_count.toInt.toNat from by omega] at h9; exact h9)
        exact ret _ _ _ _ k2 () dX4_tree_42 hpo hP hD hS
      have c8 := ci_nle c8
      refine lv_aload_n hx hb dX4_tree_12 rfl (lv_at hl 2 rfl) ?_
      refine lv_iload_n hx hb dX4_tree_13 rfl (lv_at hl 0 rfl) ?_
      refine kcm_i hA hAB hP hD hS [true, true, true] rfl (fun _ => rfl) (fun hPc hDc => va_runV (As := [.int k1]) (rest := []) ⟨hx, hb, hml, hown, hts⟩ (k_X4_fatherOf l D κ β a4 r4 v4_count f4_years f4_slips H.size k1 i1 hf4_slips (by omega)) (cwV 1 hts gX4_tree_X4_fatherOf rfl rfl rfl (by decide +kernel) ⟨Nat.le_of_ble_eq_true rfl, Nat.le_of_ble_eq_true rfl⟩) (pk_V hK hS hAB hPc hDc 0 (ci := 4) rfl rfl rfl) rfl rfl hl.1 rfl (lv_room (Nat.le_of_ble_eq_true rfl)) dX4_tree_14 ⟨Nat.le_of_ble_eq_true rfl, Nat.le_of_ble_eq_true rfl⟩) (fun x9 u10 H locs hw hPD hS => ?_)
      obtain ⟨h11, h12⟩ : (-1 ≤ x9.toInt ∧ x9.toInt < v4_count.toInt) ∧ (x9.toInt = faF f4_years f4_slips k1.toNatClampNeg v4_count.toInt.toNat) := hw
      obtain ⟨hP, hD⟩ : PD D A [O4 a4 r4 v4_count, (cI κ (r4 0) 8 f4_years), (cI κ (r4 1) 8 f4_slips)] H := hPD
      have hfx : x9.toInt = faF f4_years f4_slips k1.toNatClampNeg v4_count.toInt.toNat := by assumption
      refine lv_istore_n (lv' := [(3, .int x9), (2, .int k1), (1, .int k2), (0, .ref a4)]) hx hb dX4_tree_17 rfl hl (by decide) rfl (fun ls hl => ?_)
      refine lv_iload_n hx hb dX4_tree_18 rfl (lv_at hl 2 rfl) ?_
      refine lv_iload_n hx hb dX4_tree_19 rfl (lv_at hl 0 rfl) ?_
      refine lv_if_ge (tgt := 27) hx hb dX4_tree_20 (by decide) (fun c13 => ?_) (fun c13 => ?_)
      · have c13 := ci_le c13
        refine lv_aload_n hx hb dX4_tree_27 rfl (lv_at hl 3 rfl) ?_
        refine lv_iload_n hx hb dX4_tree_28 rfl (lv_at hl 1 rfl) ?_
        refine lv_iload_n hx hb dX4_tree_29 rfl (lv_at hl 0 rfl) ?_
        refine kcm_i hA hAB hP hD hS [true, false, true] rfl (fun _ => rfl) (fun hPc hDc => va_runV (As := [.int k1, .int x9]) (rest := [.int k2]) ⟨hx, hb, hml, hown, hts⟩ (k_X4_apart l D κ β a4 r4 v4_count f4_slips H.size k1 x9 i1 hf4_slips (by omega) (by omega)) (cwV 2 hts gX4_tree_X4_apart rfl rfl rfl (by decide +kernel) ⟨Nat.le_of_ble_eq_true rfl, Nat.le_of_ble_eq_true rfl⟩) (pk_V hK hS hAB hPc hDc 0 (ci := 4) rfl rfl rfl) rfl rfl hl.1 rfl (lv_room (Nat.le_of_ble_eq_true rfl)) dX4_tree_30 ⟨Nat.le_of_ble_eq_true rfl, Nat.le_of_ble_eq_true rfl⟩) (fun x14 u15 H locs hw hPD hS => ?_)
        have h16 : x14.toInt = apF f4_slips k1.toNatClampNeg x9.toNatClampNeg := hw
        obtain ⟨hP, hD⟩ : PD D A [O4 a4 r4 v4_count, (cI κ (r4 0) 8 f4_years), (cI κ (r4 1) 8 f4_slips)] H := hPD
        have hfn : (faF f4_years f4_slips k1.toNatClampNeg v4_count.toInt.toNat).toNat = x9.toNatClampNeg := by rw [← hfx]; rfl
        have hfa : x14.toInt = apF f4_slips k1.toNatClampNeg (faF f4_years f4_slips k1.toNatClampNeg v4_count.toInt.toNat).toNat := by rw [hfn]; assumption
        have hap := apF_rng f4_slips k1.toNatClampNeg (faF f4_years f4_slips k1.toNatClampNeg v4_count.toInt.toNat).toNat
        refine lv_iadd hx hb dX4_tree_33 ?_
        refine lv_topi (fun x17 e18 => ?_)
        try have h19 : x17.toInt = k2.toInt + x14.toInt := ci_add e18 (by omega) (by omega)
        refine lv_istore_n (lv' := [(1, .int x17), (3, .int x9), (2, .int k1), (0, .ref a4)]) hx hb dX4_tree_34 rfl hl (by decide) rfl (fun ls hl => ?_)
        obtain ⟨x20, e21⟩ : ∃ y : Int32, y = k1 + 1 := ⟨_, rfl⟩
        refine lv_iinc (v := x20) (lv' := [(2, .int x20), (1, .int x17), (3, .int x9), (0, .ref a4)]) hx hb dX4_tree_35 hl (k := 2) rfl (by rw [e21]; rfl) (by decide) rfl (fun ls hl => ?_)
        try have h22 : x20.toInt = k1.toInt + (1 : Int32).toInt := ci_add e21 (by omega) (by omega)
        refine lv_goto (tgt := 4) hx hb dX4_tree_38 (by decide) ?_
        exact ih4 x20 x17 (by omega) (by omega) (by first | (rw [show x20.toInt.toNat = 0 from by omega]; show _ = (0 : Int); omega) | (rw [hst x20 (by omega), if_pos (by omega)]; omega) | (rw [hst x20 (by omega), if_neg (by omega)]; omega)) (by omega) (by omega) _ _ hP hD hS _ (lv_sub hl [0, 1, 3] rfl)
      have c13 := ci_nle c13
      refine lv_iconst (v := 0) hx hb dX4_tree_23 (by decide) ?_
      refine lv_goto (tgt := 33) hx hb dX4_tree_24 (by decide) ?_
      refine lv_iadd hx hb dX4_tree_33 ?_
      refine lv_topi (fun x23 e24 => ?_)
      try have h25 : x23.toInt = k2.toInt + (0 : Int32).toInt := ci_add e24 (by omega) (by omega)
      refine lv_istore_n (lv' := [(1, .int x23), (3, .int x9), (2, .int k1), (0, .ref a4)]) hx hb dX4_tree_34 rfl hl (by decide) rfl (fun ls hl => ?_)
      obtain ⟨x26, e27⟩ : ∃ y : Int32, y = k1 + 1 := ⟨_, rfl⟩
      refine lv_iinc (v := x26) (lv' := [(2, .int x26), (1, .int x23), (3, .int x9), (0, .ref a4)]) hx hb dX4_tree_35 hl (k := 2) rfl (by rw [e27]; rfl) (by decide) rfl (fun ls hl => ?_)
      try have h28 : x26.toInt = k1.toInt + (1 : Int32).toInt := ci_add e27 (by omega) (by omega)
      refine lv_goto (tgt := 4) hx hb dX4_tree_38 (by decide) ?_
      exact ih4 x26 x23 (by omega) (by omega) (by first | (rw [show x26.toInt.toNat = 0 from by omega]; show _ = (0 : Int); omega) | (rw [hst x26 (by omega), if_pos (by omega)]; omega) | (rw [hst x26 (by omega), if_neg (by omega)]; omega)) (by omega) (by omega) _ _ hP hD hS _ (lv_sub hl [0, 1, 3] rfl)
  exact lp4 ((v4_count.toInt - (0 : Int32).toInt).toNat + 1) 0 0 (by omega) (by omega) (by first | (rw [show (0 : Int32).toInt.toNat = 0 from by omega]; show _ = (0 : Int); omega) | (rw [hst (0 : Int32) (by omega), if_pos (by omega)]; omega) | (rw [hst (0 : Int32) (by omega), if_neg (by omega)]; omega)) (by omega) (by omega) _ _ hP hD hS _ hl
set_option maxHeartbeats 4000000 in
set_option maxRecDepth 100000 in
theorem k_X4_sharedSlips (l : Launch) (D : va_G) (κ : Nat → ClassId) (β : Nat) (a4 : Nat) (r4 : Nat → Nat) (v4_count : Int32) (f4_slips : Nat → Int32) (sz : Nat) (p1 : Int32) (p2 : Int32) (i1 : Rg 0 8 v4_count) (hf4_slips : ∀ j : Nat, 0 ≤ (f4_slips j).toInt ∧ (f4_slips j).toInt ≤ 65535) (i2 : 0 ≤ p1.toInt ∧ p1.toInt ≤ 7) (i3 : 0 ≤ p2.toInt ∧ p2.toInt ≤ 7) : Met l yX4_sharedSlips wsX4_sharedSlips ({ frames := 0, cells := 0, slots := 0, locals := 0 } : Room) (PcK D κ β [O4 a4 r4 v4_count, (cI κ (r4 1) 8 f4_slips)] sz [.ref a4, .int p1, .int p2]) (QiK D (fun (r : Int32) (u : Unit) => r = shF f4_slips p1 p2 v4_count.toInt.toNat) (fun (u : Unit) => [O4 a4 r4 v4_count, (cI κ (r4 1) 8 f4_slips)]) [O4 a4 r4 v4_count, (cI κ (r4 1) 8 f4_slips)] sz) 0 0 (va_A [O4 a4 r4 v4_count, (cI κ (r4 1) 8 f4_slips)] sz) := by
  refine ofK_i (cc := cX4_sharedSlips) (maxL := 5) (own := RX4) (by decide) rfl rfl (Nat.le_of_ble_eq_true rfl) ?_
  intro p e s m args below meth c Q A ls hsz hx hb hml hts hown hK hA hAB hP hD hl ret
  have hS : va_S A s.heap s.heap [] := va_S.rf
  have hl : lv_has ls 5 [(0, .ref a4), (1, .int p1), (2, .int p2)] := hl
  have w0 := hts (.fieldLink RX4 15 "OlderSkin$Maps" "slips" "[I") (List.mem_of_getElem? (i := 1) rfl)
  have w1 := (fun w h => List.mem_cons_of_mem _ (List.mem_append_right _ h) : ∀ w ∈ u_ws RX4 TX4 3, w ∈ wsX4_sharedSlips)
  have w2 := hts (.fieldLink RX4 18 "OlderSkin$Maps" "count" "I") (List.mem_of_getElem? (i := 2) rfl)
  have l0 : (0 : Int32).toInt = 0 := by decide
  have l1 : (1 : Int32).toInt = 1 := by decide
  have l2 : ((-1) : Int32).toInt = -1 := by decide
  have i1 : 0 ≤ v4_count.toInt ∧ v4_count.toInt ≤ 8 := i1
  refine lv_aload_n hx hb dX4_sharedSlips_0 rfl (lv_at hl 0 rfl) ?_
  refine va_get (D := D) (ci := 4) (v := .ref (r4 1)) (C := RX4) (T := TX4) (N := 3) hx hb hts w1 hown hK.1 hP 0 rfl rfl 1 (by decide) w0 (fun _ h9 => h9) rfl dX4_sharedSlips_1 ?_
  refine lv_iload_n hx hb dX4_sharedSlips_4 rfl (lv_at hl 1 rfl) ?_
  refine va_iald hx hb hK.1 hP 1 1 rfl rfl (i := p1) (ix (by omega) (by omega)) dX4_sharedSlips_5 ?_
  refine lv_topi (fun x1 e2 => ?_)
  have h3 : 0 ≤ x1.toInt ∧ x1.toInt ≤ 65535 := by rw [e2]; exact hf4_slips _
  have hy1 : x1 = f4_slips p1.toNatClampNeg := e2
  refine lv_aload_n hx hb dX4_sharedSlips_6 rfl (lv_at hl 0 rfl) ?_
  refine va_get (D := D) (ci := 4) (v := .ref (r4 1)) (C := RX4) (T := TX4) (N := 3) hx hb hts w1 hown hK.1 hP 0 rfl rfl 1 (by decide) w0 (fun _ h9 => h9) rfl dX4_sharedSlips_7 ?_
  refine lv_iload_n hx hb dX4_sharedSlips_10 rfl (lv_at hl 2 rfl) ?_
  refine va_iald hx hb hK.1 hP 1 1 rfl rfl (i := p2) (ix (by omega) (by omega)) dX4_sharedSlips_11 ?_
  refine lv_topi (fun x4 e5 => ?_)
  have h6 : 0 ≤ x4.toInt ∧ x4.toInt ≤ 65535 := by rw [e5]; exact hf4_slips _
  have hy2 : x4 = f4_slips p2.toNatClampNeg := e5
  refine lv_iand hx hb dX4_sharedSlips_12 ?_
  refine lv_topi (fun x7 e8 => ?_)
  have hs0 : x7 = f4_slips p1.toNatClampNeg &&& f4_slips p2.toNatClampNeg := by rw [e8, hy1, hy2]
  refine lv_istore_n (lv' := [(3, .int x7), (0, .ref a4), (1, .int p1), (2, .int p2)]) hx hb dX4_sharedSlips_13 rfl hl (by decide) rfl (fun ls hl => ?_)
  refine lv_iconst (v := 0) hx hb dX4_sharedSlips_14 (by decide) ?_
  refine lv_istore (lv' := [(4, .int 0), (3, .int x7), (0, .ref a4), (1, .int p1), (2, .int p2)]) hx hb dX4_sharedSlips_15 hl (by decide) rfl (fun ls hl => ?_)
  have lp17 : ∀ (n17 : Nat) (k9 : Int32) (k10 : Int32), (k9.toInt ≤ v4_count.toInt) → (k10 = shF f4_slips p1 p2 k9.toInt.toNat) → (0 ≤ k9.toInt) → (v4_count.toInt - k9.toInt).toNat < n17 → ∀ (H : Heap) (locs : List Loc), va_P D vwCl [O4 a4 r4 v4_count, (cI κ (r4 1) 8 f4_slips)] H → va_D A [O4 a4 r4 v4_count, (cI κ (r4 1) 8 f4_slips)] → va_S A s.heap H locs → ∀ ls : Array Slot, lv_has ls 5 [(4, .int k9), (3, .int k10), (0, .ref a4), (1, .int p1), (2, .int p2)] → W p l e ({ frames := 0, cells := 0, slots := 0, locals := 0 } : Room) s m args below meth c H locs 0 0 Q (F0 m 17 ls []) := by
    intro n17
    induction n17 with
    | zero =>
      intro k9 k10 h11 h12 h13 m14
      exact absurd m14 (Nat.not_lt_zero _)
    | succ n17 ih17 =>
      intro k9 k10 h11 h12 h13 m14 H locs hP hD hS ls hl
      have hSH : k10 = shF f4_slips p1 p2 k9.toInt.toNat := by assumption
      have hst := fun (kz9 : Int32) (hz9 : kz9.toInt = k9.toInt + 1) => shF_step (s := f4_slips) (i := p1) (j := p2) (k := k9) (k' := kz9) (by omega) hz9
      refine lv_iload hx hb dX4_sharedSlips_17 (lv_at hl 0 rfl) ?_
      refine lv_aload_n hx hb dX4_sharedSlips_19 rfl (lv_at hl 2 rfl) ?_
      refine va_get (D := D) (ci := 4) (v := .int v4_count) (C := RX4) (T := TX4) (N := 3) hx hb hts w1 hown hK.1 hP 0 rfl rfl 2 (by decide) w2 (fun _ h9 => h9) rfl dX4_sharedSlips_20 ?_
      refine lv_icmp_ge (tgt := 56) hx hb dX4_sharedSlips_23 (by decide) (fun c15 => ?_) (fun c15 => ?_)
      · have c15 := ci_le c15
        refine lv_iload_n hx hb dX4_sharedSlips_56 rfl (lv_at hl 1 rfl) ?_
        have hpo : k10 = shF f4_slips p1 p2 v4_count.toInt.toNat := (by have h9 := hSH; rw [show k9.toInt.toNat = v4_count.toInt.toNat from by omega] at h9; exact h9)
        exact ret _ _ _ _ k10 () dX4_sharedSlips_57 hpo hP hD hS
      have c15 := ci_nle c15
      refine lv_iload hx hb dX4_sharedSlips_26 (lv_at hl 0 rfl) ?_
      refine lv_iload_n hx hb dX4_sharedSlips_28 rfl (lv_at hl 3 rfl) ?_
      refine lv_icmp_eq (tgt := 50) hx hb dX4_sharedSlips_29 (by decide) (fun c16 => ?_) (fun c16 => ?_)
      · have c16 := ci_eq c16
        obtain ⟨x17, e18⟩ : ∃ y : Int32, y = k9 + 1 := ⟨_, rfl⟩
        refine lv_iinc (v := x17) (lv' := [(4, .int x17), (3, .int k10), (0, .ref a4), (1, .int p1), (2, .int p2)]) hx hb dX4_sharedSlips_50 hl (k := 0) rfl (by rw [e18]; rfl) (by decide) rfl (fun ls hl => ?_)
        try have h19 : x17.toInt = k9.toInt + (1 : Int32).toInt := ci_add e18 (by omega) (by omega)
        refine lv_goto (tgt := 17) hx hb dX4_sharedSlips_53 (by decide) ?_
        exact ih17 x17 k10 (by omega) (by first | (rw [show x17.toInt.toNat = 0 from by omega]; exact hs0) | (rw [hst x17 (by omega), if_pos (by omega)]; exact hSH) | (rw [hst x17 (by omega), if_neg (by omega), ← hSH]; exact hak)) (by omega) (by omega) _ _ hP hD hS _ hl
      have c16 := ci_ne c16
      refine lv_iload hx hb dX4_sharedSlips_32 (lv_at hl 0 rfl) ?_
      refine lv_iload_n hx hb dX4_sharedSlips_34 rfl (lv_at hl 4 rfl) ?_
      refine lv_icmp_eq (tgt := 50) hx hb dX4_sharedSlips_35 (by decide) (fun c20 => ?_) (fun c20 => ?_)
      · have c20 := ci_eq c20
        obtain ⟨x21, e22⟩ : ∃ y : Int32, y = k9 + 1 := ⟨_, rfl⟩
        refine lv_iinc (v := x21) (lv' := [(4, .int x21), (3, .int k10), (0, .ref a4), (1, .int p1), (2, .int p2)]) hx hb dX4_sharedSlips_50 hl (k := 0) rfl (by rw [e22]; rfl) (by decide) rfl (fun ls hl => ?_)
        try have h23 : x21.toInt = k9.toInt + (1 : Int32).toInt := ci_add e22 (by omega) (by omega)
        refine lv_goto (tgt := 17) hx hb dX4_sharedSlips_53 (by decide) ?_
        exact ih17 x21 k10 (by omega) (by first | (rw [show x21.toInt.toNat = 0 from by omega]; exact hs0) | (rw [hst x21 (by omega), if_pos (by omega)]; exact hSH) | (rw [hst x21 (by omega), if_neg (by omega), ← hSH]; exact hak)) (by omega) (by omega) _ _ hP hD hS _ hl
      have c20 := ci_ne c20
      refine lv_iload_n hx hb dX4_sharedSlips_38 rfl (lv_at hl 1 rfl) ?_
      refine lv_aload_n hx hb dX4_sharedSlips_39 rfl (lv_at hl 2 rfl) ?_
      refine va_get (D := D) (ci := 4) (v := .ref (r4 1)) (C := RX4) (T := TX4) (N := 3) hx hb hts w1 hown hK.1 hP 0 rfl rfl 1 (by decide) w0 (fun _ h9 => h9) rfl dX4_sharedSlips_40 ?_
      refine lv_iload hx hb dX4_sharedSlips_43 (lv_at hl 0 rfl) ?_
      refine va_iald hx hb hK.1 hP 1 1 rfl rfl (i := k9) (ix (by omega) (by omega)) dX4_sharedSlips_45 ?_
      refine lv_topi (fun x24 e25 => ?_)
      have h26 : 0 ≤ x24.toInt ∧ x24.toInt ≤ 65535 := by rw [e25]; exact hf4_slips _
      have hyk : x24 = f4_slips k9.toNatClampNeg := e25
      refine lv_iconst (v := (-1)) hx hb dX4_sharedSlips_46 (by decide) ?_
      refine lv_ixor hx hb dX4_sharedSlips_47 ?_
      refine lv_topi (fun x27 e28 => ?_)
      have hxk : x27 = f4_slips k9.toNatClampNeg ^^^ (-1) := by rw [e28, hyk]
      refine lv_iand hx hb dX4_sharedSlips_48 ?_
      refine lv_topi (fun x29 e30 => ?_)
      have hak : x29 = k10 &&& (f4_slips k9.toNatClampNeg ^^^ (-1)) := by rw [e30, hxk]
      refine lv_istore_n (lv' := [(3, .int x29), (4, .int k9), (0, .ref a4), (1, .int p1), (2, .int p2)]) hx hb dX4_sharedSlips_49 rfl hl (by decide) rfl (fun ls hl => ?_)
      obtain ⟨x31, e32⟩ : ∃ y : Int32, y = k9 + 1 := ⟨_, rfl⟩
      refine lv_iinc (v := x31) (lv' := [(4, .int x31), (3, .int x29), (0, .ref a4), (1, .int p1), (2, .int p2)]) hx hb dX4_sharedSlips_50 hl (k := 1) rfl (by rw [e32]; rfl) (by decide) rfl (fun ls hl => ?_)
      try have h33 : x31.toInt = k9.toInt + (1 : Int32).toInt := ci_add e32 (by omega) (by omega)
      refine lv_goto (tgt := 17) hx hb dX4_sharedSlips_53 (by decide) ?_
      exact ih17 x31 x29 (by omega) (by first | (rw [show x31.toInt.toNat = 0 from by omega]; exact hs0) | (rw [hst x31 (by omega), if_pos (by omega)]; exact hSH) | (rw [hst x31 (by omega), if_neg (by omega), ← hSH]; exact hak)) (by omega) (by omega) _ _ hP hD hS _ hl
  exact lp17 ((v4_count.toInt - (0 : Int32).toInt).toNat + 1) 0 x7 (by omega) (by first | (rw [show (0 : Int32).toInt.toNat = 0 from by omega]; exact hs0) | (rw [hst (0 : Int32) (by omega), if_pos (by omega)]; exact hSH) | (rw [hst (0 : Int32) (by omega), if_neg (by omega), ← hSH]; exact hak)) (by omega) (by omega) _ _ hP hD hS _ hl
