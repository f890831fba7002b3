set_option maxHeartbeats 4000000 in
set_option maxRecDepth 100000 in
theorem k_X4_isMap (l : Launch) (D : va_G) (κ : Nat → ClassId) (β : Nat) (a4 : Nat) (r4 : Nat → Nat) (v4_count : Int32) (sz : Nat) (p1 : Int32) (i1 : Rg 0 8 v4_count) : Met l yX4_isMap wsX4_isMap ({ frames := 1, cells := 0, slots := 0, locals := 22 } : Room) (PcK D κ β [O4 a4 r4 v4_count] sz [.ref a4, .int p1]) (QiK D (fun (r : Int32) (u : Unit) => (r.toInt = 1 ∧ 0 ≤ p1.toInt ∧ p1.toInt < v4_count.toInt) ∨ (r.toInt = 0 ∧ (p1.toInt < 0 ∨ v4_count.toInt ≤ p1.toInt))) (fun (u : Unit) => [O4 a4 r4 v4_count]) [O4 a4 r4 v4_count] sz) 0 0 (va_A [O4 a4 r4 v4_count] sz) := by
  refine ofK_z (cc := cX4_isMap) (maxL := 2) (own := RX4) (by decide) rfl rfl (Nat.le_of_ble_eq_true rfl) ?_
  intro p e s m args below meth c Q A ls hsz hx hb hml hts hown hK hA hAB hP hD hl ret
  have hS : va_S A s.heap s.heap [] := va_S.rf
  have hl : lv_has ls 2 [(0, .ref a4), (1, .int p1)] := hl
  have w0 := hts (.fieldLink RX4 18 "OlderSkin$Maps" "count" "I") (List.mem_of_getElem? (i := 1) rfl)
  have w1 := (fun w h => List.mem_cons_of_mem _ (List.mem_append_right _ h) : ∀ w ∈ u_ws RX4 TX4 3, w ∈ wsX4_isMap)
  have w2 := hts (.initialized RX11) (List.mem_of_getElem? (i := 3) rfl)
  have w3 := hts (.static yX11_within) (List.mem_of_getElem? (i := 2) rfl)
  have w4 := hK.2.1 ("OlderSkin$Maps", 22, ⟨"OlderSkin", "within", "(III)Z"⟩, "OlderSkin") (by decide +kernel)
  have l0 : (0 : Int32).toInt = 0 := by decide
  have l1 : (1 : Int32).toInt = 1 := by decide
  have i1 : 0 ≤ v4_count.toInt ∧ v4_count.toInt ≤ 8 := i1
  refine lv_iload_n hx hb dX4_isMap_0 rfl (lv_at hl 1 rfl) ?_
  refine lv_iconst (v := 0) hx hb dX4_isMap_1 (by decide) ?_
  refine lv_aload_n hx hb dX4_isMap_2 rfl (lv_at hl 0 rfl) ?_
  refine va_get (D := D) (ci := 4) (v := .int v4_count) (C := RX4) (T := TX4) (N := 3) hx hb hts w1 hown hK.1 hP 0 rfl rfl 2 (by decide) w0 (fun _ h9 => h9) rfl dX4_isMap_3 ?_
  refine lv_iconst (v := 1) hx hb dX4_isMap_6 (by decide) ?_
  refine lv_isub hx hb dX4_isMap_7 ?_
  refine lv_topi (fun x1 e2 => ?_)
  try have h3 : x1.toInt = v4_count.toInt - (1 : Int32).toInt := ci_sub e2 (by omega) (by omega)
  refine kcm_i hA hAB hP hD hS [false] rfl (fun _ => rfl) (fun hPc hDc => va_runSN (As := [.int p1, .int 0, .int x1]) (rest := []) ⟨hx, hb, hml, hown, hts⟩ (k_X11_within l D κ β s.heap.size p1 0 x1) ⟨va_cnB 3 hts gX4_isMap_X11_within_n22 rfl rfl rfl w4 w2 (by decide +kernel) ⟨Nat.le_of_ble_eq_true rfl, Nat.le_of_ble_eq_true rfl⟩, w3, trivial⟩ (pk_S hK hS hAB hPc hDc) rfl rfl hl.1 rfl (lv_room (Nat.le_of_ble_eq_true rfl)) dX4_isMap_8 ⟨Nat.le_of_ble_eq_true rfl, Nat.le_of_ble_eq_true rfl⟩) (fun x4 u5 H locs hw hPD hS => ?_)
  have h6 : (x4.toInt = 1 ∧ (0 : Int32).toInt ≤ p1.toInt ∧ p1.toInt ≤ x1.toInt) ∨ (x4.toInt = 0 ∧ (p1.toInt < (0 : Int32).toInt ∨ x1.toInt < p1.toInt)) := hw
  obtain ⟨hP, hD⟩ : PD D A [O4 a4 r4 v4_count] H := hPD
  have hpo : (x4.toInt = 1 ∧ 0 ≤ p1.toInt ∧ p1.toInt < v4_count.toInt) ∨ (x4.toInt = 0 ∧ (p1.toInt < 0 ∨ v4_count.toInt ≤ p1.toInt)) := (by omega)
  exact ret _ _ _ _ x4 () dX4_isMap_11 (by omega) hpo hP hD hS
set_option maxHeartbeats 4000000 in
set_option maxRecDepth 100000 in
theorem k_X4_add (l : Launch) (D : va_G) (κ : Nat → ClassId) (β : Nat) (a4 : Nat) (r4 : Nat → Nat) (v4_count : Int32) (f4_years : Nat → Int32) (f4_slips : Nat → Int32) (sz : Nat) (p1 : Int32) (p2 : Int32) (i1 : Rg 0 8 v4_count) : Met l yX4_add wsX4_add ({ frames := 0, cells := 0, slots := 0, locals := 0 } : Room) (PcK D κ β [O4 a4 r4 v4_count, (cI κ (r4 0) 8 f4_years), (cI κ (r4 1) 8 f4_slips)] sz [.ref a4, .int p1, .int p2]) (QiK D (fun (r : Int32) (u : Int32 × (Nat → Int32) × (Nat → Int32)) => (0 ≤ u.1.toInt ∧ u.1.toInt ≤ 8) ∧ ((v4_count.toInt = 8 ∧ r.toInt = -3 ∧ u.1.toInt = v4_count.toInt) ∨ (v4_count.toInt < 8 ∧ r.toInt = v4_count.toInt ∧ u.1.toInt = v4_count.toInt + 1))) (fun (u : Int32 × (Nat → Int32) × (Nat → Int32)) => [O4 a4 r4 u.1, (cI κ (r4 0) 8 u.2.1), (cI κ (r4 1) 8 u.2.2)]) [O4 a4 r4 v4_count, (cI κ (r4 0) 8 f4_years), (cI κ (r4 1) 8 f4_slips)] sz) 0 0 (va_A [O4 a4 r4 v4_count, (cI κ (r4 0) 8 f4_years), (cI κ (r4 1) 8 f4_slips)] sz) := by
  refine ofK_i (cc := cX4_add) (maxL := 3) (own := RX4) (by decide) rfl rfl (Nat.le_of_ble_eq_true rfl) ?_
  intro p e s m args below meth c Q A ls hsz hx hb hml hts hown hK hA hAB hP hD hl ret
  have hS : va_S A s.heap s.heap [] := va_S.rf
  have hl : lv_has ls 3 [(0, .ref a4), (1, .int p1), (2, .int p2)] := hl
  have w0 := hts (.fieldLink RX4 18 "OlderSkin$Maps" "count" "I") (List.mem_of_getElem? (i := 1) rfl)
  have w1 := (fun w h => List.mem_cons_of_mem _ (List.mem_append_right _ h) : ∀ w ∈ u_ws RX4 TX4 3, w ∈ wsX4_add)
  have w2 := hts (.fieldLink RX4 9 "OlderSkin$Maps" "years" "[I") (List.mem_of_getElem? (i := 2) rfl)
  have w3 := hts (.fieldLink RX4 15 "OlderSkin$Maps" "slips" "[I") (List.mem_of_getElem? (i := 3) rfl)
  have l0 : (8 : Int32).toInt = 8 := by decide
  have l1 : (0 : Int32).toInt = 0 := by decide
  have l2 : (1 : Int32).toInt = 1 := by decide
  have l3 : ((-3) : Int32).toInt = -3 := by decide
  have i1 : 0 ≤ v4_count.toInt ∧ v4_count.toInt ≤ 8 := i1
  refine lv_aload_n hx hb dX4_add_0 rfl (lv_at hl 0 rfl) ?_
  refine va_get (D := D) (ci := 4) (v := .int v4_count) (C := RX4) (T := TX4) (N := 3) hx hb hts w1 hown hK.1 hP 0 rfl rfl 2 (by decide) w0 (fun _ h9 => h9) rfl dX4_add_1 ?_
  refine lv_aload_n hx hb dX4_add_4 rfl (lv_at hl 0 rfl) ?_
  refine va_get (D := D) (ci := 4) (v := .ref (r4 0)) (C := RX4) (T := TX4) (N := 3) hx hb hts w1 hown hK.1 hP 0 rfl rfl 0 (by decide) w2 (fun _ h9 => h9) rfl dX4_add_5 ?_
  refine va_alen hx hb hK.1 hP 1 1 rfl rfl (v := 8) rfl dX4_add_8 ?_
  refine lv_icmp_ne (tgt := 15) hx hb dX4_add_9 (by decide) (fun c1 => ?_) (fun c1 => ?_)
  · have c1 := ci_ne c1
    refine lv_aload_n hx hb dX4_add_15 rfl (lv_at hl 0 rfl) ?_
    refine va_get (D := D) (ci := 4) (v := .ref (r4 0)) (C := RX4) (T := TX4) (N := 3) hx hb hts w1 hown hK.1 hP 0 rfl rfl 0 (by decide) w2 (fun _ h9 => h9) rfl dX4_add_16 ?_
    refine lv_aload_n hx hb dX4_add_19 rfl (lv_at hl 0 rfl) ?_
    refine va_get (D := D) (ci := 4) (v := .int v4_count) (C := RX4) (T := TX4) (N := 3) hx hb hts w1 hown hK.1 hP 0 rfl rfl 2 (by decide) w0 (fun _ h9 => h9) rfl dX4_add_20 ?_
    refine lv_iload_n hx hb dX4_add_23 rfl (lv_at hl 1 rfl) ?_
    refine va_iast hx hb hK.1 hP hD hS 1 1 rfl rfl (i := v4_count) (ix (by omega) (by omega)) dX4_add_24 (fun H locs hP hD hS => ?_)
    obtain ⟨g2, e3⟩ : ∃ y : Nat → Int32, y = upd f4_years v4_count.toNatClampNeg p1 := ⟨_, rfl⟩
    rw [← e3] at hP hD
    obtain ⟨hP, hD⟩ : PD D A [O4 a4 r4 v4_count, (cI κ (r4 0) 8 g2), (cI κ (r4 1) 8 f4_slips)] H := ⟨hP, hD⟩
    refine lv_aload_n hx hb dX4_add_25 rfl (lv_at hl 0 rfl) ?_
    refine va_get (D := D) (ci := 4) (v := .ref (r4 1)) (C := RX4) (T := TX4) (N := 3) hx hb hts w1 hown hK.1 hP 0 rfl rfl 1 (by decide) w3 (fun _ h9 => h9) rfl dX4_add_26 ?_
    refine lv_aload_n hx hb dX4_add_29 rfl (lv_at hl 0 rfl) ?_
    refine va_get (D := D) (ci := 4) (v := .int v4_count) (C := RX4) (T := TX4) (N := 3) hx hb hts w1 hown hK.1 hP 0 rfl rfl 2 (by decide) w0 (fun _ h9 => h9) rfl dX4_add_30 ?_
    refine lv_iload_n hx hb dX4_add_33 rfl (lv_at hl 2 rfl) ?_
    refine va_iast hx hb hK.1 hP hD hS 2 1 rfl rfl (i := v4_count) (ix (by omega) (by omega)) dX4_add_34 (fun H locs hP hD hS => ?_)
    obtain ⟨g4, e5⟩ : ∃ y : Nat → Int32, y = upd f4_slips v4_count.toNatClampNeg p2 := ⟨_, rfl⟩
    rw [← e5] at hP hD
    obtain ⟨hP, hD⟩ : PD D A [O4 a4 r4 v4_count, (cI κ (r4 0) 8 g2), (cI κ (r4 1) 8 g4)] H := ⟨hP, hD⟩
    refine lv_aload_n hx hb dX4_add_35 rfl (lv_at hl 0 rfl) ?_
    refine lv_dup hx hb dX4_add_36 rfl ?_
    refine va_get (D := D) (ci := 4) (v := .int v4_count) (C := RX4) (T := TX4) (N := 3) hx hb hts w1 hown hK.1 hP 0 rfl rfl 2 (by decide) w0 (fun _ h9 => h9) rfl dX4_add_37 ?_
    refine lv_dup_x1 hx hb dX4_add_40 rfl rfl ?_
    refine lv_iconst (v := 1) hx hb dX4_add_41 (by decide) ?_
    refine lv_iadd hx hb dX4_add_42 ?_
    refine lv_topi (fun x6 e7 => ?_)
    try have h8 : x6.toInt = v4_count.toInt + (1 : Int32).toInt := ci_add e7 (by omega) (by omega)
    refine va_put (D := D) (ci := 4) (v := .int x6) (ty := .int) (C := RX4) (T := TX4) (N := 3) hx hb hts w1 tyX4 tyX4_ok nmX4 hown hK.1 hP hD hS 0 rfl rfl 2 (by decide) w0 (fun _ h9 => h9) rfl (by decide +kernel) rfl rfl (Nat.le_of_ble_eq_true rfl) dX4_add_43 (fun H locs hP hD hS => ?_)
    obtain ⟨hP, hD⟩ : PD D A [O4 a4 r4 x6, (cI κ (r4 0) 8 g2), (cI κ (r4 1) 8 g4)] H := ⟨hP, hD⟩
    have h9 : 0 ≤ x6.toInt ∧ x6.toInt ≤ 8 := by omega
    have hpo : (0 ≤ x6.toInt ∧ x6.toInt ≤ 8) ∧ ((v4_count.toInt = 8 ∧ v4_count.toInt = -3 ∧ x6.toInt = v4_count.toInt) ∨ (v4_count.toInt < 8 ∧ v4_count.toInt = v4_count.toInt ∧ x6.toInt = v4_count.toInt + 1)) := ⟨h9, (by omega)⟩
    exact ret _ _ _ _ v4_count (x6, g2, g4) dX4_add_46 hpo hP hD hS
  have c1 := ci_eq c1
  refine lv_bipush (v := (-3)) hx hb dX4_add_12 (by decide) ?_
  have hpo : (0 ≤ v4_count.toInt ∧ v4_count.toInt ≤ 8) ∧ ((v4_count.toInt = 8 ∧ ((-3) : Int32).toInt = -3 ∧ v4_count.toInt = v4_count.toInt) ∨ (v4_count.toInt < 8 ∧ ((-3) : Int32).toInt = v4_count.toInt ∧ v4_count.toInt = v4_count.toInt + 1)) := ⟨i1, (by omega)⟩
  exact ret _ _ _ _ (-3) (v4_count, f4_years, f4_slips) dX4_add_14 hpo hP hD hS
set_option maxHeartbeats 4000000 in
set_option maxRecDepth 100000 in
theorem k_X4_apart (l : Launch) (D : va_G) (κ : Nat → ClassId) (β : Nat) (a4 : Nat) (r4 : Nat → Nat) (v4_count : Int32) (f4_slips : Nat → Int32) (sz : Nat) (p1 : Int32) (p2 : Int32) (i1 : Rg 0 8 v4_count) (i2 : 0 ≤ p1.toInt ∧ p1.toInt ≤ 7) (i3 : 0 ≤ p2.toInt ∧ p2.toInt ≤ 7) : Met l yX4_apart wsX4_apart ({ frames := 1, cells := 0, slots := 0, locals := 20 } : Room) (PcK D κ β [O4 a4 r4 v4_count, (cI κ (r4 1) 8 f4_slips)] sz [.ref a4, .int p1, .int p2]) (QiK D (fun (r : Int32) (u : Unit) => True) (fun (u : Unit) => [O4 a4 r4 v4_count, (cI κ (r4 1) 8 f4_slips)]) [O4 a4 r4 v4_count, (cI κ (r4 1) 8 f4_slips)] sz) 0 0 (va_A [O4 a4 r4 v4_count, (cI κ (r4 1) 8 f4_slips)] sz) := by
  refine ofK_i (cc := cX4_apart) (maxL := 3) (own := RX4) (by decide) rfl rfl (Nat.le_of_ble_eq_true rfl) ?_
  intro p e s m args below meth c Q A ls hsz hx hb hml hts hown hK hA hAB hP hD hl ret
  have hS : va_S A s.heap s.heap [] := va_S.rf
  have hl : lv_has ls 3 [(0, .ref a4), (1, .int p1), (2, .int p2)] := hl
  have w0 := hts (.fieldLink RX4 15 "OlderSkin$Maps" "slips" "[I") (List.mem_of_getElem? (i := 1) rfl)
  have w1 := (fun w h => List.mem_cons_of_mem _ (List.mem_append_right _ h) : ∀ w ∈ u_ws RX4 TX4 3, w ∈ wsX4_apart)
  refine lv_aload_n hx hb dX4_apart_0 rfl (lv_at hl 0 rfl) ?_
  refine va_get (D := D) (ci := 4) (v := .ref (r4 1)) (C := RX4) (T := TX4) (N := 3) hx hb hts w1 hown hK.1 hP 0 rfl rfl 1 (by decide) w0 (fun _ h9 => h9) rfl dX4_apart_1 ?_
  refine lv_iload_n hx hb dX4_apart_4 rfl (lv_at hl 1 rfl) ?_
  refine va_iald hx hb hK.1 hP 1 1 rfl rfl (i := p1) (ix (by omega) (by omega)) dX4_apart_5 ?_
  refine lv_topi (fun x1 e2 => ?_)
  refine lv_aload_n hx hb dX4_apart_6 rfl (lv_at hl 0 rfl) ?_
  refine va_get (D := D) (ci := 4) (v := .ref (r4 1)) (C := RX4) (T := TX4) (N := 3) hx hb hts w1 hown hK.1 hP 0 rfl rfl 1 (by decide) w0 (fun _ h9 => h9) rfl dX4_apart_7 ?_
  refine lv_iload_n hx hb dX4_apart_10 rfl (lv_at hl 2 rfl) ?_
  refine va_iald hx hb hK.1 hP 1 1 rfl rfl (i := p2) (ix (by omega) (by omega)) dX4_apart_11 ?_
  refine lv_topi (fun x3 e4 => ?_)
  refine lv_ixor hx hb dX4_apart_12 ?_
  refine lv_topi (fun x5 e6 => ?_)
  refine kcm_i hA hAB hP hD hS [false, false] rfl (fun _ => rfl) (fun hPc hDc => va_runS (As := [.int x5]) (rest := []) ⟨hx, hb, hml, hown, hts⟩ (k_J6_bitCount_0f7a4 l D κ β s.heap.size x5) (va_cwS 1 hts gX4_apart_J6_bitCount_0f7a4 rfl rfl rfl (by decide +kernel) ⟨Nat.le_of_ble_eq_true rfl, Nat.le_of_ble_eq_true rfl⟩) (pk_S hK hS hAB hPc hDc) rfl rfl hl.1 rfl (lv_room (Nat.le_of_ble_eq_true rfl)) dX4_apart_13 ⟨Nat.le_of_ble_eq_true rfl, Nat.le_of_ble_eq_true rfl⟩) (fun x7 u8 H locs hw hPD hS => ?_)
  obtain ⟨hP, hD⟩ : PD D A [O4 a4 r4 v4_count, (cI κ (r4 1) 8 f4_slips)] H := hPD
  exact ret _ _ _ _ x7 () dX4_apart_16 trivial hP hD hS
set_option maxHeartbeats 4000000 in
set_option maxRecDepth 100000 in
theorem k_X4_isNearer (l : Launch) (D : va_G) (κ : Nat → ClassId) (β : Nat) (a4 : Nat) (r4 : Nat → Nat) (v4_count : Int32) (f4_years : Nat → Int32) (f4_slips : Nat → Int32) (sz : Nat) (p1 : Int32) (p2 : Int32) (p3 : Int32) (i1 : Rg 0 8 v4_count) (i2 : 0 ≤ p1.toInt ∧ p1.toInt ≤ 7) (i3 : 0 ≤ p2.toInt ∧ p2.toInt ≤ 7) (i4 : 0 ≤ p3.toInt ∧ p3.toInt ≤ 7) : Met l yX4_isNearer wsX4_isNearer ({ frames := 2, cells := 0, slots := 0, locals := 42 } : Room) (PcK D κ β [O4 a4 r4 v4_count, (cI κ (r4 0) 8 f4_years), (cI κ (r4 1) 8 f4_slips)] sz [.ref a4, .int p1, .int p2, .int p3]) (QiK D (fun (r : Int32) (u : Unit) => r.toInt = 0 ∨ r.toInt = 1) (fun (u : Unit) => [O4 a4 r4 v4_count, (cI κ (r4 0) 8 f4_years), (cI κ (r4 1) 8 f4_slips)]) [O4 a4 r4 v4_count, (cI κ (r4 0) 8 f4_years), (cI κ (r4 1) 8 f4_slips)] sz) 0 0 (va_A [O4 a4 r4 v4_count, (cI κ (r4 0) 8 f4_years), (cI κ (r4 1) 8 f4_slips)] sz) := by
  refine ofK_z (cc := cX4_isNearer) (maxL := 6) (own := RX4) (by decide) rfl rfl (Nat.le_of_ble_eq_true rfl) ?_
  intro p e s m args below meth c Q A ls hsz hx hb hml hts hown hK hA hAB hP hD hl ret
  have hS : va_S A s.heap s.heap [] := va_S.rf
  have hl : lv_has ls 6 [(0, .ref a4), (1, .int p1), (2, .int p2), (3, .int p3)] := hl
  have w0 := hts (.fieldLink RX4 9 "OlderSkin$Maps" "years" "[I") (List.mem_of_getElem? (i := 1) rfl)
  have w1 := (fun w h => List.mem_cons_of_mem _ (List.mem_append_right _ h) : ∀ w ∈ u_ws RX4 TX4 3, w ∈ wsX4_isNearer)
  have l0 : (0 : Int32).toInt = 0 := by decide
  have l1 : (1 : Int32).toInt = 1 := by decide
  refine lv_aload_n hx hb dX4_isNearer_0 rfl (lv_at hl 0 rfl) ?_
  refine lv_iload_n hx hb dX4_isNearer_1 rfl (lv_at hl 1 rfl) ?_
  refine lv_iload_n hx hb dX4_isNearer_2 rfl (lv_at hl 2 rfl) ?_
  refine kcm_i hA hAB hP hD hS [true, false, true] rfl (fun _ => rfl) (fun hPc hDc => va_runV (As := [.int p1, .int p2]) (rest := []) ⟨hx, hb, hml, hown, hts⟩ (k_X4_apart l D κ β a4 r4 v4_count f4_slips s.heap.size p1 p2 i1 (by omega) (by omega)) (cwV 2 hts gX4_isNearer_X4_apart rfl rfl rfl (by decide +kernel) ⟨Nat.le_of_ble_eq_true rfl, Nat.le_of_ble_eq_true rfl⟩) (pk_V hK hS hAB hPc hDc 0 (ci := 4) rfl rfl rfl) rfl rfl hl.1 rfl (lv_room (Nat.le_of_ble_eq_true rfl)) dX4_isNearer_3 ⟨Nat.le_of_ble_eq_true rfl, Nat.le_of_ble_eq_true rfl⟩) (fun x1 u2 H locs hw hPD hS => ?_)
  obtain ⟨hP, hD⟩ : PD D A [O4 a4 r4 v4_count, (cI κ (r4 0) 8 f4_years), (cI κ (r4 1) 8 f4_slips)] H := hPD
  refine lv_istore (lv' := [(4, .int x1), (0, .ref a4), (1, .int p1), (2, .int p2), (3, .int p3)]) hx hb dX4_isNearer_6 hl (by decide) rfl (fun ls hl => ?_)
  refine lv_aload_n hx hb dX4_isNearer_8 rfl (lv_at hl 1 rfl) ?_
  refine lv_iload_n hx hb dX4_isNearer_9 rfl (lv_at hl 2 rfl) ?_
  refine lv_iload_n hx hb dX4_isNearer_10 rfl (lv_at hl 4 rfl) ?_
  refine kcm_i hA hAB hP hD hS [true, false, true] rfl (fun _ => rfl) (fun hPc hDc => va_runV (As := [.int p1, .int p3]) (rest := []) ⟨hx, hb, hml, hown, hts⟩ (k_X4_apart l D κ β a4 r4 v4_count f4_slips H.size p1 p3 i1 (by omega) (by omega)) (cwV 2 hts gX4_isNearer_X4_apart rfl rfl rfl (by decide +kernel) ⟨Nat.le_of_ble_eq_true rfl, Nat.le_of_ble_eq_true rfl⟩) (pk_V hK hS hAB hPc hDc 0 (ci := 4) rfl rfl rfl) rfl rfl hl.1 rfl (lv_room (Nat.le_of_ble_eq_true rfl)) dX4_isNearer_11 ⟨Nat.le_of_ble_eq_true rfl, Nat.le_of_ble_eq_true rfl⟩) (fun x3 u4 H locs hw hPD hS => ?_)
  obtain ⟨hP, hD⟩ : PD D A [O4 a4 r4 v4_count, (cI κ (r4 0) 8 f4_years), (cI κ (r4 1) 8 f4_slips)] H := hPD
  refine lv_istore (lv' := [(5, .int x3), (4, .int x1), (0, .ref a4), (1, .int p1), (2, .int p2), (3, .int p3)]) hx hb dX4_isNearer_14 hl (by decide) rfl (fun ls hl => ?_)
  refine lv_iload hx hb dX4_isNearer_16 (lv_at hl 1 rfl) ?_
  refine lv_iload hx hb dX4_isNearer_18 (lv_at hl 0 rfl) ?_
  refine lv_icmp_lt (tgt := 45) hx hb dX4_isNearer_20 (by decide) (fun c5 => ?_) (fun c5 => ?_)
  · have c5 := ci_lt c5
    refine lv_iconst (v := 1) hx hb dX4_isNearer_45 (by decide) ?_
    refine lv_goto (tgt := 50) hx hb dX4_isNearer_46 (by decide) ?_
    have hpo : (1 : Int32).toInt = 0 ∨ (1 : Int32).toInt = 1 := (by omega)
    exact ret _ _ _ _ 1 () dX4_isNearer_50 (by omega) hpo hP hD hS
  have c5 := ci_nlt c5
  refine lv_iload hx hb dX4_isNearer_23 (lv_at hl 1 rfl) ?_
  refine lv_iload hx hb dX4_isNearer_25 (lv_at hl 0 rfl) ?_
  refine lv_icmp_ne (tgt := 49) hx hb dX4_isNearer_27 (by decide) (fun c6 => ?_) (fun c6 => ?_)
  · have c6 := ci_ne c6
    refine lv_iconst (v := 0) hx hb dX4_isNearer_49 (by decide) ?_
    have hpo : (0 : Int32).toInt = 0 ∨ (0 : Int32).toInt = 1 := (by omega)
    exact ret _ _ _ _ 0 () dX4_isNearer_50 (by omega) hpo hP hD hS
  have c6 := ci_eq c6
  refine lv_aload_n hx hb dX4_isNearer_30 rfl (lv_at hl 2 rfl) ?_
  refine va_get (D := D) (ci := 4) (v := .ref (r4 0)) (C := RX4) (T := TX4) (N := 3) hx hb hts w1 hown hK.1 hP 0 rfl rfl 0 (by decide) w0 (fun _ h9 => h9) rfl dX4_isNearer_31 ?_
  refine lv_iload_n hx hb dX4_isNearer_34 rfl (lv_at hl 4 rfl) ?_
  refine va_iald hx hb hK.1 hP 1 1 rfl rfl (i := p2) (ix (by omega) (by omega)) dX4_isNearer_35 ?_
  refine lv_topi (fun x7 e8 => ?_)
  refine lv_aload_n hx hb dX4_isNearer_36 rfl (lv_at hl 2 rfl) ?_
  refine va_get (D := D) (ci := 4) (v := .ref (r4 0)) (C := RX4) (T := TX4) (N := 3) hx hb hts w1 hown hK.1 hP 0 rfl rfl 0 (by decide) w0 (fun _ h9 => h9) rfl dX4_isNearer_37 ?_
  refine lv_iload_n hx hb dX4_isNearer_40 rfl (lv_at hl 5 rfl) ?_
  refine va_iald hx hb hK.1 hP 1 1 rfl rfl (i := p3) (ix (by omega) (by omega)) dX4_isNearer_41 ?_
  refine lv_topi (fun x9 e10 => ?_)
  refine lv_icmp_le (tgt := 49) hx hb dX4_isNearer_42 (by decide) (fun c11 => ?_) (fun c11 => ?_)
  · have c11 := ci_le c11
    refine lv_iconst (v := 0) hx hb dX4_isNearer_49 (by decide) ?_
    have hpo : (0 : Int32).toInt = 0 ∨ (0 : Int32).toInt = 1 := (by omega)
    exact ret _ _ _ _ 0 () dX4_isNearer_50 (by omega) hpo hP hD hS
  have c11 := ci_nle c11
  refine lv_iconst (v := 1) hx hb dX4_isNearer_45 (by decide) ?_
  refine lv_goto (tgt := 50) hx hb dX4_isNearer_46 (by decide) ?_
  have hpo : (1 : Int32).toInt = 0 ∨ (1 : Int32).toInt = 1 := (by omega)
  exact ret _ _ _ _ 1 () dX4_isNearer_50 (by omega) hpo hP hD hS
set_option maxHeartbeats 4000000 in
set_option maxRecDepth 100000 in
theorem k_X4_fatherOf (l : Launch) (D : va_G) (κ : Nat → ClassId) (β : Nat) (a4 : Nat) (r4 : Nat → Nat) (v4_count : Int32) (f4_years : Nat → Int32) (f4_slips : Nat → Int32) (sz : Nat) (p1 : Int32) (i1 : Rg 0 8 v4_count) (i2 : 0 ≤ p1.toInt ∧ p1.toInt ≤ 7) : Met l yX4_fatherOf wsX4_fatherOf ({ frames := 3, cells := 0, slots := 0, locals := 67 } : Room) (PcK D κ β [O4 a4 r4 v4_count, (cI κ (r4 0) 8 f4_years), (cI κ (r4 1) 8 f4_slips)] sz [.ref a4, .int p1]) (QiK D (fun (r : Int32) (u : Unit) => -1 ≤ r.toInt ∧ r.toInt < v4_count.toInt) (fun (u : Unit) => [O4 a4 r4 v4_count, (cI κ (r4 0) 8 f4_years), (cI κ (r4 1) 8 f4_slips)]) [O4 a4 r4 v4_count, (cI κ (r4 0) 8 f4_years), (cI κ (r4 1) 8 f4_slips)] sz) 0 0 (va_A [O4 a4 r4 v4_count, (cI κ (r4 0) 8 f4_years), (cI κ (r4 1) 8 f4_slips)] sz) := by
  refine ofK_i (cc := cX4_fatherOf) (maxL := 4) (own := RX4) (by decide) rfl rfl (Nat.le_of_ble_eq_true rfl) ?_
  intro p e s m args below meth c Q A ls hsz hx hb hml hts hown hK hA hAB hP hD hl ret
  have hS : va_S A s.heap s.heap [] := va_S.rf
  have hl : lv_has ls 4 [(0, .ref a4), (1, .int p1)] := hl
  have w0 := hts (.fieldLink RX4 18 "OlderSkin$Maps" "count" "I") (List.mem_of_getElem? (i := 1) rfl)
  have w1 := (fun w h => List.mem_cons_of_mem _ (List.mem_append_right _ h) : ∀ w ∈ u_ws RX4 TX4 3, w ∈ wsX4_fatherOf)
  have w2 := hts (.fieldLink RX4 9 "OlderSkin$Maps" "years" "[I") (List.mem_of_getElem? (i := 2) rfl)
  have l0 : ((-1) : Int32).toInt = -1 := by decide
  have l1 : (0 : Int32).toInt = 0 := by decide
  have l2 : (1 : Int32).toInt = 1 := by decide
  have i1 : 0 ≤ v4_count.toInt ∧ v4_count.toInt ≤ 8 := i1
  refine lv_iconst (v := (-1)) hx hb dX4_fatherOf_0 (by decide) ?_
  refine lv_istore_n (lv' := [(2, .int (-1)), (0, .ref a4), (1, .int p1)]) hx hb dX4_fatherOf_1 rfl hl (by decide) rfl (fun ls hl => ?_)
  refine lv_iconst (v := 0) hx hb dX4_fatherOf_2 (by decide) ?_
  refine lv_istore_n (lv' := [(3, .int 0), (2, .int (-1)), (0, .ref a4), (1, .int p1)]) hx hb dX4_fatherOf_3 rfl hl (by decide) rfl (fun ls hl => ?_)
  have lp4 : ∀ (n4 : Nat) (k1 : Int32) (k2 : Int32), (-1 ≤ k2.toInt ∧ k2.toInt < v4_count.toInt) → (0 ≤ k1.toInt) → (v4_count.toInt - k1.toInt).toNat < n4 → ∀ (H : Heap) (locs : List Loc), va_P D vwCl [O4 a4 r4 v4_count, (cI κ (r4 0) 8 f4_years), (cI κ (r4 1) 8 f4_slips)] H → va_D A [O4 a4 r4 v4_count, (cI κ (r4 0) 8 f4_years), (cI κ (r4 1) 8 f4_slips)] → va_S A s.heap H locs → ∀ ls : Array Slot, lv_has ls 4 [(3, .int k1), (2, .int k2), (0, .ref a4), (1, .int p1)] → W p l e ({ frames := 3, cells := 0, slots := 0, locals := 67 } : Room) s m args below meth c H locs 0 0 Q (F0 m 4 ls []) := by
    intro n4
    induction n4 with
    | zero =>
      intro k1 k2 h3 h4 m5
      exact absurd m5 (Nat.not_lt_zero _)
    | succ n4 ih4 =>
      intro k1 k2 h3 h4 m5 H locs hP hD hS ls hl
      refine lv_iload_n hx hb dX4_fatherOf_4 rfl (lv_at hl 0 rfl) ?_
      refine lv_aload_n hx hb dX4_fatherOf_5 rfl (lv_at hl 2 rfl) ?_
      refine va_get (D := D) (ci := 4) (v := .int v4_count) (C := RX4) (T := TX4) (N := 3) hx hb hts w1 hown hK.1 hP 0 rfl rfl 2 (by decide) w0 (fun _ h9 => h9) rfl dX4_fatherOf_6 ?_
      refine lv_icmp_ge (tgt := 49) hx hb dX4_fatherOf_9 (by decide) (fun c6 => ?_) (fun c6 => ?_)
      · have c6 := ci_le c6
        refine lv_iload_n hx hb dX4_fatherOf_49 rfl (lv_at hl 1 rfl) ?_
        have hpo : -1 ≤ k2.toInt ∧ k2.toInt < v4_count.toInt := (by omega)
        exact ret _ _ _ _ k2 () dX4_fatherOf_50 hpo hP hD hS
      have c6 := ci_nle c6
      refine lv_aload_n hx hb dX4_fatherOf_12 rfl (lv_at hl 2 rfl) ?_
      refine va_get (D := D) (ci := 4) (v := .ref (r4 0)) (C := RX4) (T := TX4) (N := 3) hx hb hts w1 hown hK.1 hP 0 rfl rfl 0 (by decide) w2 (fun _ h9 => h9) rfl dX4_fatherOf_13 ?_
      refine lv_iload_n hx hb dX4_fatherOf_16 rfl (lv_at hl 0 rfl) ?_
      refine va_iald hx hb hK.1 hP 1 1 rfl rfl (i := k1) (ix (by omega) (by omega)) dX4_fatherOf_17 ?_
      refine lv_topi (fun x7 e8 => ?_)
      refine lv_aload_n hx hb dX4_fatherOf_18 rfl (lv_at hl 2 rfl) ?_
      refine va_get (D := D) (ci := 4) (v := .ref (r4 0)) (C := RX4) (T := TX4) (N := 3) hx hb hts w1 hown hK.1 hP 0 rfl rfl 0 (by decide) w2 (fun _ h9 => h9) rfl dX4_fatherOf_19 ?_
      refine lv_iload_n hx hb dX4_fatherOf_22 rfl (lv_at hl 3 rfl) ?_
      refine va_iald hx hb hK.1 hP 1 1 rfl rfl (i := p1) (ix (by omega) (by omega)) dX4_fatherOf_23 ?_
      refine lv_topi (fun x9 e10 => ?_)
      refine lv_icmp_ge (tgt := 43) hx hb dX4_fatherOf_24 (by decide) (fun c11 => ?_) (fun c11 => ?_)
      · have c11 := ci_le c11
        obtain ⟨x12, e13⟩ : ∃ y : Int32, y = k1 + 1 := ⟨_, rfl⟩
        refine lv_iinc (v := x12) (lv' := [(3, .int x12), (2, .int k2), (0, .ref a4), (1, .int p1)]) hx hb dX4_fatherOf_43 hl (k := 0) rfl (by rw [e13]; rfl) (by decide) rfl (fun ls hl => ?_)
        try have h14 : x12.toInt = k1.toInt + (1 : Int32).toInt := ci_add e13 (by omega) (by omega)
        refine lv_goto (tgt := 4) hx hb dX4_fatherOf_46 (by decide) ?_
        exact ih4 x12 k2 (by omega) (by omega) (by omega) _ _ hP hD hS _ hl
      have c11 := ci_nle c11
      refine lv_iload_n hx hb dX4_fatherOf_27 rfl (lv_at hl 1 rfl) ?_
      refine lv_if_lt (tgt := 41) hx hb dX4_fatherOf_28 (by decide) (fun c15 => ?_) (fun c15 => ?_)
      · have c15 := ci_lt c15
        refine lv_iload_n hx hb dX4_fatherOf_41 rfl (lv_at hl 0 rfl) ?_
        refine lv_istore_n (lv' := [(2, .int k1), (3, .int k1), (0, .ref a4), (1, .int p1)]) hx hb dX4_fatherOf_42 rfl hl (by decide) rfl (fun ls hl => ?_)
        obtain ⟨x16, e17⟩ : ∃ y : Int32, y = k1 + 1 := ⟨_, rfl⟩
        refine lv_iinc (v := x16) (lv' := [(3, .int x16), (2, .int k1), (0, .ref a4), (1, .int p1)]) hx hb dX4_fatherOf_43 hl (k := 1) rfl (by rw [e17]; rfl) (by decide) rfl (fun ls hl => ?_)
        try have h18 : x16.toInt = k1.toInt + (1 : Int32).toInt := ci_add e17 (by omega) (by omega)
        refine lv_goto (tgt := 4) hx hb dX4_fatherOf_46 (by decide) ?_
        exact ih4 x16 k1 (by omega) (by omega) (by omega) _ _ hP hD hS _ hl
      have c15 := ci_nlt c15
      refine lv_aload_n hx hb dX4_fatherOf_31 rfl (lv_at hl 2 rfl) ?_
      refine lv_iload_n hx hb dX4_fatherOf_32 rfl (lv_at hl 3 rfl) ?_
      refine lv_iload_n hx hb dX4_fatherOf_33 rfl (lv_at hl 0 rfl) ?_
      refine lv_iload_n hx hb dX4_fatherOf_34 rfl (lv_at hl 1 rfl) ?_
      refine kcm_i hA hAB hP hD hS [true, true, true] rfl (fun _ => rfl) (fun hPc hDc => va_runV (As := [.int p1, .int k1, .int k2]) (rest := []) ⟨hx, hb, hml, hown, hts⟩ (k_X4_isNearer l D κ β a4 r4 v4_count f4_years f4_slips H.size p1 k1 k2 i1 (by omega) (by omega) (by omega)) (cwV 3 hts gX4_fatherOf_X4_isNearer rfl rfl rfl (by decide +kernel) ⟨Nat.le_of_ble_eq_true rfl, Nat.le_of_ble_eq_true rfl⟩) (pk_V hK hS hAB hPc hDc 0 (ci := 4) rfl rfl rfl) rfl rfl hl.1 rfl (lv_room (Nat.le_of_ble_eq_true rfl)) dX4_fatherOf_35 ⟨Nat.le_of_ble_eq_true rfl, Nat.le_of_ble_eq_true rfl⟩) (fun x19 u20 H locs hw hPD hS => ?_)
      have h21 : x19.toInt = 0 ∨ x19.toInt = 1 := hw
      obtain ⟨hP, hD⟩ : PD D A [O4 a4 r4 v4_count, (cI κ (r4 0) 8 f4_years), (cI κ (r4 1) 8 f4_slips)] H := hPD
      refine lv_if_eq (tgt := 43) hx hb dX4_fatherOf_38 (by decide) (fun c22 => ?_) (fun c22 => ?_)
      · have c22 := ci_eq c22
        obtain ⟨x23, e24⟩ : ∃ y : Int32, y = k1 + 1 := ⟨_, rfl⟩
        refine lv_iinc (v := x23) (lv' := [(3, .int x23), (2, .int k2), (0, .ref a4), (1, .int p1)]) hx hb dX4_fatherOf_43 hl (k := 0) rfl (by rw [e24]; rfl) (by decide) rfl (fun ls hl => ?_)
        try have h25 : x23.toInt = k1.toInt + (1 : Int32).toInt := ci_add e24 (by omega) (by omega)
        refine lv_goto (tgt := 4) hx hb dX4_fatherOf_46 (by decide) ?_
        exact ih4 x23 k2 (by omega) (by omega) (by omega) _ _ hP hD hS _ hl
      have c22 := ci_ne c22
      refine lv_iload_n hx hb dX4_fatherOf_41 rfl (lv_at hl 0 rfl) ?_
      refine lv_istore_n (lv' := [(2, .int k1), (3, .int k1), (0, .ref a4), (1, .int p1)]) hx hb dX4_fatherOf_42 rfl hl (by decide) rfl (fun ls hl => ?_)
      obtain ⟨x26, e27⟩ : ∃ y : Int32, y = k1 + 1 := ⟨_, rfl⟩
      refine lv_iinc (v := x26) (lv' := [(3, .int x26), (2, .int k1), (0, .ref a4), (1, .int p1)]) hx hb dX4_fatherOf_43 hl (k := 1) rfl (by rw [e27]; rfl) (by decide) rfl (fun ls hl => ?_)
      try have h28 : x26.toInt = k1.toInt + (1 : Int32).toInt := ci_add e27 (by omega) (by omega)
      refine lv_goto (tgt := 4) hx hb dX4_fatherOf_46 (by decide) ?_
      exact ih4 x26 k1 (by omega) (by omega) (by omega) _ _ hP hD hS _ hl
  exact lp4 ((v4_count.toInt - (0 : Int32).toInt).toNat + 1) 0 (-1) (by omega) (by omega) (by omega) _ _ hP hD hS _ hl
set_option maxHeartbeats 4000000 in
set_option maxRecDepth 100000 in
theorem k_X4_leadsTo (l : Launch) (D : va_G) (κ : Nat → ClassId) (β : Nat) (a4 : Nat) (r4 : Nat → Nat) (v4_count : Int32) (f4_years : Nat → Int32) (f4_slips : Nat → Int32) (sz : Nat) (p1 : Int32) (p2 : Int32) (i1 : Rg 0 8 v4_count) (i2 : 0 ≤ p1.toInt ∧ p1.toInt ≤ 7) : Met l yX4_leadsTo wsX4_leadsTo ({ frames := 4, cells := 0, slots := 0, locals := 90 } : Room) (PcK D κ β [O4 a4 r4 v4_count, (cI κ (r4 0) 8 f4_years), (cI κ (r4 1) 8 f4_slips)] sz [.ref a4, .int p1, .int p2]) (QiK D (fun (r : Int32) (u : Unit) => r.toInt = 0 ∨ r.toInt = 1) (fun (u : Unit) => [O4 a4 r4 v4_count, (cI κ (r4 0) 8 f4_years), (cI κ (r4 1) 8 f4_slips)]) [O4 a4 r4 v4_count, (cI κ (r4 0) 8 f4_years), (cI κ (r4 1) 8 f4_slips)] sz) 0 0 (va_A [O4 a4 r4 v4_count, (cI κ (r4 0) 8 f4_years), (cI κ (r4 1) 8 f4_slips)] sz) := by
  refine ofK_z (cc := cX4_leadsTo) (maxL := 5) (own := RX4) (by decide) rfl rfl (Nat.le_of_ble_eq_true rfl) ?_
  intro p e s m args below meth c Q A ls hsz hx hb hml hts hown hK hA hAB hP hD hl ret
  have hS : va_S A s.heap s.heap [] := va_S.rf
  have hl : lv_has ls 5 [(0, .ref a4), (1, .int p1), (2, .int p2)] := hl
  have w0 := hts (.fieldLink RX4 18 "OlderSkin$Maps" "count" "I") (List.mem_of_getElem? (i := 1) rfl)
  have w1 := (fun w h => List.mem_cons_of_mem _ (List.mem_append_right _ h) : ∀ w ∈ u_ws RX4 TX4 3, w ∈ wsX4_leadsTo)
  have l0 : (0 : Int32).toInt = 0 := by decide
  have l1 : (1 : Int32).toInt = 1 := by decide
  have i1 : 0 ≤ v4_count.toInt ∧ v4_count.toInt ≤ 8 := i1
  refine lv_aload_n hx hb dX4_leadsTo_0 rfl (lv_at hl 0 rfl) ?_
  refine lv_iload_n hx hb dX4_leadsTo_1 rfl (lv_at hl 1 rfl) ?_
  refine kcm_i hA hAB hP hD hS [true, true, true] rfl (fun _ => rfl) (fun hPc hDc => va_runV (As := [.int p1]) (rest := []) ⟨hx, hb, hml, hown, hts⟩ (k_X4_fatherOf l D κ β a4 r4 v4_count f4_years f4_slips s.heap.size p1 i1 (by omega)) (cwV 1 hts gX4_leadsTo_X4_fatherOf rfl rfl rfl (by decide +kernel) ⟨Nat.le_of_ble_eq_true rfl, Nat.le_of_ble_eq_true rfl⟩) (pk_V hK hS hAB hPc hDc 0 (ci := 4) rfl rfl rfl) rfl rfl hl.1 rfl (lv_room (Nat.le_of_ble_eq_true rfl)) dX4_leadsTo_2 ⟨Nat.le_of_ble_eq_true rfl, Nat.le_of_ble_eq_true rfl⟩) (fun x1 u2 H locs hw hPD hS => ?_)
  have h3 : -1 ≤ x1.toInt ∧ x1.toInt < v4_count.toInt := hw
  obtain ⟨hP, hD⟩ : PD D A [O4 a4 r4 v4_count, (cI κ (r4 0) 8 f4_years), (cI κ (r4 1) 8 f4_slips)] H := hPD
  refine lv_istore_n (lv' := [(3, .int x1), (0, .ref a4), (1, .int p1), (2, .int p2)]) hx hb dX4_leadsTo_5 rfl hl (by decide) rfl (fun ls hl => ?_)
  refine lv_iconst (v := 0) hx hb dX4_leadsTo_6 (by decide) ?_
  refine lv_istore (lv' := [(4, .int 0), (3, .int x1), (0, .ref a4), (1, .int p1), (2, .int p2)]) hx hb dX4_leadsTo_7 hl (by decide) rfl (fun ls hl => ?_)
  have lp9 : ∀ (n9 : Nat) (k4 : Int32) (k5 : Int32), (-1 ≤ k5.toInt ∧ k5.toInt < v4_count.toInt) → (0 ≤ k4.toInt) → (v4_count.toInt - k4.toInt).toNat < n9 → ∀ (H : Heap) (locs : List Loc), va_P D vwCl [O4 a4 r4 v4_count, (cI κ (r4 0) 8 f4_years), (cI κ (r4 1) 8 f4_slips)] H → va_D A [O4 a4 r4 v4_count, (cI κ (r4 0) 8 f4_years), (cI κ (r4 1) 8 f4_slips)] → va_S A s.heap H locs → ∀ ls : Array Slot, lv_has ls 5 [(4, .int k4), (3, .int k5), (0, .ref a4), (1, .int p1), (2, .int p2)] → W p l e ({ frames := 4, cells := 0, slots := 0, locals := 90 } : Room) s m args below meth c H locs 0 0 Q (F0 m 9 ls []) := by
    intro n9
    induction n9 with
    | zero =>
      intro k4 k5 h6 h7 m8
      exact absurd m8 (Nat.not_lt_zero _)
    | succ n9 ih9 =>
      intro k4 k5 h6 h7 m8 H locs hP hD hS ls hl
      refine lv_iload hx hb dX4_leadsTo_9 (lv_at hl 0 rfl) ?_
      refine lv_aload_n hx hb dX4_leadsTo_11 rfl (lv_at hl 2 rfl) ?_
      refine va_get (D := D) (ci := 4) (v := .int v4_count) (C := RX4) (T := TX4) (N := 3) hx hb hts w1 hown hK.1 hP 0 rfl rfl 2 (by decide) w0 (fun _ h9 => h9) rfl dX4_leadsTo_12 ?_
      refine lv_icmp_ge (tgt := 41) hx hb dX4_leadsTo_15 (by decide) (fun c9 => ?_) (fun c9 => ?_)
      · have c9 := ci_le c9
        refine lv_iconst (v := 0) hx hb dX4_leadsTo_41 (by decide) ?_
        have hpo : (0 : Int32).toInt = 0 ∨ (0 : Int32).toInt = 1 := (by omega)
        exact ret _ _ _ _ 0 () dX4_leadsTo_42 (by omega) hpo hP hD hS
      have c9 := ci_nle c9
      refine lv_iload_n hx hb dX4_leadsTo_18 rfl (lv_at hl 1 rfl) ?_
      refine lv_if_lt (tgt := 41) hx hb dX4_leadsTo_19 (by decide) (fun c10 => ?_) (fun c10 => ?_)
      · have c10 := ci_lt c10
        refine lv_iconst (v := 0) hx hb dX4_leadsTo_41 (by decide) ?_
        have hpo : (0 : Int32).toInt = 0 ∨ (0 : Int32).toInt = 1 := (by omega)
        exact ret _ _ _ _ 0 () dX4_leadsTo_42 (by omega) hpo hP hD hS
      have c10 := ci_nlt c10
      refine lv_iload_n hx hb dX4_leadsTo_22 rfl (lv_at hl 1 rfl) ?_
      refine lv_iload_n hx hb dX4_leadsTo_23 rfl (lv_at hl 4 rfl) ?_
      refine lv_icmp_ne (tgt := 29) hx hb dX4_leadsTo_24 (by decide) (fun c11 => ?_) (fun c11 => ?_)
      · have c11 := ci_ne c11
        refine lv_aload_n hx hb dX4_leadsTo_29 rfl (lv_at hl 2 rfl) ?_
        refine lv_iload_n hx hb dX4_leadsTo_30 rfl (lv_at hl 1 rfl) ?_
        refine kcm_i hA hAB hP hD hS [true, true, true] rfl (fun _ => rfl) (fun hPc hDc => va_runV (As := [.int k5]) (rest := []) ⟨hx, hb, hml, hown, hts⟩ (k_X4_fatherOf l D κ β a4 r4 v4_count f4_years f4_slips H.size k5 i1 (by omega)) (cwV 1 hts gX4_leadsTo_X4_fatherOf rfl rfl rfl (by decide +kernel) ⟨Nat.le_of_ble_eq_true rfl, Nat.le_of_ble_eq_true rfl⟩) (pk_V hK hS hAB hPc hDc 0 (ci := 4) rfl rfl rfl) rfl rfl hl.1 rfl (lv_room (Nat.le_of_ble_eq_true rfl)) dX4_leadsTo_31 ⟨Nat.le_of_ble_eq_true rfl, Nat.le_of_ble_eq_true rfl⟩) (fun x12 u13 H locs hw hPD hS => ?_)
        have h14 : -1 ≤ x12.toInt ∧ x12.toInt < v4_count.toInt := hw
        obtain ⟨hP, hD⟩ : PD D A [O4 a4 r4 v4_count, (cI κ (r4 0) 8 f4_years), (cI κ (r4 1) 8 f4_slips)] H := hPD
        refine lv_istore_n (lv' := [(3, .int x12), (4, .int k4), (0, .ref a4), (1, .int p1), (2, .int p2)]) hx hb dX4_leadsTo_34 rfl hl (by decide) rfl (fun ls hl => ?_)
        obtain ⟨x15, e16⟩ : ∃ y : Int32, y = k4 + 1 := ⟨_, rfl⟩
        refine lv_iinc (v := x15) (lv' := [(4, .int x15), (3, .int x12), (0, .ref a4), (1, .int p1), (2, .int p2)]) hx hb dX4_leadsTo_35 hl (k := 1) rfl (by rw [e16]; rfl) (by decide) rfl (fun ls hl => ?_)
        try have h17 : x15.toInt = k4.toInt + (1 : Int32).toInt := ci_add e16 (by omega) (by omega)
        refine lv_goto (tgt := 9) hx hb dX4_leadsTo_38 (by decide) ?_
        exact ih9 x15 x12 (by omega) (by omega) (by omega) _ _ hP hD hS _ hl
      have c11 := ci_eq c11
      refine lv_iconst (v := 1) hx hb dX4_leadsTo_27 (by decide) ?_
      have hpo : (1 : Int32).toInt = 0 ∨ (1 : Int32).toInt = 1 := (by omega)
      exact ret _ _ _ _ 1 () dX4_leadsTo_28 (by omega) hpo hP hD hS
  exact lp9 ((v4_count.toInt - (0 : Int32).toInt).toNat + 1) 0 x1 (by omega) (by omega) (by omega) _ _ hP hD hS _ hl
set_option maxHeartbeats 4000000 in
set_option maxRecDepth 100000 in
theorem k_X4_tree (l : Launch) (D : va_G) (κ : Nat → ClassId) (β : Nat) (a4 : Nat) (r4 : Nat → Nat) (v4_count : Int32) (f4_years : Nat → Int32) (f4_slips : Nat → Int32) (sz : Nat) (i1 : Rg 0 8 v4_count) : Met l yX4_tree wsX4_tree ({ frames := 4, cells := 0, slots := 0, locals := 90 } : Room) (PcK D κ β [O4 a4 r4 v4_count, (cI κ (r4 0) 8 f4_years), (cI κ (r4 1) 8 f4_slips)] sz [.ref a4]) (QiK D (fun (r : Int32) (u : Unit) => True) (fun (u : Unit) => [O4 a4 r4 v4_count, (cI κ (r4 0) 8 f4_years), (cI κ (r4 1) 8 f4_slips)]) [O4 a4 r4 v4_count, (cI κ (r4 0) 8 f4_years), (cI κ (r4 1) 8 f4_slips)] sz) 0 0 (va_A [O4 a4 r4 v4_count, (cI κ (r4 0) 8 f4_years), (cI κ (r4 1) 8 f4_slips)] sz) := by
  refine ofK_i (cc := cX4_tree) (maxL := 4) (own := RX4) (by decide) rfl rfl (Nat.le_of_ble_eq_true rfl) ?_
  intro p e s m args below meth c Q A ls hsz hx hb hml hts hown hK hA hAB hP hD hl ret
  have hS : va_S A s.heap s.heap [] := va_S.rf
  have hl : lv_has ls 4 [(0, .ref a4)] := hl
  have w0 := hts (.fieldLink RX4 18 "OlderSkin$Maps" "count" "I") (List.mem_of_getElem? (i := 1) rfl)
  have w1 := (fun w h => List.mem_cons_of_mem _ (List.mem_append_right _ h) : ∀ w ∈ u_ws RX4 TX4 3, w ∈ wsX4_tree)
  have l0 : (0 : Int32).toInt = 0 := by decide
  have l1 : (1 : Int32).toInt = 1 := by decide
  have i1 : 0 ≤ v4_count.toInt ∧ v4_count.toInt ≤ 8 := i1
  refine lv_iconst (v := 0) hx hb dX4_tree_0 (by decide) ?_
  refine lv_istore_n (lv' := [(1, .int 0), (0, .ref a4)]) hx hb dX4_tree_1 rfl hl (by decide) rfl (fun ls hl => ?_)
  refine lv_iconst (v := 0) hx hb dX4_tree_2 (by decide) ?_
  refine lv_istore_n (lv' := [(2, .int 0), (1, .int 0), (0, .ref a4)]) hx hb dX4_tree_3 rfl hl (by decide) rfl (fun ls hl => ?_)
  have lp4 : ∀ (n4 : Nat) (k1 : Int32) (k2 : Int32), (0 ≤ k1.toInt) → (v4_count.toInt - k1.toInt).toNat < n4 → ∀ (H : Heap) (locs : List Loc), va_P D vwCl [O4 a4 r4 v4_count, (cI κ (r4 0) 8 f4_years), (cI κ (r4 1) 8 f4_slips)] H → va_D A [O4 a4 r4 v4_count, (cI κ (r4 0) 8 f4_years), (cI κ (r4 1) 8 f4_slips)] → va_S A s.heap H locs → ∀ ls : Array Slot, lv_has ls 4 [(2, .int k1), (1, .int k2), (0, .ref a4)] → W p l e ({ frames := 4, cells := 0, slots := 0, locals := 90 } : Room) s m args below meth c H locs 0 0 Q (F0 m 4 ls []) := by
    intro n4
    induction n4 with
    | zero =>
      intro k1 k2 h3 m4
      exact absurd m4 (Nat.not_lt_zero _)
    | succ n4 ih4 =>
      intro k1 k2 h3 m4 H locs hP hD hS ls hl
      refine lv_iload_n hx hb dX4_tree_4 rfl (lv_at hl 0 rfl) ?_
      refine lv_aload_n hx hb dX4_tree_5 rfl (lv_at hl 2 rfl) ?_
      refine va_get (D := D) (ci := 4) (v := .int v4_count) (C := RX4) (T := TX4) (N := 3) hx hb hts w1 hown hK.1 hP 0 rfl rfl 2 (by decide) w0 (fun _ h9 => h9) rfl dX4_tree_6 ?_
      refine lv_icmp_ge (tgt := 41) hx hb dX4_tree_9 (by decide) (fun c5 => ?_) (fun c5 => ?_)
      · have c5 := ci_le c5
        refine lv_iload_n hx hb dX4_tree_41 rfl (lv_at hl 1 rfl) ?_
        exact ret _ _ _ _ k2 () dX4_tree_42 trivial hP hD hS
      have c5 := ci_nle c5
      refine lv_aload_n hx hb dX4_tree_12 rfl (lv_at hl 2 rfl) ?_
      refine lv_iload_n hx hb dX4_tree_13 rfl (lv_at hl 0 rfl) ?_
      refine kcm_i hA hAB hP hD hS [true, true, true] rfl (fun _ => rfl) (fun hPc hDc => va_runV (As := [.int k1]) (rest := []) ⟨hx, hb, hml, hown, hts⟩ (k_X4_fatherOf l D κ β a4 r4 v4_count f4_years f4_slips H.size k1 i1 (by omega)) (cwV 1 hts gX4_tree_X4_fatherOf rfl rfl rfl (by decide +kernel) ⟨Nat.le_of_ble_eq_true rfl, Nat.le_of_ble_eq_true rfl⟩) (pk_V hK hS hAB hPc hDc 0 (ci := 4) rfl rfl rfl) rfl rfl hl.1 rfl (lv_room (Nat.le_of_ble_eq_true rfl)) dX4_tree_14 ⟨Nat.le_of_ble_eq_true rfl, Nat.le_of_ble_eq_true rfl⟩) (fun x6 u7 H locs hw hPD hS => ?_)
      have h8 : -1 ≤ x6.toInt ∧ x6.toInt < v4_count.toInt := hw
      obtain ⟨hP, hD⟩ : PD D A [O4 a4 r4 v4_count, (cI κ (r4 0) 8 f4_years), (cI κ (r4 1) 8 f4_slips)] H := hPD
      refine lv_istore_n (lv' := [(3, .int x6), (2, .int k1), (1, .int k2), (0, .ref a4)]) hx hb dX4_tree_17 rfl hl (by decide) rfl (fun ls hl => ?_)
      refine lv_iload_n hx hb dX4_tree_18 rfl (lv_at hl 2 rfl) ?_
      refine lv_iload_n hx hb dX4_tree_19 rfl (lv_at hl 0 rfl) ?_
      refine lv_if_ge (tgt := 27) hx hb dX4_tree_20 (by decide) (fun c9 => ?_) (fun c9 => ?_)
      · have c9 := ci_le c9
        refine lv_aload_n hx hb dX4_tree_27 rfl (lv_at hl 3 rfl) ?_
        refine lv_iload_n hx hb dX4_tree_28 rfl (lv_at hl 1 rfl) ?_
        refine lv_iload_n hx hb dX4_tree_29 rfl (lv_at hl 0 rfl) ?_
        refine kcm_i hA hAB hP hD hS [true, false, true] rfl (fun _ => rfl) (fun hPc hDc => va_runV (As := [.int k1, .int x6]) (rest := [.int k2]) ⟨hx, hb, hml, hown, hts⟩ (k_X4_apart l D κ β a4 r4 v4_count f4_slips H.size k1 x6 i1 (by omega) (by omega)) (cwV 2 hts gX4_tree_X4_apart rfl rfl rfl (by decide +kernel) ⟨Nat.le_of_ble_eq_true rfl, Nat.le_of_ble_eq_true rfl⟩) (pk_V hK hS hAB hPc hDc 0 (ci := 4) rfl rfl rfl) rfl rfl hl.1 rfl (lv_room (Nat.le_of_ble_eq_true rfl)) dX4_tree_30 ⟨Nat.le_of_ble_eq_true rfl, Nat.le_of_ble_eq_true rfl⟩) (fun x10 u11 H locs hw hPD hS => ?_)
        obtain ⟨hP, hD⟩ : PD D A [O4 a4 r4 v4_count, (cI κ (r4 0) 8 f4_years), (cI κ (r4 1) 8 f4_slips)] H := hPD
        refine lv_iadd hx hb dX4_tree_33 ?_
        refine lv_topi (fun x12 e13 => ?_)
        try have h14 : x12.toInt = k2.toInt + x10.toInt := ci_add e13 (by omega) (by omega)
        refine lv_istore_n (lv' := [(1, .int x12), (3, .int x6), (2, .int k1), (0, .ref a4)]) hx hb dX4_tree_34 rfl hl (by decide) rfl (fun ls hl => ?_)
        obtain ⟨x15, e16⟩ : ∃ y : Int32, y = k1 + 1 := ⟨_, rfl⟩
        refine lv_iinc (v := x15) (lv' := [(2, .int x15), (1, .int x12), (3, .int x6), (0, .ref a4)]) hx hb dX4_tree_35 hl (k := 2) rfl (by rw [e16]; rfl) (by decide) rfl (fun ls hl => ?_)
        try have h17 : x15.toInt = k1.toInt + (1 : Int32).toInt := ci_add e16 (by omega) (by omega)
        refine lv_goto (tgt := 4) hx hb dX4_tree_38 (by decide) ?_
        exact ih4 x15 x12 (by omega) (by omega) _ _ hP hD hS _ (lv_sub hl [0, 1, 3] rfl)
      have c9 := ci_nle c9
      refine lv_iconst (v := 0) hx hb dX4_tree_23 (by decide) ?_
      refine lv_goto (tgt := 33) hx hb dX4_tree_24 (by decide) ?_
      refine lv_iadd hx hb dX4_tree_33 ?_
      refine lv_topi (fun x18 e19 => ?_)
      try have h20 : x18.toInt = k2.toInt + (0 : Int32).toInt := ci_add e19 (by omega) (by omega)
      refine lv_istore_n (lv' := [(1, .int x18), (3, .int x6), (2, .int k1), (0, .ref a4)]) hx hb dX4_tree_34 rfl hl (by decide) rfl (fun ls hl => ?_)
      obtain ⟨x21, e22⟩ : ∃ y : Int32, y = k1 + 1 := ⟨_, rfl⟩
      refine lv_iinc (v := x21) (lv' := [(2, .int x21), (1, .int x18), (3, .int x6), (0, .ref a4)]) hx hb dX4_tree_35 hl (k := 2) rfl (by rw [e22]; rfl) (by decide) rfl (fun ls hl => ?_)
      try have h23 : x21.toInt = k1.toInt + (1 : Int32).toInt := ci_add e22 (by omega) (by omega)
      refine lv_goto (tgt := 4) hx hb dX4_tree_38 (by decide) ?_
      exact ih4 x21 x18 (by omega) (by omega) _ _ hP hD hS _ (lv_sub hl [0, 1, 3] rfl)
  exact lp4 ((v4_count.toInt - (0 : Int32).toInt).toNat + 1) 0 0 (by omega) (by omega) _ _ hP hD hS _ hl
set_option maxHeartbeats 4000000 in
set_option maxRecDepth 100000 in
theorem k_X4_sharedSlips (l : Launch) (D : va_G) (κ : Nat → ClassId) (β : Nat) (a4 : Nat) (r4 : Nat → Nat) (v4_count : Int32) (f4_slips : Nat → Int32) (sz : Nat) (p1 : Int32) (p2 : Int32) (i1 : Rg 0 8 v4_count) (i2 : 0 ≤ p1.toInt ∧ p1.toInt ≤ 7) (i3 : 0 ≤ p2.toInt ∧ p2.toInt ≤ 7) : Met l yX4_sharedSlips wsX4_sharedSlips ({ frames := 0, cells := 0, slots := 0, locals := 0 } : Room) (PcK D κ β [O4 a4 r4 v4_count, (cI κ (r4 1) 8 f4_slips)] sz [.ref a4, .int p1, .int p2]) (QiK D (fun (r : Int32) (u : Unit) => True) (fun (u : Unit) => [O4 a4 r4 v4_count, (cI κ (r4 1) 8 f4_slips)]) [O4 a4 r4 v4_count, (cI κ (r4 1) 8 f4_slips)] sz) 0 0 (va_A [O4 a4 r4 v4_count, (cI κ (r4 1) 8 f4_slips)] sz) := by
  refine ofK_i (cc := cX4_sharedSlips) (maxL := 5) (own := RX4) (by decide) rfl rfl (Nat.le_of_ble_eq_true rfl) ?_
  intro p e s m args below meth c Q A ls hsz hx hb hml hts hown hK hA hAB hP hD hl ret
  have hS : va_S A s.heap s.heap [] := va_S.rf
  have hl : lv_has ls 5 [(0, .ref a4), (1, .int p1), (2, .int p2)] := hl
  have w0 := hts (.fieldLink RX4 15 "OlderSkin$Maps" "slips" "[I") (List.mem_of_getElem? (i := 1) rfl)
  have w1 := (fun w h => List.mem_cons_of_mem _ (List.mem_append_right _ h) : ∀ w ∈ u_ws RX4 TX4 3, w ∈ wsX4_sharedSlips)
  have w2 := hts (.fieldLink RX4 18 "OlderSkin$Maps" "count" "I") (List.mem_of_getElem? (i := 2) rfl)
  have l0 : (0 : Int32).toInt = 0 := by decide
  have l1 : (1 : Int32).toInt = 1 := by decide
  have l2 : ((-1) : Int32).toInt = -1 := by decide
  have i1 : 0 ≤ v4_count.toInt ∧ v4_count.toInt ≤ 8 := i1
  refine lv_aload_n hx hb dX4_sharedSlips_0 rfl (lv_at hl 0 rfl) ?_
  refine va_get (D := D) (ci := 4) (v := .ref (r4 1)) (C := RX4) (T := TX4) (N := 3) hx hb hts w1 hown hK.1 hP 0 rfl rfl 1 (by decide) w0 (fun _ h9 => h9) rfl dX4_sharedSlips_1 ?_
  refine lv_iload_n hx hb dX4_sharedSlips_4 rfl (lv_at hl 1 rfl) ?_
  refine va_iald hx hb hK.1 hP 1 1 rfl rfl (i := p1) (ix (by omega) (by omega)) dX4_sharedSlips_5 ?_
  refine lv_topi (fun x1 e2 => ?_)
  refine lv_aload_n hx hb dX4_sharedSlips_6 rfl (lv_at hl 0 rfl) ?_
  refine va_get (D := D) (ci := 4) (v := .ref (r4 1)) (C := RX4) (T := TX4) (N := 3) hx hb hts w1 hown hK.1 hP 0 rfl rfl 1 (by decide) w0 (fun _ h9 => h9) rfl dX4_sharedSlips_7 ?_
  refine lv_iload_n hx hb dX4_sharedSlips_10 rfl (lv_at hl 2 rfl) ?_
  refine va_iald hx hb hK.1 hP 1 1 rfl rfl (i := p2) (ix (by omega) (by omega)) dX4_sharedSlips_11 ?_
  refine lv_topi (fun x3 e4 => ?_)
  refine lv_iand hx hb dX4_sharedSlips_12 ?_
  refine lv_topi (fun x5 e6 => ?_)
  refine lv_istore_n (lv' := [(3, .int x5), (0, .ref a4), (1, .int p1), (2, .int p2)]) hx hb dX4_sharedSlips_13 rfl hl (by decide) rfl (fun ls hl => ?_)
  refine lv_iconst (v := 0) hx hb dX4_sharedSlips_14 (by decide) ?_
  refine lv_istore (lv' := [(4, .int 0), (3, .int x5), (0, .ref a4), (1, .int p1), (2, .int p2)]) hx hb dX4_sharedSlips_15 hl (by decide) rfl (fun ls hl => ?_)
  have lp17 : ∀ (n17 : Nat) (k7 : Int32) (k8 : Int32), (0 ≤ k7.toInt) → (v4_count.toInt - k7.toInt).toNat < n17 → ∀ (H : Heap) (locs : List Loc), va_P D vwCl [O4 a4 r4 v4_count, (cI κ (r4 1) 8 f4_slips)] H → va_D A [O4 a4 r4 v4_count, (cI κ (r4 1) 8 f4_slips)] → va_S A s.heap H locs → ∀ ls : Array Slot, lv_has ls 5 [(4, .int k7), (3, .int k8), (0, .ref a4), (1, .int p1), (2, .int p2)] → W p l e ({ frames := 0, cells := 0, slots := 0, locals := 0 } : Room) s m args below meth c H locs 0 0 Q (F0 m 17 ls []) := by
    intro n17
    induction n17 with
    | zero =>
      intro k7 k8 h9 m10
      exact absurd m10 (Nat.not_lt_zero _)
    | succ n17 ih17 =>
      intro k7 k8 h9 m10 H locs hP hD hS ls hl
      refine lv_iload hx hb dX4_sharedSlips_17 (lv_at hl 0 rfl) ?_
      refine lv_aload_n hx hb dX4_sharedSlips_19 rfl (lv_at hl 2 rfl) ?_
      refine va_get (D := D) (ci := 4) (v := .int v4_count) (C := RX4) (T := TX4) (N := 3) hx hb hts w1 hown hK.1 hP 0 rfl rfl 2 (by decide) w2 (fun _ h9 => h9) rfl dX4_sharedSlips_20 ?_
      refine lv_icmp_ge (tgt := 56) hx hb dX4_sharedSlips_23 (by decide) (fun c11 => ?_) (fun c11 => ?_)
      · have c11 := ci_le c11
        refine lv_iload_n hx hb dX4_sharedSlips_56 rfl (lv_at hl 1 rfl) ?_
        exact ret _ _ _ _ k8 () dX4_sharedSlips_57 trivial hP hD hS
      have c11 := ci_nle c11
      refine lv_iload hx hb dX4_sharedSlips_26 (lv_at hl 0 rfl) ?_
      refine lv_iload_n hx hb dX4_sharedSlips_28 rfl (lv_at hl 3 rfl) ?_
      refine lv_icmp_eq (tgt := 50) hx hb dX4_sharedSlips_29 (by decide) (fun c12 => ?_) (fun c12 => ?_)
      · have c12 := ci_eq c12
        obtain ⟨x13, e14⟩ : ∃ y : Int32, y = k7 + 1 := ⟨_, rfl⟩
        refine lv_iinc (v := x13) (lv' := [(4, .int x13), (3, .int k8), (0, .ref a4), (1, .int p1), (2, .int p2)]) hx hb dX4_sharedSlips_50 hl (k := 0) rfl (by rw [e14]; rfl) (by decide) rfl (fun ls hl => ?_)
        try have h15 : x13.toInt = k7.toInt + (1 : Int32).toInt := ci_add e14 (by omega) (by omega)
        refine lv_goto (tgt := 17) hx hb dX4_sharedSlips_53 (by decide) ?_
        exact ih17 x13 k8 (by omega) (by omega) _ _ hP hD hS _ hl
      have c12 := ci_ne c12
      refine lv_iload hx hb dX4_sharedSlips_32 (lv_at hl 0 rfl) ?_
      refine lv_iload_n hx hb dX4_sharedSlips_34 rfl (lv_at hl 4 rfl) ?_
      refine lv_icmp_eq (tgt := 50) hx hb dX4_sharedSlips_35 (by decide) (fun c16 => ?_) (fun c16 => ?_)
      · have c16 := ci_eq c16
        obtain ⟨x17, e18⟩ : ∃ y : Int32, y = k7 + 1 := ⟨_, rfl⟩
        refine lv_iinc (v := x17) (lv' := [(4, .int x17), (3, .int k8), (0, .ref a4), (1, .int p1), (2, .int p2)]) hx hb dX4_sharedSlips_50 hl (k := 0) rfl (by rw [e18]; rfl) (by decide) rfl (fun ls hl => ?_)
        try have h19 : x17.toInt = k7.toInt + (1 : Int32).toInt := ci_add e18 (by omega) (by omega)
        refine lv_goto (tgt := 17) hx hb dX4_sharedSlips_53 (by decide) ?_
        exact ih17 x17 k8 (by omega) (by omega) _ _ hP hD hS _ hl
      have c16 := ci_ne c16
      refine lv_iload_n hx hb dX4_sharedSlips_38 rfl (lv_at hl 1 rfl) ?_
      refine lv_aload_n hx hb dX4_sharedSlips_39 rfl (lv_at hl 2 rfl) ?_
      refine va_get (D := D) (ci := 4) (v := .ref (r4 1)) (C := RX4) (T := TX4) (N := 3) hx hb hts w1 hown hK.1 hP 0 rfl rfl 1 (by decide) w0 (fun _ h9 => h9) rfl dX4_sharedSlips_40 ?_
      refine lv_iload hx hb dX4_sharedSlips_43 (lv_at hl 0 rfl) ?_
      refine va_iald hx hb hK.1 hP 1 1 rfl rfl (i := k7) (ix (by omega) (by omega)) dX4_sharedSlips_45 ?_
      refine lv_topi (fun x20 e21 => ?_)
      refine lv_iconst (v := (-1)) hx hb dX4_sharedSlips_46 (by decide) ?_
      refine lv_ixor hx hb dX4_sharedSlips_47 ?_
      refine lv_topi (fun x22 e23 => ?_)
      refine lv_iand hx hb dX4_sharedSlips_48 ?_
      refine lv_topi (fun x24 e25 => ?_)
      refine lv_istore_n (lv' := [(3, .int x24), (4, .int k7), (0, .ref a4), (1, .int p1), (2, .int p2)]) hx hb dX4_sharedSlips_49 rfl hl (by decide) rfl (fun ls hl => ?_)
      obtain ⟨x26, e27⟩ : ∃ y : Int32, y = k7 + 1 := ⟨_, rfl⟩
      refine lv_iinc (v := x26) (lv' := [(4, .int x26), (3, .int x24), (0, .ref a4), (1, .int p1), (2, .int p2)]) hx hb dX4_sharedSlips_50 hl (k := 1) rfl (by rw [e27]; rfl) (by decide) rfl (fun ls hl => ?_)
      try have h28 : x26.toInt = k7.toInt + (1 : Int32).toInt := ci_add e27 (by omega) (by omega)
      refine lv_goto (tgt := 17) hx hb dX4_sharedSlips_53 (by decide) ?_
      exact ih17 x26 x24 (by omega) (by omega) _ _ hP hD hS _ hl
  exact lp17 ((v4_count.toInt - (0 : Int32).toInt).toNat + 1) 0 x5 (by omega) (by omega) _ _ hP hD hS _ hl
