set_option maxHeartbeats 4000000 in
set_option maxRecDepth 100000 in
theorem k_X4_isMap (l : Launch) (D : va_G) (κ : Nat → ClassId) (β : Nat) (a4 : Nat) (r4 : Nat → Nat) (v4_count : Int32) (sz : Nat) (p1 : Int32) (i1 : Rg 0 8 v4_count) (i2 : v4_count.toInt = 0) : Met l yX4_isMap wsX4_isMap ({ frames := 1, cells := 0, slots := 0, locals := 22 } : Room) (PcK D κ β [O4 a4 r4 v4_count] sz [.ref a4, .int p1]) (QiK D (fun (r : Int32) (u : Unit) => (r.toInt = 1 ∧ 0 ≤ p1.toInt ∧ p1.toInt < v4_count.toInt) ∨ (r.toInt = 0 ∧ (p1.toInt < 0 ∨ v4_count.toInt ≤ p1.toInt))) (fun (u : Unit) => [O4 a4 r4 v4_count]) [O4 a4 r4 v4_count] sz) 0 0 (va_A [O4 a4 r4 v4_count] sz) := by
  refine ofK_z (cc := cX4_isMap) (maxL := 2) (own := RX4) (by decide) rfl rfl (Nat.le_of_ble_eq_true rfl) ?_
  intro p e s m args below meth c Q A ls hsz hx hb hml hts hown hK hA hAB hP hD hl ret
  have hS : va_S A s.heap s.heap [] := va_S.rf
  have hl : lv_has ls 2 [(0, .ref a4), (1, .int p1)] := hl
  have w0 := hts (.fieldLink RX4 18 "OlderSkin$Maps" "count" "I") (List.mem_of_getElem? (i := 1) rfl)
  have w1 := (fun w h => List.mem_cons_of_mem _ (List.mem_append_right _ h) : ∀ w ∈ u_ws RX4 TX4 3, w ∈ wsX4_isMap)
  have w2 := hts (.initialized RX11) (List.mem_of_getElem? (i := 3) rfl)
  have w3 := hts (.static yX11_within) (List.mem_of_getElem? (i := 2) rfl)
  have w4 := hK.2.1 ("OlderSkin$Maps", 22, ⟨"OlderSkin", "within", "(III)Z"⟩, "OlderSkin") (by decide +kernel)
  have l0 : (0 : Int32).toInt = 0 := by decide
  have l1 : (1 : Int32).toInt = 1 := by decide
  have i1 : 0 ≤ v4_count.toInt ∧ v4_count.toInt ≤ 8 := i1
  refine lv_iload_n hx hb dX4_isMap_0 rfl (lv_at hl 1 rfl) ?_
  refine lv_iconst (v := 0) hx hb dX4_isMap_1 (by decide) ?_
  refine lv_aload_n hx hb dX4_isMap_2 rfl (lv_at hl 0 rfl) ?_
  refine va_get (D := D) (ci := 4) (v := .int v4_count) (C := RX4) (T := TX4) (N := 3) hx hb hts w1 hown hK.1 hP 0 rfl rfl 2 (by decide) w0 (fun _ h9 => h9) rfl dX4_isMap_3 ?_
  refine lv_iconst (v := 1) hx hb dX4_isMap_6 (by decide) ?_
  refine lv_isub hx hb dX4_isMap_7 ?_
  refine lv_topi (fun x1 e2 => ?_)
  try have h3 : x1.toInt = v4_count.toInt - (1 : Int32).toInt := ci_sub e2 (by omega) (by omega)
  refine kcm_i hA hAB hP hD hS [false] rfl (fun _ => rfl) (fun hPc hDc => va_runSN (As := [.int p1, .int 0, .int x1]) (rest := []) ⟨hx, hb, hml, hown, hts⟩ (k_X11_within l D κ β s.heap.size p1 0 x1) ⟨va_cnB 3 hts gX4_isMap_X11_within_n22 rfl rfl rfl w4 w2 (by decide +kernel) ⟨Nat.le_of_ble_eq_true rfl, Nat.le_of_ble_eq_true rfl⟩, w3, trivial⟩ (pk_S hK hS hAB hPc hDc) rfl rfl hl.1 rfl (lv_room (Nat.le_of_ble_eq_true rfl)) dX4_isMap_8 ⟨Nat.le_of_ble_eq_true rfl, Nat.le_of_ble_eq_true rfl⟩) (fun x4 u5 H locs hw hPD hS => ?_)
  have h6 : (x4.toInt = 1 ∧ (0 : Int32).toInt ≤ p1.toInt ∧ p1.toInt ≤ x1.toInt) ∨ (x4.toInt = 0 ∧ (p1.toInt < (0 : Int32).toInt ∨ x1.toInt < p1.toInt)) := hw
  obtain ⟨hP, hD⟩ : PD D A [O4 a4 r4 v4_count] H := hPD
  have hpo : (x4.toInt = 1 ∧ 0 ≤ p1.toInt ∧ p1.toInt < v4_count.toInt) ∨ (x4.toInt = 0 ∧ (p1.toInt < 0 ∨ v4_count.toInt ≤ p1.toInt)) := (by omega)
  exact ret _ _ _ _ x4 () dX4_isMap_11 (by omega) hpo hP hD hS
set_option maxHeartbeats 4000000 in
set_option maxRecDepth 100000 in
theorem k_X4_add (l : Launch) (D : va_G) (κ : Nat → ClassId) (β : Nat) (a4 : Nat) (r4 : Nat → Nat) (v4_count : Int32) (f4_years : Nat → Int32) (f4_slips : Nat → Int32) (sz : Nat) (p1 : Int32) (p2 : Int32) (i1 : Rg 0 8 v4_count) (i2 : v4_count.toInt = 0) : Met l yX4_add wsX4_add ({ frames := 0, cells := 0, slots := 0, locals := 0 } : Room) (PcK D κ β [O4 a4 r4 v4_count, (cI κ (r4 0) 8 f4_years), (cI κ (r4 1) 8 f4_slips)] sz [.ref a4, .int p1, .int p2]) (QiK D (fun (r : Int32) (u : Int32 × (Nat → Int32) × (Nat → Int32)) => (0 ≤ u.1.toInt ∧ u.1.toInt ≤ 8) ∧ ((v4_count.toInt = 8 ∧ r.toInt = -3 ∧ u.1.toInt = v4_count.toInt) ∨ (v4_count.toInt < 8 ∧ r.toInt = v4_count.toInt ∧ u.1.toInt = v4_count.toInt + 1))) (fun (u : Int32 × (Nat → Int32) × (Nat → Int32)) => [O4 a4 r4 u.1, (cI κ (r4 0) 8 u.2.1), (cI κ (r4 1) 8 u.2.2)]) [O4 a4 r4 v4_count, (cI κ (r4 0) 8 f4_years), (cI κ (r4 1) 8 f4_slips)] sz) 0 0 (va_A [O4 a4 r4 v4_count, (cI κ (r4 0) 8 f4_years), (cI κ (r4 1) 8 f4_slips)] sz) := by
  refine ofK_i (cc := cX4_add) (maxL := 3) (own := RX4) (by decide) rfl rfl (Nat.le_of_ble_eq_true rfl) ?_
  intro p e s m args below meth c Q A ls hsz hx hb hml hts hown hK hA hAB hP hD hl ret
  have hS : va_S A s.heap s.heap [] := va_S.rf
  have hl : lv_has ls 3 [(0, .ref a4), (1, .int p1), (2, .int p2)] := hl
  have w0 := hts (.fieldLink RX4 18 "OlderSkin$Maps" "count" "I") (List.mem_of_getElem? (i := 1) rfl)
  have w1 := (fun w h => List.mem_cons_of_mem _ (List.mem_append_right _ h) : ∀ w ∈ u_ws RX4 TX4 3, w ∈ wsX4_add)
  have w2 := hts (.fieldLink RX4 9 "OlderSkin$Maps" "years" "[I") (List.mem_of_getElem? (i := 2) rfl)
  have w3 := hts (.fieldLink RX4 15 "OlderSkin$Maps" "slips" "[I") (List.mem_of_getElem? (i := 3) rfl)
  have l0 : (8 : Int32).toInt = 8 := by decide
  have l1 : (0 : Int32).toInt = 0 := by decide
  have l2 : (1 : Int32).toInt = 1 := by decide
  have l3 : ((-3) : Int32).toInt = -3 := by decide
  have i1 : 0 ≤ v4_count.toInt ∧ v4_count.toInt ≤ 8 := i1
  refine lv_aload_n hx hb dX4_add_0 rfl (lv_at hl 0 rfl) ?_
  refine va_get (D := D) (ci := 4) (v := .int v4_count) (C := RX4) (T := TX4) (N := 3) hx hb hts w1 hown hK.1 hP 0 rfl rfl 2 (by decide) w0 (fun _ h9 => h9) rfl dX4_add_1 ?_
  refine lv_aload_n hx hb dX4_add_4 rfl (lv_at hl 0 rfl) ?_
  refine va_get (D := D) (ci := 4) (v := .ref (r4 0)) (C := RX4) (T := TX4) (N := 3) hx hb hts w1 hown hK.1 hP 0 rfl rfl 0 (by decide) w2 (fun _ h9 => h9) rfl dX4_add_5 ?_
  refine va_alen hx hb hK.1 hP 1 1 rfl rfl (v := 8) rfl dX4_add_8 ?_
  refine lv_icmp_ne (tgt := 15) hx hb dX4_add_9 (by decide) (fun c1 => ?_) (fun c1 => ?_)
  · have c1 := ci_ne c1
    refine lv_aload_n hx hb dX4_add_15 rfl (lv_at hl 0 rfl) ?_
    refine va_get (D := D) (ci := 4) (v := .ref (r4 0)) (C := RX4) (T := TX4) (N := 3) hx hb hts w1 hown hK.1 hP 0 rfl rfl 0 (by decide) w2 (fun _ h9 => h9) rfl dX4_add_16 ?_
    refine lv_aload_n hx hb dX4_add_19 rfl (lv_at hl 0 rfl) ?_
    refine va_get (D := D) (ci := 4) (v := .int v4_count) (C := RX4) (T := TX4) (N := 3) hx hb hts w1 hown hK.1 hP 0 rfl rfl 2 (by decide) w0 (fun _ h9 => h9) rfl dX4_add_20 ?_
    refine lv_iload_n hx hb dX4_add_23 rfl (lv_at hl 1 rfl) ?_
    refine va_iast hx hb hK.1 hP hD hS 1 1 rfl rfl (i := v4_count) (ix (by omega) (by omega)) dX4_add_24 (fun H locs hP hD hS => ?_)
    obtain ⟨g2, e3⟩ : ∃ y : Nat → Int32, y = upd f4_years v4_count.toNatClampNeg p1 := ⟨_, rfl⟩
    rw [← e3] at hP hD
    obtain ⟨hP, hD⟩ : PD D A [O4 a4 r4 v4_count, (cI κ (r4 0) 8 g2), (cI κ (r4 1) 8 f4_slips)] H := ⟨hP, hD⟩
    refine lv_aload_n hx hb dX4_add_25 rfl (lv_at hl 0 rfl) ?_
    refine va_get (D := D) (ci := 4) (v := .ref (r4 1)) (C := RX4) (T := TX4) (N := 3) hx hb hts w1 hown hK.1 hP 0 rfl rfl 1 (by decide) w3 (fun _ h9 => h9) rfl dX4_add_26 ?_
    refine lv_aload_n hx hb dX4_add_29 rfl (lv_at hl 0 rfl) ?_
    refine va_get (D := D) (ci := 4) (v := .int v4_count) (C := RX4) (T := TX4) (N := 3) hx hb hts w1 hown hK.1 hP 0 rfl rfl 2 (by decide) w0 (fun _ h9 => h9) rfl dX4_add_30 ?_
    refine lv_iload_n hx hb dX4_add_33 rfl (lv_at hl 2 rfl) ?_
    refine va_iast hx hb hK.1 hP hD hS 2 1 rfl rfl (i := v4_count) (ix (by omega) (by omega)) dX4_add_34 (fun H locs hP hD hS => ?_)
    obtain ⟨g4, e5⟩ : ∃ y : Nat → Int32, y = upd f4_slips v4_count.toNatClampNeg p2 := ⟨_, rfl⟩
    rw [← e5] at hP hD
    obtain ⟨hP, hD⟩ : PD D A [O4 a4 r4 v4_count, (cI κ (r4 0) 8 g2), (cI κ (r4 1) 8 g4)] H := ⟨hP, hD⟩
    refine lv_aload_n hx hb dX4_add_35 rfl (lv_at hl 0 rfl) ?_
    refine lv_dup hx hb dX4_add_36 rfl ?_
    refine va_get (D := D) (ci := 4) (v := .int v4_count) (C := RX4) (T := TX4) (N := 3) hx hb hts w1 hown hK.1 hP 0 rfl rfl 2 (by decide) w0 (fun _ h9 => h9) rfl dX4_add_37 ?_
    refine lv_dup_x1 hx hb dX4_add_40 rfl rfl ?_
    refine lv_iconst (v := 1) hx hb dX4_add_41 (by decide) ?_
    refine lv_iadd hx hb dX4_add_42 ?_
    refine lv_topi (fun x6 e7 => ?_)
    try have h8 : x6.toInt = v4_count.toInt + (1 : Int32).toInt := ci_add e7 (by omega) (by omega)
    refine va_put (D := D) (ci := 4) (v := .int x6) (ty := .int) (C := RX4) (T := TX4) (N := 3) hx hb hts w1 tyX4 tyX4_ok nmX4 hown hK.1 hP hD hS 0 rfl rfl 2 (by decide) w0 (fun _ h9 => h9) rfl (by decide +kernel) rfl rfl (Nat.le_of_ble_eq_true rfl) dX4_add_43 (fun H locs hP hD hS => ?_)
    obtain ⟨hP, hD⟩ : PD D A [O4 a4 r4 x6, (cI κ (r4 0) 8 g2), (cI κ (r4 1) 8 g4)] H := ⟨hP, hD⟩
    have h9 : 0 ≤ x6.toInt ∧ x6.toInt ≤ 8 := by omega
    have hpo : (0 ≤ x6.toInt ∧ x6.toInt ≤ 8) ∧ ((v4_count.toInt = 8 ∧ v4_count.toInt = -3 ∧ x6.toInt = v4_count.toInt) ∨ (v4_count.toInt < 8 ∧ v4_count.toInt = v4_count.toInt ∧ x6.toInt = v4_count.toInt + 1)) := ⟨h9, (by omega)⟩
    exact ret _ _ _ _ v4_count (x6, g2, g4) dX4_add_46 hpo hP hD hS
  have c1 := ci_eq c1
  refine lv_bipush (v := (-3)) hx hb dX4_add_12 (by decide) ?_
  have hpo : (0 ≤ v4_count.toInt ∧ v4_count.toInt ≤ 8) ∧ ((v4_count.toInt = 8 ∧ ((-3) : Int32).toInt = -3 ∧ v4_count.toInt = v4_count.toInt) ∨ (v4_count.toInt < 8 ∧ ((-3) : Int32).toInt = v4_count.toInt ∧ v4_count.toInt = v4_count.toInt + 1)) := ⟨i1, (by omega)⟩
  exact ret _ _ _ _ (-3) (v4_count, f4_years, f4_slips) dX4_add_14 hpo hP hD hS
set_option maxHeartbeats 4000000 in
set_option maxRecDepth 100000 in
theorem k_X4_apart (l : Launch) (D : va_G) (κ : Nat → ClassId) (β : Nat) (a4 : Nat) (r4 : Nat → Nat) (v4_count : Int32) (sz : Nat) (p1 : Int32) (p2 : Int32) (i1 : Rg 0 8 v4_count) (i2 : (1 : Int) ≤ 0) : Met l yX4_apart wsX4_apart ({ frames := 1, cells := 0, slots := 0, locals := 30 } : Room) (PcK D κ β [O4 a4 r4 v4_count] sz [.ref a4, .int p1, .int p2]) (QiK D (fun (r : Int32) (u : Unit) => True) (fun (u : Unit) => [O4 a4 r4 v4_count]) [O4 a4 r4 v4_count] sz) 0 0 (va_A [O4 a4 r4 v4_count] sz) := by
  refine ofK_i (cc := cX4_apart) (maxL := 3) (own := RX4) (by decide) rfl rfl (Nat.le_of_ble_eq_true rfl) ?_
  intro p e s m args below meth c Q A ls hsz hx hb hml hts hown hK hA hAB hP hD hl ret
  have hS : va_S A s.heap s.heap [] := va_S.rf
  have hl : lv_has ls 3 [(0, .ref a4), (1, .int p1), (2, .int p2)] := hl
  exfalso
  omega
set_option maxHeartbeats 4000000 in
set_option maxRecDepth 100000 in
theorem k_X4_isNearer (l : Launch) (D : va_G) (κ : Nat → ClassId) (β : Nat) (a4 : Nat) (r4 : Nat → Nat) (v4_count : Int32) (sz : Nat) (p1 : Int32) (p2 : Int32) (p3 : Int32) (i1 : Rg 0 8 v4_count) (i2 : (1 : Int) ≤ 0) : Met l yX4_isNearer wsX4_isNearer ({ frames := 1, cells := 0, slots := 0, locals := 30 } : Room) (PcK D κ β [O4 a4 r4 v4_count] sz [.ref a4, .int p1, .int p2, .int p3]) (QiK D (fun (r : Int32) (u : Unit) => r.toInt = 0 ∨ r.toInt = 1) (fun (u : Unit) => [O4 a4 r4 v4_count]) [O4 a4 r4 v4_count] sz) 0 0 (va_A [O4 a4 r4 v4_count] sz) := by
  refine ofK_z (cc := cX4_isNearer) (maxL := 6) (own := RX4) (by decide) rfl rfl (Nat.le_of_ble_eq_true rfl) ?_
  intro p e s m args below meth c Q A ls hsz hx hb hml hts hown hK hA hAB hP hD hl ret
  have hS : va_S A s.heap s.heap [] := va_S.rf
  have hl : lv_has ls 6 [(0, .ref a4), (1, .int p1), (2, .int p2), (3, .int p3)] := hl
  exfalso
  omega
set_option maxHeartbeats 4000000 in
set_option maxRecDepth 100000 in
theorem k_X4_fatherOf (l : Launch) (D : va_G) (κ : Nat → ClassId) (β : Nat) (a4 : Nat) (r4 : Nat → Nat) (v4_count : Int32) (sz : Nat) (p1 : Int32) (i1 : Rg 0 8 v4_count) (i2 : (1 : Int) ≤ 0) : Met l yX4_fatherOf wsX4_fatherOf ({ frames := 1, cells := 0, slots := 0, locals := 30 } : Room) (PcK D κ β [O4 a4 r4 v4_count] sz [.ref a4, .int p1]) (QiK D (fun (r : Int32) (u : Unit) => True) (fun (u : Unit) => [O4 a4 r4 v4_count]) [O4 a4 r4 v4_count] sz) 0 0 (va_A [O4 a4 r4 v4_count] sz) := by
  refine ofK_i (cc := cX4_fatherOf) (maxL := 4) (own := RX4) (by decide) rfl rfl (Nat.le_of_ble_eq_true rfl) ?_
  intro p e s m args below meth c Q A ls hsz hx hb hml hts hown hK hA hAB hP hD hl ret
  have hS : va_S A s.heap s.heap [] := va_S.rf
  have hl : lv_has ls 4 [(0, .ref a4), (1, .int p1)] := hl
  have i1 : 0 ≤ v4_count.toInt ∧ v4_count.toInt ≤ 8 := i1
  exfalso
  omega
set_option maxHeartbeats 4000000 in
set_option maxRecDepth 100000 in
theorem k_X4_leadsTo (l : Launch) (D : va_G) (κ : Nat → ClassId) (β : Nat) (a4 : Nat) (r4 : Nat → Nat) (v4_count : Int32) (sz : Nat) (p1 : Int32) (p2 : Int32) (i1 : Rg 0 8 v4_count) (i2 : (1 : Int) ≤ 0) : Met l yX4_leadsTo wsX4_leadsTo ({ frames := 1, cells := 0, slots := 0, locals := 30 } : Room) (PcK D κ β [O4 a4 r4 v4_count] sz [.ref a4, .int p1, .int p2]) (QiK D (fun (r : Int32) (u : Unit) => r.toInt = 0 ∨ r.toInt = 1) (fun (u : Unit) => [O4 a4 r4 v4_count]) [O4 a4 r4 v4_count] sz) 0 0 (va_A [O4 a4 r4 v4_count] sz) := by
  refine ofK_z (cc := cX4_leadsTo) (maxL := 5) (own := RX4) (by decide) rfl rfl (Nat.le_of_ble_eq_true rfl) ?_
  intro p e s m args below meth c Q A ls hsz hx hb hml hts hown hK hA hAB hP hD hl ret
  have hS : va_S A s.heap s.heap [] := va_S.rf
  have hl : lv_has ls 5 [(0, .ref a4), (1, .int p1), (2, .int p2)] := hl
  have i1 : 0 ≤ v4_count.toInt ∧ v4_count.toInt ≤ 8 := i1
  exfalso
  omega
set_option maxHeartbeats 4000000 in
set_option maxRecDepth 100000 in
theorem k_X4_tree (l : Launch) (D : va_G) (κ : Nat → ClassId) (β : Nat) (a4 : Nat) (r4 : Nat → Nat) (v4_count : Int32) (sz : Nat) (i1 : Rg 0 8 v4_count) (i2 : v4_count.toInt = 0) : Met l yX4_tree wsX4_tree ({ frames := 0, cells := 0, slots := 0, locals := 0 } : Room) (PcK D κ β [O4 a4 r4 v4_count] sz [.ref a4]) (QiK D (fun (r : Int32) (u : Unit) => r.toInt = 0) (fun (u : Unit) => [O4 a4 r4 v4_count]) [O4 a4 r4 v4_count] sz) 0 0 (va_A [O4 a4 r4 v4_count] sz) := by
  refine ofK_i (cc := cX4_tree) (maxL := 4) (own := RX4) (by decide) rfl rfl (Nat.le_of_ble_eq_true rfl) ?_
  intro p e s m args below meth c Q A ls hsz hx hb hml hts hown hK hA hAB hP hD hl ret
  have hS : va_S A s.heap s.heap [] := va_S.rf
  have hl : lv_has ls 4 [(0, .ref a4)] := hl
  have w0 := hts (.fieldLink RX4 18 "OlderSkin$Maps" "count" "I") (List.mem_of_getElem? (i := 1) rfl)
  have w1 := (fun w h => List.mem_cons_of_mem _ (List.mem_append_right _ h) : ∀ w ∈ u_ws RX4 TX4 3, w ∈ wsX4_tree)
  have l0 : (0 : Int32).toInt = 0 := by decide
  have i1 : 0 ≤ v4_count.toInt ∧ v4_count.toInt ≤ 8 := i1
  refine lv_iconst (v := 0) hx hb dX4_tree_0 (by decide) ?_
  refine lv_istore_n (lv' := [(1, .int 0), (0, .ref a4)]) hx hb dX4_tree_1 rfl hl (by decide) rfl (fun ls hl => ?_)
  refine lv_iconst (v := 0) hx hb dX4_tree_2 (by decide) ?_
  refine lv_istore_n (lv' := [(2, .int 0), (1, .int 0), (0, .ref a4)]) hx hb dX4_tree_3 rfl hl (by decide) rfl (fun ls hl => ?_)
  have lp4 : ∀ (n4 : Nat), (0 ≤ (0 : Int32).toInt) → (v4_count.toInt - (0 : Int32).toInt).toNat < n4 → ∀ (H : Heap) (locs : List Loc), va_P D vwCl [O4 a4 r4 v4_count] H → va_D A [O4 a4 r4 v4_count] → va_S A s.heap H locs → ∀ ls : Array Slot, lv_has ls 4 [(2, .int 0), (1, .int 0), (0, .ref a4)] → W p l e ({ frames := 0, cells := 0, slots := 0, locals := 0 } : Room) s m args below meth c H locs 0 0 Q (F0 m 4 ls []) := by
    intro n4
    induction n4 with
    | zero =>
      intro h1 m2
      exact absurd m2 (Nat.not_lt_zero _)
    | succ n4 ih4 =>
      intro h1 m2 H locs hP hD hS ls hl
      refine lv_iload_n hx hb dX4_tree_4 rfl (lv_at hl 0 rfl) ?_
      refine lv_aload_n hx hb dX4_tree_5 rfl (lv_at hl 2 rfl) ?_
      refine va_get (D := D) (ci := 4) (v := .int v4_count) (C := RX4) (T := TX4) (N := 3) hx hb hts w1 hown hK.1 hP 0 rfl rfl 2 (by decide) w0 (fun _ h9 => h9) rfl dX4_tree_6 ?_
      refine lv_icmp_ge (tgt := 41) hx hb dX4_tree_9 (by decide) (fun c3 => ?_) (fun c3 => ?_)
      · have c3 := ci_le c3
        refine lv_iload_n hx hb dX4_tree_41 rfl (lv_at hl 1 rfl) ?_
        have hpo : (0 : Int32).toInt = 0 := (by omega)
        exact ret _ _ _ _ 0 () dX4_tree_42 hpo hP hD hS
      have c3 := ci_nle c3
      exfalso
      omega
  exact lp4 ((v4_count.toInt - (0 : Int32).toInt).toNat + 1) (by omega) (by omega) _ _ hP hD hS _ hl
set_option maxHeartbeats 4000000 in
set_option maxRecDepth 100000 in
theorem k_X4_sharedSlips (l : Launch) (D : va_G) (κ : Nat → ClassId) (β : Nat) (a4 : Nat) (r4 : Nat → Nat) (v4_count : Int32) (sz : Nat) (p1 : Int32) (p2 : Int32) (i1 : Rg 0 8 v4_count) (i2 : (1 : Int) ≤ 0) : Met l yX4_sharedSlips wsX4_sharedSlips ({ frames := 1, cells := 0, slots := 0, locals := 30 } : Room) (PcK D κ β [O4 a4 r4 v4_count] sz [.ref a4, .int p1, .int p2]) (QiK D (fun (r : Int32) (u : Unit) => True) (fun (u : Unit) => [O4 a4 r4 v4_count]) [O4 a4 r4 v4_count] sz) 0 0 (va_A [O4 a4 r4 v4_count] sz) := by
  refine ofK_i (cc := cX4_sharedSlips) (maxL := 5) (own := RX4) (by decide) rfl rfl (Nat.le_of_ble_eq_true rfl) ?_
  intro p e s m args below meth c Q A ls hsz hx hb hml hts hown hK hA hAB hP hD hl ret
  have hS : va_S A s.heap s.heap [] := va_S.rf
  have hl : lv_has ls 5 [(0, .ref a4), (1, .int p1), (2, .int p2)] := hl
  have i1 : 0 ≤ v4_count.toInt ∧ v4_count.toInt ≤ 8 := i1
  exfalso
  omega
