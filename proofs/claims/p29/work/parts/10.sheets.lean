set_option maxHeartbeats 4000000 in
set_option maxRecDepth 100000 in
theorem k_X7_isSheet (l : Launch) (D : va_G) (κ : Nat → ClassId) (β : Nat) (a7 : Nat) (r7 : Nat → Nat) (v7_count : Int32) (v7_holes : Int32) (v7_worms : Int32) (sz : Nat) (p1 : Int32) (i1 : Rg 0 8 v7_count) (i2 : Rg 0 40 v7_holes) (i3 : Rg 0 40 v7_worms) : Met l yX7_isSheet wsX7_isSheet ({ frames := 1, cells := 0, slots := 0, locals := 22 } : Room) (PcK D κ β [O7 a7 r7 v7_count v7_holes v7_worms] sz [.ref a7, .int p1]) (QiK D (fun (r : Int32) (u : Unit) => (r.toInt = 1 ∧ 0 ≤ p1.toInt ∧ p1.toInt < v7_count.toInt) ∨ (r.toInt = 0 ∧ (p1.toInt < 0 ∨ v7_count.toInt ≤ p1.toInt))) (fun (u : Unit) => [O7 a7 r7 v7_count v7_holes v7_worms]) [O7 a7 r7 v7_count v7_holes v7_worms] sz) 0 0 (va_A [O7 a7 r7 v7_count v7_holes v7_worms] sz) := by
  refine ofK_z (cc := cX7_isSheet) (maxL := 2) (own := RX7) (by decide) rfl rfl (Nat.le_of_ble_eq_true rfl) ?_
  intro p e s m args below meth c Q A ls hsz hx hb hml hts hown hK hA hAB hP hD hl ret
  have hS : va_S A s.heap s.heap [] := va_S.rf
  have hl : lv_has ls 2 [(0, .ref a7), (1, .int p1)] := hl
  have w0 := hts (.fieldLink RX7 30 "OlderSkin$Sheets" "count" "I") (List.mem_of_getElem? (i := 1) rfl)
  have w1 := (fun w h => List.mem_cons_of_mem _ (List.mem_append_right _ h) : ∀ w ∈ u_ws RX7 TX7 9, w ∈ wsX7_isSheet)
  have w2 := hts (.initialized RX11) (List.mem_of_getElem? (i := 3) rfl)
  have w3 := hts (.static yX11_within) (List.mem_of_getElem? (i := 2) rfl)
  have w4 := hK.2.1 ("OlderSkin$Sheets", 34, ⟨"OlderSkin", "within", "(III)Z"⟩, "OlderSkin") (by decide +kernel)
  have l0 : (0 : Int32).toInt = 0 := by decide
  have l1 : (1 : Int32).toInt = 1 := by decide
  have i1 : 0 ≤ v7_count.toInt ∧ v7_count.toInt ≤ 8 := i1
  refine lv_iload_n hx hb dX7_isSheet_0 rfl (lv_at hl 1 rfl) ?_
  refine lv_iconst (v := 0) hx hb dX7_isSheet_1 (by decide) ?_
  refine lv_aload_n hx hb dX7_isSheet_2 rfl (lv_at hl 0 rfl) ?_
  refine va_get (D := D) (ci := 7) (v := .int v7_count) (C := RX7) (T := TX7) (N := 9) hx hb hts w1 hown hK.1 hP 0 rfl rfl 1 (by decide) w0 (fun _ h9 => h9) rfl dX7_isSheet_3 ?_
  refine lv_iconst (v := 1) hx hb dX7_isSheet_6 (by decide) ?_
  refine lv_isub hx hb dX7_isSheet_7 ?_
  refine lv_topi (fun x1 e2 => ?_)
  try have h3 : x1.toInt = v7_count.toInt - (1 : Int32).toInt := ci_sub e2 (by omega) (by omega)
  refine kcm_i hA hAB hP hD hS [false] rfl (fun _ => rfl) (fun hPc hDc => va_runSN (As := [.int p1, .int 0, .int x1]) (rest := []) ⟨hx, hb, hml, hown, hts⟩ (k_X11_within l D κ β s.heap.size p1 0 x1) ⟨va_cnB 3 hts gX7_isSheet_X11_within_n34 rfl rfl rfl w4 w2 (by decide +kernel) ⟨Nat.le_of_ble_eq_true rfl, Nat.le_of_ble_eq_true rfl⟩, w3, trivial⟩ (pk_S hK hS hAB hPc hDc) rfl rfl hl.1 rfl (lv_room (Nat.le_of_ble_eq_true rfl)) dX7_isSheet_8 ⟨Nat.le_of_ble_eq_true rfl, Nat.le_of_ble_eq_true rfl⟩) (fun x4 u5 H locs hw hPD hS => ?_)
  have h6 : (x4.toInt = 1 ∧ (0 : Int32).toInt ≤ p1.toInt ∧ p1.toInt ≤ x1.toInt) ∨ (x4.toInt = 0 ∧ (p1.toInt < (0 : Int32).toInt ∨ x1.toInt < p1.toInt)) := hw
  obtain ⟨hP, hD⟩ : PD D A [O7 a7 r7 v7_count v7_holes v7_worms] H := hPD
  have hpo : (x4.toInt = 1 ∧ 0 ≤ p1.toInt ∧ p1.toInt < v7_count.toInt) ∨ (x4.toInt = 0 ∧ (p1.toInt < 0 ∨ v7_count.toInt ≤ p1.toInt)) := (by omega)
  exact ret _ _ _ _ x4 () dX7_isSheet_11 (by omega) hpo hP hD hS
set_option maxHeartbeats 4000000 in
set_option maxRecDepth 100000 in
theorem k_X7_isHole (l : Launch) (D : va_G) (κ : Nat → ClassId) (β : Nat) (a7 : Nat) (r7 : Nat → Nat) (v7_count : Int32) (v7_holes : Int32) (v7_worms : Int32) (sz : Nat) (p1 : Int32) (i1 : Rg 0 8 v7_count) (i2 : Rg 0 40 v7_holes) (i3 : Rg 0 40 v7_worms) : Met l yX7_isHole wsX7_isHole ({ frames := 1, cells := 0, slots := 0, locals := 22 } : Room) (PcK D κ β [O7 a7 r7 v7_count v7_holes v7_worms] sz [.ref a7, .int p1]) (QiK D (fun (r : Int32) (u : Unit) => (r.toInt = 1 ∧ 0 ≤ p1.toInt ∧ p1.toInt < v7_holes.toInt) ∨ (r.toInt = 0 ∧ (p1.toInt < 0 ∨ v7_holes.toInt ≤ p1.toInt))) (fun (u : Unit) => [O7 a7 r7 v7_count v7_holes v7_worms]) [O7 a7 r7 v7_count v7_holes v7_worms] sz) 0 0 (va_A [O7 a7 r7 v7_count v7_holes v7_worms] sz) := by
  refine ofK_z (cc := cX7_isHole) (maxL := 2) (own := RX7) (by decide) rfl rfl (Nat.le_of_ble_eq_true rfl) ?_
  intro p e s m args below meth c Q A ls hsz hx hb hml hts hown hK hA hAB hP hD hl ret
  have hS : va_S A s.heap s.heap [] := va_S.rf
  have hl : lv_has ls 2 [(0, .ref a7), (1, .int p1)] := hl
  have w0 := hts (.fieldLink RX7 38 "OlderSkin$Sheets" "holes" "I") (List.mem_of_getElem? (i := 1) rfl)
  have w1 := (fun w h => List.mem_cons_of_mem _ (List.mem_append_right _ h) : ∀ w ∈ u_ws RX7 TX7 9, w ∈ wsX7_isHole)
  have w2 := hts (.initialized RX11) (List.mem_of_getElem? (i := 3) rfl)
  have w3 := hts (.static yX11_within) (List.mem_of_getElem? (i := 2) rfl)
  have w4 := hK.2.1 ("OlderSkin$Sheets", 34, ⟨"OlderSkin", "within", "(III)Z"⟩, "OlderSkin") (by decide +kernel)
  have l0 : (0 : Int32).toInt = 0 := by decide
  have l1 : (1 : Int32).toInt = 1 := by decide
  have i2 : 0 ≤ v7_holes.toInt ∧ v7_holes.toInt ≤ 40 := i2
  refine lv_iload_n hx hb dX7_isHole_0 rfl (lv_at hl 1 rfl) ?_
  refine lv_iconst (v := 0) hx hb dX7_isHole_1 (by decide) ?_
  refine lv_aload_n hx hb dX7_isHole_2 rfl (lv_at hl 0 rfl) ?_
  refine va_get (D := D) (ci := 7) (v := .int v7_holes) (C := RX7) (T := TX7) (N := 9) hx hb hts w1 hown hK.1 hP 0 rfl rfl 5 (by decide) w0 (fun _ h9 => h9) rfl dX7_isHole_3 ?_
  refine lv_iconst (v := 1) hx hb dX7_isHole_6 (by decide) ?_
  refine lv_isub hx hb dX7_isHole_7 ?_
  refine lv_topi (fun x1 e2 => ?_)
  try have h3 : x1.toInt = v7_holes.toInt - (1 : Int32).toInt := ci_sub e2 (by omega) (by omega)
  refine kcm_i hA hAB hP hD hS [false] rfl (fun _ => rfl) (fun hPc hDc => va_runSN (As := [.int p1, .int 0, .int x1]) (rest := []) ⟨hx, hb, hml, hown, hts⟩ (k_X11_within l D κ β s.heap.size p1 0 x1) ⟨va_cnB 3 hts gX7_isHole_X11_within_n34 rfl rfl rfl w4 w2 (by decide +kernel) ⟨Nat.le_of_ble_eq_true rfl, Nat.le_of_ble_eq_true rfl⟩, w3, trivial⟩ (pk_S hK hS hAB hPc hDc) rfl rfl hl.1 rfl (lv_room (Nat.le_of_ble_eq_true rfl)) dX7_isHole_8 ⟨Nat.le_of_ble_eq_true rfl, Nat.le_of_ble_eq_true rfl⟩) (fun x4 u5 H locs hw hPD hS => ?_)
  have h6 : (x4.toInt = 1 ∧ (0 : Int32).toInt ≤ p1.toInt ∧ p1.toInt ≤ x1.toInt) ∨ (x4.toInt = 0 ∧ (p1.toInt < (0 : Int32).toInt ∨ x1.toInt < p1.toInt)) := hw
  obtain ⟨hP, hD⟩ : PD D A [O7 a7 r7 v7_count v7_holes v7_worms] H := hPD
  have hpo : (x4.toInt = 1 ∧ 0 ≤ p1.toInt ∧ p1.toInt < v7_holes.toInt) ∨ (x4.toInt = 0 ∧ (p1.toInt < 0 ∨ v7_holes.toInt ≤ p1.toInt)) := (by omega)
  exact ret _ _ _ _ x4 () dX7_isHole_11 (by omega) hpo hP hD hS
set_option maxHeartbeats 4000000 in
set_option maxRecDepth 100000 in
theorem k_X7_all (l : Launch) (D : va_G) (κ : Nat → ClassId) (β : Nat) (a7 : Nat) (r7 : Nat → Nat) (v7_count : Int32) (v7_holes : Int32) (v7_worms : Int32) (sz : Nat) (i1 : Rg 0 8 v7_count) (i2 : Rg 0 40 v7_holes) (i3 : Rg 0 40 v7_worms) : Met l yX7_all wsX7_all ({ frames := 0, cells := 0, slots := 0, locals := 0 } : Room) (PcK D κ β [O7 a7 r7 v7_count v7_holes v7_worms] sz [.ref a7]) (QiK D (fun (r : Int32) (u : Unit) => 0 ≤ r.toInt ∧ r.toInt ≤ 255) (fun (u : Unit) => [O7 a7 r7 v7_count v7_holes v7_worms]) [O7 a7 r7 v7_count v7_holes v7_worms] sz) 0 0 (va_A [O7 a7 r7 v7_count v7_holes v7_worms] sz) := by
  refine ofK_i (cc := cX7_all) (maxL := 1) (own := RX7) (by decide) rfl rfl (Nat.le_of_ble_eq_true rfl) ?_
  intro p e s m args below meth c Q A ls hsz hx hb hml hts hown hK hA hAB hP hD hl ret
  have hS : va_S A s.heap s.heap [] := va_S.rf
  have hl : lv_has ls 1 [(0, .ref a7)] := hl
  have w0 := hts (.fieldLink RX7 30 "OlderSkin$Sheets" "count" "I") (List.mem_of_getElem? (i := 1) rfl)
  have w1 := (fun w h => List.mem_cons_of_mem _ (List.mem_append_right _ h) : ∀ w ∈ u_ws RX7 TX7 9, w ∈ wsX7_all)
  have l0 : (1 : Int32).toInt = 1 := by decide
  have i1 : 0 ≤ v7_count.toInt ∧ v7_count.toInt ≤ 8 := i1
  refine lv_iconst (v := 1) hx hb dX7_all_0 (by decide) ?_
  refine lv_aload_n hx hb dX7_all_1 rfl (lv_at hl 0 rfl) ?_
  refine va_get (D := D) (ci := 7) (v := .int v7_count) (C := RX7) (T := TX7) (N := 9) hx hb hts w1 hown hK.1 hP 0 rfl rfl 1 (by decide) w0 (fun _ h9 => h9) rfl dX7_all_2 ?_
  refine lv_ishl hx hb dX7_all_5 ?_
  refine lv_topi (fun x1 e2 => ?_)
  have hsh := shl_rng e2 (by omega) (by omega)
  refine lv_iconst (v := 1) hx hb dX7_all_6 (by decide) ?_
  refine lv_isub hx hb dX7_all_7 ?_
  refine lv_topi (fun x3 e4 => ?_)
  try have h5 : x3.toInt = x1.toInt - (1 : Int32).toInt := ci_sub e4 (by omega) (by omega)
  have hpo : 0 ≤ x3.toInt ∧ x3.toInt ≤ 255 := (by omega)
  exact ret _ _ _ _ x3 () dX7_all_8 hpo hP hD hS
set_option maxHeartbeats 4000000 in
set_option maxRecDepth 100000 in
theorem k_X7_add (l : Launch) (D : va_G) (κ : Nat → ClassId) (β : Nat) (a7 : Nat) (r7 : Nat → Nat) (v7_count : Int32) (v7_holes : Int32) (v7_worms : Int32) (f7_ages : Nat → Int32) (sz : Nat) (p1 : Int32) (i1 : Rg 0 8 v7_count) (i2 : Rg 0 40 v7_holes) (i3 : Rg 0 40 v7_worms) : Met l yX7_add wsX7_add ({ frames := 0, cells := 0, slots := 0, locals := 0 } : Room) (PcK D κ β [O7 a7 r7 v7_count v7_holes v7_worms, (cI κ (r7 0) 8 f7_ages)] sz [.ref a7, .int p1]) (QiK D (fun (r : Int32) (u : Int32 × (Nat → Int32)) => (0 ≤ u.1.toInt ∧ u.1.toInt ≤ 8) ∧ ((v7_count.toInt = 8 ∧ r.toInt = -3 ∧ u.1.toInt = v7_count.toInt) ∨ (v7_count.toInt < 8 ∧ r.toInt = v7_count.toInt ∧ u.1.toInt = v7_count.toInt + 1))) (fun (u : Int32 × (Nat → Int32)) => [O7 a7 r7 u.1 v7_holes v7_worms, (cI κ (r7 0) 8 u.2)]) [O7 a7 r7 v7_count v7_holes v7_worms, (cI κ (r7 0) 8 f7_ages)] sz) 0 0 (va_A [O7 a7 r7 v7_count v7_holes v7_worms, (cI κ (r7 0) 8 f7_ages)] sz) := by
  refine ofK_i (cc := cX7_add) (maxL := 2) (own := RX7) (by decide) rfl rfl (Nat.le_of_ble_eq_true rfl) ?_
  intro p e s m args below meth c Q A ls hsz hx hb hml hts hown hK hA hAB hP hD hl ret
  have hS : va_S A s.heap s.heap [] := va_S.rf
  have hl : lv_has ls 2 [(0, .ref a7), (1, .int p1)] := hl
  have w0 := hts (.fieldLink RX7 30 "OlderSkin$Sheets" "count" "I") (List.mem_of_getElem? (i := 1) rfl)
  have w1 := (fun w h => List.mem_cons_of_mem _ (List.mem_append_right _ h) : ∀ w ∈ u_ws RX7 TX7 9, w ∈ wsX7_add)
  have w2 := hts (.fieldLink RX7 9 "OlderSkin$Sheets" "ages" "[I") (List.mem_of_getElem? (i := 2) rfl)
  have l0 : (8 : Int32).toInt = 8 := by decide
  have l1 : (0 : Int32).toInt = 0 := by decide
  have l2 : (1 : Int32).toInt = 1 := by decide
  have l3 : ((-3) : Int32).toInt = -3 := by decide
  have i1 : 0 ≤ v7_count.toInt ∧ v7_count.toInt ≤ 8 := i1
  refine lv_aload_n hx hb dX7_add_0 rfl (lv_at hl 0 rfl) ?_
  refine va_get (D := D) (ci := 7) (v := .int v7_count) (C := RX7) (T := TX7) (N := 9) hx hb hts w1 hown hK.1 hP 0 rfl rfl 1 (by decide) w0 (fun _ h9 => h9) rfl dX7_add_1 ?_
  refine lv_aload_n hx hb dX7_add_4 rfl (lv_at hl 0 rfl) ?_
  refine va_get (D := D) (ci := 7) (v := .ref (r7 0)) (C := RX7) (T := TX7) (N := 9) hx hb hts w1 hown hK.1 hP 0 rfl rfl 0 (by decide) w2 (fun _ h9 => h9) rfl dX7_add_5 ?_
  refine va_alen hx hb hK.1 hP 1 1 rfl rfl (v := 8) rfl dX7_add_8 ?_
  refine lv_icmp_ne (tgt := 15) hx hb dX7_add_9 (by decide) (fun c1 => ?_) (fun c1 => ?_)
  · have c1 := ci_ne c1
    refine lv_aload_n hx hb dX7_add_15 rfl (lv_at hl 0 rfl) ?_
    refine va_get (D := D) (ci := 7) (v := .ref (r7 0)) (C := RX7) (T := TX7) (N := 9) hx hb hts w1 hown hK.1 hP 0 rfl rfl 0 (by decide) w2 (fun _ h9 => h9) rfl dX7_add_16 ?_
    refine lv_aload_n hx hb dX7_add_19 rfl (lv_at hl 0 rfl) ?_
    refine va_get (D := D) (ci := 7) (v := .int v7_count) (C := RX7) (T := TX7) (N := 9) hx hb hts w1 hown hK.1 hP 0 rfl rfl 1 (by decide) w0 (fun _ h9 => h9) rfl dX7_add_20 ?_
    refine lv_iload_n hx hb dX7_add_23 rfl (lv_at hl 1 rfl) ?_
    refine va_iast hx hb hK.1 hP hD hS 1 1 rfl rfl (i := v7_count) (ix (by omega) (by omega)) dX7_add_24 (fun H locs hP hD hS => ?_)
    obtain ⟨g2, e3⟩ : ∃ y : Nat → Int32, y = upd f7_ages v7_count.toNatClampNeg p1 := ⟨_, rfl⟩
    rw [← e3] at hP hD
    obtain ⟨hP, hD⟩ : PD D A [O7 a7 r7 v7_count v7_holes v7_worms, (cI κ (r7 0) 8 g2)] H := ⟨hP, hD⟩
    refine lv_aload_n hx hb dX7_add_25 rfl (lv_at hl 0 rfl) ?_
    refine lv_dup hx hb dX7_add_26 rfl ?_
    refine va_get (D := D) (ci := 7) (v := .int v7_count) (C := RX7) (T := TX7) (N := 9) hx hb hts w1 hown hK.1 hP 0 rfl rfl 1 (by decide) w0 (fun _ h9 => h9) rfl dX7_add_27 ?_
    refine lv_dup_x1 hx hb dX7_add_30 rfl rfl ?_
    refine lv_iconst (v := 1) hx hb dX7_add_31 (by decide) ?_
    refine lv_iadd hx hb dX7_add_32 ?_
    refine lv_topi (fun x4 e5 => ?_)
    try have h6 : x4.toInt = v7_count.toInt + (1 : Int32).toInt := ci_add e5 (by omega) (by omega)
    refine va_put (D := D) (ci := 7) (v := .int x4) (ty := .int) (C := RX7) (T := TX7) (N := 9) hx hb hts w1 tyX7 tyX7_ok nmX7 hown hK.1 hP hD hS 0 rfl rfl 1 (by decide) w0 (fun _ h9 => h9) rfl (by decide +kernel) rfl rfl (Nat.le_of_ble_eq_true rfl) dX7_add_33 (fun H locs hP hD hS => ?_)
    obtain ⟨hP, hD⟩ : PD D A [O7 a7 r7 x4 v7_holes v7_worms, (cI κ (r7 0) 8 g2)] H := ⟨hP, hD⟩
    have h7 : 0 ≤ x4.toInt ∧ x4.toInt ≤ 8 := by omega
    have hpo : (0 ≤ x4.toInt ∧ x4.toInt ≤ 8) ∧ ((v7_count.toInt = 8 ∧ v7_count.toInt = -3 ∧ x4.toInt = v7_count.toInt) ∨ (v7_count.toInt < 8 ∧ v7_count.toInt = v7_count.toInt ∧ x4.toInt = v7_count.toInt + 1)) := ⟨h7, (by omega)⟩
    exact ret _ _ _ _ v7_count (x4, g2) dX7_add_36 hpo hP hD hS
  have c1 := ci_eq c1
  refine lv_bipush (v := (-3)) hx hb dX7_add_12 (by decide) ?_
  have hpo : (0 ≤ v7_count.toInt ∧ v7_count.toInt ≤ 8) ∧ ((v7_count.toInt = 8 ∧ ((-3) : Int32).toInt = -3 ∧ v7_count.toInt = v7_count.toInt) ∨ (v7_count.toInt < 8 ∧ ((-3) : Int32).toInt = v7_count.toInt ∧ v7_count.toInt = v7_count.toInt + 1)) := ⟨i1, (by omega)⟩
  exact ret _ _ _ _ (-3) (v7_count, f7_ages) dX7_add_14 hpo hP hD hS
set_option maxHeartbeats 4000000 in
set_option maxRecDepth 100000 in
theorem k_X7_addHole (l : Launch) (D : va_G) (κ : Nat → ClassId) (β : Nat) (a7 : Nat) (r7 : Nat → Nat) (v7_count : Int32) (v7_holes : Int32) (v7_worms : Int32) (f7_sheetOf : Nat → Int32) (f7_placeOf : Nat → Int32) (f7_byPlace : Nat → Int32) (sz : Nat) (p1 : Int32) (p2 : Int32) (i1 : Rg 0 8 v7_count) (i2 : Rg 0 40 v7_holes) (i3 : Rg 0 40 v7_worms) (hf7_sheetOf : ∀ j : Nat, 0 ≤ (f7_sheetOf j).toInt ∧ (f7_sheetOf j).toInt ≤ 7) (hf7_byPlace : ∀ j : Nat, 0 ≤ (f7_byPlace j).toInt ∧ (f7_byPlace j).toInt ≤ 39) (i4 : 0 ≤ p1.toInt ∧ p1.toInt ≤ 7) : Met l yX7_addHole wsX7_addHole ({ frames := 0, cells := 0, slots := 0, locals := 0 } : Room) (PcK D κ β [O7 a7 r7 v7_count v7_holes v7_worms, (cI κ (r7 2) 40 f7_sheetOf), (cI κ (r7 3) 40 f7_placeOf), (cI κ (r7 4) 40 f7_byPlace)] sz [.ref a7, .int p1, .int p2]) (QiK D (fun (r : Int32) (u : Int32 × (Nat → Int32) × (Nat → Int32) × (Nat → Int32)) => (0 ≤ u.1.toInt ∧ u.1.toInt ≤ 40) ∧ (∀ j : Nat, 0 ≤ (u.2.1 j).toInt ∧ (u.2.1 j).toInt ≤ 7) ∧ (∀ j : Nat, 0 ≤ (u.2.2.2 j).toInt ∧ (u.2.2.2 j).toInt ≤ 39) ∧ ((v7_holes.toInt = 40 ∧ r.toInt = -3 ∧ u.1.toInt = v7_holes.toInt) ∨ (v7_holes.toInt < 40 ∧ r.toInt = v7_holes.toInt ∧ u.1.toInt = v7_holes.toInt + 1))) (fun (u : Int32 × (Nat → Int32) × (Nat → Int32) × (Nat → Int32)) => [O7 a7 r7 v7_count u.1 v7_worms, (cI κ (r7 2) 40 u.2.1), (cI κ (r7 3) 40 u.2.2.1), (cI κ (r7 4) 40 u.2.2.2)]) [O7 a7 r7 v7_count v7_holes v7_worms, (cI κ (r7 2) 40 f7_sheetOf), (cI κ (r7 3) 40 f7_placeOf), (cI κ (r7 4) 40 f7_byPlace)] sz) 0 0 (va_A [O7 a7 r7 v7_count v7_holes v7_worms, (cI κ (r7 2) 40 f7_sheetOf), (cI κ (r7 3) 40 f7_placeOf), (cI κ (r7 4) 40 f7_byPlace)] sz) := by
  refine ofK_i (cc := cX7_addHole) (maxL := 4) (own := RX7) (by decide) rfl rfl (Nat.le_of_ble_eq_true rfl) ?_
  intro p e s m args below meth c Q A ls hsz hx hb hml hts hown hK hA hAB hP hD hl ret
  have hS : va_S A s.heap s.heap [] := va_S.rf
  have hl : lv_has ls 4 [(0, .ref a7), (1, .int p1), (2, .int p2)] := hl
  have w0 := hts (.fieldLink RX7 38 "OlderSkin$Sheets" "holes" "I") (List.mem_of_getElem? (i := 1) rfl)
  have w1 := (fun w h => List.mem_cons_of_mem _ (List.mem_append_right _ h) : ∀ w ∈ u_ws RX7 TX7 9, w ∈ wsX7_addHole)
  have w2 := hts (.fieldLink RX7 15 "OlderSkin$Sheets" "sheetOf" "[I") (List.mem_of_getElem? (i := 2) rfl)
  have w3 := hts (.fieldLink RX7 21 "OlderSkin$Sheets" "byPlace" "[I") (List.mem_of_getElem? (i := 4) rfl)
  have w4 := hts (.fieldLink RX7 18 "OlderSkin$Sheets" "placeOf" "[I") (List.mem_of_getElem? (i := 3) rfl)
  have l0 : (40 : Int32).toInt = 40 := by decide
  have l1 : (0 : Int32).toInt = 0 := by decide
  have l2 : (1 : Int32).toInt = 1 := by decide
  have l3 : ((-1) : Int32).toInt = -1 := by decide
  have l4 : ((-3) : Int32).toInt = -3 := by decide
  have i2 : 0 ≤ v7_holes.toInt ∧ v7_holes.toInt ≤ 40 := i2
  refine lv_aload_n hx hb dX7_addHole_0 rfl (lv_at hl 0 rfl) ?_
  refine va_get (D := D) (ci := 7) (v := .int v7_holes) (C := RX7) (T := TX7) (N := 9) hx hb hts w1 hown hK.1 hP 0 rfl rfl 5 (by decide) w0 (fun _ h9 => h9) rfl dX7_addHole_1 ?_
  refine lv_aload_n hx hb dX7_addHole_4 rfl (lv_at hl 0 rfl) ?_
  refine va_get (D := D) (ci := 7) (v := .ref (r7 2)) (C := RX7) (T := TX7) (N := 9) hx hb hts w1 hown hK.1 hP 0 rfl rfl 2 (by decide) w2 (fun _ h9 => h9) rfl dX7_addHole_5 ?_
  refine va_alen hx hb hK.1 hP 1 1 rfl rfl (v := 40) rfl dX7_addHole_8 ?_
  refine lv_icmp_ne (tgt := 15) hx hb dX7_addHole_9 (by decide) (fun c1 => ?_) (fun c1 => ?_)
  · have c1 := ci_ne c1
    refine lv_aload_n hx hb dX7_addHole_15 rfl (lv_at hl 0 rfl) ?_
    refine va_get (D := D) (ci := 7) (v := .int v7_holes) (C := RX7) (T := TX7) (N := 9) hx hb hts w1 hown hK.1 hP 0 rfl rfl 5 (by decide) w0 (fun _ h9 => h9) rfl dX7_addHole_16 ?_
    refine lv_istore_n (lv' := [(3, .int v7_holes), (0, .ref a7), (1, .int p1), (2, .int p2)]) hx hb dX7_addHole_19 rfl hl (by decide) rfl (fun ls hl => ?_)
    have lp20 : ∀ (n20 : Nat) (k2 : Int32) (g3 : Nat → Int32), (∀ j : Nat, 0 ≤ (g3 j).toInt ∧ (g3 j).toInt ≤ 39) → (0 ≤ k2.toInt ∧ k2.toInt ≤ v7_holes.toInt) → (k2.toInt).toNat < n20 → ∀ (H : Heap) (locs : List Loc), va_P D vwCl [O7 a7 r7 v7_count v7_holes v7_worms, (cI κ (r7 2) 40 f7_sheetOf), (cI κ (r7 3) 40 f7_placeOf), (cI κ (r7 4) 40 g3)] H → va_D A [O7 a7 r7 v7_count v7_holes v7_worms, (cI κ (r7 2) 40 f7_sheetOf), (cI κ (r7 3) 40 f7_placeOf), (cI κ (r7 4) 40 g3)] → va_S A s.heap H locs → ∀ ls : Array Slot, lv_has ls 4 [(3, .int k2), (0, .ref a7), (1, .int p1), (2, .int p2)] → W p l e ({ frames := 0, cells := 0, slots := 0, locals := 0 } : Room) s m args below meth c H locs 0 0 Q (F0 m 20 ls []) := by
      intro n20
      induction n20 with
      | zero =>
        intro k2 g3 h4 h5 m6
        exact absurd m6 (Nat.not_lt_zero _)
      | succ n20 ih20 =>
        intro k2 g3 h4 h5 m6 H locs hP hD hS ls hl
        refine lv_iload_n hx hb dX7_addHole_20 rfl (lv_at hl 0 rfl) ?_
        refine lv_if_le (tgt := 61) hx hb dX7_addHole_21 (by decide) (fun c7 => ?_) (fun c7 => ?_)
        · have c7 := ci_le c7
          refine lv_aload_n hx hb dX7_addHole_61 rfl (lv_at hl 1 rfl) ?_
          refine va_get (D := D) (ci := 7) (v := .ref (r7 4)) (C := RX7) (T := TX7) (N := 9) hx hb hts w1 hown hK.1 hP 0 rfl rfl 4 (by decide) w3 (fun _ h9 => h9) rfl dX7_addHole_62 ?_
          refine lv_iload_n hx hb dX7_addHole_65 rfl (lv_at hl 0 rfl) ?_
          refine lv_aload_n hx hb dX7_addHole_66 rfl (lv_at hl 1 rfl) ?_
          refine va_get (D := D) (ci := 7) (v := .int v7_holes) (C := RX7) (T := TX7) (N := 9) hx hb hts w1 hown hK.1 hP 0 rfl rfl 5 (by decide) w0 (fun _ h9 => h9) rfl dX7_addHole_67 ?_
          refine va_iast hx hb hK.1 hP hD hS 3 1 rfl rfl (i := k2) (ix (by omega) (by omega)) dX7_addHole_70 (fun H locs hP hD hS => ?_)
          obtain ⟨g8, e9⟩ : ∃ y : Nat → Int32, y = upd g3 k2.toNatClampNeg v7_holes := ⟨_, rfl⟩
          rw [← e9] at hP hD
          obtain ⟨hP, hD⟩ : PD D A [O7 a7 r7 v7_count v7_holes v7_worms, (cI κ (r7 2) 40 f7_sheetOf), (cI κ (r7 3) 40 f7_placeOf), (cI κ (r7 4) 40 g8)] H := ⟨hP, hD⟩
          have h10 : ∀ j : Nat, 0 ≤ (g8 j).toInt ∧ (g8 j).toInt ≤ 39 := by rw [e9]; exact all_upd (P := fun z => 0 ≤ z.toInt ∧ z.toInt ≤ 39) h4 (by omega)
          refine lv_aload_n hx hb dX7_addHole_71 rfl (lv_at hl 1 rfl) ?_
          refine va_get (D := D) (ci := 7) (v := .ref (r7 2)) (C := RX7) (T := TX7) (N := 9) hx hb hts w1 hown hK.1 hP 0 rfl rfl 2 (by decide) w2 (fun _ h9 => h9) rfl dX7_addHole_72 ?_
          refine lv_aload_n hx hb dX7_addHole_75 rfl (lv_at hl 1 rfl) ?_
          refine va_get (D := D) (ci := 7) (v := .int v7_holes) (C := RX7) (T := TX7) (N := 9) hx hb hts w1 hown hK.1 hP 0 rfl rfl 5 (by decide) w0 (fun _ h9 => h9) rfl dX7_addHole_76 ?_
          refine lv_iload_n hx hb dX7_addHole_79 rfl (lv_at hl 2 rfl) ?_
          refine va_iast hx hb hK.1 hP hD hS 1 1 rfl rfl (i := v7_holes) (ix (by omega) (by omega)) dX7_addHole_80 (fun H locs hP hD hS => ?_)
          obtain ⟨g11, e12⟩ : ∃ y : Nat → Int32, y = upd f7_sheetOf v7_holes.toNatClampNeg p1 := ⟨_, rfl⟩
          rw [← e12] at hP hD
          obtain ⟨hP, hD⟩ : PD D A [O7 a7 r7 v7_count v7_holes v7_worms, (cI κ (r7 2) 40 g11), (cI κ (r7 3) 40 f7_placeOf), (cI κ (r7 4) 40 g8)] H := ⟨hP, hD⟩
          have h13 : ∀ j : Nat, 0 ≤ (g11 j).toInt ∧ (g11 j).toInt ≤ 7 := by rw [e12]; exact all_upd (P := fun z => 0 ≤ z.toInt ∧ z.toInt ≤ 7) hf7_sheetOf (by omega)
          refine lv_aload_n hx hb dX7_addHole_81 rfl (lv_at hl 1 rfl) ?_
          refine va_get (D := D) (ci := 7) (v := .ref (r7 3)) (C := RX7) (T := TX7) (N := 9) hx hb hts w1 hown hK.1 hP 0 rfl rfl 3 (by decide) w4 (fun _ h9 => h9) rfl dX7_addHole_82 ?_
          refine lv_aload_n hx hb dX7_addHole_85 rfl (lv_at hl 1 rfl) ?_
          refine va_get (D := D) (ci := 7) (v := .int v7_holes) (C := RX7) (T := TX7) (N := 9) hx hb hts w1 hown hK.1 hP 0 rfl rfl 5 (by decide) w0 (fun _ h9 => h9) rfl dX7_addHole_86 ?_
          refine lv_iload_n hx hb dX7_addHole_89 rfl (lv_at hl 3 rfl) ?_
          refine va_iast hx hb hK.1 hP hD hS 2 1 rfl rfl (i := v7_holes) (ix (by omega) (by omega)) dX7_addHole_90 (fun H locs hP hD hS => ?_)
          obtain ⟨g14, e15⟩ : ∃ y : Nat → Int32, y = upd f7_placeOf v7_holes.toNatClampNeg p2 := ⟨_, rfl⟩
          rw [← e15] at hP hD
          obtain ⟨hP, hD⟩ : PD D A [O7 a7 r7 v7_count v7_holes v7_worms, (cI κ (r7 2) 40 g11), (cI κ (r7 3) 40 g14), (cI κ (r7 4) 40 g8)] H := ⟨hP, hD⟩
          refine lv_aload_n hx hb dX7_addHole_91 rfl (lv_at hl 1 rfl) ?_
          refine lv_dup hx hb dX7_addHole_92 rfl ?_
          refine va_get (D := D) (ci := 7) (v := .int v7_holes) (C := RX7) (T := TX7) (N := 9) hx hb hts w1 hown hK.1 hP 0 rfl rfl 5 (by decide) w0 (fun _ h9 => h9) rfl dX7_addHole_93 ?_
          refine lv_dup_x1 hx hb dX7_addHole_96 rfl rfl ?_
          refine lv_iconst (v := 1) hx hb dX7_addHole_97 (by decide) ?_
          refine lv_iadd hx hb dX7_addHole_98 ?_
          refine lv_topi (fun x16 e17 => ?_)
          try have h18 : x16.toInt = v7_holes.toInt + (1 : Int32).toInt := ci_add e17 (by omega) (by omega)
          refine va_put (D := D) (ci := 7) (v := .int x16) (ty := .int) (C := RX7) (T := TX7) (N := 9) hx hb hts w1 tyX7 tyX7_ok nmX7 hown hK.1 hP hD hS 0 rfl rfl 5 (by decide) w0 (fun _ h9 => h9) rfl (by decide +kernel) rfl rfl (Nat.le_of_ble_eq_true rfl) dX7_addHole_99 (fun H locs hP hD hS => ?_)
          obtain ⟨hP, hD⟩ : PD D A [O7 a7 r7 v7_count x16 v7_worms, (cI κ (r7 2) 40 g11), (cI κ (r7 3) 40 g14), (cI κ (r7 4) 40 g8)] H := ⟨hP, hD⟩
          have h19 : 0 ≤ x16.toInt ∧ x16.toInt ≤ 40 := by omega
          have hpo : (0 ≤ x16.toInt ∧ x16.toInt ≤ 40) ∧ (∀ j : Nat, 0 ≤ (g11 j).toInt ∧ (g11 j).toInt ≤ 7) ∧ (∀ j : Nat, 0 ≤ (g8 j).toInt ∧ (g8 j).toInt ≤ 39) ∧ ((v7_holes.toInt = 40 ∧ v7_holes.toInt = -3 ∧ x16.toInt = v7_holes.toInt) ∨ (v7_holes.toInt < 40 ∧ v7_holes.toInt = v7_holes.toInt ∧ x16.toInt = v7_holes.toInt + 1)) := ⟨h19, h13, h10, (by omega)⟩
          exact ret _ _ _ _ v7_holes (x16, g11, g14, g8) dX7_addHole_102 hpo hP hD hS
        have c7 := ci_nle c7
        refine lv_aload_n hx hb dX7_addHole_24 rfl (lv_at hl 1 rfl) ?_
        refine va_get (D := D) (ci := 7) (v := .ref (r7 3)) (C := RX7) (T := TX7) (N := 9) hx hb hts w1 hown hK.1 hP 0 rfl rfl 3 (by decide) w4 (fun _ h9 => h9) rfl dX7_addHole_25 ?_
        refine lv_aload_n hx hb dX7_addHole_28 rfl (lv_at hl 1 rfl) ?_
        refine va_get (D := D) (ci := 7) (v := .ref (r7 4)) (C := RX7) (T := TX7) (N := 9) hx hb hts w1 hown hK.1 hP 0 rfl rfl 4 (by decide) w3 (fun _ h9 => h9) rfl dX7_addHole_29 ?_
        refine lv_iload_n hx hb dX7_addHole_32 rfl (lv_at hl 0 rfl) ?_
        refine lv_iconst (v := 1) hx hb dX7_addHole_33 (by decide) ?_
        refine lv_isub hx hb dX7_addHole_34 ?_
        refine lv_topi (fun x20 e21 => ?_)
        try have h22 : x20.toInt = k2.toInt - (1 : Int32).toInt := ci_sub e21 (by omega) (by omega)
        refine va_iald hx hb hK.1 hP 3 1 rfl rfl (i := x20) (ix (by omega) (by omega)) dX7_addHole_35 ?_
        refine lv_topi (fun x23 e24 => ?_)
        have h25 : 0 ≤ x23.toInt ∧ x23.toInt ≤ 39 := by rw [e24]; exact h4 _
        refine va_iald hx hb hK.1 hP 2 1 rfl rfl (i := x23) (ix (by omega) (by omega)) dX7_addHole_36 ?_
        refine lv_topi (fun x26 e27 => ?_)
        refine lv_iload_n hx hb dX7_addHole_37 rfl (lv_at hl 3 rfl) ?_
        refine lv_icmp_le (tgt := 61) hx hb dX7_addHole_38 (by decide) (fun c28 => ?_) (fun c28 => ?_)
        · have c28 := ci_le c28
          refine lv_aload_n hx hb dX7_addHole_61 rfl (lv_at hl 1 rfl) ?_
          refine va_get (D := D) (ci := 7) (v := .ref (r7 4)) (C := RX7) (T := TX7) (N := 9) hx hb hts w1 hown hK.1 hP 0 rfl rfl 4 (by decide) w3 (fun _ h9 => h9) rfl dX7_addHole_62 ?_
          refine lv_iload_n hx hb dX7_addHole_65 rfl (lv_at hl 0 rfl) ?_
          refine lv_aload_n hx hb dX7_addHole_66 rfl (lv_at hl 1 rfl) ?_
          refine va_get (D := D) (ci := 7) (v := .int v7_holes) (C := RX7) (T := TX7) (N := 9) hx hb hts w1 hown hK.1 hP 0 rfl rfl 5 (by decide) w0 (fun _ h9 => h9) rfl dX7_addHole_67 ?_
          refine va_iast hx hb hK.1 hP hD hS 3 1 rfl rfl (i := k2) (ix (by omega) (by omega)) dX7_addHole_70 (fun H locs hP hD hS => ?_)
          obtain ⟨g29, e30⟩ : ∃ y : Nat → Int32, y = upd g3 k2.toNatClampNeg v7_holes := ⟨_, rfl⟩
          rw [← e30] at hP hD
          obtain ⟨hP, hD⟩ : PD D A [O7 a7 r7 v7_count v7_holes v7_worms, (cI κ (r7 2) 40 f7_sheetOf), (cI κ (r7 3) 40 f7_placeOf), (cI κ (r7 4) 40 g29)] H := ⟨hP, hD⟩
          have h31 : ∀ j : Nat, 0 ≤ (g29 j).toInt ∧ (g29 j).toInt ≤ 39 := by rw [e30]; exact all_upd (P := fun z => 0 ≤ z.toInt ∧ z.toInt ≤ 39) h4 (by omega)
          refine lv_aload_n hx hb dX7_addHole_71 rfl (lv_at hl 1 rfl) ?_
          refine va_get (D := D) (ci := 7) (v := .ref (r7 2)) (C := RX7) (T := TX7) (N := 9) hx hb hts w1 hown hK.1 hP 0 rfl rfl 2 (by decide) w2 (fun _ h9 => h9) rfl dX7_addHole_72 ?_
          refine lv_aload_n hx hb dX7_addHole_75 rfl (lv_at hl 1 rfl) ?_
          refine va_get (D := D) (ci := 7) (v := .int v7_holes) (C := RX7) (T := TX7) (N := 9) hx hb hts w1 hown hK.1 hP 0 rfl rfl 5 (by decide) w0 (fun _ h9 => h9) rfl dX7_addHole_76 ?_
          refine lv_iload_n hx hb dX7_addHole_79 rfl (lv_at hl 2 rfl) ?_
          refine va_iast hx hb hK.1 hP hD hS 1 1 rfl rfl (i := v7_holes) (ix (by omega) (by omega)) dX7_addHole_80 (fun H locs hP hD hS => ?_)
          obtain ⟨g32, e33⟩ : ∃ y : Nat → Int32, y = upd f7_sheetOf v7_holes.toNatClampNeg p1 := ⟨_, rfl⟩
          rw [← e33] at hP hD
          obtain ⟨hP, hD⟩ : PD D A [O7 a7 r7 v7_count v7_holes v7_worms, (cI κ (r7 2) 40 g32), (cI κ (r7 3) 40 f7_placeOf), (cI κ (r7 4) 40 g29)] H := ⟨hP, hD⟩
          have h34 : ∀ j : Nat, 0 ≤ (g32 j).toInt ∧ (g32 j).toInt ≤ 7 := by rw [e33]; exact all_upd (P := fun z => 0 ≤ z.toInt ∧ z.toInt ≤ 7) hf7_sheetOf (by omega)
          refine lv_aload_n hx hb dX7_addHole_81 rfl (lv_at hl 1 rfl) ?_
          refine va_get (D := D) (ci := 7) (v := .ref (r7 3)) (C := RX7) (T := TX7) (N := 9) hx hb hts w1 hown hK.1 hP 0 rfl rfl 3 (by decide) w4 (fun _ h9 => h9) rfl dX7_addHole_82 ?_
          refine lv_aload_n hx hb dX7_addHole_85 rfl (lv_at hl 1 rfl) ?_
          refine va_get (D := D) (ci := 7) (v := .int v7_holes) (C := RX7) (T := TX7) (N := 9) hx hb hts w1 hown hK.1 hP 0 rfl rfl 5 (by decide) w0 (fun _ h9 => h9) rfl dX7_addHole_86 ?_
          refine lv_iload_n hx hb dX7_addHole_89 rfl (lv_at hl 3 rfl) ?_
          refine va_iast hx hb hK.1 hP hD hS 2 1 rfl rfl (i := v7_holes) (ix (by omega) (by omega)) dX7_addHole_90 (fun H locs hP hD hS => ?_)
          obtain ⟨g35, e36⟩ : ∃ y : Nat → Int32, y = upd f7_placeOf v7_holes.toNatClampNeg p2 := ⟨_, rfl⟩
          rw [← e36] at hP hD
          obtain ⟨hP, hD⟩ : PD D A [O7 a7 r7 v7_count v7_holes v7_worms, (cI κ (r7 2) 40 g32), (cI κ (r7 3) 40 g35), (cI κ (r7 4) 40 g29)] H := ⟨hP, hD⟩
          refine lv_aload_n hx hb dX7_addHole_91 rfl (lv_at hl 1 rfl) ?_
          refine lv_dup hx hb dX7_addHole_92 rfl ?_
          refine va_get (D := D) (ci := 7) (v := .int v7_holes) (C := RX7) (T := TX7) (N := 9) hx hb hts w1 hown hK.1 hP 0 rfl rfl 5 (by decide) w0 (fun _ h9 => h9) rfl dX7_addHole_93 ?_
          refine lv_dup_x1 hx hb dX7_addHole_96 rfl rfl ?_
          refine lv_iconst (v := 1) hx hb dX7_addHole_97 (by decide) ?_
          refine lv_iadd hx hb dX7_addHole_98 ?_
          refine lv_topi (fun x37 e38 => ?_)
          try have h39 : x37.toInt = v7_holes.toInt + (1 : Int32).toInt := ci_add e38 (by omega) (by omega)
          refine va_put (D := D) (ci := 7) (v := .int x37) (ty := .int) (C := RX7) (T := TX7) (N := 9) hx hb hts w1 tyX7 tyX7_ok nmX7 hown hK.1 hP hD hS 0 rfl rfl 5 (by decide) w0 (fun _ h9 => h9) rfl (by decide +kernel) rfl rfl (Nat.le_of_ble_eq_true rfl) dX7_addHole_99 (fun H locs hP hD hS => ?_)
          obtain ⟨hP, hD⟩ : PD D A [O7 a7 r7 v7_count x37 v7_worms, (cI κ (r7 2) 40 g32), (cI κ (r7 3) 40 g35), (cI κ (r7 4) 40 g29)] H := ⟨hP, hD⟩
          have h40 : 0 ≤ x37.toInt ∧ x37.toInt ≤ 40 := by omega
          have hpo : (0 ≤ x37.toInt ∧ x37.toInt ≤ 40) ∧ (∀ j : Nat, 0 ≤ (g32 j).toInt ∧ (g32 j).toInt ≤ 7) ∧ (∀ j : Nat, 0 ≤ (g29 j).toInt ∧ (g29 j).toInt ≤ 39) ∧ ((v7_holes.toInt = 40 ∧ v7_holes.toInt = -3 ∧ x37.toInt = v7_holes.toInt) ∨ (v7_holes.toInt < 40 ∧ v7_holes.toInt = v7_holes.toInt ∧ x37.toInt = v7_holes.toInt + 1)) := ⟨h40, h34, h31, (by omega)⟩
          exact ret _ _ _ _ v7_holes (x37, g32, g35, g29) dX7_addHole_102 hpo hP hD hS
        have c28 := ci_nle c28
        refine lv_aload_n hx hb dX7_addHole_41 rfl (lv_at hl 1 rfl) ?_
        refine va_get (D := D) (ci := 7) (v := .ref (r7 4)) (C := RX7) (T := TX7) (N := 9) hx hb hts w1 hown hK.1 hP 0 rfl rfl 4 (by decide) w3 (fun _ h9 => h9) rfl dX7_addHole_42 ?_
        refine lv_iload_n hx hb dX7_addHole_45 rfl (lv_at hl 0 rfl) ?_
        refine lv_aload_n hx hb dX7_addHole_46 rfl (lv_at hl 1 rfl) ?_
        refine va_get (D := D) (ci := 7) (v := .ref (r7 4)) (C := RX7) (T := TX7) (N := 9) hx hb hts w1 hown hK.1 hP 0 rfl rfl 4 (by decide) w3 (fun _ h9 => h9) rfl dX7_addHole_47 ?_
        refine lv_iload_n hx hb dX7_addHole_50 rfl (lv_at hl 0 rfl) ?_
        refine lv_iconst (v := 1) hx hb dX7_addHole_51 (by decide) ?_
        refine lv_isub hx hb dX7_addHole_52 ?_
        refine lv_topi (fun x41 e42 => ?_)
        try have h43 : x41.toInt = k2.toInt - (1 : Int32).toInt := ci_sub e42 (by omega) (by omega)
        refine va_iald hx hb hK.1 hP 3 1 rfl rfl (i := x41) (ix (by omega) (by omega)) dX7_addHole_53 ?_
        refine lv_topi (fun x44 e45 => ?_)
        have h46 : 0 ≤ x44.toInt ∧ x44.toInt ≤ 39 := by rw [e45]; exact h4 _
        refine va_iast hx hb hK.1 hP hD hS 3 1 rfl rfl (i := k2) (ix (by omega) (by omega)) dX7_addHole_54 (fun H locs hP hD hS => ?_)
        obtain ⟨g47, e48⟩ : ∃ y : Nat → Int32, y = upd g3 k2.toNatClampNeg x44 := ⟨_, rfl⟩
        rw [← e48] at hP hD
        obtain ⟨hP, hD⟩ : PD D A [O7 a7 r7 v7_count v7_holes v7_worms, (cI κ (r7 2) 40 f7_sheetOf), (cI κ (r7 3) 40 f7_placeOf), (cI κ (r7 4) 40 g47)] H := ⟨hP, hD⟩
        have h49 : ∀ j : Nat, 0 ≤ (g47 j).toInt ∧ (g47 j).toInt ≤ 39 := by rw [e48]; exact all_upd (P := fun z => 0 ≤ z.toInt ∧ z.toInt ≤ 39) h4 (by omega)
        obtain ⟨x50, e51⟩ : ∃ y : Int32, y = k2 + (-1) := ⟨_, rfl⟩
        refine lv_iinc (v := x50) (lv' := [(3, .int x50), (0, .ref a7), (1, .int p1), (2, .int p2)]) hx hb dX7_addHole_55 hl (k := 0) rfl (by rw [e51]; rfl) (by decide) rfl (fun ls hl => ?_)
        try have h52 : x50.toInt = k2.toInt + ((-1) : Int32).toInt := ci_add e51 (by omega) (by omega)
        refine lv_goto (tgt := 20) hx hb dX7_addHole_58 (by decide) ?_
        exact ih20 x50 g47 h49 (by omega) (by omega) _ _ hP hD hS _ hl
    exact lp20 ((v7_holes.toInt).toNat + 1) v7_holes f7_byPlace hf7_byPlace (by omega) (by omega) _ _ hP hD hS _ hl
  have c1 := ci_eq c1
  refine lv_bipush (v := (-3)) hx hb dX7_addHole_12 (by decide) ?_
  have hpo : (0 ≤ v7_holes.toInt ∧ v7_holes.toInt ≤ 40) ∧ (∀ j : Nat, 0 ≤ (f7_sheetOf j).toInt ∧ (f7_sheetOf j).toInt ≤ 7) ∧ (∀ j : Nat, 0 ≤ (f7_byPlace j).toInt ∧ (f7_byPlace j).toInt ≤ 39) ∧ ((v7_holes.toInt = 40 ∧ ((-3) : Int32).toInt = -3 ∧ v7_holes.toInt = v7_holes.toInt) ∨ (v7_holes.toInt < 40 ∧ ((-3) : Int32).toInt = v7_holes.toInt ∧ v7_holes.toInt = v7_holes.toInt + 1)) := ⟨i2, hf7_sheetOf, hf7_byPlace, (by omega)⟩
  exact ret _ _ _ _ (-3) (v7_holes, f7_sheetOf, f7_placeOf, f7_byPlace) dX7_addHole_14 hpo hP hD hS
set_option maxHeartbeats 4000000 in
set_option maxRecDepth 100000 in
theorem k_X7_findWorms (l : Launch) (D : va_G) (κ : Nat → ClassId) (β : Nat) (a7 : Nat) (r7 : Nat → Nat) (v7_count : Int32) (v7_holes : Int32) (v7_worms : Int32) (f7_sheetOf : Nat → Int32) (f7_placeOf : Nat → Int32) (f7_byPlace : Nat → Int32) (f7_wormOf : Nat → Int32) (f7_wormSheets : Nat → Int32) (sz : Nat) (p1 : Int32) (p2 : Int32) (i1 : Rg 0 8 v7_count) (i2 : Rg 0 40 v7_holes) (i3 : Rg 0 40 v7_worms) (hf7_sheetOf : ∀ j : Nat, 0 ≤ (f7_sheetOf j).toInt ∧ (f7_sheetOf j).toInt ≤ 7) (hf7_byPlace : ∀ j : Nat, 0 ≤ (f7_byPlace j).toInt ∧ (f7_byPlace j).toInt ≤ 39) (hf7_wormOf : ∀ j : Nat, 0 ≤ (f7_wormOf j).toInt ∧ (f7_wormOf j).toInt ≤ 39) : Met l yX7_findWorms wsX7_findWorms ({ frames := 0, cells := 0, slots := 0, locals := 0 } : Room) (PcK D κ β [O7 a7 r7 v7_count v7_holes v7_worms, (cI κ (r7 2) 40 f7_sheetOf), (cI κ (r7 3) 40 f7_placeOf), (cI κ (r7 4) 40 f7_byPlace), (cI κ (r7 6) 40 f7_wormOf), (cI κ (r7 7) 40 f7_wormSheets)] sz [.ref a7, .int p1, .int p2]) (QvK D (fun (u : Int32 × (Nat → Int32) × (Nat → Int32)) => (0 ≤ u.1.toInt ∧ u.1.toInt ≤ 40) ∧ (∀ j : Nat, 0 ≤ (u.2.1 j).toInt ∧ (u.2.1 j).toInt ≤ 39)) (fun (u : Int32 × (Nat → Int32) × (Nat → Int32)) => [O7 a7 r7 v7_count v7_holes u.1, (cI κ (r7 2) 40 f7_sheetOf), (cI κ (r7 3) 40 f7_placeOf), (cI κ (r7 4) 40 f7_byPlace), (cI κ (r7 6) 40 u.2.1), (cI κ (r7 7) 40 u.2.2)]) [O7 a7 r7 v7_count v7_holes v7_worms, (cI κ (r7 2) 40 f7_sheetOf), (cI κ (r7 3) 40 f7_placeOf), (cI κ (r7 4) 40 f7_byPlace), (cI κ (r7 6) 40 f7_wormOf), (cI κ (r7 7) 40 f7_wormSheets)] sz) 0 0 (va_A [O7 a7 r7 v7_count v7_holes v7_worms, (cI κ (r7 2) 40 f7_sheetOf), (cI κ (r7 3) 40 f7_placeOf), (cI κ (r7 4) 40 f7_byPlace), (cI κ (r7 6) 40 f7_wormOf), (cI κ (r7 7) 40 f7_wormSheets)] sz) := by
  refine ofK_v (cc := cX7_findWorms) (maxL := 7) (own := RX7) (by decide) rfl rfl (Nat.le_of_ble_eq_true rfl) ?_
  intro p e s m args below meth c Q A ls hsz hx hb hml hts hown hK hA hAB hP hD hl hname ret
  have hS : va_S A s.heap s.heap [] := va_S.rf
  have hl : lv_has ls 7 [(0, .ref a7), (1, .int p1), (2, .int p2)] := hl
  have w0 := hts (.fieldLink RX7 41 "OlderSkin$Sheets" "worms" "I") (List.mem_of_getElem? (i := 1) rfl)
  have w1 := (fun w h => List.mem_cons_of_mem _ (List.mem_append_right _ h) : ∀ w ∈ u_ws RX7 TX7 9, w ∈ wsX7_findWorms)
  have w2 := hts (.fieldLink RX7 38 "OlderSkin$Sheets" "holes" "I") (List.mem_of_getElem? (i := 2) rfl)
  have w3 := hts (.fieldLink RX7 21 "OlderSkin$Sheets" "byPlace" "[I") (List.mem_of_getElem? (i := 3) rfl)
  have w4 := hts (.fieldLink RX7 15 "OlderSkin$Sheets" "sheetOf" "[I") (List.mem_of_getElem? (i := 4) rfl)
  have w5 := hts (.fieldLink RX7 27 "OlderSkin$Sheets" "wormSheets" "[I") (List.mem_of_getElem? (i := 6) rfl)
  have w6 := hts (.fieldLink RX7 24 "OlderSkin$Sheets" "wormOf" "[I") (List.mem_of_getElem? (i := 7) rfl)
  have w7 := hts (.fieldLink RX7 18 "OlderSkin$Sheets" "placeOf" "[I") (List.mem_of_getElem? (i := 5) rfl)
  have l0 : (0 : Int32).toInt = 0 := by decide
  have l1 : ((-1) : Int32).toInt = -1 := by decide
  have l2 : (1 : Int32).toInt = 1 := by decide
  have i2 : 0 ≤ v7_holes.toInt ∧ v7_holes.toInt ≤ 40 := i2
  have i3 : 0 ≤ v7_worms.toInt ∧ v7_worms.toInt ≤ 40 := i3
  refine lv_aload_n hx hb dX7_findWorms_0 rfl (lv_at hl 0 rfl) ?_
  refine lv_iconst (v := 0) hx hb dX7_findWorms_1 (by decide) ?_
  refine va_put (D := D) (ci := 7) (v := .int 0) (ty := .int) (C := RX7) (T := TX7) (N := 9) hx hb hts w1 tyX7 tyX7_ok nmX7 hown hK.1 hP hD hS 0 rfl rfl 8 (by decide) w0 (fun _ h9 => h9) rfl (by decide +kernel) rfl rfl (Nat.le_of_ble_eq_true rfl) dX7_findWorms_2 (fun H locs hP hD hS => ?_)
  obtain ⟨hP, hD⟩ : PD D A [O7 a7 r7 v7_count v7_holes 0, (cI κ (r7 2) 40 f7_sheetOf), (cI κ (r7 3) 40 f7_placeOf), (cI κ (r7 4) 40 f7_byPlace), (cI κ (r7 6) 40 f7_wormOf), (cI κ (r7 7) 40 f7_wormSheets)] H := ⟨hP, hD⟩
  have h1 : 0 ≤ (0 : Int32).toInt ∧ (0 : Int32).toInt ≤ 40 := by omega
  refine lv_iconst (v := (-1)) hx hb dX7_findWorms_5 (by decide) ?_
  refine lv_istore_n (lv' := [(3, .int (-1)), (0, .ref a7), (1, .int p1), (2, .int p2)]) hx hb dX7_findWorms_6 rfl hl (by decide) rfl (fun ls hl => ?_)
  refine lv_iconst (v := 0) hx hb dX7_findWorms_7 (by decide) ?_
  refine lv_istore (lv' := [(4, .int 0), (3, .int (-1)), (0, .ref a7), (1, .int p1), (2, .int p2)]) hx hb dX7_findWorms_8 hl (by decide) rfl (fun ls hl => ?_)
  have lp10 : ∀ (n10 : Nat) (k2 : Int32) (k3 : Int32) (v4 : Int32) (g5 : Nat → Int32) (g7 : Nat → Int32), (0 ≤ v4.toInt ∧ v4.toInt ≤ 40) → (∀ j : Nat, 0 ≤ (g5 j).toInt ∧ (g5 j).toInt ≤ 39) → (0 ≤ k2.toInt) → (-1 ≤ k3.toInt ∧ k3.toInt ≤ 39) → (v4.toInt ≤ k2.toInt) → (k3.toInt < 0 ∨ 1 ≤ v4.toInt) → (v7_holes.toInt - k2.toInt).toNat < n10 → ∀ (H : Heap) (locs : List Loc), va_P D vwCl [O7 a7 r7 v7_count v7_holes v4, (cI κ (r7 2) 40 f7_sheetOf), (cI κ (r7 3) 40 f7_placeOf), (cI κ (r7 4) 40 f7_byPlace), (cI κ (r7 6) 40 g5), (cI κ (r7 7) 40 g7)] H → va_D A [O7 a7 r7 v7_count v7_holes v4, (cI κ (r7 2) 40 f7_sheetOf), (cI κ (r7 3) 40 f7_placeOf), (cI κ (r7 4) 40 f7_byPlace), (cI κ (r7 6) 40 g5), (cI κ (r7 7) 40 g7)] → va_S A s.heap H locs → ∀ ls : Array Slot, lv_has ls 7 [(4, .int k2), (3, .int k3), (0, .ref a7), (1, .int p1), (2, .int p2)] → W p l e ({ frames := 0, cells := 0, slots := 0, locals := 0 } : Room) s m args below meth c H locs 0 0 Q (F0 m 10 ls []) := by
    intro n10
    induction n10 with
    | zero =>
      intro k2 k3 v4 g5 g7 h8 h6 h9 h10 h11 h12 m13
      exact absurd m13 (Nat.not_lt_zero _)
    | succ n10 ih10 =>
      intro k2 k3 v4 g5 g7 h8 h6 h9 h10 h11 h12 m13 H locs hP hD hS ls hl
      refine lv_iload hx hb dX7_findWorms_10 (lv_at hl 0 rfl) ?_
      refine lv_aload_n hx hb dX7_findWorms_12 rfl (lv_at hl 2 rfl) ?_
      refine va_get (D := D) (ci := 7) (v := .int v7_holes) (C := RX7) (T := TX7) (N := 9) hx hb hts w1 hown hK.1 hP 0 rfl rfl 5 (by decide) w2 (fun _ h9 => h9) rfl dX7_findWorms_13 ?_
      refine lv_icmp_ge (tgt := 146) hx hb dX7_findWorms_16 (by decide) (fun c14 => ?_) (fun c14 => ?_)
      · have c14 := ci_le c14
        have hpo : (0 ≤ v4.toInt ∧ v4.toInt ≤ 40) ∧ (∀ j : Nat, 0 ≤ (g5 j).toInt ∧ (g5 j).toInt ≤ 39) := ⟨h8, h6⟩
        exact ret _ _ _ _ (v4, g5, g7) dX7_findWorms_146 hpo hP hD hS
      have c14 := ci_nle c14
      refine lv_aload_n hx hb dX7_findWorms_19 rfl (lv_at hl 2 rfl) ?_
      refine va_get (D := D) (ci := 7) (v := .ref (r7 4)) (C := RX7) (T := TX7) (N := 9) hx hb hts w1 hown hK.1 hP 0 rfl rfl 4 (by decide) w3 (fun _ h9 => h9) rfl dX7_findWorms_20 ?_
      refine lv_iload hx hb dX7_findWorms_23 (lv_at hl 0 rfl) ?_
      refine va_iald hx hb hK.1 hP 3 1 rfl rfl (i := k2) (ix (by omega) (by omega)) dX7_findWorms_25 ?_
      refine lv_topi (fun x15 e16 => ?_)
      have h17 : 0 ≤ x15.toInt ∧ x15.toInt ≤ 39 := by rw [e16]; exact hf7_byPlace _
      refine lv_istore (lv' := [(5, .int x15), (4, .int k2), (3, .int k3), (0, .ref a7), (1, .int p1), (2, .int p2)]) hx hb dX7_findWorms_26 hl (by decide) rfl (fun ls hl => ?_)
      refine lv_iconst (v := 1) hx hb dX7_findWorms_28 (by decide) ?_
      refine lv_aload_n hx hb dX7_findWorms_29 rfl (lv_at hl 3 rfl) ?_
      refine va_get (D := D) (ci := 7) (v := .ref (r7 2)) (C := RX7) (T := TX7) (N := 9) hx hb hts w1 hown hK.1 hP 0 rfl rfl 2 (by decide) w4 (fun _ h9 => h9) rfl dX7_findWorms_30 ?_
      refine lv_iload hx hb dX7_findWorms_33 (lv_at hl 0 rfl) ?_
      refine va_iald hx hb hK.1 hP 1 1 rfl rfl (i := x15) (ix (by omega) (by omega)) dX7_findWorms_35 ?_
      refine lv_topi (fun x18 e19 => ?_)
      have h20 : 0 ≤ x18.toInt ∧ x18.toInt ≤ 7 := by rw [e19]; exact hf7_sheetOf _
      refine lv_ishl hx hb dX7_findWorms_36 ?_
      refine lv_topi (fun x21 e22 => ?_)
      refine lv_istore (lv' := [(6, .int x21), (5, .int x15), (4, .int k2), (3, .int k3), (0, .ref a7), (1, .int p1), (2, .int p2)]) hx hb dX7_findWorms_37 hl (by decide) rfl (fun ls hl => ?_)
      refine lv_iload_n hx hb dX7_findWorms_39 rfl (lv_at hl 6 rfl) ?_
      refine lv_iload hx hb dX7_findWorms_40 (lv_at hl 0 rfl) ?_
      refine lv_iand hx hb dX7_findWorms_42 ?_
      refine lv_topi (fun x23 e24 => ?_)
      refine lv_if_ne (tgt := 49) hx hb dX7_findWorms_43 (by decide) (fun c25 => ?_) (fun c25 => ?_)
      · have c25 := ci_ne c25
        refine lv_iload_n hx hb dX7_findWorms_49 rfl (lv_at hl 3 rfl) ?_
        refine lv_if_lt (tgt := 88) hx hb dX7_findWorms_50 (by decide) (fun c26 => ?_) (fun c26 => ?_)
        · have c26 := ci_lt c26
          refine lv_aload_n hx hb dX7_findWorms_88 rfl (lv_at hl 4 rfl) ?_
          refine va_get (D := D) (ci := 7) (v := .ref (r7 7)) (C := RX7) (T := TX7) (N := 9) hx hb hts w1 hown hK.1 hP 0 rfl rfl 7 (by decide) w5 (fun _ h9 => h9) rfl dX7_findWorms_89 ?_
          refine lv_aload_n hx hb dX7_findWorms_92 rfl (lv_at hl 4 rfl) ?_
          refine va_get (D := D) (ci := 7) (v := .int v4) (C := RX7) (T := TX7) (N := 9) hx hb hts w1 hown hK.1 hP 0 rfl rfl 8 (by decide) w0 (fun _ h9 => h9) rfl dX7_findWorms_93 ?_
          refine lv_iconst (v := 0) hx hb dX7_findWorms_96 (by decide) ?_
          refine va_iast hx hb hK.1 hP hD hS 5 1 rfl rfl (i := v4) (ix (by omega) (by omega)) dX7_findWorms_97 (fun H locs hP hD hS => ?_)
          obtain ⟨g27, e28⟩ : ∃ y : Nat → Int32, y = upd g7 v4.toNatClampNeg 0 := ⟨_, rfl⟩
          rw [← e28] at hP hD
          obtain ⟨hP, hD⟩ : PD D A [O7 a7 r7 v7_count v7_holes v4, (cI κ (r7 2) 40 f7_sheetOf), (cI κ (r7 3) 40 f7_placeOf), (cI κ (r7 4) 40 f7_byPlace), (cI κ (r7 6) 40 g5), (cI κ (r7 7) 40 g27)] H := ⟨hP, hD⟩
          refine lv_aload_n hx hb dX7_findWorms_98 rfl (lv_at hl 4 rfl) ?_
          refine lv_dup hx hb dX7_findWorms_99 rfl ?_
          refine va_get (D := D) (ci := 7) (v := .int v4) (C := RX7) (T := TX7) (N := 9) hx hb hts w1 hown hK.1 hP 0 rfl rfl 8 (by decide) w0 (fun _ h9 => h9) rfl dX7_findWorms_100 ?_
          refine lv_iconst (v := 1) hx hb dX7_findWorms_103 (by decide) ?_
          refine lv_iadd hx hb dX7_findWorms_104 ?_
          refine lv_topi (fun x29 e30 => ?_)
          try have h31 : x29.toInt = v4.toInt + (1 : Int32).toInt := ci_add e30 (by omega) (by omega)
          refine va_put (D := D) (ci := 7) (v := .int x29) (ty := .int) (C := RX7) (T := TX7) (N := 9) hx hb hts w1 tyX7 tyX7_ok nmX7 hown hK.1 hP hD hS 0 rfl rfl 8 (by decide) w0 (fun _ h9 => h9) rfl (by decide +kernel) rfl rfl (Nat.le_of_ble_eq_true rfl) dX7_findWorms_105 (fun H locs hP hD hS => ?_)
          obtain ⟨hP, hD⟩ : PD D A [O7 a7 r7 v7_count v7_holes x29, (cI κ (r7 2) 40 f7_sheetOf), (cI κ (r7 3) 40 f7_placeOf), (cI κ (r7 4) 40 f7_byPlace), (cI κ (r7 6) 40 g5), (cI κ (r7 7) 40 g27)] H := ⟨hP, hD⟩
          have h32 : 0 ≤ x29.toInt ∧ x29.toInt ≤ 40 := by omega
          refine lv_aload_n hx hb dX7_findWorms_108 rfl (lv_at hl 4 rfl) ?_
          refine va_get (D := D) (ci := 7) (v := .ref (r7 7)) (C := RX7) (T := TX7) (N := 9) hx hb hts w1 hown hK.1 hP 0 rfl rfl 7 (by decide) w5 (fun _ h9 => h9) rfl dX7_findWorms_109 ?_
          refine lv_aload_n hx hb dX7_findWorms_112 rfl (lv_at hl 4 rfl) ?_
          refine va_get (D := D) (ci := 7) (v := .int x29) (C := RX7) (T := TX7) (N := 9) hx hb hts w1 hown hK.1 hP 0 rfl rfl 8 (by decide) w0 (fun _ h9 => h9) rfl dX7_findWorms_113 ?_
          refine lv_iconst (v := 1) hx hb dX7_findWorms_116 (by decide) ?_
          refine lv_isub hx hb dX7_findWorms_117 ?_
          refine lv_topi (fun x33 e34 => ?_)
          try have h35 : x33.toInt = x29.toInt - (1 : Int32).toInt := ci_sub e34 (by omega) (by omega)
          refine lv_dup2_11 hx hb dX7_findWorms_118 rfl rfl ?_
          refine va_iald hx hb hK.1 hP 5 1 rfl rfl (i := x33) (ix (by omega) (by omega)) dX7_findWorms_119 ?_
          refine lv_topi (fun x36 e37 => ?_)
          refine lv_iload hx hb dX7_findWorms_120 (lv_at hl 0 rfl) ?_
          refine lv_ior hx hb dX7_findWorms_122 ?_
          refine lv_topi (fun x38 e39 => ?_)
          refine va_iast hx hb hK.1 hP hD hS 5 1 rfl rfl (i := x33) (ix (by omega) (by omega)) dX7_findWorms_123 (fun H locs hP hD hS => ?_)
          obtain ⟨g40, e41⟩ : ∃ y : Nat → Int32, y = upd g27 x33.toNatClampNeg x38 := ⟨_, rfl⟩
          rw [← e41] at hP hD
          obtain ⟨hP, hD⟩ : PD D A [O7 a7 r7 v7_count v7_holes x29, (cI κ (r7 2) 40 f7_sheetOf), (cI κ (r7 3) 40 f7_placeOf), (cI κ (r7 4) 40 f7_byPlace), (cI κ (r7 6) 40 g5), (cI κ (r7 7) 40 g40)] H := ⟨hP, hD⟩
          refine lv_aload_n hx hb dX7_findWorms_124 rfl (lv_at hl 4 rfl) ?_
          refine va_get (D := D) (ci := 7) (v := .ref (r7 6)) (C := RX7) (T := TX7) (N := 9) hx hb hts w1 hown hK.1 hP 0 rfl rfl 6 (by decide) w6 (fun _ h9 => h9) rfl dX7_findWorms_125 ?_
          refine lv_iload hx hb dX7_findWorms_128 (lv_at hl 1 rfl) ?_
          refine lv_aload_n hx hb dX7_findWorms_130 rfl (lv_at hl 4 rfl) ?_
          refine va_get (D := D) (ci := 7) (v := .int x29) (C := RX7) (T := TX7) (N := 9) hx hb hts w1 hown hK.1 hP 0 rfl rfl 8 (by decide) w0 (fun _ h9 => h9) rfl dX7_findWorms_131 ?_
          refine lv_iconst (v := 1) hx hb dX7_findWorms_134 (by decide) ?_
          refine lv_isub hx hb dX7_findWorms_135 ?_
          refine lv_topi (fun x42 e43 => ?_)
          try have h44 : x42.toInt = x29.toInt - (1 : Int32).toInt := ci_sub e43 (by omega) (by omega)
          refine va_iast hx hb hK.1 hP hD hS 4 1 rfl rfl (i := x15) (ix (by omega) (by omega)) dX7_findWorms_136 (fun H locs hP hD hS => ?_)
          obtain ⟨g45, e46⟩ : ∃ y : Nat → Int32, y = upd g5 x15.toNatClampNeg x42 := ⟨_, rfl⟩
          rw [← e46] at hP hD
          obtain ⟨hP, hD⟩ : PD D A [O7 a7 r7 v7_count v7_holes x29, (cI κ (r7 2) 40 f7_sheetOf), (cI κ (r7 3) 40 f7_placeOf), (cI κ (r7 4) 40 f7_byPlace), (cI κ (r7 6) 40 g45), (cI κ (r7 7) 40 g40)] H := ⟨hP, hD⟩
          have h47 : ∀ j : Nat, 0 ≤ (g45 j).toInt ∧ (g45 j).toInt ≤ 39 := by rw [e46]; exact all_upd (P := fun z => 0 ≤ z.toInt ∧ z.toInt ≤ 39) h6 (by omega)
          refine lv_iload hx hb dX7_findWorms_137 (lv_at hl 1 rfl) ?_
          refine lv_istore_n (lv' := [(3, .int x15), (6, .int x21), (5, .int x15), (4, .int k2), (0, .ref a7), (1, .int p1), (2, .int p2)]) hx hb dX7_findWorms_139 rfl hl (by decide) rfl (fun ls hl => ?_)
          obtain ⟨x48, e49⟩ : ∃ y : Int32, y = k2 + 1 := ⟨_, rfl⟩
          refine lv_iinc (v := x48) (lv' := [(4, .int x48), (3, .int x15), (6, .int x21), (5, .int x15), (0, .ref a7), (1, .int p1), (2, .int p2)]) hx hb dX7_findWorms_140 hl (k := 3) rfl (by rw [e49]; rfl) (by decide) rfl (fun ls hl => ?_)
          try have h50 : x48.toInt = k2.toInt + (1 : Int32).toInt := ci_add e49 (by omega) (by omega)
          refine lv_goto (tgt := 10) hx hb dX7_findWorms_143 (by decide) ?_
          exact ih10 x48 x15 x29 g45 g40 h32 h47 (by omega) (by omega) (by omega) (by omega) (by omega) _ _ hP hD hS _ (lv_sub hl [0, 1, 4, 5, 6] rfl)
        have c26 := ci_nlt c26
        refine lv_aload_n hx hb dX7_findWorms_53 rfl (lv_at hl 4 rfl) ?_
        refine va_get (D := D) (ci := 7) (v := .ref (r7 3)) (C := RX7) (T := TX7) (N := 9) hx hb hts w1 hown hK.1 hP 0 rfl rfl 3 (by decide) w7 (fun _ h9 => h9) rfl dX7_findWorms_54 ?_
        refine lv_iload hx hb dX7_findWorms_57 (lv_at hl 1 rfl) ?_
        refine va_iald hx hb hK.1 hP 2 1 rfl rfl (i := x15) (ix (by omega) (by omega)) dX7_findWorms_59 ?_
        refine lv_topi (fun x51 e52 => ?_)
        refine lv_aload_n hx hb dX7_findWorms_60 rfl (lv_at hl 4 rfl) ?_
        refine va_get (D := D) (ci := 7) (v := .ref (r7 3)) (C := RX7) (T := TX7) (N := 9) hx hb hts w1 hown hK.1 hP 0 rfl rfl 3 (by decide) w7 (fun _ h9 => h9) rfl dX7_findWorms_61 ?_
        refine lv_iload_n hx hb dX7_findWorms_64 rfl (lv_at hl 3 rfl) ?_
        refine va_iald hx hb hK.1 hP 2 1 rfl rfl (i := k3) (ix (by omega) (by omega)) dX7_findWorms_65 ?_
        refine lv_topi (fun x53 e54 => ?_)
        refine lv_isub hx hb dX7_findWorms_66 ?_
        refine lv_topi (fun x55 e56 => ?_)
        refine lv_iload_n hx hb dX7_findWorms_67 rfl (lv_at hl 5 rfl) ?_
        refine lv_icmp_gt (tgt := 88) hx hb dX7_findWorms_68 (by decide) (fun c57 => ?_) (fun c57 => ?_)
        · have c57 := ci_lt c57
          refine lv_aload_n hx hb dX7_findWorms_88 rfl (lv_at hl 4 rfl) ?_
          refine va_get (D := D) (ci := 7) (v := .ref (r7 7)) (C := RX7) (T := TX7) (N := 9) hx hb hts w1 hown hK.1 hP 0 rfl rfl 7 (by decide) w5 (fun _ h9 => h9) rfl dX7_findWorms_89 ?_
          refine lv_aload_n hx hb dX7_findWorms_92 rfl (lv_at hl 4 rfl) ?_
          refine va_get (D := D) (ci := 7) (v := .int v4) (C := RX7) (T := TX7) (N := 9) hx hb hts w1 hown hK.1 hP 0 rfl rfl 8 (by decide) w0 (fun _ h9 => h9) rfl dX7_findWorms_93 ?_
          refine lv_iconst (v := 0) hx hb dX7_findWorms_96 (by decide) ?_
          refine va_iast hx hb hK.1 hP hD hS 5 1 rfl rfl (i := v4) (ix (by omega) (by omega)) dX7_findWorms_97 (fun H locs hP hD hS => ?_)
          obtain ⟨g58, e59⟩ : ∃ y : Nat → Int32, y = upd g7 v4.toNatClampNeg 0 := ⟨_, rfl⟩
          rw [← e59] at hP hD
          obtain ⟨hP, hD⟩ : PD D A [O7 a7 r7 v7_count v7_holes v4, (cI κ (r7 2) 40 f7_sheetOf), (cI κ (r7 3) 40 f7_placeOf), (cI κ (r7 4) 40 f7_byPlace), (cI κ (r7 6) 40 g5), (cI κ (r7 7) 40 g58)] H := ⟨hP, hD⟩
          refine lv_aload_n hx hb dX7_findWorms_98 rfl (lv_at hl 4 rfl) ?_
          refine lv_dup hx hb dX7_findWorms_99 rfl ?_
          refine va_get (D := D) (ci := 7) (v := .int v4) (C := RX7) (T := TX7) (N := 9) hx hb hts w1 hown hK.1 hP 0 rfl rfl 8 (by decide) w0 (fun _ h9 => h9) rfl dX7_findWorms_100 ?_
          refine lv_iconst (v := 1) hx hb dX7_findWorms_103 (by decide) ?_
          refine lv_iadd hx hb dX7_findWorms_104 ?_
          refine lv_topi (fun x60 e61 => ?_)
          try have h62 : x60.toInt = v4.toInt + (1 : Int32).toInt := ci_add e61 (by omega) (by omega)
          refine va_put (D := D) (ci := 7) (v := .int x60) (ty := .int) (C := RX7) (T := TX7) (N := 9) hx hb hts w1 tyX7 tyX7_ok nmX7 hown hK.1 hP hD hS 0 rfl rfl 8 (by decide) w0 (fun _ h9 => h9) rfl (by decide +kernel) rfl rfl (Nat.le_of_ble_eq_true rfl) dX7_findWorms_105 (fun H locs hP hD hS => ?_)
          obtain ⟨hP, hD⟩ : PD D A [O7 a7 r7 v7_count v7_holes x60, (cI κ (r7 2) 40 f7_sheetOf), (cI κ (r7 3) 40 f7_placeOf), (cI κ (r7 4) 40 f7_byPlace), (cI κ (r7 6) 40 g5), (cI κ (r7 7) 40 g58)] H := ⟨hP, hD⟩
          have h63 : 0 ≤ x60.toInt ∧ x60.toInt ≤ 40 := by omega
          refine lv_aload_n hx hb dX7_findWorms_108 rfl (lv_at hl 4 rfl) ?_
          refine va_get (D := D) (ci := 7) (v := .ref (r7 7)) (C := RX7) (T := TX7) (N := 9) hx hb hts w1 hown hK.1 hP 0 rfl rfl 7 (by decide) w5 (fun _ h9 => h9) rfl dX7_findWorms_109 ?_
          refine lv_aload_n hx hb dX7_findWorms_112 rfl (lv_at hl 4 rfl) ?_
          refine va_get (D := D) (ci := 7) (v := .int x60) (C := RX7) (T := TX7) (N := 9) hx hb hts w1 hown hK.1 hP 0 rfl rfl 8 (by decide) w0 (fun _ h9 => h9) rfl dX7_findWorms_113 ?_
          refine lv_iconst (v := 1) hx hb dX7_findWorms_116 (by decide) ?_
          refine lv_isub hx hb dX7_findWorms_117 ?_
          refine lv_topi (fun x64 e65 => ?_)
          try have h66 : x64.toInt = x60.toInt - (1 : Int32).toInt := ci_sub e65 (by omega) (by omega)
          refine lv_dup2_11 hx hb dX7_findWorms_118 rfl rfl ?_
          refine va_iald hx hb hK.1 hP 5 1 rfl rfl (i := x64) (ix (by omega) (by omega)) dX7_findWorms_119 ?_
          refine lv_topi (fun x67 e68 => ?_)
          refine lv_iload hx hb dX7_findWorms_120 (lv_at hl 0 rfl) ?_
          refine lv_ior hx hb dX7_findWorms_122 ?_
          refine lv_topi (fun x69 e70 => ?_)
          refine va_iast hx hb hK.1 hP hD hS 5 1 rfl rfl (i := x64) (ix (by omega) (by omega)) dX7_findWorms_123 (fun H locs hP hD hS => ?_)
          obtain ⟨g71, e72⟩ : ∃ y : Nat → Int32, y = upd g58 x64.toNatClampNeg x69 := ⟨_, rfl⟩
          rw [← e72] at hP hD
          obtain ⟨hP, hD⟩ : PD D A [O7 a7 r7 v7_count v7_holes x60, (cI κ (r7 2) 40 f7_sheetOf), (cI κ (r7 3) 40 f7_placeOf), (cI κ (r7 4) 40 f7_byPlace), (cI κ (r7 6) 40 g5), (cI κ (r7 7) 40 g71)] H := ⟨hP, hD⟩
          refine lv_aload_n hx hb dX7_findWorms_124 rfl (lv_at hl 4 rfl) ?_
          refine va_get (D := D) (ci := 7) (v := .ref (r7 6)) (C := RX7) (T := TX7) (N := 9) hx hb hts w1 hown hK.1 hP 0 rfl rfl 6 (by decide) w6 (fun _ h9 => h9) rfl dX7_findWorms_125 ?_
          refine lv_iload hx hb dX7_findWorms_128 (lv_at hl 1 rfl) ?_
          refine lv_aload_n hx hb dX7_findWorms_130 rfl (lv_at hl 4 rfl) ?_
          refine va_get (D := D) (ci := 7) (v := .int x60) (C := RX7) (T := TX7) (N := 9) hx hb hts w1 hown hK.1 hP 0 rfl rfl 8 (by decide) w0 (fun _ h9 => h9) rfl dX7_findWorms_131 ?_
          refine lv_iconst (v := 1) hx hb dX7_findWorms_134 (by decide) ?_
          refine lv_isub hx hb dX7_findWorms_135 ?_
          refine lv_topi (fun x73 e74 => ?_)
          try have h75 : x73.toInt = x60.toInt - (1 : Int32).toInt := ci_sub e74 (by omega) (by omega)
          refine va_iast hx hb hK.1 hP hD hS 4 1 rfl rfl (i := x15) (ix (by omega) (by omega)) dX7_findWorms_136 (fun H locs hP hD hS => ?_)
          obtain ⟨g76, e77⟩ : ∃ y : Nat → Int32, y = upd g5 x15.toNatClampNeg x73 := ⟨_, rfl⟩
          rw [← e77] at hP hD
          obtain ⟨hP, hD⟩ : PD D A [O7 a7 r7 v7_count v7_holes x60, (cI κ (r7 2) 40 f7_sheetOf), (cI κ (r7 3) 40 f7_placeOf), (cI κ (r7 4) 40 f7_byPlace), (cI κ (r7 6) 40 g76), (cI κ (r7 7) 40 g71)] H := ⟨hP, hD⟩
          have h78 : ∀ j : Nat, 0 ≤ (g76 j).toInt ∧ (g76 j).toInt ≤ 39 := by rw [e77]; exact all_upd (P := fun z => 0 ≤ z.toInt ∧ z.toInt ≤ 39) h6 (by omega)
          refine lv_iload hx hb dX7_findWorms_137 (lv_at hl 1 rfl) ?_
          refine lv_istore_n (lv' := [(3, .int x15), (6, .int x21), (5, .int x15), (4, .int k2), (0, .ref a7), (1, .int p1), (2, .int p2)]) hx hb dX7_findWorms_139 rfl hl (by decide) rfl (fun ls hl => ?_)
          obtain ⟨x79, e80⟩ : ∃ y : Int32, y = k2 + 1 := ⟨_, rfl⟩
          refine lv_iinc (v := x79) (lv' := [(4, .int x79), (3, .int x15), (6, .int x21), (5, .int x15), (0, .ref a7), (1, .int p1), (2, .int p2)]) hx hb dX7_findWorms_140 hl (k := 3) rfl (by rw [e80]; rfl) (by decide) rfl (fun ls hl => ?_)
          try have h81 : x79.toInt = k2.toInt + (1 : Int32).toInt := ci_add e80 (by omega) (by omega)
          refine lv_goto (tgt := 10) hx hb dX7_findWorms_143 (by decide) ?_
          exact ih10 x79 x15 x60 g76 g71 h63 h78 (by omega) (by omega) (by omega) (by omega) (by omega) _ _ hP hD hS _ (lv_sub hl [0, 1, 4, 5, 6] rfl)
        have c57 := ci_nlt c57
        refine lv_aload_n hx hb dX7_findWorms_71 rfl (lv_at hl 4 rfl) ?_
        refine va_get (D := D) (ci := 7) (v := .ref (r7 7)) (C := RX7) (T := TX7) (N := 9) hx hb hts w1 hown hK.1 hP 0 rfl rfl 7 (by decide) w5 (fun _ h9 => h9) rfl dX7_findWorms_72 ?_
        refine lv_aload_n hx hb dX7_findWorms_75 rfl (lv_at hl 4 rfl) ?_
        refine va_get (D := D) (ci := 7) (v := .int v4) (C := RX7) (T := TX7) (N := 9) hx hb hts w1 hown hK.1 hP 0 rfl rfl 8 (by decide) w0 (fun _ h9 => h9) rfl dX7_findWorms_76 ?_
        refine lv_iconst (v := 1) hx hb dX7_findWorms_79 (by decide) ?_
        refine lv_isub hx hb dX7_findWorms_80 ?_
        refine lv_topi (fun x82 e83 => ?_)
        try have h84 : x82.toInt = v4.toInt - (1 : Int32).toInt := ci_sub e83 (by omega) (by omega)
        refine va_iald hx hb hK.1 hP 5 1 rfl rfl (i := x82) (ix (by omega) (by omega)) dX7_findWorms_81 ?_
        refine lv_topi (fun x85 e86 => ?_)
        refine lv_iload hx hb dX7_findWorms_82 (lv_at hl 0 rfl) ?_
        refine lv_iand hx hb dX7_findWorms_84 ?_
        refine lv_topi (fun x87 e88 => ?_)
        refine lv_if_eq (tgt := 108) hx hb dX7_findWorms_85 (by decide) (fun c89 => ?_) (fun c89 => ?_)
        · have c89 := ci_eq c89
          refine lv_aload_n hx hb dX7_findWorms_108 rfl (lv_at hl 4 rfl) ?_
          refine va_get (D := D) (ci := 7) (v := .ref (r7 7)) (C := RX7) (T := TX7) (N := 9) hx hb hts w1 hown hK.1 hP 0 rfl rfl 7 (by decide) w5 (fun _ h9 => h9) rfl dX7_findWorms_109 ?_
          refine lv_aload_n hx hb dX7_findWorms_112 rfl (lv_at hl 4 rfl) ?_
          refine va_get (D := D) (ci := 7) (v := .int v4) (C := RX7) (T := TX7) (N := 9) hx hb hts w1 hown hK.1 hP 0 rfl rfl 8 (by decide) w0 (fun _ h9 => h9) rfl dX7_findWorms_113 ?_
          refine lv_iconst (v := 1) hx hb dX7_findWorms_116 (by decide) ?_
          refine lv_isub hx hb dX7_findWorms_117 ?_
          refine lv_topi (fun x90 e91 => ?_)
          try have h92 : x90.toInt = v4.toInt - (1 : Int32).toInt := ci_sub e91 (by omega) (by omega)
          refine lv_dup2_11 hx hb dX7_findWorms_118 rfl rfl ?_
          refine va_iald hx hb hK.1 hP 5 1 rfl rfl (i := x90) (ix (by omega) (by omega)) dX7_findWorms_119 ?_
          refine lv_topi (fun x93 e94 => ?_)
          refine lv_iload hx hb dX7_findWorms_120 (lv_at hl 0 rfl) ?_
          refine lv_ior hx hb dX7_findWorms_122 ?_
          refine lv_topi (fun x95 e96 => ?_)
          refine va_iast hx hb hK.1 hP hD hS 5 1 rfl rfl (i := x90) (ix (by omega) (by omega)) dX7_findWorms_123 (fun H locs hP hD hS => ?_)
          obtain ⟨g97, e98⟩ : ∃ y : Nat → Int32, y = upd g7 x90.toNatClampNeg x95 := ⟨_, rfl⟩
          rw [← e98] at hP hD
          obtain ⟨hP, hD⟩ : PD D A [O7 a7 r7 v7_count v7_holes v4, (cI κ (r7 2) 40 f7_sheetOf), (cI κ (r7 3) 40 f7_placeOf), (cI κ (r7 4) 40 f7_byPlace), (cI κ (r7 6) 40 g5), (cI κ (r7 7) 40 g97)] H := ⟨hP, hD⟩
          refine lv_aload_n hx hb dX7_findWorms_124 rfl (lv_at hl 4 rfl) ?_
          refine va_get (D := D) (ci := 7) (v := .ref (r7 6)) (C := RX7) (T := TX7) (N := 9) hx hb hts w1 hown hK.1 hP 0 rfl rfl 6 (by decide) w6 (fun _ h9 => h9) rfl dX7_findWorms_125 ?_
          refine lv_iload hx hb dX7_findWorms_128 (lv_at hl 1 rfl) ?_
          refine lv_aload_n hx hb dX7_findWorms_130 rfl (lv_at hl 4 rfl) ?_
          refine va_get (D := D) (ci := 7) (v := .int v4) (C := RX7) (T := TX7) (N := 9) hx hb hts w1 hown hK.1 hP 0 rfl rfl 8 (by decide) w0 (fun _ h9 => h9) rfl dX7_findWorms_131 ?_
          refine lv_iconst (v := 1) hx hb dX7_findWorms_134 (by decide) ?_
          refine lv_isub hx hb dX7_findWorms_135 ?_
          refine lv_topi (fun x99 e100 => ?_)
          try have h101 : x99.toInt = v4.toInt - (1 : Int32).toInt := ci_sub e100 (by omega) (by omega)
          refine va_iast hx hb hK.1 hP hD hS 4 1 rfl rfl (i := x15) (ix (by omega) (by omega)) dX7_findWorms_136 (fun H locs hP hD hS => ?_)
          obtain ⟨g102, e103⟩ : ∃ y : Nat → Int32, y = upd g5 x15.toNatClampNeg x99 := ⟨_, rfl⟩
          rw [← e103] at hP hD
          obtain ⟨hP, hD⟩ : PD D A [O7 a7 r7 v7_count v7_holes v4, (cI κ (r7 2) 40 f7_sheetOf), (cI κ (r7 3) 40 f7_placeOf), (cI κ (r7 4) 40 f7_byPlace), (cI κ (r7 6) 40 g102), (cI κ (r7 7) 40 g97)] H := ⟨hP, hD⟩
          have h104 : ∀ j : Nat, 0 ≤ (g102 j).toInt ∧ (g102 j).toInt ≤ 39 := by rw [e103]; exact all_upd (P := fun z => 0 ≤ z.toInt ∧ z.toInt ≤ 39) h6 (by omega)
          refine lv_iload hx hb dX7_findWorms_137 (lv_at hl 1 rfl) ?_
          refine lv_istore_n (lv' := [(3, .int x15), (6, .int x21), (5, .int x15), (4, .int k2), (0, .ref a7), (1, .int p1), (2, .int p2)]) hx hb dX7_findWorms_139 rfl hl (by decide) rfl (fun ls hl => ?_)
          obtain ⟨x105, e106⟩ : ∃ y : Int32, y = k2 + 1 := ⟨_, rfl⟩
          refine lv_iinc (v := x105) (lv' := [(4, .int x105), (3, .int x15), (6, .int x21), (5, .int x15), (0, .ref a7), (1, .int p1), (2, .int p2)]) hx hb dX7_findWorms_140 hl (k := 3) rfl (by rw [e106]; rfl) (by decide) rfl (fun ls hl => ?_)
          try have h107 : x105.toInt = k2.toInt + (1 : Int32).toInt := ci_add e106 (by omega) (by omega)
          refine lv_goto (tgt := 10) hx hb dX7_findWorms_143 (by decide) ?_
          exact ih10 x105 x15 v4 g102 g97 h8 h104 (by omega) (by omega) (by omega) (by omega) (by omega) _ _ hP hD hS _ (lv_sub hl [0, 1, 4, 5, 6] rfl)
        have c89 := ci_ne c89
        refine lv_aload_n hx hb dX7_findWorms_88 rfl (lv_at hl 4 rfl) ?_
        refine va_get (D := D) (ci := 7) (v := .ref (r7 7)) (C := RX7) (T := TX7) (N := 9) hx hb hts w1 hown hK.1 hP 0 rfl rfl 7 (by decide) w5 (fun _ h9 => h9) rfl dX7_findWorms_89 ?_
        refine lv_aload_n hx hb dX7_findWorms_92 rfl (lv_at hl 4 rfl) ?_
        refine va_get (D := D) (ci := 7) (v := .int v4) (C := RX7) (T := TX7) (N := 9) hx hb hts w1 hown hK.1 hP 0 rfl rfl 8 (by decide) w0 (fun _ h9 => h9) rfl dX7_findWorms_93 ?_
        refine lv_iconst (v := 0) hx hb dX7_findWorms_96 (by decide) ?_
        refine va_iast hx hb hK.1 hP hD hS 5 1 rfl rfl (i := v4) (ix (by omega) (by omega)) dX7_findWorms_97 (fun H locs hP hD hS => ?_)
        obtain ⟨g108, e109⟩ : ∃ y : Nat → Int32, y = upd g7 v4.toNatClampNeg 0 := ⟨_, rfl⟩
        rw [← e109] at hP hD
        obtain ⟨hP, hD⟩ : PD D A [O7 a7 r7 v7_count v7_holes v4, (cI κ (r7 2) 40 f7_sheetOf), (cI κ (r7 3) 40 f7_placeOf), (cI κ (r7 4) 40 f7_byPlace), (cI κ (r7 6) 40 g5), (cI κ (r7 7) 40 g108)] H := ⟨hP, hD⟩
        refine lv_aload_n hx hb dX7_findWorms_98 rfl (lv_at hl 4 rfl) ?_
        refine lv_dup hx hb dX7_findWorms_99 rfl ?_
        refine va_get (D := D) (ci := 7) (v := .int v4) (C := RX7) (T := TX7) (N := 9) hx hb hts w1 hown hK.1 hP 0 rfl rfl 8 (by decide) w0 (fun _ h9 => h9) rfl dX7_findWorms_100 ?_
        refine lv_iconst (v := 1) hx hb dX7_findWorms_103 (by decide) ?_
        refine lv_iadd hx hb dX7_findWorms_104 ?_
        refine lv_topi (fun x110 e111 => ?_)
        try have h112 : x110.toInt = v4.toInt + (1 : Int32).toInt := ci_add e111 (by omega) (by omega)
        refine va_put (D := D) (ci := 7) (v := .int x110) (ty := .int) (C := RX7) (T := TX7) (N := 9) hx hb hts w1 tyX7 tyX7_ok nmX7 hown hK.1 hP hD hS 0 rfl rfl 8 (by decide) w0 (fun _ h9 => h9) rfl (by decide +kernel) rfl rfl (Nat.le_of_ble_eq_true rfl) dX7_findWorms_105 (fun H locs hP hD hS => ?_)
        obtain ⟨hP, hD⟩ : PD D A [O7 a7 r7 v7_count v7_holes x110, (cI κ (r7 2) 40 f7_sheetOf), (cI κ (r7 3) 40 f7_placeOf), (cI κ (r7 4) 40 f7_byPlace), (cI κ (r7 6) 40 g5), (cI κ (r7 7) 40 g108)] H := ⟨hP, hD⟩
        have h113 : 0 ≤ x110.toInt ∧ x110.toInt ≤ 40 := by omega
        refine lv_aload_n hx hb dX7_findWorms_108 rfl (lv_at hl 4 rfl) ?_
        refine va_get (D := D) (ci := 7) (v := .ref (r7 7)) (C := RX7) (T := TX7) (N := 9) hx hb hts w1 hown hK.1 hP 0 rfl rfl 7 (by decide) w5 (fun _ h9 => h9) rfl dX7_findWorms_109 ?_
        refine lv_aload_n hx hb dX7_findWorms_112 rfl (lv_at hl 4 rfl) ?_
        refine va_get (D := D) (ci := 7) (v := .int x110) (C := RX7) (T := TX7) (N := 9) hx hb hts w1 hown hK.1 hP 0 rfl rfl 8 (by decide) w0 (fun _ h9 => h9) rfl dX7_findWorms_113 ?_
        refine lv_iconst (v := 1) hx hb dX7_findWorms_116 (by decide) ?_
        refine lv_isub hx hb dX7_findWorms_117 ?_
        refine lv_topi (fun x114 e115 => ?_)
        try have h116 : x114.toInt = x110.toInt - (1 : Int32).toInt := ci_sub e115 (by omega) (by omega)
        refine lv_dup2_11 hx hb dX7_findWorms_118 rfl rfl ?_
        refine va_iald hx hb hK.1 hP 5 1 rfl rfl (i := x114) (ix (by omega) (by omega)) dX7_findWorms_119 ?_
        refine lv_topi (fun x117 e118 => ?_)
        refine lv_iload hx hb dX7_findWorms_120 (lv_at hl 0 rfl) ?_
        refine lv_ior hx hb dX7_findWorms_122 ?_
        refine lv_topi (fun x119 e120 => ?_)
        refine va_iast hx hb hK.1 hP hD hS 5 1 rfl rfl (i := x114) (ix (by omega) (by omega)) dX7_findWorms_123 (fun H locs hP hD hS => ?_)
        obtain ⟨g121, e122⟩ : ∃ y : Nat → Int32, y = upd g108 x114.toNatClampNeg x119 := ⟨_, rfl⟩
        rw [← e122] at hP hD
        obtain ⟨hP, hD⟩ : PD D A [O7 a7 r7 v7_count v7_holes x110, (cI κ (r7 2) 40 f7_sheetOf), (cI κ (r7 3) 40 f7_placeOf), (cI κ (r7 4) 40 f7_byPlace), (cI κ (r7 6) 40 g5), (cI κ (r7 7) 40 g121)] H := ⟨hP, hD⟩
        refine lv_aload_n hx hb dX7_findWorms_124 rfl (lv_at hl 4 rfl) ?_
        refine va_get (D := D) (ci := 7) (v := .ref (r7 6)) (C := RX7) (T := TX7) (N := 9) hx hb hts w1 hown hK.1 hP 0 rfl rfl 6 (by decide) w6 (fun _ h9 => h9) rfl dX7_findWorms_125 ?_
        refine lv_iload hx hb dX7_findWorms_128 (lv_at hl 1 rfl) ?_
        refine lv_aload_n hx hb dX7_findWorms_130 rfl (lv_at hl 4 rfl) ?_
        refine va_get (D := D) (ci := 7) (v := .int x110) (C := RX7) (T := TX7) (N := 9) hx hb hts w1 hown hK.1 hP 0 rfl rfl 8 (by decide) w0 (fun _ h9 => h9) rfl dX7_findWorms_131 ?_
        refine lv_iconst (v := 1) hx hb dX7_findWorms_134 (by decide) ?_
        refine lv_isub hx hb dX7_findWorms_135 ?_
        refine lv_topi (fun x123 e124 => ?_)
        try have h125 : x123.toInt = x110.toInt - (1 : Int32).toInt := ci_sub e124 (by omega) (by omega)
        refine va_iast hx hb hK.1 hP hD hS 4 1 rfl rfl (i := x15) (ix (by omega) (by omega)) dX7_findWorms_136 (fun H locs hP hD hS => ?_)
        obtain ⟨g126, e127⟩ : ∃ y : Nat → Int32, y = upd g5 x15.toNatClampNeg x123 := ⟨_, rfl⟩
        rw [← e127] at hP hD
        obtain ⟨hP, hD⟩ : PD D A [O7 a7 r7 v7_count v7_holes x110, (cI κ (r7 2) 40 f7_sheetOf), (cI κ (r7 3) 40 f7_placeOf), (cI κ (r7 4) 40 f7_byPlace), (cI κ (r7 6) 40 g126), (cI κ (r7 7) 40 g121)] H := ⟨hP, hD⟩
        have h128 : ∀ j : Nat, 0 ≤ (g126 j).toInt ∧ (g126 j).toInt ≤ 39 := by rw [e127]; exact all_upd (P := fun z => 0 ≤ z.toInt ∧ z.toInt ≤ 39) h6 (by omega)
        refine lv_iload hx hb dX7_findWorms_137 (lv_at hl 1 rfl) ?_
        refine lv_istore_n (lv' := [(3, .int x15), (6, .int x21), (5, .int x15), (4, .int k2), (0, .ref a7), (1, .int p1), (2, .int p2)]) hx hb dX7_findWorms_139 rfl hl (by decide) rfl (fun ls hl => ?_)
        obtain ⟨x129, e130⟩ : ∃ y : Int32, y = k2 + 1 := ⟨_, rfl⟩
        refine lv_iinc (v := x129) (lv' := [(4, .int x129), (3, .int x15), (6, .int x21), (5, .int x15), (0, .ref a7), (1, .int p1), (2, .int p2)]) hx hb dX7_findWorms_140 hl (k := 3) rfl (by rw [e130]; rfl) (by decide) rfl (fun ls hl => ?_)
        try have h131 : x129.toInt = k2.toInt + (1 : Int32).toInt := ci_add e130 (by omega) (by omega)
        refine lv_goto (tgt := 10) hx hb dX7_findWorms_143 (by decide) ?_
        exact ih10 x129 x15 x110 g126 g121 h113 h128 (by omega) (by omega) (by omega) (by omega) (by omega) _ _ hP hD hS _ (lv_sub hl [0, 1, 4, 5, 6] rfl)
      have c25 := ci_eq c25
      refine lv_goto (tgt := 140) hx hb dX7_findWorms_46 (by decide) ?_
      obtain ⟨x132, e133⟩ : ∃ y : Int32, y = k2 + 1 := ⟨_, rfl⟩
      refine lv_iinc (v := x132) (lv' := [(4, .int x132), (6, .int x21), (5, .int x15), (3, .int k3), (0, .ref a7), (1, .int p1), (2, .int p2)]) hx hb dX7_findWorms_140 hl (k := 2) rfl (by rw [e133]; rfl) (by decide) rfl (fun ls hl => ?_)
      try have h134 : x132.toInt = k2.toInt + (1 : Int32).toInt := ci_add e133 (by omega) (by omega)
      refine lv_goto (tgt := 10) hx hb dX7_findWorms_143 (by decide) ?_
      exact ih10 x132 k3 v4 g5 g7 h8 h6 (by omega) (by omega) (by omega) (by omega) (by omega) _ _ hP hD hS _ (lv_sub hl [0, 3, 4, 5, 6] rfl)
  exact lp10 ((v7_holes.toInt - (0 : Int32).toInt).toNat + 1) 0 (-1) 0 f7_wormOf f7_wormSheets h1 hf7_wormOf (by omega) (by omega) (by omega) (by omega) (by omega) _ _ hP hD hS _ hl
set_option maxHeartbeats 4000000 in
set_option maxRecDepth 100000 in
theorem k_X7_youngest (l : Launch) (D : va_G) (κ : Nat → ClassId) (β : Nat) (a7 : Nat) (r7 : Nat → Nat) (v7_count : Int32) (v7_holes : Int32) (v7_worms : Int32) (f7_ages : Nat → Int32) (sz : Nat) (i1 : Rg 0 8 v7_count) (i2 : Rg 0 40 v7_holes) (i3 : Rg 0 40 v7_worms) : Met l yX7_youngest wsX7_youngest ({ frames := 1, cells := 0, slots := 0, locals := 21 } : Room) (PcK D κ β [O7 a7 r7 v7_count v7_holes v7_worms, (cI κ (r7 0) 8 f7_ages)] sz [.ref a7]) (QiK D (fun (r : Int32) (u : Unit) => True) (fun (u : Unit) => [O7 a7 r7 v7_count v7_holes v7_worms, (cI κ (r7 0) 8 f7_ages)]) [O7 a7 r7 v7_count v7_holes v7_worms, (cI κ (r7 0) 8 f7_ages)] sz) 0 0 (va_A [O7 a7 r7 v7_count v7_holes v7_worms, (cI κ (r7 0) 8 f7_ages)] sz) := by
  refine ofK_i (cc := cX7_youngest) (maxL := 3) (own := RX7) (by decide) rfl rfl (Nat.le_of_ble_eq_true rfl) ?_
  intro p e s m args below meth c Q A ls hsz hx hb hml hts hown hK hA hAB hP hD hl ret
  have hS : va_S A s.heap s.heap [] := va_S.rf
  have hl : lv_has ls 3 [(0, .ref a7)] := hl
  have w0 := hts (.fieldLink RX7 30 "OlderSkin$Sheets" "count" "I") (List.mem_of_getElem? (i := 1) rfl)
  have w1 := (fun w h => List.mem_cons_of_mem _ (List.mem_append_right _ h) : ∀ w ∈ u_ws RX7 TX7 9, w ∈ wsX7_youngest)
  have w2 := hts (.fieldLink RX7 9 "OlderSkin$Sheets" "ages" "[I") (List.mem_of_getElem? (i := 2) rfl)
  have w3 := hts (.methodLink RX7 44 Lib.Math.max.name) (List.mem_of_getElem? (i := 3) rfl)
  have w4 := hts (.static Lib.Math.max.name) (List.mem_of_getElem? (i := 4) rfl)
  have w5 := hts (.initialized "java/lang/Math") (List.mem_of_getElem? (i := 5) rfl)
  have w6 := hts (.code Lib.Math.max.name Lib.Math.max.code 2 (some .int)) (List.mem_of_getElem? (i := 6) rfl)
  have l0 : (0 : Int32).toInt = 0 := by decide
  have l1 : (1 : Int32).toInt = 1 := by decide
  have i1 : 0 ≤ v7_count.toInt ∧ v7_count.toInt ≤ 8 := i1
  refine lv_iconst (v := 0) hx hb dX7_youngest_0 (by decide) ?_
  refine lv_istore_n (lv' := [(1, .int 0), (0, .ref a7)]) hx hb dX7_youngest_1 rfl hl (by decide) rfl (fun ls hl => ?_)
  refine lv_iconst (v := 0) hx hb dX7_youngest_2 (by decide) ?_
  refine lv_istore_n (lv' := [(2, .int 0), (1, .int 0), (0, .ref a7)]) hx hb dX7_youngest_3 rfl hl (by decide) rfl (fun ls hl => ?_)
  have lp4 : ∀ (n4 : Nat) (k1 : Int32) (k2 : Int32), (0 ≤ k1.toInt) → (v7_count.toInt - k1.toInt).toNat < n4 → ∀ (H : Heap) (locs : List Loc), va_P D vwCl [O7 a7 r7 v7_count v7_holes v7_worms, (cI κ (r7 0) 8 f7_ages)] H → va_D A [O7 a7 r7 v7_count v7_holes v7_worms, (cI κ (r7 0) 8 f7_ages)] → va_S A s.heap H locs → ∀ ls : Array Slot, lv_has ls 3 [(2, .int k1), (1, .int k2), (0, .ref a7)] → W p l e ({ frames := 1, cells := 0, slots := 0, locals := 21 } : Room) s m args below meth c H locs 0 0 Q (F0 m 4 ls []) := by
    intro n4
    induction n4 with
    | zero =>
      intro k1 k2 h3 m4
      exact absurd m4 (Nat.not_lt_zero _)
    | succ n4 ih4 =>
      intro k1 k2 h3 m4 H locs hP hD hS ls hl
      refine lv_iload_n hx hb dX7_youngest_4 rfl (lv_at hl 0 rfl) ?_
      refine lv_aload_n hx hb dX7_youngest_5 rfl (lv_at hl 2 rfl) ?_
      refine va_get (D := D) (ci := 7) (v := .int v7_count) (C := RX7) (T := TX7) (N := 9) hx hb hts w1 hown hK.1 hP 0 rfl rfl 1 (by decide) w0 (fun _ h9 => h9) rfl dX7_youngest_6 ?_
      refine lv_icmp_ge (tgt := 29) hx hb dX7_youngest_9 (by decide) (fun c5 => ?_) (fun c5 => ?_)
      · have c5 := ci_le c5
        refine lv_iload_n hx hb dX7_youngest_29 rfl (lv_at hl 1 rfl) ?_
        exact ret _ _ _ _ k2 () dX7_youngest_30 trivial hP hD hS
      have c5 := ci_nle c5
      refine lv_iload_n hx hb dX7_youngest_12 rfl (lv_at hl 1 rfl) ?_
      refine lv_aload_n hx hb dX7_youngest_13 rfl (lv_at hl 2 rfl) ?_
      refine va_get (D := D) (ci := 7) (v := .ref (r7 0)) (C := RX7) (T := TX7) (N := 9) hx hb hts w1 hown hK.1 hP 0 rfl rfl 0 (by decide) w2 (fun _ h9 => h9) rfl dX7_youngest_14 ?_
      refine lv_iload_n hx hb dX7_youngest_17 rfl (lv_at hl 0 rfl) ?_
      refine va_iald hx hb hK.1 hP 1 1 rfl rfl (i := k1) (ix (by omega) (by omega)) dX7_youngest_18 ?_
      refine lv_topi (fun x6 e7 => ?_)
      refine va_mmax hx hb (hml.trans hl.1.symm) hown w3 w4 w5 w6 (Nat.le_of_ble_eq_true rfl) (Nat.le_of_ble_eq_true rfl) (Nat.le_of_ble_eq_true rfl) (Nat.le_of_ble_eq_true rfl) dX7_youngest_19 ?_
      refine lv_topi (fun x8 e9 => ?_)
      have h10 := ci_max e9
      refine lv_istore_n (lv' := [(1, .int x8), (2, .int k1), (0, .ref a7)]) hx hb dX7_youngest_22 rfl hl (by decide) rfl (fun ls hl => ?_)
      obtain ⟨x11, e12⟩ : ∃ y : Int32, y = k1 + 1 := ⟨_, rfl⟩
      refine lv_iinc (v := x11) (lv' := [(2, .int x11), (1, .int x8), (0, .ref a7)]) hx hb dX7_youngest_23 hl (k := 1) rfl (by rw [e12]; rfl) (by decide) rfl (fun ls hl => ?_)
      try have h13 : x11.toInt = k1.toInt + (1 : Int32).toInt := ci_add e12 (by omega) (by omega)
      refine lv_goto (tgt := 4) hx hb dX7_youngest_26 (by decide) ?_
      exact ih4 x11 x8 (by omega) (by omega) _ _ hP hD hS _ hl
  exact lp4 ((v7_count.toInt - (0 : Int32).toInt).toNat + 1) 0 0 (by omega) (by omega) _ _ hP hD hS _ hl
