set_option maxHeartbeats 4000000 in
set_option maxRecDepth 100000 in
theorem k_X7_isSheet (l : Launch) (D : va_G) (κ : Nat → ClassId) (β : Nat) (a7 : Nat) (r7 : Nat → Nat) (v7_count : Int32) (v7_holes : Int32) (v7_worms : Int32) (sz : Nat) (p1 : Int32) (i1 : Rg 0 8 v7_count) (i2 : Rg 0 40 v7_holes) (i3 : Rg 0 40 v7_worms) : Met l yX7_isSheet wsX7_isSheet ({ frames := 1, cells := 0, slots := 0, locals := 22 } : Room) (PcK D κ β [O7 a7 r7 v7_count v7_holes v7_worms] sz [.ref a7, .int p1]) (QiK D (fun (r : Int32) (u : Unit) => (r.toInt = 1 ∧ 0 ≤ p1.toInt ∧ p1.toInt < v7_count.toInt) ∨ (r.toInt = 0 ∧ (p1.toInt < 0 ∨ v7_count.toInt ≤ p1.toInt))) (fun (u : Unit) => [O7 a7 r7 v7_count v7_holes v7_worms]) [O7 a7 r7 v7_count v7_holes v7_worms] sz) 0 0 (va_A [O7 a7 r7 v7_count v7_holes v7_worms] sz) := by
  refine ofK_z (cc := cX7_isSheet) (maxL := 2) (own := RX7) (by decide) rfl rfl (Nat.le_of_ble_eq_true rfl) ?_
  intro p e s m args below meth c Q A ls hsz hx hb hml hts hown hK hA hAB hP hD hl ret
  have hS : va_S A s.heap s.heap [] := va_S.rf
  have hl : lv_has ls 2 [(0, .ref a7), (1, .int p1)] := hl
  have w0 := hts (.fieldLink RX7 30 "OlderSkin$Sheets" "count" "I") (List.mem_of_getElem? (i := 1) rfl)
  have w1 := (fun w h => List.mem_cons_of_mem _ (List.mem_append_right _ h) : ∀ w ∈ u_ws RX7 TX7 9, w ∈ wsX7_isSheet)
  have w2 := hts (.initialized RX11) (List.mem_of_getElem? (i := 3) rfl)
  have w3 := hts (.static yX11_within) (List.mem_of_getElem? (i := 2) rfl)
  have w4 := hK.2.1 ("OlderSkin$Sheets", 34, ⟨"OlderSkin", "within", "(III)Z"⟩, "OlderSkin") (by decide +kernel)
  have l0 : (0 : Int32).toInt = 0 := by decide
  have l1 : (1 : Int32).toInt = 1 := by decide
  have i1 : 0 ≤ v7_count.toInt ∧ v7_count.toInt ≤ 8 := i1
  refine lv_iload_n hx hb dX7_isSheet_0 rfl (lv_at hl 1 rfl) ?_
  refine lv_iconst (v := 0) hx hb dX7_isSheet_1 (by decide) ?_
  refine lv_aload_n hx hb dX7_isSheet_2 rfl (lv_at hl 0 rfl) ?_
  refine va_get (D := D) (ci := 7) (v := .int v7_count) (C := RX7) (T := TX7) (N := 9) hx hb hts w1 hown hK.1 hP 0 rfl rfl 1 (by decide) w0 (fun _ h9 => h9) rfl dX7_isSheet_3 ?_
  refine lv_iconst (v := 1) hx hb dX7_isSheet_6 (by decide) ?_
  refine lv_isub hx hb dX7_isSheet_7 ?_
  refine lv_topi (fun x1 e2 => ?_)
  try have h3 : x1.toInt = v7_count.toInt - (1 : Int32).toInt := ci_sub e2 (by omega) (by omega)
  refine kcm_i hA hAB hP hD hS [false] rfl (fun _ => rfl) (fun hPc hDc => va_runSN (As := [.int p1, .int 0, .int x1]) (rest := []) ⟨hx, hb, hml, hown, hts⟩ (k_X11_within l D κ β s.heap.size p1 0 x1) ⟨va_cnB 3 hts gX7_isSheet_X11_within_n34 rfl rfl rfl w4 w2 (by decide +kernel) ⟨Nat.le_of_ble_eq_true rfl, Nat.le_of_ble_eq_true rfl⟩, w3, trivial⟩ (pk_S hK hS hAB hPc hDc) rfl rfl hl.1 rfl (lv_room (Nat.le_of_ble_eq_true rfl)) dX7_isSheet_8 ⟨Nat.le_of_ble_eq_true rfl, Nat.le_of_ble_eq_true rfl⟩) (fun x4 u5 H locs hw hPD hS => ?_)
  have h6 : (x4.toInt = 1 ∧ (0 : Int32).toInt ≤ p1.toInt ∧ p1.toInt ≤ x1.toInt) ∨ (x4.toInt = 0 ∧ (p1.toInt < (0 : Int32).toInt ∨ x1.toInt < p1.toInt)) := hw
  obtain ⟨hP, hD⟩ : PD D A [O7 a7 r7 v7_count v7_holes v7_worms] H := hPD
  have hpo : (x4.toInt = 1 ∧ 0 ≤ p1.toInt ∧ p1.toInt < v7_count.toInt) ∨ (x4.toInt = 0 ∧ (p1.toInt < 0 ∨ v7_count.toInt ≤ p1.toInt)) := (by omega)
  exact ret _ _ _ _ x4 () dX7_isSheet_11 (by omega) hpo hP hD hS
set_option maxHeartbeats 4000000 in
set_option maxRecDepth 100000 in
theorem k_X7_isHole (l : Launch) (D : va_G) (κ : Nat → ClassId) (β : Nat) (a7 : Nat) (r7 : Nat → Nat) (v7_count : Int32) (v7_holes : Int32) (v7_worms : Int32) (sz : Nat) (p1 : Int32) (i1 : Rg 0 8 v7_count) (i2 : Rg 0 40 v7_holes) (i3 : Rg 0 40 v7_worms) : Met l yX7_isHole wsX7_isHole ({ frames := 1, cells := 0, slots := 0, locals := 22 } : Room) (PcK D κ β [O7 a7 r7 v7_count v7_holes v7_worms] sz [.ref a7, .int p1]) (QiK D (fun (r : Int32) (u : Unit) => (r.toInt = 1 ∧ 0 ≤ p1.toInt ∧ p1.toInt < v7_holes.toInt) ∨ (r.toInt = 0 ∧ (p1.toInt < 0 ∨ v7_holes.toInt ≤ p1.toInt))) (fun (u : Unit) => [O7 a7 r7 v7_count v7_holes v7_worms]) [O7 a7 r7 v7_count v7_holes v7_worms] sz) 0 0 (va_A [O7 a7 r7 v7_count v7_holes v7_worms] sz) := by
  refine ofK_z (cc := cX7_isHole) (maxL := 2) (own := RX7) (by decide) rfl rfl (Nat.le_of_ble_eq_true rfl) ?_
  intro p e s m args below meth c Q A ls hsz hx hb hml hts hown hK hA hAB hP hD hl ret
  have hS : va_S A s.heap s.heap [] := va_S.rf
  have hl : lv_has ls 2 [(0, .ref a7), (1, .int p1)] := hl
  have w0 := hts (.fieldLink RX7 38 "OlderSkin$Sheets" "holes" "I") (List.mem_of_getElem? (i := 1) rfl)
  have w1 := (fun w h => List.mem_cons_of_mem _ (List.mem_append_right _ h) : ∀ w ∈ u_ws RX7 TX7 9, w ∈ wsX7_isHole)
  have w2 := hts (.initialized RX11) (List.mem_of_getElem? (i := 3) rfl)
  have w3 := hts (.static yX11_within) (List.mem_of_getElem? (i := 2) rfl)
  have w4 := hK.2.1 ("OlderSkin$Sheets", 34, ⟨"OlderSkin", "within", "(III)Z"⟩, "OlderSkin") (by decide +kernel)
  have l0 : (0 : Int32).toInt = 0 := by decide
  have l1 : (1 : Int32).toInt = 1 := by decide
  have i2 : 0 ≤ v7_holes.toInt ∧ v7_holes.toInt ≤ 40 := i2
  refine lv_iload_n hx hb dX7_isHole_0 rfl (lv_at hl 1 rfl) ?_
  refine lv_iconst (v := 0) hx hb dX7_isHole_1 (by decide) ?_
  refine lv_aload_n hx hb dX7_isHole_2 rfl (lv_at hl 0 rfl) ?_
  refine va_get (D := D) (ci := 7) (v := .int v7_holes) (C := RX7) (T := TX7) (N := 9) hx hb hts w1 hown hK.1 hP 0 rfl rfl 5 (by decide) w0 (fun _ h9 => h9) rfl dX7_isHole_3 ?_
  refine lv_iconst (v := 1) hx hb dX7_isHole_6 (by decide) ?_
  refine lv_isub hx hb dX7_isHole_7 ?_
  refine lv_topi (fun x1 e2 => ?_)
  try have h3 : x1.toInt = v7_holes.toInt - (1 : Int32).toInt := ci_sub e2 (by omega) (by omega)
  refine kcm_i hA hAB hP hD hS [false] rfl (fun _ => rfl) (fun hPc hDc => va_runSN (As := [.int p1, .int 0, .int x1]) (rest := []) ⟨hx, hb, hml, hown, hts⟩ (k_X11_within l D κ β s.heap.size p1 0 x1) ⟨va_cnB 3 hts gX7_isHole_X11_within_n34 rfl rfl rfl w4 w2 (by decide +kernel) ⟨Nat.le_of_ble_eq_true rfl, Nat.le_of_ble_eq_true rfl⟩, w3, trivial⟩ (pk_S hK hS hAB hPc hDc) rfl rfl hl.1 rfl (lv_room (Nat.le_of_ble_eq_true rfl)) dX7_isHole_8 ⟨Nat.le_of_ble_eq_true rfl, Nat.le_of_ble_eq_true rfl⟩) (fun x4 u5 H locs hw hPD hS => ?_)
  have h6 : (x4.toInt = 1 ∧ (0 : Int32).toInt ≤ p1.toInt ∧ p1.toInt ≤ x1.toInt) ∨ (x4.toInt = 0 ∧ (p1.toInt < (0 : Int32).toInt ∨ x1.toInt < p1.toInt)) := hw
  obtain ⟨hP, hD⟩ : PD D A [O7 a7 r7 v7_count v7_holes v7_worms] H := hPD
  have hpo : (x4.toInt = 1 ∧ 0 ≤ p1.toInt ∧ p1.toInt < v7_holes.toInt) ∨ (x4.toInt = 0 ∧ (p1.toInt < 0 ∨ v7_holes.toInt ≤ p1.toInt)) := (by omega)
  exact ret _ _ _ _ x4 () dX7_isHole_11 (by omega) hpo hP hD hS
set_option maxHeartbeats 4000000 in
set_option maxRecDepth 100000 in
theorem k_X7_all (l : Launch) (D : va_G) (κ : Nat → ClassId) (β : Nat) (a7 : Nat) (r7 : Nat → Nat) (v7_count : Int32) (v7_holes : Int32) (v7_worms : Int32) (sz : Nat) (i1 : Rg 0 8 v7_count) (i2 : Rg 0 40 v7_holes) (i3 : Rg 0 40 v7_worms) : Met l yX7_all wsX7_all ({ frames := 0, cells := 0, slots := 0, locals := 0 } : Room) (PcK D κ β [O7 a7 r7 v7_count v7_holes v7_worms] sz [.ref a7]) (QiK D (fun (r : Int32) (u : Unit) => (0 ≤ r.toInt ∧ r.toInt ≤ 255) ∧ (r = allB v7_count)) (fun (u : Unit) => [O7 a7 r7 v7_count v7_holes v7_worms]) [O7 a7 r7 v7_count v7_holes v7_worms] sz) 0 0 (va_A [O7 a7 r7 v7_count v7_holes v7_worms] sz) := by
  refine ofK_i (cc := cX7_all) (maxL := 1) (own := RX7) (by decide) rfl rfl (Nat.le_of_ble_eq_true rfl) ?_
  intro p e s m args below meth c Q A ls hsz hx hb hml hts hown hK hA hAB hP hD hl ret
  have hS : va_S A s.heap s.heap [] := va_S.rf
  have hl : lv_has ls 1 [(0, .ref a7)] := hl
  have w0 := hts (.fieldLink RX7 30 "OlderSkin$Sheets" "count" "I") (List.mem_of_getElem? (i := 1) rfl)
  have w1 := (fun w h => List.mem_cons_of_mem _ (List.mem_append_right _ h) : ∀ w ∈ u_ws RX7 TX7 9, w ∈ wsX7_all)
  have l0 : (1 : Int32).toInt = 1 := by decide
  have i1 : 0 ≤ v7_count.toInt ∧ v7_count.toInt ≤ 8 := i1
  refine lv_iconst (v := 1) hx hb dX7_all_0 (by decide) ?_
  refine lv_aload_n hx hb dX7_all_1 rfl (lv_at hl 0 rfl) ?_
  refine va_get (D := D) (ci := 7) (v := .int v7_count) (C := RX7) (T := TX7) (N := 9) hx hb hts w1 hown hK.1 hP 0 rfl rfl 1 (by decide) w0 (fun _ h9 => h9) rfl dX7_all_2 ?_
  refine lv_ishl hx hb dX7_all_5 ?_
  refine lv_topi (fun x1 e2 => ?_)
  have hsh := shl_rng e2 (by omega) (by omega)
  have hs9 := e2
  refine lv_iconst (v := 1) hx hb dX7_all_6 (by decide) ?_
  refine lv_isub hx hb dX7_all_7 ?_
  refine lv_topi (fun x3 e4 => ?_)
  try have h5 : x3.toInt = x1.toInt - (1 : Int32).toInt := ci_sub e4 (by omega) (by omega)
  have hs8 := e4
  have hpo : (0 ≤ x3.toInt ∧ x3.toInt ≤ 255) ∧ (x3 = allB v7_count) := ⟨(by omega), (by rw [hs8, hs9]; rfl)⟩
  exact ret _ _ _ _ x3 () dX7_all_8 hpo hP hD hS
set_option maxHeartbeats 4000000 in
set_option maxRecDepth 100000 in
theorem k_X7_add (l : Launch) (D : va_G) (κ : Nat → ClassId) (β : Nat) (a7 : Nat) (r7 : Nat → Nat) (v7_count : Int32) (v7_holes : Int32) (v7_worms : Int32) (f7_ages : Nat → Int32) (sz : Nat) (p1 : Int32) (i1 : Rg 0 8 v7_count) (i2 : Rg 0 40 v7_holes) (i3 : Rg 0 40 v7_worms) : Met l yX7_add wsX7_add ({ frames := 0, cells := 0, slots := 0, locals := 0 } : Room) (PcK D κ β [O7 a7 r7 v7_count v7_holes v7_worms, (cI κ (r7 0) 8 f7_ages)] sz [.ref a7, .int p1]) (QiK D (fun (r : Int32) (u : Int32 × (Nat → Int32)) => (0 ≤ u.1.toInt ∧ u.1.toInt ≤ 8) ∧ ((v7_count.toInt = 8 ∧ r.toInt = -3 ∧ u.1.toInt = v7_count.toInt) ∨ (v7_count.toInt < 8 ∧ r.toInt = v7_count.toInt ∧ u.1.toInt = v7_count.toInt + 1))) (fun (u : Int32 × (Nat → Int32)) => [O7 a7 r7 u.1 v7_holes v7_worms, (cI κ (r7 0) 8 u.2)]) [O7 a7 r7 v7_count v7_holes v7_worms, (cI κ (r7 0) 8 f7_ages)] sz) 0 0 (va_A [O7 a7 r7 v7_count v7_holes v7_worms, (cI κ (r7 0) 8 f7_ages)] sz) := by
  refine ofK_i (cc := cX7_add) (maxL := 2) (own := RX7) (by decide) rfl rfl (Nat.le_of_ble_eq_true rfl) ?_
  intro p e s m args below meth c Q A ls hsz hx hb hml hts hown hK hA hAB hP hD hl ret
  have hS : va_S A s.heap s.heap [] := va_S.rf
  have hl : lv_has ls 2 [(0, .ref a7), (1, .int p1)] := hl
  have w0 := hts (.fieldLink RX7 30 "OlderSkin$Sheets" "count" "I") (List.mem_of_getElem? (i := 1) rfl)
  have w1 := (fun w h => List.mem_cons_of_mem _ (List.mem_append_right _ h) : ∀ w ∈ u_ws RX7 TX7 9, w ∈ wsX7_add)
  have w2 := hts (.fieldLink RX7 9 "OlderSkin$Sheets" "ages" "[I") (List.mem_of_getElem? (i := 2) rfl)
  have l0 : (8 : Int32).toInt = 8 := by decide
  have l1 : (0 : Int32).toInt = 0 := by decide
  have l2 : (1 : Int32).toInt = 1 := by decide
  have l3 : ((-3) : Int32).toInt = -3 := by decide
  have i1 : 0 ≤ v7_count.toInt ∧ v7_count.toInt ≤ 8 := i1
  refine lv_aload_n hx hb dX7_add_0 rfl (lv_at hl 0 rfl) ?_
  refine va_get (D := D) (ci := 7) (v := .int v7_count) (C := RX7) (T := TX7) (N := 9) hx hb hts w1 hown hK.1 hP 0 rfl rfl 1 (by decide) w0 (fun _ h9 => h9) rfl dX7_add_1 ?_
  refine lv_aload_n hx hb dX7_add_4 rfl (lv_at hl 0 rfl) ?_
  refine va_get (D := D) (ci := 7) (v := .ref (r7 0)) (C := RX7) (T := TX7) (N := 9) hx hb hts w1 hown hK.1 hP 0 rfl rfl 0 (by decide) w2 (fun _ h9 => h9) rfl dX7_add_5 ?_
  refine va_alen hx hb hK.1 hP 1 1 rfl rfl (v := 8) rfl dX7_add_8 ?_
  refine lv_icmp_ne (tgt := 15) hx hb dX7_add_9 (by decide) (fun c1 => ?_) (fun c1 => ?_)
  · have c1 := ci_ne c1
    refine lv_aload_n hx hb dX7_add_15 rfl (lv_at hl 0 rfl) ?_
    refine va_get (D := D) (ci := 7) (v := .ref (r7 0)) (C := RX7) (T := TX7) (N := 9) hx hb hts w1 hown hK.1 hP 0 rfl rfl 0 (by decide) w2 (fun _ h9 => h9) rfl dX7_add_16 ?_
    refine lv_aload_n hx hb dX7_add_19 rfl (lv_at hl 0 rfl) ?_
    refine va_get (D := D) (ci := 7) (v := .int v7_count) (C := RX7) (T := TX7) (N := 9) hx hb hts w1 hown hK.1 hP 0 rfl rfl 1 (by decide) w0 (fun _ h9 => h9) rfl dX7_add_20 ?_
    refine lv_iload_n hx hb dX7_add_23 rfl (lv_at hl 1 rfl) ?_
    refine va_iast hx hb hK.1 hP hD hS 1 1 rfl rfl (i := v7_count) (ix (by omega) (by omega)) dX7_add_24 (fun H locs hP hD hS => ?_)
    obtain ⟨g2, e3⟩ : ∃ y : Nat → Int32, y = upd f7_ages v7_count.toNatClampNeg p1 := ⟨_, rfl⟩
    rw [← e3] at hP hD
    obtain ⟨hP, hD⟩ : PD D A [O7 a7 r7 v7_count v7_holes v7_worms, (cI κ (r7 0) 8 g2)] H := ⟨hP, hD⟩
    refine lv_aload_n hx hb dX7_add_25 rfl (lv_at hl 0 rfl) ?_
    refine lv_dup hx hb dX7_add_26 rfl ?_
    refine va_get (D := D) (ci := 7) (v := .int v7_count) (C := RX7) (T := TX7) (N := 9) hx hb hts w1 hown hK.1 hP 0 rfl rfl 1 (by decide) w0 (fun _ h9 => h9) rfl dX7_add_27 ?_
    refine lv_dup_x1 hx hb dX7_add_30 rfl rfl ?_
    refine lv_iconst (v := 1) hx hb dX7_add_31 (by decide) ?_
    refine lv_iadd hx hb dX7_add_32 ?_
    refine lv_topi (fun x4 e5 => ?_)
    try have h6 : x4.toInt = v7_count.toInt + (1 : Int32).toInt := ci_add e5 (by omega) (by omega)
    refine va_put (D := D) (ci := 7) (v := .int x4) (ty := .int) (C := RX7) (T := TX7) (N := 9) hx hb hts w1 tyX7 tyX7_ok nmX7 hown hK.1 hP hD hS 0 rfl rfl 1 (by decide) w0 (fun _ h9 => h9) rfl (by decide +kernel) rfl rfl (Nat.le_of_ble_eq_true rfl) dX7_add_33 (fun H locs hP hD hS => ?_)
    obtain ⟨hP, hD⟩ : PD D A [O7 a7 r7 x4 v7_holes v7_worms, (cI κ (r7 0) 8 g2)] H := ⟨hP, hD⟩
    have h7 : 0 ≤ x4.toInt ∧ x4.toInt ≤ 8 := by omega
    have hpo : (0 ≤ x4.toInt ∧ x4.toInt ≤ 8) ∧ ((v7_count.toInt = 8 ∧ v7_count.toInt = -3 ∧ x4.toInt = v7_count.toInt) ∨ (v7_count.toInt < 8 ∧ v7_count.toInt = v7_count.toInt ∧ x4.toInt = v7_count.toInt + 1)) := ⟨h7, (by omega)⟩
    exact ret _ _ _ _ v7_count (x4, g2) dX7_add_36 hpo hP hD hS
  have c1 := ci_eq c1
  refine lv_bipush (v := (-3)) hx hb dX7_add_12 (by decide) ?_
  have hpo : (0 ≤ v7_count.toInt ∧ v7_count.toInt ≤ 8) ∧ ((v7_count.toInt = 8 ∧ ((-3) : Int32).toInt = -3 ∧ v7_count.toInt = v7_count.toInt) ∨ (v7_count.toInt < 8 ∧ ((-3) : Int32).toInt = v7_count.toInt ∧ v7_count.toInt = v7_count.toInt + 1)) := ⟨i1, (by omega)⟩
  exact ret _ _ _ _ (-3) (v7_count, f7_ages) dX7_add_14 hpo hP hD hS
set_option maxHeartbeats 4000000 in
set_option maxRecDepth 100000 in
theorem k_X7_addHole (l : Launch) (D : va_G) (κ : Nat → ClassId) (β : Nat) (a7 : Nat) (r7 : Nat → Nat) (v7_count : Int32) (v7_holes : Int32) (v7_worms : Int32) (f7_sheetOf : Nat → Int32) (f7_placeOf : Nat → Int32) (f7_byPlace : Nat → Int32) (sz : Nat) (p1 : Int32) (p2 : Int32) (i1 : Rg 0 8 v7_count) (i2 : Rg 0 40 v7_holes) (i3 : Rg 0 40 v7_worms) (hf7_sheetOf : ∀ j : Nat, 0 ≤ (f7_sheetOf j).toInt ∧ (f7_sheetOf j).toInt ≤ 7) (hf7_placeOf : ∀ j : Nat, 0 ≤ (f7_placeOf j).toInt ∧ (f7_placeOf j).toInt ≤ 999) (hf7_byPlace : ∀ j : Nat, 0 ≤ (f7_byPlace j).toInt ∧ (f7_byPlace j).toInt ≤ 39) (i4 : 0 ≤ p1.toInt ∧ p1.toInt ≤ 7) (i5 : 0 ≤ p2.toInt ∧ p2.toInt ≤ 999) : Met l yX7_addHole wsX7_addHole ({ frames := 0, cells := 0, slots := 0, locals := 0 } : Room) (PcK D κ β [O7 a7 r7 v7_count v7_holes v7_worms, (cI κ (r7 2) 40 f7_sheetOf), (cI κ (r7 3) 40 f7_placeOf), (cI κ (r7 4) 40 f7_byPlace)] sz [.ref a7, .int p1, .int p2]) (QiK D (fun (r : Int32) (u : Int32 × (Nat → Int32) × (Nat → Int32) × (Nat → Int32)) => (0 ≤ u.1.toInt ∧ u.1.toInt ≤ 40) ∧ (∀ j : Nat, 0 ≤ (u.2.1 j).toInt ∧ (u.2.1 j).toInt ≤ 7) ∧ (∀ j : Nat, 0 ≤ (u.2.2.1 j).toInt ∧ (u.2.2.1 j).toInt ≤ 999) ∧ (∀ j : Nat, 0 ≤ (u.2.2.2 j).toInt ∧ (u.2.2.2 j).toInt ≤ 39) ∧ ((v7_holes.toInt = 40 ∧ r.toInt = -3 ∧ u.1.toInt = v7_holes.toInt) ∨ (v7_holes.toInt < 40 ∧ r.toInt = v7_holes.toInt ∧ u.1.toInt = v7_holes.toInt + 1)) ∧ (u.2.2.2 = addB f7_placeOf f7_byPlace v7_holes p2) ∧ (u.2.1 = addF v7_holes 40 f7_sheetOf p1) ∧ (u.2.2.1 = addF v7_holes 40 f7_placeOf p2)) (fun (u : Int32 × (Nat → Int32) × (Nat → Int32) × (Nat → Int32)) => [O7 a7 r7 v7_count u.1 v7_worms, (cI κ (r7 2) 40 u.2.1), (cI κ (r7 3) 40 u.2.2.1), (cI κ (r7 4) 40 u.2.2.2)]) [O7 a7 r7 v7_count v7_holes v7_worms, (cI κ (r7 2) 40 f7_sheetOf), (cI κ (r7 3) 40 f7_placeOf), (cI κ (r7 4) 40 f7_byPlace)] sz) 0 0 (va_A [O7 a7 r7 v7_count v7_holes v7_worms, (cI κ (r7 2) 40 f7_sheetOf), (cI κ (r7 3) 40 f7_placeOf), (cI κ (r7 4) 40 f7_byPlace)] sz) := by
  refine ofK_i (cc := cX7_addHole) (maxL := 4) (own := RX7) (by decide) rfl rfl (Nat.le_of_ble_eq_true rfl) ?_
  intro p e s m args below meth c Q A ls hsz hx hb hml hts hown hK hA hAB hP hD hl ret
  have hS : va_S A s.heap s.heap [] := va_S.rf
  have hl : lv_has ls 4 [(0, .ref a7), (1, .int p1), (2, .int p2)] := hl
  have w0 := hts (.fieldLink RX7 38 "OlderSkin$Sheets" "holes" "I") (List.mem_of_getElem? (i := 1) rfl)
  have w1 := (fun w h => List.mem_cons_of_mem _ (List.mem_append_right _ h) : ∀ w ∈ u_ws RX7 TX7 9, w ∈ wsX7_addHole)
  have w2 := hts (.fieldLink RX7 15 "OlderSkin$Sheets" "sheetOf" "[I") (List.mem_of_getElem? (i := 2) rfl)
  have w3 := hts (.fieldLink RX7 21 "OlderSkin$Sheets" "byPlace" "[I") (List.mem_of_getElem? (i := 4) rfl)
  have w4 := hts (.fieldLink RX7 18 "OlderSkin$Sheets" "placeOf" "[I") (List.mem_of_getElem? (i := 3) rfl)
  have l0 : (40 : Int32).toInt = 40 := by decide
  have l1 : (0 : Int32).toInt = 0 := by decide
  have l2 : (1 : Int32).toInt = 1 := by decide
  have l3 : ((-1) : Int32).toInt = -1 := by decide
  have l4 : ((-3) : Int32).toInt = -3 := by decide
  have i2 : 0 ≤ v7_holes.toInt ∧ v7_holes.toInt ≤ 40 := i2
  refine lv_aload_n hx hb dX7_addHole_0 rfl (lv_at hl 0 rfl) ?_
  refine va_get (D := D) (ci := 7) (v := .int v7_holes) (C := RX7) (T := TX7) (N := 9) hx hb hts w1 hown hK.1 hP 0 rfl rfl 5 (by decide) w0 (fun _ h9 => h9) rfl dX7_addHole_1 ?_
  refine lv_aload_n hx hb dX7_addHole_4 rfl (lv_at hl 0 rfl) ?_
  refine va_get (D := D) (ci := 7) (v := .ref (r7 2)) (C := RX7) (T := TX7) (N := 9) hx hb hts w1 hown hK.1 hP 0 rfl rfl 2 (by decide) w2 (fun _ h9 => h9) rfl dX7_addHole_5 ?_
  refine va_alen hx hb hK.1 hP 1 1 rfl rfl (v := 40) rfl dX7_addHole_8 ?_
  refine lv_icmp_ne (tgt := 15) hx hb dX7_addHole_9 (by decide) (fun c1 => ?_) (fun c1 => ?_)
  · have c1 := ci_ne c1
    refine lv_aload_n hx hb dX7_addHole_15 rfl (lv_at hl 0 rfl) ?_
    refine va_get (D := D) (ci := 7) (v := .int v7_holes) (C := RX7) (T := TX7) (N := 9) hx hb hts w1 hown hK.1 hP 0 rfl rfl 5 (by decide) w0 (fun _ h9 => h9) rfl dX7_addHole_16 ?_
    refine lv_istore_n (lv' := [(3, .int v7_holes), (0, .ref a7), (1, .int p1), (2, .int p2)]) hx hb dX7_addHole_19 rfl hl (by decide) rfl (fun ls hl => ?_)
    have lp20 : ∀ (n20 : Nat) (k2 : Int32) (g3 : Nat → Int32), (∀ j : Nat, 0 ≤ (g3 j).toInt ∧ (g3 j).toInt ≤ 39) → (0 ≤ k2.toInt ∧ k2.toInt ≤ v7_holes.toInt) → (g3 = shF f7_byPlace v7_holes.toInt.toNat k2.toInt.toNat) → (insA f7_placeOf f7_byPlace p2.toInt v7_holes.toInt.toNat = insA f7_placeOf f7_byPlace p2.toInt k2.toInt.toNat) → (k2.toInt).toNat < n20 → ∀ (H : Heap) (locs : List Loc), va_P D vwCl [O7 a7 r7 v7_count v7_holes v7_worms, (cI κ (r7 2) 40 f7_sheetOf), (cI κ (r7 3) 40 f7_placeOf), (cI κ (r7 4) 40 g3)] H → va_D A [O7 a7 r7 v7_count v7_holes v7_worms, (cI κ (r7 2) 40 f7_sheetOf), (cI κ (r7 3) 40 f7_placeOf), (cI κ (r7 4) 40 g3)] → va_S A s.heap H locs → ∀ ls : Array Slot, lv_has ls 4 [(3, .int k2), (0, .ref a7), (1, .int p1), (2, .int p2)] → W p l e ({ frames := 0, cells := 0, slots := 0, locals := 0 } : Room) s m args below meth c H locs 0 0 Q (F0 m 20 ls []) := by
      intro n20
      induction n20 with
      | zero =>
        intro k2 g3 h4 h5 h6 h7 m8
        exact absurd m8 (Nat.not_lt_zero _)
      | succ n20 ih20 =>
        intro k2 g3 h4 h5 h6 h7 m8 H locs hP hD hS ls hl
        have hsh : g3 = shF f7_byPlace v7_holes.toInt.toNat k2.toInt.toNat := by assumption
        have hinq : insA f7_placeOf f7_byPlace p2.toInt v7_holes.toInt.toNat = insA f7_placeOf f7_byPlace p2.toInt k2.toInt.toNat := by assumption
        refine lv_iload_n hx hb dX7_addHole_20 rfl (lv_at hl 0 rfl) ?_
        refine lv_if_le (tgt := 61) hx hb dX7_addHole_21 (by decide) (fun c9 => ?_) (fun c9 => ?_)
        · have c9 := ci_le c9
          have hAq : insA f7_placeOf f7_byPlace p2.toInt v7_holes.toInt.toNat = k2.toNatClampNeg := by first | exact ins_end0 hinq (by omega) | exact ins_end hinq hsh (by omega) (by omega)
          refine lv_aload_n hx hb dX7_addHole_61 rfl (lv_at hl 1 rfl) ?_
          refine va_get (D := D) (ci := 7) (v := .ref (r7 4)) (C := RX7) (T := TX7) (N := 9) hx hb hts w1 hown hK.1 hP 0 rfl rfl 4 (by decide) w3 (fun _ h9 => h9) rfl dX7_addHole_62 ?_
          refine lv_iload_n hx hb dX7_addHole_65 rfl (lv_at hl 0 rfl) ?_
          refine lv_aload_n hx hb dX7_addHole_66 rfl (lv_at hl 1 rfl) ?_
          refine va_get (D := D) (ci := 7) (v := .int v7_holes) (C := RX7) (T := TX7) (N := 9) hx hb hts w1 hown hK.1 hP 0 rfl rfl 5 (by decide) w0 (fun _ h9 => h9) rfl dX7_addHole_67 ?_
          refine va_iast hx hb hK.1 hP hD hS 3 1 rfl rfl (i := k2) (ix (by omega) (by omega)) dX7_addHole_70 (fun H locs hP hD hS => ?_)
          obtain ⟨g10, e11⟩ : ∃ y : Nat → Int32, y = upd g3 k2.toNatClampNeg v7_holes := ⟨_, rfl⟩
          rw [← e11] at hP hD
          obtain ⟨hP, hD⟩ : PD D A [O7 a7 r7 v7_count v7_holes v7_worms, (cI κ (r7 2) 40 f7_sheetOf), (cI κ (r7 3) 40 f7_placeOf), (cI κ (r7 4) 40 g10)] H := ⟨hP, hD⟩
          have h12 : ∀ j : Nat, 0 ≤ (g10 j).toInt ∧ (g10 j).toInt ≤ 39 := by rw [e11]; exact all_upd (P := fun z => 0 ≤ z.toInt ∧ z.toInt ≤ 39) h4 (by omega)
          have hbp : g10 = insF f7_byPlace v7_holes.toNatClampNeg (insA f7_placeOf f7_byPlace p2.toInt v7_holes.toNatClampNeg) v7_holes := e11.trans (ins_put hAq hsh)
          refine lv_aload_n hx hb dX7_addHole_71 rfl (lv_at hl 1 rfl) ?_
          refine va_get (D := D) (ci := 7) (v := .ref (r7 2)) (C := RX7) (T := TX7) (N := 9) hx hb hts w1 hown hK.1 hP 0 rfl rfl 2 (by decide) w2 (fun _ h9 => h9) rfl dX7_addHole_72 ?_
          refine lv_aload_n hx hb dX7_addHole_75 rfl (lv_at hl 1 rfl) ?_
          refine va_get (D := D) (ci := 7) (v := .int v7_holes) (C := RX7) (T := TX7) (N := 9) hx hb hts w1 hown hK.1 hP 0 rfl rfl 5 (by decide) w0 (fun _ h9 => h9) rfl dX7_addHole_76 ?_
          refine lv_iload_n hx hb dX7_addHole_79 rfl (lv_at hl 2 rfl) ?_
          refine va_iast hx hb hK.1 hP hD hS 1 1 rfl rfl (i := v7_holes) (ix (by omega) (by omega)) dX7_addHole_80 (fun H locs hP hD hS => ?_)
          obtain ⟨g13, e14⟩ : ∃ y : Nat → Int32, y = upd f7_sheetOf v7_holes.toNatClampNeg p1 := ⟨_, rfl⟩
          rw [← e14] at hP hD
          obtain ⟨hP, hD⟩ : PD D A [O7 a7 r7 v7_count v7_holes v7_worms, (cI κ (r7 2) 40 g13), (cI κ (r7 3) 40 f7_placeOf), (cI κ (r7 4) 40 g10)] H := ⟨hP, hD⟩
          have h15 : ∀ j : Nat, 0 ≤ (g13 j).toInt ∧ (g13 j).toInt ≤ 7 := by rw [e14]; exact all_upd (P := fun z => 0 ≤ z.toInt ∧ z.toInt ≤ 7) hf7_sheetOf (by omega)
          refine lv_aload_n hx hb dX7_addHole_81 rfl (lv_at hl 1 rfl) ?_
          refine va_get (D := D) (ci := 7) (v := .ref (r7 3)) (C := RX7) (T := TX7) (N := 9) hx hb hts w1 hown hK.1 hP 0 rfl rfl 3 (by decide) w4 (fun _ h9 => h9) rfl dX7_addHole_82 ?_
          refine lv_aload_n hx hb dX7_addHole_85 rfl (lv_at hl 1 rfl) ?_
          refine va_get (D := D) (ci := 7) (v := .int v7_holes) (C := RX7) (T := TX7) (N := 9) hx hb hts w1 hown hK.1 hP 0 rfl rfl 5 (by decide) w0 (fun _ h9 => h9) rfl dX7_addHole_86 ?_
          refine lv_iload_n hx hb dX7_addHole_89 rfl (lv_at hl 3 rfl) ?_
          refine va_iast hx hb hK.1 hP hD hS 2 1 rfl rfl (i := v7_holes) (ix (by omega) (by omega)) dX7_addHole_90 (fun H locs hP hD hS => ?_)
          obtain ⟨g16, e17⟩ : ∃ y : Nat → Int32, y = upd f7_placeOf v7_holes.toNatClampNeg p2 := ⟨_, rfl⟩
          rw [← e17] at hP hD
          obtain ⟨hP, hD⟩ : PD D A [O7 a7 r7 v7_count v7_holes v7_worms, (cI κ (r7 2) 40 g13), (cI κ (r7 3) 40 g16), (cI κ (r7 4) 40 g10)] H := ⟨hP, hD⟩
          have h18 : ∀ j : Nat, 0 ≤ (g16 j).toInt ∧ (g16 j).toInt ≤ 999 := by rw [e17]; exact all_upd (P := fun z => 0 ≤ z.toInt ∧ z.toInt ≤ 999) hf7_placeOf (by omega)
          refine lv_aload_n hx hb dX7_addHole_91 rfl (lv_at hl 1 rfl) ?_
          refine lv_dup hx hb dX7_addHole_92 rfl ?_
          refine va_get (D := D) (ci := 7) (v := .int v7_holes) (C := RX7) (T := TX7) (N := 9) hx hb hts w1 hown hK.1 hP 0 rfl rfl 5 (by decide) w0 (fun _ h9 => h9) rfl dX7_addHole_93 ?_
          refine lv_dup_x1 hx hb dX7_addHole_96 rfl rfl ?_
          refine lv_iconst (v := 1) hx hb dX7_addHole_97 (by decide) ?_
          refine lv_iadd hx hb dX7_addHole_98 ?_
          refine lv_topi (fun x19 e20 => ?_)
          try have h21 : x19.toInt = v7_holes.toInt + (1 : Int32).toInt := ci_add e20 (by omega) (by omega)
          refine va_put (D := D) (ci := 7) (v := .int x19) (ty := .int) (C := RX7) (T := TX7) (N := 9) hx hb hts w1 tyX7 tyX7_ok nmX7 hown hK.1 hP hD hS 0 rfl rfl 5 (by decide) w0 (fun _ h9 => h9) rfl (by decide +kernel) rfl rfl (Nat.le_of_ble_eq_true rfl) dX7_addHole_99 (fun H locs hP hD hS => ?_)
          obtain ⟨hP, hD⟩ : PD D A [O7 a7 r7 v7_count x19 v7_worms, (cI κ (r7 2) 40 g13), (cI κ (r7 3) 40 g16), (cI κ (r7 4) 40 g10)] H := ⟨hP, hD⟩
          have h22 : 0 ≤ x19.toInt ∧ x19.toInt ≤ 40 := by omega
          have hpo : (0 ≤ x19.toInt ∧ x19.toInt ≤ 40) ∧ (∀ j : Nat, 0 ≤ (g13 j).toInt ∧ (g13 j).toInt ≤ 7) ∧ (∀ j : Nat, 0 ≤ (g16 j).toInt ∧ (g16 j).toInt ≤ 999) ∧ (∀ j : Nat, 0 ≤ (g10 j).toInt ∧ (g10 j).toInt ≤ 39) ∧ ((v7_holes.toInt = 40 ∧ v7_holes.toInt = -3 ∧ x19.toInt = v7_holes.toInt) ∨ (v7_holes.toInt < 40 ∧ v7_holes.toInt = v7_holes.toInt ∧ x19.toInt = v7_holes.toInt + 1)) ∧ (g10 = addB f7_placeOf f7_byPlace v7_holes p2) ∧ (g13 = addF v7_holes 40 f7_sheetOf p1) ∧ (g16 = addF v7_holes 40 f7_placeOf p2) := ⟨h22, h15, h18, h12, (by omega), (by first | (rw [addB_ok (by omega)]; assumption) | exact (addB_no (by omega)).symm), (by first | (rw [addF_ok (by omega)]; assumption) | exact (addF_no (by omega)).symm), (by first | (rw [addF_ok (by omega)]; assumption) | exact (addF_no (by omega)).symm)⟩
          exact ret _ _ _ _ v7_holes (x19, g13, g16, g10) dX7_addHole_102 hpo hP hD hS
        have c9 := ci_nle c9
        refine lv_aload_n hx hb dX7_addHole_24 rfl (lv_at hl 1 rfl) ?_
        refine va_get (D := D) (ci := 7) (v := .ref (r7 3)) (C := RX7) (T := TX7) (N := 9) hx hb hts w1 hown hK.1 hP 0 rfl rfl 3 (by decide) w4 (fun _ h9 => h9) rfl dX7_addHole_25 ?_
        refine lv_aload_n hx hb dX7_addHole_28 rfl (lv_at hl 1 rfl) ?_
        refine va_get (D := D) (ci := 7) (v := .ref (r7 4)) (C := RX7) (T := TX7) (N := 9) hx hb hts w1 hown hK.1 hP 0 rfl rfl 4 (by decide) w3 (fun _ h9 => h9) rfl dX7_addHole_29 ?_
        refine lv_iload_n hx hb dX7_addHole_32 rfl (lv_at hl 0 rfl) ?_
        refine lv_iconst (v := 1) hx hb dX7_addHole_33 (by decide) ?_
        refine lv_isub hx hb dX7_addHole_34 ?_
        refine lv_topi (fun x23 e24 => ?_)
        try have h25 : x23.toInt = k2.toInt - (1 : Int32).toInt := ci_sub e24 (by omega) (by omega)
        refine va_iald hx hb hK.1 hP 3 1 rfl rfl (i := x23) (ix (by omega) (by omega)) dX7_addHole_35 ?_
        refine lv_topi (fun x26 e27 => ?_)
        have h28 : 0 ≤ x26.toInt ∧ x26.toInt ≤ 39 := by rw [e27]; exact h4 _
        have hl1 := ld_at (k := k2) e27 (by omega) (by omega)
        refine va_iald hx hb hK.1 hP 2 1 rfl rfl (i := x26) (ix (by omega) (by omega)) dX7_addHole_36 ?_
        refine lv_topi (fun x29 e30 => ?_)
        have h31 : 0 ≤ x29.toInt ∧ x29.toInt ≤ 999 := by rw [e30]; exact hf7_placeOf _
        have hl2 : x29.toInt = (f7_placeOf (g3 (k2.toInt - 1).toNat).toNatClampNeg).toInt := by rw [e30, hl1]
        refine lv_iload_n hx hb dX7_addHole_37 rfl (lv_at hl 3 rfl) ?_
        refine lv_icmp_le (tgt := 61) hx hb dX7_addHole_38 (by decide) (fun c32 => ?_) (fun c32 => ?_)
        · have c32 := ci_le c32
          have hAq : insA f7_placeOf f7_byPlace p2.toInt v7_holes.toInt.toNat = k2.toNatClampNeg := by first | exact ins_end0 hinq (by omega) | exact ins_end hinq hsh (by omega) (by omega)
          refine lv_aload_n hx hb dX7_addHole_61 rfl (lv_at hl 1 rfl) ?_
          refine va_get (D := D) (ci := 7) (v := .ref (r7 4)) (C := RX7) (T := TX7) (N := 9) hx hb hts w1 hown hK.1 hP 0 rfl rfl 4 (by decide) w3 (fun _ h9 => h9) rfl dX7_addHole_62 ?_
          refine lv_iload_n hx hb dX7_addHole_65 rfl (lv_at hl 0 rfl) ?_
          refine lv_aload_n hx hb dX7_addHole_66 rfl (lv_at hl 1 rfl) ?_
          refine va_get (D := D) (ci := 7) (v := .int v7_holes) (C := RX7) (T := TX7) (N := 9) hx hb hts w1 hown hK.1 hP 0 rfl rfl 5 (by decide) w0 (fun _ h9 => h9) rfl dX7_addHole_67 ?_
          refine va_iast hx hb hK.1 hP hD hS 3 1 rfl rfl (i := k2) (ix (by omega) (by omega)) dX7_addHole_70 (fun H locs hP hD hS => ?_)
          obtain ⟨g33, e34⟩ : ∃ y : Nat → Int32, y = upd g3 k2.toNatClampNeg v7_holes := ⟨_, rfl⟩
          rw [← e34] at hP hD
          obtain ⟨hP, hD⟩ : PD D A [O7 a7 r7 v7_count v7_holes v7_worms, (cI κ (r7 2) 40 f7_sheetOf), (cI κ (r7 3) 40 f7_placeOf), (cI κ (r7 4) 40 g33)] H := ⟨hP, hD⟩
          have h35 : ∀ j : Nat, 0 ≤ (g33 j).toInt ∧ (g33 j).toInt ≤ 39 := by rw [e34]; exact all_upd (P := fun z => 0 ≤ z.toInt ∧ z.toInt ≤ 39) h4 (by omega)
          have hbp : g33 = insF f7_byPlace v7_holes.toNatClampNeg (insA f7_placeOf f7_byPlace p2.toInt v7_holes.toNatClampNeg) v7_holes := e34.trans (ins_put hAq hsh)
          refine lv_aload_n hx hb dX7_addHole_71 rfl (lv_at hl 1 rfl) ?_
          refine va_get (D := D) (ci := 7) (v := .ref (r7 2)) (C := RX7) (T := TX7) (N := 9) hx hb hts w1 hown hK.1 hP 0 rfl rfl 2 (by decide) w2 (fun _ h9 => h9) rfl dX7_addHole_72 ?_
          refine lv_aload_n hx hb dX7_addHole_75 rfl (lv_at hl 1 rfl) ?_
          refine va_get (D := D) (ci := 7) (v := .int v7_holes) (C := RX7) (T := TX7) (N := 9) hx hb hts w1 hown hK.1 hP 0 rfl rfl 5 (by decide) w0 (fun _ h9 => h9) rfl dX7_addHole_76 ?_
          refine lv_iload_n hx hb dX7_addHole_79 rfl (lv_at hl 2 rfl) ?_
          refine va_iast hx hb hK.1 hP hD hS 1 1 rfl rfl (i := v7_holes) (ix (by omega) (by omega)) dX7_addHole_80 (fun H locs hP hD hS => ?_)
          obtain ⟨g36, e37⟩ : ∃ y : Nat → Int32, y = upd f7_sheetOf v7_holes.toNatClampNeg p1 := ⟨_, rfl⟩
          rw [← e37] at hP hD
          obtain ⟨hP, hD⟩ : PD D A [O7 a7 r7 v7_count v7_holes v7_worms, (cI κ (r7 2) 40 g36), (cI κ (r7 3) 40 f7_placeOf), (cI κ (r7 4) 40 g33)] H := ⟨hP, hD⟩
          have h38 : ∀ j : Nat, 0 ≤ (g36 j).toInt ∧ (g36 j).toInt ≤ 7 := by rw [e37]; exact all_upd (P := fun z => 0 ≤ z.toInt ∧ z.toInt ≤ 7) hf7_sheetOf (by omega)
          refine lv_aload_n hx hb dX7_addHole_81 rfl (lv_at hl 1 rfl) ?_
          refine va_get (D := D) (ci := 7) (v := .ref (r7 3)) (C := RX7) (T := TX7) (N := 9) hx hb hts w1 hown hK.1 hP 0 rfl rfl 3 (by decide) w4 (fun _ h9 => h9) rfl dX7_addHole_82 ?_
          refine lv_aload_n hx hb dX7_addHole_85 rfl (lv_at hl 1 rfl) ?_
          refine va_get (D := D) (ci := 7) (v := .int v7_holes) (C := RX7) (T := TX7) (N := 9) hx hb hts w1 hown hK.1 hP 0 rfl rfl 5 (by decide) w0 (fun _ h9 => h9) rfl dX7_addHole_86 ?_
          refine lv_iload_n hx hb dX7_addHole_89 rfl (lv_at hl 3 rfl) ?_
          refine va_iast hx hb hK.1 hP hD hS 2 1 rfl rfl (i := v7_holes) (ix (by omega) (by omega)) dX7_addHole_90 (fun H locs hP hD hS => ?_)
          obtain ⟨g39, e40⟩ : ∃ y : Nat → Int32, y = upd f7_placeOf v7_holes.toNatClampNeg p2 := ⟨_, rfl⟩
          rw [← e40] at hP hD
          obtain ⟨hP, hD⟩ : PD D A [O7 a7 r7 v7_count v7_holes v7_worms, (cI κ (r7 2) 40 g36), (cI κ (r7 3) 40 g39), (cI κ (r7 4) 40 g33)] H := ⟨hP, hD⟩
          have h41 : ∀ j : Nat, 0 ≤ (g39 j).toInt ∧ (g39 j).toInt ≤ 999 := by rw [e40]; exact all_upd (P := fun z => 0 ≤ z.toInt ∧ z.toInt ≤ 999) hf7_placeOf (by omega)
          refine lv_aload_n hx hb dX7_addHole_91 rfl (lv_at hl 1 rfl) ?_
          refine lv_dup hx hb dX7_addHole_92 rfl ?_
          refine va_get (D := D) (ci := 7) (v := .int v7_holes) (C := RX7) (T := TX7) (N := 9) hx hb hts w1 hown hK.1 hP 0 rfl rfl 5 (by decide) w0 (fun _ h9 => h9) rfl dX7_addHole_93 ?_
          refine lv_dup_x1 hx hb dX7_addHole_96 rfl rfl ?_
          refine lv_iconst (v := 1) hx hb dX7_addHole_97 (by decide) ?_
          refine lv_iadd hx hb dX7_addHole_98 ?_
          refine lv_topi (fun x42 e43 => ?_)
          try have h44 : x42.toInt = v7_holes.toInt + (1 : Int32).toInt := ci_add e43 (by omega) (by omega)
          refine va_put (D := D) (ci := 7) (v := .int x42) (ty := .int) (C := RX7) (T := TX7) (N := 9) hx hb hts w1 tyX7 tyX7_ok nmX7 hown hK.1 hP hD hS 0 rfl rfl 5 (by decide) w0 (fun _ h9 => h9) rfl (by decide +kernel) rfl rfl (Nat.le_of_ble_eq_true rfl) dX7_addHole_99 (fun H locs hP hD hS => ?_)
          obtain ⟨hP, hD⟩ : PD D A [O7 a7 r7 v7_count x42 v7_worms, (cI κ (r7 2) 40 g36), (cI κ (r7 3) 40 g39), (cI κ (r7 4) 40 g33)] H := ⟨hP, hD⟩
          have h45 : 0 ≤ x42.toInt ∧ x42.toInt ≤ 40 := by omega
          have hpo : (0 ≤ x42.toInt ∧ x42.toInt ≤ 40) ∧ (∀ j : Nat, 0 ≤ (g36 j).toInt ∧ (g36 j).toInt ≤ 7) ∧ (∀ j : Nat, 0 ≤ (g39 j).toInt ∧ (g39 j).toInt ≤ 999) ∧ (∀ j : Nat, 0 ≤ (g33 j).toInt ∧ (g33 j).toInt ≤ 39) ∧ ((v7_holes.toInt = 40 ∧ v7_holes.toInt = -3 ∧ x42.toInt = v7_holes.toInt) ∨ (v7_holes.toInt < 40 ∧ v7_holes.toInt = v7_holes.toInt ∧ x42.toInt = v7_holes.toInt + 1)) ∧ (g33 = addB f7_placeOf f7_byPlace v7_holes p2) ∧ (g36 = addF v7_holes 40 f7_sheetOf p1) ∧ (g39 = addF v7_holes 40 f7_placeOf p2) := ⟨h45, h38, h41, h35, (by omega), (by first | (rw [addB_ok (by omega)]; assumption) | exact (addB_no (by omega)).symm), (by first | (rw [addF_ok (by omega)]; assumption) | exact (addF_no (by omega)).symm), (by first | (rw [addF_ok (by omega)]; assumption) | exact (addF_no (by omega)).symm)⟩
          exact ret _ _ _ _ v7_holes (x42, g36, g39, g33) dX7_addHole_102 hpo hP hD hS
        have c32 := ci_nle c32
        refine lv_aload_n hx hb dX7_addHole_41 rfl (lv_at hl 1 rfl) ?_
        refine va_get (D := D) (ci := 7) (v := .ref (r7 4)) (C := RX7) (T := TX7) (N := 9) hx hb hts w1 hown hK.1 hP 0 rfl rfl 4 (by decide) w3 (fun _ h9 => h9) rfl dX7_addHole_42 ?_
        refine lv_iload_n hx hb dX7_addHole_45 rfl (lv_at hl 0 rfl) ?_
        refine lv_aload_n hx hb dX7_addHole_46 rfl (lv_at hl 1 rfl) ?_
        refine va_get (D := D) (ci := 7) (v := .ref (r7 4)) (C := RX7) (T := TX7) (N := 9) hx hb hts w1 hown hK.1 hP 0 rfl rfl 4 (by decide) w3 (fun _ h9 => h9) rfl dX7_addHole_47 ?_
        refine lv_iload_n hx hb dX7_addHole_50 rfl (lv_at hl 0 rfl) ?_
        refine lv_iconst (v := 1) hx hb dX7_addHole_51 (by decide) ?_
        refine lv_isub hx hb dX7_addHole_52 ?_
        refine lv_topi (fun x46 e47 => ?_)
        try have h48 : x46.toInt = k2.toInt - (1 : Int32).toInt := ci_sub e47 (by omega) (by omega)
        refine va_iald hx hb hK.1 hP 3 1 rfl rfl (i := x46) (ix (by omega) (by omega)) dX7_addHole_53 ?_
        refine lv_topi (fun x49 e50 => ?_)
        have h51 : 0 ≤ x49.toInt ∧ x49.toInt ≤ 39 := by rw [e50]; exact h4 _
        have hl3 := ld_at (k := k2) e50 (by omega) (by omega)
        refine va_iast hx hb hK.1 hP hD hS 3 1 rfl rfl (i := k2) (ix (by omega) (by omega)) dX7_addHole_54 (fun H locs hP hD hS => ?_)
        obtain ⟨g52, e53⟩ : ∃ y : Nat → Int32, y = upd g3 k2.toNatClampNeg x49 := ⟨_, rfl⟩
        rw [← e53] at hP hD
        obtain ⟨hP, hD⟩ : PD D A [O7 a7 r7 v7_count v7_holes v7_worms, (cI κ (r7 2) 40 f7_sheetOf), (cI κ (r7 3) 40 f7_placeOf), (cI κ (r7 4) 40 g52)] H := ⟨hP, hD⟩
        have h54 : ∀ j : Nat, 0 ≤ (g52 j).toInt ∧ (g52 j).toInt ≤ 39 := by rw [e53]; exact all_upd (P := fun z => 0 ≤ z.toInt ∧ z.toInt ≤ 39) h4 (by omega)
        have hst9 := e53
        obtain ⟨x55, e56⟩ : ∃ y : Int32, y = k2 + (-1) := ⟨_, rfl⟩
        refine lv_iinc (v := x55) (lv' := [(3, .int x55), (0, .ref a7), (1, .int p1), (2, .int p2)]) hx hb dX7_addHole_55 hl (k := 0) rfl (by rw [e56]; rfl) (by decide) rfl (fun ls hl => ?_)
        try have h57 : x55.toInt = k2.toInt + ((-1) : Int32).toInt := ci_add e56 (by omega) (by omega)
        refine lv_goto (tgt := 20) hx hb dX7_addHole_58 (by decide) ?_
        exact ih20 x55 g52 h54 (by omega) (by first | exact shF_self (by omega) | exact sh_step hsh (by omega) (by omega) (by omega) hl3 hst9) (by first | exact congrArg (insA _ _ _) (by omega) | exact ins_go hinq hsh (by omega) (by omega) (by omega)) (by omega) _ _ hP hD hS _ hl
    exact lp20 ((v7_holes.toInt).toNat + 1) v7_holes f7_byPlace hf7_byPlace (by omega) (by first | exact shF_self (by omega) | exact sh_step hsh (by omega) (by omega) (by omega) hl3 hst9) (by first | exact congrArg (insA _ _ _) (by omega) | exact ins_go hinq hsh (by omega) (by omega) (by omega)) (by omega) _ _ hP hD hS _ hl
  have c1 := ci_eq c1
  refine lv_bipush (v := (-3)) hx hb dX7_addHole_12 (by decide) ?_
  have hpo : (0 ≤ v7_holes.toInt ∧ v7_holes.toInt ≤ 40) ∧ (∀ j : Nat, 0 ≤ (f7_sheetOf j).toInt ∧ (f7_sheetOf j).toInt ≤ 7) ∧ (∀ j : Nat, 0 ≤ (f7_placeOf j).toInt ∧ (f7_placeOf j).toInt ≤ 999) ∧ (∀ j : Nat, 0 ≤ (f7_byPlace j).toInt ∧ (f7_byPlace j).toInt ≤ 39) ∧ ((v7_holes.toInt = 40 ∧ ((-3) : Int32).toInt = -3 ∧ v7_holes.toInt = v7_holes.toInt) ∨ (v7_holes.toInt < 40 ∧ ((-3) : Int32).toInt = v7_holes.toInt ∧ v7_holes.toInt = v7_holes.toInt + 1)) ∧ (f7_byPlace = addB f7_placeOf f7_byPlace v7_holes p2) ∧ (f7_sheetOf = addF v7_holes 40 f7_sheetOf p1) ∧ (f7_placeOf = addF v7_holes 40 f7_placeOf p2) := ⟨i2, hf7_sheetOf, hf7_placeOf, hf7_byPlace, (by omega), (by first | (rw [addB_ok (by omega)]; assumption) | exact (addB_no (by omega)).symm), (by first | (rw [addF_ok (by omega)]; assumption) | exact (addF_no (by omega)).symm), (by first | (rw [addF_ok (by omega)]; assumption) | exact (addF_no (by omega)).symm)⟩
  exact ret _ _ _ _ (-3) (v7_holes, f7_sheetOf, f7_placeOf, f7_byPlace) dX7_addHole_14 hpo hP hD hS
set_option maxHeartbeats 4000000 in
set_option maxRecDepth 100000 in
theorem k_X7_findWorms (l : Launch) (D : va_G) (κ : Nat → ClassId) (β : Nat) (a7 : Nat) (r7 : Nat → Nat) (v7_count : Int32) (v7_holes : Int32) (v7_worms : Int32) (f7_sheetOf : Nat → Int32) (f7_placeOf : Nat → Int32) (f7_byPlace : Nat → Int32) (f7_wormOf : Nat → Int32) (f7_wormSheets : Nat → Int32) (sz : Nat) (p1 : Int32) (p2 : Int32) (i1 : Rg 0 8 v7_count) (i2 : Rg 0 40 v7_holes) (i3 : Rg 0 40 v7_worms) (hf7_sheetOf : ∀ j : Nat, 0 ≤ (f7_sheetOf j).toInt ∧ (f7_sheetOf j).toInt ≤ 7) (hf7_placeOf : ∀ j : Nat, 0 ≤ (f7_placeOf j).toInt ∧ (f7_placeOf j).toInt ≤ 999) (hf7_byPlace : ∀ j : Nat, 0 ≤ (f7_byPlace j).toInt ∧ (f7_byPlace j).toInt ≤ 39) (hf7_wormOf : ∀ j : Nat, 0 ≤ (f7_wormOf j).toInt ∧ (f7_wormOf j).toInt ≤ 39) : Met l yX7_findWorms wsX7_findWorms ({ frames := 0, cells := 0, slots := 0, locals := 0 } : Room) (PcK D κ β [O7 a7 r7 v7_count v7_holes v7_worms, (cI κ (r7 2) 40 f7_sheetOf), (cI κ (r7 3) 40 f7_placeOf), (cI κ (r7 4) 40 f7_byPlace), (cI κ (r7 6) 40 f7_wormOf), (cI κ (r7 7) 40 f7_wormSheets)] sz [.ref a7, .int p1, .int p2]) (QvK D (fun (u : Int32 × (Nat → Int32) × (Nat → Int32)) => (0 ≤ u.1.toInt ∧ u.1.toInt ≤ 40) ∧ (∀ j : Nat, 0 ≤ (u.2.1 j).toInt ∧ (u.2.1 j).toInt ≤ 39)) (fun (u : Int32 × (Nat → Int32) × (Nat → Int32)) => [O7 a7 r7 v7_count v7_holes u.1, (cI κ (r7 2) 40 f7_sheetOf), (cI κ (r7 3) 40 f7_placeOf), (cI κ (r7 4) 40 f7_byPlace), (cI κ (r7 6) 40 u.2.1), (cI κ (r7 7) 40 u.2.2)]) [O7 a7 r7 v7_count v7_holes v7_worms, (cI κ (r7 2) 40 f7_sheetOf), (cI κ (r7 3) 40 f7_placeOf), (cI κ (r7 4) 40 f7_byPlace), (cI κ (r7 6) 40 f7_wormOf), (cI κ (r7 7) 40 f7_wormSheets)] sz) 0 0 (va_A [O7 a7 r7 v7_count v7_holes v7_worms, (cI κ (r7 2) 40 f7_sheetOf), (cI κ (r7 3) 40 f7_placeOf), (cI κ (r7 4) 40 f7_byPlace), (cI κ (r7 6) 40 f7_wormOf), (cI κ (r7 7) 40 f7_wormSheets)] sz) := by
  refine ofK_v (cc := cX7_findWorms) (maxL := 7) (own := RX7) (by decide) rfl rfl (Nat.le_of_ble_eq_true rfl) ?_
  intro p e s m args below meth c Q A ls hsz hx hb hml hts hown hK hA hAB hP hD hl hname ret
  have hS : va_S A s.heap s.heap [] := va_S.rf
  have hl : lv_has ls 7 [(0, .ref a7), (1, .int p1), (2, .int p2)] := hl
  have w0 := hts (.fieldLink RX7 41 "OlderSkin$Sheets" "worms" "I") (List.mem_of_getElem? (i := 1) rfl)
  have w1 := (fun w h => List.mem_cons_of_mem _ (List.mem_append_right _ h) : ∀ w ∈ u_ws RX7 TX7 9, w ∈ wsX7_findWorms)
  have w2 := hts (.fieldLink RX7 38 "OlderSkin$Sheets" "holes" "I") (List.mem_of_getElem? (i := 2) rfl)
  have w3 := hts (.fieldLink RX7 21 "OlderSkin$Sheets" "byPlace" "[I") (List.mem_of_getElem? (i := 3) rfl)
  have w4 := hts (.fieldLink RX7 15 "OlderSkin$Sheets" "sheetOf" "[I") (List.mem_of_getElem? (i := 4) rfl)
  have w5 := hts (.fieldLink RX7 27 "OlderSkin$Sheets" "wormSheets" "[I") (List.mem_of_getElem? (i := 6) rfl)
  have w6 := hts (.fieldLink RX7 24 "OlderSkin$Sheets" "wormOf" "[I") (List.mem_of_getElem? (i := 7) rfl)
  have w7 := hts (.fieldLink RX7 18 "OlderSkin$Sheets" "placeOf" "[I") (List.mem_of_getElem? (i := 5) rfl)
  have l0 : (0 : Int32).toInt = 0 := by decide
  have l1 : ((-1) : Int32).toInt = -1 := by decide
  have l2 : (1 : Int32).toInt = 1 := by decide
  have i2 : 0 ≤ v7_holes.toInt ∧ v7_holes.toInt ≤ 40 := i2
  have i3 : 0 ≤ v7_worms.toInt ∧ v7_worms.toInt ≤ 40 := i3
  refine lv_aload_n hx hb dX7_findWorms_0 rfl (lv_at hl 0 rfl) ?_
  refine lv_iconst (v := 0) hx hb dX7_findWorms_1 (by decide) ?_
  refine va_put (D := D) (ci := 7) (v := .int 0) (ty := .int) (C := RX7) (T := TX7) (N := 9) hx hb hts w1 tyX7 tyX7_ok nmX7 hown hK.1 hP hD hS 0 rfl rfl 8 (by decide) w0 (fun _ h9 => h9) rfl (by decide +kernel) rfl rfl (Nat.le_of_ble_eq_true rfl) dX7_findWorms_2 (fun H locs hP hD hS => ?_)
  obtain ⟨hP, hD⟩ : PD D A [O7 a7 r7 v7_count v7_holes 0, (cI κ (r7 2) 40 f7_sheetOf), (cI κ (r7 3) 40 f7_placeOf), (cI κ (r7 4) 40 f7_byPlace), (cI κ (r7 6) 40 f7_wormOf), (cI κ (r7 7) 40 f7_wormSheets)] H := ⟨hP, hD⟩
  have h1 : 0 ≤ (0 : Int32).toInt ∧ (0 : Int32).toInt ≤ 40 := by omega
  refine lv_iconst (v := (-1)) hx hb dX7_findWorms_5 (by decide) ?_
  refine lv_istore_n (lv' := [(3, .int (-1)), (0, .ref a7), (1, .int p1), (2, .int p2)]) hx hb dX7_findWorms_6 rfl hl (by decide) rfl (fun ls hl => ?_)
  refine lv_iconst (v := 0) hx hb dX7_findWorms_7 (by decide) ?_
  refine lv_istore (lv' := [(4, .int 0), (3, .int (-1)), (0, .ref a7), (1, .int p1), (2, .int p2)]) hx hb dX7_findWorms_8 hl (by decide) rfl (fun ls hl => ?_)
  have lp10 : ∀ (n10 : Nat) (k2 : Int32) (k3 : Int32) (v4 : Int32) (g5 : Nat → Int32) (g7 : Nat → Int32), (0 ≤ v4.toInt ∧ v4.toInt ≤ 40) → (∀ j : Nat, 0 ≤ (g5 j).toInt ∧ (g5 j).toInt ≤ 39) → (0 ≤ k2.toInt) → (-1 ≤ k3.toInt ∧ k3.toInt ≤ 39) → (v4.toInt ≤ k2.toInt) → (k3.toInt < 0 ∨ 1 ≤ v4.toInt) → (v7_holes.toInt - k2.toInt).toNat < n10 → ∀ (H : Heap) (locs : List Loc), va_P D vwCl [O7 a7 r7 v7_count v7_holes v4, (cI κ (r7 2) 40 f7_sheetOf), (cI κ (r7 3) 40 f7_placeOf), (cI κ (r7 4) 40 f7_byPlace), (cI κ (r7 6) 40 g5), (cI κ (r7 7) 40 g7)] H → va_D A [O7 a7 r7 v7_count v7_holes v4, (cI κ (r7 2) 40 f7_sheetOf), (cI κ (r7 3) 40 f7_placeOf), (cI κ (r7 4) 40 f7_byPlace), (cI κ (r7 6) 40 g5), (cI κ (r7 7) 40 g7)] → va_S A s.heap H locs → ∀ ls : Array Slot, lv_has ls 7 [(4, .int k2), (3, .int k3), (0, .ref a7), (1, .int p1), (2, .int p2)] → W p l e ({ frames := 0, cells := 0, slots := 0, locals := 0 } : Room) s m args below meth c H locs 0 0 Q (F0 m 10 ls []) := by
    intro n10
    induction n10 with
    | zero =>
      intro k2 k3 v4 g5 g7 h8 h6 h9 h10 h11 h12 m13
      exact absurd m13 (Nat.not_lt_zero _)
    | succ n10 ih10 =>
      intro k2 k3 v4 g5 g7 h8 h6 h9 h10 h11 h12 m13 H locs hP hD hS ls hl
      refine lv_iload hx hb dX7_findWorms_10 (lv_at hl 0 rfl) ?_
      refine lv_aload_n hx hb dX7_findWorms_12 rfl (lv_at hl 2 rfl) ?_
      refine va_get (D := D) (ci := 7) (v := .int v7_holes) (C := RX7) (T := TX7) (N := 9) hx hb hts w1 hown hK.1 hP 0 rfl rfl 5 (by decide) w2 (fun _ h9 => h9) rfl dX7_findWorms_13 ?_
      refine lv_icmp_ge (tgt := 146) hx hb dX7_findWorms_16 (by decide) (fun c14 => ?_) (fun c14 => ?_)
      · have c14 := ci_le c14
        have hpo : (0 ≤ v4.toInt ∧ v4.toInt ≤ 40) ∧ (∀ j : Nat, 0 ≤ (g5 j).toInt ∧ (g5 j).toInt ≤ 39) := ⟨h8, h6⟩
        exact ret _ _ _ _ (v4, g5, g7) dX7_findWorms_146 hpo hP hD hS
      have c14 := ci_nle c14
      refine lv_aload_n hx hb dX7_findWorms_19 rfl (lv_at hl 2 rfl) ?_
      refine va_get (D := D) (ci := 7) (v := .ref (r7 4)) (C := RX7) (T := TX7) (N := 9) hx hb hts w1 hown hK.1 hP 0 rfl rfl 4 (by decide) w3 (fun _ h9 => h9) rfl dX7_findWorms_20 ?_
      refine lv_iload hx hb dX7_findWorms_23 (lv_at hl 0 rfl) ?_
      refine va_iald hx hb hK.1 hP 3 1 rfl rfl (i := k2) (ix (by omega) (by omega)) dX7_findWorms_25 ?_
      refine lv_topi (fun x15 e16 => ?_)
      have h17 : 0 ≤ x15.toInt ∧ x15.toInt ≤ 39 := by rw [e16]; exact hf7_byPlace _
      refine lv_istore (lv' := [(5, .int x15), (4, .int k2), (3, .int k3), (0, .ref a7), (1, .int p1), (2, .int p2)]) hx hb dX7_findWorms_26 hl (by decide) rfl (fun ls hl => ?_)
      refine lv_iconst (v := 1) hx hb dX7_findWorms_28 (by decide) ?_
      refine lv_aload_n hx hb dX7_findWorms_29 rfl (lv_at hl 3 rfl) ?_
      refine va_get (D := D) (ci := 7) (v := .ref (r7 2)) (C := RX7) (T := TX7) (N := 9) hx hb hts w1 hown hK.1 hP 0 rfl rfl 2 (by decide) w4 (fun _ h9 => h9) rfl dX7_findWorms_30 ?_
      refine lv_iload hx hb dX7_findWorms_33 (lv_at hl 0 rfl) ?_
      refine va_iald hx hb hK.1 hP 1 1 rfl rfl (i := x15) (ix (by omega) (by omega)) dX7_findWorms_35 ?_
      refine lv_topi (fun x18 e19 => ?_)
      have h20 : 0 ≤ x18.toInt ∧ x18.toInt ≤ 7 := by rw [e19]; exact hf7_sheetOf _
      refine lv_ishl hx hb dX7_findWorms_36 ?_
      refine lv_topi (fun x21 e22 => ?_)
      refine lv_istore (lv' := [(6, .int x21), (5, .int x15), (4, .int k2), (3, .int k3), (0, .ref a7), (1, .int p1), (2, .int p2)]) hx hb dX7_findWorms_37 hl (by decide) rfl (fun ls hl => ?_)
      refine lv_iload_n hx hb dX7_findWorms_39 rfl (lv_at hl 6 rfl) ?_
      refine lv_iload hx hb dX7_findWorms_40 (lv_at hl 0 rfl) ?_
      refine lv_iand hx hb dX7_findWorms_42 ?_
      refine lv_topi (fun x23 e24 => ?_)
      refine lv_if_ne (tgt := 49) hx hb dX7_findWorms_43 (by decide) (fun c25 => ?_) (fun c25 => ?_)
      · have c25 := ci_ne c25
        refine lv_iload_n hx hb dX7_findWorms_49 rfl (lv_at hl 3 rfl) ?_
        refine lv_if_lt (tgt := 88) hx hb dX7_findWorms_50 (by decide) (fun c26 => ?_) (fun c26 => ?_)
        · have c26 := ci_lt c26
          refine lv_aload_n hx hb dX7_findWorms_88 rfl (lv_at hl 4 rfl) ?_
          refine va_get (D := D) (ci := 7) (v := .ref (r7 7)) (C := RX7) (T := TX7) (N := 9) hx hb hts w1 hown hK.1 hP 0 rfl rfl 7 (by decide) w5 (fun _ h9 => h9) rfl dX7_findWorms_89 ?_
          refine lv_aload_n hx hb dX7_findWorms_92 rfl (lv_at hl 4 rfl) ?_
          refine va_get (D := D) (ci := 7) (v := .int v4) (C := RX7) (T := TX7) (N := 9) hx hb hts w1 hown hK.1 hP 0 rfl rfl 8 (by decide) w0 (fun _ h9 => h9) rfl dX7_findWorms_93 ?_
          refine lv_iconst (v := 0) hx hb dX7_findWorms_96 (by decide) ?_
          refine va_iast hx hb hK.1 hP hD hS 5 1 rfl rfl (i := v4) (ix (by omega) (by omega)) dX7_findWorms_97 (fun H locs hP hD hS => ?_)
          obtain ⟨g27, e28⟩ : ∃ y : Nat → Int32, y = upd g7 v4.toNatClampNeg 0 := ⟨_, rfl⟩
          rw [← e28] at hP hD
          obtain ⟨hP, hD⟩ : PD D A [O7 a7 r7 v7_count v7_holes v4, (cI κ (r7 2) 40 f7_sheetOf), (cI κ (r7 3) 40 f7_placeOf), (cI κ (r7 4) 40 f7_byPlace), (cI κ (r7 6) 40 g5), (cI κ (r7 7) 40 g27)] H := ⟨hP, hD⟩
          refine lv_aload_n hx hb dX7_findWorms_98 rfl (lv_at hl 4 rfl) ?_
          refine lv_dup hx hb dX7_findWorms_99 rfl ?_
          refine va_get (D := D) (ci := 7) (v := .int v4) (C := RX7) (T := TX7) (N := 9) hx hb hts w1 hown hK.1 hP 0 rfl rfl 8 (by decide) w0 (fun _ h9 => h9) rfl dX7_findWorms_100 ?_
          refine lv_iconst (v := 1) hx hb dX7_findWorms_103 (by decide) ?_
          refine lv_iadd hx hb dX7_findWorms_104 ?_
          refine lv_topi (fun x29 e30 => ?_)
          try have h31 : x29.toInt = v4.toInt + (1 : Int32).toInt := ci_add e30 (by omega) (by omega)
          refine va_put (D := D) (ci := 7) (v := .int x29) (ty := .int) (C := RX7) (T := TX7) (N := 9) hx hb hts w1 tyX7 tyX7_ok nmX7 hown hK.1 hP hD hS 0 rfl rfl 8 (by decide) w0 (fun _ h9 => h9) rfl (by decide +kernel) rfl rfl (Nat.le_of_ble_eq_true rfl) dX7_findWorms_105 (fun H locs hP hD hS => ?_)
          obtain ⟨hP, hD⟩ : PD D A [O7 a7 r7 v7_count v7_holes x29, (cI κ (r7 2) 40 f7_sheetOf), (cI κ (r7 3) 40 f7_placeOf), (cI κ (r7 4) 40 f7_byPlace), (cI κ (r7 6) 40 g5), (cI κ (r7 7) 40 g27)] H := ⟨hP, hD⟩
          have h32 : 0 ≤ x29.toInt ∧ x29.toInt ≤ 40 := by omega
          refine lv_aload_n hx hb dX7_findWorms_108 rfl (lv_at hl 4 rfl) ?_
          refine va_get (D := D) (ci := 7) (v := .ref (r7 7)) (C := RX7) (T := TX7) (N := 9) hx hb hts w1 hown hK.1 hP 0 rfl rfl 7 (by decide) w5 (fun _ h9 => h9) rfl dX7_findWorms_109 ?_
          refine lv_aload_n hx hb dX7_findWorms_112 rfl (lv_at hl 4 rfl) ?_
          refine va_get (D := D) (ci := 7) (v := .int x29) (C := RX7) (T := TX7) (N := 9) hx hb hts w1 hown hK.1 hP 0 rfl rfl 8 (by decide) w0 (fun _ h9 => h9) rfl dX7_findWorms_113 ?_
          refine lv_iconst (v := 1) hx hb dX7_findWorms_116 (by decide) ?_
          refine lv_isub hx hb dX7_findWorms_117 ?_
          refine lv_topi (fun x33 e34 => ?_)
          try have h35 : x33.toInt = x29.toInt - (1 : Int32).toInt := ci_sub e34 (by omega) (by omega)
          refine lv_dup2_11 hx hb dX7_findWorms_118 rfl rfl ?_
          refine va_iald hx hb hK.1 hP 5 1 rfl rfl (i := x33) (ix (by omega) (by omega)) dX7_findWorms_119 ?_
          refine lv_topi (fun x36 e37 => ?_)
          refine lv_iload hx hb dX7_findWorms_120 (lv_at hl 0 rfl) ?_
          refine lv_ior hx hb dX7_findWorms_122 ?_
          refine lv_topi (fun x38 e39 => ?_)
          refine va_iast hx hb hK.1 hP hD hS 5 1 rfl rfl (i := x33) (ix (by omega) (by omega)) dX7_findWorms_123 (fun H locs hP hD hS => ?_)
          obtain ⟨g40, e41⟩ : ∃ y : Nat → Int32, y = upd g27 x33.toNatClampNeg x38 := ⟨_, rfl⟩
          rw [← e41] at hP hD
          obtain ⟨hP, hD⟩ : PD D A [O7 a7 r7 v7_count v7_holes x29, (cI κ (r7 2) 40 f7_sheetOf), (cI κ (r7 3) 40 f7_placeOf), (cI κ (r7 4) 40 f7_byPlace), (cI κ (r7 6) 40 g5), (cI κ (r7 7) 40 g40)] H := ⟨hP, hD⟩
          refine lv_aload_n hx hb dX7_findWorms_124 rfl (lv_at hl 4 rfl) ?_
          refine va_get (D := D) (ci := 7) (v := .ref (r7 6)) (C := RX7) (T := TX7) (N := 9) hx hb hts w1 hown hK.1 hP 0 rfl rfl 6 (by decide) w6 (fun _ h9 => h9) rfl dX7_findWorms_125 ?_
          refine lv_iload hx hb dX7_findWorms_128 (lv_at hl 1 rfl) ?_
          refine lv_aload_n hx hb dX7_findWorms_130 rfl (lv_at hl 4 rfl) ?_
          refine va_get (D := D) (ci := 7) (v := .int x29) (C := RX7) (T := TX7) (N := 9) hx hb hts w1 hown hK.1 hP 0 rfl rfl 8 (by decide) w0 (fun _ h9 => h9) rfl dX7_findWorms_131 ?_
          refine lv_iconst (v := 1) hx hb dX7_findWorms_134 (by decide) ?_
          refine lv_isub hx hb dX7_findWorms_135 ?_
          refine lv_topi (fun x42 e43 => ?_)
          try have h44 : x42.toInt = x29.toInt - (1 : Int32).toInt := ci_sub e43 (by omega) (by omega)
          refine va_iast hx hb hK.1 hP hD hS 4 1 rfl rfl (i := x15) (ix (by omega) (by omega)) dX7_findWorms_136 (fun H locs hP hD hS => ?_)
          obtain ⟨g45, e46⟩ : ∃ y : Nat → Int32, y = upd g5 x15.toNatClampNeg x42 := ⟨_, rfl⟩
          rw [← e46] at hP hD
          obtain ⟨hP, hD⟩ : PD D A [O7 a7 r7 v7_count v7_holes x29, (cI κ (r7 2) 40 f7_sheetOf), (cI κ (r7 3) 40 f7_placeOf), (cI κ (r7 4) 40 f7_byPlace), (cI κ (r7 6) 40 g45), (cI κ (r7 7) 40 g40)] H := ⟨hP, hD⟩
          have h47 : ∀ j : Nat, 0 ≤ (g45 j).toInt ∧ (g45 j).toInt ≤ 39 := by rw [e46]; exact all_upd (P := fun z => 0 ≤ z.toInt ∧ z.toInt ≤ 39) h6 (by omega)
          refine lv_iload hx hb dX7_findWorms_137 (lv_at hl 1 rfl) ?_
          refine lv_istore_n (lv' := [(3, .int x15), (6, .int x21), (5, .int x15), (4, .int k2), (0, .ref a7), (1, .int p1), (2, .int p2)]) hx hb dX7_findWorms_139 rfl hl (by decide) rfl (fun ls hl => ?_)
          obtain ⟨x48, e49⟩ : ∃ y : Int32, y = k2 + 1 := ⟨_, rfl⟩
          refine lv_iinc (v := x48) (lv' := [(4, .int x48), (3, .int x15), (6, .int x21), (5, .int x15), (0, .ref a7), (1, .int p1), (2, .int p2)]) hx hb dX7_findWorms_140 hl (k := 3) rfl (by rw [e49]; rfl) (by decide) rfl (fun ls hl => ?_)
          try have h50 : x48.toInt = k2.toInt + (1 : Int32).toInt := ci_add e49 (by omega) (by omega)
          refine lv_goto (tgt := 10) hx hb dX7_findWorms_143 (by decide) ?_
          exact ih10 x48 x15 x29 g45 g40 h32 h47 (by omega) (by omega) (by omega) (by omega) (by omega) _ _ hP hD hS _ (lv_sub hl [0, 1, 4, 5, 6] rfl)
        have c26 := ci_nlt c26
        refine lv_aload_n hx hb dX7_findWorms_53 rfl (lv_at hl 4 rfl) ?_
        refine va_get (D := D) (ci := 7) (v := .ref (r7 3)) (C := RX7) (T := TX7) (N := 9) hx hb hts w1 hown hK.1 hP 0 rfl rfl 3 (by decide) w7 (fun _ h9 => h9) rfl dX7_findWorms_54 ?_
        refine lv_iload hx hb dX7_findWorms_57 (lv_at hl 1 rfl) ?_
        refine va_iald hx hb hK.1 hP 2 1 rfl rfl (i := x15) (ix (by omega) (by omega)) dX7_findWorms_59 ?_
        refine lv_topi (fun x51 e52 => ?_)
        have h53 : 0 ≤ x51.toInt ∧ x51.toInt ≤ 999 := by rw [e52]; exact hf7_placeOf _
        refine lv_aload_n hx hb dX7_findWorms_60 rfl (lv_at hl 4 rfl) ?_
        refine va_get (D := D) (ci := 7) (v := .ref (r7 3)) (C := RX7) (T := TX7) (N := 9) hx hb hts w1 hown hK.1 hP 0 rfl rfl 3 (by decide) w7 (fun _ h9 => h9) rfl dX7_findWorms_61 ?_
        refine lv_iload_n hx hb dX7_findWorms_64 rfl (lv_at hl 3 rfl) ?_
        refine va_iald hx hb hK.1 hP 2 1 rfl rfl (i := k3) (ix (by omega) (by omega)) dX7_findWorms_65 ?_
        refine lv_topi (fun x54 e55 => ?_)
        have h56 : 0 ≤ x54.toInt ∧ x54.toInt ≤ 999 := by rw [e55]; exact hf7_placeOf _
        refine lv_isub hx hb dX7_findWorms_66 ?_
        refine lv_topi (fun x57 e58 => ?_)
        refine lv_iload_n hx hb dX7_findWorms_67 rfl (lv_at hl 5 rfl) ?_
        refine lv_icmp_gt (tgt := 88) hx hb dX7_findWorms_68 (by decide) (fun c59 => ?_) (fun c59 => ?_)
        · have c59 := ci_lt c59
          refine lv_aload_n hx hb dX7_findWorms_88 rfl (lv_at hl 4 rfl) ?_
          refine va_get (D := D) (ci := 7) (v := .ref (r7 7)) (C := RX7) (T := TX7) (N := 9) hx hb hts w1 hown hK.1 hP 0 rfl rfl 7 (by decide) w5 (fun _ h9 => h9) rfl dX7_findWorms_89 ?_
          refine lv_aload_n hx hb dX7_findWorms_92 rfl (lv_at hl 4 rfl) ?_
          refine va_get (D := D) (ci := 7) (v := .int v4) (C := RX7) (T := TX7) (N := 9) hx hb hts w1 hown hK.1 hP 0 rfl rfl 8 (by decide) w0 (fun _ h9 => h9) rfl dX7_findWorms_93 ?_
          refine lv_iconst (v := 0) hx hb dX7_findWorms_96 (by decide) ?_
          refine va_iast hx hb hK.1 hP hD hS 5 1 rfl rfl (i := v4) (ix (by omega) (by omega)) dX7_findWorms_97 (fun H locs hP hD hS => ?_)
          obtain ⟨g60, e61⟩ : ∃ y : Nat → Int32, y = upd g7 v4.toNatClampNeg 0 := ⟨_, rfl⟩
          rw [← e61] at hP hD
          obtain ⟨hP, hD⟩ : PD D A [O7 a7 r7 v7_count v7_holes v4, (cI κ (r7 2) 40 f7_sheetOf), (cI κ (r7 3) 40 f7_placeOf), (cI κ (r7 4) 40 f7_byPlace), (cI κ (r7 6) 40 g5), (cI κ (r7 7) 40 g60)] H := ⟨hP, hD⟩
          refine lv_aload_n hx hb dX7_findWorms_98 rfl (lv_at hl 4 rfl) ?_
          refine lv_dup hx hb dX7_findWorms_99 rfl ?_
          refine va_get (D := D) (ci := 7) (v := .int v4) (C := RX7) (T := TX7) (N := 9) hx hb hts w1 hown hK.1 hP 0 rfl rfl 8 (by decide) w0 (fun _ h9 => h9) rfl dX7_findWorms_100 ?_
          refine lv_iconst (v := 1) hx hb dX7_findWorms_103 (by decide) ?_
          refine lv_iadd hx hb dX7_findWorms_104 ?_
          refine lv_topi (fun x62 e63 => ?_)
          try have h64 : x62.toInt = v4.toInt + (1 : Int32).toInt := ci_add e63 (by omega) (by omega)
          refine va_put (D := D) (ci := 7) (v := .int x62) (ty := .int) (C := RX7) (T := TX7) (N := 9) hx hb hts w1 tyX7 tyX7_ok nmX7 hown hK.1 hP hD hS 0 rfl rfl 8 (by decide) w0 (fun _ h9 => h9) rfl (by decide +kernel) rfl rfl (Nat.le_of_ble_eq_true rfl) dX7_findWorms_105 (fun H locs hP hD hS => ?_)
          obtain ⟨hP, hD⟩ : PD D A [O7 a7 r7 v7_count v7_holes x62, (cI κ (r7 2) 40 f7_sheetOf), (cI κ (r7 3) 40 f7_placeOf), (cI κ (r7 4) 40 f7_byPlace), (cI κ (r7 6) 40 g5), (cI κ (r7 7) 40 g60)] H := ⟨hP, hD⟩
          have h65 : 0 ≤ x62.toInt ∧ x62.toInt ≤ 40 := by omega
          refine lv_aload_n hx hb dX7_findWorms_108 rfl (lv_at hl 4 rfl) ?_
          refine va_get (D := D) (ci := 7) (v := .ref (r7 7)) (C := RX7) (T := TX7) (N := 9) hx hb hts w1 hown hK.1 hP 0 rfl rfl 7 (by decide) w5 (fun _ h9 => h9) rfl dX7_findWorms_109 ?_
          refine lv_aload_n hx hb dX7_findWorms_112 rfl (lv_at hl 4 rfl) ?_
          refine va_get (D := D) (ci := 7) (v := .int x62) (C := RX7) (T := TX7) (N := 9) hx hb hts w1 hown hK.1 hP 0 rfl rfl 8 (by decide) w0 (fun _ h9 => h9) rfl dX7_findWorms_113 ?_
          refine lv_iconst (v := 1) hx hb dX7_findWorms_116 (by decide) ?_
          refine lv_isub hx hb dX7_findWorms_117 ?_
          refine lv_topi (fun x66 e67 => ?_)
          try have h68 : x66.toInt = x62.toInt - (1 : Int32).toInt := ci_sub e67 (by omega) (by omega)
          refine lv_dup2_11 hx hb dX7_findWorms_118 rfl rfl ?_
          refine va_iald hx hb hK.1 hP 5 1 rfl rfl (i := x66) (ix (by omega) (by omega)) dX7_findWorms_119 ?_
          refine lv_topi (fun x69 e70 => ?_)
          refine lv_iload hx hb dX7_findWorms_120 (lv_at hl 0 rfl) ?_
          refine lv_ior hx hb dX7_findWorms_122 ?_
          refine lv_topi (fun x71 e72 => ?_)
          refine va_iast hx hb hK.1 hP hD hS 5 1 rfl rfl (i := x66) (ix (by omega) (by omega)) dX7_findWorms_123 (fun H locs hP hD hS => ?_)
          obtain ⟨g73, e74⟩ : ∃ y : Nat → Int32, y = upd g60 x66.toNatClampNeg x71 := ⟨_, rfl⟩
          rw [← e74] at hP hD
          obtain ⟨hP, hD⟩ : PD D A [O7 a7 r7 v7_count v7_holes x62, (cI κ (r7 2) 40 f7_sheetOf), (cI κ (r7 3) 40 f7_placeOf), (cI κ (r7 4) 40 f7_byPlace), (cI κ (r7 6) 40 g5), (cI κ (r7 7) 40 g73)] H := ⟨hP, hD⟩
          refine lv_aload_n hx hb dX7_findWorms_124 rfl (lv_at hl 4 rfl) ?_
          refine va_get (D := D) (ci := 7) (v := .ref (r7 6)) (C := RX7) (T := TX7) (N := 9) hx hb hts w1 hown hK.1 hP 0 rfl rfl 6 (by decide) w6 (fun _ h9 => h9) rfl dX7_findWorms_125 ?_
          refine lv_iload hx hb dX7_findWorms_128 (lv_at hl 1 rfl) ?_
          refine lv_aload_n hx hb dX7_findWorms_130 rfl (lv_at hl 4 rfl) ?_
          refine va_get (D := D) (ci := 7) (v := .int x62) (C := RX7) (T := TX7) (N := 9) hx hb hts w1 hown hK.1 hP 0 rfl rfl 8 (by decide) w0 (fun _ h9 => h9) rfl dX7_findWorms_131 ?_
          refine lv_iconst (v := 1) hx hb dX7_findWorms_134 (by decide) ?_
          refine lv_isub hx hb dX7_findWorms_135 ?_
          refine lv_topi (fun x75 e76 => ?_)
          try have h77 : x75.toInt = x62.toInt - (1 : Int32).toInt := ci_sub e76 (by omega) (by omega)
          refine va_iast hx hb hK.1 hP hD hS 4 1 rfl rfl (i := x15) (ix (by omega) (by omega)) dX7_findWorms_136 (fun H locs hP hD hS => ?_)
          obtain ⟨g78, e79⟩ : ∃ y : Nat → Int32, y = upd g5 x15.toNatClampNeg x75 := ⟨_, rfl⟩
          rw [← e79] at hP hD
          obtain ⟨hP, hD⟩ : PD D A [O7 a7 r7 v7_count v7_holes x62, (cI κ (r7 2) 40 f7_sheetOf), (cI κ (r7 3) 40 f7_placeOf), (cI κ (r7 4) 40 f7_byPlace), (cI κ (r7 6) 40 g78), (cI κ (r7 7) 40 g73)] H := ⟨hP, hD⟩
          have h80 : ∀ j : Nat, 0 ≤ (g78 j).toInt ∧ (g78 j).toInt ≤ 39 := by rw [e79]; exact all_upd (P := fun z => 0 ≤ z.toInt ∧ z.toInt ≤ 39) h6 (by omega)
          refine lv_iload hx hb dX7_findWorms_137 (lv_at hl 1 rfl) ?_
          refine lv_istore_n (lv' := [(3, .int x15), (6, .int x21), (5, .int x15), (4, .int k2), (0, .ref a7), (1, .int p1), (2, .int p2)]) hx hb dX7_findWorms_139 rfl hl (by decide) rfl (fun ls hl => ?_)
          obtain ⟨x81, e82⟩ : ∃ y : Int32, y = k2 + 1 := ⟨_, rfl⟩
          refine lv_iinc (v := x81) (lv' := [(4, .int x81), (3, .int x15), (6, .int x21), (5, .int x15), (0, .ref a7), (1, .int p1), (2, .int p2)]) hx hb dX7_findWorms_140 hl (k := 3) rfl (by rw [e82]; rfl) (by decide) rfl (fun ls hl => ?_)
          try have h83 : x81.toInt = k2.toInt + (1 : Int32).toInt := ci_add e82 (by omega) (by omega)
          refine lv_goto (tgt := 10) hx hb dX7_findWorms_143 (by decide) ?_
          exact ih10 x81 x15 x62 g78 g73 h65 h80 (by omega) (by omega) (by omega) (by omega) (by omega) _ _ hP hD hS _ (lv_sub hl [0, 1, 4, 5, 6] rfl)
        have c59 := ci_nlt c59
        refine lv_aload_n hx hb dX7_findWorms_71 rfl (lv_at hl 4 rfl) ?_
        refine va_get (D := D) (ci := 7) (v := .ref (r7 7)) (C := RX7) (T := TX7) (N := 9) hx hb hts w1 hown hK.1 hP 0 rfl rfl 7 (by decide) w5 (fun _ h9 => h9) rfl dX7_findWorms_72 ?_
        refine lv_aload_n hx hb dX7_findWorms_75 rfl (lv_at hl 4 rfl) ?_
        refine va_get (D := D) (ci := 7) (v := .int v4) (C := RX7) (T := TX7) (N := 9) hx hb hts w1 hown hK.1 hP 0 rfl rfl 8 (by decide) w0 (fun _ h9 => h9) rfl dX7_findWorms_76 ?_
        refine lv_iconst (v := 1) hx hb dX7_findWorms_79 (by decide) ?_
        refine lv_isub hx hb dX7_findWorms_80 ?_
        refine lv_topi (fun x84 e85 => ?_)
        try have h86 : x84.toInt = v4.toInt - (1 : Int32).toInt := ci_sub e85 (by omega) (by omega)
        refine va_iald hx hb hK.1 hP 5 1 rfl rfl (i := x84) (ix (by omega) (by omega)) dX7_findWorms_81 ?_
        refine lv_topi (fun x87 e88 => ?_)
        refine lv_iload hx hb dX7_findWorms_82 (lv_at hl 0 rfl) ?_
        refine lv_iand hx hb dX7_findWorms_84 ?_
        refine lv_topi (fun x89 e90 => ?_)
        refine lv_if_eq (tgt := 108) hx hb dX7_findWorms_85 (by decide) (fun c91 => ?_) (fun c91 => ?_)
        · have c91 := ci_eq c91
          refine lv_aload_n hx hb dX7_findWorms_108 rfl (lv_at hl 4 rfl) ?_
          refine va_get (D := D) (ci := 7) (v := .ref (r7 7)) (C := RX7) (T := TX7) (N := 9) hx hb hts w1 hown hK.1 hP 0 rfl rfl 7 (by decide) w5 (fun _ h9 => h9) rfl dX7_findWorms_109 ?_
          refine lv_aload_n hx hb dX7_findWorms_112 rfl (lv_at hl 4 rfl) ?_
          refine va_get (D := D) (ci := 7) (v := .int v4) (C := RX7) (T := TX7) (N := 9) hx hb hts w1 hown hK.1 hP 0 rfl rfl 8 (by decide) w0 (fun _ h9 => h9) rfl dX7_findWorms_113 ?_
          refine lv_iconst (v := 1) hx hb dX7_findWorms_116 (by decide) ?_
          refine lv_isub hx hb dX7_findWorms_117 ?_
          refine lv_topi (fun x92 e93 => ?_)
          try have h94 : x92.toInt = v4.toInt - (1 : Int32).toInt := ci_sub e93 (by omega) (by omega)
          refine lv_dup2_11 hx hb dX7_findWorms_118 rfl rfl ?_
          refine va_iald hx hb hK.1 hP 5 1 rfl rfl (i := x92) (ix (by omega) (by omega)) dX7_findWorms_119 ?_
          refine lv_topi (fun x95 e96 => ?_)
          refine lv_iload hx hb dX7_findWorms_120 (lv_at hl 0 rfl) ?_
          refine lv_ior hx hb dX7_findWorms_122 ?_
          refine lv_topi (fun x97 e98 => ?_)
          refine va_iast hx hb hK.1 hP hD hS 5 1 rfl rfl (i := x92) (ix (by omega) (by omega)) dX7_findWorms_123 (fun H locs hP hD hS => ?_)
          obtain ⟨g99, e100⟩ : ∃ y : Nat → Int32, y = upd g7 x92.toNatClampNeg x97 := ⟨_, rfl⟩
          rw [← e100] at hP hD
          obtain ⟨hP, hD⟩ : PD D A [O7 a7 r7 v7_count v7_holes v4, (cI κ (r7 2) 40 f7_sheetOf), (cI κ (r7 3) 40 f7_placeOf), (cI κ (r7 4) 40 f7_byPlace), (cI κ (r7 6) 40 g5), (cI κ (r7 7) 40 g99)] H := ⟨hP, hD⟩
          refine lv_aload_n hx hb dX7_findWorms_124 rfl (lv_at hl 4 rfl) ?_
          refine va_get (D := D) (ci := 7) (v := .ref (r7 6)) (C := RX7) (T := TX7) (N := 9) hx hb hts w1 hown hK.1 hP 0 rfl rfl 6 (by decide) w6 (fun _ h9 => h9) rfl dX7_findWorms_125 ?_
          refine lv_iload hx hb dX7_findWorms_128 (lv_at hl 1 rfl) ?_
          refine lv_aload_n hx hb dX7_findWorms_130 rfl (lv_at hl 4 rfl) ?_
          refine va_get (D := D) (ci := 7) (v := .int v4) (C := RX7) (T := TX7) (N := 9) hx hb hts w1 hown hK.1 hP 0 rfl rfl 8 (by decide) w0 (fun _ h9 => h9) rfl dX7_findWorms_131 ?_
          refine lv_iconst (v := 1) hx hb dX7_findWorms_134 (by decide) ?_
          refine lv_isub hx hb dX7_findWorms_135 ?_
          refine lv_topi (fun x101 e102 => ?_)
          try have h103 : x101.toInt = v4.toInt - (1 : Int32).toInt := ci_sub e102 (by omega) (by omega)
          refine va_iast hx hb hK.1 hP hD hS 4 1 rfl rfl (i := x15) (ix (by omega) (by omega)) dX7_findWorms_136 (fun H locs hP hD hS => ?_)
          obtain ⟨g104, e105⟩ : ∃ y : Nat → Int32, y = upd g5 x15.toNatClampNeg x101 := ⟨_, rfl⟩
          rw [← e105] at hP hD
          obtain ⟨hP, hD⟩ : PD D A [O7 a7 r7 v7_count v7_holes v4, (cI κ (r7 2) 40 f7_sheetOf), (cI κ (r7 3) 40 f7_placeOf), (cI κ (r7 4) 40 f7_byPlace), (cI κ (r7 6) 40 g104), (cI κ (r7 7) 40 g99)] H := ⟨hP, hD⟩
          have h106 : ∀ j : Nat, 0 ≤ (g104 j).toInt ∧ (g104 j).toInt ≤ 39 := by rw [e105]; exact all_upd (P := fun z => 0 ≤ z.toInt ∧ z.toInt ≤ 39) h6 (by omega)
          refine lv_iload hx hb dX7_findWorms_137 (lv_at hl 1 rfl) ?_
          refine lv_istore_n (lv' := [(3, .int x15), (6, .int x21), (5, .int x15), (4, .int k2), (0, .ref a7), (1, .int p1), (2, .int p2)]) hx hb dX7_findWorms_139 rfl hl (by decide) rfl (fun ls hl => ?_)
          obtain ⟨x107, e108⟩ : ∃ y : Int32, y = k2 + 1 := ⟨_, rfl⟩
          refine lv_iinc (v := x107) (lv' := [(4, .int x107), (3, .int x15), (6, .int x21), (5, .int x15), (0, .ref a7), (1, .int p1), (2, .int p2)]) hx hb dX7_findWorms_140 hl (k := 3) rfl (by rw [e108]; rfl) (by decide) rfl (fun ls hl => ?_)
          try have h109 : x107.toInt = k2.toInt + (1 : Int32).toInt := ci_add e108 (by omega) (by omega)
          refine lv_goto (tgt := 10) hx hb dX7_findWorms_143 (by decide) ?_
          exact ih10 x107 x15 v4 g104 g99 h8 h106 (by omega) (by omega) (by omega) (by omega) (by omega) _ _ hP hD hS _ (lv_sub hl [0, 1, 4, 5, 6] rfl)
        have c91 := ci_ne c91
        refine lv_aload_n hx hb dX7_findWorms_88 rfl (lv_at hl 4 rfl) ?_
        refine va_get (D := D) (ci := 7) (v := .ref (r7 7)) (C := RX7) (T := TX7) (N := 9) hx hb hts w1 hown hK.1 hP 0 rfl rfl 7 (by decide) w5 (fun _ h9 => h9) rfl dX7_findWorms_89 ?_
        refine lv_aload_n hx hb dX7_findWorms_92 rfl (lv_at hl 4 rfl) ?_
        refine va_get (D := D) (ci := 7) (v := .int v4) (C := RX7) (T := TX7) (N := 9) hx hb hts w1 hown hK.1 hP 0 rfl rfl 8 (by decide) w0 (fun _ h9 => h9) rfl dX7_findWorms_93 ?_
        refine lv_iconst (v := 0) hx hb dX7_findWorms_96 (by decide) ?_
        refine va_iast hx hb hK.1 hP hD hS 5 1 rfl rfl (i := v4) (ix (by omega) (by omega)) dX7_findWorms_97 (fun H locs hP hD hS => ?_)
        obtain ⟨g110, e111⟩ : ∃ y : Nat → Int32, y = upd g7 v4.toNatClampNeg 0 := ⟨_, rfl⟩
        rw [← e111] at hP hD
        obtain ⟨hP, hD⟩ : PD D A [O7 a7 r7 v7_count v7_holes v4, (cI κ (r7 2) 40 f7_sheetOf), (cI κ (r7 3) 40 f7_placeOf), (cI κ (r7 4) 40 f7_byPlace), (cI κ (r7 6) 40 g5), (cI κ (r7 7) 40 g110)] H := ⟨hP, hD⟩
        refine lv_aload_n hx hb dX7_findWorms_98 rfl (lv_at hl 4 rfl) ?_
        refine lv_dup hx hb dX7_findWorms_99 rfl ?_
        refine va_get (D := D) (ci := 7) (v := .int v4) (C := RX7) (T := TX7) (N := 9) hx hb hts w1 hown hK.1 hP 0 rfl rfl 8 (by decide) w0 (fun _ h9 => h9) rfl dX7_findWorms_100 ?_
        refine lv_iconst (v := 1) hx hb dX7_findWorms_103 (by decide) ?_
        refine lv_iadd hx hb dX7_findWorms_104 ?_
        refine lv_topi (fun x112 e113 => ?_)
        try have h114 : x112.toInt = v4.toInt + (1 : Int32).toInt := ci_add e113 (by omega) (by omega)
        refine va_put (D := D) (ci := 7) (v := .int x112) (ty := .int) (C := RX7) (T := TX7) (N := 9) hx hb hts w1 tyX7 tyX7_ok nmX7 hown hK.1 hP hD hS 0 rfl rfl 8 (by decide) w0 (fun _ h9 => h9) rfl (by decide +kernel) rfl rfl (Nat.le_of_ble_eq_true rfl) dX7_findWorms_105 (fun H locs hP hD hS => ?_)
        obtain ⟨hP, hD⟩ : PD D A [O7 a7 r7 v7_count v7_holes x112, (cI κ (r7 2) 40 f7_sheetOf), (cI κ (r7 3) 40 f7_placeOf), (cI κ (r7 4) 40 f7_byPlace), (cI κ (r7 6) 40 g5), (cI κ (r7 7) 40 g110)] H := ⟨hP, hD⟩
        have h115 : 0 ≤ x112.toInt ∧ x112.toInt ≤ 40 := by omega
        refine lv_aload_n hx hb dX7_findWorms_108 rfl (lv_at hl 4 rfl) ?_
        refine va_get (D := D) (ci := 7) (v := .ref (r7 7)) (C := RX7) (T := TX7) (N := 9) hx hb hts w1 hown hK.1 hP 0 rfl rfl 7 (by decide) w5 (fun _ h9 => h9) rfl dX7_findWorms_109 ?_
        refine lv_aload_n hx hb dX7_findWorms_112 rfl (lv_at hl 4 rfl) ?_
        refine va_get (D := D) (ci := 7) (v := .int x112) (C := RX7) (T := TX7) (N := 9) hx hb hts w1 hown hK.1 hP 0 rfl rfl 8 (by decide) w0 (fun _ h9 => h9) rfl dX7_findWorms_113 ?_
        refine lv_iconst (v := 1) hx hb dX7_findWorms_116 (by decide) ?_
        refine lv_isub hx hb dX7_findWorms_117 ?_
        refine lv_topi (fun x116 e117 => ?_)
        try have h118 : x116.toInt = x112.toInt - (1 : Int32).toInt := ci_sub e117 (by omega) (by omega)
        refine lv_dup2_11 hx hb dX7_findWorms_118 rfl rfl ?_
        refine va_iald hx hb hK.1 hP 5 1 rfl rfl (i := x116) (ix (by omega) (by omega)) dX7_findWorms_119 ?_
        refine lv_topi (fun x119 e120 => ?_)
        refine lv_iload hx hb dX7_findWorms_120 (lv_at hl 0 rfl) ?_
        refine lv_ior hx hb dX7_findWorms_122 ?_
        refine lv_topi (fun x121 e122 => ?_)
        refine va_iast hx hb hK.1 hP hD hS 5 1 rfl rfl (i := x116) (ix (by omega) (by omega)) dX7_findWorms_123 (fun H locs hP hD hS => ?_)
        obtain ⟨g123, e124⟩ : ∃ y : Nat → Int32, y = upd g110 x116.toNatClampNeg x121 := ⟨_, rfl⟩
        rw [← e124] at hP hD
        obtain ⟨hP, hD⟩ : PD D A [O7 a7 r7 v7_count v7_holes x112, (cI κ (r7 2) 40 f7_sheetOf), (cI κ (r7 3) 40 f7_placeOf), (cI κ (r7 4) 40 f7_byPlace), (cI κ (r7 6) 40 g5), (cI κ (r7 7) 40 g123)] H := ⟨hP, hD⟩
        refine lv_aload_n hx hb dX7_findWorms_124 rfl (lv_at hl 4 rfl) ?_
        refine va_get (D := D) (ci := 7) (v := .ref (r7 6)) (C := RX7) (T := TX7) (N := 9) hx hb hts w1 hown hK.1 hP 0 rfl rfl 6 (by decide) w6 (fun _ h9 => h9) rfl dX7_findWorms_125 ?_
        refine lv_iload hx hb dX7_findWorms_128 (lv_at hl 1 rfl) ?_
        refine lv_aload_n hx hb dX7_findWorms_130 rfl (lv_at hl 4 rfl) ?_
        refine va_get (D := D) (ci := 7) (v := .int x112) (C := RX7) (T := TX7) (N := 9) hx hb hts w1 hown hK.1 hP 0 rfl rfl 8 (by decide) w0 (fun _ h9 => h9) rfl dX7_findWorms_131 ?_
        refine lv_iconst (v := 1) hx hb dX7_findWorms_134 (by decide) ?_
        refine lv_isub hx hb dX7_findWorms_135 ?_
        refine lv_topi (fun x125 e126 => ?_)
        try have h127 : x125.toInt = x112.toInt - (1 : Int32).toInt := ci_sub e126 (by omega) (by omega)
        refine va_iast hx hb hK.1 hP hD hS 4 1 rfl rfl (i := x15) (ix (by omega) (by omega)) dX7_findWorms_136 (fun H locs hP hD hS => ?_)
        obtain ⟨g128, e129⟩ : ∃ y : Nat → Int32, y = upd g5 x15.toNatClampNeg x125 := ⟨_, rfl⟩
        rw [← e129] at hP hD
        obtain ⟨hP, hD⟩ : PD D A [O7 a7 r7 v7_count v7_holes x112, (cI κ (r7 2) 40 f7_sheetOf), (cI κ (r7 3) 40 f7_placeOf), (cI κ (r7 4) 40 f7_byPlace), (cI κ (r7 6) 40 g128), (cI κ (r7 7) 40 g123)] H := ⟨hP, hD⟩
        have h130 : ∀ j : Nat, 0 ≤ (g128 j).toInt ∧ (g128 j).toInt ≤ 39 := by rw [e129]; exact all_upd (P := fun z => 0 ≤ z.toInt ∧ z.toInt ≤ 39) h6 (by omega)
        refine lv_iload hx hb dX7_findWorms_137 (lv_at hl 1 rfl) ?_
        refine lv_istore_n (lv' := [(3, .int x15), (6, .int x21), (5, .int x15), (4, .int k2), (0, .ref a7), (1, .int p1), (2, .int p2)]) hx hb dX7_findWorms_139 rfl hl (by decide) rfl (fun ls hl => ?_)
        obtain ⟨x131, e132⟩ : ∃ y : Int32, y = k2 + 1 := ⟨_, rfl⟩
        refine lv_iinc (v := x131) (lv' := [(4, .int x131), (3, .int x15), (6, .int x21), (5, .int x15), (0, .ref a7), (1, .int p1), (2, .int p2)]) hx hb dX7_findWorms_140 hl (k := 3) rfl (by rw [e132]; rfl) (by decide) rfl (fun ls hl => ?_)
        try have h133 : x131.toInt = k2.toInt + (1 : Int32).toInt := ci_add e132 (by omega) (by omega)
        refine lv_goto (tgt := 10) hx hb dX7_findWorms_143 (by decide) ?_
        exact ih10 x131 x15 x112 g128 g123 h115 h130 (by omega) (by omega) (by omega) (by omega) (by omega) _ _ hP hD hS _ (lv_sub hl [0, 1, 4, 5, 6] rfl)
      have c25 := ci_eq c25
      refine lv_goto (tgt := 140) hx hb dX7_findWorms_46 (by decide) ?_
      obtain ⟨x134, e135⟩ : ∃ y : Int32, y = k2 + 1 := ⟨_, rfl⟩
      refine lv_iinc (v := x134) (lv' := [(4, .int x134), (6, .int x21), (5, .int x15), (3, .int k3), (0, .ref a7), (1, .int p1), (2, .int p2)]) hx hb dX7_findWorms_140 hl (k := 2) rfl (by rw [e135]; rfl) (by decide) rfl (fun ls hl => ?_)
      try have h136 : x134.toInt = k2.toInt + (1 : Int32).toInt := ci_add e135 (by omega) (by omega)
      refine lv_goto (tgt := 10) hx hb dX7_findWorms_143 (by decide) ?_
      exact ih10 x134 k3 v4 g5 g7 h8 h6 (by omega) (by omega) (by omega) (by omega) (by omega) _ _ hP hD hS _ (lv_sub hl [0, 3, 4, 5, 6] rfl)
  exact lp10 ((v7_holes.toInt - (0 : Int32).toInt).toNat + 1) 0 (-1) 0 f7_wormOf f7_wormSheets h1 hf7_wormOf (by omega) (by omega) (by omega) (by omega) (by omega) _ _ hP hD hS _ hl
set_option maxHeartbeats 4000000 in
set_option maxRecDepth 100000 in
theorem k_X7_youngest (l : Launch) (D : va_G) (κ : Nat → ClassId) (β : Nat) (a7 : Nat) (r7 : Nat → Nat) (v7_count : Int32) (v7_holes : Int32) (v7_worms : Int32) (f7_ages : Nat → Int32) (sz : Nat) (i1 : Rg 0 8 v7_count) (i2 : Rg 0 40 v7_holes) (i3 : Rg 0 40 v7_worms) : Met l yX7_youngest wsX7_youngest ({ frames := 1, cells := 0, slots := 0, locals := 21 } : Room) (PcK D κ β [O7 a7 r7 v7_count v7_holes v7_worms, (cI κ (r7 0) 8 f7_ages)] sz [.ref a7]) (QiK D (fun (r : Int32) (u : Unit) => True) (fun (u : Unit) => [O7 a7 r7 v7_count v7_holes v7_worms, (cI κ (r7 0) 8 f7_ages)]) [O7 a7 r7 v7_count v7_holes v7_worms, (cI κ (r7 0) 8 f7_ages)] sz) 0 0 (va_A [O7 a7 r7 v7_count v7_holes v7_worms, (cI κ (r7 0) 8 f7_ages)] sz) := by
  refine ofK_i (cc := cX7_youngest) (maxL := 3) (own := RX7) (by decide) rfl rfl (Nat.le_of_ble_eq_true rfl) ?_
  intro p e s m args below meth c Q A ls hsz hx hb hml hts hown hK hA hAB hP hD hl ret
  have hS : va_S A s.heap s.heap [] := va_S.rf
  have hl : lv_has ls 3 [(0, .ref a7)] := hl
  have w0 := hts (.fieldLink RX7 30 "OlderSkin$Sheets" "count" "I") (List.mem_of_getElem? (i := 1) rfl)
  have w1 := (fun w h => List.mem_cons_of_mem _ (List.mem_append_right _ h) : ∀ w ∈ u_ws RX7 TX7 9, w ∈ wsX7_youngest)
  have w2 := hts (.fieldLink RX7 9 "OlderSkin$Sheets" "ages" "[I") (List.mem_of_getElem? (i := 2) rfl)
  have w3 := hts (.methodLink RX7 44 Lib.Math.max.name) (List.mem_of_getElem? (i := 3) rfl)
  have w4 := hts (.static Lib.Math.max.name) (List.mem_of_getElem? (i := 4) rfl)
  have w5 := hts (.initialized "java/lang/Math") (List.mem_of_getElem? (i := 5) rfl)
  have w6 := hts (.code Lib.Math.max.name Lib.Math.max.code 2 (some .int)) (List.mem_of_getElem? (i := 6) rfl)
  have l0 : (0 : Int32).toInt = 0 := by decide
  have l1 : (1 : Int32).toInt = 1 := by decide
  have i1 : 0 ≤ v7_count.toInt ∧ v7_count.toInt ≤ 8 := i1
  refine lv_iconst (v := 0) hx hb dX7_youngest_0 (by decide) ?_
  refine lv_istore_n (lv' := [(1, .int 0), (0, .ref a7)]) hx hb dX7_youngest_1 rfl hl (by decide) rfl (fun ls hl => ?_)
  refine lv_iconst (v := 0) hx hb dX7_youngest_2 (by decide) ?_
  refine lv_istore_n (lv' := [(2, .int 0), (1, .int 0), (0, .ref a7)]) hx hb dX7_youngest_3 rfl hl (by decide) rfl (fun ls hl => ?_)
  have lp4 : ∀ (n4 : Nat) (k1 : Int32) (k2 : Int32), (0 ≤ k1.toInt) → (v7_count.toInt - k1.toInt).toNat < n4 → ∀ (H : Heap) (locs : List Loc), va_P D vwCl [O7 a7 r7 v7_count v7_holes v7_worms, (cI κ (r7 0) 8 f7_ages)] H → va_D A [O7 a7 r7 v7_count v7_holes v7_worms, (cI κ (r7 0) 8 f7_ages)] → va_S A s.heap H locs → ∀ ls : Array Slot, lv_has ls 3 [(2, .int k1), (1, .int k2), (0, .ref a7)] → W p l e ({ frames := 1, cells := 0, slots := 0, locals := 21 } : Room) s m args below meth c H locs 0 0 Q (F0 m 4 ls []) := by
    intro n4
    induction n4 with
    | zero =>
      intro k1 k2 h3 m4
      exact absurd m4 (Nat.not_lt_zero _)
    | succ n4 ih4 =>
      intro k1 k2 h3 m4 H locs hP hD hS ls hl
      refine lv_iload_n hx hb dX7_youngest_4 rfl (lv_at hl 0 rfl) ?_
      refine lv_aload_n hx hb dX7_youngest_5 rfl (lv_at hl 2 rfl) ?_
      refine va_get (D := D) (ci := 7) (v := .int v7_count) (C := RX7) (T := TX7) (N := 9) hx hb hts w1 hown hK.1 hP 0 rfl rfl 1 (by decide) w0 (fun _ h9 => h9) rfl dX7_youngest_6 ?_
      refine lv_icmp_ge (tgt := 29) hx hb dX7_youngest_9 (by decide) (fun c5 => ?_) (fun c5 => ?_)
      · have c5 := ci_le c5
        refine lv_iload_n hx hb dX7_youngest_29 rfl (lv_at hl 1 rfl) ?_
        exact ret _ _ _ _ k2 () dX7_youngest_30 trivial hP hD hS
      have c5 := ci_nle c5
      refine lv_iload_n hx hb dX7_youngest_12 rfl (lv_at hl 1 rfl) ?_
      refine lv_aload_n hx hb dX7_youngest_13 rfl (lv_at hl 2 rfl) ?_
      refine va_get (D := D) (ci := 7) (v := .ref (r7 0)) (C := RX7) (T := TX7) (N := 9) hx hb hts w1 hown hK.1 hP 0 rfl rfl 0 (by decide) w2 (fun _ h9 => h9) rfl dX7_youngest_14 ?_
      refine lv_iload_n hx hb dX7_youngest_17 rfl (lv_at hl 0 rfl) ?_
      refine va_iald hx hb hK.1 hP 1 1 rfl rfl (i := k1) (ix (by omega) (by omega)) dX7_youngest_18 ?_
      refine lv_topi (fun x6 e7 => ?_)
      refine va_mmax hx hb (hml.trans hl.1.symm) hown w3 w4 w5 w6 (Nat.le_of_ble_eq_true rfl) (Nat.le_of_ble_eq_true rfl) (Nat.le_of_ble_eq_true rfl) (Nat.le_of_ble_eq_true rfl) dX7_youngest_19 ?_
      refine lv_topi (fun x8 e9 => ?_)
      have h10 := ci_max e9
      refine lv_istore_n (lv' := [(1, .int x8), (2, .int k1), (0, .ref a7)]) hx hb dX7_youngest_22 rfl hl (by decide) rfl (fun ls hl => ?_)
      obtain ⟨x11, e12⟩ : ∃ y : Int32, y = k1 + 1 := ⟨_, rfl⟩
      refine lv_iinc (v := x11) (lv' := [(2, .int x11), (1, .int x8), (0, .ref a7)]) hx hb dX7_youngest_23 hl (k := 1) rfl (by rw [e12]; rfl) (by decide) rfl (fun ls hl => ?_)
      try have h13 : x11.toInt = k1.toInt + (1 : Int32).toInt := ci_add e12 (by omega) (by omega)
      refine lv_goto (tgt := 4) hx hb dX7_youngest_26 (by decide) ?_
      exact ih4 x11 x8 (by omega) (by omega) _ _ hP hD hS _ hl
  exact lp4 ((v7_count.toInt - (0 : Int32).toInt).toNat + 1) 0 0 (by omega) (by omega) _ _ hP hD hS _ hl
set_option maxHeartbeats 4000000 in
set_option maxRecDepth 100000 in
theorem k_X7_findWorms_all (l : Launch) (D : va_G) (κ : Nat → ClassId) (β : Nat) (a7 : Nat) (r7 : Nat → Nat) (v7_count : Int32) (v7_holes : Int32) (v7_worms : Int32) (f7_sheetOf : Nat → Int32) (f7_placeOf : Nat → Int32) (f7_byPlace : Nat → Int32) (f7_wormOf : Nat → Int32) (f7_wormSheets : Nat → Int32) (sz : Nat) (p1 : Int32) (p2 : Int32) (i1 : Rg 0 8 v7_count) (i2 : Rg 0 40 v7_holes) (i3 : Rg 0 40 v7_worms) (hf7_sheetOf : ∀ j : Nat, 0 ≤ (f7_sheetOf j).toInt ∧ (f7_sheetOf j).toInt ≤ 7) (hf7_placeOf : ∀ j : Nat, 0 ≤ (f7_placeOf j).toInt ∧ (f7_placeOf j).toInt ≤ 999) (hf7_byPlace : ∀ j : Nat, 0 ≤ (f7_byPlace j).toInt ∧ (f7_byPlace j).toInt ≤ 39) (hf7_wormOf : ∀ j : Nat, 0 ≤ (f7_wormOf j).toInt ∧ (f7_wormOf j).toInt ≤ 39) (hpa0 : f7_byPlace = srt f7_placeOf v7_holes.toInt.toNat) (hpa1 : ∀ j : Nat, (j : Int) < v7_holes.toInt → (f7_sheetOf j).toInt < v7_count.toInt) (hpa2 : p2 = allB v7_count) : Met l yX7_findWorms wsX7_findWorms ({ frames := 0, cells := 0, slots := 0, locals := 0 } : Room) (PcK D κ β [O7 a7 r7 v7_count v7_holes v7_worms, (cI κ (r7 2) 40 f7_sheetOf), (cI κ (r7 3) 40 f7_placeOf), (cI κ (r7 4) 40 f7_byPlace), (cI κ (r7 6) 40 f7_wormOf), (cI κ (r7 7) 40 f7_wormSheets)] sz [.ref a7, .int p1, .int p2]) (QvK D (fun (u : Int32 × (Nat → Int32) × (Nat → Int32)) => (0 ≤ u.1.toInt ∧ u.1.toInt ≤ 40) ∧ (∀ j : Nat, 0 ≤ (u.2.1 j).toInt ∧ (u.2.1 j).toInt ≤ 39) ∧ (WInv (srt f7_placeOf v7_holes.toInt.toNat) f7_sheetOf f7_placeOf p1.toInt v7_holes.toInt.toNat u.1 u.2.2 u.2.1)) (fun (u : Int32 × (Nat → Int32) × (Nat → Int32)) => [O7 a7 r7 v7_count v7_holes u.1, (cI κ (r7 2) 40 f7_sheetOf), (cI κ (r7 3) 40 f7_placeOf), (cI κ (r7 4) 40 f7_byPlace), (cI κ (r7 6) 40 u.2.1), (cI κ (r7 7) 40 u.2.2)]) [O7 a7 r7 v7_count v7_holes v7_worms, (cI κ (r7 2) 40 f7_sheetOf), (cI κ (r7 3) 40 f7_placeOf), (cI κ (r7 4) 40 f7_byPlace), (cI κ (r7 6) 40 f7_wormOf), (cI κ (r7 7) 40 f7_wormSheets)] sz) 0 0 (va_A [O7 a7 r7 v7_count v7_holes v7_worms, (cI κ (r7 2) 40 f7_sheetOf), (cI κ (r7 3) 40 f7_placeOf), (cI κ (r7 4) 40 f7_byPlace), (cI κ (r7 6) 40 f7_wormOf), (cI κ (r7 7) 40 f7_wormSheets)] sz) := by
  refine ofK_v (cc := cX7_findWorms) (maxL := 7) (own := RX7) (by decide) rfl rfl (Nat.le_of_ble_eq_true rfl) ?_
  intro p e s m args below meth c Q A ls hsz hx hb hml hts hown hK hA hAB hP hD hl hname ret
  have hS : va_S A s.heap s.heap [] := va_S.rf
  have hl : lv_has ls 7 [(0, .ref a7), (1, .int p1), (2, .int p2)] := hl
  have w0 := hts (.fieldLink RX7 41 "OlderSkin$Sheets" "worms" "I") (List.mem_of_getElem? (i := 1) rfl)
  have w1 := (fun w h => List.mem_cons_of_mem _ (List.mem_append_right _ h) : ∀ w ∈ u_ws RX7 TX7 9, w ∈ wsX7_findWorms)
  have w2 := hts (.fieldLink RX7 38 "OlderSkin$Sheets" "holes" "I") (List.mem_of_getElem? (i := 2) rfl)
  have w3 := hts (.fieldLink RX7 21 "OlderSkin$Sheets" "byPlace" "[I") (List.mem_of_getElem? (i := 3) rfl)
  have w4 := hts (.fieldLink RX7 15 "OlderSkin$Sheets" "sheetOf" "[I") (List.mem_of_getElem? (i := 4) rfl)
  have w5 := hts (.fieldLink RX7 27 "OlderSkin$Sheets" "wormSheets" "[I") (List.mem_of_getElem? (i := 6) rfl)
  have w6 := hts (.fieldLink RX7 24 "OlderSkin$Sheets" "wormOf" "[I") (List.mem_of_getElem? (i := 7) rfl)
  have w7 := hts (.fieldLink RX7 18 "OlderSkin$Sheets" "placeOf" "[I") (List.mem_of_getElem? (i := 5) rfl)
  have l0 : (0 : Int32).toInt = 0 := by decide
  have l1 : ((-1) : Int32).toInt = -1 := by decide
  have l2 : (1 : Int32).toInt = 1 := by decide
  have i1 : 0 ≤ v7_count.toInt ∧ v7_count.toInt ≤ 8 := i1
  have i2 : 0 ≤ v7_holes.toInt ∧ v7_holes.toInt ≤ 40 := i2
  have i3 : 0 ≤ v7_worms.toInt ∧ v7_worms.toInt ≤ 40 := i3
  refine lv_aload_n hx hb dX7_findWorms_0 rfl (lv_at hl 0 rfl) ?_
  refine lv_iconst (v := 0) hx hb dX7_findWorms_1 (by decide) ?_
  refine va_put (D := D) (ci := 7) (v := .int 0) (ty := .int) (C := RX7) (T := TX7) (N := 9) hx hb hts w1 tyX7 tyX7_ok nmX7 hown hK.1 hP hD hS 0 rfl rfl 8 (by decide) w0 (fun _ h9 => h9) rfl (by decide +kernel) rfl rfl (Nat.le_of_ble_eq_true rfl) dX7_findWorms_2 (fun H locs hP hD hS => ?_)
  obtain ⟨hP, hD⟩ : PD D A [O7 a7 r7 v7_count v7_holes 0, (cI κ (r7 2) 40 f7_sheetOf), (cI κ (r7 3) 40 f7_placeOf), (cI κ (r7 4) 40 f7_byPlace), (cI κ (r7 6) 40 f7_wormOf), (cI κ (r7 7) 40 f7_wormSheets)] H := ⟨hP, hD⟩
  have h1 : 0 ≤ (0 : Int32).toInt ∧ (0 : Int32).toInt ≤ 40 := by omega
  refine lv_iconst (v := (-1)) hx hb dX7_findWorms_5 (by decide) ?_
  refine lv_istore_n (lv' := [(3, .int (-1)), (0, .ref a7), (1, .int p1), (2, .int p2)]) hx hb dX7_findWorms_6 rfl hl (by decide) rfl (fun ls hl => ?_)
  refine lv_iconst (v := 0) hx hb dX7_findWorms_7 (by decide) ?_
  refine lv_istore (lv' := [(4, .int 0), (3, .int (-1)), (0, .ref a7), (1, .int p1), (2, .int p2)]) hx hb dX7_findWorms_8 hl (by decide) rfl (fun ls hl => ?_)
  have lp10 : ∀ (n10 : Nat) (k2 : Int32) (k3 : Int32) (v4 : Int32) (g5 : Nat → Int32) (g7 : Nat → Int32), (0 ≤ v4.toInt ∧ v4.toInt ≤ 40) → (∀ j : Nat, 0 ≤ (g5 j).toInt ∧ (g5 j).toInt ≤ 39) → (0 ≤ k2.toInt) → (-1 ≤ k3.toInt ∧ k3.toInt ≤ 39) → (v4.toInt ≤ k2.toInt) → (k3.toInt < 0 ∨ 1 ≤ v4.toInt) → (k2.toInt ≤ v7_holes.toInt) → ((k2.toInt = 0 ∧ k3.toInt = -1) ∨ (0 < k2.toInt ∧ k3 = f7_byPlace (k2.toInt - 1).toNat)) → (WInv f7_byPlace f7_sheetOf f7_placeOf p1.toInt k2.toInt.toNat v4 g7 g5) → (v7_holes.toInt - k2.toInt).toNat < n10 → ∀ (H : Heap) (locs : List Loc), va_P D vwCl [O7 a7 r7 v7_count v7_holes v4, (cI κ (r7 2) 40 f7_sheetOf), (cI κ (r7 3) 40 f7_placeOf), (cI κ (r7 4) 40 f7_byPlace), (cI κ (r7 6) 40 g5), (cI κ (r7 7) 40 g7)] H → va_D A [O7 a7 r7 v7_count v7_holes v4, (cI κ (r7 2) 40 f7_sheetOf), (cI κ (r7 3) 40 f7_placeOf), (cI κ (r7 4) 40 f7_byPlace), (cI κ (r7 6) 40 g5), (cI κ (r7 7) 40 g7)] → va_S A s.heap H locs → ∀ ls : Array Slot, lv_has ls 7 [(4, .int k2), (3, .int k3), (0, .ref a7), (1, .int p1), (2, .int p2)] → W p l e ({ frames := 0, cells := 0, slots := 0, locals := 0 } : Room) s m args below meth c H locs 0 0 Q (F0 m 10 ls []) := by
    intro n10
    induction n10 with
    | zero =>
      intro k2 k3 v4 g5 g7 h8 h6 h9 h10 h11 h12 h13 h14 h15 m16
      exact absurd m16 (Nat.not_lt_zero _)
    | succ n10 ih10 =>
      intro k2 k3 v4 g5 g7 h8 h6 h9 h10 h11 h12 h13 h14 h15 m16 H locs hP hD hS ls hl
      have hTA : (k2.toInt = 0 ∧ k3.toInt = -1) ∨ (0 < k2.toInt ∧ k3 = f7_byPlace (k2.toInt - 1).toNat) := by assumption
      have hTA0 : k2.toInt = 0 ∨ 0 ≤ k3.toInt := by rcases hTA with h9 | h9; exact Or.inl h9.1; exact Or.inr (by rw [h9.2]; exact (hf7_byPlace _).1)
      have hTW : WInv f7_byPlace f7_sheetOf f7_placeOf p1.toInt k2.toInt.toNat v4 g7 g5 := by assumption
      refine lv_iload hx hb dX7_findWorms_10 (lv_at hl 0 rfl) ?_
      refine lv_aload_n hx hb dX7_findWorms_12 rfl (lv_at hl 2 rfl) ?_
      refine va_get (D := D) (ci := 7) (v := .int v7_holes) (C := RX7) (T := TX7) (N := 9) hx hb hts w1 hown hK.1 hP 0 rfl rfl 5 (by decide) w2 (fun _ h9 => h9) rfl dX7_findWorms_13 ?_
      refine lv_icmp_ge (tgt := 146) hx hb dX7_findWorms_16 (by decide) (fun c17 => ?_) (fun c17 => ?_)
      · have c17 := ci_le c17
        have hpo : (0 ≤ v4.toInt ∧ v4.toInt ≤ 40) ∧ (∀ j : Nat, 0 ≤ (g5 j).toInt ∧ (g5 j).toInt ≤ 39) ∧ (WInv (srt f7_placeOf v7_holes.toInt.toNat) f7_sheetOf f7_placeOf p1.toInt v7_holes.toInt.toNat v4 g7 g5) := ⟨h8, h6, (by rw [← hpa0, ← (show k2.toInt.toNat = v7_holes.toInt.toNat from by omega)]; assumption)⟩
        exact ret _ _ _ _ (v4, g5, g7) dX7_findWorms_146 hpo hP hD hS
      have c17 := ci_nle c17
      refine lv_aload_n hx hb dX7_findWorms_19 rfl (lv_at hl 2 rfl) ?_
      refine va_get (D := D) (ci := 7) (v := .ref (r7 4)) (C := RX7) (T := TX7) (N := 9) hx hb hts w1 hown hK.1 hP 0 rfl rfl 4 (by decide) w3 (fun _ h9 => h9) rfl dX7_findWorms_20 ?_
      refine lv_iload hx hb dX7_findWorms_23 (lv_at hl 0 rfl) ?_
      refine va_iald hx hb hK.1 hP 3 1 rfl rfl (i := k2) (ix (by omega) (by omega)) dX7_findWorms_25 ?_
      refine lv_topi (fun x18 e19 => ?_)
      have h20 : 0 ≤ x18.toInt ∧ x18.toInt ≤ 39 := by rw [e19]; exact hf7_byPlace _
      have hho := e19
      refine lv_istore (lv' := [(5, .int x18), (4, .int k2), (3, .int k3), (0, .ref a7), (1, .int p1), (2, .int p2)]) hx hb dX7_findWorms_26 hl (by decide) rfl (fun ls hl => ?_)
      refine lv_iconst (v := 1) hx hb dX7_findWorms_28 (by decide) ?_
      refine lv_aload_n hx hb dX7_findWorms_29 rfl (lv_at hl 3 rfl) ?_
      refine va_get (D := D) (ci := 7) (v := .ref (r7 2)) (C := RX7) (T := TX7) (N := 9) hx hb hts w1 hown hK.1 hP 0 rfl rfl 2 (by decide) w4 (fun _ h9 => h9) rfl dX7_findWorms_30 ?_
      refine lv_iload hx hb dX7_findWorms_33 (lv_at hl 0 rfl) ?_
      refine va_iald hx hb hK.1 hP 1 1 rfl rfl (i := x18) (ix (by omega) (by omega)) dX7_findWorms_35 ?_
      refine lv_topi (fun x21 e22 => ?_)
      have h23 : 0 ≤ x21.toInt ∧ x21.toInt ≤ 7 := by rw [e22]; exact hf7_sheetOf _
      have hx9 := e22
      have hx8 : 0 ≤ (f7_sheetOf (f7_byPlace k2.toNatClampNeg).toNatClampNeg).toInt := by rw [← hho, ← hx9]; omega
      have hx7 := sb_of hpa0 hpa1 (by omega) k2.toNatClampNeg (by have h9 := ci_clamp (i := k2) (by omega); omega)
      refine lv_ishl hx hb dX7_findWorms_36 ?_
      refine lv_topi (fun x24 e25 => ?_)
      have hbt : x24 = bitW (f7_sheetOf (f7_byPlace k2.toNatClampNeg).toNatClampNeg) := by unfold bitW; rw [e25, hx9, hho]
      refine lv_istore (lv' := [(6, .int x24), (5, .int x18), (4, .int k2), (3, .int k3), (0, .ref a7), (1, .int p1), (2, .int p2)]) hx hb dX7_findWorms_37 hl (by decide) rfl (fun ls hl => ?_)
      refine lv_iload_n hx hb dX7_findWorms_39 rfl (lv_at hl 6 rfl) ?_
      refine lv_iload hx hb dX7_findWorms_40 (lv_at hl 0 rfl) ?_
      refine lv_iand hx hb dX7_findWorms_42 ?_
      refine lv_topi (fun x26 e27 => ?_)
      have hne9 : x26.toInt ≠ 0 := by rw [e27, hbt, hpa2]; exact all_bit hx8 hx7 (by omega)
      refine lv_if_ne (tgt := 49) hx hb dX7_findWorms_43 (by decide) (fun c28 => ?_) (fun c28 => ?_)
      · have c28 := ci_ne c28
        refine lv_iload_n hx hb dX7_findWorms_49 rfl (lv_at hl 3 rfl) ?_
        refine lv_if_lt (tgt := 88) hx hb dX7_findWorms_50 (by decide) (fun c29 => ?_) (fun c29 => ?_)
        · have c29 := ci_lt c29
          have hnw : k2.toInt = 0 ∨ p1.toInt < (f7_placeOf (f7_byPlace k2.toNatClampNeg).toNatClampNeg).toInt - (f7_placeOf (f7_byPlace (k2.toInt - 1).toNat).toNatClampNeg).toInt ∨ (0 < k2.toInt ∧ (g7 (v4.toInt - 1).toNat &&& x24).toInt ≠ 0) := by first | exact Or.inl (by omega) | exact Or.inr (Or.inl (by omega)) | exact Or.inr (Or.inr ⟨by omega, by omega⟩)
          refine lv_aload_n hx hb dX7_findWorms_88 rfl (lv_at hl 4 rfl) ?_
          refine va_get (D := D) (ci := 7) (v := .ref (r7 7)) (C := RX7) (T := TX7) (N := 9) hx hb hts w1 hown hK.1 hP 0 rfl rfl 7 (by decide) w5 (fun _ h9 => h9) rfl dX7_findWorms_89 ?_
          refine lv_aload_n hx hb dX7_findWorms_92 rfl (lv_at hl 4 rfl) ?_
          refine va_get (D := D) (ci := 7) (v := .int v4) (C := RX7) (T := TX7) (N := 9) hx hb hts w1 hown hK.1 hP 0 rfl rfl 8 (by decide) w0 (fun _ h9 => h9) rfl dX7_findWorms_93 ?_
          refine lv_iconst (v := 0) hx hb dX7_findWorms_96 (by decide) ?_
          refine va_iast hx hb hK.1 hP hD hS 5 1 rfl rfl (i := v4) (ix (by omega) (by omega)) dX7_findWorms_97 (fun H locs hP hD hS => ?_)
          obtain ⟨g30, e31⟩ : ∃ y : Nat → Int32, y = upd g7 v4.toNatClampNeg 0 := ⟨_, rfl⟩
          rw [← e31] at hP hD
          obtain ⟨hP, hD⟩ : PD D A [O7 a7 r7 v7_count v7_holes v4, (cI κ (r7 2) 40 f7_sheetOf), (cI κ (r7 3) 40 f7_placeOf), (cI κ (r7 4) 40 f7_byPlace), (cI κ (r7 6) 40 g5), (cI κ (r7 7) 40 g30)] H := ⟨hP, hD⟩
          have hs1 := e31
          refine lv_aload_n hx hb dX7_findWorms_98 rfl (lv_at hl 4 rfl) ?_
          refine lv_dup hx hb dX7_findWorms_99 rfl ?_
          refine va_get (D := D) (ci := 7) (v := .int v4) (C := RX7) (T := TX7) (N := 9) hx hb hts w1 hown hK.1 hP 0 rfl rfl 8 (by decide) w0 (fun _ h9 => h9) rfl dX7_findWorms_100 ?_
          refine lv_iconst (v := 1) hx hb dX7_findWorms_103 (by decide) ?_
          refine lv_iadd hx hb dX7_findWorms_104 ?_
          refine lv_topi (fun x32 e33 => ?_)
          try have h34 : x32.toInt = v4.toInt + (1 : Int32).toInt := ci_add e33 (by omega) (by omega)
          refine va_put (D := D) (ci := 7) (v := .int x32) (ty := .int) (C := RX7) (T := TX7) (N := 9) hx hb hts w1 tyX7 tyX7_ok nmX7 hown hK.1 hP hD hS 0 rfl rfl 8 (by decide) w0 (fun _ h9 => h9) rfl (by decide +kernel) rfl rfl (Nat.le_of_ble_eq_true rfl) dX7_findWorms_105 (fun H locs hP hD hS => ?_)
          obtain ⟨hP, hD⟩ : PD D A [O7 a7 r7 v7_count v7_holes x32, (cI κ (r7 2) 40 f7_sheetOf), (cI κ (r7 3) 40 f7_placeOf), (cI κ (r7 4) 40 f7_byPlace), (cI κ (r7 6) 40 g5), (cI κ (r7 7) 40 g30)] H := ⟨hP, hD⟩
          have h35 : 0 ≤ x32.toInt ∧ x32.toInt ≤ 40 := by omega
          refine lv_aload_n hx hb dX7_findWorms_108 rfl (lv_at hl 4 rfl) ?_
          refine va_get (D := D) (ci := 7) (v := .ref (r7 7)) (C := RX7) (T := TX7) (N := 9) hx hb hts w1 hown hK.1 hP 0 rfl rfl 7 (by decide) w5 (fun _ h9 => h9) rfl dX7_findWorms_109 ?_
          refine lv_aload_n hx hb dX7_findWorms_112 rfl (lv_at hl 4 rfl) ?_
          refine va_get (D := D) (ci := 7) (v := .int x32) (C := RX7) (T := TX7) (N := 9) hx hb hts w1 hown hK.1 hP 0 rfl rfl 8 (by decide) w0 (fun _ h9 => h9) rfl dX7_findWorms_113 ?_
          refine lv_iconst (v := 1) hx hb dX7_findWorms_116 (by decide) ?_
          refine lv_isub hx hb dX7_findWorms_117 ?_
          refine lv_topi (fun x36 e37 => ?_)
          try have h38 : x36.toInt = x32.toInt - (1 : Int32).toInt := ci_sub e37 (by omega) (by omega)
          refine lv_dup2_11 hx hb dX7_findWorms_118 rfl rfl ?_
          refine va_iald hx hb hK.1 hP 5 1 rfl rfl (i := x36) (ix (by omega) (by omega)) dX7_findWorms_119 ?_
          refine lv_topi (fun x39 e40 => ?_)
          have hy9 := e40
          try rw [hs1] at hy9
          refine lv_iload hx hb dX7_findWorms_120 (lv_at hl 0 rfl) ?_
          refine lv_ior hx hb dX7_findWorms_122 ?_
          refine lv_topi (fun x41 e42 => ?_)
          have hz9 := e42
          refine va_iast hx hb hK.1 hP hD hS 5 1 rfl rfl (i := x36) (ix (by omega) (by omega)) dX7_findWorms_123 (fun H locs hP hD hS => ?_)
          obtain ⟨g43, e44⟩ : ∃ y : Nat → Int32, y = upd g30 x36.toNatClampNeg x41 := ⟨_, rfl⟩
          rw [← e44] at hP hD
          obtain ⟨hP, hD⟩ : PD D A [O7 a7 r7 v7_count v7_holes x32, (cI κ (r7 2) 40 f7_sheetOf), (cI κ (r7 3) 40 f7_placeOf), (cI κ (r7 4) 40 f7_byPlace), (cI κ (r7 6) 40 g5), (cI κ (r7 7) 40 g43)] H := ⟨hP, hD⟩
          have hs2 := e44
          try rw [hs1] at hs2
          refine lv_aload_n hx hb dX7_findWorms_124 rfl (lv_at hl 4 rfl) ?_
          refine va_get (D := D) (ci := 7) (v := .ref (r7 6)) (C := RX7) (T := TX7) (N := 9) hx hb hts w1 hown hK.1 hP 0 rfl rfl 6 (by decide) w6 (fun _ h9 => h9) rfl dX7_findWorms_125 ?_
          refine lv_iload hx hb dX7_findWorms_128 (lv_at hl 1 rfl) ?_
          refine lv_aload_n hx hb dX7_findWorms_130 rfl (lv_at hl 4 rfl) ?_
          refine va_get (D := D) (ci := 7) (v := .int x32) (C := RX7) (T := TX7) (N := 9) hx hb hts w1 hown hK.1 hP 0 rfl rfl 8 (by decide) w0 (fun _ h9 => h9) rfl dX7_findWorms_131 ?_
          refine lv_iconst (v := 1) hx hb dX7_findWorms_134 (by decide) ?_
          refine lv_isub hx hb dX7_findWorms_135 ?_
          refine lv_topi (fun x45 e46 => ?_)
          try have h47 : x45.toInt = x32.toInt - (1 : Int32).toInt := ci_sub e46 (by omega) (by omega)
          refine va_iast hx hb hK.1 hP hD hS 4 1 rfl rfl (i := x18) (ix (by omega) (by omega)) dX7_findWorms_136 (fun H locs hP hD hS => ?_)
          obtain ⟨g48, e49⟩ : ∃ y : Nat → Int32, y = upd g5 x18.toNatClampNeg x45 := ⟨_, rfl⟩
          rw [← e49] at hP hD
          obtain ⟨hP, hD⟩ : PD D A [O7 a7 r7 v7_count v7_holes x32, (cI κ (r7 2) 40 f7_sheetOf), (cI κ (r7 3) 40 f7_placeOf), (cI κ (r7 4) 40 f7_byPlace), (cI κ (r7 6) 40 g48), (cI κ (r7 7) 40 g43)] H := ⟨hP, hD⟩
          have h50 : ∀ j : Nat, 0 ≤ (g48 j).toInt ∧ (g48 j).toInt ≤ 39 := by rw [e49]; exact all_upd (P := fun z => 0 ≤ z.toInt ∧ z.toInt ≤ 39) h6 (by omega)
          have hs3 := e49
          refine lv_iload hx hb dX7_findWorms_137 (lv_at hl 1 rfl) ?_
          refine lv_istore_n (lv' := [(3, .int x18), (6, .int x24), (5, .int x18), (4, .int k2), (0, .ref a7), (1, .int p1), (2, .int p2)]) hx hb dX7_findWorms_139 rfl hl (by decide) rfl (fun ls hl => ?_)
          obtain ⟨x51, e52⟩ : ∃ y : Int32, y = k2 + 1 := ⟨_, rfl⟩
          refine lv_iinc (v := x51) (lv' := [(4, .int x51), (3, .int x18), (6, .int x24), (5, .int x18), (0, .ref a7), (1, .int p1), (2, .int p2)]) hx hb dX7_findWorms_140 hl (k := 3) rfl (by rw [e52]; rfl) (by decide) rfl (fun ls hl => ?_)
          try have h53 : x51.toInt = k2.toInt + (1 : Int32).toInt := ci_add e52 (by omega) (by omega)
          refine lv_goto (tgt := 10) hx hb dX7_findWorms_143 (by decide) ?_
          exact ih10 x51 x18 x32 g48 g43 h35 h50 (by omega) (by omega) (by omega) (by omega) (by omega) (by first | exact Or.inl ⟨by omega, by omega⟩ | exact Or.inr ⟨by omega, ta_next hho (by omega)⟩) (by first | exact wi_start (by omega) (by omega) | exact wi_new hTW (by omega) (by omega) (by omega) hnw (by omega) hs2 (by omega) hy9 hz9 hbt hs3 (by rw [hho]) (by omega) | exact wi_old hTW (by omega) (by omega) (by omega) (by omega) (by omega) (by omega) hs2 (by omega) hy9 hz9 hbt hs3 (by rw [hho]) (by omega)) (by omega) _ _ hP hD hS _ (lv_sub hl [0, 1, 4, 5, 6] rfl)
        have c29 := ci_nlt c29
        refine lv_aload_n hx hb dX7_findWorms_53 rfl (lv_at hl 4 rfl) ?_
        refine va_get (D := D) (ci := 7) (v := .ref (r7 3)) (C := RX7) (T := TX7) (N := 9) hx hb hts w1 hown hK.1 hP 0 rfl rfl 3 (by decide) w7 (fun _ h9 => h9) rfl dX7_findWorms_54 ?_
        refine lv_iload hx hb dX7_findWorms_57 (lv_at hl 1 rfl) ?_
        refine va_iald hx hb hK.1 hP 2 1 rfl rfl (i := x18) (ix (by omega) (by omega)) dX7_findWorms_59 ?_
        refine lv_topi (fun x54 e55 => ?_)
        have h56 : 0 ≤ x54.toInt ∧ x54.toInt ≤ 999 := by rw [e55]; exact hf7_placeOf _
        have hp1 : x54.toInt = (f7_placeOf (f7_byPlace k2.toNatClampNeg).toNatClampNeg).toInt := by rw [e55, hho]
        have hta9 : k3 = f7_byPlace (k2.toInt - 1).toNat := by rcases hTA with h9 | h9; exact absurd h9.2 (by omega); exact h9.2
        have hk0 : 0 < k2.toInt := by rcases hTA with h9 | h9; exact absurd h9.2 (by omega); exact h9.1
        refine lv_aload_n hx hb dX7_findWorms_60 rfl (lv_at hl 4 rfl) ?_
        refine va_get (D := D) (ci := 7) (v := .ref (r7 3)) (C := RX7) (T := TX7) (N := 9) hx hb hts w1 hown hK.1 hP 0 rfl rfl 3 (by decide) w7 (fun _ h9 => h9) rfl dX7_findWorms_61 ?_
        refine lv_iload_n hx hb dX7_findWorms_64 rfl (lv_at hl 3 rfl) ?_
        refine va_iald hx hb hK.1 hP 2 1 rfl rfl (i := k3) (ix (by omega) (by omega)) dX7_findWorms_65 ?_
        refine lv_topi (fun x57 e58 => ?_)
        have h59 : 0 ≤ x57.toInt ∧ x57.toInt ≤ 999 := by rw [e58]; exact hf7_placeOf _
        have hp2 : x57.toInt = (f7_placeOf (f7_byPlace (k2.toInt - 1).toNat).toNatClampNeg).toInt := by rw [e58, hta9]
        refine lv_isub hx hb dX7_findWorms_66 ?_
        refine lv_topi (fun x60 e61 => ?_)
        try have h62 : x60.toInt = x54.toInt - x57.toInt := ci_sub e61 (by omega) (by omega)
        refine lv_iload_n hx hb dX7_findWorms_67 rfl (lv_at hl 5 rfl) ?_
        refine lv_icmp_gt (tgt := 88) hx hb dX7_findWorms_68 (by decide) (fun c63 => ?_) (fun c63 => ?_)
        · have c63 := ci_lt c63
          have hnw : k2.toInt = 0 ∨ p1.toInt < (f7_placeOf (f7_byPlace k2.toNatClampNeg).toNatClampNeg).toInt - (f7_placeOf (f7_byPlace (k2.toInt - 1).toNat).toNatClampNeg).toInt ∨ (0 < k2.toInt ∧ (g7 (v4.toInt - 1).toNat &&& x24).toInt ≠ 0) := by first | exact Or.inl (by omega) | exact Or.inr (Or.inl (by omega)) | exact Or.inr (Or.inr ⟨by omega, by omega⟩)
          refine lv_aload_n hx hb dX7_findWorms_88 rfl (lv_at hl 4 rfl) ?_
          refine va_get (D := D) (ci := 7) (v := .ref (r7 7)) (C := RX7) (T := TX7) (N := 9) hx hb hts w1 hown hK.1 hP 0 rfl rfl 7 (by decide) w5 (fun _ h9 => h9) rfl dX7_findWorms_89 ?_
          refine lv_aload_n hx hb dX7_findWorms_92 rfl (lv_at hl 4 rfl) ?_
          refine va_get (D := D) (ci := 7) (v := .int v4) (C := RX7) (T := TX7) (N := 9) hx hb hts w1 hown hK.1 hP 0 rfl rfl 8 (by decide) w0 (fun _ h9 => h9) rfl dX7_findWorms_93 ?_
          refine lv_iconst (v := 0) hx hb dX7_findWorms_96 (by decide) ?_
          refine va_iast hx hb hK.1 hP hD hS 5 1 rfl rfl (i := v4) (ix (by omega) (by omega)) dX7_findWorms_97 (fun H locs hP hD hS => ?_)
          obtain ⟨g64, e65⟩ : ∃ y : Nat → Int32, y = upd g7 v4.toNatClampNeg 0 := ⟨_, rfl⟩
          rw [← e65] at hP hD
          obtain ⟨hP, hD⟩ : PD D A [O7 a7 r7 v7_count v7_holes v4, (cI κ (r7 2) 40 f7_sheetOf), (cI κ (r7 3) 40 f7_placeOf), (cI κ (r7 4) 40 f7_byPlace), (cI κ (r7 6) 40 g5), (cI κ (r7 7) 40 g64)] H := ⟨hP, hD⟩
          have hs1 := e65
          refine lv_aload_n hx hb dX7_findWorms_98 rfl (lv_at hl 4 rfl) ?_
          refine lv_dup hx hb dX7_findWorms_99 rfl ?_
          refine va_get (D := D) (ci := 7) (v := .int v4) (C := RX7) (T := TX7) (N := 9) hx hb hts w1 hown hK.1 hP 0 rfl rfl 8 (by decide) w0 (fun _ h9 => h9) rfl dX7_findWorms_100 ?_
          refine lv_iconst (v := 1) hx hb dX7_findWorms_103 (by decide) ?_
          refine lv_iadd hx hb dX7_findWorms_104 ?_
          refine lv_topi (fun x66 e67 => ?_)
          try have h68 : x66.toInt = v4.toInt + (1 : Int32).toInt := ci_add e67 (by omega) (by omega)
          refine va_put (D := D) (ci := 7) (v := .int x66) (ty := .int) (C := RX7) (T := TX7) (N := 9) hx hb hts w1 tyX7 tyX7_ok nmX7 hown hK.1 hP hD hS 0 rfl rfl 8 (by decide) w0 (fun _ h9 => h9) rfl (by decide +kernel) rfl rfl (Nat.le_of_ble_eq_true rfl) dX7_findWorms_105 (fun H locs hP hD hS => ?_)
          obtain ⟨hP, hD⟩ : PD D A [O7 a7 r7 v7_count v7_holes x66, (cI κ (r7 2) 40 f7_sheetOf), (cI κ (r7 3) 40 f7_placeOf), (cI κ (r7 4) 40 f7_byPlace), (cI κ (r7 6) 40 g5), (cI κ (r7 7) 40 g64)] H := ⟨hP, hD⟩
          have h69 : 0 ≤ x66.toInt ∧ x66.toInt ≤ 40 := by omega
          refine lv_aload_n hx hb dX7_findWorms_108 rfl (lv_at hl 4 rfl) ?_
          refine va_get (D := D) (ci := 7) (v := .ref (r7 7)) (C := RX7) (T := TX7) (N := 9) hx hb hts w1 hown hK.1 hP 0 rfl rfl 7 (by decide) w5 (fun _ h9 => h9) rfl dX7_findWorms_109 ?_
          refine lv_aload_n hx hb dX7_findWorms_112 rfl (lv_at hl 4 rfl) ?_
          refine va_get (D := D) (ci := 7) (v := .int x66) (C := RX7) (T := TX7) (N := 9) hx hb hts w1 hown hK.1 hP 0 rfl rfl 8 (by decide) w0 (fun _ h9 => h9) rfl dX7_findWorms_113 ?_
          refine lv_iconst (v := 1) hx hb dX7_findWorms_116 (by decide) ?_
          refine lv_isub hx hb dX7_findWorms_117 ?_
          refine lv_topi (fun x70 e71 => ?_)
          try have h72 : x70.toInt = x66.toInt - (1 : Int32).toInt := ci_sub e71 (by omega) (by omega)
          refine lv_dup2_11 hx hb dX7_findWorms_118 rfl rfl ?_
          refine va_iald hx hb hK.1 hP 5 1 rfl rfl (i := x70) (ix (by omega) (by omega)) dX7_findWorms_119 ?_
          refine lv_topi (fun x73 e74 => ?_)
          have hy9 := e74
          try rw [hs1] at hy9
          refine lv_iload hx hb dX7_findWorms_120 (lv_at hl 0 rfl) ?_
          refine lv_ior hx hb dX7_findWorms_122 ?_
          refine lv_topi (fun x75 e76 => ?_)
          have hz9 := e76
          refine va_iast hx hb hK.1 hP hD hS 5 1 rfl rfl (i := x70) (ix (by omega) (by omega)) dX7_findWorms_123 (fun H locs hP hD hS => ?_)
          obtain ⟨g77, e78⟩ : ∃ y : Nat → Int32, y = upd g64 x70.toNatClampNeg x75 := ⟨_, rfl⟩
          rw [← e78] at hP hD
          obtain ⟨hP, hD⟩ : PD D A [O7 a7 r7 v7_count v7_holes x66, (cI κ (r7 2) 40 f7_sheetOf), (cI κ (r7 3) 40 f7_placeOf), (cI κ (r7 4) 40 f7_byPlace), (cI κ (r7 6) 40 g5), (cI κ (r7 7) 40 g77)] H := ⟨hP, hD⟩
          have hs2 := e78
          try rw [hs1] at hs2
          refine lv_aload_n hx hb dX7_findWorms_124 rfl (lv_at hl 4 rfl) ?_
          refine va_get (D := D) (ci := 7) (v := .ref (r7 6)) (C := RX7) (T := TX7) (N := 9) hx hb hts w1 hown hK.1 hP 0 rfl rfl 6 (by decide) w6 (fun _ h9 => h9) rfl dX7_findWorms_125 ?_
          refine lv_iload hx hb dX7_findWorms_128 (lv_at hl 1 rfl) ?_
          refine lv_aload_n hx hb dX7_findWorms_130 rfl (lv_at hl 4 rfl) ?_
          refine va_get (D := D) (ci := 7) (v := .int x66) (C := RX7) (T := TX7) (N := 9) hx hb hts w1 hown hK.1 hP 0 rfl rfl 8 (by decide) w0 (fun _ h9 => h9) rfl dX7_findWorms_131 ?_
          refine lv_iconst (v := 1) hx hb dX7_findWorms_134 (by decide) ?_
          refine lv_isub hx hb dX7_findWorms_135 ?_
          refine lv_topi (fun x79 e80 => ?_)
          try have h81 : x79.toInt = x66.toInt - (1 : Int32).toInt := ci_sub e80 (by omega) (by omega)
          refine va_iast hx hb hK.1 hP hD hS 4 1 rfl rfl (i := x18) (ix (by omega) (by omega)) dX7_findWorms_136 (fun H locs hP hD hS => ?_)
          obtain ⟨g82, e83⟩ : ∃ y : Nat → Int32, y = upd g5 x18.toNatClampNeg x79 := ⟨_, rfl⟩
          rw [← e83] at hP hD
          obtain ⟨hP, hD⟩ : PD D A [O7 a7 r7 v7_count v7_holes x66, (cI κ (r7 2) 40 f7_sheetOf), (cI κ (r7 3) 40 f7_placeOf), (cI κ (r7 4) 40 f7_byPlace), (cI κ (r7 6) 40 g82), (cI κ (r7 7) 40 g77)] H := ⟨hP, hD⟩
          have h84 : ∀ j : Nat, 0 ≤ (g82 j).toInt ∧ (g82 j).toInt ≤ 39 := by rw [e83]; exact all_upd (P := fun z => 0 ≤ z.toInt ∧ z.toInt ≤ 39) h6 (by omega)
          have hs3 := e83
          refine lv_iload hx hb dX7_findWorms_137 (lv_at hl 1 rfl) ?_
          refine lv_istore_n (lv' := [(3, .int x18), (6, .int x24), (5, .int x18), (4, .int k2), (0, .ref a7), (1, .int p1), (2, .int p2)]) hx hb dX7_findWorms_139 rfl hl (by decide) rfl (fun ls hl => ?_)
          obtain ⟨x85, e86⟩ : ∃ y : Int32, y = k2 + 1 := ⟨_, rfl⟩
          refine lv_iinc (v := x85) (lv' := [(4, .int x85), (3, .int x18), (6, .int x24), (5, .int x18), (0, .ref a7), (1, .int p1), (2, .int p2)]) hx hb dX7_findWorms_140 hl (k := 3) rfl (by rw [e86]; rfl) (by decide) rfl (fun ls hl => ?_)
          try have h87 : x85.toInt = k2.toInt + (1 : Int32).toInt := ci_add e86 (by omega) (by omega)
          refine lv_goto (tgt := 10) hx hb dX7_findWorms_143 (by decide) ?_
          exact ih10 x85 x18 x66 g82 g77 h69 h84 (by omega) (by omega) (by omega) (by omega) (by omega) (by first | exact Or.inl ⟨by omega, by omega⟩ | exact Or.inr ⟨by omega, ta_next hho (by omega)⟩) (by first | exact wi_start (by omega) (by omega) | exact wi_new hTW (by omega) (by omega) (by omega) hnw (by omega) hs2 (by omega) hy9 hz9 hbt hs3 (by rw [hho]) (by omega) | exact wi_old hTW (by omega) (by omega) (by omega) (by omega) (by omega) (by omega) hs2 (by omega) hy9 hz9 hbt hs3 (by rw [hho]) (by omega)) (by omega) _ _ hP hD hS _ (lv_sub hl [0, 1, 4, 5, 6] rfl)
        have c63 := ci_nlt c63
        refine lv_aload_n hx hb dX7_findWorms_71 rfl (lv_at hl 4 rfl) ?_
        refine va_get (D := D) (ci := 7) (v := .ref (r7 7)) (C := RX7) (T := TX7) (N := 9) hx hb hts w1 hown hK.1 hP 0 rfl rfl 7 (by decide) w5 (fun _ h9 => h9) rfl dX7_findWorms_72 ?_
        refine lv_aload_n hx hb dX7_findWorms_75 rfl (lv_at hl 4 rfl) ?_
        refine va_get (D := D) (ci := 7) (v := .int v4) (C := RX7) (T := TX7) (N := 9) hx hb hts w1 hown hK.1 hP 0 rfl rfl 8 (by decide) w0 (fun _ h9 => h9) rfl dX7_findWorms_76 ?_
        refine lv_iconst (v := 1) hx hb dX7_findWorms_79 (by decide) ?_
        refine lv_isub hx hb dX7_findWorms_80 ?_
        refine lv_topi (fun x88 e89 => ?_)
        try have h90 : x88.toInt = v4.toInt - (1 : Int32).toInt := ci_sub e89 (by omega) (by omega)
        refine va_iald hx hb hK.1 hP 5 1 rfl rfl (i := x88) (ix (by omega) (by omega)) dX7_findWorms_81 ?_
        refine lv_topi (fun x91 e92 => ?_)
        have hg1 := ld_at (k := v4) e92 (by omega) (by omega)
        refine lv_iload hx hb dX7_findWorms_82 (lv_at hl 0 rfl) ?_
        refine lv_iand hx hb dX7_findWorms_84 ?_
        refine lv_topi (fun x93 e94 => ?_)
        have hg2 : x93.toInt = (g7 (v4.toInt - 1).toNat &&& x24).toInt := by rw [e94, hg1]
        refine lv_if_eq (tgt := 108) hx hb dX7_findWorms_85 (by decide) (fun c95 => ?_) (fun c95 => ?_)
        · have c95 := ci_eq c95
          refine lv_aload_n hx hb dX7_findWorms_108 rfl (lv_at hl 4 rfl) ?_
          refine va_get (D := D) (ci := 7) (v := .ref (r7 7)) (C := RX7) (T := TX7) (N := 9) hx hb hts w1 hown hK.1 hP 0 rfl rfl 7 (by decide) w5 (fun _ h9 => h9) rfl dX7_findWorms_109 ?_
          refine lv_aload_n hx hb dX7_findWorms_112 rfl (lv_at hl 4 rfl) ?_
          refine va_get (D := D) (ci := 7) (v := .int v4) (C := RX7) (T := TX7) (N := 9) hx hb hts w1 hown hK.1 hP 0 rfl rfl 8 (by decide) w0 (fun _ h9 => h9) rfl dX7_findWorms_113 ?_
          refine lv_iconst (v := 1) hx hb dX7_findWorms_116 (by decide) ?_
          refine lv_isub hx hb dX7_findWorms_117 ?_
          refine lv_topi (fun x96 e97 => ?_)
          try have h98 : x96.toInt = v4.toInt - (1 : Int32).toInt := ci_sub e97 (by omega) (by omega)
          refine lv_dup2_11 hx hb dX7_findWorms_118 rfl rfl ?_
          refine va_iald hx hb hK.1 hP 5 1 rfl rfl (i := x96) (ix (by omega) (by omega)) dX7_findWorms_119 ?_
          refine lv_topi (fun x99 e100 => ?_)
          have hy9 := e100
          try rw [hs1] at hy9
          refine lv_iload hx hb dX7_findWorms_120 (lv_at hl 0 rfl) ?_
          refine lv_ior hx hb dX7_findWorms_122 ?_
          refine lv_topi (fun x101 e102 => ?_)
          have hz9 := e102
          refine va_iast hx hb hK.1 hP hD hS 5 1 rfl rfl (i := x96) (ix (by omega) (by omega)) dX7_findWorms_123 (fun H locs hP hD hS => ?_)
          obtain ⟨g103, e104⟩ : ∃ y : Nat → Int32, y = upd g7 x96.toNatClampNeg x101 := ⟨_, rfl⟩
          rw [← e104] at hP hD
          obtain ⟨hP, hD⟩ : PD D A [O7 a7 r7 v7_count v7_holes v4, (cI κ (r7 2) 40 f7_sheetOf), (cI κ (r7 3) 40 f7_placeOf), (cI κ (r7 4) 40 f7_byPlace), (cI κ (r7 6) 40 g5), (cI κ (r7 7) 40 g103)] H := ⟨hP, hD⟩
          have hs2 := e104
          try rw [hs1] at hs2
          refine lv_aload_n hx hb dX7_findWorms_124 rfl (lv_at hl 4 rfl) ?_
          refine va_get (D := D) (ci := 7) (v := .ref (r7 6)) (C := RX7) (T := TX7) (N := 9) hx hb hts w1 hown hK.1 hP 0 rfl rfl 6 (by decide) w6 (fun _ h9 => h9) rfl dX7_findWorms_125 ?_
          refine lv_iload hx hb dX7_findWorms_128 (lv_at hl 1 rfl) ?_
          refine lv_aload_n hx hb dX7_findWorms_130 rfl (lv_at hl 4 rfl) ?_
          refine va_get (D := D) (ci := 7) (v := .int v4) (C := RX7) (T := TX7) (N := 9) hx hb hts w1 hown hK.1 hP 0 rfl rfl 8 (by decide) w0 (fun _ h9 => h9) rfl dX7_findWorms_131 ?_
          refine lv_iconst (v := 1) hx hb dX7_findWorms_134 (by decide) ?_
          refine lv_isub hx hb dX7_findWorms_135 ?_
          refine lv_topi (fun x105 e106 => ?_)
          try have h107 : x105.toInt = v4.toInt - (1 : Int32).toInt := ci_sub e106 (by omega) (by omega)
          refine va_iast hx hb hK.1 hP hD hS 4 1 rfl rfl (i := x18) (ix (by omega) (by omega)) dX7_findWorms_136 (fun H locs hP hD hS => ?_)
          obtain ⟨g108, e109⟩ : ∃ y : Nat → Int32, y = upd g5 x18.toNatClampNeg x105 := ⟨_, rfl⟩
          rw [← e109] at hP hD
          obtain ⟨hP, hD⟩ : PD D A [O7 a7 r7 v7_count v7_holes v4, (cI κ (r7 2) 40 f7_sheetOf), (cI κ (r7 3) 40 f7_placeOf), (cI κ (r7 4) 40 f7_byPlace), (cI κ (r7 6) 40 g108), (cI κ (r7 7) 40 g103)] H := ⟨hP, hD⟩
          have h110 : ∀ j : Nat, 0 ≤ (g108 j).toInt ∧ (g108 j).toInt ≤ 39 := by rw [e109]; exact all_upd (P := fun z => 0 ≤ z.toInt ∧ z.toInt ≤ 39) h6 (by omega)
          have hs3 := e109
          refine lv_iload hx hb dX7_findWorms_137 (lv_at hl 1 rfl) ?_
          refine lv_istore_n (lv' := [(3, .int x18), (6, .int x24), (5, .int x18), (4, .int k2), (0, .ref a7), (1, .int p1), (2, .int p2)]) hx hb dX7_findWorms_139 rfl hl (by decide) rfl (fun ls hl => ?_)
          obtain ⟨x111, e112⟩ : ∃ y : Int32, y = k2 + 1 := ⟨_, rfl⟩
          refine lv_iinc (v := x111) (lv' := [(4, .int x111), (3, .int x18), (6, .int x24), (5, .int x18), (0, .ref a7), (1, .int p1), (2, .int p2)]) hx hb dX7_findWorms_140 hl (k := 3) rfl (by rw [e112]; rfl) (by decide) rfl (fun ls hl => ?_)
          try have h113 : x111.toInt = k2.toInt + (1 : Int32).toInt := ci_add e112 (by omega) (by omega)
          refine lv_goto (tgt := 10) hx hb dX7_findWorms_143 (by decide) ?_
          exact ih10 x111 x18 v4 g108 g103 h8 h110 (by omega) (by omega) (by omega) (by omega) (by omega) (by first | exact Or.inl ⟨by omega, by omega⟩ | exact Or.inr ⟨by omega, ta_next hho (by omega)⟩) (by first | exact wi_start (by omega) (by omega) | exact wi_new hTW (by omega) (by omega) (by omega) hnw (by omega) hs2 (by omega) hy9 hz9 hbt hs3 (by rw [hho]) (by omega) | exact wi_old hTW (by omega) (by omega) (by omega) (by omega) (by omega) (by omega) hs2 (by omega) hy9 hz9 hbt hs3 (by rw [hho]) (by omega)) (by omega) _ _ hP hD hS _ (lv_sub hl [0, 1, 4, 5, 6] rfl)
        have c95 := ci_ne c95
        have hnw : k2.toInt = 0 ∨ p1.toInt < (f7_placeOf (f7_byPlace k2.toNatClampNeg).toNatClampNeg).toInt - (f7_placeOf (f7_byPlace (k2.toInt - 1).toNat).toNatClampNeg).toInt ∨ (0 < k2.toInt ∧ (g7 (v4.toInt - 1).toNat &&& x24).toInt ≠ 0) := by first | exact Or.inl (by omega) | exact Or.inr (Or.inl (by omega)) | exact Or.inr (Or.inr ⟨by omega, by omega⟩)
        refine lv_aload_n hx hb dX7_findWorms_88 rfl (lv_at hl 4 rfl) ?_
        refine va_get (D := D) (ci := 7) (v := .ref (r7 7)) (C := RX7) (T := TX7) (N := 9) hx hb hts w1 hown hK.1 hP 0 rfl rfl 7 (by decide) w5 (fun _ h9 => h9) rfl dX7_findWorms_89 ?_
        refine lv_aload_n hx hb dX7_findWorms_92 rfl (lv_at hl 4 rfl) ?_
        refine va_get (D := D) (ci := 7) (v := .int v4) (C := RX7) (T := TX7) (N := 9) hx hb hts w1 hown hK.1 hP 0 rfl rfl 8 (by decide) w0 (fun _ h9 => h9) rfl dX7_findWorms_93 ?_
        refine lv_iconst (v := 0) hx hb dX7_findWorms_96 (by decide) ?_
        refine va_iast hx hb hK.1 hP hD hS 5 1 rfl rfl (i := v4) (ix (by omega) (by omega)) dX7_findWorms_97 (fun H locs hP hD hS => ?_)
        obtain ⟨g114, e115⟩ : ∃ y : Nat → Int32, y = upd g7 v4.toNatClampNeg 0 := ⟨_, rfl⟩
        rw [← e115] at hP hD
        obtain ⟨hP, hD⟩ : PD D A [O7 a7 r7 v7_count v7_holes v4, (cI κ (r7 2) 40 f7_sheetOf), (cI κ (r7 3) 40 f7_placeOf), (cI κ (r7 4) 40 f7_byPlace), (cI κ (r7 6) 40 g5), (cI κ (r7 7) 40 g114)] H := ⟨hP, hD⟩
        have hs1 := e115
        refine lv_aload_n hx hb dX7_findWorms_98 rfl (lv_at hl 4 rfl) ?_
        refine lv_dup hx hb dX7_findWorms_99 rfl ?_
        refine va_get (D := D) (ci := 7) (v := .int v4) (C := RX7) (T := TX7) (N := 9) hx hb hts w1 hown hK.1 hP 0 rfl rfl 8 (by decide) w0 (fun _ h9 => h9) rfl dX7_findWorms_100 ?_
        refine lv_iconst (v := 1) hx hb dX7_findWorms_103 (by decide) ?_
        refine lv_iadd hx hb dX7_findWorms_104 ?_
        refine lv_topi (fun x116 e117 => ?_)
        try have h118 : x116.toInt = v4.toInt + (1 : Int32).toInt := ci_add e117 (by omega) (by omega)
        refine va_put (D := D) (ci := 7) (v := .int x116) (ty := .int) (C := RX7) (T := TX7) (N := 9) hx hb hts w1 tyX7 tyX7_ok nmX7 hown hK.1 hP hD hS 0 rfl rfl 8 (by decide) w0 (fun _ h9 => h9) rfl (by decide +kernel) rfl rfl (Nat.le_of_ble_eq_true rfl) dX7_findWorms_105 (fun H locs hP hD hS => ?_)
        obtain ⟨hP, hD⟩ : PD D A [O7 a7 r7 v7_count v7_holes x116, (cI κ (r7 2) 40 f7_sheetOf), (cI κ (r7 3) 40 f7_placeOf), (cI κ (r7 4) 40 f7_byPlace), (cI κ (r7 6) 40 g5), (cI κ (r7 7) 40 g114)] H := ⟨hP, hD⟩
        have h119 : 0 ≤ x116.toInt ∧ x116.toInt ≤ 40 := by omega
        refine lv_aload_n hx hb dX7_findWorms_108 rfl (lv_at hl 4 rfl) ?_
        refine va_get (D := D) (ci := 7) (v := .ref (r7 7)) (C := RX7) (T := TX7) (N := 9) hx hb hts w1 hown hK.1 hP 0 rfl rfl 7 (by decide) w5 (fun _ h9 => h9) rfl dX7_findWorms_109 ?_
        refine lv_aload_n hx hb dX7_findWorms_112 rfl (lv_at hl 4 rfl) ?_
        refine va_get (D := D) (ci := 7) (v := .int x116) (C := RX7) (T := TX7) (N := 9) hx hb hts w1 hown hK.1 hP 0 rfl rfl 8 (by decide) w0 (fun _ h9 => h9) rfl dX7_findWorms_113 ?_
        refine lv_iconst (v := 1) hx hb dX7_findWorms_116 (by decide) ?_
        refine lv_isub hx hb dX7_findWorms_117 ?_
        refine lv_topi (fun x120 e121 => ?_)
        try have h122 : x120.toInt = x116.toInt - (1 : Int32).toInt := ci_sub e121 (by omega) (by omega)
        refine lv_dup2_11 hx hb dX7_findWorms_118 rfl rfl ?_
        refine va_iald hx hb hK.1 hP 5 1 rfl rfl (i := x120) (ix (by omega) (by omega)) dX7_findWorms_119 ?_
        refine lv_topi (fun x123 e124 => ?_)
        have hy9 := e124
        try rw [hs1] at hy9
        refine lv_iload hx hb dX7_findWorms_120 (lv_at hl 0 rfl) ?_
        refine lv_ior hx hb dX7_findWorms_122 ?_
        refine lv_topi (fun x125 e126 => ?_)
        have hz9 := e126
        refine va_iast hx hb hK.1 hP hD hS 5 1 rfl rfl (i := x120) (ix (by omega) (by omega)) dX7_findWorms_123 (fun H locs hP hD hS => ?_)
        obtain ⟨g127, e128⟩ : ∃ y : Nat → Int32, y = upd g114 x120.toNatClampNeg x125 := ⟨_, rfl⟩
        rw [← e128] at hP hD
        obtain ⟨hP, hD⟩ : PD D A [O7 a7 r7 v7_count v7_holes x116, (cI κ (r7 2) 40 f7_sheetOf), (cI κ (r7 3) 40 f7_placeOf), (cI κ (r7 4) 40 f7_byPlace), (cI κ (r7 6) 40 g5), (cI κ (r7 7) 40 g127)] H := ⟨hP, hD⟩
        have hs2 := e128
        try rw [hs1] at hs2
        refine lv_aload_n hx hb dX7_findWorms_124 rfl (lv_at hl 4 rfl) ?_
        refine va_get (D := D) (ci := 7) (v := .ref (r7 6)) (C := RX7) (T := TX7) (N := 9) hx hb hts w1 hown hK.1 hP 0 rfl rfl 6 (by decide) w6 (fun _ h9 => h9) rfl dX7_findWorms_125 ?_
        refine lv_iload hx hb dX7_findWorms_128 (lv_at hl 1 rfl) ?_
        refine lv_aload_n hx hb dX7_findWorms_130 rfl (lv_at hl 4 rfl) ?_
        refine va_get (D := D) (ci := 7) (v := .int x116) (C := RX7) (T := TX7) (N := 9) hx hb hts w1 hown hK.1 hP 0 rfl rfl 8 (by decide) w0 (fun _ h9 => h9) rfl dX7_findWorms_131 ?_
        refine lv_iconst (v := 1) hx hb dX7_findWorms_134 (by decide) ?_
        refine lv_isub hx hb dX7_findWorms_135 ?_
        refine lv_topi (fun x129 e130 => ?_)
        try have h131 : x129.toInt = x116.toInt - (1 : Int32).toInt := ci_sub e130 (by omega) (by omega)
        refine va_iast hx hb hK.1 hP hD hS 4 1 rfl rfl (i := x18) (ix (by omega) (by omega)) dX7_findWorms_136 (fun H locs hP hD hS => ?_)
        obtain ⟨g132, e133⟩ : ∃ y : Nat → Int32, y = upd g5 x18.toNatClampNeg x129 := ⟨_, rfl⟩
        rw [← e133] at hP hD
        obtain ⟨hP, hD⟩ : PD D A [O7 a7 r7 v7_count v7_holes x116, (cI κ (r7 2) 40 f7_sheetOf), (cI κ (r7 3) 40 f7_placeOf), (cI κ (r7 4) 40 f7_byPlace), (cI κ (r7 6) 40 g132), (cI κ (r7 7) 40 g127)] H := ⟨hP, hD⟩
        have h134 : ∀ j : Nat, 0 ≤ (g132 j).toInt ∧ (g132 j).toInt ≤ 39 := by rw [e133]; exact all_upd (P := fun z => 0 ≤ z.toInt ∧ z.toInt ≤ 39) h6 (by omega)
        have hs3 := e133
        refine lv_iload hx hb dX7_findWorms_137 (lv_at hl 1 rfl) ?_
        refine lv_istore_n (lv' := [(3, .int x18), (6, .int x24), (5, .int x18), (4, .int k2), (0, .ref a7), (1, .int p1), (2, .int p2)]) hx hb dX7_findWorms_139 rfl hl (by decide) rfl (fun ls hl => ?_)
        obtain ⟨x135, e136⟩ : ∃ y : Int32, y = k2 + 1 := ⟨_, rfl⟩
        refine lv_iinc (v := x135) (lv' := [(4, .int x135), (3, .int x18), (6, .int x24), (5, .int x18), (0, .ref a7), (1, .int p1), (2, .int p2)]) hx hb dX7_findWorms_140 hl (k := 3) rfl (by rw [e136]; rfl) (by decide) rfl (fun ls hl => ?_)
        try have h137 : x135.toInt = k2.toInt + (1 : Int32).toInt := ci_add e136 (by omega) (by omega)
        refine lv_goto (tgt := 10) hx hb dX7_findWorms_143 (by decide) ?_
        exact ih10 x135 x18 x116 g132 g127 h119 h134 (by omega) (by omega) (by omega) (by omega) (by omega) (by first | exact Or.inl ⟨by omega, by omega⟩ | exact Or.inr ⟨by omega, ta_next hho (by omega)⟩) (by first | exact wi_start (by omega) (by omega) | exact wi_new hTW (by omega) (by omega) (by omega) hnw (by omega) hs2 (by omega) hy9 hz9 hbt hs3 (by rw [hho]) (by omega) | exact wi_old hTW (by omega) (by omega) (by omega) (by omega) (by omega) (by omega) hs2 (by omega) hy9 hz9 hbt hs3 (by rw [hho]) (by omega)) (by omega) _ _ hP hD hS _ (lv_sub hl [0, 1, 4, 5, 6] rfl)
      have c28 := ci_eq c28
      exfalso
      omega
  exact lp10 ((v7_holes.toInt - (0 : Int32).toInt).toNat + 1) 0 (-1) 0 f7_wormOf f7_wormSheets h1 hf7_wormOf (by omega) (by omega) (by omega) (by omega) (by omega) (by first | exact Or.inl ⟨by omega, by omega⟩ | exact Or.inr ⟨by omega, ta_next hho (by omega)⟩) (by first | exact wi_start (by omega) (by omega) | exact wi_new hTW (by omega) (by omega) (by omega) hnw (by omega) hs2 (by omega) hy9 hz9 hbt hs3 (by rw [hho]) (by omega) | exact wi_old hTW (by omega) (by omega) (by omega) (by omega) (by omega) (by omega) hs2 (by omega) hy9 hz9 hbt hs3 (by rw [hho]) (by omega)) (by omega) _ _ hP hD hS _ hl
set_option maxHeartbeats 4000000 in
set_option maxRecDepth 100000 in
theorem k_X7_findWorms_k (l : Launch) (D : va_G) (κ : Nat → ClassId) (β : Nat) (a7 : Nat) (r7 : Nat → Nat) (v7_count : Int32) (v7_holes : Int32) (v7_worms : Int32) (f7_sheetOf : Nat → Int32) (f7_placeOf : Nat → Int32) (f7_byPlace : Nat → Int32) (f7_wormOf : Nat → Int32) (f7_wormSheets : Nat → Int32) (sz : Nat) (p1 : Int32) (p2 : Int32) (i1 : Rg 0 8 v7_count) (i2 : Rg 0 40 v7_holes) (i3 : Rg 0 40 v7_worms) (hf7_sheetOf : ∀ j : Nat, 0 ≤ (f7_sheetOf j).toInt ∧ (f7_sheetOf j).toInt ≤ 7) (hf7_placeOf : ∀ j : Nat, 0 ≤ (f7_placeOf j).toInt ∧ (f7_placeOf j).toInt ≤ 999) (hf7_byPlace : ∀ j : Nat, 0 ≤ (f7_byPlace j).toInt ∧ (f7_byPlace j).toInt ≤ 39) (hf7_wormOf : ∀ j : Nat, 0 ≤ (f7_wormOf j).toInt ∧ (f7_wormOf j).toInt ≤ 39) (hpa0 : f7_byPlace = srt f7_placeOf v7_holes.toInt.toNat) : Met l yX7_findWorms wsX7_findWorms ({ frames := 0, cells := 0, slots := 0, locals := 0 } : Room) (PcK D κ β [O7 a7 r7 v7_count v7_holes v7_worms, (cI κ (r7 2) 40 f7_sheetOf), (cI κ (r7 3) 40 f7_placeOf), (cI κ (r7 4) 40 f7_byPlace), (cI κ (r7 6) 40 f7_wormOf), (cI κ (r7 7) 40 f7_wormSheets)] sz [.ref a7, .int p1, .int p2]) (QvK D (fun (u : Int32 × (Nat → Int32) × (Nat → Int32)) => (0 ≤ u.1.toInt ∧ u.1.toInt ≤ 40) ∧ (∀ j : Nat, 0 ≤ (u.2.1 j).toInt ∧ (u.2.1 j).toInt ≤ 39) ∧ (WInv (csF f7_placeOf (kpA f7_sheetOf p2) v7_holes.toInt.toNat) f7_sheetOf f7_placeOf p1.toInt (KL f7_placeOf (kpA f7_sheetOf p2) v7_holes.toInt.toNat).length u.1 u.2.2 u.2.1)) (fun (u : Int32 × (Nat → Int32) × (Nat → Int32)) => [O7 a7 r7 v7_count v7_holes u.1, (cI κ (r7 2) 40 f7_sheetOf), (cI κ (r7 3) 40 f7_placeOf), (cI κ (r7 4) 40 f7_byPlace), (cI κ (r7 6) 40 u.2.1), (cI κ (r7 7) 40 u.2.2)]) [O7 a7 r7 v7_count v7_holes v7_worms, (cI κ (r7 2) 40 f7_sheetOf), (cI κ (r7 3) 40 f7_placeOf), (cI κ (r7 4) 40 f7_byPlace), (cI κ (r7 6) 40 f7_wormOf), (cI κ (r7 7) 40 f7_wormSheets)] sz) 0 0 (va_A [O7 a7 r7 v7_count v7_holes v7_worms, (cI κ (r7 2) 40 f7_sheetOf), (cI κ (r7 3) 40 f7_placeOf), (cI κ (r7 4) 40 f7_byPlace), (cI κ (r7 6) 40 f7_wormOf), (cI κ (r7 7) 40 f7_wormSheets)] sz) := by
  refine ofK_v (cc := cX7_findWorms) (maxL := 7) (own := RX7) (by decide) rfl rfl (Nat.le_of_ble_eq_true rfl) ?_
  intro p e s m args below meth c Q A ls hsz hx hb hml hts hown hK hA hAB hP hD hl hname ret
  have hS : va_S A s.heap s.heap [] := va_S.rf
  have hl : lv_has ls 7 [(0, .ref a7), (1, .int p1), (2, .int p2)] := hl
  have w0 := hts (.fieldLink RX7 41 "OlderSkin$Sheets" "worms" "I") (List.mem_of_getElem? (i := 1) rfl)
  have w1 := (fun w h => List.mem_cons_of_mem _ (List.mem_append_right _ h) : ∀ w ∈ u_ws RX7 TX7 9, w ∈ wsX7_findWorms)
  have w2 := hts (.fieldLink RX7 38 "OlderSkin$Sheets" "holes" "I") (List.mem_of_getElem? (i := 2) rfl)
  have w3 := hts (.fieldLink RX7 21 "OlderSkin$Sheets" "byPlace" "[I") (List.mem_of_getElem? (i := 3) rfl)
  have w4 := hts (.fieldLink RX7 15 "OlderSkin$Sheets" "sheetOf" "[I") (List.mem_of_getElem? (i := 4) rfl)
  have w5 := hts (.fieldLink RX7 27 "OlderSkin$Sheets" "wormSheets" "[I") (List.mem_of_getElem? (i := 6) rfl)
  have w6 := hts (.fieldLink RX7 24 "OlderSkin$Sheets" "wormOf" "[I") (List.mem_of_getElem? (i := 7) rfl)
  have w7 := hts (.fieldLink RX7 18 "OlderSkin$Sheets" "placeOf" "[I") (List.mem_of_getElem? (i := 5) rfl)
  have l0 : (0 : Int32).toInt = 0 := by decide
  have l1 : ((-1) : Int32).toInt = -1 := by decide
  have l2 : (1 : Int32).toInt = 1 := by decide
  have i2 : 0 ≤ v7_holes.toInt ∧ v7_holes.toInt ≤ 40 := i2
  have i3 : 0 ≤ v7_worms.toInt ∧ v7_worms.toInt ≤ 40 := i3
  refine lv_aload_n hx hb dX7_findWorms_0 rfl (lv_at hl 0 rfl) ?_
  refine lv_iconst (v := 0) hx hb dX7_findWorms_1 (by decide) ?_
  refine va_put (D := D) (ci := 7) (v := .int 0) (ty := .int) (C := RX7) (T := TX7) (N := 9) hx hb hts w1 tyX7 tyX7_ok nmX7 hown hK.1 hP hD hS 0 rfl rfl 8 (by decide) w0 (fun _ h9 => h9) rfl (by decide +kernel) rfl rfl (Nat.le_of_ble_eq_true rfl) dX7_findWorms_2 (fun H locs hP hD hS => ?_)
  obtain ⟨hP, hD⟩ : PD D A [O7 a7 r7 v7_count v7_holes 0, (cI κ (r7 2) 40 f7_sheetOf), (cI κ (r7 3) 40 f7_placeOf), (cI κ (r7 4) 40 f7_byPlace), (cI κ (r7 6) 40 f7_wormOf), (cI κ (r7 7) 40 f7_wormSheets)] H := ⟨hP, hD⟩
  have h1 : 0 ≤ (0 : Int32).toInt ∧ (0 : Int32).toInt ≤ 40 := by omega
  refine lv_iconst (v := (-1)) hx hb dX7_findWorms_5 (by decide) ?_
  refine lv_istore_n (lv' := [(3, .int (-1)), (0, .ref a7), (1, .int p1), (2, .int p2)]) hx hb dX7_findWorms_6 rfl hl (by decide) rfl (fun ls hl => ?_)
  refine lv_iconst (v := 0) hx hb dX7_findWorms_7 (by decide) ?_
  refine lv_istore (lv' := [(4, .int 0), (3, .int (-1)), (0, .ref a7), (1, .int p1), (2, .int p2)]) hx hb dX7_findWorms_8 hl (by decide) rfl (fun ls hl => ?_)
  have lp10 : ∀ (n10 : Nat) (k2 : Int32) (k3 : Int32) (v4 : Int32) (g5 : Nat → Int32) (g7 : Nat → Int32), (0 ≤ v4.toInt ∧ v4.toInt ≤ 40) → (∀ j : Nat, 0 ≤ (g5 j).toInt ∧ (g5 j).toInt ≤ 39) → (0 ≤ k2.toInt) → (-1 ≤ k3.toInt ∧ k3.toInt ≤ 39) → (v4.toInt ≤ k2.toInt) → (k3.toInt < 0 ∨ 1 ≤ v4.toInt) → (k2.toInt ≤ v7_holes.toInt) → (ta9 f7_placeOf (kpA f7_sheetOf p2) v7_holes.toInt.toNat k2.toInt.toNat k3) → (WInv (csF f7_placeOf (kpA f7_sheetOf p2) v7_holes.toInt.toNat) f7_sheetOf f7_placeOf p1.toInt (kcN f7_placeOf (kpA f7_sheetOf p2) v7_holes.toInt.toNat k2.toInt.toNat) v4 g7 g5) → (v7_holes.toInt - k2.toInt).toNat < n10 → ∀ (H : Heap) (locs : List Loc), va_P D vwCl [O7 a7 r7 v7_count v7_holes v4, (cI κ (r7 2) 40 f7_sheetOf), (cI κ (r7 3) 40 f7_placeOf), (cI κ (r7 4) 40 f7_byPlace), (cI κ (r7 6) 40 g5), (cI κ (r7 7) 40 g7)] H → va_D A [O7 a7 r7 v7_count v7_holes v4, (cI κ (r7 2) 40 f7_sheetOf), (cI κ (r7 3) 40 f7_placeOf), (cI κ (r7 4) 40 f7_byPlace), (cI κ (r7 6) 40 g5), (cI κ (r7 7) 40 g7)] → va_S A s.heap H locs → ∀ ls : Array Slot, lv_has ls 7 [(4, .int k2), (3, .int k3), (0, .ref a7), (1, .int p1), (2, .int p2)] → W p l e ({ frames := 0, cells := 0, slots := 0, locals := 0 } : Room) s m args below meth c H locs 0 0 Q (F0 m 10 ls []) := by
    intro n10
    induction n10 with
    | zero =>
      intro k2 k3 v4 g5 g7 h8 h6 h9 h10 h11 h12 h13 h14 h15 m16
      exact absurd m16 (Nat.not_lt_zero _)
    | succ n10 ih10 =>
      intro k2 k3 v4 g5 g7 h8 h6 h9 h10 h11 h12 h13 h14 h15 m16 H locs hP hD hS ls hl
      have hTA : ta9 f7_placeOf (kpA f7_sheetOf p2) v7_holes.toInt.toNat k2.toInt.toNat k3 := by assumption
      have hTA0 := ta9_nn hTA (by omega)
      have hTW : WInv (csF f7_placeOf (kpA f7_sheetOf p2) v7_holes.toInt.toNat) f7_sheetOf f7_placeOf p1.toInt (kcN f7_placeOf (kpA f7_sheetOf p2) v7_holes.toInt.toNat k2.toInt.toNat) v4 g7 g5 := by assumption
      refine lv_iload hx hb dX7_findWorms_10 (lv_at hl 0 rfl) ?_
      refine lv_aload_n hx hb dX7_findWorms_12 rfl (lv_at hl 2 rfl) ?_
      refine va_get (D := D) (ci := 7) (v := .int v7_holes) (C := RX7) (T := TX7) (N := 9) hx hb hts w1 hown hK.1 hP 0 rfl rfl 5 (by decide) w2 (fun _ h9 => h9) rfl dX7_findWorms_13 ?_
      refine lv_icmp_ge (tgt := 146) hx hb dX7_findWorms_16 (by decide) (fun c17 => ?_) (fun c17 => ?_)
      · have c17 := ci_le c17
        have hpo : (0 ≤ v4.toInt ∧ v4.toInt ≤ 40) ∧ (∀ j : Nat, 0 ≤ (g5 j).toInt ∧ (g5 j).toInt ≤ 39) ∧ (WInv (csF f7_placeOf (kpA f7_sheetOf p2) v7_holes.toInt.toNat) f7_sheetOf f7_placeOf p1.toInt (KL f7_placeOf (kpA f7_sheetOf p2) v7_holes.toInt.toNat).length v4 g7 g5) := ⟨h8, h6, (w9_end hTW (by omega))⟩
        exact ret _ _ _ _ (v4, g5, g7) dX7_findWorms_146 hpo hP hD hS
      have c17 := ci_nle c17
      refine lv_aload_n hx hb dX7_findWorms_19 rfl (lv_at hl 2 rfl) ?_
      refine va_get (D := D) (ci := 7) (v := .ref (r7 4)) (C := RX7) (T := TX7) (N := 9) hx hb hts w1 hown hK.1 hP 0 rfl rfl 4 (by decide) w3 (fun _ h9 => h9) rfl dX7_findWorms_20 ?_
      refine lv_iload hx hb dX7_findWorms_23 (lv_at hl 0 rfl) ?_
      refine va_iald hx hb hK.1 hP 3 1 rfl rfl (i := k2) (ix (by omega) (by omega)) dX7_findWorms_25 ?_
      refine lv_topi (fun x18 e19 => ?_)
      have h20 : 0 ≤ x18.toInt ∧ x18.toInt ≤ 39 := by rw [e19]; exact hf7_byPlace _
      have hho := e19
      obtain ⟨hkl, hks, hkk⟩ := kc_at (kp := (kpA f7_sheetOf p2)) hpa0 hho (by omega) (by omega) (by omega)
      refine lv_istore (lv' := [(5, .int x18), (4, .int k2), (3, .int k3), (0, .ref a7), (1, .int p1), (2, .int p2)]) hx hb dX7_findWorms_26 hl (by decide) rfl (fun ls hl => ?_)
      refine lv_iconst (v := 1) hx hb dX7_findWorms_28 (by decide) ?_
      refine lv_aload_n hx hb dX7_findWorms_29 rfl (lv_at hl 3 rfl) ?_
      refine va_get (D := D) (ci := 7) (v := .ref (r7 2)) (C := RX7) (T := TX7) (N := 9) hx hb hts w1 hown hK.1 hP 0 rfl rfl 2 (by decide) w4 (fun _ h9 => h9) rfl dX7_findWorms_30 ?_
      refine lv_iload hx hb dX7_findWorms_33 (lv_at hl 0 rfl) ?_
      refine va_iald hx hb hK.1 hP 1 1 rfl rfl (i := x18) (ix (by omega) (by omega)) dX7_findWorms_35 ?_
      refine lv_topi (fun x21 e22 => ?_)
      have h23 : 0 ≤ x21.toInt ∧ x21.toInt ≤ 7 := by rw [e22]; exact hf7_sheetOf _
      have hx9 := e22
      refine lv_ishl hx hb dX7_findWorms_36 ?_
      refine lv_topi (fun x24 e25 => ?_)
      have hbt0 : x24 = bitW (f7_sheetOf x18.toNatClampNeg) := by unfold bitW; rw [e25, hx9]
      refine lv_istore (lv' := [(6, .int x24), (5, .int x18), (4, .int k2), (3, .int k3), (0, .ref a7), (1, .int p1), (2, .int p2)]) hx hb dX7_findWorms_37 hl (by decide) rfl (fun ls hl => ?_)
      refine lv_iload_n hx hb dX7_findWorms_39 rfl (lv_at hl 6 rfl) ?_
      refine lv_iload hx hb dX7_findWorms_40 (lv_at hl 0 rfl) ?_
      refine lv_iand hx hb dX7_findWorms_42 ?_
      refine lv_topi (fun x26 e27 => ?_)
      have hka : x26 = p2 &&& bitW (f7_sheetOf x18.toNatClampNeg) := by rw [e27, hbt0]
      refine lv_if_ne (tgt := 49) hx hb dX7_findWorms_43 (by decide) (fun c28 => ?_) (fun c28 => ?_)
      · have c28 := ci_ne c28
        have hkp := kpa_yes hka (by omega)
        obtain ⟨hk1, hcs⟩ := hkk hkp
        refine lv_iload_n hx hb dX7_findWorms_49 rfl (lv_at hl 3 rfl) ?_
        refine lv_if_lt (tgt := 88) hx hb dX7_findWorms_50 (by decide) (fun c29 => ?_) (fun c29 => ?_)
        · have c29 := ci_lt c29
          have hnw : (kcN f7_placeOf (kpA f7_sheetOf p2) v7_holes.toInt.toNat k2.toInt.toNat) = 0 ∨ p1.toInt < (f7_placeOf (csF f7_placeOf (kpA f7_sheetOf p2) v7_holes.toInt.toNat (kcN f7_placeOf (kpA f7_sheetOf p2) v7_holes.toInt.toNat k2.toInt.toNat)).toNatClampNeg).toInt - (f7_placeOf (csF f7_placeOf (kpA f7_sheetOf p2) v7_holes.toInt.toNat ((kcN f7_placeOf (kpA f7_sheetOf p2) v7_holes.toInt.toNat k2.toInt.toNat) - 1)).toNatClampNeg).toInt ∨ (0 < (kcN f7_placeOf (kpA f7_sheetOf p2) v7_holes.toInt.toNat k2.toInt.toNat) ∧ (g7 (v4.toInt - 1).toNat &&& x24).toInt ≠ 0) := by first | exact Or.inl (by omega) | exact Or.inr (Or.inl (by omega)) | exact Or.inr (Or.inr ⟨by omega, by omega⟩)
          refine lv_aload_n hx hb dX7_findWorms_88 rfl (lv_at hl 4 rfl) ?_
          refine va_get (D := D) (ci := 7) (v := .ref (r7 7)) (C := RX7) (T := TX7) (N := 9) hx hb hts w1 hown hK.1 hP 0 rfl rfl 7 (by decide) w5 (fun _ h9 => h9) rfl dX7_findWorms_89 ?_
          refine lv_aload_n hx hb dX7_findWorms_92 rfl (lv_at hl 4 rfl) ?_
          refine va_get (D := D) (ci := 7) (v := .int v4) (C := RX7) (T := TX7) (N := 9) hx hb hts w1 hown hK.1 hP 0 rfl rfl 8 (by decide) w0 (fun _ h9 => h9) rfl dX7_findWorms_93 ?_
          refine lv_iconst (v := 0) hx hb dX7_findWorms_96 (by decide) ?_
          refine va_iast hx hb hK.1 hP hD hS 5 1 rfl rfl (i := v4) (ix (by omega) (by omega)) dX7_findWorms_97 (fun H locs hP hD hS => ?_)
          obtain ⟨g30, e31⟩ : ∃ y : Nat → Int32, y = upd g7 v4.toNatClampNeg 0 := ⟨_, rfl⟩
          rw [← e31] at hP hD
          obtain ⟨hP, hD⟩ : PD D A [O7 a7 r7 v7_count v7_holes v4, (cI κ (r7 2) 40 f7_sheetOf), (cI κ (r7 3) 40 f7_placeOf), (cI κ (r7 4) 40 f7_byPlace), (cI κ (r7 6) 40 g5), (cI κ (r7 7) 40 g30)] H := ⟨hP, hD⟩
          have hs1 := e31
          refine lv_aload_n hx hb dX7_findWorms_98 rfl (lv_at hl 4 rfl) ?_
          refine lv_dup hx hb dX7_findWorms_99 rfl ?_
          refine va_get (D := D) (ci := 7) (v := .int v4) (C := RX7) (T := TX7) (N := 9) hx hb hts w1 hown hK.1 hP 0 rfl rfl 8 (by decide) w0 (fun _ h9 => h9) rfl dX7_findWorms_100 ?_
          refine lv_iconst (v := 1) hx hb dX7_findWorms_103 (by decide) ?_
          refine lv_iadd hx hb dX7_findWorms_104 ?_
          refine lv_topi (fun x32 e33 => ?_)
          try have h34 : x32.toInt = v4.toInt + (1 : Int32).toInt := ci_add e33 (by omega) (by omega)
          refine va_put (D := D) (ci := 7) (v := .int x32) (ty := .int) (C := RX7) (T := TX7) (N := 9) hx hb hts w1 tyX7 tyX7_ok nmX7 hown hK.1 hP hD hS 0 rfl rfl 8 (by decide) w0 (fun _ h9 => h9) rfl (by decide +kernel) rfl rfl (Nat.le_of_ble_eq_true rfl) dX7_findWorms_105 (fun H locs hP hD hS => ?_)
          obtain ⟨hP, hD⟩ : PD D A [O7 a7 r7 v7_count v7_holes x32, (cI κ (r7 2) 40 f7_sheetOf), (cI κ (r7 3) 40 f7_placeOf), (cI κ (r7 4) 40 f7_byPlace), (cI κ (r7 6) 40 g5), (cI κ (r7 7) 40 g30)] H := ⟨hP, hD⟩
          have h35 : 0 ≤ x32.toInt ∧ x32.toInt ≤ 40 := by omega
          refine lv_aload_n hx hb dX7_findWorms_108 rfl (lv_at hl 4 rfl) ?_
          refine va_get (D := D) (ci := 7) (v := .ref (r7 7)) (C := RX7) (T := TX7) (N := 9) hx hb hts w1 hown hK.1 hP 0 rfl rfl 7 (by decide) w5 (fun _ h9 => h9) rfl dX7_findWorms_109 ?_
          refine lv_aload_n hx hb dX7_findWorms_112 rfl (lv_at hl 4 rfl) ?_
          refine va_get (D := D) (ci := 7) (v := .int x32) (C := RX7) (T := TX7) (N := 9) hx hb hts w1 hown hK.1 hP 0 rfl rfl 8 (by decide) w0 (fun _ h9 => h9) rfl dX7_findWorms_113 ?_
          refine lv_iconst (v := 1) hx hb dX7_findWorms_116 (by decide) ?_
          refine lv_isub hx hb dX7_findWorms_117 ?_
          refine lv_topi (fun x36 e37 => ?_)
          try have h38 : x36.toInt = x32.toInt - (1 : Int32).toInt := ci_sub e37 (by omega) (by omega)
          refine lv_dup2_11 hx hb dX7_findWorms_118 rfl rfl ?_
          refine va_iald hx hb hK.1 hP 5 1 rfl rfl (i := x36) (ix (by omega) (by omega)) dX7_findWorms_119 ?_
          refine lv_topi (fun x39 e40 => ?_)
          have hy9 := e40
          try rw [hs1] at hy9
          refine lv_iload hx hb dX7_findWorms_120 (lv_at hl 0 rfl) ?_
          refine lv_ior hx hb dX7_findWorms_122 ?_
          refine lv_topi (fun x41 e42 => ?_)
          have hz9 := e42
          refine va_iast hx hb hK.1 hP hD hS 5 1 rfl rfl (i := x36) (ix (by omega) (by omega)) dX7_findWorms_123 (fun H locs hP hD hS => ?_)
          obtain ⟨g43, e44⟩ : ∃ y : Nat → Int32, y = upd g30 x36.toNatClampNeg x41 := ⟨_, rfl⟩
          rw [← e44] at hP hD
          obtain ⟨hP, hD⟩ : PD D A [O7 a7 r7 v7_count v7_holes x32, (cI κ (r7 2) 40 f7_sheetOf), (cI κ (r7 3) 40 f7_placeOf), (cI κ (r7 4) 40 f7_byPlace), (cI κ (r7 6) 40 g5), (cI κ (r7 7) 40 g43)] H := ⟨hP, hD⟩
          have hs2 := e44
          try rw [hs1] at hs2
          refine lv_aload_n hx hb dX7_findWorms_124 rfl (lv_at hl 4 rfl) ?_
          refine va_get (D := D) (ci := 7) (v := .ref (r7 6)) (C := RX7) (T := TX7) (N := 9) hx hb hts w1 hown hK.1 hP 0 rfl rfl 6 (by decide) w6 (fun _ h9 => h9) rfl dX7_findWorms_125 ?_
          refine lv_iload hx hb dX7_findWorms_128 (lv_at hl 1 rfl) ?_
          refine lv_aload_n hx hb dX7_findWorms_130 rfl (lv_at hl 4 rfl) ?_
          refine va_get (D := D) (ci := 7) (v := .int x32) (C := RX7) (T := TX7) (N := 9) hx hb hts w1 hown hK.1 hP 0 rfl rfl 8 (by decide) w0 (fun _ h9 => h9) rfl dX7_findWorms_131 ?_
          refine lv_iconst (v := 1) hx hb dX7_findWorms_134 (by decide) ?_
          refine lv_isub hx hb dX7_findWorms_135 ?_
          refine lv_topi (fun x45 e46 => ?_)
          try have h47 : x45.toInt = x32.toInt - (1 : Int32).toInt := ci_sub e46 (by omega) (by omega)
          refine va_iast hx hb hK.1 hP hD hS 4 1 rfl rfl (i := x18) (ix (by omega) (by omega)) dX7_findWorms_136 (fun H locs hP hD hS => ?_)
          obtain ⟨g48, e49⟩ : ∃ y : Nat → Int32, y = upd g5 x18.toNatClampNeg x45 := ⟨_, rfl⟩
          rw [← e49] at hP hD
          obtain ⟨hP, hD⟩ : PD D A [O7 a7 r7 v7_count v7_holes x32, (cI κ (r7 2) 40 f7_sheetOf), (cI κ (r7 3) 40 f7_placeOf), (cI κ (r7 4) 40 f7_byPlace), (cI κ (r7 6) 40 g48), (cI κ (r7 7) 40 g43)] H := ⟨hP, hD⟩
          have h50 : ∀ j : Nat, 0 ≤ (g48 j).toInt ∧ (g48 j).toInt ≤ 39 := by rw [e49]; exact all_upd (P := fun z => 0 ≤ z.toInt ∧ z.toInt ≤ 39) h6 (by omega)
          have hs3 := e49
          refine lv_iload hx hb dX7_findWorms_137 (lv_at hl 1 rfl) ?_
          refine lv_istore_n (lv' := [(3, .int x18), (6, .int x24), (5, .int x18), (4, .int k2), (0, .ref a7), (1, .int p1), (2, .int p2)]) hx hb dX7_findWorms_139 rfl hl (by decide) rfl (fun ls hl => ?_)
          obtain ⟨x51, e52⟩ : ∃ y : Int32, y = k2 + 1 := ⟨_, rfl⟩
          refine lv_iinc (v := x51) (lv' := [(4, .int x51), (3, .int x18), (6, .int x24), (5, .int x18), (0, .ref a7), (1, .int p1), (2, .int p2)]) hx hb dX7_findWorms_140 hl (k := 3) rfl (by rw [e52]; rfl) (by decide) rfl (fun ls hl => ?_)
          try have h53 : x51.toInt = k2.toInt + (1 : Int32).toInt := ci_add e52 (by omega) (by omega)
          refine lv_goto (tgt := 10) hx hb dX7_findWorms_143 (by decide) ?_
          exact ih10 x51 x18 x32 g48 g43 h35 h50 (by omega) (by omega) (by omega) (by omega) (by omega) (by first | exact ta9_start (by decide) (by decide) | exact ta9_skip hTA hk1 (by omega) (by omega) | exact ta9_keep hk1 hcs (by omega) (by omega)) (by first | exact w9_start (by decide) (by omega) | exact w9_skip hTW hk1 (by omega) (by omega) | exact w9_new hTW hk1 (by omega) (by omega) (by omega) hnw (by omega) hs2 (by omega) hy9 hz9 (by rw [hcs]; exact hbt0) hs3 (by rw [hcs]) (by omega) | exact w9_old hTW hk1 (by omega) (by omega) (by omega) hk0 (by omega) (by omega) (by omega) hs2 (by omega) hy9 hz9 (by rw [hcs]; exact hbt0) hs3 (by rw [hcs]) (by omega)) (by omega) _ _ hP hD hS _ (lv_sub hl [0, 1, 4, 5, 6] rfl)
        have c29 := ci_nlt c29
        refine lv_aload_n hx hb dX7_findWorms_53 rfl (lv_at hl 4 rfl) ?_
        refine va_get (D := D) (ci := 7) (v := .ref (r7 3)) (C := RX7) (T := TX7) (N := 9) hx hb hts w1 hown hK.1 hP 0 rfl rfl 3 (by decide) w7 (fun _ h9 => h9) rfl dX7_findWorms_54 ?_
        refine lv_iload hx hb dX7_findWorms_57 (lv_at hl 1 rfl) ?_
        refine va_iald hx hb hK.1 hP 2 1 rfl rfl (i := x18) (ix (by omega) (by omega)) dX7_findWorms_59 ?_
        refine lv_topi (fun x54 e55 => ?_)
        have h56 : 0 ≤ x54.toInt ∧ x54.toInt ≤ 999 := by rw [e55]; exact hf7_placeOf _
        have hp1 : x54.toInt = (f7_placeOf (csF f7_placeOf (kpA f7_sheetOf p2) v7_holes.toInt.toNat (kcN f7_placeOf (kpA f7_sheetOf p2) v7_holes.toInt.toNat k2.toInt.toNat)).toNatClampNeg).toInt := by rw [e55, hcs]
        obtain ⟨hk0, hta9⟩ := ta9_at hTA (by omega)
        refine lv_aload_n hx hb dX7_findWorms_60 rfl (lv_at hl 4 rfl) ?_
        refine va_get (D := D) (ci := 7) (v := .ref (r7 3)) (C := RX7) (T := TX7) (N := 9) hx hb hts w1 hown hK.1 hP 0 rfl rfl 3 (by decide) w7 (fun _ h9 => h9) rfl dX7_findWorms_61 ?_
        refine lv_iload_n hx hb dX7_findWorms_64 rfl (lv_at hl 3 rfl) ?_
        refine va_iald hx hb hK.1 hP 2 1 rfl rfl (i := k3) (ix (by omega) (by omega)) dX7_findWorms_65 ?_
        refine lv_topi (fun x57 e58 => ?_)
        have h59 : 0 ≤ x57.toInt ∧ x57.toInt ≤ 999 := by rw [e58]; exact hf7_placeOf _
        have hp2 : x57.toInt = (f7_placeOf (csF f7_placeOf (kpA f7_sheetOf p2) v7_holes.toInt.toNat ((kcN f7_placeOf (kpA f7_sheetOf p2) v7_holes.toInt.toNat k2.toInt.toNat) - 1)).toNatClampNeg).toInt := by rw [e58, hta9]
        refine lv_isub hx hb dX7_findWorms_66 ?_
        refine lv_topi (fun x60 e61 => ?_)
        try have h62 : x60.toInt = x54.toInt - x57.toInt := ci_sub e61 (by omega) (by omega)
        refine lv_iload_n hx hb dX7_findWorms_67 rfl (lv_at hl 5 rfl) ?_
        refine lv_icmp_gt (tgt := 88) hx hb dX7_findWorms_68 (by decide) (fun c63 => ?_) (fun c63 => ?_)
        · have c63 := ci_lt c63
          have hnw : (kcN f7_placeOf (kpA f7_sheetOf p2) v7_holes.toInt.toNat k2.toInt.toNat) = 0 ∨ p1.toInt < (f7_placeOf (csF f7_placeOf (kpA f7_sheetOf p2) v7_holes.toInt.toNat (kcN f7_placeOf (kpA f7_sheetOf p2) v7_holes.toInt.toNat k2.toInt.toNat)).toNatClampNeg).toInt - (f7_placeOf (csF f7_placeOf (kpA f7_sheetOf p2) v7_holes.toInt.toNat ((kcN f7_placeOf (kpA f7_sheetOf p2) v7_holes.toInt.toNat k2.toInt.toNat) - 1)).toNatClampNeg).toInt ∨ (0 < (kcN f7_placeOf (kpA f7_sheetOf p2) v7_holes.toInt.toNat k2.toInt.toNat) ∧ (g7 (v4.toInt - 1).toNat &&& x24).toInt ≠ 0) := by first | exact Or.inl (by omega) | exact Or.inr (Or.inl (by omega)) | exact Or.inr (Or.inr ⟨by omega, by omega⟩)
          refine lv_aload_n hx hb dX7_findWorms_88 rfl (lv_at hl 4 rfl) ?_
          refine va_get (D := D) (ci := 7) (v := .ref (r7 7)) (C := RX7) (T := TX7) (N := 9) hx hb hts w1 hown hK.1 hP 0 rfl rfl 7 (by decide) w5 (fun _ h9 => h9) rfl dX7_findWorms_89 ?_
          refine lv_aload_n hx hb dX7_findWorms_92 rfl (lv_at hl 4 rfl) ?_
          refine va_get (D := D) (ci := 7) (v := .int v4) (C := RX7) (T := TX7) (N := 9) hx hb hts w1 hown hK.1 hP 0 rfl rfl 8 (by decide) w0 (fun _ h9 => h9) rfl dX7_findWorms_93 ?_
          refine lv_iconst (v := 0) hx hb dX7_findWorms_96 (by decide) ?_
          refine va_iast hx hb hK.1 hP hD hS 5 1 rfl rfl (i := v4) (ix (by omega) (by omega)) dX7_findWorms_97 (fun H locs hP hD hS => ?_)
          obtain ⟨g64, e65⟩ : ∃ y : Nat → Int32, y = upd g7 v4.toNatClampNeg 0 := ⟨_, rfl⟩
          rw [← e65] at hP hD
          obtain ⟨hP, hD⟩ : PD D A [O7 a7 r7 v7_count v7_holes v4, (cI κ (r7 2) 40 f7_sheetOf), (cI κ (r7 3) 40 f7_placeOf), (cI κ (r7 4) 40 f7_byPlace), (cI κ (r7 6) 40 g5), (cI κ (r7 7) 40 g64)] H := ⟨hP, hD⟩
          have hs1 := e65
          refine lv_aload_n hx hb dX7_findWorms_98 rfl (lv_at hl 4 rfl) ?_
          refine lv_dup hx hb dX7_findWorms_99 rfl ?_
          refine va_get (D := D) (ci := 7) (v := .int v4) (C := RX7) (T := TX7) (N := 9) hx hb hts w1 hown hK.1 hP 0 rfl rfl 8 (by decide) w0 (fun _ h9 => h9) rfl dX7_findWorms_100 ?_
          refine lv_iconst (v := 1) hx hb dX7_findWorms_103 (by decide) ?_
          refine lv_iadd hx hb dX7_findWorms_104 ?_
          refine lv_topi (fun x66 e67 => ?_)
          try have h68 : x66.toInt = v4.toInt + (1 : Int32).toInt := ci_add e67 (by omega) (by omega)
          refine va_put (D := D) (ci := 7) (v := .int x66) (ty := .int) (C := RX7) (T := TX7) (N := 9) hx hb hts w1 tyX7 tyX7_ok nmX7 hown hK.1 hP hD hS 0 rfl rfl 8 (by decide) w0 (fun _ h9 => h9) rfl (by decide +kernel) rfl rfl (Nat.le_of_ble_eq_true rfl) dX7_findWorms_105 (fun H locs hP hD hS => ?_)
          obtain ⟨hP, hD⟩ : PD D A [O7 a7 r7 v7_count v7_holes x66, (cI κ (r7 2) 40 f7_sheetOf), (cI κ (r7 3) 40 f7_placeOf), (cI κ (r7 4) 40 f7_byPlace), (cI κ (r7 6) 40 g5), (cI κ (r7 7) 40 g64)] H := ⟨hP, hD⟩
          have h69 : 0 ≤ x66.toInt ∧ x66.toInt ≤ 40 := by omega
          refine lv_aload_n hx hb dX7_findWorms_108 rfl (lv_at hl 4 rfl) ?_
          refine va_get (D := D) (ci := 7) (v := .ref (r7 7)) (C := RX7) (T := TX7) (N := 9) hx hb hts w1 hown hK.1 hP 0 rfl rfl 7 (by decide) w5 (fun _ h9 => h9) rfl dX7_findWorms_109 ?_
          refine lv_aload_n hx hb dX7_findWorms_112 rfl (lv_at hl 4 rfl) ?_
          refine va_get (D := D) (ci := 7) (v := .int x66) (C := RX7) (T := TX7) (N := 9) hx hb hts w1 hown hK.1 hP 0 rfl rfl 8 (by decide) w0 (fun _ h9 => h9) rfl dX7_findWorms_113 ?_
          refine lv_iconst (v := 1) hx hb dX7_findWorms_116 (by decide) ?_
          refine lv_isub hx hb dX7_findWorms_117 ?_
          refine lv_topi (fun x70 e71 => ?_)
          try have h72 : x70.toInt = x66.toInt - (1 : Int32).toInt := ci_sub e71 (by omega) (by omega)
          refine lv_dup2_11 hx hb dX7_findWorms_118 rfl rfl ?_
          refine va_iald hx hb hK.1 hP 5 1 rfl rfl (i := x70) (ix (by omega) (by omega)) dX7_findWorms_119 ?_
          refine lv_topi (fun x73 e74 => ?_)
          have hy9 := e74
          try rw [hs1] at hy9
          refine lv_iload hx hb dX7_findWorms_120 (lv_at hl 0 rfl) ?_
          refine lv_ior hx hb dX7_findWorms_122 ?_
          refine lv_topi (fun x75 e76 => ?_)
          have hz9 := e76
          refine va_iast hx hb hK.1 hP hD hS 5 1 rfl rfl (i := x70) (ix (by omega) (by omega)) dX7_findWorms_123 (fun H locs hP hD hS => ?_)
          obtain ⟨g77, e78⟩ : ∃ y : Nat → Int32, y = upd g64 x70.toNatClampNeg x75 := ⟨_, rfl⟩
          rw [← e78] at hP hD
          obtain ⟨hP, hD⟩ : PD D A [O7 a7 r7 v7_count v7_holes x66, (cI κ (r7 2) 40 f7_sheetOf), (cI κ (r7 3) 40 f7_placeOf), (cI κ (r7 4) 40 f7_byPlace), (cI κ (r7 6) 40 g5), (cI κ (r7 7) 40 g77)] H := ⟨hP, hD⟩
          have hs2 := e78
          try rw [hs1] at hs2
          refine lv_aload_n hx hb dX7_findWorms_124 rfl (lv_at hl 4 rfl) ?_
          refine va_get (D := D) (ci := 7) (v := .ref (r7 6)) (C := RX7) (T := TX7) (N := 9) hx hb hts w1 hown hK.1 hP 0 rfl rfl 6 (by decide) w6 (fun _ h9 => h9) rfl dX7_findWorms_125 ?_
          refine lv_iload hx hb dX7_findWorms_128 (lv_at hl 1 rfl) ?_
          refine lv_aload_n hx hb dX7_findWorms_130 rfl (lv_at hl 4 rfl) ?_
          refine va_get (D := D) (ci := 7) (v := .int x66) (C := RX7) (T := TX7) (N := 9) hx hb hts w1 hown hK.1 hP 0 rfl rfl 8 (by decide) w0 (fun _ h9 => h9) rfl dX7_findWorms_131 ?_
          refine lv_iconst (v := 1) hx hb dX7_findWorms_134 (by decide) ?_
          refine lv_isub hx hb dX7_findWorms_135 ?_
          refine lv_topi (fun x79 e80 => ?_)
          try have h81 : x79.toInt = x66.toInt - (1 : Int32).toInt := ci_sub e80 (by omega) (by omega)
          refine va_iast hx hb hK.1 hP hD hS 4 1 rfl rfl (i := x18) (ix (by omega) (by omega)) dX7_findWorms_136 (fun H locs hP hD hS => ?_)
          obtain ⟨g82, e83⟩ : ∃ y : Nat → Int32, y = upd g5 x18.toNatClampNeg x79 := ⟨_, rfl⟩
          rw [← e83] at hP hD
          obtain ⟨hP, hD⟩ : PD D A [O7 a7 r7 v7_count v7_holes x66, (cI κ (r7 2) 40 f7_sheetOf), (cI κ (r7 3) 40 f7_placeOf), (cI κ (r7 4) 40 f7_byPlace), (cI κ (r7 6) 40 g82), (cI κ (r7 7) 40 g77)] H := ⟨hP, hD⟩
          have h84 : ∀ j : Nat, 0 ≤ (g82 j).toInt ∧ (g82 j).toInt ≤ 39 := by rw [e83]; exact all_upd (P := fun z => 0 ≤ z.toInt ∧ z.toInt ≤ 39) h6 (by omega)
          have hs3 := e83
          refine lv_iload hx hb dX7_findWorms_137 (lv_at hl 1 rfl) ?_
          refine lv_istore_n (lv' := [(3, .int x18), (6, .int x24), (5, .int x18), (4, .int k2), (0, .ref a7), (1, .int p1), (2, .int p2)]) hx hb dX7_findWorms_139 rfl hl (by decide) rfl (fun ls hl => ?_)
          obtain ⟨x85, e86⟩ : ∃ y : Int32, y = k2 + 1 := ⟨_, rfl⟩
          refine lv_iinc (v := x85) (lv' := [(4, .int x85), (3, .int x18), (6, .int x24), (5, .int x18), (0, .ref a7), (1, .int p1), (2, .int p2)]) hx hb dX7_findWorms_140 hl (k := 3) rfl (by rw [e86]; rfl) (by decide) rfl (fun ls hl => ?_)
          try have h87 : x85.toInt = k2.toInt + (1 : Int32).toInt := ci_add e86 (by omega) (by omega)
          refine lv_goto (tgt := 10) hx hb dX7_findWorms_143 (by decide) ?_
          exact ih10 x85 x18 x66 g82 g77 h69 h84 (by omega) (by omega) (by omega) (by omega) (by omega) (by first | exact ta9_start (by decide) (by decide) | exact ta9_skip hTA hk1 (by omega) (by omega) | exact ta9_keep hk1 hcs (by omega) (by omega)) (by first | exact w9_start (by decide) (by omega) | exact w9_skip hTW hk1 (by omega) (by omega) | exact w9_new hTW hk1 (by omega) (by omega) (by omega) hnw (by omega) hs2 (by omega) hy9 hz9 (by rw [hcs]; exact hbt0) hs3 (by rw [hcs]) (by omega) | exact w9_old hTW hk1 (by omega) (by omega) (by omega) hk0 (by omega) (by omega) (by omega) hs2 (by omega) hy9 hz9 (by rw [hcs]; exact hbt0) hs3 (by rw [hcs]) (by omega)) (by omega) _ _ hP hD hS _ (lv_sub hl [0, 1, 4, 5, 6] rfl)
        have c63 := ci_nlt c63
        refine lv_aload_n hx hb dX7_findWorms_71 rfl (lv_at hl 4 rfl) ?_
        refine va_get (D := D) (ci := 7) (v := .ref (r7 7)) (C := RX7) (T := TX7) (N := 9) hx hb hts w1 hown hK.1 hP 0 rfl rfl 7 (by decide) w5 (fun _ h9 => h9) rfl dX7_findWorms_72 ?_
        refine lv_aload_n hx hb dX7_findWorms_75 rfl (lv_at hl 4 rfl) ?_
        refine va_get (D := D) (ci := 7) (v := .int v4) (C := RX7) (T := TX7) (N := 9) hx hb hts w1 hown hK.1 hP 0 rfl rfl 8 (by decide) w0 (fun _ h9 => h9) rfl dX7_findWorms_76 ?_
        refine lv_iconst (v := 1) hx hb dX7_findWorms_79 (by decide) ?_
        refine lv_isub hx hb dX7_findWorms_80 ?_
        refine lv_topi (fun x88 e89 => ?_)
        try have h90 : x88.toInt = v4.toInt - (1 : Int32).toInt := ci_sub e89 (by omega) (by omega)
        refine va_iald hx hb hK.1 hP 5 1 rfl rfl (i := x88) (ix (by omega) (by omega)) dX7_findWorms_81 ?_
        refine lv_topi (fun x91 e92 => ?_)
        have hg1 := ld_at (k := v4) e92 (by omega) (by omega)
        refine lv_iload hx hb dX7_findWorms_82 (lv_at hl 0 rfl) ?_
        refine lv_iand hx hb dX7_findWorms_84 ?_
        refine lv_topi (fun x93 e94 => ?_)
        have hg2 : x93.toInt = (g7 (v4.toInt - 1).toNat &&& x24).toInt := by rw [e94, hg1]
        refine lv_if_eq (tgt := 108) hx hb dX7_findWorms_85 (by decide) (fun c95 => ?_) (fun c95 => ?_)
        · have c95 := ci_eq c95
          refine lv_aload_n hx hb dX7_findWorms_108 rfl (lv_at hl 4 rfl) ?_
          refine va_get (D := D) (ci := 7) (v := .ref (r7 7)) (C := RX7) (T := TX7) (N := 9) hx hb hts w1 hown hK.1 hP 0 rfl rfl 7 (by decide) w5 (fun _ h9 => h9) rfl dX7_findWorms_109 ?_
          refine lv_aload_n hx hb dX7_findWorms_112 rfl (lv_at hl 4 rfl) ?_
          refine va_get (D := D) (ci := 7) (v := .int v4) (C := RX7) (T := TX7) (N := 9) hx hb hts w1 hown hK.1 hP 0 rfl rfl 8 (by decide) w0 (fun _ h9 => h9) rfl dX7_findWorms_113 ?_
          refine lv_iconst (v := 1) hx hb dX7_findWorms_116 (by decide) ?_
          refine lv_isub hx hb dX7_findWorms_117 ?_
          refine lv_topi (fun x96 e97 => ?_)
          try have h98 : x96.toInt = v4.toInt - (1 : Int32).toInt := ci_sub e97 (by omega) (by omega)
          refine lv_dup2_11 hx hb dX7_findWorms_118 rfl rfl ?_
          refine va_iald hx hb hK.1 hP 5 1 rfl rfl (i := x96) (ix (by omega) (by omega)) dX7_findWorms_119 ?_
          refine lv_topi (fun x99 e100 => ?_)
          have hy9 := e100
          try rw [hs1] at hy9
          refine lv_iload hx hb dX7_findWorms_120 (lv_at hl 0 rfl) ?_
          refine lv_ior hx hb dX7_findWorms_122 ?_
          refine lv_topi (fun x101 e102 => ?_)
          have hz9 := e102
          refine va_iast hx hb hK.1 hP hD hS 5 1 rfl rfl (i := x96) (ix (by omega) (by omega)) dX7_findWorms_123 (fun H locs hP hD hS => ?_)
          obtain ⟨g103, e104⟩ : ∃ y : Nat → Int32, y = upd g7 x96.toNatClampNeg x101 := ⟨_, rfl⟩
          rw [← e104] at hP hD
          obtain ⟨hP, hD⟩ : PD D A [O7 a7 r7 v7_count v7_holes v4, (cI κ (r7 2) 40 f7_sheetOf), (cI κ (r7 3) 40 f7_placeOf), (cI κ (r7 4) 40 f7_byPlace), (cI κ (r7 6) 40 g5), (cI κ (r7 7) 40 g103)] H := ⟨hP, hD⟩
          have hs2 := e104
          try rw [hs1] at hs2
          refine lv_aload_n hx hb dX7_findWorms_124 rfl (lv_at hl 4 rfl) ?_
          refine va_get (D := D) (ci := 7) (v := .ref (r7 6)) (C := RX7) (T := TX7) (N := 9) hx hb hts w1 hown hK.1 hP 0 rfl rfl 6 (by decide) w6 (fun _ h9 => h9) rfl dX7_findWorms_125 ?_
          refine lv_iload hx hb dX7_findWorms_128 (lv_at hl 1 rfl) ?_
          refine lv_aload_n hx hb dX7_findWorms_130 rfl (lv_at hl 4 rfl) ?_
          refine va_get (D := D) (ci := 7) (v := .int v4) (C := RX7) (T := TX7) (N := 9) hx hb hts w1 hown hK.1 hP 0 rfl rfl 8 (by decide) w0 (fun _ h9 => h9) rfl dX7_findWorms_131 ?_
          refine lv_iconst (v := 1) hx hb dX7_findWorms_134 (by decide) ?_
          refine lv_isub hx hb dX7_findWorms_135 ?_
          refine lv_topi (fun x105 e106 => ?_)
          try have h107 : x105.toInt = v4.toInt - (1 : Int32).toInt := ci_sub e106 (by omega) (by omega)
          refine va_iast hx hb hK.1 hP hD hS 4 1 rfl rfl (i := x18) (ix (by omega) (by omega)) dX7_findWorms_136 (fun H locs hP hD hS => ?_)
          obtain ⟨g108, e109⟩ : ∃ y : Nat → Int32, y = upd g5 x18.toNatClampNeg x105 := ⟨_, rfl⟩
          rw [← e109] at hP hD
          obtain ⟨hP, hD⟩ : PD D A [O7 a7 r7 v7_count v7_holes v4, (cI κ (r7 2) 40 f7_sheetOf), (cI κ (r7 3) 40 f7_placeOf), (cI κ (r7 4) 40 f7_byPlace), (cI κ (r7 6) 40 g108), (cI κ (r7 7) 40 g103)] H := ⟨hP, hD⟩
          have h110 : ∀ j : Nat, 0 ≤ (g108 j).toInt ∧ (g108 j).toInt ≤ 39 := by rw [e109]; exact all_upd (P := fun z => 0 ≤ z.toInt ∧ z.toInt ≤ 39) h6 (by omega)
          have hs3 := e109
          refine lv_iload hx hb dX7_findWorms_137 (lv_at hl 1 rfl) ?_
          refine lv_istore_n (lv' := [(3, .int x18), (6, .int x24), (5, .int x18), (4, .int k2), (0, .ref a7), (1, .int p1), (2, .int p2)]) hx hb dX7_findWorms_139 rfl hl (by decide) rfl (fun ls hl => ?_)
          obtain ⟨x111, e112⟩ : ∃ y : Int32, y = k2 + 1 := ⟨_, rfl⟩
          refine lv_iinc (v := x111) (lv' := [(4, .int x111), (3, .int x18), (6, .int x24), (5, .int x18), (0, .ref a7), (1, .int p1), (2, .int p2)]) hx hb dX7_findWorms_140 hl (k := 3) rfl (by rw [e112]; rfl) (by decide) rfl (fun ls hl => ?_)
          try have h113 : x111.toInt = k2.toInt + (1 : Int32).toInt := ci_add e112 (by omega) (by omega)
          refine lv_goto (tgt := 10) hx hb dX7_findWorms_143 (by decide) ?_
          exact ih10 x111 x18 v4 g108 g103 h8 h110 (by omega) (by omega) (by omega) (by omega) (by omega) (by first | exact ta9_start (by decide) (by decide) | exact ta9_skip hTA hk1 (by omega) (by omega) | exact ta9_keep hk1 hcs (by omega) (by omega)) (by first | exact w9_start (by decide) (by omega) | exact w9_skip hTW hk1 (by omega) (by omega) | exact w9_new hTW hk1 (by omega) (by omega) (by omega) hnw (by omega) hs2 (by omega) hy9 hz9 (by rw [hcs]; exact hbt0) hs3 (by rw [hcs]) (by omega) | exact w9_old hTW hk1 (by omega) (by omega) (by omega) hk0 (by omega) (by omega) (by omega) hs2 (by omega) hy9 hz9 (by rw [hcs]; exact hbt0) hs3 (by rw [hcs]) (by omega)) (by omega) _ _ hP hD hS _ (lv_sub hl [0, 1, 4, 5, 6] rfl)
        have c95 := ci_ne c95
        have hnw : (kcN f7_placeOf (kpA f7_sheetOf p2) v7_holes.toInt.toNat k2.toInt.toNat) = 0 ∨ p1.toInt < (f7_placeOf (csF f7_placeOf (kpA f7_sheetOf p2) v7_holes.toInt.toNat (kcN f7_placeOf (kpA f7_sheetOf p2) v7_holes.toInt.toNat k2.toInt.toNat)).toNatClampNeg).toInt - (f7_placeOf (csF f7_placeOf (kpA f7_sheetOf p2) v7_holes.toInt.toNat ((kcN f7_placeOf (kpA f7_sheetOf p2) v7_holes.toInt.toNat k2.toInt.toNat) - 1)).toNatClampNeg).toInt ∨ (0 < (kcN f7_placeOf (kpA f7_sheetOf p2) v7_holes.toInt.toNat k2.toInt.toNat) ∧ (g7 (v4.toInt - 1).toNat &&& x24).toInt ≠ 0) := by first | exact Or.inl (by omega) | exact Or.inr (Or.inl (by omega)) | exact Or.inr (Or.inr ⟨by omega, by omega⟩)
        refine lv_aload_n hx hb dX7_findWorms_88 rfl (lv_at hl 4 rfl) ?_
        refine va_get (D := D) (ci := 7) (v := .ref (r7 7)) (C := RX7) (T := TX7) (N := 9) hx hb hts w1 hown hK.1 hP 0 rfl rfl 7 (by decide) w5 (fun _ h9 => h9) rfl dX7_findWorms_89 ?_
        refine lv_aload_n hx hb dX7_findWorms_92 rfl (lv_at hl 4 rfl) ?_
        refine va_get (D := D) (ci := 7) (v := .int v4) (C := RX7) (T := TX7) (N := 9) hx hb hts w1 hown hK.1 hP 0 rfl rfl 8 (by decide) w0 (fun _ h9 => h9) rfl dX7_findWorms_93 ?_
        refine lv_iconst (v := 0) hx hb dX7_findWorms_96 (by decide) ?_
        refine va_iast hx hb hK.1 hP hD hS 5 1 rfl rfl (i := v4) (ix (by omega) (by omega)) dX7_findWorms_97 (fun H locs hP hD hS => ?_)
        obtain ⟨g114, e115⟩ : ∃ y : Nat → Int32, y = upd g7 v4.toNatClampNeg 0 := ⟨_, rfl⟩
        rw [← e115] at hP hD
        obtain ⟨hP, hD⟩ : PD D A [O7 a7 r7 v7_count v7_holes v4, (cI κ (r7 2) 40 f7_sheetOf), (cI κ (r7 3) 40 f7_placeOf), (cI κ (r7 4) 40 f7_byPlace), (cI κ (r7 6) 40 g5), (cI κ (r7 7) 40 g114)] H := ⟨hP, hD⟩
        have hs1 := e115
        refine lv_aload_n hx hb dX7_findWorms_98 rfl (lv_at hl 4 rfl) ?_
        refine lv_dup hx hb dX7_findWorms_99 rfl ?_
        refine va_get (D := D) (ci := 7) (v := .int v4) (C := RX7) (T := TX7) (N := 9) hx hb hts w1 hown hK.1 hP 0 rfl rfl 8 (by decide) w0 (fun _ h9 => h9) rfl dX7_findWorms_100 ?_
        refine lv_iconst (v := 1) hx hb dX7_findWorms_103 (by decide) ?_
        refine lv_iadd hx hb dX7_findWorms_104 ?_
        refine lv_topi (fun x116 e117 => ?_)
        try have h118 : x116.toInt = v4.toInt + (1 : Int32).toInt := ci_add e117 (by omega) (by omega)
        refine va_put (D := D) (ci := 7) (v := .int x116) (ty := .int) (C := RX7) (T := TX7) (N := 9) hx hb hts w1 tyX7 tyX7_ok nmX7 hown hK.1 hP hD hS 0 rfl rfl 8 (by decide) w0 (fun _ h9 => h9) rfl (by decide +kernel) rfl rfl (Nat.le_of_ble_eq_true rfl) dX7_findWorms_105 (fun H locs hP hD hS => ?_)
        obtain ⟨hP, hD⟩ : PD D A [O7 a7 r7 v7_count v7_holes x116, (cI κ (r7 2) 40 f7_sheetOf), (cI κ (r7 3) 40 f7_placeOf), (cI κ (r7 4) 40 f7_byPlace), (cI κ (r7 6) 40 g5), (cI κ (r7 7) 40 g114)] H := ⟨hP, hD⟩
        have h119 : 0 ≤ x116.toInt ∧ x116.toInt ≤ 40 := by omega
        refine lv_aload_n hx hb dX7_findWorms_108 rfl (lv_at hl 4 rfl) ?_
        refine va_get (D := D) (ci := 7) (v := .ref (r7 7)) (C := RX7) (T := TX7) (N := 9) hx hb hts w1 hown hK.1 hP 0 rfl rfl 7 (by decide) w5 (fun _ h9 => h9) rfl dX7_findWorms_109 ?_
        refine lv_aload_n hx hb dX7_findWorms_112 rfl (lv_at hl 4 rfl) ?_
        refine va_get (D := D) (ci := 7) (v := .int x116) (C := RX7) (T := TX7) (N := 9) hx hb hts w1 hown hK.1 hP 0 rfl rfl 8 (by decide) w0 (fun _ h9 => h9) rfl dX7_findWorms_113 ?_
        refine lv_iconst (v := 1) hx hb dX7_findWorms_116 (by decide) ?_
        refine lv_isub hx hb dX7_findWorms_117 ?_
        refine lv_topi (fun x120 e121 => ?_)
        try have h122 : x120.toInt = x116.toInt - (1 : Int32).toInt := ci_sub e121 (by omega) (by omega)
        refine lv_dup2_11 hx hb dX7_findWorms_118 rfl rfl ?_
        refine va_iald hx hb hK.1 hP 5 1 rfl rfl (i := x120) (ix (by omega) (by omega)) dX7_findWorms_119 ?_
        refine lv_topi (fun x123 e124 => ?_)
        have hy9 := e124
        try rw [hs1] at hy9
        refine lv_iload hx hb dX7_findWorms_120 (lv_at hl 0 rfl) ?_
        refine lv_ior hx hb dX7_findWorms_122 ?_
        refine lv_topi (fun x125 e126 => ?_)
        have hz9 := e126
        refine va_iast hx hb hK.1 hP hD hS 5 1 rfl rfl (i := x120) (ix (by omega) (by omega)) dX7_findWorms_123 (fun H locs hP hD hS => ?_)
        obtain ⟨g127, e128⟩ : ∃ y : Nat → Int32, y = upd g114 x120.toNatClampNeg x125 := ⟨_, rfl⟩
        rw [← e128] at hP hD
        obtain ⟨hP, hD⟩ : PD D A [O7 a7 r7 v7_count v7_holes x116, (cI κ (r7 2) 40 f7_sheetOf), (cI κ (r7 3) 40 f7_placeOf), (cI κ (r7 4) 40 f7_byPlace), (cI κ (r7 6) 40 g5), (cI κ (r7 7) 40 g127)] H := ⟨hP, hD⟩
        have hs2 := e128
        try rw [hs1] at hs2
        refine lv_aload_n hx hb dX7_findWorms_124 rfl (lv_at hl 4 rfl) ?_
        refine va_get (D := D) (ci := 7) (v := .ref (r7 6)) (C := RX7) (T := TX7) (N := 9) hx hb hts w1 hown hK.1 hP 0 rfl rfl 6 (by decide) w6 (fun _ h9 => h9) rfl dX7_findWorms_125 ?_
        refine lv_iload hx hb dX7_findWorms_128 (lv_at hl 1 rfl) ?_
        refine lv_aload_n hx hb dX7_findWorms_130 rfl (lv_at hl 4 rfl) ?_
        refine va_get (D := D) (ci := 7) (v := .int x116) (C := RX7) (T := TX7) (N := 9) hx hb hts w1 hown hK.1 hP 0 rfl rfl 8 (by decide) w0 (fun _ h9 => h9) rfl dX7_findWorms_131 ?_
        refine lv_iconst (v := 1) hx hb dX7_findWorms_134 (by decide) ?_
        refine lv_isub hx hb dX7_findWorms_135 ?_
        refine lv_topi (fun x129 e130 => ?_)
        try have h131 : x129.toInt = x116.toInt - (1 : Int32).toInt := ci_sub e130 (by omega) (by omega)
        refine va_iast hx hb hK.1 hP hD hS 4 1 rfl rfl (i := x18) (ix (by omega) (by omega)) dX7_findWorms_136 (fun H locs hP hD hS => ?_)
        obtain ⟨g132, e133⟩ : ∃ y : Nat → Int32, y = upd g5 x18.toNatClampNeg x129 := ⟨_, rfl⟩
        rw [← e133] at hP hD
        obtain ⟨hP, hD⟩ : PD D A [O7 a7 r7 v7_count v7_holes x116, (cI κ (r7 2) 40 f7_sheetOf), (cI κ (r7 3) 40 f7_placeOf), (cI κ (r7 4) 40 f7_byPlace), (cI κ (r7 6) 40 g132), (cI κ (r7 7) 40 g127)] H := ⟨hP, hD⟩
        have h134 : ∀ j : Nat, 0 ≤ (g132 j).toInt ∧ (g132 j).toInt ≤ 39 := by rw [e133]; exact all_upd (P := fun z => 0 ≤ z.toInt ∧ z.toInt ≤ 39) h6 (by omega)
        have hs3 := e133
        refine lv_iload hx hb dX7_findWorms_137 (lv_at hl 1 rfl) ?_
        refine lv_istore_n (lv' := [(3, .int x18), (6, .int x24), (5, .int x18), (4, .int k2), (0, .ref a7), (1, .int p1), (2, .int p2)]) hx hb dX7_findWorms_139 rfl hl (by decide) rfl (fun ls hl => ?_)
        obtain ⟨x135, e136⟩ : ∃ y : Int32, y = k2 + 1 := ⟨_, rfl⟩
        refine lv_iinc (v := x135) (lv' := [(4, .int x135), (3, .int x18), (6, .int x24), (5, .int x18), (0, .ref a7), (1, .int p1), (2, .int p2)]) hx hb dX7_findWorms_140 hl (k := 3) rfl (by rw [e136]; rfl) (by decide) rfl (fun ls hl => ?_)
        try have h137 : x135.toInt = k2.toInt + (1 : Int32).toInt := ci_add e136 (by omega) (by omega)
        refine lv_goto (tgt := 10) hx hb dX7_findWorms_143 (by decide) ?_
        exact ih10 x135 x18 x116 g132 g127 h119 h134 (by omega) (by omega) (by omega) (by omega) (by omega) (by first | exact ta9_start (by decide) (by decide) | exact ta9_skip hTA hk1 (by omega) (by omega) | exact ta9_keep hk1 hcs (by omega) (by omega)) (by first | exact w9_start (by decide) (by omega) | exact w9_skip hTW hk1 (by omega) (by omega) | exact w9_new hTW hk1 (by omega) (by omega) (by omega) hnw (by omega) hs2 (by omega) hy9 hz9 (by rw [hcs]; exact hbt0) hs3 (by rw [hcs]) (by omega) | exact w9_old hTW hk1 (by omega) (by omega) (by omega) hk0 (by omega) (by omega) (by omega) hs2 (by omega) hy9 hz9 (by rw [hcs]; exact hbt0) hs3 (by rw [hcs]) (by omega)) (by omega) _ _ hP hD hS _ (lv_sub hl [0, 1, 4, 5, 6] rfl)
      have c28 := ci_eq c28
      have hk1 := hks (kpa_no hka (by omega))
      refine lv_goto (tgt := 140) hx hb dX7_findWorms_46 (by decide) ?_
      obtain ⟨x138, e139⟩ : ∃ y : Int32, y = k2 + 1 := ⟨_, rfl⟩
      refine lv_iinc (v := x138) (lv' := [(4, .int x138), (6, .int x24), (5, .int x18), (3, .int k3), (0, .ref a7), (1, .int p1), (2, .int p2)]) hx hb dX7_findWorms_140 hl (k := 2) rfl (by rw [e139]; rfl) (by decide) rfl (fun ls hl => ?_)
      try have h140 : x138.toInt = k2.toInt + (1 : Int32).toInt := ci_add e139 (by omega) (by omega)
      refine lv_goto (tgt := 10) hx hb dX7_findWorms_143 (by decide) ?_
      exact ih10 x138 k3 v4 g5 g7 h8 h6 (by omega) (by omega) (by omega) (by omega) (by omega) (by first | exact ta9_start (by decide) (by decide) | exact ta9_skip hTA hk1 (by omega) (by omega) | exact ta9_keep hk1 hcs (by omega) (by omega)) (by first | exact w9_start (by decide) (by omega) | exact w9_skip hTW hk1 (by omega) (by omega) | exact w9_new hTW hk1 (by omega) (by omega) (by omega) hnw (by omega) hs2 (by omega) hy9 hz9 (by rw [hcs]; exact hbt0) hs3 (by rw [hcs]) (by omega) | exact w9_old hTW hk1 (by omega) (by omega) (by omega) hk0 (by omega) (by omega) (by omega) hs2 (by omega) hy9 hz9 (by rw [hcs]; exact hbt0) hs3 (by rw [hcs]) (by omega)) (by omega) _ _ hP hD hS _ (lv_sub hl [0, 3, 4, 5, 6] rfl)
  exact lp10 ((v7_holes.toInt - (0 : Int32).toInt).toNat + 1) 0 (-1) 0 f7_wormOf f7_wormSheets h1 hf7_wormOf (by omega) (by omega) (by omega) (by omega) (by omega) (by first | exact ta9_start (by decide) (by decide) | exact ta9_skip hTA hk1 (by omega) (by omega) | exact ta9_keep hk1 hcs (by omega) (by omega)) (by first | exact w9_start (by decide) (by omega) | exact w9_skip hTW hk1 (by omega) (by omega) | exact w9_new hTW hk1 (by omega) (by omega) (by omega) hnw (by omega) hs2 (by omega) hy9 hz9 (by rw [hcs]; exact hbt0) hs3 (by rw [hcs]) (by omega) | exact w9_old hTW hk1 (by omega) (by omega) (by omega) hk0 (by omega) (by omega) (by omega) hs2 (by omega) hy9 hz9 (by rw [hcs]; exact hbt0) hs3 (by rw [hcs]) (by omega)) (by omega) _ _ hP hD hS _ hl
