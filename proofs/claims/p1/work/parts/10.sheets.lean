set_option maxHeartbeats 4000000 in
set_option maxRecDepth 100000 in
theorem k_X7_isSheet (l : Launch) (D : va_G) (κ : Nat → ClassId) (β : Nat) (a7 : Nat) (r7 : Nat → Nat) (v7_count : Int32) (v7_holes : Int32) (v7_worms : Int32) (sz : Nat) (p1 : Int32) (i1 : Rg 0 8 v7_count) (i2 : Rg 0 40 v7_holes) (i3 : Rg 0 40 v7_worms) (i4 : v7_count.toInt = 0) (i5 : v7_holes.toInt = 0) (i6 : v7_worms.toInt = 0) : Met l yX7_isSheet wsX7_isSheet ({ frames := 1, cells := 0, slots := 0, locals := 22 } : Room) (PcK D κ β [O7 a7 r7 v7_count v7_holes v7_worms] sz [.ref a7, .int p1]) (QiK D (fun (r : Int32) (u : Unit) => (r.toInt = 1 ∧ 0 ≤ p1.toInt ∧ p1.toInt < v7_count.toInt) ∨ (r.toInt = 0 ∧ (p1.toInt < 0 ∨ v7_count.toInt ≤ p1.toInt))) (fun (u : Unit) => [O7 a7 r7 v7_count v7_holes v7_worms]) [O7 a7 r7 v7_count v7_holes v7_worms] sz) 0 0 (va_A [O7 a7 r7 v7_count v7_holes v7_worms] sz) := by
  refine ofK_z (cc := cX7_isSheet) (maxL := 2) (own := RX7) (by decide) rfl rfl (Nat.le_of_ble_eq_true rfl) ?_
  intro p e s m args below meth c Q A ls hsz hx hb hml hts hown hK hA hAB hP hD hl ret
  have hS : va_S A s.heap s.heap [] := va_S.rf
  have hl : lv_has ls 2 [(0, .ref a7), (1, .int p1)] := hl
  have w0 := hts (.fieldLink RX7 30 "OlderSkin$Sheets" "count" "I") (List.mem_of_getElem? (i := 1) rfl)
  have w1 := (fun w h => List.mem_cons_of_mem _ (List.mem_append_right _ h) : ∀ w ∈ u_ws RX7 TX7 9, w ∈ wsX7_isSheet)
  have w2 := hts (.initialized RX11) (List.mem_of_getElem? (i := 3) rfl)
  have w3 := hts (.static yX11_within) (List.mem_of_getElem? (i := 2) rfl)
  have w4 := hK.2.1 ("OlderSkin$Sheets", 34, ⟨"OlderSkin", "within", "(III)Z"⟩, "OlderSkin") (by decide +kernel)
  have l0 : (0 : Int32).toInt = 0 := by decide
  have l1 : (1 : Int32).toInt = 1 := by decide
  have i1 : 0 ≤ v7_count.toInt ∧ v7_count.toInt ≤ 8 := i1
  refine lv_iload_n hx hb dX7_isSheet_0 rfl (lv_at hl 1 rfl) ?_
  refine lv_iconst (v := 0) hx hb dX7_isSheet_1 (by decide) ?_
  refine lv_aload_n hx hb dX7_isSheet_2 rfl (lv_at hl 0 rfl) ?_
  refine va_get (D := D) (ci := 7) (v := .int v7_count) (C := RX7) (T := TX7) (N := 9) hx hb hts w1 hown hK.1 hP 0 rfl rfl 1 (by decide) w0 (fun _ h9 => h9) rfl dX7_isSheet_3 ?_
  refine lv_iconst (v := 1) hx hb dX7_isSheet_6 (by decide) ?_
  refine lv_isub hx hb dX7_isSheet_7 ?_
  refine lv_topi (fun x1 e2 => ?_)
  try have h3 : x1.toInt = v7_count.toInt - (1 : Int32).toInt := ci_sub e2 (by omega) (by omega)
  refine kcm_i hA hAB hP hD hS [false] rfl (fun _ => rfl) (fun hPc hDc => va_runSN (As := [.int p1, .int 0, .int x1]) (rest := []) ⟨hx, hb, hml, hown, hts⟩ (k_X11_within l D κ β s.heap.size p1 0 x1) ⟨va_cnB 3 hts gX7_isSheet_X11_within_n34 rfl rfl rfl w4 w2 (by decide +kernel) ⟨Nat.le_of_ble_eq_true rfl, Nat.le_of_ble_eq_true rfl⟩, w3, trivial⟩ (pk_S hK hS hAB hPc hDc) rfl rfl hl.1 rfl (lv_room (Nat.le_of_ble_eq_true rfl)) dX7_isSheet_8 ⟨Nat.le_of_ble_eq_true rfl, Nat.le_of_ble_eq_true rfl⟩) (fun x4 u5 H locs hw hPD hS => ?_)
  have h6 : (x4.toInt = 1 ∧ (0 : Int32).toInt ≤ p1.toInt ∧ p1.toInt ≤ x1.toInt) ∨ (x4.toInt = 0 ∧ (p1.toInt < (0 : Int32).toInt ∨ x1.toInt < p1.toInt)) := hw
  obtain ⟨hP, hD⟩ : PD D A [O7 a7 r7 v7_count v7_holes v7_worms] H := hPD
  have hpo : (x4.toInt = 1 ∧ 0 ≤ p1.toInt ∧ p1.toInt < v7_count.toInt) ∨ (x4.toInt = 0 ∧ (p1.toInt < 0 ∨ v7_count.toInt ≤ p1.toInt)) := (by omega)
  exact ret _ _ _ _ x4 () dX7_isSheet_11 (by omega) hpo hP hD hS
set_option maxHeartbeats 4000000 in
set_option maxRecDepth 100000 in
theorem k_X7_isHole (l : Launch) (D : va_G) (κ : Nat → ClassId) (β : Nat) (a7 : Nat) (r7 : Nat → Nat) (v7_count : Int32) (v7_holes : Int32) (v7_worms : Int32) (sz : Nat) (p1 : Int32) (i1 : Rg 0 8 v7_count) (i2 : Rg 0 40 v7_holes) (i3 : Rg 0 40 v7_worms) (i4 : v7_count.toInt = 0) (i5 : v7_holes.toInt = 0) (i6 : v7_worms.toInt = 0) : Met l yX7_isHole wsX7_isHole ({ frames := 1, cells := 0, slots := 0, locals := 22 } : Room) (PcK D κ β [O7 a7 r7 v7_count v7_holes v7_worms] sz [.ref a7, .int p1]) (QiK D (fun (r : Int32) (u : Unit) => (r.toInt = 1 ∧ 0 ≤ p1.toInt ∧ p1.toInt < v7_holes.toInt) ∨ (r.toInt = 0 ∧ (p1.toInt < 0 ∨ v7_holes.toInt ≤ p1.toInt))) (fun (u : Unit) => [O7 a7 r7 v7_count v7_holes v7_worms]) [O7 a7 r7 v7_count v7_holes v7_worms] sz) 0 0 (va_A [O7 a7 r7 v7_count v7_holes v7_worms] sz) := by
  refine ofK_z (cc := cX7_isHole) (maxL := 2) (own := RX7) (by decide) rfl rfl (Nat.le_of_ble_eq_true rfl) ?_
  intro p e s m args below meth c Q A ls hsz hx hb hml hts hown hK hA hAB hP hD hl ret
  have hS : va_S A s.heap s.heap [] := va_S.rf
  have hl : lv_has ls 2 [(0, .ref a7), (1, .int p1)] := hl
  have w0 := hts (.fieldLink RX7 38 "OlderSkin$Sheets" "holes" "I") (List.mem_of_getElem? (i := 1) rfl)
  have w1 := (fun w h => List.mem_cons_of_mem _ (List.mem_append_right _ h) : ∀ w ∈ u_ws RX7 TX7 9, w ∈ wsX7_isHole)
  have w2 := hts (.initialized RX11) (List.mem_of_getElem? (i := 3) rfl)
  have w3 := hts (.static yX11_within) (List.mem_of_getElem? (i := 2) rfl)
  have w4 := hK.2.1 ("OlderSkin$Sheets", 34, ⟨"OlderSkin", "within", "(III)Z"⟩, "OlderSkin") (by decide +kernel)
  have l0 : (0 : Int32).toInt = 0 := by decide
  have l1 : (1 : Int32).toInt = 1 := by decide
  have i2 : 0 ≤ v7_holes.toInt ∧ v7_holes.toInt ≤ 40 := i2
  refine lv_iload_n hx hb dX7_isHole_0 rfl (lv_at hl 1 rfl) ?_
  refine lv_iconst (v := 0) hx hb dX7_isHole_1 (by decide) ?_
  refine lv_aload_n hx hb dX7_isHole_2 rfl (lv_at hl 0 rfl) ?_
  refine va_get (D := D) (ci := 7) (v := .int v7_holes) (C := RX7) (T := TX7) (N := 9) hx hb hts w1 hown hK.1 hP 0 rfl rfl 5 (by decide) w0 (fun _ h9 => h9) rfl dX7_isHole_3 ?_
  refine lv_iconst (v := 1) hx hb dX7_isHole_6 (by decide) ?_
  refine lv_isub hx hb dX7_isHole_7 ?_
  refine lv_topi (fun x1 e2 => ?_)
  try have h3 : x1.toInt = v7_holes.toInt - (1 : Int32).toInt := ci_sub e2 (by omega) (by omega)
  refine kcm_i hA hAB hP hD hS [false] rfl (fun _ => rfl) (fun hPc hDc => va_runSN (As := [.int p1, .int 0, .int x1]) (rest := []) ⟨hx, hb, hml, hown, hts⟩ (k_X11_within l D κ β s.heap.size p1 0 x1) ⟨va_cnB 3 hts gX7_isHole_X11_within_n34 rfl rfl rfl w4 w2 (by decide +kernel) ⟨Nat.le_of_ble_eq_true rfl, Nat.le_of_ble_eq_true rfl⟩, w3, trivial⟩ (pk_S hK hS hAB hPc hDc) rfl rfl hl.1 rfl (lv_room (Nat.le_of_ble_eq_true rfl)) dX7_isHole_8 ⟨Nat.le_of_ble_eq_true rfl, Nat.le_of_ble_eq_true rfl⟩) (fun x4 u5 H locs hw hPD hS => ?_)
  have h6 : (x4.toInt = 1 ∧ (0 : Int32).toInt ≤ p1.toInt ∧ p1.toInt ≤ x1.toInt) ∨ (x4.toInt = 0 ∧ (p1.toInt < (0 : Int32).toInt ∨ x1.toInt < p1.toInt)) := hw
  obtain ⟨hP, hD⟩ : PD D A [O7 a7 r7 v7_count v7_holes v7_worms] H := hPD
  have hpo : (x4.toInt = 1 ∧ 0 ≤ p1.toInt ∧ p1.toInt < v7_holes.toInt) ∨ (x4.toInt = 0 ∧ (p1.toInt < 0 ∨ v7_holes.toInt ≤ p1.toInt)) := (by omega)
  exact ret _ _ _ _ x4 () dX7_isHole_11 (by omega) hpo hP hD hS
set_option maxHeartbeats 4000000 in
set_option maxRecDepth 100000 in
theorem k_X7_all (l : Launch) (D : va_G) (κ : Nat → ClassId) (β : Nat) (a7 : Nat) (r7 : Nat → Nat) (v7_count : Int32) (v7_holes : Int32) (v7_worms : Int32) (sz : Nat) (i1 : Rg 0 8 v7_count) (i2 : Rg 0 40 v7_holes) (i3 : Rg 0 40 v7_worms) (i4 : v7_count.toInt = 0) (i5 : v7_holes.toInt = 0) (i6 : v7_worms.toInt = 0) : Met l yX7_all wsX7_all ({ frames := 0, cells := 0, slots := 0, locals := 0 } : Room) (PcK D κ β [O7 a7 r7 v7_count v7_holes v7_worms] sz [.ref a7]) (QiK D (fun (r : Int32) (u : Unit) => (0 ≤ r.toInt ∧ r.toInt ≤ 255) ∧ (r.toInt = 0)) (fun (u : Unit) => [O7 a7 r7 v7_count v7_holes v7_worms]) [O7 a7 r7 v7_count v7_holes v7_worms] sz) 0 0 (va_A [O7 a7 r7 v7_count v7_holes v7_worms] sz) := by
  refine ofK_i (cc := cX7_all) (maxL := 1) (own := RX7) (by decide) rfl rfl (Nat.le_of_ble_eq_true rfl) ?_
  intro p e s m args below meth c Q A ls hsz hx hb hml hts hown hK hA hAB hP hD hl ret
  have hS : va_S A s.heap s.heap [] := va_S.rf
  have hl : lv_has ls 1 [(0, .ref a7)] := hl
  have w0 := hts (.fieldLink RX7 30 "OlderSkin$Sheets" "count" "I") (List.mem_of_getElem? (i := 1) rfl)
  have w1 := (fun w h => List.mem_cons_of_mem _ (List.mem_append_right _ h) : ∀ w ∈ u_ws RX7 TX7 9, w ∈ wsX7_all)
  have l0 : (1 : Int32).toInt = 1 := by decide
  have i1 : 0 ≤ v7_count.toInt ∧ v7_count.toInt ≤ 8 := i1
  refine lv_iconst (v := 1) hx hb dX7_all_0 (by decide) ?_
  refine lv_aload_n hx hb dX7_all_1 rfl (lv_at hl 0 rfl) ?_
  refine va_get (D := D) (ci := 7) (v := .int v7_count) (C := RX7) (T := TX7) (N := 9) hx hb hts w1 hown hK.1 hP 0 rfl rfl 1 (by decide) w0 (fun _ h9 => h9) rfl dX7_all_2 ?_
  refine lv_ishl hx hb dX7_all_5 ?_
  refine lv_topi (fun x1 e2 => ?_)
  have hsh := shl_rng e2 (by omega) (by omega)
  have hz0 := fr_shl e2
  refine lv_iconst (v := 1) hx hb dX7_all_6 (by decide) ?_
  refine lv_isub hx hb dX7_all_7 ?_
  refine lv_topi (fun x3 e4 => ?_)
  try have h5 : x3.toInt = x1.toInt - (1 : Int32).toInt := ci_sub e4 (by omega) (by omega)
  have hpo : (0 ≤ x3.toInt ∧ x3.toInt ≤ 255) ∧ (x3.toInt = 0) := ⟨(by omega), (by omega)⟩
  exact ret _ _ _ _ x3 () dX7_all_8 hpo hP hD hS
set_option maxHeartbeats 4000000 in
set_option maxRecDepth 100000 in
theorem k_X7_add (l : Launch) (D : va_G) (κ : Nat → ClassId) (β : Nat) (a7 : Nat) (r7 : Nat → Nat) (v7_count : Int32) (v7_holes : Int32) (v7_worms : Int32) (f7_ages : Nat → Int32) (sz : Nat) (p1 : Int32) (i1 : Rg 0 8 v7_count) (i2 : Rg 0 40 v7_holes) (i3 : Rg 0 40 v7_worms) (i4 : v7_count.toInt = 0) (i5 : v7_holes.toInt = 0) (i6 : v7_worms.toInt = 0) : Met l yX7_add wsX7_add ({ frames := 0, cells := 0, slots := 0, locals := 0 } : Room) (PcK D κ β [O7 a7 r7 v7_count v7_holes v7_worms, (cI κ (r7 0) 8 f7_ages)] sz [.ref a7, .int p1]) (QiK D (fun (r : Int32) (u : Int32 × (Nat → Int32)) => (0 ≤ u.1.toInt ∧ u.1.toInt ≤ 8) ∧ ((v7_count.toInt = 8 ∧ r.toInt = -3 ∧ u.1.toInt = v7_count.toInt) ∨ (v7_count.toInt < 8 ∧ r.toInt = v7_count.toInt ∧ u.1.toInt = v7_count.toInt + 1))) (fun (u : Int32 × (Nat → Int32)) => [O7 a7 r7 u.1 v7_holes v7_worms, (cI κ (r7 0) 8 u.2)]) [O7 a7 r7 v7_count v7_holes v7_worms, (cI κ (r7 0) 8 f7_ages)] sz) 0 0 (va_A [O7 a7 r7 v7_count v7_holes v7_worms, (cI κ (r7 0) 8 f7_ages)] sz) := by
  refine ofK_i (cc := cX7_add) (maxL := 2) (own := RX7) (by decide) rfl rfl (Nat.le_of_ble_eq_true rfl) ?_
  intro p e s m args below meth c Q A ls hsz hx hb hml hts hown hK hA hAB hP hD hl ret
  have hS : va_S A s.heap s.heap [] := va_S.rf
  have hl : lv_has ls 2 [(0, .ref a7), (1, .int p1)] := hl
  have w0 := hts (.fieldLink RX7 30 "OlderSkin$Sheets" "count" "I") (List.mem_of_getElem? (i := 1) rfl)
  have w1 := (fun w h => List.mem_cons_of_mem _ (List.mem_append_right _ h) : ∀ w ∈ u_ws RX7 TX7 9, w ∈ wsX7_add)
  have w2 := hts (.fieldLink RX7 9 "OlderSkin$Sheets" "ages" "[I") (List.mem_of_getElem? (i := 2) rfl)
  have l0 : (8 : Int32).toInt = 8 := by decide
  have l1 : (0 : Int32).toInt = 0 := by decide
  have l2 : (1 : Int32).toInt = 1 := by decide
  have l3 : ((-3) : Int32).toInt = -3 := by decide
  have i1 : 0 ≤ v7_count.toInt ∧ v7_count.toInt ≤ 8 := i1
  refine lv_aload_n hx hb dX7_add_0 rfl (lv_at hl 0 rfl) ?_
  refine va_get (D := D) (ci := 7) (v := .int v7_count) (C := RX7) (T := TX7) (N := 9) hx hb hts w1 hown hK.1 hP 0 rfl rfl 1 (by decide) w0 (fun _ h9 => h9) rfl dX7_add_1 ?_
  refine lv_aload_n hx hb dX7_add_4 rfl (lv_at hl 0 rfl) ?_
  refine va_get (D := D) (ci := 7) (v := .ref (r7 0)) (C := RX7) (T := TX7) (N := 9) hx hb hts w1 hown hK.1 hP 0 rfl rfl 0 (by decide) w2 (fun _ h9 => h9) rfl dX7_add_5 ?_
  refine va_alen hx hb hK.1 hP 1 1 rfl rfl (v := 8) rfl dX7_add_8 ?_
  refine lv_icmp_ne (tgt := 15) hx hb dX7_add_9 (by decide) (fun c1 => ?_) (fun c1 => ?_)
  · have c1 := ci_ne c1
    refine lv_aload_n hx hb dX7_add_15 rfl (lv_at hl 0 rfl) ?_
    refine va_get (D := D) (ci := 7) (v := .ref (r7 0)) (C := RX7) (T := TX7) (N := 9) hx hb hts w1 hown hK.1 hP 0 rfl rfl 0 (by decide) w2 (fun _ h9 => h9) rfl dX7_add_16 ?_
    refine lv_aload_n hx hb dX7_add_19 rfl (lv_at hl 0 rfl) ?_
    refine va_get (D := D) (ci := 7) (v := .int v7_count) (C := RX7) (T := TX7) (N := 9) hx hb hts w1 hown hK.1 hP 0 rfl rfl 1 (by decide) w0 (fun _ h9 => h9) rfl dX7_add_20 ?_
    refine lv_iload_n hx hb dX7_add_23 rfl (lv_at hl 1 rfl) ?_
    refine va_iast hx hb hK.1 hP hD hS 1 1 rfl rfl (i := v7_count) (ix (by omega) (by omega)) dX7_add_24 (fun H locs hP hD hS => ?_)
    obtain ⟨g2, e3⟩ : ∃ y : Nat → Int32, y = upd f7_ages v7_count.toNatClampNeg p1 := ⟨_, rfl⟩
    rw [← e3] at hP hD
    obtain ⟨hP, hD⟩ : PD D A [O7 a7 r7 v7_count v7_holes v7_worms, (cI κ (r7 0) 8 g2)] H := ⟨hP, hD⟩
    refine lv_aload_n hx hb dX7_add_25 rfl (lv_at hl 0 rfl) ?_
    refine lv_dup hx hb dX7_add_26 rfl ?_
    refine va_get (D := D) (ci := 7) (v := .int v7_count) (C := RX7) (T := TX7) (N := 9) hx hb hts w1 hown hK.1 hP 0 rfl rfl 1 (by decide) w0 (fun _ h9 => h9) rfl dX7_add_27 ?_
    refine lv_dup_x1 hx hb dX7_add_30 rfl rfl ?_
    refine lv_iconst (v := 1) hx hb dX7_add_31 (by decide) ?_
    refine lv_iadd hx hb dX7_add_32 ?_
    refine lv_topi (fun x4 e5 => ?_)
    try have h6 : x4.toInt = v7_count.toInt + (1 : Int32).toInt := ci_add e5 (by omega) (by omega)
    refine va_put (D := D) (ci := 7) (v := .int x4) (ty := .int) (C := RX7) (T := TX7) (N := 9) hx hb hts w1 tyX7 tyX7_ok nmX7 hown hK.1 hP hD hS 0 rfl rfl 1 (by decide) w0 (fun _ h9 => h9) rfl (by decide +kernel) rfl rfl (Nat.le_of_ble_eq_true rfl) dX7_add_33 (fun H locs hP hD hS => ?_)
    obtain ⟨hP, hD⟩ : PD D A [O7 a7 r7 x4 v7_holes v7_worms, (cI κ (r7 0) 8 g2)] H := ⟨hP, hD⟩
    have h7 : 0 ≤ x4.toInt ∧ x4.toInt ≤ 8 := by omega
    have hpo : (0 ≤ x4.toInt ∧ x4.toInt ≤ 8) ∧ ((v7_count.toInt = 8 ∧ v7_count.toInt = -3 ∧ x4.toInt = v7_count.toInt) ∨ (v7_count.toInt < 8 ∧ v7_count.toInt = v7_count.toInt ∧ x4.toInt = v7_count.toInt + 1)) := ⟨h7, (by omega)⟩
    exact ret _ _ _ _ v7_count (x4, g2) dX7_add_36 hpo hP hD hS
  have c1 := ci_eq c1
  refine lv_bipush (v := (-3)) hx hb dX7_add_12 (by decide) ?_
  have hpo : (0 ≤ v7_count.toInt ∧ v7_count.toInt ≤ 8) ∧ ((v7_count.toInt = 8 ∧ ((-3) : Int32).toInt = -3 ∧ v7_count.toInt = v7_count.toInt) ∨ (v7_count.toInt < 8 ∧ ((-3) : Int32).toInt = v7_count.toInt ∧ v7_count.toInt = v7_count.toInt + 1)) := ⟨i1, (by omega)⟩
  exact ret _ _ _ _ (-3) (v7_count, f7_ages) dX7_add_14 hpo hP hD hS
set_option maxHeartbeats 4000000 in
set_option maxRecDepth 100000 in
theorem k_X7_addHole (l : Launch) (D : va_G) (κ : Nat → ClassId) (β : Nat) (a7 : Nat) (r7 : Nat → Nat) (v7_count : Int32) (v7_holes : Int32) (v7_worms : Int32) (sz : Nat) (p1 : Int32) (p2 : Int32) (i1 : Rg 0 8 v7_count) (i2 : Rg 0 40 v7_holes) (i3 : Rg 0 40 v7_worms) (i4 : (1 : Int) ≤ 0) : Met l yX7_addHole wsX7_addHole ({ frames := 1, cells := 0, slots := 0, locals := 30 } : Room) (PcK D κ β [O7 a7 r7 v7_count v7_holes v7_worms] sz [.ref a7, .int p1, .int p2]) (QiK D (fun (r : Int32) (u : Unit) => True) (fun (u : Unit) => [O7 a7 r7 v7_count v7_holes v7_worms]) [O7 a7 r7 v7_count v7_holes v7_worms] sz) 0 0 (va_A [O7 a7 r7 v7_count v7_holes v7_worms] sz) := by
  refine ofK_i (cc := cX7_addHole) (maxL := 4) (own := RX7) (by decide) rfl rfl (Nat.le_of_ble_eq_true rfl) ?_
  intro p e s m args below meth c Q A ls hsz hx hb hml hts hown hK hA hAB hP hD hl ret
  have hS : va_S A s.heap s.heap [] := va_S.rf
  have hl : lv_has ls 4 [(0, .ref a7), (1, .int p1), (2, .int p2)] := hl
  have i2 : 0 ≤ v7_holes.toInt ∧ v7_holes.toInt ≤ 40 := i2
  exfalso
  omega
set_option maxHeartbeats 4000000 in
set_option maxRecDepth 100000 in
theorem k_X7_findWorms (l : Launch) (D : va_G) (κ : Nat → ClassId) (β : Nat) (a7 : Nat) (r7 : Nat → Nat) (v7_count : Int32) (v7_holes : Int32) (v7_worms : Int32) (sz : Nat) (p1 : Int32) (p2 : Int32) (i1 : Rg 0 8 v7_count) (i2 : Rg 0 40 v7_holes) (i3 : Rg 0 40 v7_worms) (i4 : v7_count.toInt = 0) (i5 : v7_holes.toInt = 0) (i6 : v7_worms.toInt = 0) : Met l yX7_findWorms wsX7_findWorms ({ frames := 0, cells := 0, slots := 0, locals := 0 } : Room) (PcK D κ β [O7 a7 r7 v7_count v7_holes v7_worms] sz [.ref a7, .int p1, .int p2]) (QvK D (fun (u : Int32) => (0 ≤ u.toInt ∧ u.toInt ≤ 40) ∧ (u.toInt = 0)) (fun (u : Int32) => [O7 a7 r7 v7_count v7_holes u]) [O7 a7 r7 v7_count v7_holes v7_worms] sz) 0 0 (va_A [O7 a7 r7 v7_count v7_holes v7_worms] sz) := by
  refine ofK_v (cc := cX7_findWorms) (maxL := 7) (own := RX7) (by decide) rfl rfl (Nat.le_of_ble_eq_true rfl) ?_
  intro p e s m args below meth c Q A ls hsz hx hb hml hts hown hK hA hAB hP hD hl hname ret
  have hS : va_S A s.heap s.heap [] := va_S.rf
  have hl : lv_has ls 7 [(0, .ref a7), (1, .int p1), (2, .int p2)] := hl
  have w0 := hts (.fieldLink RX7 41 "OlderSkin$Sheets" "worms" "I") (List.mem_of_getElem? (i := 1) rfl)
  have w1 := (fun w h => List.mem_cons_of_mem _ (List.mem_append_right _ h) : ∀ w ∈ u_ws RX7 TX7 9, w ∈ wsX7_findWorms)
  have w2 := hts (.fieldLink RX7 38 "OlderSkin$Sheets" "holes" "I") (List.mem_of_getElem? (i := 2) rfl)
  have l0 : (0 : Int32).toInt = 0 := by decide
  have l1 : ((-1) : Int32).toInt = -1 := by decide
  have i2 : 0 ≤ v7_holes.toInt ∧ v7_holes.toInt ≤ 40 := i2
  have i3 : 0 ≤ v7_worms.toInt ∧ v7_worms.toInt ≤ 40 := i3
  refine lv_aload_n hx hb dX7_findWorms_0 rfl (lv_at hl 0 rfl) ?_
  refine lv_iconst (v := 0) hx hb dX7_findWorms_1 (by decide) ?_
  refine va_put (D := D) (ci := 7) (v := .int 0) (ty := .int) (C := RX7) (T := TX7) (N := 9) hx hb hts w1 tyX7 tyX7_ok nmX7 hown hK.1 hP hD hS 0 rfl rfl 8 (by decide) w0 (fun _ h9 => h9) rfl (by decide +kernel) rfl rfl (Nat.le_of_ble_eq_true rfl) dX7_findWorms_2 (fun H locs hP hD hS => ?_)
  obtain ⟨hP, hD⟩ : PD D A [O7 a7 r7 v7_count v7_holes 0] H := ⟨hP, hD⟩
  have h1 : 0 ≤ (0 : Int32).toInt ∧ (0 : Int32).toInt ≤ 40 := by omega
  refine lv_iconst (v := (-1)) hx hb dX7_findWorms_5 (by decide) ?_
  refine lv_istore_n (lv' := [(3, .int (-1)), (0, .ref a7), (1, .int p1), (2, .int p2)]) hx hb dX7_findWorms_6 rfl hl (by decide) rfl (fun ls hl => ?_)
  refine lv_iconst (v := 0) hx hb dX7_findWorms_7 (by decide) ?_
  refine lv_istore (lv' := [(4, .int 0), (3, .int (-1)), (0, .ref a7), (1, .int p1), (2, .int p2)]) hx hb dX7_findWorms_8 hl (by decide) rfl (fun ls hl => ?_)
  have lp10 : ∀ (n10 : Nat), (0 ≤ (0 : Int32).toInt) → (-1 ≤ ((-1) : Int32).toInt ∧ ((-1) : Int32).toInt ≤ 39) → ((0 : Int32).toInt ≤ (0 : Int32).toInt) → (((-1) : Int32).toInt < 0 ∨ 1 ≤ (0 : Int32).toInt) → (v7_holes.toInt - (0 : Int32).toInt).toNat < n10 → ∀ (H : Heap) (locs : List Loc), va_P D vwCl [O7 a7 r7 v7_count v7_holes 0] H → va_D A [O7 a7 r7 v7_count v7_holes 0] → va_S A s.heap H locs → ∀ ls : Array Slot, lv_has ls 7 [(4, .int 0), (3, .int (-1)), (0, .ref a7), (1, .int p1), (2, .int p2)] → W p l e ({ frames := 0, cells := 0, slots := 0, locals := 0 } : Room) s m args below meth c H locs 0 0 Q (F0 m 10 ls []) := by
    intro n10
    induction n10 with
    | zero =>
      intro h2 h3 h4 h5 m6
      exact absurd m6 (Nat.not_lt_zero _)
    | succ n10 ih10 =>
      intro h2 h3 h4 h5 m6 H locs hP hD hS ls hl
      refine lv_iload hx hb dX7_findWorms_10 (lv_at hl 0 rfl) ?_
      refine lv_aload_n hx hb dX7_findWorms_12 rfl (lv_at hl 2 rfl) ?_
      refine va_get (D := D) (ci := 7) (v := .int v7_holes) (C := RX7) (T := TX7) (N := 9) hx hb hts w1 hown hK.1 hP 0 rfl rfl 5 (by decide) w2 (fun _ h9 => h9) rfl dX7_findWorms_13 ?_
      refine lv_icmp_ge (tgt := 146) hx hb dX7_findWorms_16 (by decide) (fun c7 => ?_) (fun c7 => ?_)
      · have c7 := ci_le c7
        have hpo : (0 ≤ (0 : Int32).toInt ∧ (0 : Int32).toInt ≤ 40) ∧ ((0 : Int32).toInt = 0) := ⟨h1, (by omega)⟩
        exact ret _ _ _ _ 0 dX7_findWorms_146 hpo hP hD hS
      have c7 := ci_nle c7
      exfalso
      omega
  exact lp10 ((v7_holes.toInt - (0 : Int32).toInt).toNat + 1) (by omega) (by omega) (by omega) (by omega) (by omega) _ _ hP hD hS _ hl
set_option maxHeartbeats 4000000 in
set_option maxRecDepth 100000 in
theorem k_X7_youngest (l : Launch) (D : va_G) (κ : Nat → ClassId) (β : Nat) (a7 : Nat) (r7 : Nat → Nat) (v7_count : Int32) (v7_holes : Int32) (v7_worms : Int32) (sz : Nat) (i1 : Rg 0 8 v7_count) (i2 : Rg 0 40 v7_holes) (i3 : Rg 0 40 v7_worms) (i4 : (1 : Int) ≤ 0) : Met l yX7_youngest wsX7_youngest ({ frames := 1, cells := 0, slots := 0, locals := 30 } : Room) (PcK D κ β [O7 a7 r7 v7_count v7_holes v7_worms] sz [.ref a7]) (QiK D (fun (r : Int32) (u : Unit) => True) (fun (u : Unit) => [O7 a7 r7 v7_count v7_holes v7_worms]) [O7 a7 r7 v7_count v7_holes v7_worms] sz) 0 0 (va_A [O7 a7 r7 v7_count v7_holes v7_worms] sz) := by
  refine ofK_i (cc := cX7_youngest) (maxL := 3) (own := RX7) (by decide) rfl rfl (Nat.le_of_ble_eq_true rfl) ?_
  intro p e s m args below meth c Q A ls hsz hx hb hml hts hown hK hA hAB hP hD hl ret
  have hS : va_S A s.heap s.heap [] := va_S.rf
  have hl : lv_has ls 3 [(0, .ref a7)] := hl
  have i1 : 0 ≤ v7_count.toInt ∧ v7_count.toInt ≤ 8 := i1
  exfalso
  omega
