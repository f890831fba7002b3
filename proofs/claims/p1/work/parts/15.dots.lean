set_option maxHeartbeats 4000000 in
set_option maxRecDepth 100000 in
theorem k_X2_isOne (l : Launch) (D : va_G) (κ : Nat → ClassId) (β : Nat) (a2 : Nat) (r2 : Nat → Nat) (v2_count : Int32) (v2_madeIn : Int32) (v2_bound : Int32) (sz : Nat) (p1 : Int32) (i1 : Rg 0 40 v2_count) (i2 : v2_count.toInt = 0) (i3 : v2_madeIn.toInt = 2001) : Met l yX2_isOne wsX2_isOne ({ frames := 1, cells := 0, slots := 0, locals := 22 } : Room) (PcK D κ β [O2 a2 r2 v2_count v2_madeIn v2_bound] sz [.ref a2, .int p1]) (QiK D (fun (r : Int32) (u : Unit) => (r.toInt = 1 ∧ 0 ≤ p1.toInt ∧ p1.toInt < v2_count.toInt) ∨ (r.toInt = 0 ∧ (p1.toInt < 0 ∨ v2_count.toInt ≤ p1.toInt))) (fun (u : Unit) => [O2 a2 r2 v2_count v2_madeIn v2_bound]) [O2 a2 r2 v2_count v2_madeIn v2_bound] sz) 0 0 (va_A [O2 a2 r2 v2_count v2_madeIn v2_bound] sz) := by
  refine ofK_z (cc := cX2_isOne) (maxL := 2) (own := RX2) (by decide) rfl rfl (Nat.le_of_ble_eq_true rfl) ?_
  intro p e s m args below meth c Q A ls hsz hx hb hml hts hown hK hA hAB hP hD hl ret
  have hS : va_S A s.heap s.heap [] := va_S.rf
  have hl : lv_has ls 2 [(0, .ref a2), (1, .int p1)] := hl
  have w0 := hts (.fieldLink RX2 34 "OlderSkin$Dots" "count" "I") (List.mem_of_getElem? (i := 1) rfl)
  have w1 := (fun w h => List.mem_cons_of_mem _ (List.mem_append_right _ h) : ∀ w ∈ u_ws RX2 TX2 8, w ∈ wsX2_isOne)
  have w2 := hts (.initialized RX11) (List.mem_of_getElem? (i := 3) rfl)
  have w3 := hts (.static yX11_within) (List.mem_of_getElem? (i := 2) rfl)
  have w4 := hK.2.1 ("OlderSkin$Dots", 37, ⟨"OlderSkin", "within", "(III)Z"⟩, "OlderSkin") (by decide +kernel)
  have l0 : (0 : Int32).toInt = 0 := by decide
  have l1 : (1 : Int32).toInt = 1 := by decide
  have i1 : 0 ≤ v2_count.toInt ∧ v2_count.toInt ≤ 40 := i1
  refine lv_iload_n hx hb dX2_isOne_0 rfl (lv_at hl 1 rfl) ?_
  refine lv_iconst (v := 0) hx hb dX2_isOne_1 (by decide) ?_
  refine lv_aload_n hx hb dX2_isOne_2 rfl (lv_at hl 0 rfl) ?_
  refine va_get (D := D) (ci := 2) (v := .int v2_count) (C := RX2) (T := TX2) (N := 8) hx hb hts w1 hown hK.1 hP 0 rfl rfl 3 (by decide) w0 (fun _ h9 => h9) rfl dX2_isOne_3 ?_
  refine lv_iconst (v := 1) hx hb dX2_isOne_6 (by decide) ?_
  refine lv_isub hx hb dX2_isOne_7 ?_
  refine lv_topi (fun x1 e2 => ?_)
  try have h3 : x1.toInt = v2_count.toInt - (1 : Int32).toInt := ci_sub e2 (by omega) (by omega)
  refine kcm_i hA hAB hP hD hS [false] rfl (fun _ => rfl) (fun hPc hDc => va_runSN (As := [.int p1, .int 0, .int x1]) (rest := []) ⟨hx, hb, hml, hown, hts⟩ (k_X11_within l D κ β s.heap.size p1 0 x1) ⟨va_cnB 3 hts gX2_isOne_X11_within_n37 rfl rfl rfl w4 w2 (by decide +kernel) ⟨Nat.le_of_ble_eq_true rfl, Nat.le_of_ble_eq_true rfl⟩, w3, trivial⟩ (pk_S hK hS hAB hPc hDc) rfl rfl hl.1 rfl (lv_room (Nat.le_of_ble_eq_true rfl)) dX2_isOne_8 ⟨Nat.le_of_ble_eq_true rfl, Nat.le_of_ble_eq_true rfl⟩) (fun x4 u5 H locs hw hPD hS => ?_)
  have h6 : (x4.toInt = 1 ∧ (0 : Int32).toInt ≤ p1.toInt ∧ p1.toInt ≤ x1.toInt) ∨ (x4.toInt = 0 ∧ (p1.toInt < (0 : Int32).toInt ∨ x1.toInt < p1.toInt)) := hw
  obtain ⟨hP, hD⟩ : PD D A [O2 a2 r2 v2_count v2_madeIn v2_bound] H := hPD
  have hpo : (x4.toInt = 1 ∧ 0 ≤ p1.toInt ∧ p1.toInt < v2_count.toInt) ∨ (x4.toInt = 0 ∧ (p1.toInt < 0 ∨ v2_count.toInt ≤ p1.toInt)) := (by omega)
  exact ret _ _ _ _ x4 () dX2_isOne_11 (by omega) hpo hP hD hS
set_option maxHeartbeats 4000000 in
set_option maxRecDepth 100000 in
theorem k_X2_isFull (l : Launch) (D : va_G) (κ : Nat → ClassId) (β : Nat) (a2 : Nat) (r2 : Nat → Nat) (v2_count : Int32) (v2_madeIn : Int32) (v2_bound : Int32) (f2_stuffs : Nat → Int32) (sz : Nat) (i1 : Rg 0 40 v2_count) (i2 : v2_count.toInt = 0) (i3 : v2_madeIn.toInt = 2001) : Met l yX2_isFull wsX2_isFull ({ frames := 0, cells := 0, slots := 0, locals := 0 } : Room) (PcK D κ β [O2 a2 r2 v2_count v2_madeIn v2_bound, (cI κ (r2 2) 40 f2_stuffs)] sz [.ref a2]) (QiK D (fun (r : Int32) (u : Unit) => (r.toInt = 1 ∧ v2_count.toInt = 40) ∨ (r.toInt = 0 ∧ v2_count.toInt < 40)) (fun (u : Unit) => [O2 a2 r2 v2_count v2_madeIn v2_bound, (cI κ (r2 2) 40 f2_stuffs)]) [O2 a2 r2 v2_count v2_madeIn v2_bound, (cI κ (r2 2) 40 f2_stuffs)] sz) 0 0 (va_A [O2 a2 r2 v2_count v2_madeIn v2_bound, (cI κ (r2 2) 40 f2_stuffs)] sz) := by
  refine ofK_z (cc := cX2_isFull) (maxL := 1) (own := RX2) (by decide) rfl rfl (Nat.le_of_ble_eq_true rfl) ?_
  intro p e s m args below meth c Q A ls hsz hx hb hml hts hown hK hA hAB hP hD hl ret
  have hS : va_S A s.heap s.heap [] := va_S.rf
  have hl : lv_has ls 1 [(0, .ref a2)] := hl
  have w0 := hts (.fieldLink RX2 34 "OlderSkin$Dots" "count" "I") (List.mem_of_getElem? (i := 1) rfl)
  have w1 := (fun w h => List.mem_cons_of_mem _ (List.mem_append_right _ h) : ∀ w ∈ u_ws RX2 TX2 8, w ∈ wsX2_isFull)
  have w2 := hts (.fieldLink RX2 18 "OlderSkin$Dots" "stuffs" "[I") (List.mem_of_getElem? (i := 2) rfl)
  have l0 : (40 : Int32).toInt = 40 := by decide
  have l1 : (0 : Int32).toInt = 0 := by decide
  have l2 : (1 : Int32).toInt = 1 := by decide
  have i1 : 0 ≤ v2_count.toInt ∧ v2_count.toInt ≤ 40 := i1
  refine lv_aload_n hx hb dX2_isFull_0 rfl (lv_at hl 0 rfl) ?_
  refine va_get (D := D) (ci := 2) (v := .int v2_count) (C := RX2) (T := TX2) (N := 8) hx hb hts w1 hown hK.1 hP 0 rfl rfl 3 (by decide) w0 (fun _ h9 => h9) rfl dX2_isFull_1 ?_
  refine lv_aload_n hx hb dX2_isFull_4 rfl (lv_at hl 0 rfl) ?_
  refine va_get (D := D) (ci := 2) (v := .ref (r2 2)) (C := RX2) (T := TX2) (N := 8) hx hb hts w1 hown hK.1 hP 0 rfl rfl 2 (by decide) w2 (fun _ h9 => h9) rfl dX2_isFull_5 ?_
  refine va_alen hx hb hK.1 hP 1 1 rfl rfl (v := 40) rfl dX2_isFull_8 ?_
  refine lv_icmp_ne (tgt := 16) hx hb dX2_isFull_9 (by decide) (fun c1 => ?_) (fun c1 => ?_)
  · have c1 := ci_ne c1
    refine lv_iconst (v := 0) hx hb dX2_isFull_16 (by decide) ?_
    have hpo : ((0 : Int32).toInt = 1 ∧ v2_count.toInt = 40) ∨ ((0 : Int32).toInt = 0 ∧ v2_count.toInt < 40) := (by omega)
    exact ret _ _ _ _ 0 () dX2_isFull_17 (by omega) hpo hP hD hS
  have c1 := ci_eq c1
  refine lv_iconst (v := 1) hx hb dX2_isFull_12 (by decide) ?_
  refine lv_goto (tgt := 17) hx hb dX2_isFull_13 (by decide) ?_
  have hpo : ((1 : Int32).toInt = 1 ∧ v2_count.toInt = 40) ∨ ((1 : Int32).toInt = 0 ∧ v2_count.toInt < 40) := (by omega)
  exact ret _ _ _ _ 1 () dX2_isFull_17 (by omega) hpo hP hD hS
set_option maxHeartbeats 4000000 in
set_option maxRecDepth 100000 in
theorem k_X2_add (l : Launch) (D : va_G) (κ : Nat → ClassId) (β : Nat) (a2 : Nat) (r2 : Nat → Nat) (v2_count : Int32) (v2_madeIn : Int32) (v2_bound : Int32) (f2_houses : Nat → Int32) (f2_inks : Nat → Int32) (f2_stuffs : Nat → Int32) (sz : Nat) (p1 : Int32) (p2 : Int32) (p3 : Int32) (i1 : Rg 0 40 v2_count) (i2 : v2_count.toInt = 0) (i3 : v2_madeIn.toInt = 2001) : Met l yX2_add wsX2_add ({ frames := 1, cells := 0, slots := 0, locals := 20 } : Room) (PcK D κ β [O2 a2 r2 v2_count v2_madeIn v2_bound, (cI κ (r2 0) 40 f2_houses), (cI κ (r2 1) 40 f2_inks), (cI κ (r2 2) 40 f2_stuffs)] sz [.ref a2, .int p1, .int p2, .int p3]) (QiK D (fun (r : Int32) (u : Int32 × (Nat → Int32) × (Nat → Int32) × (Nat → Int32)) => (0 ≤ u.1.toInt ∧ u.1.toInt ≤ 40) ∧ ((v2_count.toInt = 40 ∧ r.toInt = -3 ∧ u.1.toInt = v2_count.toInt) ∨ (v2_count.toInt < 40 ∧ r.toInt = v2_count.toInt ∧ u.1.toInt = v2_count.toInt + 1))) (fun (u : Int32 × (Nat → Int32) × (Nat → Int32) × (Nat → Int32)) => [O2 a2 r2 u.1 v2_madeIn v2_bound, (cI κ (r2 0) 40 u.2.1), (cI κ (r2 1) 40 u.2.2.1), (cI κ (r2 2) 40 u.2.2.2)]) [O2 a2 r2 v2_count v2_madeIn v2_bound, (cI κ (r2 0) 40 f2_houses), (cI κ (r2 1) 40 f2_inks), (cI κ (r2 2) 40 f2_stuffs)] sz) 0 0 (va_A [O2 a2 r2 v2_count v2_madeIn v2_bound, (cI κ (r2 0) 40 f2_houses), (cI κ (r2 1) 40 f2_inks), (cI κ (r2 2) 40 f2_stuffs)] sz) := by
  refine ofK_i (cc := cX2_add) (maxL := 4) (own := RX2) (by decide) rfl rfl (Nat.le_of_ble_eq_true rfl) ?_
  intro p e s m args below meth c Q A ls hsz hx hb hml hts hown hK hA hAB hP hD hl ret
  have hS : va_S A s.heap s.heap [] := va_S.rf
  have hl : lv_has ls 4 [(0, .ref a2), (1, .int p1), (2, .int p2), (3, .int p3)] := hl
  have w0 := hts (.fieldLink RX2 9 "OlderSkin$Dots" "houses" "[I") (List.mem_of_getElem? (i := 1) rfl)
  have w1 := (fun w h => List.mem_cons_of_mem _ (List.mem_append_right _ h) : ∀ w ∈ u_ws RX2 TX2 8, w ∈ wsX2_add)
  have w2 := hts (.fieldLink RX2 34 "OlderSkin$Dots" "count" "I") (List.mem_of_getElem? (i := 2) rfl)
  have w3 := hts (.fieldLink RX2 15 "OlderSkin$Dots" "inks" "[I") (List.mem_of_getElem? (i := 3) rfl)
  have w4 := hts (.fieldLink RX2 18 "OlderSkin$Dots" "stuffs" "[I") (List.mem_of_getElem? (i := 4) rfl)
  have l0 : (0 : Int32).toInt = 0 := by decide
  have l1 : (1 : Int32).toInt = 1 := by decide
  have l2 : ((-3) : Int32).toInt = -3 := by decide
  have i1 : 0 ≤ v2_count.toInt ∧ v2_count.toInt ≤ 40 := i1
  refine lv_aload_n hx hb dX2_add_0 rfl (lv_at hl 0 rfl) ?_
  refine kcm_i hA hAB hP hD hS [true, false, false, true] rfl (fun _ => rfl) (fun hPc hDc => va_runV (As := []) (rest := []) ⟨hx, hb, hml, hown, hts⟩ (k_X2_isFull l D κ β a2 r2 v2_count v2_madeIn v2_bound f2_stuffs s.heap.size i1 (by omega) (by omega)) (cwV 0 hts gX2_add_X2_isFull rfl rfl rfl (by decide +kernel) ⟨Nat.le_of_ble_eq_true rfl, Nat.le_of_ble_eq_true rfl⟩) (pk_V hK hS hAB hPc hDc 0 (ci := 2) rfl rfl rfl) rfl rfl hl.1 rfl (lv_room (Nat.le_of_ble_eq_true rfl)) dX2_add_1 ⟨Nat.le_of_ble_eq_true rfl, Nat.le_of_ble_eq_true rfl⟩) (fun x1 u2 H locs hw hPD hS => ?_)
  have h3 : (x1.toInt = 1 ∧ v2_count.toInt = 40) ∨ (x1.toInt = 0 ∧ v2_count.toInt < 40) := hw
  obtain ⟨hP, hD⟩ : PD D A [O2 a2 r2 v2_count v2_madeIn v2_bound, (cI κ (r2 0) 40 f2_houses), (cI κ (r2 1) 40 f2_inks), (cI κ (r2 2) 40 f2_stuffs)] H := hPD
  refine lv_if_eq (tgt := 10) hx hb dX2_add_4 (by decide) (fun c4 => ?_) (fun c4 => ?_)
  · have c4 := ci_eq c4
    refine lv_aload_n hx hb dX2_add_10 rfl (lv_at hl 0 rfl) ?_
    refine va_get (D := D) (ci := 2) (v := .ref (r2 0)) (C := RX2) (T := TX2) (N := 8) hx hb hts w1 hown hK.1 hP 0 rfl rfl 0 (by decide) w0 (fun _ h9 => h9) rfl dX2_add_11 ?_
    refine lv_aload_n hx hb dX2_add_14 rfl (lv_at hl 0 rfl) ?_
    refine va_get (D := D) (ci := 2) (v := .int v2_count) (C := RX2) (T := TX2) (N := 8) hx hb hts w1 hown hK.1 hP 0 rfl rfl 3 (by decide) w2 (fun _ h9 => h9) rfl dX2_add_15 ?_
    refine lv_iload_n hx hb dX2_add_18 rfl (lv_at hl 1 rfl) ?_
    refine va_iast hx hb hK.1 hP hD hS 1 1 rfl rfl (i := v2_count) (ix (by omega) (by omega)) dX2_add_19 (fun H locs hP hD hS => ?_)
    obtain ⟨g5, e6⟩ : ∃ y : Nat → Int32, y = upd f2_houses v2_count.toNatClampNeg p1 := ⟨_, rfl⟩
    rw [← e6] at hP hD
    obtain ⟨hP, hD⟩ : PD D A [O2 a2 r2 v2_count v2_madeIn v2_bound, (cI κ (r2 0) 40 g5), (cI κ (r2 1) 40 f2_inks), (cI κ (r2 2) 40 f2_stuffs)] H := ⟨hP, hD⟩
    refine lv_aload_n hx hb dX2_add_20 rfl (lv_at hl 0 rfl) ?_
    refine va_get (D := D) (ci := 2) (v := .ref (r2 1)) (C := RX2) (T := TX2) (N := 8) hx hb hts w1 hown hK.1 hP 0 rfl rfl 1 (by decide) w3 (fun _ h9 => h9) rfl dX2_add_21 ?_
    refine lv_aload_n hx hb dX2_add_24 rfl (lv_at hl 0 rfl) ?_
    refine va_get (D := D) (ci := 2) (v := .int v2_count) (C := RX2) (T := TX2) (N := 8) hx hb hts w1 hown hK.1 hP 0 rfl rfl 3 (by decide) w2 (fun _ h9 => h9) rfl dX2_add_25 ?_
    refine lv_iload_n hx hb dX2_add_28 rfl (lv_at hl 2 rfl) ?_
    refine va_iast hx hb hK.1 hP hD hS 2 1 rfl rfl (i := v2_count) (ix (by omega) (by omega)) dX2_add_29 (fun H locs hP hD hS => ?_)
    obtain ⟨g7, e8⟩ : ∃ y : Nat → Int32, y = upd f2_inks v2_count.toNatClampNeg p2 := ⟨_, rfl⟩
    rw [← e8] at hP hD
    obtain ⟨hP, hD⟩ : PD D A [O2 a2 r2 v2_count v2_madeIn v2_bound, (cI κ (r2 0) 40 g5), (cI κ (r2 1) 40 g7), (cI κ (r2 2) 40 f2_stuffs)] H := ⟨hP, hD⟩
    refine lv_aload_n hx hb dX2_add_30 rfl (lv_at hl 0 rfl) ?_
    refine va_get (D := D) (ci := 2) (v := .ref (r2 2)) (C := RX2) (T := TX2) (N := 8) hx hb hts w1 hown hK.1 hP 0 rfl rfl 2 (by decide) w4 (fun _ h9 => h9) rfl dX2_add_31 ?_
    refine lv_aload_n hx hb dX2_add_34 rfl (lv_at hl 0 rfl) ?_
    refine va_get (D := D) (ci := 2) (v := .int v2_count) (C := RX2) (T := TX2) (N := 8) hx hb hts w1 hown hK.1 hP 0 rfl rfl 3 (by decide) w2 (fun _ h9 => h9) rfl dX2_add_35 ?_
    refine lv_iload_n hx hb dX2_add_38 rfl (lv_at hl 3 rfl) ?_
    refine va_iast hx hb hK.1 hP hD hS 3 1 rfl rfl (i := v2_count) (ix (by omega) (by omega)) dX2_add_39 (fun H locs hP hD hS => ?_)
    obtain ⟨g9, e10⟩ : ∃ y : Nat → Int32, y = upd f2_stuffs v2_count.toNatClampNeg p3 := ⟨_, rfl⟩
    rw [← e10] at hP hD
    obtain ⟨hP, hD⟩ : PD D A [O2 a2 r2 v2_count v2_madeIn v2_bound, (cI κ (r2 0) 40 g5), (cI κ (r2 1) 40 g7), (cI κ (r2 2) 40 g9)] H := ⟨hP, hD⟩
    refine lv_aload_n hx hb dX2_add_40 rfl (lv_at hl 0 rfl) ?_
    refine lv_dup hx hb dX2_add_41 rfl ?_
    refine va_get (D := D) (ci := 2) (v := .int v2_count) (C := RX2) (T := TX2) (N := 8) hx hb hts w1 hown hK.1 hP 0 rfl rfl 3 (by decide) w2 (fun _ h9 => h9) rfl dX2_add_42 ?_
    refine lv_dup_x1 hx hb dX2_add_45 rfl rfl ?_
    refine lv_iconst (v := 1) hx hb dX2_add_46 (by decide) ?_
    refine lv_iadd hx hb dX2_add_47 ?_
    refine lv_topi (fun x11 e12 => ?_)
    try have h13 : x11.toInt = v2_count.toInt + (1 : Int32).toInt := ci_add e12 (by omega) (by omega)
    refine va_put (D := D) (ci := 2) (v := .int x11) (ty := .int) (C := RX2) (T := TX2) (N := 8) hx hb hts w1 tyX2 tyX2_ok nmX2 hown hK.1 hP hD hS 0 rfl rfl 3 (by decide) w2 (fun _ h9 => h9) rfl (by decide +kernel) rfl rfl (Nat.le_of_ble_eq_true rfl) dX2_add_48 (fun H locs hP hD hS => ?_)
    obtain ⟨hP, hD⟩ : PD D A [O2 a2 r2 x11 v2_madeIn v2_bound, (cI κ (r2 0) 40 g5), (cI κ (r2 1) 40 g7), (cI κ (r2 2) 40 g9)] H := ⟨hP, hD⟩
    have h14 : 0 ≤ x11.toInt ∧ x11.toInt ≤ 40 := by omega
    have hpo : (0 ≤ x11.toInt ∧ x11.toInt ≤ 40) ∧ ((v2_count.toInt = 40 ∧ v2_count.toInt = -3 ∧ x11.toInt = v2_count.toInt) ∨ (v2_count.toInt < 40 ∧ v2_count.toInt = v2_count.toInt ∧ x11.toInt = v2_count.toInt + 1)) := ⟨h14, (by omega)⟩
    exact ret _ _ _ _ v2_count (x11, g5, g7, g9) dX2_add_51 hpo hP hD hS
  have c4 := ci_ne c4
  refine lv_bipush (v := (-3)) hx hb dX2_add_7 (by decide) ?_
  have hpo : (0 ≤ v2_count.toInt ∧ v2_count.toInt ≤ 40) ∧ ((v2_count.toInt = 40 ∧ ((-3) : Int32).toInt = -3 ∧ v2_count.toInt = v2_count.toInt) ∨ (v2_count.toInt < 40 ∧ ((-3) : Int32).toInt = v2_count.toInt ∧ v2_count.toInt = v2_count.toInt + 1)) := ⟨i1, (by omega)⟩
  exact ret _ _ _ _ (-3) (v2_count, f2_houses, f2_inks, f2_stuffs) dX2_add_9 hpo hP hD hS
set_option maxHeartbeats 4000000 in
set_option maxRecDepth 100000 in
theorem k_X2_dropLast (l : Launch) (D : va_G) (κ : Nat → ClassId) (β : Nat) (a2 : Nat) (r2 : Nat → Nat) (v2_count : Int32) (v2_madeIn : Int32) (v2_bound : Int32) (sz : Nat) (i1 : Rg 0 40 v2_count) (i2 : (1 : Int) ≤ 0) : Met l yX2_dropLast wsX2_dropLast ({ frames := 1, cells := 0, slots := 0, locals := 30 } : Room) (PcK D κ β [O2 a2 r2 v2_count v2_madeIn v2_bound] sz [.ref a2]) (QvK D (fun (u : Unit) => True) (fun (u : Unit) => [O2 a2 r2 v2_count v2_madeIn v2_bound]) [O2 a2 r2 v2_count v2_madeIn v2_bound] sz) 0 0 (va_A [O2 a2 r2 v2_count v2_madeIn v2_bound] sz) := by
  refine ofK_v (cc := cX2_dropLast) (maxL := 1) (own := RX2) (by decide) rfl rfl (Nat.le_of_ble_eq_true rfl) ?_
  intro p e s m args below meth c Q A ls hsz hx hb hml hts hown hK hA hAB hP hD hl hname ret
  have hS : va_S A s.heap s.heap [] := va_S.rf
  have hl : lv_has ls 1 [(0, .ref a2)] := hl
  have i1 : 0 ≤ v2_count.toInt ∧ v2_count.toInt ≤ 40 := i1
  exfalso
  omega
set_option maxHeartbeats 4000000 in
set_option maxRecDepth 100000 in
theorem k_X2_meanOf (l : Launch) (D : va_G) (κ : Nat → ClassId) (β : Nat) (a2 : Nat) (r2 : Nat → Nat) (v2_count : Int32) (v2_madeIn : Int32) (v2_bound : Int32) (sz : Nat) (p1 : Int32) (p2 : Int32) (i1 : Rg 0 40 v2_count) (i2 : v2_count.toInt = 0) (i3 : v2_madeIn.toInt = 2001) : Met l yX2_meanOf wsX2_meanOf ({ frames := 0, cells := 0, slots := 0, locals := 0 } : Room) (PcK D κ β [O2 a2 r2 v2_count v2_madeIn v2_bound] sz [.ref a2, .int p1, .int p2]) (QiK D (fun (r : Int32) (u : Unit) => r.toInt = -2) (fun (u : Unit) => [O2 a2 r2 v2_count v2_madeIn v2_bound]) [O2 a2 r2 v2_count v2_madeIn v2_bound] sz) 0 0 (va_A [O2 a2 r2 v2_count v2_madeIn v2_bound] sz) := by
  refine ofK_i (cc := cX2_meanOf) (maxL := 6) (own := RX2) (by decide) rfl rfl (Nat.le_of_ble_eq_true rfl) ?_
  intro p e s m args below meth c Q A ls hsz hx hb hml hts hown hK hA hAB hP hD hl ret
  have hS : va_S A s.heap s.heap [] := va_S.rf
  have hl : lv_has ls 6 [(0, .ref a2), (1, .int p1), (2, .int p2)] := hl
  have w0 := hts (.fieldLink RX2 34 "OlderSkin$Dots" "count" "I") (List.mem_of_getElem? (i := 1) rfl)
  have w1 := (fun w h => List.mem_cons_of_mem _ (List.mem_append_right _ h) : ∀ w ∈ u_ws RX2 TX2 8, w ∈ wsX2_meanOf)
  have l0 : (0 : Int32).toInt = 0 := by decide
  have l1 : ((-2) : Int32).toInt = -2 := by decide
  have i1 : 0 ≤ v2_count.toInt ∧ v2_count.toInt ≤ 40 := i1
  refine lv_iconst (v := 0) hx hb dX2_meanOf_0 (by decide) ?_
  refine lv_istore_n (lv' := [(3, .int 0), (0, .ref a2), (1, .int p1), (2, .int p2)]) hx hb dX2_meanOf_1 rfl hl (by decide) rfl (fun ls hl => ?_)
  refine lv_iconst (v := 0) hx hb dX2_meanOf_2 (by decide) ?_
  refine lv_istore (lv' := [(4, .int 0), (3, .int 0), (0, .ref a2), (1, .int p1), (2, .int p2)]) hx hb dX2_meanOf_3 hl (by decide) rfl (fun ls hl => ?_)
  refine lv_iconst (v := 0) hx hb dX2_meanOf_5 (by decide) ?_
  refine lv_istore (lv' := [(5, .int 0), (4, .int 0), (3, .int 0), (0, .ref a2), (1, .int p1), (2, .int p2)]) hx hb dX2_meanOf_6 hl (by decide) rfl (fun ls hl => ?_)
  have lp8 : ∀ (n8 : Nat), (0 ≤ (0 : Int32).toInt) → (v2_count.toInt - (0 : Int32).toInt).toNat < n8 → ∀ (H : Heap) (locs : List Loc), va_P D vwCl [O2 a2 r2 v2_count v2_madeIn v2_bound] H → va_D A [O2 a2 r2 v2_count v2_madeIn v2_bound] → va_S A s.heap H locs → ∀ ls : Array Slot, lv_has ls 6 [(5, .int 0), (4, .int 0), (3, .int 0), (0, .ref a2), (1, .int p1), (2, .int p2)] → W p l e ({ frames := 0, cells := 0, slots := 0, locals := 0 } : Room) s m args below meth c H locs 0 0 Q (F0 m 8 ls []) := by
    intro n8
    induction n8 with
    | zero =>
      intro h1 m2
      exact absurd m2 (Nat.not_lt_zero _)
    | succ n8 ih8 =>
      intro h1 m2 H locs hP hD hS ls hl
      refine lv_iload hx hb dX2_meanOf_8 (lv_at hl 0 rfl) ?_
      refine lv_aload_n hx hb dX2_meanOf_10 rfl (lv_at hl 3 rfl) ?_
      refine va_get (D := D) (ci := 2) (v := .int v2_count) (C := RX2) (T := TX2) (N := 8) hx hb hts w1 hown hK.1 hP 0 rfl rfl 3 (by decide) w0 (fun _ h9 => h9) rfl dX2_meanOf_11 ?_
      refine lv_icmp_ge (tgt := 64) hx hb dX2_meanOf_14 (by decide) (fun c3 => ?_) (fun c3 => ?_)
      · have c3 := ci_le c3
        refine lv_iload hx hb dX2_meanOf_64 (lv_at hl 1 rfl) ?_
        refine lv_if_ne (tgt := 74) hx hb dX2_meanOf_66 (by decide) (fun c4 => ?_) (fun c4 => ?_)
        · have c4 := ci_ne c4
          exfalso
          omega
        have c4 := ci_eq c4
        refine lv_bipush (v := (-2)) hx hb dX2_meanOf_69 (by decide) ?_
        refine lv_goto (tgt := 78) hx hb dX2_meanOf_71 (by decide) ?_
        have hpo : ((-2) : Int32).toInt = -2 := (by omega)
        exact ret _ _ _ _ (-2) () dX2_meanOf_78 hpo hP hD hS
      have c3 := ci_nle c3
      exfalso
      omega
  exact lp8 ((v2_count.toInt - (0 : Int32).toInt).toNat + 1) (by omega) (by omega) _ _ hP hD hS _ hl
set_option maxHeartbeats 4000000 in
set_option maxRecDepth 100000 in
theorem k_X2_howMany (l : Launch) (D : va_G) (κ : Nat → ClassId) (β : Nat) (a2 : Nat) (r2 : Nat → Nat) (v2_count : Int32) (v2_madeIn : Int32) (v2_bound : Int32) (sz : Nat) (p1 : Int32) (i1 : Rg 0 40 v2_count) (i2 : v2_count.toInt = 0) (i3 : v2_madeIn.toInt = 2001) : Met l yX2_howMany wsX2_howMany ({ frames := 0, cells := 0, slots := 0, locals := 0 } : Room) (PcK D κ β [O2 a2 r2 v2_count v2_madeIn v2_bound] sz [.ref a2, .int p1]) (QiK D (fun (r : Int32) (u : Unit) => r.toInt = 0) (fun (u : Unit) => [O2 a2 r2 v2_count v2_madeIn v2_bound]) [O2 a2 r2 v2_count v2_madeIn v2_bound] sz) 0 0 (va_A [O2 a2 r2 v2_count v2_madeIn v2_bound] sz) := by
  refine ofK_i (cc := cX2_howMany) (maxL := 4) (own := RX2) (by decide) rfl rfl (Nat.le_of_ble_eq_true rfl) ?_
  intro p e s m args below meth c Q A ls hsz hx hb hml hts hown hK hA hAB hP hD hl ret
  have hS : va_S A s.heap s.heap [] := va_S.rf
  have hl : lv_has ls 4 [(0, .ref a2), (1, .int p1)] := hl
  have w0 := hts (.fieldLink RX2 34 "OlderSkin$Dots" "count" "I") (List.mem_of_getElem? (i := 1) rfl)
  have w1 := (fun w h => List.mem_cons_of_mem _ (List.mem_append_right _ h) : ∀ w ∈ u_ws RX2 TX2 8, w ∈ wsX2_howMany)
  have l0 : (0 : Int32).toInt = 0 := by decide
  have i1 : 0 ≤ v2_count.toInt ∧ v2_count.toInt ≤ 40 := i1
  refine lv_iconst (v := 0) hx hb dX2_howMany_0 (by decide) ?_
  refine lv_istore_n (lv' := [(2, .int 0), (0, .ref a2), (1, .int p1)]) hx hb dX2_howMany_1 rfl hl (by decide) rfl (fun ls hl => ?_)
  refine lv_iconst (v := 0) hx hb dX2_howMany_2 (by decide) ?_
  refine lv_istore_n (lv' := [(3, .int 0), (2, .int 0), (0, .ref a2), (1, .int p1)]) hx hb dX2_howMany_3 rfl hl (by decide) rfl (fun ls hl => ?_)
  have lp4 : ∀ (n4 : Nat), (0 ≤ (0 : Int32).toInt) → (v2_count.toInt - (0 : Int32).toInt).toNat < n4 → ∀ (H : Heap) (locs : List Loc), va_P D vwCl [O2 a2 r2 v2_count v2_madeIn v2_bound] H → va_D A [O2 a2 r2 v2_count v2_madeIn v2_bound] → va_S A s.heap H locs → ∀ ls : Array Slot, lv_has ls 4 [(3, .int 0), (2, .int 0), (0, .ref a2), (1, .int p1)] → W p l e ({ frames := 0, cells := 0, slots := 0, locals := 0 } : Room) s m args below meth c H locs 0 0 Q (F0 m 4 ls []) := by
    intro n4
    induction n4 with
    | zero =>
      intro h1 m2
      exact absurd m2 (Nat.not_lt_zero _)
    | succ n4 ih4 =>
      intro h1 m2 H locs hP hD hS ls hl
      refine lv_iload_n hx hb dX2_howMany_4 rfl (lv_at hl 0 rfl) ?_
      refine lv_aload_n hx hb dX2_howMany_5 rfl (lv_at hl 2 rfl) ?_
      refine va_get (D := D) (ci := 2) (v := .int v2_count) (C := RX2) (T := TX2) (N := 8) hx hb hts w1 hown hK.1 hP 0 rfl rfl 3 (by decide) w0 (fun _ h9 => h9) rfl dX2_howMany_6 ?_
      refine lv_icmp_ge (tgt := 39) hx hb dX2_howMany_9 (by decide) (fun c3 => ?_) (fun c3 => ?_)
      · have c3 := ci_le c3
        refine lv_iload_n hx hb dX2_howMany_39 rfl (lv_at hl 1 rfl) ?_
        have hpo : (0 : Int32).toInt = 0 := (by omega)
        exact ret _ _ _ _ 0 () dX2_howMany_40 hpo hP hD hS
      have c3 := ci_nle c3
      exfalso
      omega
  exact lp4 ((v2_count.toInt - (0 : Int32).toInt).toNat + 1) (by omega) (by omega) _ _ hP hD hS _ hl
set_option maxHeartbeats 4000000 in
set_option maxRecDepth 100000 in
theorem k_X2_oddOnes (l : Launch) (D : va_G) (κ : Nat → ClassId) (β : Nat) (a2 : Nat) (r2 : Nat → Nat) (v2_count : Int32) (v2_madeIn : Int32) (v2_bound : Int32) (sz : Nat) (p1 : Int32) (i1 : Rg 0 40 v2_count) (i2 : v2_count.toInt = 0) (i3 : v2_madeIn.toInt = 2001) : Met l yX2_oddOnes wsX2_oddOnes ({ frames := 0, cells := 0, slots := 0, locals := 0 } : Room) (PcK D κ β [O2 a2 r2 v2_count v2_madeIn v2_bound] sz [.ref a2, .int p1]) (QiK D (fun (r : Int32) (u : Unit) => r.toInt = 0) (fun (u : Unit) => [O2 a2 r2 v2_count v2_madeIn v2_bound]) [O2 a2 r2 v2_count v2_madeIn v2_bound] sz) 0 0 (va_A [O2 a2 r2 v2_count v2_madeIn v2_bound] sz) := by
  refine ofK_i (cc := cX2_oddOnes) (maxL := 5) (own := RX2) (by decide) rfl rfl (Nat.le_of_ble_eq_true rfl) ?_
  intro p e s m args below meth c Q A ls hsz hx hb hml hts hown hK hA hAB hP hD hl ret
  have hS : va_S A s.heap s.heap [] := va_S.rf
  have hl : lv_has ls 5 [(0, .ref a2), (1, .int p1)] := hl
  have w0 := hts (.fieldLink RX2 34 "OlderSkin$Dots" "count" "I") (List.mem_of_getElem? (i := 1) rfl)
  have w1 := (fun w h => List.mem_cons_of_mem _ (List.mem_append_right _ h) : ∀ w ∈ u_ws RX2 TX2 8, w ∈ wsX2_oddOnes)
  have l0 : ((-1) : Int32).toInt = -1 := by decide
  have l1 : (0 : Int32).toInt = 0 := by decide
  have i1 : 0 ≤ v2_count.toInt ∧ v2_count.toInt ≤ 40 := i1
  refine lv_iconst (v := (-1)) hx hb dX2_oddOnes_0 (by decide) ?_
  refine lv_istore_n (lv' := [(2, .int (-1)), (0, .ref a2), (1, .int p1)]) hx hb dX2_oddOnes_1 rfl hl (by decide) rfl (fun ls hl => ?_)
  refine lv_iconst (v := 0) hx hb dX2_oddOnes_2 (by decide) ?_
  refine lv_istore_n (lv' := [(3, .int 0), (2, .int (-1)), (0, .ref a2), (1, .int p1)]) hx hb dX2_oddOnes_3 rfl hl (by decide) rfl (fun ls hl => ?_)
  have lp4 : ∀ (n4 : Nat), (0 ≤ (0 : Int32).toInt) → (v2_count.toInt - (0 : Int32).toInt).toNat < n4 → ∀ (H : Heap) (locs : List Loc), va_P D vwCl [O2 a2 r2 v2_count v2_madeIn v2_bound] H → va_D A [O2 a2 r2 v2_count v2_madeIn v2_bound] → va_S A s.heap H locs → ∀ ls : Array Slot, lv_has ls 5 [(3, .int 0), (2, .int (-1)), (0, .ref a2), (1, .int p1)] → W p l e ({ frames := 0, cells := 0, slots := 0, locals := 0 } : Room) s m args below meth c H locs 0 0 Q (F0 m 4 ls []) := by
    intro n4
    induction n4 with
    | zero =>
      intro h1 m2
      exact absurd m2 (Nat.not_lt_zero _)
    | succ n4 ih4 =>
      intro h1 m2 H locs hP hD hS ls hl
      refine lv_iload_n hx hb dX2_oddOnes_4 rfl (lv_at hl 0 rfl) ?_
      refine lv_aload_n hx hb dX2_oddOnes_5 rfl (lv_at hl 2 rfl) ?_
      refine va_get (D := D) (ci := 2) (v := .int v2_count) (C := RX2) (T := TX2) (N := 8) hx hb hts w1 hown hK.1 hP 0 rfl rfl 3 (by decide) w0 (fun _ h9 => h9) rfl dX2_oddOnes_6 ?_
      refine lv_icmp_ge (tgt := 40) hx hb dX2_oddOnes_9 (by decide) (fun c3 => ?_) (fun c3 => ?_)
      · have c3 := ci_le c3
        refine lv_iconst (v := 0) hx hb dX2_oddOnes_40 (by decide) ?_
        refine lv_istore_n (lv' := [(3, .int 0), (2, .int (-1)), (0, .ref a2), (1, .int p1)]) hx hb dX2_oddOnes_41 rfl hl (by decide) rfl (fun ls hl => ?_)
        refine lv_iconst (v := 0) hx hb dX2_oddOnes_42 (by decide) ?_
        refine lv_istore (lv' := [(4, .int 0), (3, .int 0), (2, .int (-1)), (0, .ref a2), (1, .int p1)]) hx hb dX2_oddOnes_43 hl (by decide) rfl (fun ls hl => ?_)
        have lp45 : ∀ (n45 : Nat), (0 ≤ (0 : Int32).toInt) → (v2_count.toInt - (0 : Int32).toInt).toNat < n45 → ∀ (H : Heap) (locs : List Loc), va_P D vwCl [O2 a2 r2 v2_count v2_madeIn v2_bound] H → va_D A [O2 a2 r2 v2_count v2_madeIn v2_bound] → va_S A s.heap H locs → ∀ ls : Array Slot, lv_has ls 5 [(4, .int 0), (3, .int 0), (2, .int (-1)), (0, .ref a2), (1, .int p1)] → W p l e ({ frames := 0, cells := 0, slots := 0, locals := 0 } : Room) s m args below meth c H locs 0 0 Q (F0 m 45 ls []) := by
          intro n45
          induction n45 with
          | zero =>
            intro h4 m5
            exact absurd m5 (Nat.not_lt_zero _)
          | succ n45 ih45 =>
            intro h4 m5 H locs hP hD hS ls hl
            refine lv_iload hx hb dX2_oddOnes_45 (lv_at hl 0 rfl) ?_
            refine lv_aload_n hx hb dX2_oddOnes_47 rfl (lv_at hl 3 rfl) ?_
            refine va_get (D := D) (ci := 2) (v := .int v2_count) (C := RX2) (T := TX2) (N := 8) hx hb hts w1 hown hK.1 hP 0 rfl rfl 3 (by decide) w0 (fun _ h9 => h9) rfl dX2_oddOnes_48 ?_
            refine lv_icmp_ge (tgt := 93) hx hb dX2_oddOnes_51 (by decide) (fun c6 => ?_) (fun c6 => ?_)
            · have c6 := ci_le c6
              refine lv_iload_n hx hb dX2_oddOnes_93 rfl (lv_at hl 1 rfl) ?_
              have hpo : (0 : Int32).toInt = 0 := (by omega)
              exact ret _ _ _ _ 0 () dX2_oddOnes_94 hpo hP hD hS
            have c6 := ci_nle c6
            exfalso
            omega
        exact lp45 ((v2_count.toInt - (0 : Int32).toInt).toNat + 1) (by omega) (by omega) _ _ hP hD hS _ hl
      have c3 := ci_nle c3
      exfalso
      omega
  exact lp4 ((v2_count.toInt - (0 : Int32).toInt).toNat + 1) (by omega) (by omega) _ _ hP hD hS _ hl
set_option maxHeartbeats 4000000 in
set_option maxRecDepth 100000 in
theorem k_X2_gather (l : Launch) (D : va_G) (κ : Nat → ClassId) (β : Nat) (a2 : Nat) (r2 : Nat → Nat) (v2_count : Int32) (v2_madeIn : Int32) (v2_bound : Int32) (sz : Nat) (p1 : Int32) (i1 : Rg 0 40 v2_count) (i2 : (1 : Int) ≤ 0) : Met l yX2_gather wsX2_gather ({ frames := 1, cells := 0, slots := 0, locals := 30 } : Room) (PcK D κ β [O2 a2 r2 v2_count v2_madeIn v2_bound] sz [.ref a2, .int p1]) (QiK D (fun (r : Int32) (u : Unit) => True) (fun (u : Unit) => [O2 a2 r2 v2_count v2_madeIn v2_bound]) [O2 a2 r2 v2_count v2_madeIn v2_bound] sz) 0 0 (va_A [O2 a2 r2 v2_count v2_madeIn v2_bound] sz) := by
  refine ofK_i (cc := cX2_gather) (maxL := 4) (own := RX2) (by decide) rfl rfl (Nat.le_of_ble_eq_true rfl) ?_
  intro p e s m args below meth c Q A ls hsz hx hb hml hts hown hK hA hAB hP hD hl ret
  have hS : va_S A s.heap s.heap [] := va_S.rf
  have hl : lv_has ls 4 [(0, .ref a2), (1, .int p1)] := hl
  have i1 : 0 ≤ v2_count.toInt ∧ v2_count.toInt ≤ 40 := i1
  exfalso
  omega
set_option maxHeartbeats 4000000 in
set_option maxRecDepth 100000 in
theorem k_X2_sumOf (l : Launch) (D : va_G) (κ : Nat → ClassId) (β : Nat) (a2 : Nat) (r2 : Nat → Nat) (v2_count : Int32) (v2_madeIn : Int32) (v2_bound : Int32) (sz : Nat) (p1 : Int32) (p2 : Int32) (i1 : Rg 0 40 v2_count) (i2 : (1 : Int) ≤ 0) : Met l yX2_sumOf wsX2_sumOf ({ frames := 1, cells := 0, slots := 0, locals := 30 } : Room) (PcK D κ β [O2 a2 r2 v2_count v2_madeIn v2_bound] sz [.ref a2, .int p1, .int p2]) (QiK D (fun (r : Int32) (u : Unit) => True) (fun (u : Unit) => [O2 a2 r2 v2_count v2_madeIn v2_bound]) [O2 a2 r2 v2_count v2_madeIn v2_bound] sz) 0 0 (va_A [O2 a2 r2 v2_count v2_madeIn v2_bound] sz) := by
  refine ofK_i (cc := cX2_sumOf) (maxL := 5) (own := RX2) (by decide) rfl rfl (Nat.le_of_ble_eq_true rfl) ?_
  intro p e s m args below meth c Q A ls hsz hx hb hml hts hown hK hA hAB hP hD hl ret
  have hS : va_S A s.heap s.heap [] := va_S.rf
  have hl : lv_has ls 5 [(0, .ref a2), (1, .int p1), (2, .int p2)] := hl
  exfalso
  omega
set_option maxHeartbeats 4000000 in
set_option maxRecDepth 100000 in
theorem k_X2_shuffle (l : Launch) (D : va_G) (κ : Nat → ClassId) (β : Nat) (a2 : Nat) (r2 : Nat → Nat) (v2_count : Int32) (v2_madeIn : Int32) (v2_bound : Int32) (sz : Nat) (p1 : Int32) (p2 : Int32) (i1 : Rg 0 40 v2_count) (i2 : (1 : Int) ≤ 0) : Met l yX2_shuffle wsX2_shuffle ({ frames := 1, cells := 0, slots := 0, locals := 30 } : Room) (PcK D κ β [O2 a2 r2 v2_count v2_madeIn v2_bound] sz [.ref a2, .int p1, .int p2]) (QiK D (fun (r : Int32) (u : Unit) => True) (fun (u : Unit) => [O2 a2 r2 v2_count v2_madeIn v2_bound]) [O2 a2 r2 v2_count v2_madeIn v2_bound] sz) 0 0 (va_A [O2 a2 r2 v2_count v2_madeIn v2_bound] sz) := by
  refine ofK_i (cc := cX2_shuffle) (maxL := 7) (own := RX2) (by decide) rfl rfl (Nat.le_of_ble_eq_true rfl) ?_
  intro p e s m args below meth c Q A ls hsz hx hb hml hts hown hK hA hAB hP hD hl ret
  have hS : va_S A s.heap s.heap [] := va_S.rf
  have hl : lv_has ls 7 [(0, .ref a2), (1, .int p1), (2, .int p2)] := hl
  exfalso
  omega
set_option maxHeartbeats 4000000 in
set_option maxRecDepth 100000 in
theorem k_X2_byChance (l : Launch) (D : va_G) (κ : Nat → ClassId) (β : Nat) (a2 : Nat) (r2 : Nat → Nat) (v2_count : Int32) (v2_madeIn : Int32) (v2_bound : Int32) (sz : Nat) (p1 : Int32) (p2 : Int32) (p3 : Int32) (i1 : Rg 0 40 v2_count) (i2 : (1 : Int) ≤ 0) : Met l yX2_byChance wsX2_byChance ({ frames := 1, cells := 0, slots := 0, locals := 30 } : Room) (PcK D κ β [O2 a2 r2 v2_count v2_madeIn v2_bound] sz [.ref a2, .int p1, .int p2, .int p3]) (QiK D (fun (r : Int32) (u : Unit) => True) (fun (u : Unit) => [O2 a2 r2 v2_count v2_madeIn v2_bound]) [O2 a2 r2 v2_count v2_madeIn v2_bound] sz) 0 0 (va_A [O2 a2 r2 v2_count v2_madeIn v2_bound] sz) := by
  refine ofK_i (cc := cX2_byChance) (maxL := 9) (own := RX2) (by decide) rfl rfl (Nat.le_of_ble_eq_true rfl) ?_
  intro p e s m args below meth c Q A ls hsz hx hb hml hts hown hK hA hAB hP hD hl ret
  have hS : va_S A s.heap s.heap [] := va_S.rf
  have hl : lv_has ls 9 [(0, .ref a2), (1, .int p1), (2, .int p2), (3, .int p3)] := hl
  exfalso
  omega
set_option maxHeartbeats 4000000 in
set_option maxRecDepth 100000 in
theorem k_X2_inkBars (l : Launch) (D : va_G) (κ : Nat → ClassId) (β : Nat) (a2 : Nat) (r2 : Nat → Nat) (v2_count : Int32) (v2_madeIn : Int32) (v2_bound : Int32) (sz : Nat) (p1 : Int32) (p2 : Int32) (i1 : Rg 0 40 v2_count) (i2 : v2_count.toInt = 0) (i3 : v2_madeIn.toInt = 2001) : Met l yX2_inkBars wsX2_inkBars ({ frames := 1, cells := 0, slots := 0, locals := 25 } : Room) (PcK D κ β [O2 a2 r2 v2_count v2_madeIn v2_bound] sz [.ref a2, .int p1, .int p2]) (QiK D (fun (r : Int32) (u : Unit) => r.toInt = 0) (fun (u : Unit) => [O2 a2 r2 v2_count v2_madeIn v2_bound]) [O2 a2 r2 v2_count v2_madeIn v2_bound] sz) 0 0 (va_A [O2 a2 r2 v2_count v2_madeIn v2_bound] sz) := by
  refine ofK_z (cc := cX2_inkBars) (maxL := 3) (own := RX2) (by decide) rfl rfl (Nat.le_of_ble_eq_true rfl) ?_
  intro p e s m args below meth c Q A ls hsz hx hb hml hts hown hK hA hAB hP hD hl ret
  have hS : va_S A s.heap s.heap [] := va_S.rf
  have hl : lv_has ls 3 [(0, .ref a2), (1, .int p1), (2, .int p2)] := hl
  have w0 := hts (.fieldLink RX2 21 "OlderSkin$Dots" "madeIn" "I") (List.mem_of_getElem? (i := 1) rfl)
  have w1 := (fun w h => List.mem_cons_of_mem _ (List.mem_append_right _ h) : ∀ w ∈ u_ws RX2 TX2 8, w ∈ wsX2_inkBars)
  have w2 := hts (.fieldLink RX2 25 "OlderSkin$Dots" "bound" "I") (List.mem_of_getElem? (i := 2) rfl)
  have l0 : (2001 : Int32).toInt = 2001 := by decide
  have l1 : (0 : Int32).toInt = 0 := by decide
  have l2 : (31 : Int32).toInt = 31 := by decide
  have l3 : (1 : Int32).toInt = 1 := by decide
  refine lv_aload_n hx hb dX2_inkBars_0 rfl (lv_at hl 0 rfl) ?_
  refine va_get (D := D) (ci := 2) (v := .int v2_madeIn) (C := RX2) (T := TX2) (N := 8) hx hb hts w1 hown hK.1 hP 0 rfl rfl 4 (by decide) w0 (fun _ h9 => h9) rfl dX2_inkBars_1 ?_
  refine lv_sipush (v := 2001) hx hb dX2_inkBars_4 (by decide) ?_
  refine lv_icmp_eq (tgt := 38) hx hb dX2_inkBars_7 (by decide) (fun c1 => ?_) (fun c1 => ?_)
  · have c1 := ci_eq c1
    refine lv_iconst (v := 0) hx hb dX2_inkBars_38 (by decide) ?_
    have hpo : (0 : Int32).toInt = 0 := (by omega)
    exact ret _ _ _ _ 0 () dX2_inkBars_39 (by omega) hpo hP hD hS
  have c1 := ci_ne c1
  refine lv_iload_n hx hb dX2_inkBars_10 rfl (lv_at hl 2 rfl) ?_
  refine lv_aload_n hx hb dX2_inkBars_11 rfl (lv_at hl 0 rfl) ?_
  refine va_get (D := D) (ci := 2) (v := .int v2_madeIn) (C := RX2) (T := TX2) (N := 8) hx hb hts w1 hown hK.1 hP 0 rfl rfl 4 (by decide) w0 (fun _ h9 => h9) rfl dX2_inkBars_12 ?_
  refine lv_icmp_ge (tgt := 38) hx hb dX2_inkBars_15 (by decide) (fun c2 => ?_) (fun c2 => ?_)
  · have c2 := ci_le c2
    refine lv_iconst (v := 0) hx hb dX2_inkBars_38 (by decide) ?_
    have hpo : (0 : Int32).toInt = 0 := (by omega)
    exact ret _ _ _ _ 0 () dX2_inkBars_39 (by omega) hpo hP hD hS
  have c2 := ci_nle c2
  refine lv_aload_n hx hb dX2_inkBars_18 rfl (lv_at hl 0 rfl) ?_
  refine lv_bipush (v := 31) hx hb dX2_inkBars_19 (by decide) ?_
  refine lv_iconst (v := 1) hx hb dX2_inkBars_21 (by decide) ?_
  refine lv_iload_n hx hb dX2_inkBars_22 rfl (lv_at hl 1 rfl) ?_
  refine lv_ishl hx hb dX2_inkBars_23 ?_
  refine lv_topi (fun x3 e4 => ?_)
  refine kcm_i hA hAB hP hD hS [true] rfl (fun _ => rfl) (fun hPc hDc => va_runV (As := [.int 31, .int x3]) (rest := []) ⟨hx, hb, hml, hown, hts⟩ (k_X2_meanOf l D κ β a2 r2 v2_count v2_madeIn v2_bound s.heap.size 31 x3 i1 (by omega) (by omega)) (cwV 2 hts gX2_inkBars_X2_meanOf rfl rfl rfl (by decide +kernel) ⟨Nat.le_of_ble_eq_true rfl, Nat.le_of_ble_eq_true rfl⟩) (pk_V hK hS hAB hPc hDc 0 (ci := 2) rfl rfl rfl) rfl rfl hl.1 rfl (lv_room (Nat.le_of_ble_eq_true rfl)) dX2_inkBars_24 ⟨Nat.le_of_ble_eq_true rfl, Nat.le_of_ble_eq_true rfl⟩) (fun x5 u6 H locs hw hPD hS => ?_)
  have h7 : x5.toInt = -2 := hw
  obtain ⟨hP, hD⟩ : PD D A [O2 a2 r2 v2_count v2_madeIn v2_bound] H := hPD
  refine lv_aload_n hx hb dX2_inkBars_27 rfl (lv_at hl 0 rfl) ?_
  refine va_get (D := D) (ci := 2) (v := .int v2_bound) (C := RX2) (T := TX2) (N := 8) hx hb hts w1 hown hK.1 hP 0 rfl rfl 5 (by decide) w2 (fun _ h9 => h9) rfl dX2_inkBars_28 ?_
  refine lv_icmp_le (tgt := 38) hx hb dX2_inkBars_31 (by decide) (fun c8 => ?_) (fun c8 => ?_)
  · have c8 := ci_le c8
    refine lv_iconst (v := 0) hx hb dX2_inkBars_38 (by decide) ?_
    have hpo : (0 : Int32).toInt = 0 := (by omega)
    exact ret _ _ _ _ 0 () dX2_inkBars_39 (by omega) hpo hP hD hS
  have c8 := ci_nle c8
  refine lv_iconst (v := 1) hx hb dX2_inkBars_34 (by decide) ?_
  refine lv_goto (tgt := 39) hx hb dX2_inkBars_35 (by decide) ?_
  have hpo : (1 : Int32).toInt = 0 := (by omega)
  exact ret _ _ _ _ 1 () dX2_inkBars_39 (by omega) hpo hP hD hS
set_option maxHeartbeats 4000000 in
set_option maxRecDepth 100000 in
theorem k_X2_someInkBars (l : Launch) (D : va_G) (κ : Nat → ClassId) (β : Nat) (a2 : Nat) (r2 : Nat → Nat) (v2_count : Int32) (v2_madeIn : Int32) (v2_bound : Int32) (sz : Nat) (p1 : Int32) (i1 : Rg 0 40 v2_count) (i2 : (1 : Int) ≤ 0) : Met l yX2_someInkBars wsX2_someInkBars ({ frames := 1, cells := 0, slots := 0, locals := 30 } : Room) (PcK D κ β [O2 a2 r2 v2_count v2_madeIn v2_bound] sz [.ref a2, .int p1]) (QiK D (fun (r : Int32) (u : Unit) => r.toInt = 0 ∨ r.toInt = 1) (fun (u : Unit) => [O2 a2 r2 v2_count v2_madeIn v2_bound]) [O2 a2 r2 v2_count v2_madeIn v2_bound] sz) 0 0 (va_A [O2 a2 r2 v2_count v2_madeIn v2_bound] sz) := by
  refine ofK_z (cc := cX2_someInkBars) (maxL := 3) (own := RX2) (by decide) rfl rfl (Nat.le_of_ble_eq_true rfl) ?_
  intro p e s m args below meth c Q A ls hsz hx hb hml hts hown hK hA hAB hP hD hl ret
  have hS : va_S A s.heap s.heap [] := va_S.rf
  have hl : lv_has ls 3 [(0, .ref a2), (1, .int p1)] := hl
  exfalso
  omega
