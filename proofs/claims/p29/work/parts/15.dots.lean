set_option maxHeartbeats 4000000 in
set_option maxRecDepth 100000 in
theorem k_X2_isOne (l : Launch) (D : va_G) (κ : Nat → ClassId) (β : Nat) (a2 : Nat) (r2 : Nat → Nat) (v2_count : Int32) (v2_madeIn : Int32) (v2_bound : Int32) (sz : Nat) (p1 : Int32) (i1 : Rg 0 40 v2_count) : Met l yX2_isOne wsX2_isOne ({ frames := 1, cells := 0, slots := 0, locals := 22 } : Room) (PcK D κ β [O2 a2 r2 v2_count v2_madeIn v2_bound] sz [.ref a2, .int p1]) (QiK D (fun (r : Int32) (u : Unit) => (r.toInt = 1 ∧ 0 ≤ p1.toInt ∧ p1.toInt < v2_count.toInt) ∨ (r.toInt = 0 ∧ (p1.toInt < 0 ∨ v2_count.toInt ≤ p1.toInt))) (fun (u : Unit) => [O2 a2 r2 v2_count v2_madeIn v2_bound]) [O2 a2 r2 v2_count v2_madeIn v2_bound] sz) 0 0 (va_A [O2 a2 r2 v2_count v2_madeIn v2_bound] sz) := by
  refine ofK_z (cc := cX2_isOne) (maxL := 2) (own := RX2) (by decide) rfl rfl (Nat.le_of_ble_eq_true rfl) ?_
  intro p e s m args below meth c Q A ls hsz hx hb hml hts hown hK hA hAB hP hD hl ret
  have hS : va_S A s.heap s.heap [] := va_S.rf
  have hl : lv_has ls 2 [(0, .ref a2), (1, .int p1)] := hl
  have w0 := hts (.fieldLink RX2 34 "OlderSkin$Dots" "count" "I") (List.mem_of_getElem? (i := 1) rfl)
  have w1 := (fun w h => List.mem_cons_of_mem _ (List.mem_append_right _ h) : ∀ w ∈ u_ws RX2 TX2 8, w ∈ wsX2_isOne)
  have w2 := hts (.initialized RX11) (List.mem_of_getElem? (i := 3) rfl)
  have w3 := hts (.static yX11_within) (List.mem_of_getElem? (i := 2) rfl)
  have w4 := hK.2.1 ("OlderSkin$Dots", 37, ⟨"OlderSkin", "within", "(III)Z"⟩, "OlderSkin") (by decide +kernel)
  have l0 : (0 : Int32).toInt = 0 := by decide
  have l1 : (1 : Int32).toInt = 1 := by decide
  have i1 : 0 ≤ v2_count.toInt ∧ v2_count.toInt ≤ 40 := i1
  refine lv_iload_n hx hb dX2_isOne_0 rfl (lv_at hl 1 rfl) ?_
  refine lv_iconst (v := 0) hx hb dX2_isOne_1 (by decide) ?_
  refine lv_aload_n hx hb dX2_isOne_2 rfl (lv_at hl 0 rfl) ?_
  refine va_get (D := D) (ci := 2) (v := .int v2_count) (C := RX2) (T := TX2) (N := 8) hx hb hts w1 hown hK.1 hP 0 rfl rfl 3 (by decide) w0 (fun _ h9 => h9) rfl dX2_isOne_3 ?_
  refine lv_iconst (v := 1) hx hb dX2_isOne_6 (by decide) ?_
  refine lv_isub hx hb dX2_isOne_7 ?_
  refine lv_topi (fun x1 e2 => ?_)
  try have h3 : x1.toInt = v2_count.toInt - (1 : Int32).toInt := ci_sub e2 (by omega) (by omega)
  refine kcm_i hA hAB hP hD hS [false] rfl (fun _ => rfl) (fun hPc hDc => va_runSN (As := [.int p1, .int 0, .int x1]) (rest := []) ⟨hx, hb, hml, hown, hts⟩ (k_X11_within l D κ β s.heap.size p1 0 x1) ⟨va_cnB 3 hts gX2_isOne_X11_within_n37 rfl rfl rfl w4 w2 (by decide +kernel) ⟨Nat.le_of_ble_eq_true rfl, Nat.le_of_ble_eq_true rfl⟩, w3, trivial⟩ (pk_S hK hS hAB hPc hDc) rfl rfl hl.1 rfl (lv_room (Nat.le_of_ble_eq_true rfl)) dX2_isOne_8 ⟨Nat.le_of_ble_eq_true rfl, Nat.le_of_ble_eq_true rfl⟩) (fun x4 u5 H locs hw hPD hS => ?_)
  have h6 : (x4.toInt = 1 ∧ (0 : Int32).toInt ≤ p1.toInt ∧ p1.toInt ≤ x1.toInt) ∨ (x4.toInt = 0 ∧ (p1.toInt < (0 : Int32).toInt ∨ x1.toInt < p1.toInt)) := hw
  obtain ⟨hP, hD⟩ : PD D A [O2 a2 r2 v2_count v2_madeIn v2_bound] H := hPD
  have hpo : (x4.toInt = 1 ∧ 0 ≤ p1.toInt ∧ p1.toInt < v2_count.toInt) ∨ (x4.toInt = 0 ∧ (p1.toInt < 0 ∨ v2_count.toInt ≤ p1.toInt)) := (by omega)
  exact ret _ _ _ _ x4 () dX2_isOne_11 (by omega) hpo hP hD hS
set_option maxHeartbeats 4000000 in
set_option maxRecDepth 100000 in
theorem k_X2_isFull (l : Launch) (D : va_G) (κ : Nat → ClassId) (β : Nat) (a2 : Nat) (r2 : Nat → Nat) (v2_count : Int32) (v2_madeIn : Int32) (v2_bound : Int32) (f2_stuffs : Nat → Int32) (sz : Nat) (i1 : Rg 0 40 v2_count) : Met l yX2_isFull wsX2_isFull ({ frames := 0, cells := 0, slots := 0, locals := 0 } : Room) (PcK D κ β [O2 a2 r2 v2_count v2_madeIn v2_bound, (cI κ (r2 2) 40 f2_stuffs)] sz [.ref a2]) (QiK D (fun (r : Int32) (u : Unit) => (r.toInt = 1 ∧ v2_count.toInt = 40) ∨ (r.toInt = 0 ∧ v2_count.toInt < 40)) (fun (u : Unit) => [O2 a2 r2 v2_count v2_madeIn v2_bound, (cI κ (r2 2) 40 f2_stuffs)]) [O2 a2 r2 v2_count v2_madeIn v2_bound, (cI κ (r2 2) 40 f2_stuffs)] sz) 0 0 (va_A [O2 a2 r2 v2_count v2_madeIn v2_bound, (cI κ (r2 2) 40 f2_stuffs)] sz) := by
  refine ofK_z (cc := cX2_isFull) (maxL := 1) (own := RX2) (by decide) rfl rfl (Nat.le_of_ble_eq_true rfl) ?_
  intro p e s m args below meth c Q A ls hsz hx hb hml hts hown hK hA hAB hP hD hl ret
  have hS : va_S A s.heap s.heap [] := va_S.rf
  have hl : lv_has ls 1 [(0, .ref a2)] := hl
  have w0 := hts (.fieldLink RX2 34 "OlderSkin$Dots" "count" "I") (List.mem_of_getElem? (i := 1) rfl)
  have w1 := (fun w h => List.mem_cons_of_mem _ (List.mem_append_right _ h) : ∀ w ∈ u_ws RX2 TX2 8, w ∈ wsX2_isFull)
  have w2 := hts (.fieldLink RX2 18 "OlderSkin$Dots" "stuffs" "[I") (List.mem_of_getElem? (i := 2) rfl)
  have l0 : (40 : Int32).toInt = 40 := by decide
  have l1 : (0 : Int32).toInt = 0 := by decide
  have l2 : (1 : Int32).toInt = 1 := by decide
  have i1 : 0 ≤ v2_count.toInt ∧ v2_count.toInt ≤ 40 := i1
  refine lv_aload_n hx hb dX2_isFull_0 rfl (lv_at hl 0 rfl) ?_
  refine va_get (D := D) (ci := 2) (v := .int v2_count) (C := RX2) (T := TX2) (N := 8) hx hb hts w1 hown hK.1 hP 0 rfl rfl 3 (by decide) w0 (fun _ h9 => h9) rfl dX2_isFull_1 ?_
  refine lv_aload_n hx hb dX2_isFull_4 rfl (lv_at hl 0 rfl) ?_
  refine va_get (D := D) (ci := 2) (v := .ref (r2 2)) (C := RX2) (T := TX2) (N := 8) hx hb hts w1 hown hK.1 hP 0 rfl rfl 2 (by decide) w2 (fun _ h9 => h9) rfl dX2_isFull_5 ?_
  refine va_alen hx hb hK.1 hP 1 1 rfl rfl (v := 40) rfl dX2_isFull_8 ?_
  refine lv_icmp_ne (tgt := 16) hx hb dX2_isFull_9 (by decide) (fun c1 => ?_) (fun c1 => ?_)
  · have c1 := ci_ne c1
    refine lv_iconst (v := 0) hx hb dX2_isFull_16 (by decide) ?_
    have hpo : ((0 : Int32).toInt = 1 ∧ v2_count.toInt = 40) ∨ ((0 : Int32).toInt = 0 ∧ v2_count.toInt < 40) := (by omega)
    exact ret _ _ _ _ 0 () dX2_isFull_17 (by omega) hpo hP hD hS
  have c1 := ci_eq c1
  refine lv_iconst (v := 1) hx hb dX2_isFull_12 (by decide) ?_
  refine lv_goto (tgt := 17) hx hb dX2_isFull_13 (by decide) ?_
  have hpo : ((1 : Int32).toInt = 1 ∧ v2_count.toInt = 40) ∨ ((1 : Int32).toInt = 0 ∧ v2_count.toInt < 40) := (by omega)
  exact ret _ _ _ _ 1 () dX2_isFull_17 (by omega) hpo hP hD hS
set_option maxHeartbeats 4000000 in
set_option maxRecDepth 100000 in
theorem k_X2_add (l : Launch) (D : va_G) (κ : Nat → ClassId) (β : Nat) (a2 : Nat) (r2 : Nat → Nat) (v2_count : Int32) (v2_madeIn : Int32) (v2_bound : Int32) (f2_houses : Nat → Int32) (f2_inks : Nat → Int32) (f2_stuffs : Nat → Int32) (sz : Nat) (p1 : Int32) (p2 : Int32) (p3 : Int32) (i1 : Rg 0 40 v2_count) : Met l yX2_add wsX2_add ({ frames := 1, cells := 0, slots := 0, locals := 20 } : Room) (PcK D κ β [O2 a2 r2 v2_count v2_madeIn v2_bound, (cI κ (r2 0) 40 f2_houses), (cI κ (r2 1) 40 f2_inks), (cI κ (r2 2) 40 f2_stuffs)] sz [.ref a2, .int p1, .int p2, .int p3]) (QiK D (fun (r : Int32) (u : Int32 × (Nat → Int32) × (Nat → Int32) × (Nat → Int32)) => (0 ≤ u.1.toInt ∧ u.1.toInt ≤ 40) ∧ ((v2_count.toInt = 40 ∧ r.toInt = -3 ∧ u.1.toInt = v2_count.toInt) ∨ (v2_count.toInt < 40 ∧ r.toInt = v2_count.toInt ∧ u.1.toInt = v2_count.toInt + 1))) (fun (u : Int32 × (Nat → Int32) × (Nat → Int32) × (Nat → Int32)) => [O2 a2 r2 u.1 v2_madeIn v2_bound, (cI κ (r2 0) 40 u.2.1), (cI κ (r2 1) 40 u.2.2.1), (cI κ (r2 2) 40 u.2.2.2)]) [O2 a2 r2 v2_count v2_madeIn v2_bound, (cI κ (r2 0) 40 f2_houses), (cI κ (r2 1) 40 f2_inks), (cI κ (r2 2) 40 f2_stuffs)] sz) 0 0 (va_A [O2 a2 r2 v2_count v2_madeIn v2_bound, (cI κ (r2 0) 40 f2_houses), (cI κ (r2 1) 40 f2_inks), (cI κ (r2 2) 40 f2_stuffs)] sz) := by
  refine ofK_i (cc := cX2_add) (maxL := 4) (own := RX2) (by decide) rfl rfl (Nat.le_of_ble_eq_true rfl) ?_
  intro p e s m args below meth c Q A ls hsz hx hb hml hts hown hK hA hAB hP hD hl ret
  have hS : va_S A s.heap s.heap [] := va_S.rf
  have hl : lv_has ls 4 [(0, .ref a2), (1, .int p1), (2, .int p2), (3, .int p3)] := hl
  have w0 := hts (.fieldLink RX2 9 "OlderSkin$Dots" "houses" "[I") (List.mem_of_getElem? (i := 1) rfl)
  have w1 := (fun w h => List.mem_cons_of_mem _ (List.mem_append_right _ h) : ∀ w ∈ u_ws RX2 TX2 8, w ∈ wsX2_add)
  have w2 := hts (.fieldLink RX2 34 "OlderSkin$Dots" "count" "I") (List.mem_of_getElem? (i := 2) rfl)
  have w3 := hts (.fieldLink RX2 15 "OlderSkin$Dots" "inks" "[I") (List.mem_of_getElem? (i := 3) rfl)
  have w4 := hts (.fieldLink RX2 18 "OlderSkin$Dots" "stuffs" "[I") (List.mem_of_getElem? (i := 4) rfl)
  have l0 : (0 : Int32).toInt = 0 := by decide
  have l1 : (1 : Int32).toInt = 1 := by decide
  have l2 : ((-3) : Int32).toInt = -3 := by decide
  have i1 : 0 ≤ v2_count.toInt ∧ v2_count.toInt ≤ 40 := i1
  refine lv_aload_n hx hb dX2_add_0 rfl (lv_at hl 0 rfl) ?_
  refine kcm_i hA hAB hP hD hS [true, false, false, true] rfl (fun _ => rfl) (fun hPc hDc => va_runV (As := []) (rest := []) ⟨hx, hb, hml, hown, hts⟩ (k_X2_isFull l D κ β a2 r2 v2_count v2_madeIn v2_bound f2_stuffs s.heap.size i1) (cwV 0 hts gX2_add_X2_isFull rfl rfl rfl (by decide +kernel) ⟨Nat.le_of_ble_eq_true rfl, Nat.le_of_ble_eq_true rfl⟩) (pk_V hK hS hAB hPc hDc 0 (ci := 2) rfl rfl rfl) rfl rfl hl.1 rfl (lv_room (Nat.le_of_ble_eq_true rfl)) dX2_add_1 ⟨Nat.le_of_ble_eq_true rfl, Nat.le_of_ble_eq_true rfl⟩) (fun x1 u2 H locs hw hPD hS => ?_)
  have h3 : (x1.toInt = 1 ∧ v2_count.toInt = 40) ∨ (x1.toInt = 0 ∧ v2_count.toInt < 40) := hw
  obtain ⟨hP, hD⟩ : PD D A [O2 a2 r2 v2_count v2_madeIn v2_bound, (cI κ (r2 0) 40 f2_houses), (cI κ (r2 1) 40 f2_inks), (cI κ (r2 2) 40 f2_stuffs)] H := hPD
  refine lv_if_eq (tgt := 10) hx hb dX2_add_4 (by decide) (fun c4 => ?_) (fun c4 => ?_)
  · have c4 := ci_eq c4
    refine lv_aload_n hx hb dX2_add_10 rfl (lv_at hl 0 rfl) ?_
    refine va_get (D := D) (ci := 2) (v := .ref (r2 0)) (C := RX2) (T := TX2) (N := 8) hx hb hts w1 hown hK.1 hP 0 rfl rfl 0 (by decide) w0 (fun _ h9 => h9) rfl dX2_add_11 ?_
    refine lv_aload_n hx hb dX2_add_14 rfl (lv_at hl 0 rfl) ?_
    refine va_get (D := D) (ci := 2) (v := .int v2_count) (C := RX2) (T := TX2) (N := 8) hx hb hts w1 hown hK.1 hP 0 rfl rfl 3 (by decide) w2 (fun _ h9 => h9) rfl dX2_add_15 ?_
    refine lv_iload_n hx hb dX2_add_18 rfl (lv_at hl 1 rfl) ?_
    refine va_iast hx hb hK.1 hP hD hS 1 1 rfl rfl (i := v2_count) (ix (by omega) (by omega)) dX2_add_19 (fun H locs hP hD hS => ?_)
    obtain ⟨g5, e6⟩ : ∃ y : Nat → Int32, y = upd f2_houses v2_count.toNatClampNeg p1 := ⟨_, rfl⟩
    rw [← e6] at hP hD
    obtain ⟨hP, hD⟩ : PD D A [O2 a2 r2 v2_count v2_madeIn v2_bound, (cI κ (r2 0) 40 g5), (cI κ (r2 1) 40 f2_inks), (cI κ (r2 2) 40 f2_stuffs)] H := ⟨hP, hD⟩
    refine lv_aload_n hx hb dX2_add_20 rfl (lv_at hl 0 rfl) ?_
    refine va_get (D := D) (ci := 2) (v := .ref (r2 1)) (C := RX2) (T := TX2) (N := 8) hx hb hts w1 hown hK.1 hP 0 rfl rfl 1 (by decide) w3 (fun _ h9 => h9) rfl dX2_add_21 ?_
    refine lv_aload_n hx hb dX2_add_24 rfl (lv_at hl 0 rfl) ?_
    refine va_get (D := D) (ci := 2) (v := .int v2_count) (C := RX2) (T := TX2) (N := 8) hx hb hts w1 hown hK.1 hP 0 rfl rfl 3 (by decide) w2 (fun _ h9 => h9) rfl dX2_add_25 ?_
    refine lv_iload_n hx hb dX2_add_28 rfl (lv_at hl 2 rfl) ?_
    refine va_iast hx hb hK.1 hP hD hS 2 1 rfl rfl (i := v2_count) (ix (by omega) (by omega)) dX2_add_29 (fun H locs hP hD hS => ?_)
    obtain ⟨g7, e8⟩ : ∃ y : Nat → Int32, y = upd f2_inks v2_count.toNatClampNeg p2 := ⟨_, rfl⟩
    rw [← e8] at hP hD
    obtain ⟨hP, hD⟩ : PD D A [O2 a2 r2 v2_count v2_madeIn v2_bound, (cI κ (r2 0) 40 g5), (cI κ (r2 1) 40 g7), (cI κ (r2 2) 40 f2_stuffs)] H := ⟨hP, hD⟩
    refine lv_aload_n hx hb dX2_add_30 rfl (lv_at hl 0 rfl) ?_
    refine va_get (D := D) (ci := 2) (v := .ref (r2 2)) (C := RX2) (T := TX2) (N := 8) hx hb hts w1 hown hK.1 hP 0 rfl rfl 2 (by decide) w4 (fun _ h9 => h9) rfl dX2_add_31 ?_
    refine lv_aload_n hx hb dX2_add_34 rfl (lv_at hl 0 rfl) ?_
    refine va_get (D := D) (ci := 2) (v := .int v2_count) (C := RX2) (T := TX2) (N := 8) hx hb hts w1 hown hK.1 hP 0 rfl rfl 3 (by decide) w2 (fun _ h9 => h9) rfl dX2_add_35 ?_
    refine lv_iload_n hx hb dX2_add_38 rfl (lv_at hl 3 rfl) ?_
    refine va_iast hx hb hK.1 hP hD hS 3 1 rfl rfl (i := v2_count) (ix (by omega) (by omega)) dX2_add_39 (fun H locs hP hD hS => ?_)
    obtain ⟨g9, e10⟩ : ∃ y : Nat → Int32, y = upd f2_stuffs v2_count.toNatClampNeg p3 := ⟨_, rfl⟩
    rw [← e10] at hP hD
    obtain ⟨hP, hD⟩ : PD D A [O2 a2 r2 v2_count v2_madeIn v2_bound, (cI κ (r2 0) 40 g5), (cI κ (r2 1) 40 g7), (cI κ (r2 2) 40 g9)] H := ⟨hP, hD⟩
    refine lv_aload_n hx hb dX2_add_40 rfl (lv_at hl 0 rfl) ?_
    refine lv_dup hx hb dX2_add_41 rfl ?_
    refine va_get (D := D) (ci := 2) (v := .int v2_count) (C := RX2) (T := TX2) (N := 8) hx hb hts w1 hown hK.1 hP 0 rfl rfl 3 (by decide) w2 (fun _ h9 => h9) rfl dX2_add_42 ?_
    refine lv_dup_x1 hx hb dX2_add_45 rfl rfl ?_
    refine lv_iconst (v := 1) hx hb dX2_add_46 (by decide) ?_
    refine lv_iadd hx hb dX2_add_47 ?_
    refine lv_topi (fun x11 e12 => ?_)
    try have h13 : x11.toInt = v2_count.toInt + (1 : Int32).toInt := ci_add e12 (by omega) (by omega)
    refine va_put (D := D) (ci := 2) (v := .int x11) (ty := .int) (C := RX2) (T := TX2) (N := 8) hx hb hts w1 tyX2 tyX2_ok nmX2 hown hK.1 hP hD hS 0 rfl rfl 3 (by decide) w2 (fun _ h9 => h9) rfl (by decide +kernel) rfl rfl (Nat.le_of_ble_eq_true rfl) dX2_add_48 (fun H locs hP hD hS => ?_)
    obtain ⟨hP, hD⟩ : PD D A [O2 a2 r2 x11 v2_madeIn v2_bound, (cI κ (r2 0) 40 g5), (cI κ (r2 1) 40 g7), (cI κ (r2 2) 40 g9)] H := ⟨hP, hD⟩
    have h14 : 0 ≤ x11.toInt ∧ x11.toInt ≤ 40 := by omega
    have hpo : (0 ≤ x11.toInt ∧ x11.toInt ≤ 40) ∧ ((v2_count.toInt = 40 ∧ v2_count.toInt = -3 ∧ x11.toInt = v2_count.toInt) ∨ (v2_count.toInt < 40 ∧ v2_count.toInt = v2_count.toInt ∧ x11.toInt = v2_count.toInt + 1)) := ⟨h14, (by omega)⟩
    exact ret _ _ _ _ v2_count (x11, g5, g7, g9) dX2_add_51 hpo hP hD hS
  have c4 := ci_ne c4
  refine lv_bipush (v := (-3)) hx hb dX2_add_7 (by decide) ?_
  have hpo : (0 ≤ v2_count.toInt ∧ v2_count.toInt ≤ 40) ∧ ((v2_count.toInt = 40 ∧ ((-3) : Int32).toInt = -3 ∧ v2_count.toInt = v2_count.toInt) ∨ (v2_count.toInt < 40 ∧ ((-3) : Int32).toInt = v2_count.toInt ∧ v2_count.toInt = v2_count.toInt + 1)) := ⟨i1, (by omega)⟩
  exact ret _ _ _ _ (-3) (v2_count, f2_houses, f2_inks, f2_stuffs) dX2_add_9 hpo hP hD hS
set_option maxHeartbeats 4000000 in
set_option maxRecDepth 100000 in
theorem k_X2_dropLast (l : Launch) (D : va_G) (κ : Nat → ClassId) (β : Nat) (a2 : Nat) (r2 : Nat → Nat) (v2_count : Int32) (v2_madeIn : Int32) (v2_bound : Int32) (sz : Nat) (i1 : Rg 0 40 v2_count) : Met l yX2_dropLast wsX2_dropLast ({ frames := 1, cells := 0, slots := 0, locals := 21 } : Room) (PcK D κ β [O2 a2 r2 v2_count v2_madeIn v2_bound] sz [.ref a2]) (QvK D (fun (u : Int32) => (0 ≤ u.toInt ∧ u.toInt ≤ 40) ∧ ((v2_count.toInt = 0 ∧ u.toInt = 0) ∨ (0 < v2_count.toInt ∧ u.toInt = v2_count.toInt - 1))) (fun (u : Int32) => [O2 a2 r2 u v2_madeIn v2_bound]) [O2 a2 r2 v2_count v2_madeIn v2_bound] sz) 0 0 (va_A [O2 a2 r2 v2_count v2_madeIn v2_bound] sz) := by
  refine ofK_v (cc := cX2_dropLast) (maxL := 1) (own := RX2) (by decide) rfl rfl (Nat.le_of_ble_eq_true rfl) ?_
  intro p e s m args below meth c Q A ls hsz hx hb hml hts hown hK hA hAB hP hD hl hname ret
  have hS : va_S A s.heap s.heap [] := va_S.rf
  have hl : lv_has ls 1 [(0, .ref a2)] := hl
  have w0 := hts (.fieldLink RX2 34 "OlderSkin$Dots" "count" "I") (List.mem_of_getElem? (i := 1) rfl)
  have w1 := (fun w h => List.mem_cons_of_mem _ (List.mem_append_right _ h) : ∀ w ∈ u_ws RX2 TX2 8, w ∈ wsX2_dropLast)
  have w2 := hts (.methodLink RX2 45 Lib.Math.max.name) (List.mem_of_getElem? (i := 2) rfl)
  have w3 := hts (.static Lib.Math.max.name) (List.mem_of_getElem? (i := 3) rfl)
  have w4 := hts (.initialized "java/lang/Math") (List.mem_of_getElem? (i := 4) rfl)
  have w5 := hts (.code Lib.Math.max.name Lib.Math.max.code 2 (some .int)) (List.mem_of_getElem? (i := 5) rfl)
  have l0 : (1 : Int32).toInt = 1 := by decide
  have l1 : (0 : Int32).toInt = 0 := by decide
  have i1 : 0 ≤ v2_count.toInt ∧ v2_count.toInt ≤ 40 := i1
  refine lv_aload_n hx hb dX2_dropLast_0 rfl (lv_at hl 0 rfl) ?_
  refine lv_aload_n hx hb dX2_dropLast_1 rfl (lv_at hl 0 rfl) ?_
  refine va_get (D := D) (ci := 2) (v := .int v2_count) (C := RX2) (T := TX2) (N := 8) hx hb hts w1 hown hK.1 hP 0 rfl rfl 3 (by decide) w0 (fun _ h9 => h9) rfl dX2_dropLast_2 ?_
  refine lv_iconst (v := 1) hx hb dX2_dropLast_5 (by decide) ?_
  refine lv_isub hx hb dX2_dropLast_6 ?_
  refine lv_topi (fun x1 e2 => ?_)
  try have h3 : x1.toInt = v2_count.toInt - (1 : Int32).toInt := ci_sub e2 (by omega) (by omega)
  refine lv_iconst (v := 0) hx hb dX2_dropLast_7 (by decide) ?_
  refine va_mmax hx hb (hml.trans hl.1.symm) hown w2 w3 w4 w5 (Nat.le_of_ble_eq_true rfl) (Nat.le_of_ble_eq_true rfl) (Nat.le_of_ble_eq_true rfl) (Nat.le_of_ble_eq_true rfl) dX2_dropLast_8 ?_
  refine lv_topi (fun x4 e5 => ?_)
  have h6 := ci_max e5
  refine va_put (D := D) (ci := 2) (v := .int x4) (ty := .int) (C := RX2) (T := TX2) (N := 8) hx hb hts w1 tyX2 tyX2_ok nmX2 hown hK.1 hP hD hS 0 rfl rfl 3 (by decide) w0 (fun _ h9 => h9) rfl (by decide +kernel) rfl rfl (Nat.le_of_ble_eq_true rfl) dX2_dropLast_11 (fun H locs hP hD hS => ?_)
  obtain ⟨hP, hD⟩ : PD D A [O2 a2 r2 x4 v2_madeIn v2_bound] H := ⟨hP, hD⟩
  have h7 : 0 ≤ x4.toInt ∧ x4.toInt ≤ 40 := by omega
  have hpo : (0 ≤ x4.toInt ∧ x4.toInt ≤ 40) ∧ ((v2_count.toInt = 0 ∧ x4.toInt = 0) ∨ (0 < v2_count.toInt ∧ x4.toInt = v2_count.toInt - 1)) := ⟨h7, (by omega)⟩
  exact ret _ _ _ _ x4 dX2_dropLast_14 hpo hP hD hS
set_option maxHeartbeats 4000000 in
set_option maxRecDepth 100000 in
theorem k_X2_meanOf (l : Launch) (D : va_G) (κ : Nat → ClassId) (β : Nat) (a2 : Nat) (r2 : Nat → Nat) (v2_count : Int32) (v2_madeIn : Int32) (v2_bound : Int32) (f2_houses : Nat → Int32) (f2_inks : Nat → Int32) (f2_stuffs : Nat → Int32) (sz : Nat) (p1 : Int32) (p2 : Int32) (i1 : Rg 0 40 v2_count) : Met l yX2_meanOf wsX2_meanOf ({ frames := 1, cells := 0, slots := 0, locals := 21 } : Room) (PcK D κ β [O2 a2 r2 v2_count v2_madeIn v2_bound, (cI κ (r2 0) 40 f2_houses), (cI κ (r2 1) 40 f2_inks), (cI κ (r2 2) 40 f2_stuffs)] sz [.ref a2, .int p1, .int p2]) (QiK D (fun (r : Int32) (u : Unit) => True) (fun (u : Unit) => [O2 a2 r2 v2_count v2_madeIn v2_bound, (cI κ (r2 0) 40 f2_houses), (cI κ (r2 1) 40 f2_inks), (cI κ (r2 2) 40 f2_stuffs)]) [O2 a2 r2 v2_count v2_madeIn v2_bound, (cI κ (r2 0) 40 f2_houses), (cI κ (r2 1) 40 f2_inks), (cI κ (r2 2) 40 f2_stuffs)] sz) 0 0 (va_A [O2 a2 r2 v2_count v2_madeIn v2_bound, (cI κ (r2 0) 40 f2_houses), (cI κ (r2 1) 40 f2_inks), (cI κ (r2 2) 40 f2_stuffs)] sz) := by
  refine ofK_i (cc := cX2_meanOf) (maxL := 6) (own := RX2) (by decide) rfl rfl (Nat.le_of_ble_eq_true rfl) ?_
  intro p e s m args below meth c Q A ls hsz hx hb hml hts hown hK hA hAB hP hD hl ret
  have hS : va_S A s.heap s.heap [] := va_S.rf
  have hl : lv_has ls 6 [(0, .ref a2), (1, .int p1), (2, .int p2)] := hl
  have w0 := hts (.fieldLink RX2 34 "OlderSkin$Dots" "count" "I") (List.mem_of_getElem? (i := 1) rfl)
  have w1 := (fun w h => List.mem_cons_of_mem _ (List.mem_append_right _ h) : ∀ w ∈ u_ws RX2 TX2 8, w ∈ wsX2_meanOf)
  have w2 := hts (.fieldLink RX2 9 "OlderSkin$Dots" "houses" "[I") (List.mem_of_getElem? (i := 2) rfl)
  have w3 := hts (.initialized RX11) (List.mem_of_getElem? (i := 6) rfl)
  have w4 := hts (.static yX11_hasBit) (List.mem_of_getElem? (i := 5) rfl)
  have w5 := hK.2.1 ("OlderSkin$Dots", 51, ⟨"OlderSkin", "hasBit", "(II)Z"⟩, "OlderSkin") (by decide +kernel)
  have w6 := hts (.fieldLink RX2 15 "OlderSkin$Dots" "inks" "[I") (List.mem_of_getElem? (i := 3) rfl)
  have w7 := hts (.fieldLink RX2 18 "OlderSkin$Dots" "stuffs" "[I") (List.mem_of_getElem? (i := 4) rfl)
  have l0 : (0 : Int32).toInt = 0 := by decide
  have l1 : ((-2) : Int32).toInt = -2 := by decide
  have l2 : (1 : Int32).toInt = 1 := by decide
  have i1 : 0 ≤ v2_count.toInt ∧ v2_count.toInt ≤ 40 := i1
  refine lv_iconst (v := 0) hx hb dX2_meanOf_0 (by decide) ?_
  refine lv_istore_n (lv' := [(3, .int 0), (0, .ref a2), (1, .int p1), (2, .int p2)]) hx hb dX2_meanOf_1 rfl hl (by decide) rfl (fun ls hl => ?_)
  refine lv_iconst (v := 0) hx hb dX2_meanOf_2 (by decide) ?_
  refine lv_istore (lv' := [(4, .int 0), (3, .int 0), (0, .ref a2), (1, .int p1), (2, .int p2)]) hx hb dX2_meanOf_3 hl (by decide) rfl (fun ls hl => ?_)
  refine lv_iconst (v := 0) hx hb dX2_meanOf_5 (by decide) ?_
  refine lv_istore (lv' := [(5, .int 0), (4, .int 0), (3, .int 0), (0, .ref a2), (1, .int p1), (2, .int p2)]) hx hb dX2_meanOf_6 hl (by decide) rfl (fun ls hl => ?_)
  have lp8 : ∀ (n8 : Nat) (k1 : Int32) (k2 : Int32) (k3 : Int32), (0 ≤ k1.toInt) → (v2_count.toInt - k1.toInt).toNat < n8 → ∀ (H : Heap) (locs : List Loc), va_P D vwCl [O2 a2 r2 v2_count v2_madeIn v2_bound, (cI κ (r2 0) 40 f2_houses), (cI κ (r2 1) 40 f2_inks), (cI κ (r2 2) 40 f2_stuffs)] H → va_D A [O2 a2 r2 v2_count v2_madeIn v2_bound, (cI κ (r2 0) 40 f2_houses), (cI κ (r2 1) 40 f2_inks), (cI κ (r2 2) 40 f2_stuffs)] → va_S A s.heap H locs → ∀ ls : Array Slot, lv_has ls 6 [(5, .int k1), (4, .int k2), (3, .int k3), (0, .ref a2), (1, .int p1), (2, .int p2)] → W p l e ({ frames := 1, cells := 0, slots := 0, locals := 21 } : Room) s m args below meth c H locs 0 0 Q (F0 m 8 ls []) := by
    intro n8
    induction n8 with
    | zero =>
      intro k1 k2 k3 h4 m5
      exact absurd m5 (Nat.not_lt_zero _)
    | succ n8 ih8 =>
      intro k1 k2 k3 h4 m5 H locs hP hD hS ls hl
      refine lv_iload hx hb dX2_meanOf_8 (lv_at hl 0 rfl) ?_
      refine lv_aload_n hx hb dX2_meanOf_10 rfl (lv_at hl 3 rfl) ?_
      refine va_get (D := D) (ci := 2) (v := .int v2_count) (C := RX2) (T := TX2) (N := 8) hx hb hts w1 hown hK.1 hP 0 rfl rfl 3 (by decide) w0 (fun _ h9 => h9) rfl dX2_meanOf_11 ?_
      refine lv_icmp_ge (tgt := 64) hx hb dX2_meanOf_14 (by decide) (fun c6 => ?_) (fun c6 => ?_)
      · have c6 := ci_le c6
        refine lv_iload hx hb dX2_meanOf_64 (lv_at hl 1 rfl) ?_
        refine lv_if_ne (tgt := 74) hx hb dX2_meanOf_66 (by decide) (fun c7 => ?_) (fun c7 => ?_)
        · have c7 := ci_ne c7
          refine lv_iload_n hx hb dX2_meanOf_74 rfl (lv_at hl 2 rfl) ?_
          refine lv_iload hx hb dX2_meanOf_75 (lv_at hl 1 rfl) ?_
          refine lv_idiv hx hb dX2_meanOf_77 (fun q8 => by have q8 := ci_eq q8; omega) ?_
          refine lv_topi (fun x9 e10 => ?_)
          exact ret _ _ _ _ x9 () dX2_meanOf_78 trivial hP hD hS
        have c7 := ci_eq c7
        refine lv_bipush (v := (-2)) hx hb dX2_meanOf_69 (by decide) ?_
        refine lv_goto (tgt := 78) hx hb dX2_meanOf_71 (by decide) ?_
        exact ret _ _ _ _ (-2) () dX2_meanOf_78 trivial hP hD hS
      have c6 := ci_nle c6
      refine lv_iload_n hx hb dX2_meanOf_17 rfl (lv_at hl 4 rfl) ?_
      refine lv_aload_n hx hb dX2_meanOf_18 rfl (lv_at hl 3 rfl) ?_
      refine va_get (D := D) (ci := 2) (v := .ref (r2 0)) (C := RX2) (T := TX2) (N := 8) hx hb hts w1 hown hK.1 hP 0 rfl rfl 0 (by decide) w2 (fun _ h9 => h9) rfl dX2_meanOf_19 ?_
      refine lv_iload hx hb dX2_meanOf_22 (lv_at hl 0 rfl) ?_
      refine va_iald hx hb hK.1 hP 1 1 rfl rfl (i := k1) (ix (by omega) (by omega)) dX2_meanOf_24 ?_
      refine lv_topi (fun x11 e12 => ?_)
      refine kcm_i hA hAB hP hD hS [false, false, false, false] rfl (fun _ => rfl) (fun hPc hDc => va_runSN (As := [.int p1, .int x11]) (rest := []) ⟨hx, hb, hml, hown, hts⟩ (k_X11_hasBit l D κ β H.size p1 x11) ⟨va_cnB 2 hts gX2_meanOf_X11_hasBit_n51 rfl rfl rfl w5 w3 (by decide +kernel) ⟨Nat.le_of_ble_eq_true rfl, Nat.le_of_ble_eq_true rfl⟩, w4, trivial⟩ (pk_S hK hS hAB hPc hDc) rfl rfl hl.1 rfl (lv_room (Nat.le_of_ble_eq_true rfl)) dX2_meanOf_25 ⟨Nat.le_of_ble_eq_true rfl, Nat.le_of_ble_eq_true rfl⟩) (fun x13 u14 H locs hw hPD hS => ?_)
      have h15 : x13.toInt = 0 ∨ x13.toInt = 1 := hw
      obtain ⟨hP, hD⟩ : PD D A [O2 a2 r2 v2_count v2_madeIn v2_bound, (cI κ (r2 0) 40 f2_houses), (cI κ (r2 1) 40 f2_inks), (cI κ (r2 2) 40 f2_stuffs)] H := hPD
      refine lv_if_eq (tgt := 58) hx hb dX2_meanOf_28 (by decide) (fun c16 => ?_) (fun c16 => ?_)
      · have c16 := ci_eq c16
        obtain ⟨x17, e18⟩ : ∃ y : Int32, y = k1 + 1 := ⟨_, rfl⟩
        refine lv_iinc (v := x17) (lv' := [(5, .int x17), (4, .int k2), (3, .int k3), (0, .ref a2), (1, .int p1), (2, .int p2)]) hx hb dX2_meanOf_58 hl (k := 0) rfl (by rw [e18]; rfl) (by decide) rfl (fun ls hl => ?_)
        try have h19 : x17.toInt = k1.toInt + (1 : Int32).toInt := ci_add e18 (by omega) (by omega)
        refine lv_goto (tgt := 8) hx hb dX2_meanOf_61 (by decide) ?_
        exact ih8 x17 k2 k3 (by omega) (by omega) _ _ hP hD hS _ hl
      have c16 := ci_ne c16
      refine lv_iload_n hx hb dX2_meanOf_31 rfl (lv_at hl 5 rfl) ?_
      refine lv_aload_n hx hb dX2_meanOf_32 rfl (lv_at hl 3 rfl) ?_
      refine va_get (D := D) (ci := 2) (v := .ref (r2 1)) (C := RX2) (T := TX2) (N := 8) hx hb hts w1 hown hK.1 hP 0 rfl rfl 1 (by decide) w6 (fun _ h9 => h9) rfl dX2_meanOf_33 ?_
      refine lv_iload hx hb dX2_meanOf_36 (lv_at hl 0 rfl) ?_
      refine va_iald hx hb hK.1 hP 2 1 rfl rfl (i := k1) (ix (by omega) (by omega)) dX2_meanOf_38 ?_
      refine lv_topi (fun x20 e21 => ?_)
      refine kcm_i hA hAB hP hD hS [false, false, false, false] rfl (fun _ => rfl) (fun hPc hDc => va_runSN (As := [.int p2, .int x20]) (rest := []) ⟨hx, hb, hml, hown, hts⟩ (k_X11_hasBit l D κ β H.size p2 x20) ⟨va_cnB 2 hts gX2_meanOf_X11_hasBit_n51 rfl rfl rfl w5 w3 (by decide +kernel) ⟨Nat.le_of_ble_eq_true rfl, Nat.le_of_ble_eq_true rfl⟩, w4, trivial⟩ (pk_S hK hS hAB hPc hDc) rfl rfl hl.1 rfl (lv_room (Nat.le_of_ble_eq_true rfl)) dX2_meanOf_39 ⟨Nat.le_of_ble_eq_true rfl, Nat.le_of_ble_eq_true rfl⟩) (fun x22 u23 H locs hw hPD hS => ?_)
      have h24 : x22.toInt = 0 ∨ x22.toInt = 1 := hw
      obtain ⟨hP, hD⟩ : PD D A [O2 a2 r2 v2_count v2_madeIn v2_bound, (cI κ (r2 0) 40 f2_houses), (cI κ (r2 1) 40 f2_inks), (cI κ (r2 2) 40 f2_stuffs)] H := hPD
      refine lv_if_eq (tgt := 58) hx hb dX2_meanOf_42 (by decide) (fun c25 => ?_) (fun c25 => ?_)
      · have c25 := ci_eq c25
        obtain ⟨x26, e27⟩ : ∃ y : Int32, y = k1 + 1 := ⟨_, rfl⟩
        refine lv_iinc (v := x26) (lv' := [(5, .int x26), (4, .int k2), (3, .int k3), (0, .ref a2), (1, .int p1), (2, .int p2)]) hx hb dX2_meanOf_58 hl (k := 0) rfl (by rw [e27]; rfl) (by decide) rfl (fun ls hl => ?_)
        try have h28 : x26.toInt = k1.toInt + (1 : Int32).toInt := ci_add e27 (by omega) (by omega)
        refine lv_goto (tgt := 8) hx hb dX2_meanOf_61 (by decide) ?_
        exact ih8 x26 k2 k3 (by omega) (by omega) _ _ hP hD hS _ hl
      have c25 := ci_ne c25
      refine lv_iload_n hx hb dX2_meanOf_45 rfl (lv_at hl 2 rfl) ?_
      refine lv_aload_n hx hb dX2_meanOf_46 rfl (lv_at hl 3 rfl) ?_
      refine va_get (D := D) (ci := 2) (v := .ref (r2 2)) (C := RX2) (T := TX2) (N := 8) hx hb hts w1 hown hK.1 hP 0 rfl rfl 2 (by decide) w7 (fun _ h9 => h9) rfl dX2_meanOf_47 ?_
      refine lv_iload hx hb dX2_meanOf_50 (lv_at hl 0 rfl) ?_
      refine va_iald hx hb hK.1 hP 3 1 rfl rfl (i := k1) (ix (by omega) (by omega)) dX2_meanOf_52 ?_
      refine lv_topi (fun x29 e30 => ?_)
      refine lv_iadd hx hb dX2_meanOf_53 ?_
      refine lv_topi (fun x31 e32 => ?_)
      try have h33 : x31.toInt = k3.toInt + x29.toInt := ci_add e32 (by omega) (by omega)
      refine lv_istore_n (lv' := [(3, .int x31), (5, .int k1), (4, .int k2), (0, .ref a2), (1, .int p1), (2, .int p2)]) hx hb dX2_meanOf_54 rfl hl (by decide) rfl (fun ls hl => ?_)
      obtain ⟨x34, e35⟩ : ∃ y : Int32, y = k2 + 1 := ⟨_, rfl⟩
      refine lv_iinc (v := x34) (lv' := [(4, .int x34), (3, .int x31), (5, .int k1), (0, .ref a2), (1, .int p1), (2, .int p2)]) hx hb dX2_meanOf_55 hl (k := 2) rfl (by rw [e35]; rfl) (by decide) rfl (fun ls hl => ?_)
      try have h36 : x34.toInt = k2.toInt + (1 : Int32).toInt := ci_add e35 (by omega) (by omega)
      obtain ⟨x37, e38⟩ : ∃ y : Int32, y = k1 + 1 := ⟨_, rfl⟩
      refine lv_iinc (v := x37) (lv' := [(5, .int x37), (4, .int x34), (3, .int x31), (0, .ref a2), (1, .int p1), (2, .int p2)]) hx hb dX2_meanOf_58 hl (k := 2) rfl (by rw [e38]; rfl) (by decide) rfl (fun ls hl => ?_)
      try have h39 : x37.toInt = k1.toInt + (1 : Int32).toInt := ci_add e38 (by omega) (by omega)
      refine lv_goto (tgt := 8) hx hb dX2_meanOf_61 (by decide) ?_
      exact ih8 x37 x34 x31 (by omega) (by omega) _ _ hP hD hS _ hl
  exact lp8 ((v2_count.toInt - (0 : Int32).toInt).toNat + 1) 0 0 0 (by omega) (by omega) _ _ hP hD hS _ hl
set_option maxHeartbeats 4000000 in
set_option maxRecDepth 100000 in
theorem k_X2_howMany (l : Launch) (D : va_G) (κ : Nat → ClassId) (β : Nat) (a2 : Nat) (r2 : Nat → Nat) (v2_count : Int32) (v2_madeIn : Int32) (v2_bound : Int32) (f2_inks : Nat → Int32) (sz : Nat) (p1 : Int32) (i1 : Rg 0 40 v2_count) : Met l yX2_howMany wsX2_howMany ({ frames := 1, cells := 0, slots := 0, locals := 20 } : Room) (PcK D κ β [O2 a2 r2 v2_count v2_madeIn v2_bound, (cI κ (r2 1) 40 f2_inks)] sz [.ref a2, .int p1]) (QiK D (fun (r : Int32) (u : Unit) => True) (fun (u : Unit) => [O2 a2 r2 v2_count v2_madeIn v2_bound, (cI κ (r2 1) 40 f2_inks)]) [O2 a2 r2 v2_count v2_madeIn v2_bound, (cI κ (r2 1) 40 f2_inks)] sz) 0 0 (va_A [O2 a2 r2 v2_count v2_madeIn v2_bound, (cI κ (r2 1) 40 f2_inks)] sz) := by
  refine ofK_i (cc := cX2_howMany) (maxL := 4) (own := RX2) (by decide) rfl rfl (Nat.le_of_ble_eq_true rfl) ?_
  intro p e s m args below meth c Q A ls hsz hx hb hml hts hown hK hA hAB hP hD hl ret
  have hS : va_S A s.heap s.heap [] := va_S.rf
  have hl : lv_has ls 4 [(0, .ref a2), (1, .int p1)] := hl
  have w0 := hts (.fieldLink RX2 34 "OlderSkin$Dots" "count" "I") (List.mem_of_getElem? (i := 1) rfl)
  have w1 := (fun w h => List.mem_cons_of_mem _ (List.mem_append_right _ h) : ∀ w ∈ u_ws RX2 TX2 8, w ∈ wsX2_howMany)
  have w2 := hts (.fieldLink RX2 15 "OlderSkin$Dots" "inks" "[I") (List.mem_of_getElem? (i := 2) rfl)
  have w3 := hts (.initialized RX11) (List.mem_of_getElem? (i := 4) rfl)
  have w4 := hts (.static yX11_asBit) (List.mem_of_getElem? (i := 3) rfl)
  have w5 := hK.2.1 ("OlderSkin$Dots", 55, ⟨"OlderSkin", "asBit", "(Z)I"⟩, "OlderSkin") (by decide +kernel)
  have l0 : (0 : Int32).toInt = 0 := by decide
  have l1 : (1 : Int32).toInt = 1 := by decide
  have i1 : 0 ≤ v2_count.toInt ∧ v2_count.toInt ≤ 40 := i1
  refine lv_iconst (v := 0) hx hb dX2_howMany_0 (by decide) ?_
  refine lv_istore_n (lv' := [(2, .int 0), (0, .ref a2), (1, .int p1)]) hx hb dX2_howMany_1 rfl hl (by decide) rfl (fun ls hl => ?_)
  refine lv_iconst (v := 0) hx hb dX2_howMany_2 (by decide) ?_
  refine lv_istore_n (lv' := [(3, .int 0), (2, .int 0), (0, .ref a2), (1, .int p1)]) hx hb dX2_howMany_3 rfl hl (by decide) rfl (fun ls hl => ?_)
  have lp4 : ∀ (n4 : Nat) (k1 : Int32) (k2 : Int32), (0 ≤ k1.toInt) → (v2_count.toInt - k1.toInt).toNat < n4 → ∀ (H : Heap) (locs : List Loc), va_P D vwCl [O2 a2 r2 v2_count v2_madeIn v2_bound, (cI κ (r2 1) 40 f2_inks)] H → va_D A [O2 a2 r2 v2_count v2_madeIn v2_bound, (cI κ (r2 1) 40 f2_inks)] → va_S A s.heap H locs → ∀ ls : Array Slot, lv_has ls 4 [(3, .int k1), (2, .int k2), (0, .ref a2), (1, .int p1)] → W p l e ({ frames := 1, cells := 0, slots := 0, locals := 20 } : Room) s m args below meth c H locs 0 0 Q (F0 m 4 ls []) := by
    intro n4
    induction n4 with
    | zero =>
      intro k1 k2 h3 m4
      exact absurd m4 (Nat.not_lt_zero _)
    | succ n4 ih4 =>
      intro k1 k2 h3 m4 H locs hP hD hS ls hl
      refine lv_iload_n hx hb dX2_howMany_4 rfl (lv_at hl 0 rfl) ?_
      refine lv_aload_n hx hb dX2_howMany_5 rfl (lv_at hl 2 rfl) ?_
      refine va_get (D := D) (ci := 2) (v := .int v2_count) (C := RX2) (T := TX2) (N := 8) hx hb hts w1 hown hK.1 hP 0 rfl rfl 3 (by decide) w0 (fun _ h9 => h9) rfl dX2_howMany_6 ?_
      refine lv_icmp_ge (tgt := 39) hx hb dX2_howMany_9 (by decide) (fun c5 => ?_) (fun c5 => ?_)
      · have c5 := ci_le c5
        refine lv_iload_n hx hb dX2_howMany_39 rfl (lv_at hl 1 rfl) ?_
        exact ret _ _ _ _ k2 () dX2_howMany_40 trivial hP hD hS
      have c5 := ci_nle c5
      refine lv_iload_n hx hb dX2_howMany_12 rfl (lv_at hl 1 rfl) ?_
      refine lv_aload_n hx hb dX2_howMany_13 rfl (lv_at hl 2 rfl) ?_
      refine va_get (D := D) (ci := 2) (v := .ref (r2 1)) (C := RX2) (T := TX2) (N := 8) hx hb hts w1 hown hK.1 hP 0 rfl rfl 1 (by decide) w2 (fun _ h9 => h9) rfl dX2_howMany_14 ?_
      refine lv_iload_n hx hb dX2_howMany_17 rfl (lv_at hl 0 rfl) ?_
      refine va_iald hx hb hK.1 hP 1 1 rfl rfl (i := k1) (ix (by omega) (by omega)) dX2_howMany_18 ?_
      refine lv_topi (fun x6 e7 => ?_)
      refine lv_iload_n hx hb dX2_howMany_19 rfl (lv_at hl 3 rfl) ?_
      refine lv_icmp_ne (tgt := 27) hx hb dX2_howMany_20 (by decide) (fun c8 => ?_) (fun c8 => ?_)
      · have c8 := ci_ne c8
        refine lv_iconst (v := 0) hx hb dX2_howMany_27 (by decide) ?_
        refine kcm_i hA hAB hP hD hS [false, false] rfl (fun _ => rfl) (fun hPc hDc => va_runSN (As := [.int 0]) (rest := [.int k2]) ⟨hx, hb, hml, hown, hts⟩ (k_X11_asBit l D κ β H.size 0) ⟨va_cnB 1 hts gX2_howMany_X11_asBit_n55 rfl rfl rfl w5 w3 (by decide +kernel) ⟨Nat.le_of_ble_eq_true rfl, Nat.le_of_ble_eq_true rfl⟩, w4, trivial⟩ (pk_S hK hS hAB hPc hDc) rfl rfl hl.1 rfl (lv_room (Nat.le_of_ble_eq_true rfl)) dX2_howMany_28 ⟨Nat.le_of_ble_eq_true rfl, Nat.le_of_ble_eq_true rfl⟩) (fun x9 u10 H locs hw hPD hS => ?_)
        have h11 : (x9.toInt = 1 ∧ (0 : Int32).toInt ≠ 0) ∨ (x9.toInt = 0 ∧ (0 : Int32).toInt = 0) := hw
        obtain ⟨hP, hD⟩ : PD D A [O2 a2 r2 v2_count v2_madeIn v2_bound, (cI κ (r2 1) 40 f2_inks)] H := hPD
        refine lv_iadd hx hb dX2_howMany_31 ?_
        refine lv_topi (fun x12 e13 => ?_)
        try have h14 : x12.toInt = k2.toInt + x9.toInt := ci_add e13 (by omega) (by omega)
        refine lv_istore_n (lv' := [(2, .int x12), (3, .int k1), (0, .ref a2), (1, .int p1)]) hx hb dX2_howMany_32 rfl hl (by decide) rfl (fun ls hl => ?_)
        obtain ⟨x15, e16⟩ : ∃ y : Int32, y = k1 + 1 := ⟨_, rfl⟩
        refine lv_iinc (v := x15) (lv' := [(3, .int x15), (2, .int x12), (0, .ref a2), (1, .int p1)]) hx hb dX2_howMany_33 hl (k := 1) rfl (by rw [e16]; rfl) (by decide) rfl (fun ls hl => ?_)
        try have h17 : x15.toInt = k1.toInt + (1 : Int32).toInt := ci_add e16 (by omega) (by omega)
        refine lv_goto (tgt := 4) hx hb dX2_howMany_36 (by decide) ?_
        exact ih4 x15 x12 (by omega) (by omega) _ _ hP hD hS _ hl
      have c8 := ci_eq c8
      refine lv_iconst (v := 1) hx hb dX2_howMany_23 (by decide) ?_
      refine lv_goto (tgt := 28) hx hb dX2_howMany_24 (by decide) ?_
      refine kcm_i hA hAB hP hD hS [false, false] rfl (fun _ => rfl) (fun hPc hDc => va_runSN (As := [.int 1]) (rest := [.int k2]) ⟨hx, hb, hml, hown, hts⟩ (k_X11_asBit l D κ β H.size 1) ⟨va_cnB 1 hts gX2_howMany_X11_asBit_n55 rfl rfl rfl w5 w3 (by decide +kernel) ⟨Nat.le_of_ble_eq_true rfl, Nat.le_of_ble_eq_true rfl⟩, w4, trivial⟩ (pk_S hK hS hAB hPc hDc) rfl rfl hl.1 rfl (lv_room (Nat.le_of_ble_eq_true rfl)) dX2_howMany_28 ⟨Nat.le_of_ble_eq_true rfl, Nat.le_of_ble_eq_true rfl⟩) (fun x18 u19 H locs hw hPD hS => ?_)
      have h20 : (x18.toInt = 1 ∧ (1 : Int32).toInt ≠ 0) ∨ (x18.toInt = 0 ∧ (1 : Int32).toInt = 0) := hw
      obtain ⟨hP, hD⟩ : PD D A [O2 a2 r2 v2_count v2_madeIn v2_bound, (cI κ (r2 1) 40 f2_inks)] H := hPD
      refine lv_iadd hx hb dX2_howMany_31 ?_
      refine lv_topi (fun x21 e22 => ?_)
      try have h23 : x21.toInt = k2.toInt + x18.toInt := ci_add e22 (by omega) (by omega)
      refine lv_istore_n (lv' := [(2, .int x21), (3, .int k1), (0, .ref a2), (1, .int p1)]) hx hb dX2_howMany_32 rfl hl (by decide) rfl (fun ls hl => ?_)
      obtain ⟨x24, e25⟩ : ∃ y : Int32, y = k1 + 1 := ⟨_, rfl⟩
      refine lv_iinc (v := x24) (lv' := [(3, .int x24), (2, .int x21), (0, .ref a2), (1, .int p1)]) hx hb dX2_howMany_33 hl (k := 1) rfl (by rw [e25]; rfl) (by decide) rfl (fun ls hl => ?_)
      try have h26 : x24.toInt = k1.toInt + (1 : Int32).toInt := ci_add e25 (by omega) (by omega)
      refine lv_goto (tgt := 4) hx hb dX2_howMany_36 (by decide) ?_
      exact ih4 x24 x21 (by omega) (by omega) _ _ hP hD hS _ hl
  exact lp4 ((v2_count.toInt - (0 : Int32).toInt).toNat + 1) 0 0 (by omega) (by omega) _ _ hP hD hS _ hl
set_option maxHeartbeats 4000000 in
set_option maxRecDepth 100000 in
theorem k_X2_oddOnes (l : Launch) (D : va_G) (κ : Nat → ClassId) (β : Nat) (a2 : Nat) (r2 : Nat → Nat) (v2_count : Int32) (v2_madeIn : Int32) (v2_bound : Int32) (f2_inks : Nat → Int32) (f2_stuffs : Nat → Int32) (sz : Nat) (p1 : Int32) (i1 : Rg 0 40 v2_count) : Met l yX2_oddOnes wsX2_oddOnes ({ frames := 1, cells := 0, slots := 0, locals := 21 } : Room) (PcK D κ β [O2 a2 r2 v2_count v2_madeIn v2_bound, (cI κ (r2 1) 40 f2_inks), (cI κ (r2 2) 40 f2_stuffs)] sz [.ref a2, .int p1]) (QiK D (fun (r : Int32) (u : Unit) => True) (fun (u : Unit) => [O2 a2 r2 v2_count v2_madeIn v2_bound, (cI κ (r2 1) 40 f2_inks), (cI κ (r2 2) 40 f2_stuffs)]) [O2 a2 r2 v2_count v2_madeIn v2_bound, (cI κ (r2 1) 40 f2_inks), (cI κ (r2 2) 40 f2_stuffs)] sz) 0 0 (va_A [O2 a2 r2 v2_count v2_madeIn v2_bound, (cI κ (r2 1) 40 f2_inks), (cI κ (r2 2) 40 f2_stuffs)] sz) := by
  refine ofK_i (cc := cX2_oddOnes) (maxL := 5) (own := RX2) (by decide) rfl rfl (Nat.le_of_ble_eq_true rfl) ?_
  intro p e s m args below meth c Q A ls hsz hx hb hml hts hown hK hA hAB hP hD hl ret
  have hS : va_S A s.heap s.heap [] := va_S.rf
  have hl : lv_has ls 5 [(0, .ref a2), (1, .int p1)] := hl
  have w0 := hts (.fieldLink RX2 34 "OlderSkin$Dots" "count" "I") (List.mem_of_getElem? (i := 1) rfl)
  have w1 := (fun w h => List.mem_cons_of_mem _ (List.mem_append_right _ h) : ∀ w ∈ u_ws RX2 TX2 8, w ∈ wsX2_oddOnes)
  have w2 := hts (.fieldLink RX2 15 "OlderSkin$Dots" "inks" "[I") (List.mem_of_getElem? (i := 2) rfl)
  have w3 := hts (.initialized RX11) (List.mem_of_getElem? (i := 9) rfl)
  have w4 := hts (.static yX11_asBit) (List.mem_of_getElem? (i := 8) rfl)
  have w5 := hK.2.1 ("OlderSkin$Dots", 55, ⟨"OlderSkin", "asBit", "(Z)I"⟩, "OlderSkin") (by decide +kernel)
  have w6 := hts (.fieldLink RX2 18 "OlderSkin$Dots" "stuffs" "[I") (List.mem_of_getElem? (i := 3) rfl)
  have w7 := hts (.methodLink RX2 45 Lib.Math.max.name) (List.mem_of_getElem? (i := 4) rfl)
  have w8 := hts (.static Lib.Math.max.name) (List.mem_of_getElem? (i := 5) rfl)
  have w9 := hts (.initialized "java/lang/Math") (List.mem_of_getElem? (i := 6) rfl)
  have w10 := hts (.code Lib.Math.max.name Lib.Math.max.code 2 (some .int)) (List.mem_of_getElem? (i := 7) rfl)
  have l0 : ((-1) : Int32).toInt = -1 := by decide
  have l1 : (0 : Int32).toInt = 0 := by decide
  have l2 : (1 : Int32).toInt = 1 := by decide
  have l3 : (7 : Int32).toInt = 7 := by decide
  have i1 : 0 ≤ v2_count.toInt ∧ v2_count.toInt ≤ 40 := i1
  refine lv_iconst (v := (-1)) hx hb dX2_oddOnes_0 (by decide) ?_
  refine lv_istore_n (lv' := [(2, .int (-1)), (0, .ref a2), (1, .int p1)]) hx hb dX2_oddOnes_1 rfl hl (by decide) rfl (fun ls hl => ?_)
  refine lv_iconst (v := 0) hx hb dX2_oddOnes_2 (by decide) ?_
  refine lv_istore_n (lv' := [(3, .int 0), (2, .int (-1)), (0, .ref a2), (1, .int p1)]) hx hb dX2_oddOnes_3 rfl hl (by decide) rfl (fun ls hl => ?_)
  have lp4 : ∀ (n4 : Nat) (k1 : Int32) (k2 : Int32), (0 ≤ k1.toInt) → (v2_count.toInt - k1.toInt).toNat < n4 → ∀ (H : Heap) (locs : List Loc), va_P D vwCl [O2 a2 r2 v2_count v2_madeIn v2_bound, (cI κ (r2 1) 40 f2_inks), (cI κ (r2 2) 40 f2_stuffs)] H → va_D A [O2 a2 r2 v2_count v2_madeIn v2_bound, (cI κ (r2 1) 40 f2_inks), (cI κ (r2 2) 40 f2_stuffs)] → va_S A s.heap H locs → ∀ ls : Array Slot, lv_has ls 5 [(3, .int k1), (2, .int k2), (0, .ref a2), (1, .int p1)] → W p l e ({ frames := 1, cells := 0, slots := 0, locals := 21 } : Room) s m args below meth c H locs 0 0 Q (F0 m 4 ls []) := by
    intro n4
    induction n4 with
    | zero =>
      intro k1 k2 h3 m4
      exact absurd m4 (Nat.not_lt_zero _)
    | succ n4 ih4 =>
      intro k1 k2 h3 m4 H locs hP hD hS ls hl
      refine lv_iload_n hx hb dX2_oddOnes_4 rfl (lv_at hl 0 rfl) ?_
      refine lv_aload_n hx hb dX2_oddOnes_5 rfl (lv_at hl 2 rfl) ?_
      refine va_get (D := D) (ci := 2) (v := .int v2_count) (C := RX2) (T := TX2) (N := 8) hx hb hts w1 hown hK.1 hP 0 rfl rfl 3 (by decide) w0 (fun _ h9 => h9) rfl dX2_oddOnes_6 ?_
      refine lv_icmp_ge (tgt := 40) hx hb dX2_oddOnes_9 (by decide) (fun c5 => ?_) (fun c5 => ?_)
      · have c5 := ci_le c5
        refine lv_iconst (v := 0) hx hb dX2_oddOnes_40 (by decide) ?_
        refine lv_istore_n (lv' := [(3, .int 0), (2, .int k2), (0, .ref a2), (1, .int p1)]) hx hb dX2_oddOnes_41 rfl hl (by decide) rfl (fun ls hl => ?_)
        refine lv_iconst (v := 0) hx hb dX2_oddOnes_42 (by decide) ?_
        refine lv_istore (lv' := [(4, .int 0), (3, .int 0), (2, .int k2), (0, .ref a2), (1, .int p1)]) hx hb dX2_oddOnes_43 hl (by decide) rfl (fun ls hl => ?_)
        have lp45 : ∀ (n45 : Nat) (k6 : Int32) (k7 : Int32), (0 ≤ k6.toInt) → (v2_count.toInt - k6.toInt).toNat < n45 → ∀ (H : Heap) (locs : List Loc), va_P D vwCl [O2 a2 r2 v2_count v2_madeIn v2_bound, (cI κ (r2 1) 40 f2_inks), (cI κ (r2 2) 40 f2_stuffs)] H → va_D A [O2 a2 r2 v2_count v2_madeIn v2_bound, (cI κ (r2 1) 40 f2_inks), (cI κ (r2 2) 40 f2_stuffs)] → va_S A s.heap H locs → ∀ ls : Array Slot, lv_has ls 5 [(4, .int k6), (3, .int k7), (2, .int k2), (0, .ref a2), (1, .int p1)] → W p l e ({ frames := 1, cells := 0, slots := 0, locals := 21 } : Room) s m args below meth c H locs 0 0 Q (F0 m 45 ls []) := by
          intro n45
          induction n45 with
          | zero =>
            intro k6 k7 h8 m9
            exact absurd m9 (Nat.not_lt_zero _)
          | succ n45 ih45 =>
            intro k6 k7 h8 m9 H locs hP hD hS ls hl
            refine lv_iload hx hb dX2_oddOnes_45 (lv_at hl 0 rfl) ?_
            refine lv_aload_n hx hb dX2_oddOnes_47 rfl (lv_at hl 3 rfl) ?_
            refine va_get (D := D) (ci := 2) (v := .int v2_count) (C := RX2) (T := TX2) (N := 8) hx hb hts w1 hown hK.1 hP 0 rfl rfl 3 (by decide) w0 (fun _ h9 => h9) rfl dX2_oddOnes_48 ?_
            refine lv_icmp_ge (tgt := 93) hx hb dX2_oddOnes_51 (by decide) (fun c10 => ?_) (fun c10 => ?_)
            · have c10 := ci_le c10
              refine lv_iload_n hx hb dX2_oddOnes_93 rfl (lv_at hl 1 rfl) ?_
              exact ret _ _ _ _ k7 () dX2_oddOnes_94 trivial hP hD hS
            have c10 := ci_nle c10
            refine lv_iload_n hx hb dX2_oddOnes_54 rfl (lv_at hl 1 rfl) ?_
            refine lv_aload_n hx hb dX2_oddOnes_55 rfl (lv_at hl 3 rfl) ?_
            refine va_get (D := D) (ci := 2) (v := .ref (r2 1)) (C := RX2) (T := TX2) (N := 8) hx hb hts w1 hown hK.1 hP 0 rfl rfl 1 (by decide) w2 (fun _ h9 => h9) rfl dX2_oddOnes_56 ?_
            refine lv_iload hx hb dX2_oddOnes_59 (lv_at hl 0 rfl) ?_
            refine va_iald hx hb hK.1 hP 1 1 rfl rfl (i := k6) (ix (by omega) (by omega)) dX2_oddOnes_61 ?_
            refine lv_topi (fun x11 e12 => ?_)
            refine lv_iload_n hx hb dX2_oddOnes_62 rfl (lv_at hl 4 rfl) ?_
            refine lv_icmp_ne (tgt := 81) hx hb dX2_oddOnes_63 (by decide) (fun c13 => ?_) (fun c13 => ?_)
            · have c13 := ci_ne c13
              refine lv_iconst (v := 0) hx hb dX2_oddOnes_81 (by decide) ?_
              refine kcm_i hA hAB hP hD hS [false, false, false] rfl (fun _ => rfl) (fun hPc hDc => va_runSN (As := [.int 0]) (rest := [.int k7]) ⟨hx, hb, hml, hown, hts⟩ (k_X11_asBit l D κ β H.size 0) ⟨va_cnB 1 hts gX2_oddOnes_X11_asBit_n55 rfl rfl rfl w5 w3 (by decide +kernel) ⟨Nat.le_of_ble_eq_true rfl, Nat.le_of_ble_eq_true rfl⟩, w4, trivial⟩ (pk_S hK hS hAB hPc hDc) rfl rfl hl.1 rfl (lv_room (Nat.le_of_ble_eq_true rfl)) dX2_oddOnes_82 ⟨Nat.le_of_ble_eq_true rfl, Nat.le_of_ble_eq_true rfl⟩) (fun x14 u15 H locs hw hPD hS => ?_)
              have h16 : (x14.toInt = 1 ∧ (0 : Int32).toInt ≠ 0) ∨ (x14.toInt = 0 ∧ (0 : Int32).toInt = 0) := hw
              obtain ⟨hP, hD⟩ : PD D A [O2 a2 r2 v2_count v2_madeIn v2_bound, (cI κ (r2 1) 40 f2_inks), (cI κ (r2 2) 40 f2_stuffs)] H := hPD
              refine lv_iadd hx hb dX2_oddOnes_85 ?_
              refine lv_topi (fun x17 e18 => ?_)
              try have h19 : x17.toInt = k7.toInt + x14.toInt := ci_add e18 (by omega) (by omega)
              refine lv_istore_n (lv' := [(3, .int x17), (4, .int k6), (2, .int k2), (0, .ref a2), (1, .int p1)]) hx hb dX2_oddOnes_86 rfl hl (by decide) rfl (fun ls hl => ?_)
              obtain ⟨x20, e21⟩ : ∃ y : Int32, y = k6 + 1 := ⟨_, rfl⟩
              refine lv_iinc (v := x20) (lv' := [(4, .int x20), (3, .int x17), (2, .int k2), (0, .ref a2), (1, .int p1)]) hx hb dX2_oddOnes_87 hl (k := 1) rfl (by rw [e21]; rfl) (by decide) rfl (fun ls hl => ?_)
              try have h22 : x20.toInt = k6.toInt + (1 : Int32).toInt := ci_add e21 (by omega) (by omega)
              refine lv_goto (tgt := 45) hx hb dX2_oddOnes_90 (by decide) ?_
              exact ih45 x20 x17 (by omega) (by omega) _ _ hP hD hS _ hl
            have c13 := ci_eq c13
            refine lv_aload_n hx hb dX2_oddOnes_66 rfl (lv_at hl 3 rfl) ?_
            refine va_get (D := D) (ci := 2) (v := .ref (r2 2)) (C := RX2) (T := TX2) (N := 8) hx hb hts w1 hown hK.1 hP 0 rfl rfl 2 (by decide) w6 (fun _ h9 => h9) rfl dX2_oddOnes_67 ?_
            refine lv_iload hx hb dX2_oddOnes_70 (lv_at hl 0 rfl) ?_
            refine va_iald hx hb hK.1 hP 2 1 rfl rfl (i := k6) (ix (by omega) (by omega)) dX2_oddOnes_72 ?_
            refine lv_topi (fun x23 e24 => ?_)
            refine lv_iload_n hx hb dX2_oddOnes_73 rfl (lv_at hl 2 rfl) ?_
            refine lv_icmp_le (tgt := 81) hx hb dX2_oddOnes_74 (by decide) (fun c25 => ?_) (fun c25 => ?_)
            · have c25 := ci_le c25
              refine lv_iconst (v := 0) hx hb dX2_oddOnes_81 (by decide) ?_
              refine kcm_i hA hAB hP hD hS [false, false, false] rfl (fun _ => rfl) (fun hPc hDc => va_runSN (As := [.int 0]) (rest := [.int k7]) ⟨hx, hb, hml, hown, hts⟩ (k_X11_asBit l D κ β H.size 0) ⟨va_cnB 1 hts gX2_oddOnes_X11_asBit_n55 rfl rfl rfl w5 w3 (by decide +kernel) ⟨Nat.le_of_ble_eq_true rfl, Nat.le_of_ble_eq_true rfl⟩, w4, trivial⟩ (pk_S hK hS hAB hPc hDc) rfl rfl hl.1 rfl (lv_room (Nat.le_of_ble_eq_true rfl)) dX2_oddOnes_82 ⟨Nat.le_of_ble_eq_true rfl, Nat.le_of_ble_eq_true rfl⟩) (fun x26 u27 H locs hw hPD hS => ?_)
              have h28 : (x26.toInt = 1 ∧ (0 : Int32).toInt ≠ 0) ∨ (x26.toInt = 0 ∧ (0 : Int32).toInt = 0) := hw
              obtain ⟨hP, hD⟩ : PD D A [O2 a2 r2 v2_count v2_madeIn v2_bound, (cI κ (r2 1) 40 f2_inks), (cI κ (r2 2) 40 f2_stuffs)] H := hPD
              refine lv_iadd hx hb dX2_oddOnes_85 ?_
              refine lv_topi (fun x29 e30 => ?_)
              try have h31 : x29.toInt = k7.toInt + x26.toInt := ci_add e30 (by omega) (by omega)
              refine lv_istore_n (lv' := [(3, .int x29), (4, .int k6), (2, .int k2), (0, .ref a2), (1, .int p1)]) hx hb dX2_oddOnes_86 rfl hl (by decide) rfl (fun ls hl => ?_)
              obtain ⟨x32, e33⟩ : ∃ y : Int32, y = k6 + 1 := ⟨_, rfl⟩
              refine lv_iinc (v := x32) (lv' := [(4, .int x32), (3, .int x29), (2, .int k2), (0, .ref a2), (1, .int p1)]) hx hb dX2_oddOnes_87 hl (k := 1) rfl (by rw [e33]; rfl) (by decide) rfl (fun ls hl => ?_)
              try have h34 : x32.toInt = k6.toInt + (1 : Int32).toInt := ci_add e33 (by omega) (by omega)
              refine lv_goto (tgt := 45) hx hb dX2_oddOnes_90 (by decide) ?_
              exact ih45 x32 x29 (by omega) (by omega) _ _ hP hD hS _ hl
            have c25 := ci_nle c25
            refine lv_iconst (v := 1) hx hb dX2_oddOnes_77 (by decide) ?_
            refine lv_goto (tgt := 82) hx hb dX2_oddOnes_78 (by decide) ?_
            refine kcm_i hA hAB hP hD hS [false, false, false] rfl (fun _ => rfl) (fun hPc hDc => va_runSN (As := [.int 1]) (rest := [.int k7]) ⟨hx, hb, hml, hown, hts⟩ (k_X11_asBit l D κ β H.size 1) ⟨va_cnB 1 hts gX2_oddOnes_X11_asBit_n55 rfl rfl rfl w5 w3 (by decide +kernel) ⟨Nat.le_of_ble_eq_true rfl, Nat.le_of_ble_eq_true rfl⟩, w4, trivial⟩ (pk_S hK hS hAB hPc hDc) rfl rfl hl.1 rfl (lv_room (Nat.le_of_ble_eq_true rfl)) dX2_oddOnes_82 ⟨Nat.le_of_ble_eq_true rfl, Nat.le_of_ble_eq_true rfl⟩) (fun x35 u36 H locs hw hPD hS => ?_)
            have h37 : (x35.toInt = 1 ∧ (1 : Int32).toInt ≠ 0) ∨ (x35.toInt = 0 ∧ (1 : Int32).toInt = 0) := hw
            obtain ⟨hP, hD⟩ : PD D A [O2 a2 r2 v2_count v2_madeIn v2_bound, (cI κ (r2 1) 40 f2_inks), (cI κ (r2 2) 40 f2_stuffs)] H := hPD
            refine lv_iadd hx hb dX2_oddOnes_85 ?_
            refine lv_topi (fun x38 e39 => ?_)
            try have h40 : x38.toInt = k7.toInt + x35.toInt := ci_add e39 (by omega) (by omega)
            refine lv_istore_n (lv' := [(3, .int x38), (4, .int k6), (2, .int k2), (0, .ref a2), (1, .int p1)]) hx hb dX2_oddOnes_86 rfl hl (by decide) rfl (fun ls hl => ?_)
            obtain ⟨x41, e42⟩ : ∃ y : Int32, y = k6 + 1 := ⟨_, rfl⟩
            refine lv_iinc (v := x41) (lv' := [(4, .int x41), (3, .int x38), (2, .int k2), (0, .ref a2), (1, .int p1)]) hx hb dX2_oddOnes_87 hl (k := 1) rfl (by rw [e42]; rfl) (by decide) rfl (fun ls hl => ?_)
            try have h43 : x41.toInt = k6.toInt + (1 : Int32).toInt := ci_add e42 (by omega) (by omega)
            refine lv_goto (tgt := 45) hx hb dX2_oddOnes_90 (by decide) ?_
            exact ih45 x41 x38 (by omega) (by omega) _ _ hP hD hS _ hl
        exact lp45 ((v2_count.toInt - (0 : Int32).toInt).toNat + 1) 0 0 (by omega) (by omega) _ _ hP hD hS _ hl
      have c5 := ci_nle c5
      refine lv_aload_n hx hb dX2_oddOnes_12 rfl (lv_at hl 2 rfl) ?_
      refine va_get (D := D) (ci := 2) (v := .ref (r2 1)) (C := RX2) (T := TX2) (N := 8) hx hb hts w1 hown hK.1 hP 0 rfl rfl 1 (by decide) w2 (fun _ h9 => h9) rfl dX2_oddOnes_13 ?_
      refine lv_iload_n hx hb dX2_oddOnes_16 rfl (lv_at hl 0 rfl) ?_
      refine va_iald hx hb hK.1 hP 1 1 rfl rfl (i := k1) (ix (by omega) (by omega)) dX2_oddOnes_17 ?_
      refine lv_topi (fun x44 e45 => ?_)
      refine lv_bipush (v := 7) hx hb dX2_oddOnes_18 (by decide) ?_
      refine lv_icmp_ne (tgt := 34) hx hb dX2_oddOnes_20 (by decide) (fun c46 => ?_) (fun c46 => ?_)
      · have c46 := ci_ne c46
        obtain ⟨x47, e48⟩ : ∃ y : Int32, y = k1 + 1 := ⟨_, rfl⟩
        refine lv_iinc (v := x47) (lv' := [(3, .int x47), (2, .int k2), (0, .ref a2), (1, .int p1)]) hx hb dX2_oddOnes_34 hl (k := 0) rfl (by rw [e48]; rfl) (by decide) rfl (fun ls hl => ?_)
        try have h49 : x47.toInt = k1.toInt + (1 : Int32).toInt := ci_add e48 (by omega) (by omega)
        refine lv_goto (tgt := 4) hx hb dX2_oddOnes_37 (by decide) ?_
        exact ih4 x47 k2 (by omega) (by omega) _ _ hP hD hS _ hl
      have c46 := ci_eq c46
      refine lv_iload_n hx hb dX2_oddOnes_23 rfl (lv_at hl 1 rfl) ?_
      refine lv_aload_n hx hb dX2_oddOnes_24 rfl (lv_at hl 2 rfl) ?_
      refine va_get (D := D) (ci := 2) (v := .ref (r2 2)) (C := RX2) (T := TX2) (N := 8) hx hb hts w1 hown hK.1 hP 0 rfl rfl 2 (by decide) w6 (fun _ h9 => h9) rfl dX2_oddOnes_25 ?_
      refine lv_iload_n hx hb dX2_oddOnes_28 rfl (lv_at hl 0 rfl) ?_
      refine va_iald hx hb hK.1 hP 2 1 rfl rfl (i := k1) (ix (by omega) (by omega)) dX2_oddOnes_29 ?_
      refine lv_topi (fun x50 e51 => ?_)
      refine va_mmax hx hb (hml.trans hl.1.symm) hown w7 w8 w9 w10 (Nat.le_of_ble_eq_true rfl) (Nat.le_of_ble_eq_true rfl) (Nat.le_of_ble_eq_true rfl) (Nat.le_of_ble_eq_true rfl) dX2_oddOnes_30 ?_
      refine lv_topi (fun x52 e53 => ?_)
      have h54 := ci_max e53
      refine lv_istore_n (lv' := [(2, .int x52), (3, .int k1), (0, .ref a2), (1, .int p1)]) hx hb dX2_oddOnes_33 rfl hl (by decide) rfl (fun ls hl => ?_)
      obtain ⟨x55, e56⟩ : ∃ y : Int32, y = k1 + 1 := ⟨_, rfl⟩
      refine lv_iinc (v := x55) (lv' := [(3, .int x55), (2, .int x52), (0, .ref a2), (1, .int p1)]) hx hb dX2_oddOnes_34 hl (k := 1) rfl (by rw [e56]; rfl) (by decide) rfl (fun ls hl => ?_)
      try have h57 : x55.toInt = k1.toInt + (1 : Int32).toInt := ci_add e56 (by omega) (by omega)
      refine lv_goto (tgt := 4) hx hb dX2_oddOnes_37 (by decide) ?_
      exact ih4 x55 x52 (by omega) (by omega) _ _ hP hD hS _ hl
  exact lp4 ((v2_count.toInt - (0 : Int32).toInt).toNat + 1) 0 (-1) (by omega) (by omega) _ _ hP hD hS _ hl
set_option maxHeartbeats 4000000 in
set_option maxRecDepth 100000 in
theorem k_X2_gather (l : Launch) (D : va_G) (κ : Nat → ClassId) (β : Nat) (a2 : Nat) (r2 : Nat → Nat) (v2_count : Int32) (v2_madeIn : Int32) (v2_bound : Int32) (f2_inks : Nat → Int32) (f2_stuffs : Nat → Int32) (f2_shuffled : Nat → Int32) (f2_inksOfShuffled : Nat → Int32) (sz : Nat) (p1 : Int32) (i1 : Rg 0 40 v2_count) : Met l yX2_gather wsX2_gather ({ frames := 0, cells := 0, slots := 0, locals := 0 } : Room) (PcK D κ β [O2 a2 r2 v2_count v2_madeIn v2_bound, (cI κ (r2 1) 40 f2_inks), (cI κ (r2 2) 40 f2_stuffs), (cI κ (r2 6) 40 f2_shuffled), (cI κ (r2 7) 40 f2_inksOfShuffled)] sz [.ref a2, .int p1]) (QiK D (fun (r : Int32) (u : (Nat → Int32) × (Nat → Int32)) => 0 ≤ r.toInt ∧ r.toInt ≤ 40) (fun (u : (Nat → Int32) × (Nat → Int32)) => [O2 a2 r2 v2_count v2_madeIn v2_bound, (cI κ (r2 1) 40 f2_inks), (cI κ (r2 2) 40 f2_stuffs), (cI κ (r2 6) 40 u.1), (cI κ (r2 7) 40 u.2)]) [O2 a2 r2 v2_count v2_madeIn v2_bound, (cI κ (r2 1) 40 f2_inks), (cI κ (r2 2) 40 f2_stuffs), (cI κ (r2 6) 40 f2_shuffled), (cI κ (r2 7) 40 f2_inksOfShuffled)] sz) 0 0 (va_A [O2 a2 r2 v2_count v2_madeIn v2_bound, (cI κ (r2 1) 40 f2_inks), (cI κ (r2 2) 40 f2_stuffs), (cI κ (r2 6) 40 f2_shuffled), (cI κ (r2 7) 40 f2_inksOfShuffled)] sz) := by
  refine ofK_i (cc := cX2_gather) (maxL := 4) (own := RX2) (by decide) rfl rfl (Nat.le_of_ble_eq_true rfl) ?_
  intro p e s m args below meth c Q A ls hsz hx hb hml hts hown hK hA hAB hP hD hl ret
  have hS : va_S A s.heap s.heap [] := va_S.rf
  have hl : lv_has ls 4 [(0, .ref a2), (1, .int p1)] := hl
  have w0 := hts (.fieldLink RX2 34 "OlderSkin$Dots" "count" "I") (List.mem_of_getElem? (i := 1) rfl)
  have w1 := (fun w h => List.mem_cons_of_mem _ (List.mem_append_right _ h) : ∀ w ∈ u_ws RX2 TX2 8, w ∈ wsX2_gather)
  have w2 := hts (.fieldLink RX2 15 "OlderSkin$Dots" "inks" "[I") (List.mem_of_getElem? (i := 2) rfl)
  have w3 := hts (.fieldLink RX2 28 "OlderSkin$Dots" "shuffled" "[I") (List.mem_of_getElem? (i := 3) rfl)
  have w4 := hts (.fieldLink RX2 18 "OlderSkin$Dots" "stuffs" "[I") (List.mem_of_getElem? (i := 4) rfl)
  have w5 := hts (.fieldLink RX2 31 "OlderSkin$Dots" "inksOfShuffled" "[I") (List.mem_of_getElem? (i := 5) rfl)
  have l0 : (0 : Int32).toInt = 0 := by decide
  have l1 : (1 : Int32).toInt = 1 := by decide
  have l2 : (7 : Int32).toInt = 7 := by decide
  have i1 : 0 ≤ v2_count.toInt ∧ v2_count.toInt ≤ 40 := i1
  refine lv_iconst (v := 0) hx hb dX2_gather_0 (by decide) ?_
  refine lv_istore_n (lv' := [(2, .int 0), (0, .ref a2), (1, .int p1)]) hx hb dX2_gather_1 rfl hl (by decide) rfl (fun ls hl => ?_)
  refine lv_iconst (v := 0) hx hb dX2_gather_2 (by decide) ?_
  refine lv_istore_n (lv' := [(3, .int 0), (2, .int 0), (0, .ref a2), (1, .int p1)]) hx hb dX2_gather_3 rfl hl (by decide) rfl (fun ls hl => ?_)
  have lp4 : ∀ (n4 : Nat) (k1 : Int32) (k2 : Int32) (g3 : Nat → Int32) (g4 : Nat → Int32), (0 ≤ k2.toInt ∧ k2.toInt ≤ k1.toInt) → (k1.toInt ≤ v2_count.toInt) → (0 ≤ k1.toInt) → (v2_count.toInt - k1.toInt).toNat < n4 → ∀ (H : Heap) (locs : List Loc), va_P D vwCl [O2 a2 r2 v2_count v2_madeIn v2_bound, (cI κ (r2 1) 40 f2_inks), (cI κ (r2 2) 40 f2_stuffs), (cI κ (r2 6) 40 g3), (cI κ (r2 7) 40 g4)] H → va_D A [O2 a2 r2 v2_count v2_madeIn v2_bound, (cI κ (r2 1) 40 f2_inks), (cI κ (r2 2) 40 f2_stuffs), (cI κ (r2 6) 40 g3), (cI κ (r2 7) 40 g4)] → va_S A s.heap H locs → ∀ ls : Array Slot, lv_has ls 4 [(3, .int k1), (2, .int k2), (0, .ref a2), (1, .int p1)] → W p l e ({ frames := 0, cells := 0, slots := 0, locals := 0 } : Room) s m args below meth c H locs 0 0 Q (F0 m 4 ls []) := by
    intro n4
    induction n4 with
    | zero =>
      intro k1 k2 g3 g4 h5 h6 h7 m8
      exact absurd m8 (Nat.not_lt_zero _)
    | succ n4 ih4 =>
      intro k1 k2 g3 g4 h5 h6 h7 m8 H locs hP hD hS ls hl
      refine lv_iload_n hx hb dX2_gather_4 rfl (lv_at hl 0 rfl) ?_
      refine lv_aload_n hx hb dX2_gather_5 rfl (lv_at hl 2 rfl) ?_
      refine va_get (D := D) (ci := 2) (v := .int v2_count) (C := RX2) (T := TX2) (N := 8) hx hb hts w1 hown hK.1 hP 0 rfl rfl 3 (by decide) w0 (fun _ h9 => h9) rfl dX2_gather_6 ?_
      refine lv_icmp_ge (tgt := 66) hx hb dX2_gather_9 (by decide) (fun c9 => ?_) (fun c9 => ?_)
      · have c9 := ci_le c9
        refine lv_iload_n hx hb dX2_gather_66 rfl (lv_at hl 1 rfl) ?_
        have hpo : 0 ≤ k2.toInt ∧ k2.toInt ≤ 40 := (by omega)
        exact ret _ _ _ _ k2 (g3, g4) dX2_gather_67 hpo hP hD hS
      have c9 := ci_nle c9
      refine lv_aload_n hx hb dX2_gather_12 rfl (lv_at hl 2 rfl) ?_
      refine va_get (D := D) (ci := 2) (v := .ref (r2 1)) (C := RX2) (T := TX2) (N := 8) hx hb hts w1 hown hK.1 hP 0 rfl rfl 1 (by decide) w2 (fun _ h9 => h9) rfl dX2_gather_13 ?_
      refine lv_iload_n hx hb dX2_gather_16 rfl (lv_at hl 0 rfl) ?_
      refine va_iald hx hb hK.1 hP 1 1 rfl rfl (i := k1) (ix (by omega) (by omega)) dX2_gather_17 ?_
      refine lv_topi (fun x10 e11 => ?_)
      refine lv_iload_n hx hb dX2_gather_18 rfl (lv_at hl 3 rfl) ?_
      refine lv_icmp_eq (tgt := 33) hx hb dX2_gather_19 (by decide) (fun c12 => ?_) (fun c12 => ?_)
      · have c12 := ci_eq c12
        refine lv_aload_n hx hb dX2_gather_33 rfl (lv_at hl 2 rfl) ?_
        refine va_get (D := D) (ci := 2) (v := .ref (r2 6)) (C := RX2) (T := TX2) (N := 8) hx hb hts w1 hown hK.1 hP 0 rfl rfl 6 (by decide) w3 (fun _ h9 => h9) rfl dX2_gather_34 ?_
        refine lv_iload_n hx hb dX2_gather_37 rfl (lv_at hl 1 rfl) ?_
        refine lv_aload_n hx hb dX2_gather_38 rfl (lv_at hl 2 rfl) ?_
        refine va_get (D := D) (ci := 2) (v := .ref (r2 2)) (C := RX2) (T := TX2) (N := 8) hx hb hts w1 hown hK.1 hP 0 rfl rfl 2 (by decide) w4 (fun _ h9 => h9) rfl dX2_gather_39 ?_
        refine lv_iload_n hx hb dX2_gather_42 rfl (lv_at hl 0 rfl) ?_
        refine va_iald hx hb hK.1 hP 2 1 rfl rfl (i := k1) (ix (by omega) (by omega)) dX2_gather_43 ?_
        refine lv_topi (fun x13 e14 => ?_)
        refine va_iast hx hb hK.1 hP hD hS 3 1 rfl rfl (i := k2) (ix (by omega) (by omega)) dX2_gather_44 (fun H locs hP hD hS => ?_)
        obtain ⟨g15, e16⟩ : ∃ y : Nat → Int32, y = upd g3 k2.toNatClampNeg x13 := ⟨_, rfl⟩
        rw [← e16] at hP hD
        obtain ⟨hP, hD⟩ : PD D A [O2 a2 r2 v2_count v2_madeIn v2_bound, (cI κ (r2 1) 40 f2_inks), (cI κ (r2 2) 40 f2_stuffs), (cI κ (r2 6) 40 g15), (cI κ (r2 7) 40 g4)] H := ⟨hP, hD⟩
        refine lv_aload_n hx hb dX2_gather_45 rfl (lv_at hl 2 rfl) ?_
        refine va_get (D := D) (ci := 2) (v := .ref (r2 7)) (C := RX2) (T := TX2) (N := 8) hx hb hts w1 hown hK.1 hP 0 rfl rfl 7 (by decide) w5 (fun _ h9 => h9) rfl dX2_gather_46 ?_
        refine lv_iload_n hx hb dX2_gather_49 rfl (lv_at hl 1 rfl) ?_
        refine lv_aload_n hx hb dX2_gather_50 rfl (lv_at hl 2 rfl) ?_
        refine va_get (D := D) (ci := 2) (v := .ref (r2 1)) (C := RX2) (T := TX2) (N := 8) hx hb hts w1 hown hK.1 hP 0 rfl rfl 1 (by decide) w2 (fun _ h9 => h9) rfl dX2_gather_51 ?_
        refine lv_iload_n hx hb dX2_gather_54 rfl (lv_at hl 0 rfl) ?_
        refine va_iald hx hb hK.1 hP 1 1 rfl rfl (i := k1) (ix (by omega) (by omega)) dX2_gather_55 ?_
        refine lv_topi (fun x17 e18 => ?_)
        refine va_iast hx hb hK.1 hP hD hS 4 1 rfl rfl (i := k2) (ix (by omega) (by omega)) dX2_gather_56 (fun H locs hP hD hS => ?_)
        obtain ⟨g19, e20⟩ : ∃ y : Nat → Int32, y = upd g4 k2.toNatClampNeg x17 := ⟨_, rfl⟩
        rw [← e20] at hP hD
        obtain ⟨hP, hD⟩ : PD D A [O2 a2 r2 v2_count v2_madeIn v2_bound, (cI κ (r2 1) 40 f2_inks), (cI κ (r2 2) 40 f2_stuffs), (cI κ (r2 6) 40 g15), (cI κ (r2 7) 40 g19)] H := ⟨hP, hD⟩
        obtain ⟨x21, e22⟩ : ∃ y : Int32, y = k2 + 1 := ⟨_, rfl⟩
        refine lv_iinc (v := x21) (lv' := [(2, .int x21), (3, .int k1), (0, .ref a2), (1, .int p1)]) hx hb dX2_gather_57 hl (k := 1) rfl (by rw [e22]; rfl) (by decide) rfl (fun ls hl => ?_)
        try have h23 : x21.toInt = k2.toInt + (1 : Int32).toInt := ci_add e22 (by omega) (by omega)
        obtain ⟨x24, e25⟩ : ∃ y : Int32, y = k1 + 1 := ⟨_, rfl⟩
        refine lv_iinc (v := x24) (lv' := [(3, .int x24), (2, .int x21), (0, .ref a2), (1, .int p1)]) hx hb dX2_gather_60 hl (k := 1) rfl (by rw [e25]; rfl) (by decide) rfl (fun ls hl => ?_)
        try have h26 : x24.toInt = k1.toInt + (1 : Int32).toInt := ci_add e25 (by omega) (by omega)
        refine lv_goto (tgt := 4) hx hb dX2_gather_63 (by decide) ?_
        exact ih4 x24 x21 g15 g19 (by omega) (by omega) (by omega) (by omega) _ _ hP hD hS _ hl
      have c12 := ci_ne c12
      refine lv_aload_n hx hb dX2_gather_22 rfl (lv_at hl 2 rfl) ?_
      refine va_get (D := D) (ci := 2) (v := .ref (r2 1)) (C := RX2) (T := TX2) (N := 8) hx hb hts w1 hown hK.1 hP 0 rfl rfl 1 (by decide) w2 (fun _ h9 => h9) rfl dX2_gather_23 ?_
      refine lv_iload_n hx hb dX2_gather_26 rfl (lv_at hl 0 rfl) ?_
      refine va_iald hx hb hK.1 hP 1 1 rfl rfl (i := k1) (ix (by omega) (by omega)) dX2_gather_27 ?_
      refine lv_topi (fun x27 e28 => ?_)
      refine lv_bipush (v := 7) hx hb dX2_gather_28 (by decide) ?_
      refine lv_icmp_ne (tgt := 60) hx hb dX2_gather_30 (by decide) (fun c29 => ?_) (fun c29 => ?_)
      · have c29 := ci_ne c29
        obtain ⟨x30, e31⟩ : ∃ y : Int32, y = k1 + 1 := ⟨_, rfl⟩
        refine lv_iinc (v := x30) (lv' := [(3, .int x30), (2, .int k2), (0, .ref a2), (1, .int p1)]) hx hb dX2_gather_60 hl (k := 0) rfl (by rw [e31]; rfl) (by decide) rfl (fun ls hl => ?_)
        try have h32 : x30.toInt = k1.toInt + (1 : Int32).toInt := ci_add e31 (by omega) (by omega)
        refine lv_goto (tgt := 4) hx hb dX2_gather_63 (by decide) ?_
        exact ih4 x30 k2 g3 g4 (by omega) (by omega) (by omega) (by omega) _ _ hP hD hS _ hl
      have c29 := ci_eq c29
      refine lv_aload_n hx hb dX2_gather_33 rfl (lv_at hl 2 rfl) ?_
      refine va_get (D := D) (ci := 2) (v := .ref (r2 6)) (C := RX2) (T := TX2) (N := 8) hx hb hts w1 hown hK.1 hP 0 rfl rfl 6 (by decide) w3 (fun _ h9 => h9) rfl dX2_gather_34 ?_
      refine lv_iload_n hx hb dX2_gather_37 rfl (lv_at hl 1 rfl) ?_
      refine lv_aload_n hx hb dX2_gather_38 rfl (lv_at hl 2 rfl) ?_
      refine va_get (D := D) (ci := 2) (v := .ref (r2 2)) (C := RX2) (T := TX2) (N := 8) hx hb hts w1 hown hK.1 hP 0 rfl rfl 2 (by decide) w4 (fun _ h9 => h9) rfl dX2_gather_39 ?_
      refine lv_iload_n hx hb dX2_gather_42 rfl (lv_at hl 0 rfl) ?_
      refine va_iald hx hb hK.1 hP 2 1 rfl rfl (i := k1) (ix (by omega) (by omega)) dX2_gather_43 ?_
      refine lv_topi (fun x33 e34 => ?_)
      refine va_iast hx hb hK.1 hP hD hS 3 1 rfl rfl (i := k2) (ix (by omega) (by omega)) dX2_gather_44 (fun H locs hP hD hS => ?_)
      obtain ⟨g35, e36⟩ : ∃ y : Nat → Int32, y = upd g3 k2.toNatClampNeg x33 := ⟨_, rfl⟩
      rw [← e36] at hP hD
      obtain ⟨hP, hD⟩ : PD D A [O2 a2 r2 v2_count v2_madeIn v2_bound, (cI κ (r2 1) 40 f2_inks), (cI κ (r2 2) 40 f2_stuffs), (cI κ (r2 6) 40 g35), (cI κ (r2 7) 40 g4)] H := ⟨hP, hD⟩
      refine lv_aload_n hx hb dX2_gather_45 rfl (lv_at hl 2 rfl) ?_
      refine va_get (D := D) (ci := 2) (v := .ref (r2 7)) (C := RX2) (T := TX2) (N := 8) hx hb hts w1 hown hK.1 hP 0 rfl rfl 7 (by decide) w5 (fun _ h9 => h9) rfl dX2_gather_46 ?_
      refine lv_iload_n hx hb dX2_gather_49 rfl (lv_at hl 1 rfl) ?_
      refine lv_aload_n hx hb dX2_gather_50 rfl (lv_at hl 2 rfl) ?_
      refine va_get (D := D) (ci := 2) (v := .ref (r2 1)) (C := RX2) (T := TX2) (N := 8) hx hb hts w1 hown hK.1 hP 0 rfl rfl 1 (by decide) w2 (fun _ h9 => h9) rfl dX2_gather_51 ?_
      refine lv_iload_n hx hb dX2_gather_54 rfl (lv_at hl 0 rfl) ?_
      refine va_iald hx hb hK.1 hP 1 1 rfl rfl (i := k1) (ix (by omega) (by omega)) dX2_gather_55 ?_
      refine lv_topi (fun x37 e38 => ?_)
      refine va_iast hx hb hK.1 hP hD hS 4 1 rfl rfl (i := k2) (ix (by omega) (by omega)) dX2_gather_56 (fun H locs hP hD hS => ?_)
      obtain ⟨g39, e40⟩ : ∃ y : Nat → Int32, y = upd g4 k2.toNatClampNeg x37 := ⟨_, rfl⟩
      rw [← e40] at hP hD
      obtain ⟨hP, hD⟩ : PD D A [O2 a2 r2 v2_count v2_madeIn v2_bound, (cI κ (r2 1) 40 f2_inks), (cI κ (r2 2) 40 f2_stuffs), (cI κ (r2 6) 40 g35), (cI κ (r2 7) 40 g39)] H := ⟨hP, hD⟩
      obtain ⟨x41, e42⟩ : ∃ y : Int32, y = k2 + 1 := ⟨_, rfl⟩
      refine lv_iinc (v := x41) (lv' := [(2, .int x41), (3, .int k1), (0, .ref a2), (1, .int p1)]) hx hb dX2_gather_57 hl (k := 1) rfl (by rw [e42]; rfl) (by decide) rfl (fun ls hl => ?_)
      try have h43 : x41.toInt = k2.toInt + (1 : Int32).toInt := ci_add e42 (by omega) (by omega)
      obtain ⟨x44, e45⟩ : ∃ y : Int32, y = k1 + 1 := ⟨_, rfl⟩
      refine lv_iinc (v := x44) (lv' := [(3, .int x44), (2, .int x41), (0, .ref a2), (1, .int p1)]) hx hb dX2_gather_60 hl (k := 1) rfl (by rw [e45]; rfl) (by decide) rfl (fun ls hl => ?_)
      try have h46 : x44.toInt = k1.toInt + (1 : Int32).toInt := ci_add e45 (by omega) (by omega)
      refine lv_goto (tgt := 4) hx hb dX2_gather_63 (by decide) ?_
      exact ih4 x44 x41 g35 g39 (by omega) (by omega) (by omega) (by omega) _ _ hP hD hS _ hl
  exact lp4 ((v2_count.toInt - (0 : Int32).toInt).toNat + 1) 0 0 f2_shuffled f2_inksOfShuffled (by omega) (by omega) (by omega) (by omega) _ _ hP hD hS _ hl
set_option maxHeartbeats 4000000 in
set_option maxRecDepth 100000 in
theorem k_X2_sumOf (l : Launch) (D : va_G) (κ : Nat → ClassId) (β : Nat) (a2 : Nat) (r2 : Nat → Nat) (v2_count : Int32) (v2_madeIn : Int32) (v2_bound : Int32) (f2_shuffled : Nat → Int32) (f2_inksOfShuffled : Nat → Int32) (sz : Nat) (p1 : Int32) (p2 : Int32) (i1 : Rg 0 40 v2_count) (i2 : 0 ≤ p2.toInt ∧ p2.toInt ≤ 40) : Met l yX2_sumOf wsX2_sumOf ({ frames := 0, cells := 0, slots := 0, locals := 0 } : Room) (PcK D κ β [O2 a2 r2 v2_count v2_madeIn v2_bound, (cI κ (r2 6) 40 f2_shuffled), (cI κ (r2 7) 40 f2_inksOfShuffled)] sz [.ref a2, .int p1, .int p2]) (QiK D (fun (r : Int32) (u : Unit) => True) (fun (u : Unit) => [O2 a2 r2 v2_count v2_madeIn v2_bound, (cI κ (r2 6) 40 f2_shuffled), (cI κ (r2 7) 40 f2_inksOfShuffled)]) [O2 a2 r2 v2_count v2_madeIn v2_bound, (cI κ (r2 6) 40 f2_shuffled), (cI κ (r2 7) 40 f2_inksOfShuffled)] sz) 0 0 (va_A [O2 a2 r2 v2_count v2_madeIn v2_bound, (cI κ (r2 6) 40 f2_shuffled), (cI κ (r2 7) 40 f2_inksOfShuffled)] sz) := by
  refine ofK_i (cc := cX2_sumOf) (maxL := 5) (own := RX2) (by decide) rfl rfl (Nat.le_of_ble_eq_true rfl) ?_
  intro p e s m args below meth c Q A ls hsz hx hb hml hts hown hK hA hAB hP hD hl ret
  have hS : va_S A s.heap s.heap [] := va_S.rf
  have hl : lv_has ls 5 [(0, .ref a2), (1, .int p1), (2, .int p2)] := hl
  have w0 := hts (.fieldLink RX2 31 "OlderSkin$Dots" "inksOfShuffled" "[I") (List.mem_of_getElem? (i := 1) rfl)
  have w1 := (fun w h => List.mem_cons_of_mem _ (List.mem_append_right _ h) : ∀ w ∈ u_ws RX2 TX2 8, w ∈ wsX2_sumOf)
  have w2 := hts (.fieldLink RX2 28 "OlderSkin$Dots" "shuffled" "[I") (List.mem_of_getElem? (i := 2) rfl)
  have l0 : (0 : Int32).toInt = 0 := by decide
  have l1 : (1 : Int32).toInt = 1 := by decide
  refine lv_iconst (v := 0) hx hb dX2_sumOf_0 (by decide) ?_
  refine lv_istore_n (lv' := [(3, .int 0), (0, .ref a2), (1, .int p1), (2, .int p2)]) hx hb dX2_sumOf_1 rfl hl (by decide) rfl (fun ls hl => ?_)
  refine lv_iconst (v := 0) hx hb dX2_sumOf_2 (by decide) ?_
  refine lv_istore (lv' := [(4, .int 0), (3, .int 0), (0, .ref a2), (1, .int p1), (2, .int p2)]) hx hb dX2_sumOf_3 hl (by decide) rfl (fun ls hl => ?_)
  have lp5 : ∀ (n5 : Nat) (k1 : Int32) (k2 : Int32), (0 ≤ k1.toInt) → (p2.toInt - k1.toInt).toNat < n5 → ∀ (H : Heap) (locs : List Loc), va_P D vwCl [O2 a2 r2 v2_count v2_madeIn v2_bound, (cI κ (r2 6) 40 f2_shuffled), (cI κ (r2 7) 40 f2_inksOfShuffled)] H → va_D A [O2 a2 r2 v2_count v2_madeIn v2_bound, (cI κ (r2 6) 40 f2_shuffled), (cI κ (r2 7) 40 f2_inksOfShuffled)] → va_S A s.heap H locs → ∀ ls : Array Slot, lv_has ls 5 [(4, .int k1), (3, .int k2), (0, .ref a2), (1, .int p1), (2, .int p2)] → W p l e ({ frames := 0, cells := 0, slots := 0, locals := 0 } : Room) s m args below meth c H locs 0 0 Q (F0 m 5 ls []) := by
    intro n5
    induction n5 with
    | zero =>
      intro k1 k2 h3 m4
      exact absurd m4 (Nat.not_lt_zero _)
    | succ n5 ih5 =>
      intro k1 k2 h3 m4 H locs hP hD hS ls hl
      refine lv_iload hx hb dX2_sumOf_5 (lv_at hl 0 rfl) ?_
      refine lv_iload_n hx hb dX2_sumOf_7 rfl (lv_at hl 4 rfl) ?_
      refine lv_icmp_ge (tgt := 42) hx hb dX2_sumOf_8 (by decide) (fun c5 => ?_) (fun c5 => ?_)
      · have c5 := ci_le c5
        refine lv_iload_n hx hb dX2_sumOf_42 rfl (lv_at hl 1 rfl) ?_
        exact ret _ _ _ _ k2 () dX2_sumOf_43 trivial hP hD hS
      have c5 := ci_nle c5
      refine lv_iload_n hx hb dX2_sumOf_11 rfl (lv_at hl 1 rfl) ?_
      refine lv_aload_n hx hb dX2_sumOf_12 rfl (lv_at hl 2 rfl) ?_
      refine va_get (D := D) (ci := 2) (v := .ref (r2 7)) (C := RX2) (T := TX2) (N := 8) hx hb hts w1 hown hK.1 hP 0 rfl rfl 7 (by decide) w0 (fun _ h9 => h9) rfl dX2_sumOf_13 ?_
      refine lv_iload hx hb dX2_sumOf_16 (lv_at hl 0 rfl) ?_
      refine va_iald hx hb hK.1 hP 2 1 rfl rfl (i := k1) (ix (by omega) (by omega)) dX2_sumOf_18 ?_
      refine lv_topi (fun x6 e7 => ?_)
      refine lv_iload_n hx hb dX2_sumOf_19 rfl (lv_at hl 3 rfl) ?_
      refine lv_icmp_ne (tgt := 33) hx hb dX2_sumOf_20 (by decide) (fun c8 => ?_) (fun c8 => ?_)
      · have c8 := ci_ne c8
        refine lv_iconst (v := 0) hx hb dX2_sumOf_33 (by decide) ?_
        refine lv_iadd hx hb dX2_sumOf_34 ?_
        refine lv_topi (fun x9 e10 => ?_)
        try have h11 : x9.toInt = k2.toInt + (0 : Int32).toInt := ci_add e10 (by omega) (by omega)
        refine lv_istore_n (lv' := [(3, .int x9), (4, .int k1), (0, .ref a2), (1, .int p1), (2, .int p2)]) hx hb dX2_sumOf_35 rfl hl (by decide) rfl (fun ls hl => ?_)
        obtain ⟨x12, e13⟩ : ∃ y : Int32, y = k1 + 1 := ⟨_, rfl⟩
        refine lv_iinc (v := x12) (lv' := [(4, .int x12), (3, .int x9), (0, .ref a2), (1, .int p1), (2, .int p2)]) hx hb dX2_sumOf_36 hl (k := 1) rfl (by rw [e13]; rfl) (by decide) rfl (fun ls hl => ?_)
        try have h14 : x12.toInt = k1.toInt + (1 : Int32).toInt := ci_add e13 (by omega) (by omega)
        refine lv_goto (tgt := 5) hx hb dX2_sumOf_39 (by decide) ?_
        exact ih5 x12 x9 (by omega) (by omega) _ _ hP hD hS _ hl
      have c8 := ci_eq c8
      refine lv_aload_n hx hb dX2_sumOf_23 rfl (lv_at hl 2 rfl) ?_
      refine va_get (D := D) (ci := 2) (v := .ref (r2 6)) (C := RX2) (T := TX2) (N := 8) hx hb hts w1 hown hK.1 hP 0 rfl rfl 6 (by decide) w2 (fun _ h9 => h9) rfl dX2_sumOf_24 ?_
      refine lv_iload hx hb dX2_sumOf_27 (lv_at hl 0 rfl) ?_
      refine va_iald hx hb hK.1 hP 1 1 rfl rfl (i := k1) (ix (by omega) (by omega)) dX2_sumOf_29 ?_
      refine lv_topi (fun x15 e16 => ?_)
      refine lv_goto (tgt := 34) hx hb dX2_sumOf_30 (by decide) ?_
      refine lv_iadd hx hb dX2_sumOf_34 ?_
      refine lv_topi (fun x17 e18 => ?_)
      try have h19 : x17.toInt = k2.toInt + x15.toInt := ci_add e18 (by omega) (by omega)
      refine lv_istore_n (lv' := [(3, .int x17), (4, .int k1), (0, .ref a2), (1, .int p1), (2, .int p2)]) hx hb dX2_sumOf_35 rfl hl (by decide) rfl (fun ls hl => ?_)
      obtain ⟨x20, e21⟩ : ∃ y : Int32, y = k1 + 1 := ⟨_, rfl⟩
      refine lv_iinc (v := x20) (lv' := [(4, .int x20), (3, .int x17), (0, .ref a2), (1, .int p1), (2, .int p2)]) hx hb dX2_sumOf_36 hl (k := 1) rfl (by rw [e21]; rfl) (by decide) rfl (fun ls hl => ?_)
      try have h22 : x20.toInt = k1.toInt + (1 : Int32).toInt := ci_add e21 (by omega) (by omega)
      refine lv_goto (tgt := 5) hx hb dX2_sumOf_39 (by decide) ?_
      exact ih5 x20 x17 (by omega) (by omega) _ _ hP hD hS _ hl
  exact lp5 ((p2.toInt - (0 : Int32).toInt).toNat + 1) 0 0 (by omega) (by omega) _ _ hP hD hS _ hl
set_option maxHeartbeats 4000000 in
set_option maxRecDepth 100000 in
theorem k_X2_shuffle (l : Launch) (D : va_G) (κ : Nat → ClassId) (β : Nat) (a2 : Nat) (r2 : Nat → Nat) (v2_count : Int32) (v2_madeIn : Int32) (v2_bound : Int32) (f2_shuffled : Nat → Int32) (sz : Nat) (p1 : Int32) (p2 : Int32) (i1 : Rg 0 40 v2_count) (i2 : 0 ≤ p1.toInt ∧ p1.toInt ≤ 40) : Met l yX2_shuffle wsX2_shuffle ({ frames := 1, cells := 0, slots := 0, locals := 20 } : Room) (PcK D κ β [O2 a2 r2 v2_count v2_madeIn v2_bound, (cI κ (r2 6) 40 f2_shuffled)] sz [.ref a2, .int p1, .int p2]) (QiK D (fun (r : Int32) (u : (Nat → Int32)) => True) (fun (u : (Nat → Int32)) => [O2 a2 r2 v2_count v2_madeIn v2_bound, (cI κ (r2 6) 40 u)]) [O2 a2 r2 v2_count v2_madeIn v2_bound, (cI κ (r2 6) 40 f2_shuffled)] sz) 0 0 (va_A [O2 a2 r2 v2_count v2_madeIn v2_bound, (cI κ (r2 6) 40 f2_shuffled)] sz) := by
  refine ofK_i (cc := cX2_shuffle) (maxL := 7) (own := RX2) (by decide) rfl rfl (Nat.le_of_ble_eq_true rfl) ?_
  intro p e s m args below meth c Q A ls hsz hx hb hml hts hown hK hA hAB hP hD hl ret
  have hS : va_S A s.heap s.heap [] := va_S.rf
  have hl : lv_has ls 7 [(0, .ref a2), (1, .int p1), (2, .int p2)] := hl
  have w0 := hts (.initialized RX11) (List.mem_of_getElem? (i := 3) rfl)
  have w1 := hts (.static yX11_drawn) (List.mem_of_getElem? (i := 2) rfl)
  have w2 := hK.2.1 ("OlderSkin$Dots", 69, ⟨"OlderSkin", "drawn", "(I)I"⟩, "OlderSkin") (by decide +kernel)
  have w3 := hts (.fieldLink RX2 28 "OlderSkin$Dots" "shuffled" "[I") (List.mem_of_getElem? (i := 1) rfl)
  have w4 := (fun w h => List.mem_cons_of_mem _ (List.mem_append_right _ h) : ∀ w ∈ u_ws RX2 TX2 8, w ∈ wsX2_shuffle)
  have l0 : (1 : Int32).toInt = 1 := by decide
  have l1 : (0 : Int32).toInt = 0 := by decide
  have l2 : (8 : Int32).toInt = 8 := by decide
  have l3 : ((-1) : Int32).toInt = -1 := by decide
  refine lv_iload_n hx hb dX2_shuffle_0 rfl (lv_at hl 2 rfl) ?_
  refine lv_istore_n (lv' := [(3, .int p2), (0, .ref a2), (1, .int p1), (2, .int p2)]) hx hb dX2_shuffle_1 rfl hl (by decide) rfl (fun ls hl => ?_)
  refine lv_iload_n hx hb dX2_shuffle_2 rfl (lv_at hl 2 rfl) ?_
  refine lv_iconst (v := 1) hx hb dX2_shuffle_3 (by decide) ?_
  refine lv_isub hx hb dX2_shuffle_4 ?_
  refine lv_topi (fun x1 e2 => ?_)
  try have h3 : x1.toInt = p1.toInt - (1 : Int32).toInt := ci_sub e2 (by omega) (by omega)
  refine lv_istore (lv' := [(4, .int x1), (3, .int p2), (0, .ref a2), (1, .int p1), (2, .int p2)]) hx hb dX2_shuffle_5 hl (by decide) rfl (fun ls hl => ?_)
  have lp7 : ∀ (n7 : Nat) (k4 : Int32) (k5 : Int32) (g6 : Nat → Int32), (k4.toInt ≤ 39) → (k4.toInt).toNat < n7 → ∀ (H : Heap) (locs : List Loc), va_P D vwCl [O2 a2 r2 v2_count v2_madeIn v2_bound, (cI κ (r2 6) 40 g6)] H → va_D A [O2 a2 r2 v2_count v2_madeIn v2_bound, (cI κ (r2 6) 40 g6)] → va_S A s.heap H locs → ∀ ls : Array Slot, lv_has ls 7 [(4, .int k4), (3, .int k5), (0, .ref a2), (1, .int p1), (2, .int p2)] → W p l e ({ frames := 1, cells := 0, slots := 0, locals := 20 } : Room) s m args below meth c H locs 0 0 Q (F0 m 7 ls []) := by
    intro n7
    induction n7 with
    | zero =>
      intro k4 k5 g6 h7 m8
      exact absurd m8 (Nat.not_lt_zero _)
    | succ n7 ih7 =>
      intro k4 k5 g6 h7 m8 H locs hP hD hS ls hl
      refine lv_iload hx hb dX2_shuffle_7 (lv_at hl 0 rfl) ?_
      refine lv_iconst (v := 1) hx hb dX2_shuffle_9 (by decide) ?_
      refine lv_icmp_lt (tgt := 67) hx hb dX2_shuffle_10 (by decide) (fun c9 => ?_) (fun c9 => ?_)
      · have c9 := ci_lt c9
        refine lv_iload_n hx hb dX2_shuffle_67 rfl (lv_at hl 1 rfl) ?_
        exact ret _ _ _ _ k5 g6 dX2_shuffle_68 trivial hP hD hS
      have c9 := ci_nlt c9
      refine lv_iload_n hx hb dX2_shuffle_13 rfl (lv_at hl 1 rfl) ?_
      refine kcm_i hA hAB hP hD hS [false, false] rfl (fun _ => rfl) (fun hPc hDc => va_runSN (As := [.int k5]) (rest := []) ⟨hx, hb, hml, hown, hts⟩ (k_X11_drawn l D κ β H.size k5) ⟨va_cnB 1 hts gX2_shuffle_X11_drawn_n69 rfl rfl rfl w2 w0 (by decide +kernel) ⟨Nat.le_of_ble_eq_true rfl, Nat.le_of_ble_eq_true rfl⟩, w1, trivial⟩ (pk_S hK hS hAB hPc hDc) rfl rfl hl.1 rfl (lv_room (Nat.le_of_ble_eq_true rfl)) dX2_shuffle_14 ⟨Nat.le_of_ble_eq_true rfl, Nat.le_of_ble_eq_true rfl⟩) (fun x10 u11 H locs hw hPD hS => ?_)
      obtain ⟨hP, hD⟩ : PD D A [O2 a2 r2 v2_count v2_madeIn v2_bound, (cI κ (r2 6) 40 g6)] H := hPD
      refine lv_istore_n (lv' := [(3, .int x10), (4, .int k4), (0, .ref a2), (1, .int p1), (2, .int p2)]) hx hb dX2_shuffle_17 rfl hl (by decide) rfl (fun ls hl => ?_)
      refine lv_iload_n hx hb dX2_shuffle_18 rfl (lv_at hl 0 rfl) ?_
      refine lv_bipush (v := 8) hx hb dX2_shuffle_19 (by decide) ?_
      refine lv_iushr hx hb dX2_shuffle_21 rfl ?_
      refine lv_topi (fun x12 e13 => ?_)
      have h14 := ci_ushr8 e13
      refine lv_iload hx hb dX2_shuffle_22 (lv_at hl 1 rfl) ?_
      refine lv_iconst (v := 1) hx hb dX2_shuffle_24 (by decide) ?_
      refine lv_iadd hx hb dX2_shuffle_25 ?_
      refine lv_topi (fun x15 e16 => ?_)
      try have h17 : x15.toInt = k4.toInt + (1 : Int32).toInt := ci_add e16 (by omega) (by omega)
      refine lv_irem hx hb dX2_shuffle_26 (fun q18 => by have q18 := ci_eq q18; omega) ?_
      refine lv_topi (fun x19 e20 => ?_)
      try have h21 := ci_remV (by omega) (by omega) e20
      refine lv_istore (lv' := [(5, .int x19), (3, .int x10), (4, .int k4), (0, .ref a2), (1, .int p1), (2, .int p2)]) hx hb dX2_shuffle_27 hl (by decide) rfl (fun ls hl => ?_)
      refine lv_aload_n hx hb dX2_shuffle_29 rfl (lv_at hl 3 rfl) ?_
      refine va_get (D := D) (ci := 2) (v := .ref (r2 6)) (C := RX2) (T := TX2) (N := 8) hx hb hts w4 hown hK.1 hP 0 rfl rfl 6 (by decide) w3 (fun _ h9 => h9) rfl dX2_shuffle_30 ?_
      refine lv_iload hx hb dX2_shuffle_33 (lv_at hl 2 rfl) ?_
      refine va_iald hx hb hK.1 hP 1 1 rfl rfl (i := k4) (ix (by omega) (by omega)) dX2_shuffle_35 ?_
      refine lv_topi (fun x22 e23 => ?_)
      refine lv_istore (lv' := [(6, .int x22), (5, .int x19), (3, .int x10), (4, .int k4), (0, .ref a2), (1, .int p1), (2, .int p2)]) hx hb dX2_shuffle_36 hl (by decide) rfl (fun ls hl => ?_)
      refine lv_aload_n hx hb dX2_shuffle_38 rfl (lv_at hl 4 rfl) ?_
      refine va_get (D := D) (ci := 2) (v := .ref (r2 6)) (C := RX2) (T := TX2) (N := 8) hx hb hts w4 hown hK.1 hP 0 rfl rfl 6 (by decide) w3 (fun _ h9 => h9) rfl dX2_shuffle_39 ?_
      refine lv_iload hx hb dX2_shuffle_42 (lv_at hl 3 rfl) ?_
      refine lv_aload_n hx hb dX2_shuffle_44 rfl (lv_at hl 4 rfl) ?_
      refine va_get (D := D) (ci := 2) (v := .ref (r2 6)) (C := RX2) (T := TX2) (N := 8) hx hb hts w4 hown hK.1 hP 0 rfl rfl 6 (by decide) w3 (fun _ h9 => h9) rfl dX2_shuffle_45 ?_
      refine lv_iload hx hb dX2_shuffle_48 (lv_at hl 1 rfl) ?_
      refine va_iald hx hb hK.1 hP 1 1 rfl rfl (i := x19) (ix (by omega) (by omega)) dX2_shuffle_50 ?_
      refine lv_topi (fun x24 e25 => ?_)
      refine va_iast hx hb hK.1 hP hD hS 1 1 rfl rfl (i := k4) (ix (by omega) (by omega)) dX2_shuffle_51 (fun H locs hP hD hS => ?_)
      obtain ⟨g26, e27⟩ : ∃ y : Nat → Int32, y = upd g6 k4.toNatClampNeg x24 := ⟨_, rfl⟩
      rw [← e27] at hP hD
      obtain ⟨hP, hD⟩ : PD D A [O2 a2 r2 v2_count v2_madeIn v2_bound, (cI κ (r2 6) 40 g26)] H := ⟨hP, hD⟩
      refine lv_aload_n hx hb dX2_shuffle_52 rfl (lv_at hl 4 rfl) ?_
      refine va_get (D := D) (ci := 2) (v := .ref (r2 6)) (C := RX2) (T := TX2) (N := 8) hx hb hts w4 hown hK.1 hP 0 rfl rfl 6 (by decide) w3 (fun _ h9 => h9) rfl dX2_shuffle_53 ?_
      refine lv_iload hx hb dX2_shuffle_56 (lv_at hl 1 rfl) ?_
      refine lv_iload hx hb dX2_shuffle_58 (lv_at hl 0 rfl) ?_
      refine va_iast hx hb hK.1 hP hD hS 1 1 rfl rfl (i := x19) (ix (by omega) (by omega)) dX2_shuffle_60 (fun H locs hP hD hS => ?_)
      obtain ⟨g28, e29⟩ : ∃ y : Nat → Int32, y = upd g26 x19.toNatClampNeg x22 := ⟨_, rfl⟩
      rw [← e29] at hP hD
      obtain ⟨hP, hD⟩ : PD D A [O2 a2 r2 v2_count v2_madeIn v2_bound, (cI κ (r2 6) 40 g28)] H := ⟨hP, hD⟩
      obtain ⟨x30, e31⟩ : ∃ y : Int32, y = k4 + (-1) := ⟨_, rfl⟩
      refine lv_iinc (v := x30) (lv' := [(4, .int x30), (6, .int x22), (5, .int x19), (3, .int x10), (0, .ref a2), (1, .int p1), (2, .int p2)]) hx hb dX2_shuffle_61 hl (k := 3) rfl (by rw [e31]; rfl) (by decide) rfl (fun ls hl => ?_)
      try have h32 : x30.toInt = k4.toInt + ((-1) : Int32).toInt := ci_add e31 (by omega) (by omega)
      refine lv_goto (tgt := 7) hx hb dX2_shuffle_64 (by decide) ?_
      exact ih7 x30 x10 g28 (by omega) (by omega) _ _ hP hD hS _ (lv_sub hl [0, 3, 4, 5, 6] rfl)
  exact lp7 ((x1.toInt).toNat + 1) x1 p2 f2_shuffled (by omega) (by omega) _ _ hP hD hS _ hl
set_option maxHeartbeats 4000000 in
set_option maxRecDepth 100000 in
theorem k_X2_byChance (l : Launch) (D : va_G) (κ : Nat → ClassId) (β : Nat) (a2 : Nat) (r2 : Nat → Nat) (v2_count : Int32) (v2_madeIn : Int32) (v2_bound : Int32) (f2_inks : Nat → Int32) (f2_stuffs : Nat → Int32) (f2_shuffled : Nat → Int32) (f2_inksOfShuffled : Nat → Int32) (sz : Nat) (p1 : Int32) (p2 : Int32) (p3 : Int32) (i1 : Rg 0 40 v2_count) : Met l yX2_byChance wsX2_byChance ({ frames := 2, cells := 0, slots := 0, locals := 46 } : Room) (PcK D κ β [O2 a2 r2 v2_count v2_madeIn v2_bound, (cI κ (r2 1) 40 f2_inks), (cI κ (r2 2) 40 f2_stuffs), (cI κ (r2 6) 40 f2_shuffled), (cI κ (r2 7) 40 f2_inksOfShuffled)] sz [.ref a2, .int p1, .int p2, .int p3]) (QiK D (fun (r : Int32) (u : (Nat → Int32) × (Nat → Int32)) => True) (fun (u : (Nat → Int32) × (Nat → Int32)) => [O2 a2 r2 v2_count v2_madeIn v2_bound, (cI κ (r2 1) 40 f2_inks), (cI κ (r2 2) 40 f2_stuffs), (cI κ (r2 6) 40 u.1), (cI κ (r2 7) 40 u.2)]) [O2 a2 r2 v2_count v2_madeIn v2_bound, (cI κ (r2 1) 40 f2_inks), (cI κ (r2 2) 40 f2_stuffs), (cI κ (r2 6) 40 f2_shuffled), (cI κ (r2 7) 40 f2_inksOfShuffled)] sz) 0 0 (va_A [O2 a2 r2 v2_count v2_madeIn v2_bound, (cI κ (r2 1) 40 f2_inks), (cI κ (r2 2) 40 f2_stuffs), (cI κ (r2 6) 40 f2_shuffled), (cI κ (r2 7) 40 f2_inksOfShuffled)] sz) := by
  refine ofK_i (cc := cX2_byChance) (maxL := 9) (own := RX2) (by decide) rfl rfl (Nat.le_of_ble_eq_true rfl) ?_
  intro p e s m args below meth c Q A ls hsz hx hb hml hts hown hK hA hAB hP hD hl ret
  have hS : va_S A s.heap s.heap [] := va_S.rf
  have hl : lv_has ls 9 [(0, .ref a2), (1, .int p1), (2, .int p2), (3, .int p3)] := hl
  have w0 := hts (.initialized RX11) (List.mem_of_getElem? (i := 20) rfl)
  have w1 := hts (.static yX11_asBit) (List.mem_of_getElem? (i := 23) rfl)
  have w2 := hK.2.1 ("OlderSkin$Dots", 55, ⟨"OlderSkin", "asBit", "(Z)I"⟩, "OlderSkin") (by decide +kernel)
  have l0 : (0 : Int32).toInt = 0 := by decide
  have l1 : (1 : Int32).toInt = 1 := by decide
  have rg3 := ci_rng p3
  refine lv_aload_n hx hb dX2_byChance_0 rfl (lv_at hl 0 rfl) ?_
  refine lv_iload_n hx hb dX2_byChance_1 rfl (lv_at hl 1 rfl) ?_
  refine kcm_i hA hAB hP hD hS [true, true, true, true, true] rfl (fun _ => rfl) (fun hPc hDc => va_runV (As := [.int p1]) (rest := []) ⟨hx, hb, hml, hown, hts⟩ (k_X2_gather l D κ β a2 r2 v2_count v2_madeIn v2_bound f2_inks f2_stuffs f2_shuffled f2_inksOfShuffled s.heap.size p1 i1) (cwV 1 hts gX2_byChance_X2_gather rfl rfl rfl (by decide +kernel) ⟨Nat.le_of_ble_eq_true rfl, Nat.le_of_ble_eq_true rfl⟩) (pk_V hK hS hAB hPc hDc 0 (ci := 2) rfl rfl rfl) rfl rfl hl.1 rfl (lv_room (Nat.le_of_ble_eq_true rfl)) dX2_byChance_2 ⟨Nat.le_of_ble_eq_true rfl, Nat.le_of_ble_eq_true rfl⟩) (fun x3 u4 H locs hw hPD hS => ?_)
  obtain ⟨g1, g2⟩ := u4
  have h5 : 0 ≤ x3.toInt ∧ x3.toInt ≤ 40 := hw
  obtain ⟨hP, hD⟩ : PD D A [O2 a2 r2 v2_count v2_madeIn v2_bound, (cI κ (r2 1) 40 f2_inks), (cI κ (r2 2) 40 f2_stuffs), (cI κ (r2 6) 40 g1), (cI κ (r2 7) 40 g2)] H := hPD
  refine lv_istore (lv' := [(4, .int x3), (0, .ref a2), (1, .int p1), (2, .int p2), (3, .int p3)]) hx hb dX2_byChance_5 hl (by decide) rfl (fun ls hl => ?_)
  refine lv_aload_n hx hb dX2_byChance_7 rfl (lv_at hl 1 rfl) ?_
  refine lv_iload_n hx hb dX2_byChance_8 rfl (lv_at hl 2 rfl) ?_
  refine lv_iload hx hb dX2_byChance_9 (lv_at hl 0 rfl) ?_
  refine kcm_i hA hAB hP hD hS [true, false, false, true, true] rfl (fun _ => rfl) (fun hPc hDc => va_runV (As := [.int p1, .int x3]) (rest := []) ⟨hx, hb, hml, hown, hts⟩ (k_X2_sumOf l D κ β a2 r2 v2_count v2_madeIn v2_bound g1 g2 H.size p1 x3 i1 (by omega)) (cwV 2 hts gX2_byChance_X2_sumOf rfl rfl rfl (by decide +kernel) ⟨Nat.le_of_ble_eq_true rfl, Nat.le_of_ble_eq_true rfl⟩) (pk_V hK hS hAB hPc hDc 0 (ci := 2) rfl rfl rfl) rfl rfl hl.1 rfl (lv_room (Nat.le_of_ble_eq_true rfl)) dX2_byChance_11 ⟨Nat.le_of_ble_eq_true rfl, Nat.le_of_ble_eq_true rfl⟩) (fun x6 u7 H locs hw hPD hS => ?_)
  obtain ⟨hP, hD⟩ : PD D A [O2 a2 r2 v2_count v2_madeIn v2_bound, (cI κ (r2 1) 40 f2_inks), (cI κ (r2 2) 40 f2_stuffs), (cI κ (r2 6) 40 g1), (cI κ (r2 7) 40 g2)] H := hPD
  refine lv_istore (lv' := [(5, .int x6), (4, .int x3), (0, .ref a2), (1, .int p1), (2, .int p2), (3, .int p3)]) hx hb dX2_byChance_14 hl (by decide) rfl (fun ls hl => ?_)
  refine lv_iload_n hx hb dX2_byChance_16 rfl (lv_at hl 4 rfl) ?_
  refine lv_istore (lv' := [(6, .int p2), (5, .int x6), (4, .int x3), (0, .ref a2), (1, .int p1), (2, .int p2), (3, .int p3)]) hx hb dX2_byChance_17 hl (by decide) rfl (fun ls hl => ?_)
  refine lv_iconst (v := 0) hx hb dX2_byChance_19 (by decide) ?_
  refine lv_istore (lv' := [(7, .int 0), (6, .int p2), (5, .int x6), (4, .int x3), (0, .ref a2), (1, .int p1), (2, .int p2), (3, .int p3)]) hx hb dX2_byChance_20 hl (by decide) rfl (fun ls hl => ?_)
  refine lv_iconst (v := 0) hx hb dX2_byChance_22 (by decide) ?_
  refine lv_istore (lv' := [(8, .int 0), (7, .int 0), (6, .int p2), (5, .int x6), (4, .int x3), (0, .ref a2), (1, .int p1), (2, .int p2), (3, .int p3)]) hx hb dX2_byChance_23 hl (by decide) rfl (fun ls hl => ?_)
  have lp25 : ∀ (n25 : Nat) (k8 : Int32) (k9 : Int32) (k10 : Int32) (g11 : Nat → Int32), (0 ≤ k8.toInt) → (p3.toInt - k8.toInt).toNat < n25 → ∀ (H : Heap) (locs : List Loc), va_P D vwCl [O2 a2 r2 v2_count v2_madeIn v2_bound, (cI κ (r2 1) 40 f2_inks), (cI κ (r2 2) 40 f2_stuffs), (cI κ (r2 6) 40 g11), (cI κ (r2 7) 40 g2)] H → va_D A [O2 a2 r2 v2_count v2_madeIn v2_bound, (cI κ (r2 1) 40 f2_inks), (cI κ (r2 2) 40 f2_stuffs), (cI κ (r2 6) 40 g11), (cI κ (r2 7) 40 g2)] → va_S A s.heap H locs → ∀ ls : Array Slot, lv_has ls 9 [(8, .int k8), (7, .int k9), (6, .int k10), (5, .int x6), (4, .int x3), (0, .ref a2), (1, .int p1), (2, .int p2), (3, .int p3)] → W p l e ({ frames := 2, cells := 0, slots := 0, locals := 46 } : Room) s m args below meth c H locs 0 0 Q (F0 m 25 ls []) := by
    intro n25
    induction n25 with
    | zero =>
      intro k8 k9 k10 g11 h12 m13
      exact absurd m13 (Nat.not_lt_zero _)
    | succ n25 ih25 =>
      intro k8 k9 k10 g11 h12 m13 H locs hP hD hS ls hl
      refine lv_iload hx hb dX2_byChance_25 (lv_at hl 0 rfl) ?_
      refine lv_iload_n hx hb dX2_byChance_27 rfl (lv_at hl 8 rfl) ?_
      refine lv_icmp_ge (tgt := 72) hx hb dX2_byChance_28 (by decide) (fun c14 => ?_) (fun c14 => ?_)
      · have c14 := ci_le c14
        refine lv_iload hx hb dX2_byChance_72 (lv_at hl 1 rfl) ?_
        exact ret _ _ _ _ k9 (g11, g2) dX2_byChance_74 trivial hP hD hS
      have c14 := ci_nle c14
      refine lv_aload_n hx hb dX2_byChance_31 rfl (lv_at hl 5 rfl) ?_
      refine lv_iload hx hb dX2_byChance_32 (lv_at hl 4 rfl) ?_
      refine lv_iload hx hb dX2_byChance_34 (lv_at hl 2 rfl) ?_
      refine kcm_i hA hAB hP hD hS [true, false, false, true, false] rfl (fun _ => rfl) (fun hPc hDc => va_runV (As := [.int x3, .int k10]) (rest := []) ⟨hx, hb, hml, hown, hts⟩ (k_X2_shuffle l D κ β a2 r2 v2_count v2_madeIn v2_bound g11 H.size x3 k10 i1 (by omega)) (cwV 2 hts gX2_byChance_X2_shuffle rfl rfl rfl (by decide +kernel) ⟨Nat.le_of_ble_eq_true rfl, Nat.le_of_ble_eq_true rfl⟩) (pk_V hK hS hAB hPc hDc 0 (ci := 2) rfl rfl rfl) rfl rfl hl.1 rfl (lv_room (Nat.le_of_ble_eq_true rfl)) dX2_byChance_36 ⟨Nat.le_of_ble_eq_true rfl, Nat.le_of_ble_eq_true rfl⟩) (fun x16 g15 H locs hw hPD hS => ?_)
      obtain ⟨hP, hD⟩ : PD D A [O2 a2 r2 v2_count v2_madeIn v2_bound, (cI κ (r2 1) 40 f2_inks), (cI κ (r2 2) 40 f2_stuffs), (cI κ (r2 6) 40 g15), (cI κ (r2 7) 40 g2)] H := hPD
      refine lv_istore (lv' := [(6, .int x16), (8, .int k8), (7, .int k9), (5, .int x6), (4, .int x3), (0, .ref a2), (1, .int p1), (2, .int p2), (3, .int p3)]) hx hb dX2_byChance_39 hl (by decide) rfl (fun ls hl => ?_)
      refine lv_iload hx hb dX2_byChance_41 (lv_at hl 2 rfl) ?_
      refine lv_aload_n hx hb dX2_byChance_43 rfl (lv_at hl 5 rfl) ?_
      refine lv_iload_n hx hb dX2_byChance_44 rfl (lv_at hl 6 rfl) ?_
      refine lv_iload hx hb dX2_byChance_45 (lv_at hl 4 rfl) ?_
      refine kcm_i hA hAB hP hD hS [true, false, false, true, true] rfl (fun _ => rfl) (fun hPc hDc => va_runV (As := [.int p1, .int x3]) (rest := [.int k9]) ⟨hx, hb, hml, hown, hts⟩ (k_X2_sumOf l D κ β a2 r2 v2_count v2_madeIn v2_bound g15 g2 H.size p1 x3 i1 (by omega)) (cwV 2 hts gX2_byChance_X2_sumOf rfl rfl rfl (by decide +kernel) ⟨Nat.le_of_ble_eq_true rfl, Nat.le_of_ble_eq_true rfl⟩) (pk_V hK hS hAB hPc hDc 0 (ci := 2) rfl rfl rfl) rfl rfl hl.1 rfl (lv_room (Nat.le_of_ble_eq_true rfl)) dX2_byChance_47 ⟨Nat.le_of_ble_eq_true rfl, Nat.le_of_ble_eq_true rfl⟩) (fun x17 u18 H locs hw hPD hS => ?_)
      obtain ⟨hP, hD⟩ : PD D A [O2 a2 r2 v2_count v2_madeIn v2_bound, (cI κ (r2 1) 40 f2_inks), (cI κ (r2 2) 40 f2_stuffs), (cI κ (r2 6) 40 g15), (cI κ (r2 7) 40 g2)] H := hPD
      refine lv_iload hx hb dX2_byChance_50 (lv_at hl 3 rfl) ?_
      refine lv_icmp_lt (tgt := 59) hx hb dX2_byChance_52 (by decide) (fun c19 => ?_) (fun c19 => ?_)
      · have c19 := ci_lt c19
        refine lv_iconst (v := 0) hx hb dX2_byChance_59 (by decide) ?_
        refine kcm_i hA hAB hP hD hS [false, false, false, false, false] rfl (fun _ => rfl) (fun hPc hDc => va_runSN (As := [.int 0]) (rest := [.int k9]) ⟨hx, hb, hml, hown, hts⟩ (k_X11_asBit l D κ β H.size 0) ⟨va_cnB 1 hts gX2_byChance_X11_asBit_n55 rfl rfl rfl w2 w0 (by decide +kernel) ⟨Nat.le_of_ble_eq_true rfl, Nat.le_of_ble_eq_true rfl⟩, w1, trivial⟩ (pk_S hK hS hAB hPc hDc) rfl rfl hl.1 rfl (lv_room (Nat.le_of_ble_eq_true rfl)) dX2_byChance_60 ⟨Nat.le_of_ble_eq_true rfl, Nat.le_of_ble_eq_true rfl⟩) (fun x20 u21 H locs hw hPD hS => ?_)
        have h22 : (x20.toInt = 1 ∧ (0 : Int32).toInt ≠ 0) ∨ (x20.toInt = 0 ∧ (0 : Int32).toInt = 0) := hw
        obtain ⟨hP, hD⟩ : PD D A [O2 a2 r2 v2_count v2_madeIn v2_bound, (cI κ (r2 1) 40 f2_inks), (cI κ (r2 2) 40 f2_stuffs), (cI κ (r2 6) 40 g15), (cI κ (r2 7) 40 g2)] H := hPD
        refine lv_iadd hx hb dX2_byChance_63 ?_
        refine lv_topi (fun x23 e24 => ?_)
        try have h25 : x23.toInt = k9.toInt + x20.toInt := ci_add e24 (by omega) (by omega)
        refine lv_istore (lv' := [(7, .int x23), (6, .int x16), (8, .int k8), (5, .int x6), (4, .int x3), (0, .ref a2), (1, .int p1), (2, .int p2), (3, .int p3)]) hx hb dX2_byChance_64 hl (by decide) rfl (fun ls hl => ?_)
        obtain ⟨x26, e27⟩ : ∃ y : Int32, y = k8 + 1 := ⟨_, rfl⟩
        refine lv_iinc (v := x26) (lv' := [(8, .int x26), (7, .int x23), (6, .int x16), (5, .int x6), (4, .int x3), (0, .ref a2), (1, .int p1), (2, .int p2), (3, .int p3)]) hx hb dX2_byChance_66 hl (k := 2) rfl (by rw [e27]; rfl) (by decide) rfl (fun ls hl => ?_)
        try have h28 : x26.toInt = k8.toInt + (1 : Int32).toInt := ci_add e27 (by omega) (by omega)
        refine lv_goto (tgt := 25) hx hb dX2_byChance_69 (by decide) ?_
        exact ih25 x26 x23 x16 g15 (by omega) (by omega) _ _ hP hD hS _ hl
      have c19 := ci_nlt c19
      refine lv_iconst (v := 1) hx hb dX2_byChance_55 (by decide) ?_
      refine lv_goto (tgt := 60) hx hb dX2_byChance_56 (by decide) ?_
      refine kcm_i hA hAB hP hD hS [false, false, false, false, false] rfl (fun _ => rfl) (fun hPc hDc => va_runSN (As := [.int 1]) (rest := [.int k9]) ⟨hx, hb, hml, hown, hts⟩ (k_X11_asBit l D κ β H.size 1) ⟨va_cnB 1 hts gX2_byChance_X11_asBit_n55 rfl rfl rfl w2 w0 (by decide +kernel) ⟨Nat.le_of_ble_eq_true rfl, Nat.le_of_ble_eq_true rfl⟩, w1, trivial⟩ (pk_S hK hS hAB hPc hDc) rfl rfl hl.1 rfl (lv_room (Nat.le_of_ble_eq_true rfl)) dX2_byChance_60 ⟨Nat.le_of_ble_eq_true rfl, Nat.le_of_ble_eq_true rfl⟩) (fun x29 u30 H locs hw hPD hS => ?_)
      have h31 : (x29.toInt = 1 ∧ (1 : Int32).toInt ≠ 0) ∨ (x29.toInt = 0 ∧ (1 : Int32).toInt = 0) := hw
      obtain ⟨hP, hD⟩ : PD D A [O2 a2 r2 v2_count v2_madeIn v2_bound, (cI κ (r2 1) 40 f2_inks), (cI κ (r2 2) 40 f2_stuffs), (cI κ (r2 6) 40 g15), (cI κ (r2 7) 40 g2)] H := hPD
      refine lv_iadd hx hb dX2_byChance_63 ?_
      refine lv_topi (fun x32 e33 => ?_)
      try have h34 : x32.toInt = k9.toInt + x29.toInt := ci_add e33 (by omega) (by omega)
      refine lv_istore (lv' := [(7, .int x32), (6, .int x16), (8, .int k8), (5, .int x6), (4, .int x3), (0, .ref a2), (1, .int p1), (2, .int p2), (3, .int p3)]) hx hb dX2_byChance_64 hl (by decide) rfl (fun ls hl => ?_)
      obtain ⟨x35, e36⟩ : ∃ y : Int32, y = k8 + 1 := ⟨_, rfl⟩
      refine lv_iinc (v := x35) (lv' := [(8, .int x35), (7, .int x32), (6, .int x16), (5, .int x6), (4, .int x3), (0, .ref a2), (1, .int p1), (2, .int p2), (3, .int p3)]) hx hb dX2_byChance_66 hl (k := 2) rfl (by rw [e36]; rfl) (by decide) rfl (fun ls hl => ?_)
      try have h37 : x35.toInt = k8.toInt + (1 : Int32).toInt := ci_add e36 (by omega) (by omega)
      refine lv_goto (tgt := 25) hx hb dX2_byChance_69 (by decide) ?_
      exact ih25 x35 x32 x16 g15 (by omega) (by omega) _ _ hP hD hS _ hl
  exact lp25 ((p3.toInt - (0 : Int32).toInt).toNat + 1) 0 0 p2 g1 (by omega) (by omega) _ _ hP hD hS _ hl
set_option maxHeartbeats 4000000 in
set_option maxRecDepth 100000 in
theorem k_X2_inkBars (l : Launch) (D : va_G) (κ : Nat → ClassId) (β : Nat) (a2 : Nat) (r2 : Nat → Nat) (v2_count : Int32) (v2_madeIn : Int32) (v2_bound : Int32) (f2_houses : Nat → Int32) (f2_inks : Nat → Int32) (f2_stuffs : Nat → Int32) (sz : Nat) (p1 : Int32) (p2 : Int32) (i1 : Rg 0 40 v2_count) : Met l yX2_inkBars wsX2_inkBars ({ frames := 2, cells := 0, slots := 0, locals := 46 } : Room) (PcK D κ β [O2 a2 r2 v2_count v2_madeIn v2_bound, (cI κ (r2 0) 40 f2_houses), (cI κ (r2 1) 40 f2_inks), (cI κ (r2 2) 40 f2_stuffs)] sz [.ref a2, .int p1, .int p2]) (QiK D (fun (r : Int32) (u : Unit) => r.toInt = 0 ∨ r.toInt = 1) (fun (u : Unit) => [O2 a2 r2 v2_count v2_madeIn v2_bound, (cI κ (r2 0) 40 f2_houses), (cI κ (r2 1) 40 f2_inks), (cI κ (r2 2) 40 f2_stuffs)]) [O2 a2 r2 v2_count v2_madeIn v2_bound, (cI κ (r2 0) 40 f2_houses), (cI κ (r2 1) 40 f2_inks), (cI κ (r2 2) 40 f2_stuffs)] sz) 0 0 (va_A [O2 a2 r2 v2_count v2_madeIn v2_bound, (cI κ (r2 0) 40 f2_houses), (cI κ (r2 1) 40 f2_inks), (cI κ (r2 2) 40 f2_stuffs)] sz) := by
  refine ofK_z (cc := cX2_inkBars) (maxL := 3) (own := RX2) (by decide) rfl rfl (Nat.le_of_ble_eq_true rfl) ?_
  intro p e s m args below meth c Q A ls hsz hx hb hml hts hown hK hA hAB hP hD hl ret
  have hS : va_S A s.heap s.heap [] := va_S.rf
  have hl : lv_has ls 3 [(0, .ref a2), (1, .int p1), (2, .int p2)] := hl
  have w0 := hts (.fieldLink RX2 21 "OlderSkin$Dots" "madeIn" "I") (List.mem_of_getElem? (i := 1) rfl)
  have w1 := (fun w h => List.mem_cons_of_mem _ (List.mem_append_right _ h) : ∀ w ∈ u_ws RX2 TX2 8, w ∈ wsX2_inkBars)
  have w2 := hts (.fieldLink RX2 25 "OlderSkin$Dots" "bound" "I") (List.mem_of_getElem? (i := 2) rfl)
  have l0 : (2001 : Int32).toInt = 2001 := by decide
  have l1 : (0 : Int32).toInt = 0 := by decide
  have l2 : (31 : Int32).toInt = 31 := by decide
  have l3 : (1 : Int32).toInt = 1 := by decide
  refine lv_aload_n hx hb dX2_inkBars_0 rfl (lv_at hl 0 rfl) ?_
  refine va_get (D := D) (ci := 2) (v := .int v2_madeIn) (C := RX2) (T := TX2) (N := 8) hx hb hts w1 hown hK.1 hP 0 rfl rfl 4 (by decide) w0 (fun _ h9 => h9) rfl dX2_inkBars_1 ?_
  refine lv_sipush (v := 2001) hx hb dX2_inkBars_4 (by decide) ?_
  refine lv_icmp_eq (tgt := 38) hx hb dX2_inkBars_7 (by decide) (fun c1 => ?_) (fun c1 => ?_)
  · have c1 := ci_eq c1
    refine lv_iconst (v := 0) hx hb dX2_inkBars_38 (by decide) ?_
    have hpo : (0 : Int32).toInt = 0 ∨ (0 : Int32).toInt = 1 := (by omega)
    exact ret _ _ _ _ 0 () dX2_inkBars_39 (by omega) hpo hP hD hS
  have c1 := ci_ne c1
  refine lv_iload_n hx hb dX2_inkBars_10 rfl (lv_at hl 2 rfl) ?_
  refine lv_aload_n hx hb dX2_inkBars_11 rfl (lv_at hl 0 rfl) ?_
  refine va_get (D := D) (ci := 2) (v := .int v2_madeIn) (C := RX2) (T := TX2) (N := 8) hx hb hts w1 hown hK.1 hP 0 rfl rfl 4 (by decide) w0 (fun _ h9 => h9) rfl dX2_inkBars_12 ?_
  refine lv_icmp_ge (tgt := 38) hx hb dX2_inkBars_15 (by decide) (fun c2 => ?_) (fun c2 => ?_)
  · have c2 := ci_le c2
    refine lv_iconst (v := 0) hx hb dX2_inkBars_38 (by decide) ?_
    have hpo : (0 : Int32).toInt = 0 ∨ (0 : Int32).toInt = 1 := (by omega)
    exact ret _ _ _ _ 0 () dX2_inkBars_39 (by omega) hpo hP hD hS
  have c2 := ci_nle c2
  refine lv_aload_n hx hb dX2_inkBars_18 rfl (lv_at hl 0 rfl) ?_
  refine lv_bipush (v := 31) hx hb dX2_inkBars_19 (by decide) ?_
  refine lv_iconst (v := 1) hx hb dX2_inkBars_21 (by decide) ?_
  refine lv_iload_n hx hb dX2_inkBars_22 rfl (lv_at hl 1 rfl) ?_
  refine lv_ishl hx hb dX2_inkBars_23 ?_
  refine lv_topi (fun x3 e4 => ?_)
  refine kcm_i hA hAB hP hD hS [true, true, true, true] rfl (fun _ => rfl) (fun hPc hDc => va_runV (As := [.int 31, .int x3]) (rest := []) ⟨hx, hb, hml, hown, hts⟩ (k_X2_meanOf l D κ β a2 r2 v2_count v2_madeIn v2_bound f2_houses f2_inks f2_stuffs s.heap.size 31 x3 i1) (cwV 2 hts gX2_inkBars_X2_meanOf rfl rfl rfl (by decide +kernel) ⟨Nat.le_of_ble_eq_true rfl, Nat.le_of_ble_eq_true rfl⟩) (pk_V hK hS hAB hPc hDc 0 (ci := 2) rfl rfl rfl) rfl rfl hl.1 rfl (lv_room (Nat.le_of_ble_eq_true rfl)) dX2_inkBars_24 ⟨Nat.le_of_ble_eq_true rfl, Nat.le_of_ble_eq_true rfl⟩) (fun x5 u6 H locs hw hPD hS => ?_)
  obtain ⟨hP, hD⟩ : PD D A [O2 a2 r2 v2_count v2_madeIn v2_bound, (cI κ (r2 0) 40 f2_houses), (cI κ (r2 1) 40 f2_inks), (cI κ (r2 2) 40 f2_stuffs)] H := hPD
  refine lv_aload_n hx hb dX2_inkBars_27 rfl (lv_at hl 0 rfl) ?_
  refine va_get (D := D) (ci := 2) (v := .int v2_bound) (C := RX2) (T := TX2) (N := 8) hx hb hts w1 hown hK.1 hP 0 rfl rfl 5 (by decide) w2 (fun _ h9 => h9) rfl dX2_inkBars_28 ?_
  refine lv_icmp_le (tgt := 38) hx hb dX2_inkBars_31 (by decide) (fun c7 => ?_) (fun c7 => ?_)
  · have c7 := ci_le c7
    refine lv_iconst (v := 0) hx hb dX2_inkBars_38 (by decide) ?_
    have hpo : (0 : Int32).toInt = 0 ∨ (0 : Int32).toInt = 1 := (by omega)
    exact ret _ _ _ _ 0 () dX2_inkBars_39 (by omega) hpo hP hD hS
  have c7 := ci_nle c7
  refine lv_iconst (v := 1) hx hb dX2_inkBars_34 (by decide) ?_
  refine lv_goto (tgt := 39) hx hb dX2_inkBars_35 (by decide) ?_
  have hpo : (1 : Int32).toInt = 0 ∨ (1 : Int32).toInt = 1 := (by omega)
  exact ret _ _ _ _ 1 () dX2_inkBars_39 (by omega) hpo hP hD hS
set_option maxHeartbeats 4000000 in
set_option maxRecDepth 100000 in
theorem k_X2_someInkBars (l : Launch) (D : va_G) (κ : Nat → ClassId) (β : Nat) (a2 : Nat) (r2 : Nat → Nat) (v2_count : Int32) (v2_madeIn : Int32) (v2_bound : Int32) (f2_houses : Nat → Int32) (f2_inks : Nat → Int32) (f2_stuffs : Nat → Int32) (sz : Nat) (p1 : Int32) (i1 : Rg 0 40 v2_count) : Met l yX2_someInkBars wsX2_someInkBars ({ frames := 3, cells := 0, slots := 0, locals := 68 } : Room) (PcK D κ β [O2 a2 r2 v2_count v2_madeIn v2_bound, (cI κ (r2 0) 40 f2_houses), (cI κ (r2 1) 40 f2_inks), (cI κ (r2 2) 40 f2_stuffs)] sz [.ref a2, .int p1]) (QiK D (fun (r : Int32) (u : Unit) => r.toInt = 0 ∨ r.toInt = 1) (fun (u : Unit) => [O2 a2 r2 v2_count v2_madeIn v2_bound, (cI κ (r2 0) 40 f2_houses), (cI κ (r2 1) 40 f2_inks), (cI κ (r2 2) 40 f2_stuffs)]) [O2 a2 r2 v2_count v2_madeIn v2_bound, (cI κ (r2 0) 40 f2_houses), (cI κ (r2 1) 40 f2_inks), (cI κ (r2 2) 40 f2_stuffs)] sz) 0 0 (va_A [O2 a2 r2 v2_count v2_madeIn v2_bound, (cI κ (r2 0) 40 f2_houses), (cI κ (r2 1) 40 f2_inks), (cI κ (r2 2) 40 f2_stuffs)] sz) := by
  refine ofK_z (cc := cX2_someInkBars) (maxL := 3) (own := RX2) (by decide) rfl rfl (Nat.le_of_ble_eq_true rfl) ?_
  intro p e s m args below meth c Q A ls hsz hx hb hml hts hown hK hA hAB hP hD hl ret
  have hS : va_S A s.heap s.heap [] := va_S.rf
  have hl : lv_has ls 3 [(0, .ref a2), (1, .int p1)] := hl
  have l0 : (0 : Int32).toInt = 0 := by decide
  have l1 : (6 : Int32).toInt = 6 := by decide
  have l2 : (1 : Int32).toInt = 1 := by decide
  refine lv_iconst (v := 0) hx hb dX2_someInkBars_0 (by decide) ?_
  refine lv_istore_n (lv' := [(2, .int 0), (0, .ref a2), (1, .int p1)]) hx hb dX2_someInkBars_1 rfl hl (by decide) rfl (fun ls hl => ?_)
  have lp2 : ∀ (n2 : Nat) (k1 : Int32), (0 ≤ k1.toInt) → (6 - k1.toInt).toNat < n2 → ∀ (H : Heap) (locs : List Loc), va_P D vwCl [O2 a2 r2 v2_count v2_madeIn v2_bound, (cI κ (r2 0) 40 f2_houses), (cI κ (r2 1) 40 f2_inks), (cI κ (r2 2) 40 f2_stuffs)] H → va_D A [O2 a2 r2 v2_count v2_madeIn v2_bound, (cI κ (r2 0) 40 f2_houses), (cI κ (r2 1) 40 f2_inks), (cI κ (r2 2) 40 f2_stuffs)] → va_S A s.heap H locs → ∀ ls : Array Slot, lv_has ls 3 [(2, .int k1), (0, .ref a2), (1, .int p1)] → W p l e ({ frames := 3, cells := 0, slots := 0, locals := 68 } : Room) s m args below meth c H locs 0 0 Q (F0 m 2 ls []) := by
    intro n2
    induction n2 with
    | zero =>
      intro k1 h2 m3
      exact absurd m3 (Nat.not_lt_zero _)
    | succ n2 ih2 =>
      intro k1 h2 m3 H locs hP hD hS ls hl
      refine lv_iload_n hx hb dX2_someInkBars_2 rfl (lv_at hl 0 rfl) ?_
      refine lv_bipush (v := 6) hx hb dX2_someInkBars_3 (by decide) ?_
      refine lv_icmp_ge (tgt := 25) hx hb dX2_someInkBars_5 (by decide) (fun c4 => ?_) (fun c4 => ?_)
      · have c4 := ci_le c4
        refine lv_iconst (v := 0) hx hb dX2_someInkBars_25 (by decide) ?_
        have hpo : (0 : Int32).toInt = 0 ∨ (0 : Int32).toInt = 1 := (by omega)
        exact ret _ _ _ _ 0 () dX2_someInkBars_26 (by omega) hpo hP hD hS
      have c4 := ci_nle c4
      refine lv_aload_n hx hb dX2_someInkBars_8 rfl (lv_at hl 1 rfl) ?_
      refine lv_iload_n hx hb dX2_someInkBars_9 rfl (lv_at hl 0 rfl) ?_
      refine lv_iload_n hx hb dX2_someInkBars_10 rfl (lv_at hl 2 rfl) ?_
      refine kcm_i hA hAB hP hD hS [true, true, true, true] rfl (fun _ => rfl) (fun hPc hDc => va_runV (As := [.int k1, .int p1]) (rest := []) ⟨hx, hb, hml, hown, hts⟩ (k_X2_inkBars l D κ β a2 r2 v2_count v2_madeIn v2_bound f2_houses f2_inks f2_stuffs H.size k1 p1 i1) (cwV 2 hts gX2_someInkBars_X2_inkBars rfl rfl rfl (by decide +kernel) ⟨Nat.le_of_ble_eq_true rfl, Nat.le_of_ble_eq_true rfl⟩) (pk_V hK hS hAB hPc hDc 0 (ci := 2) rfl rfl rfl) rfl rfl hl.1 rfl (lv_room (Nat.le_of_ble_eq_true rfl)) dX2_someInkBars_11 ⟨Nat.le_of_ble_eq_true rfl, Nat.le_of_ble_eq_true rfl⟩) (fun x5 u6 H locs hw hPD hS => ?_)
      have h7 : x5.toInt = 0 ∨ x5.toInt = 1 := hw
      obtain ⟨hP, hD⟩ : PD D A [O2 a2 r2 v2_count v2_madeIn v2_bound, (cI κ (r2 0) 40 f2_houses), (cI κ (r2 1) 40 f2_inks), (cI κ (r2 2) 40 f2_stuffs)] H := hPD
      refine lv_if_eq (tgt := 19) hx hb dX2_someInkBars_14 (by decide) (fun c8 => ?_) (fun c8 => ?_)
      · have c8 := ci_eq c8
        obtain ⟨x9, e10⟩ : ∃ y : Int32, y = k1 + 1 := ⟨_, rfl⟩
        refine lv_iinc (v := x9) (lv' := [(2, .int x9), (0, .ref a2), (1, .int p1)]) hx hb dX2_someInkBars_19 hl (k := 0) rfl (by rw [e10]; rfl) (by decide) rfl (fun ls hl => ?_)
        try have h11 : x9.toInt = k1.toInt + (1 : Int32).toInt := ci_add e10 (by omega) (by omega)
        refine lv_goto (tgt := 2) hx hb dX2_someInkBars_22 (by decide) ?_
        exact ih2 x9 (by omega) (by omega) _ _ hP hD hS _ hl
      have c8 := ci_ne c8
      refine lv_iconst (v := 1) hx hb dX2_someInkBars_17 (by decide) ?_
      have hpo : (1 : Int32).toInt = 0 ∨ (1 : Int32).toInt = 1 := (by omega)
      exact ret _ _ _ _ 1 () dX2_someInkBars_18 (by omega) hpo hP hD hS
  exact lp2 ((6 - (0 : Int32).toInt).toNat + 1) 0 (by omega) (by omega) _ _ hP hD hS _ hl
