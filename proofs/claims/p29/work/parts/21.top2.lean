set_option maxHeartbeats 4000000 in
set_option maxRecDepth 100000 in
theorem k_X11_dot (l : Launch) (D : va_G) (κ : Nat → ClassId) (β : Nat) (a11 : Nat) (a7 : Nat) (a5 : Nat) (a3 : Nat) (a2 : Nat) (a6 : Nat) (a4 : Nat) (a10 : Nat) (a9 : Nat) (a1 : Nat) (a0 : Nat) (a8 : Nat) (aN : Nat) (r2 : Nat → Nat) (v2_count : Int32) (v2_madeIn : Int32) (v2_bound : Int32) (f2_houses : Nat → Int32) (f2_inks : Nat → Int32) (f2_stuffs : Nat → Int32) (sz : Nat) (p1 : Int32) (p2 : Int32) (i1 : Rg 0 40 v2_count) : Met l yX11_dot wsX11_dot ({ frames := 3, cells := 0, slots := 0, locals := 64 } : Room) (PcK D κ β [O11 a11 a7 a5 a3 a2 a6 a4 a10 a9 a1 a0 a8 aN, O2 a2 r2 v2_count v2_madeIn v2_bound, (cI κ (r2 0) 40 f2_houses), (cI κ (r2 1) 40 f2_inks), (cI κ (r2 2) 40 f2_stuffs)] sz [.ref a11, .int p1, .int p2]) (QiK D (fun (r : Int32) (u : Int32 × (Nat → Int32) × (Nat → Int32) × (Nat → Int32)) => 0 ≤ u.1.toInt ∧ u.1.toInt ≤ 40) (fun (u : Int32 × (Nat → Int32) × (Nat → Int32) × (Nat → Int32)) => [O11 a11 a7 a5 a3 a2 a6 a4 a10 a9 a1 a0 a8 aN, O2 a2 r2 u.1 v2_madeIn v2_bound, (cI κ (r2 0) 40 u.2.1), (cI κ (r2 1) 40 u.2.2.1), (cI κ (r2 2) 40 u.2.2.2)]) [O11 a11 a7 a5 a3 a2 a6 a4 a10 a9 a1 a0 a8 aN, O2 a2 r2 v2_count v2_madeIn v2_bound, (cI κ (r2 0) 40 f2_houses), (cI κ (r2 1) 40 f2_inks), (cI κ (r2 2) 40 f2_stuffs)] sz) 0 0 (va_A [O11 a11 a7 a5 a3 a2 a6 a4 a10 a9 a1 a0 a8 aN, O2 a2 r2 v2_count v2_madeIn v2_bound, (cI κ (r2 0) 40 f2_houses), (cI κ (r2 1) 40 f2_inks), (cI κ (r2 2) 40 f2_stuffs)] sz) := by
  refine ofK_i (cc := cX11_dot) (maxL := 5) (own := RX11) (by decide) rfl rfl (Nat.le_of_ble_eq_true rfl) ?_
  intro p e s m args below meth c Q A ls hsz hx hb hml hts hown hK hA hAB hP hD hl ret
  have hS : va_S A s.heap s.heap [] := va_S.rf
  have hl : lv_has ls 5 [(0, .ref a11), (1, .int p1), (2, .int p2)] := hl
  have w0 := hts (.fieldLink RX11 33 "OlderSkin" "dots" "LOlderSkin$Dots;") (List.mem_of_getElem? (i := 1) rfl)
  have w1 := (fun w h => List.mem_cons_of_mem _ (List.mem_append_left _ (List.mem_append_right _ h)) : ∀ w ∈ u_ws RX11 TX11 12, w ∈ wsX11_dot)
  have l0 : (10 : Int32).toInt = 10 := by decide
  have l1 : (0 : Int32).toInt = 0 := by decide
  have l2 : ((-1) : Int32).toInt = -1 := by decide
  have i1 : 0 ≤ v2_count.toInt ∧ v2_count.toInt ≤ 40 := i1
  refine lv_iload_n hx hb dX11_dot_0 rfl (lv_at hl 1 rfl) ?_
  refine lv_bipush (v := 10) hx hb dX11_dot_1 (by decide) ?_
  refine lv_idiv hx hb dX11_dot_3 (by decide) ?_
  refine lv_topi (fun x1 e2 => ?_)
  have h3 := ci_divL (n := 10) (by decide) (by decide) e2
  refine lv_istore_n (lv' := [(3, .int x1), (0, .ref a11), (1, .int p1), (2, .int p2)]) hx hb dX11_dot_4 rfl hl (by decide) rfl (fun ls hl => ?_)
  refine lv_iload_n hx hb dX11_dot_5 rfl (lv_at hl 2 rfl) ?_
  refine lv_bipush (v := 10) hx hb dX11_dot_6 (by decide) ?_
  refine lv_irem hx hb dX11_dot_8 (by decide) ?_
  refine lv_topi (fun x4 e5 => ?_)
  have h6 := ci_remL (n := 10) (by decide) (by decide) e5
  refine lv_istore (lv' := [(4, .int x4), (3, .int x1), (0, .ref a11), (1, .int p1), (2, .int p2)]) hx hb dX11_dot_9 hl (by decide) rfl (fun ls hl => ?_)
  refine lv_iload_n hx hb dX11_dot_11 rfl (lv_at hl 1 rfl) ?_
  refine lv_iload hx hb dX11_dot_12 (lv_at hl 0 rfl) ?_
  refine lv_iload_n hx hb dX11_dot_14 rfl (lv_at hl 4 rfl) ?_
  refine kcm_i hA hAB hP hD hS [false, false, false, false, false] rfl (fun _ => rfl) (fun hPc hDc => va_runS (As := [.int x1, .int x4, .int p2]) (rest := []) ⟨hx, hb, hml, hown, hts⟩ (k_X11_isDot l D κ β s.heap.size x1 x4 p2) (va_cwS 3 hts gX11_dot_X11_isDot rfl rfl rfl (by decide +kernel) ⟨Nat.le_of_ble_eq_true rfl, Nat.le_of_ble_eq_true rfl⟩) (pk_S hK hS hAB hPc hDc) rfl rfl hl.1 rfl (lv_room (Nat.le_of_ble_eq_true rfl)) dX11_dot_15 ⟨Nat.le_of_ble_eq_true rfl, Nat.le_of_ble_eq_true rfl⟩) (fun x7 u8 H locs hw hPD hS => ?_)
  have h9 : (x7.toInt = 1 ∧ 0 ≤ x1.toInt ∧ x1.toInt ≤ 4 ∧ 0 ≤ x4.toInt ∧ x4.toInt ≤ 7 ∧ 0 ≤ p2.toInt ∧ p2.toInt ≤ 9999) ∨ (x7.toInt = 0 ∧ (x1.toInt < 0 ∨ 4 < x1.toInt ∨ x4.toInt < 0 ∨ 7 < x4.toInt ∨ p2.toInt < 0 ∨ 9999 < p2.toInt)) := hw
  obtain ⟨hP, hD⟩ : PD D A [O11 a11 a7 a5 a3 a2 a6 a4 a10 a9 a1 a0 a8 aN, O2 a2 r2 v2_count v2_madeIn v2_bound, (cI κ (r2 0) 40 f2_houses), (cI κ (r2 1) 40 f2_inks), (cI κ (r2 2) 40 f2_stuffs)] H := hPD
  refine lv_if_ne (tgt := 23) hx hb dX11_dot_18 (by decide) (fun c10 => ?_) (fun c10 => ?_)
  · have c10 := ci_ne c10
    refine lv_aload_n hx hb dX11_dot_23 rfl (lv_at hl 2 rfl) ?_
    refine va_get (D := D) (ci := 11) (v := .ref a2) (C := RX11) (T := TX11) (N := 12) hx hb hts w1 hown hK.1 hP 0 rfl rfl 3 (by decide) w0 (fun _ h9 => h9) rfl dX11_dot_24 ?_
    refine lv_iload_n hx hb dX11_dot_27 rfl (lv_at hl 1 rfl) ?_
    refine lv_iload hx hb dX11_dot_28 (lv_at hl 0 rfl) ?_
    refine lv_iload_n hx hb dX11_dot_30 rfl (lv_at hl 4 rfl) ?_
    refine kcm_i hA hAB hP hD hS [false, true, true, true, true] rfl (fun _ => rfl) (fun hPc hDc => va_runV (As := [.int x1, .int x4, .int p2]) (rest := []) ⟨hx, hb, hml, hown, hts⟩ (k_X2_add l D κ β a2 r2 v2_count v2_madeIn v2_bound f2_houses f2_inks f2_stuffs H.size x1 x4 p2 i1) (cwV 3 hts gX11_dot_X2_add rfl rfl rfl (by decide +kernel) ⟨Nat.le_of_ble_eq_true rfl, Nat.le_of_ble_eq_true rfl⟩) (pk_V hK hS hAB hPc hDc 0 (ci := 2) rfl rfl rfl) rfl rfl hl.1 rfl (lv_room (Nat.le_of_ble_eq_true rfl)) dX11_dot_31 ⟨Nat.le_of_ble_eq_true rfl, Nat.le_of_ble_eq_true rfl⟩) (fun x15 u16 H locs hw hPD hS => ?_)
    obtain ⟨x11, g12, g13, g14⟩ := u16
    obtain ⟨h17, h18⟩ : (0 ≤ x11.toInt ∧ x11.toInt ≤ 40) ∧ ((v2_count.toInt = 40 ∧ x15.toInt = -3 ∧ x11.toInt = v2_count.toInt) ∨ (v2_count.toInt < 40 ∧ x15.toInt = v2_count.toInt ∧ x11.toInt = v2_count.toInt + 1)) := hw
    obtain ⟨hP, hD⟩ : PD D A [O11 a11 a7 a5 a3 a2 a6 a4 a10 a9 a1 a0 a8 aN, O2 a2 r2 x11 v2_madeIn v2_bound, (cI κ (r2 0) 40 g12), (cI κ (r2 1) 40 g13), (cI κ (r2 2) 40 g14)] H := hPD
    have hpo : 0 ≤ x11.toInt ∧ x11.toInt ≤ 40 := h17
    exact ret _ _ _ _ x15 (x11, g12, g13, g14) dX11_dot_34 hpo hP hD hS
  have c10 := ci_eq c10
  refine lv_iconst (v := (-1)) hx hb dX11_dot_21 (by decide) ?_
  have hpo : 0 ≤ v2_count.toInt ∧ v2_count.toInt ≤ 40 := i1
  exact ret _ _ _ _ (-1) (v2_count, f2_houses, f2_inks, f2_stuffs) dX11_dot_22 hpo hP hD hS
set_option maxHeartbeats 4000000 in
set_option maxRecDepth 100000 in
theorem k_X11_mean (l : Launch) (D : va_G) (κ : Nat → ClassId) (β : Nat) (a11 : Nat) (a7 : Nat) (a5 : Nat) (a3 : Nat) (a2 : Nat) (a6 : Nat) (a4 : Nat) (a10 : Nat) (a9 : Nat) (a1 : Nat) (a0 : Nat) (a8 : Nat) (aN : Nat) (r2 : Nat → Nat) (v2_count : Int32) (v2_madeIn : Int32) (v2_bound : Int32) (f2_houses : Nat → Int32) (f2_inks : Nat → Int32) (f2_stuffs : Nat → Int32) (sz : Nat) (p1 : Int32) (i1 : Rg 0 40 v2_count) : Met l yX11_mean wsX11_mean ({ frames := 2, cells := 0, slots := 0, locals := 46 } : Room) (PcK D κ β [O11 a11 a7 a5 a3 a2 a6 a4 a10 a9 a1 a0 a8 aN, O2 a2 r2 v2_count v2_madeIn v2_bound, (cI κ (r2 0) 40 f2_houses), (cI κ (r2 1) 40 f2_inks), (cI κ (r2 2) 40 f2_stuffs)] sz [.ref a11, .int p1]) (QiK D (fun (r : Int32) (u : Unit) => True) (fun (u : Unit) => [O11 a11 a7 a5 a3 a2 a6 a4 a10 a9 a1 a0 a8 aN, O2 a2 r2 v2_count v2_madeIn v2_bound, (cI κ (r2 0) 40 f2_houses), (cI κ (r2 1) 40 f2_inks), (cI κ (r2 2) 40 f2_stuffs)]) [O11 a11 a7 a5 a3 a2 a6 a4 a10 a9 a1 a0 a8 aN, O2 a2 r2 v2_count v2_madeIn v2_bound, (cI κ (r2 0) 40 f2_houses), (cI κ (r2 1) 40 f2_inks), (cI κ (r2 2) 40 f2_stuffs)] sz) 0 0 (va_A [O11 a11 a7 a5 a3 a2 a6 a4 a10 a9 a1 a0 a8 aN, O2 a2 r2 v2_count v2_madeIn v2_bound, (cI κ (r2 0) 40 f2_houses), (cI κ (r2 1) 40 f2_inks), (cI κ (r2 2) 40 f2_stuffs)] sz) := by
  refine ofK_i (cc := cX11_mean) (maxL := 4) (own := RX11) (by decide) rfl rfl (Nat.le_of_ble_eq_true rfl) ?_
  intro p e s m args below meth c Q A ls hsz hx hb hml hts hown hK hA hAB hP hD hl ret
  have hS : va_S A s.heap s.heap [] := va_S.rf
  have hl : lv_has ls 4 [(0, .ref a11), (1, .int p1)] := hl
  have w0 := hts (.fieldLink RX11 33 "OlderSkin" "dots" "LOlderSkin$Dots;") (List.mem_of_getElem? (i := 1) rfl)
  have w1 := (fun w h => List.mem_cons_of_mem _ (List.mem_append_left _ (List.mem_append_right _ h)) : ∀ w ∈ u_ws RX11 TX11 12, w ∈ wsX11_mean)
  have l0 : (10 : Int32).toInt = 10 := by decide
  have l1 : (0 : Int32).toInt = 0 := by decide
  have l2 : (5 : Int32).toInt = 5 := by decide
  have l3 : ((-1) : Int32).toInt = -1 := by decide
  have l4 : (7 : Int32).toInt = 7 := by decide
  have l5 : (1 : Int32).toInt = 1 := by decide
  have l6 : (31 : Int32).toInt = 31 := by decide
  refine lv_iload_n hx hb dX11_mean_0 rfl (lv_at hl 1 rfl) ?_
  refine lv_bipush (v := 10) hx hb dX11_mean_1 (by decide) ?_
  refine lv_idiv hx hb dX11_mean_3 (by decide) ?_
  refine lv_topi (fun x1 e2 => ?_)
  have h3 := ci_divL (n := 10) (by decide) (by decide) e2
  refine lv_istore_n (lv' := [(2, .int x1), (0, .ref a11), (1, .int p1)]) hx hb dX11_mean_4 rfl hl (by decide) rfl (fun ls hl => ?_)
  refine lv_iload_n hx hb dX11_mean_5 rfl (lv_at hl 2 rfl) ?_
  refine lv_bipush (v := 10) hx hb dX11_mean_6 (by decide) ?_
  refine lv_irem hx hb dX11_mean_8 (by decide) ?_
  refine lv_topi (fun x4 e5 => ?_)
  have h6 := ci_remL (n := 10) (by decide) (by decide) e5
  refine lv_istore_n (lv' := [(3, .int x4), (2, .int x1), (0, .ref a11), (1, .int p1)]) hx hb dX11_mean_9 rfl hl (by decide) rfl (fun ls hl => ?_)
  refine lv_iload_n hx hb dX11_mean_10 rfl (lv_at hl 1 rfl) ?_
  refine lv_iconst (v := 0) hx hb dX11_mean_11 (by decide) ?_
  refine lv_iconst (v := 5) hx hb dX11_mean_12 (by decide) ?_
  refine kcm_i hA hAB hP hD hS [false, false, false, false, false] rfl (fun _ => rfl) (fun hPc hDc => va_runS (As := [.int x1, .int 0, .int 5]) (rest := []) ⟨hx, hb, hml, hown, hts⟩ (k_X11_within l D κ β s.heap.size x1 0 5) (va_cwS 3 hts gX11_mean_X11_within rfl rfl rfl (by decide +kernel) ⟨Nat.le_of_ble_eq_true rfl, Nat.le_of_ble_eq_true rfl⟩) (pk_S hK hS hAB hPc hDc) rfl rfl hl.1 rfl (lv_room (Nat.le_of_ble_eq_true rfl)) dX11_mean_13 ⟨Nat.le_of_ble_eq_true rfl, Nat.le_of_ble_eq_true rfl⟩) (fun x7 u8 H locs hw hPD hS => ?_)
  have h9 : (x7.toInt = 1 ∧ (0 : Int32).toInt ≤ x1.toInt ∧ x1.toInt ≤ (5 : Int32).toInt) ∨ (x7.toInt = 0 ∧ (x1.toInt < (0 : Int32).toInt ∨ (5 : Int32).toInt < x1.toInt)) := hw
  obtain ⟨hP, hD⟩ : PD D A [O11 a11 a7 a5 a3 a2 a6 a4 a10 a9 a1 a0 a8 aN, O2 a2 r2 v2_count v2_madeIn v2_bound, (cI κ (r2 0) 40 f2_houses), (cI κ (r2 1) 40 f2_inks), (cI κ (r2 2) 40 f2_stuffs)] H := hPD
  refine lv_if_eq (tgt := 29) hx hb dX11_mean_16 (by decide) (fun c10 => ?_) (fun c10 => ?_)
  · have c10 := ci_eq c10
    refine lv_iconst (v := (-1)) hx hb dX11_mean_29 (by decide) ?_
    exact ret _ _ _ _ (-1) () dX11_mean_30 trivial hP hD hS
  have c10 := ci_ne c10
  refine lv_iload_n hx hb dX11_mean_19 rfl (lv_at hl 0 rfl) ?_
  refine lv_iconst (v := 0) hx hb dX11_mean_20 (by decide) ?_
  refine lv_bipush (v := 7) hx hb dX11_mean_21 (by decide) ?_
  refine kcm_i hA hAB hP hD hS [false, false, false, false, false] rfl (fun _ => rfl) (fun hPc hDc => va_runS (As := [.int x4, .int 0, .int 7]) (rest := []) ⟨hx, hb, hml, hown, hts⟩ (k_X11_within l D κ β H.size x4 0 7) (va_cwS 3 hts gX11_mean_X11_within rfl rfl rfl (by decide +kernel) ⟨Nat.le_of_ble_eq_true rfl, Nat.le_of_ble_eq_true rfl⟩) (pk_S hK hS hAB hPc hDc) rfl rfl hl.1 rfl (lv_room (Nat.le_of_ble_eq_true rfl)) dX11_mean_23 ⟨Nat.le_of_ble_eq_true rfl, Nat.le_of_ble_eq_true rfl⟩) (fun x11 u12 H locs hw hPD hS => ?_)
  have h13 : (x11.toInt = 1 ∧ (0 : Int32).toInt ≤ x4.toInt ∧ x4.toInt ≤ (7 : Int32).toInt) ∨ (x11.toInt = 0 ∧ (x4.toInt < (0 : Int32).toInt ∨ (7 : Int32).toInt < x4.toInt)) := hw
  obtain ⟨hP, hD⟩ : PD D A [O11 a11 a7 a5 a3 a2 a6 a4 a10 a9 a1 a0 a8 aN, O2 a2 r2 v2_count v2_madeIn v2_bound, (cI κ (r2 0) 40 f2_houses), (cI κ (r2 1) 40 f2_inks), (cI κ (r2 2) 40 f2_stuffs)] H := hPD
  refine lv_if_ne (tgt := 31) hx hb dX11_mean_26 (by decide) (fun c14 => ?_) (fun c14 => ?_)
  · have c14 := ci_ne c14
    refine lv_aload_n hx hb dX11_mean_31 rfl (lv_at hl 2 rfl) ?_
    refine va_get (D := D) (ci := 11) (v := .ref a2) (C := RX11) (T := TX11) (N := 12) hx hb hts w1 hown hK.1 hP 0 rfl rfl 3 (by decide) w0 (fun _ h9 => h9) rfl dX11_mean_32 ?_
    refine lv_iload_n hx hb dX11_mean_35 rfl (lv_at hl 1 rfl) ?_
    refine lv_iconst (v := 5) hx hb dX11_mean_36 (by decide) ?_
    refine lv_icmp_ne (tgt := 45) hx hb dX11_mean_37 (by decide) (fun c15 => ?_) (fun c15 => ?_)
    · have c15 := ci_ne c15
      refine lv_iconst (v := 1) hx hb dX11_mean_45 (by decide) ?_
      refine lv_iload_n hx hb dX11_mean_46 rfl (lv_at hl 1 rfl) ?_
      refine lv_ishl hx hb dX11_mean_47 ?_
      refine lv_topi (fun x16 e17 => ?_)
      refine lv_iconst (v := 1) hx hb dX11_mean_48 (by decide) ?_
      refine lv_iload_n hx hb dX11_mean_49 rfl (lv_at hl 0 rfl) ?_
      refine lv_ishl hx hb dX11_mean_50 ?_
      refine lv_topi (fun x18 e19 => ?_)
      refine kcm_i hA hAB hP hD hS [false, true, true, true, true] rfl (fun _ => rfl) (fun hPc hDc => va_runV (As := [.int x16, .int x18]) (rest := []) ⟨hx, hb, hml, hown, hts⟩ (k_X2_meanOf l D κ β a2 r2 v2_count v2_madeIn v2_bound f2_houses f2_inks f2_stuffs H.size x16 x18 i1) (cwV 2 hts gX11_mean_X2_meanOf rfl rfl rfl (by decide +kernel) ⟨Nat.le_of_ble_eq_true rfl, Nat.le_of_ble_eq_true rfl⟩) (pk_V hK hS hAB hPc hDc 0 (ci := 2) rfl rfl rfl) rfl rfl hl.1 rfl (lv_room (Nat.le_of_ble_eq_true rfl)) dX11_mean_51 ⟨Nat.le_of_ble_eq_true rfl, Nat.le_of_ble_eq_true rfl⟩) (fun x20 u21 H locs hw hPD hS => ?_)
      obtain ⟨hP, hD⟩ : PD D A [O11 a11 a7 a5 a3 a2 a6 a4 a10 a9 a1 a0 a8 aN, O2 a2 r2 v2_count v2_madeIn v2_bound, (cI κ (r2 0) 40 f2_houses), (cI κ (r2 1) 40 f2_inks), (cI κ (r2 2) 40 f2_stuffs)] H := hPD
      exact ret _ _ _ _ x20 () dX11_mean_54 trivial hP hD hS
    have c15 := ci_eq c15
    refine lv_bipush (v := 31) hx hb dX11_mean_40 (by decide) ?_
    refine lv_goto (tgt := 48) hx hb dX11_mean_42 (by decide) ?_
    refine lv_iconst (v := 1) hx hb dX11_mean_48 (by decide) ?_
    refine lv_iload_n hx hb dX11_mean_49 rfl (lv_at hl 0 rfl) ?_
    refine lv_ishl hx hb dX11_mean_50 ?_
    refine lv_topi (fun x22 e23 => ?_)
    refine kcm_i hA hAB hP hD hS [false, true, true, true, true] rfl (fun _ => rfl) (fun hPc hDc => va_runV (As := [.int 31, .int x22]) (rest := []) ⟨hx, hb, hml, hown, hts⟩ (k_X2_meanOf l D κ β a2 r2 v2_count v2_madeIn v2_bound f2_houses f2_inks f2_stuffs H.size 31 x22 i1) (cwV 2 hts gX11_mean_X2_meanOf rfl rfl rfl (by decide +kernel) ⟨Nat.le_of_ble_eq_true rfl, Nat.le_of_ble_eq_true rfl⟩) (pk_V hK hS hAB hPc hDc 0 (ci := 2) rfl rfl rfl) rfl rfl hl.1 rfl (lv_room (Nat.le_of_ble_eq_true rfl)) dX11_mean_51 ⟨Nat.le_of_ble_eq_true rfl, Nat.le_of_ble_eq_true rfl⟩) (fun x24 u25 H locs hw hPD hS => ?_)
    obtain ⟨hP, hD⟩ : PD D A [O11 a11 a7 a5 a3 a2 a6 a4 a10 a9 a1 a0 a8 aN, O2 a2 r2 v2_count v2_madeIn v2_bound, (cI κ (r2 0) 40 f2_houses), (cI κ (r2 1) 40 f2_inks), (cI κ (r2 2) 40 f2_stuffs)] H := hPD
    exact ret _ _ _ _ x24 () dX11_mean_54 trivial hP hD hS
  have c14 := ci_eq c14
  refine lv_iconst (v := (-1)) hx hb dX11_mean_29 (by decide) ?_
  exact ret _ _ _ _ (-1) () dX11_mean_30 trivial hP hD hS
set_option maxHeartbeats 4000000 in
set_option maxRecDepth 100000 in
theorem k_X11_odd (l : Launch) (D : va_G) (κ : Nat → ClassId) (β : Nat) (a11 : Nat) (a7 : Nat) (a5 : Nat) (a3 : Nat) (a2 : Nat) (a6 : Nat) (a4 : Nat) (a10 : Nat) (a9 : Nat) (a1 : Nat) (a0 : Nat) (a8 : Nat) (aN : Nat) (r2 : Nat → Nat) (v2_count : Int32) (v2_madeIn : Int32) (v2_bound : Int32) (f2_inks : Nat → Int32) (f2_stuffs : Nat → Int32) (sz : Nat) (p1 : Int32) (i1 : Rg 0 40 v2_count) : Met l yX11_odd wsX11_odd ({ frames := 2, cells := 0, slots := 0, locals := 45 } : Room) (PcK D κ β [O11 a11 a7 a5 a3 a2 a6 a4 a10 a9 a1 a0 a8 aN, O2 a2 r2 v2_count v2_madeIn v2_bound, (cI κ (r2 1) 40 f2_inks), (cI κ (r2 2) 40 f2_stuffs)] sz [.ref a11, .int p1]) (QiK D (fun (r : Int32) (u : Unit) => True) (fun (u : Unit) => [O11 a11 a7 a5 a3 a2 a6 a4 a10 a9 a1 a0 a8 aN, O2 a2 r2 v2_count v2_madeIn v2_bound, (cI κ (r2 1) 40 f2_inks), (cI κ (r2 2) 40 f2_stuffs)]) [O11 a11 a7 a5 a3 a2 a6 a4 a10 a9 a1 a0 a8 aN, O2 a2 r2 v2_count v2_madeIn v2_bound, (cI κ (r2 1) 40 f2_inks), (cI κ (r2 2) 40 f2_stuffs)] sz) 0 0 (va_A [O11 a11 a7 a5 a3 a2 a6 a4 a10 a9 a1 a0 a8 aN, O2 a2 r2 v2_count v2_madeIn v2_bound, (cI κ (r2 1) 40 f2_inks), (cI κ (r2 2) 40 f2_stuffs)] sz) := by
  refine ofK_i (cc := cX11_odd) (maxL := 2) (own := RX11) (by decide) rfl rfl (Nat.le_of_ble_eq_true rfl) ?_
  intro p e s m args below meth c Q A ls hsz hx hb hml hts hown hK hA hAB hP hD hl ret
  have hS : va_S A s.heap s.heap [] := va_S.rf
  have hl : lv_has ls 2 [(0, .ref a11), (1, .int p1)] := hl
  have w0 := hts (.fieldLink RX11 33 "OlderSkin" "dots" "LOlderSkin$Dots;") (List.mem_of_getElem? (i := 1) rfl)
  have w1 := (fun w h => List.mem_cons_of_mem _ (List.mem_append_left _ (List.mem_append_right _ h)) : ∀ w ∈ u_ws RX11 TX11 12, w ∈ wsX11_odd)
  have l0 : (0 : Int32).toInt = 0 := by decide
  have l1 : (6 : Int32).toInt = 6 := by decide
  have l2 : ((-1) : Int32).toInt = -1 := by decide
  refine lv_iload_n hx hb dX11_odd_0 rfl (lv_at hl 1 rfl) ?_
  refine lv_iconst (v := 0) hx hb dX11_odd_1 (by decide) ?_
  refine lv_bipush (v := 6) hx hb dX11_odd_2 (by decide) ?_
  refine kcm_i hA hAB hP hD hS [false, false, false, false] rfl (fun _ => rfl) (fun hPc hDc => va_runS (As := [.int p1, .int 0, .int 6]) (rest := []) ⟨hx, hb, hml, hown, hts⟩ (k_X11_within l D κ β s.heap.size p1 0 6) (va_cwS 3 hts gX11_odd_X11_within rfl rfl rfl (by decide +kernel) ⟨Nat.le_of_ble_eq_true rfl, Nat.le_of_ble_eq_true rfl⟩) (pk_S hK hS hAB hPc hDc) rfl rfl hl.1 rfl (lv_room (Nat.le_of_ble_eq_true rfl)) dX11_odd_4 ⟨Nat.le_of_ble_eq_true rfl, Nat.le_of_ble_eq_true rfl⟩) (fun x1 u2 H locs hw hPD hS => ?_)
  have h3 : (x1.toInt = 1 ∧ (0 : Int32).toInt ≤ p1.toInt ∧ p1.toInt ≤ (6 : Int32).toInt) ∨ (x1.toInt = 0 ∧ (p1.toInt < (0 : Int32).toInt ∨ (6 : Int32).toInt < p1.toInt)) := hw
  obtain ⟨hP, hD⟩ : PD D A [O11 a11 a7 a5 a3 a2 a6 a4 a10 a9 a1 a0 a8 aN, O2 a2 r2 v2_count v2_madeIn v2_bound, (cI κ (r2 1) 40 f2_inks), (cI κ (r2 2) 40 f2_stuffs)] H := hPD
  refine lv_if_ne (tgt := 12) hx hb dX11_odd_7 (by decide) (fun c4 => ?_) (fun c4 => ?_)
  · have c4 := ci_ne c4
    refine lv_aload_n hx hb dX11_odd_12 rfl (lv_at hl 0 rfl) ?_
    refine va_get (D := D) (ci := 11) (v := .ref a2) (C := RX11) (T := TX11) (N := 12) hx hb hts w1 hown hK.1 hP 0 rfl rfl 3 (by decide) w0 (fun _ h9 => h9) rfl dX11_odd_13 ?_
    refine lv_iload_n hx hb dX11_odd_16 rfl (lv_at hl 1 rfl) ?_
    refine kcm_i hA hAB hP hD hS [false, true, true, true] rfl (fun _ => rfl) (fun hPc hDc => va_runV (As := [.int p1]) (rest := []) ⟨hx, hb, hml, hown, hts⟩ (k_X2_oddOnes l D κ β a2 r2 v2_count v2_madeIn v2_bound f2_inks f2_stuffs H.size p1 i1) (cwV 1 hts gX11_odd_X2_oddOnes rfl rfl rfl (by decide +kernel) ⟨Nat.le_of_ble_eq_true rfl, Nat.le_of_ble_eq_true rfl⟩) (pk_V hK hS hAB hPc hDc 0 (ci := 2) rfl rfl rfl) rfl rfl hl.1 rfl (lv_room (Nat.le_of_ble_eq_true rfl)) dX11_odd_17 ⟨Nat.le_of_ble_eq_true rfl, Nat.le_of_ble_eq_true rfl⟩) (fun x5 u6 H locs hw hPD hS => ?_)
    obtain ⟨hP, hD⟩ : PD D A [O11 a11 a7 a5 a3 a2 a6 a4 a10 a9 a1 a0 a8 aN, O2 a2 r2 v2_count v2_madeIn v2_bound, (cI κ (r2 1) 40 f2_inks), (cI κ (r2 2) 40 f2_stuffs)] H := hPD
    exact ret _ _ _ _ x5 () dX11_odd_20 trivial hP hD hS
  have c4 := ci_eq c4
  refine lv_iconst (v := (-1)) hx hb dX11_odd_10 (by decide) ?_
  exact ret _ _ _ _ (-1) () dX11_odd_11 trivial hP hD hS
set_option maxHeartbeats 4000000 in
set_option maxRecDepth 100000 in
theorem k_X11_chance (l : Launch) (D : va_G) (κ : Nat → ClassId) (β : Nat) (a11 : Nat) (a7 : Nat) (a5 : Nat) (a3 : Nat) (a2 : Nat) (a6 : Nat) (a4 : Nat) (a10 : Nat) (a9 : Nat) (a1 : Nat) (a0 : Nat) (a8 : Nat) (aN : Nat) (r2 : Nat → Nat) (v2_count : Int32) (v2_madeIn : Int32) (v2_bound : Int32) (f2_inks : Nat → Int32) (f2_stuffs : Nat → Int32) (f2_shuffled : Nat → Int32) (f2_inksOfShuffled : Nat → Int32) (sz : Nat) (p1 : Int32) (p2 : Int32) (p3 : Int32) (i1 : Rg 0 40 v2_count) : Met l yX11_chance wsX11_chance ({ frames := 3, cells := 0, slots := 0, locals := 74 } : Room) (PcK D κ β [O11 a11 a7 a5 a3 a2 a6 a4 a10 a9 a1 a0 a8 aN, O2 a2 r2 v2_count v2_madeIn v2_bound, (cI κ (r2 1) 40 f2_inks), (cI κ (r2 2) 40 f2_stuffs), (cI κ (r2 6) 40 f2_shuffled), (cI κ (r2 7) 40 f2_inksOfShuffled)] sz [.ref a11, .int p1, .int p2, .int p3]) (QiK D (fun (r : Int32) (u : (Nat → Int32) × (Nat → Int32)) => True) (fun (u : (Nat → Int32) × (Nat → Int32)) => [O11 a11 a7 a5 a3 a2 a6 a4 a10 a9 a1 a0 a8 aN, O2 a2 r2 v2_count v2_madeIn v2_bound, (cI κ (r2 1) 40 f2_inks), (cI κ (r2 2) 40 f2_stuffs), (cI κ (r2 6) 40 u.1), (cI κ (r2 7) 40 u.2)]) [O11 a11 a7 a5 a3 a2 a6 a4 a10 a9 a1 a0 a8 aN, O2 a2 r2 v2_count v2_madeIn v2_bound, (cI κ (r2 1) 40 f2_inks), (cI κ (r2 2) 40 f2_stuffs), (cI κ (r2 6) 40 f2_shuffled), (cI κ (r2 7) 40 f2_inksOfShuffled)] sz) 0 0 (va_A [O11 a11 a7 a5 a3 a2 a6 a4 a10 a9 a1 a0 a8 aN, O2 a2 r2 v2_count v2_madeIn v2_bound, (cI κ (r2 1) 40 f2_inks), (cI κ (r2 2) 40 f2_stuffs), (cI κ (r2 6) 40 f2_shuffled), (cI κ (r2 7) 40 f2_inksOfShuffled)] sz) := by
  refine ofK_i (cc := cX11_chance) (maxL := 4) (own := RX11) (by decide) rfl rfl (Nat.le_of_ble_eq_true rfl) ?_
  intro p e s m args below meth c Q A ls hsz hx hb hml hts hown hK hA hAB hP hD hl ret
  have hS : va_S A s.heap s.heap [] := va_S.rf
  have hl : lv_has ls 4 [(0, .ref a11), (1, .int p1), (2, .int p2), (3, .int p3)] := hl
  have w0 := hts (.fieldLink RX11 33 "OlderSkin" "dots" "LOlderSkin$Dots;") (List.mem_of_getElem? (i := 1) rfl)
  have w1 := (fun w h => List.mem_cons_of_mem _ (List.mem_append_left _ (List.mem_append_right _ h)) : ∀ w ∈ u_ws RX11 TX11 12, w ∈ wsX11_chance)
  have l0 : (0 : Int32).toInt = 0 := by decide
  have l1 : (6 : Int32).toInt = 6 := by decide
  have l2 : ((-1) : Int32).toInt = -1 := by decide
  have l3 : (1 : Int32).toInt = 1 := by decide
  have l4 : (50 : Int32).toInt = 50 := by decide
  have l5 : ((-2) : Int32).toInt = -2 := by decide
  have l6 : (7 : Int32).toInt = 7 := by decide
  refine lv_iload_n hx hb dX11_chance_0 rfl (lv_at hl 1 rfl) ?_
  refine lv_iconst (v := 0) hx hb dX11_chance_1 (by decide) ?_
  refine lv_bipush (v := 6) hx hb dX11_chance_2 (by decide) ?_
  refine kcm_i hA hAB hP hD hS [false, false, false, false, false, false] rfl (fun _ => rfl) (fun hPc hDc => va_runS (As := [.int p1, .int 0, .int 6]) (rest := []) ⟨hx, hb, hml, hown, hts⟩ (k_X11_within l D κ β s.heap.size p1 0 6) (va_cwS 3 hts gX11_chance_X11_within rfl rfl rfl (by decide +kernel) ⟨Nat.le_of_ble_eq_true rfl, Nat.le_of_ble_eq_true rfl⟩) (pk_S hK hS hAB hPc hDc) rfl rfl hl.1 rfl (lv_room (Nat.le_of_ble_eq_true rfl)) dX11_chance_4 ⟨Nat.le_of_ble_eq_true rfl, Nat.le_of_ble_eq_true rfl⟩) (fun x1 u2 H locs hw hPD hS => ?_)
  have h3 : (x1.toInt = 1 ∧ (0 : Int32).toInt ≤ p1.toInt ∧ p1.toInt ≤ (6 : Int32).toInt) ∨ (x1.toInt = 0 ∧ (p1.toInt < (0 : Int32).toInt ∨ (6 : Int32).toInt < p1.toInt)) := hw
  obtain ⟨hP, hD⟩ : PD D A [O11 a11 a7 a5 a3 a2 a6 a4 a10 a9 a1 a0 a8 aN, O2 a2 r2 v2_count v2_madeIn v2_bound, (cI κ (r2 1) 40 f2_inks), (cI κ (r2 2) 40 f2_stuffs), (cI κ (r2 6) 40 f2_shuffled), (cI κ (r2 7) 40 f2_inksOfShuffled)] H := hPD
  refine lv_if_eq (tgt := 20) hx hb dX11_chance_7 (by decide) (fun c4 => ?_) (fun c4 => ?_)
  · have c4 := ci_eq c4
    refine lv_iconst (v := (-1)) hx hb dX11_chance_20 (by decide) ?_
    exact ret _ _ _ _ (-1) (f2_shuffled, f2_inksOfShuffled) dX11_chance_21 trivial hP hD hS
  have c4 := ci_ne c4
  refine lv_iload_n hx hb dX11_chance_10 rfl (lv_at hl 3 rfl) ?_
  refine lv_iconst (v := 1) hx hb dX11_chance_11 (by decide) ?_
  refine lv_bipush (v := 50) hx hb dX11_chance_12 (by decide) ?_
  refine kcm_i hA hAB hP hD hS [false, false, false, false, false, false] rfl (fun _ => rfl) (fun hPc hDc => va_runS (As := [.int p3, .int 1, .int 50]) (rest := []) ⟨hx, hb, hml, hown, hts⟩ (k_X11_within l D κ β H.size p3 1 50) (va_cwS 3 hts gX11_chance_X11_within rfl rfl rfl (by decide +kernel) ⟨Nat.le_of_ble_eq_true rfl, Nat.le_of_ble_eq_true rfl⟩) (pk_S hK hS hAB hPc hDc) rfl rfl hl.1 rfl (lv_room (Nat.le_of_ble_eq_true rfl)) dX11_chance_14 ⟨Nat.le_of_ble_eq_true rfl, Nat.le_of_ble_eq_true rfl⟩) (fun x5 u6 H locs hw hPD hS => ?_)
  have h7 : (x5.toInt = 1 ∧ (1 : Int32).toInt ≤ p3.toInt ∧ p3.toInt ≤ (50 : Int32).toInt) ∨ (x5.toInt = 0 ∧ (p3.toInt < (1 : Int32).toInt ∨ (50 : Int32).toInt < p3.toInt)) := hw
  obtain ⟨hP, hD⟩ : PD D A [O11 a11 a7 a5 a3 a2 a6 a4 a10 a9 a1 a0 a8 aN, O2 a2 r2 v2_count v2_madeIn v2_bound, (cI κ (r2 1) 40 f2_inks), (cI κ (r2 2) 40 f2_stuffs), (cI κ (r2 6) 40 f2_shuffled), (cI κ (r2 7) 40 f2_inksOfShuffled)] H := hPD
  refine lv_if_ne (tgt := 22) hx hb dX11_chance_17 (by decide) (fun c8 => ?_) (fun c8 => ?_)
  · have c8 := ci_ne c8
    refine lv_aload_n hx hb dX11_chance_22 rfl (lv_at hl 0 rfl) ?_
    refine va_get (D := D) (ci := 11) (v := .ref a2) (C := RX11) (T := TX11) (N := 12) hx hb hts w1 hown hK.1 hP 0 rfl rfl 3 (by decide) w0 (fun _ h9 => h9) rfl dX11_chance_23 ?_
    refine lv_iload_n hx hb dX11_chance_26 rfl (lv_at hl 1 rfl) ?_
    refine kcm_i hA hAB hP hD hS [false, true, true, false, false, false] rfl (fun _ => rfl) (fun hPc hDc => va_runV (As := [.int p1]) (rest := []) ⟨hx, hb, hml, hown, hts⟩ (k_X2_howMany l D κ β a2 r2 v2_count v2_madeIn v2_bound f2_inks H.size p1 i1) (cwV 1 hts gX11_chance_X2_howMany rfl rfl rfl (by decide +kernel) ⟨Nat.le_of_ble_eq_true rfl, Nat.le_of_ble_eq_true rfl⟩) (pk_V hK hS hAB hPc hDc 0 (ci := 2) rfl rfl rfl) rfl rfl hl.1 rfl (lv_room (Nat.le_of_ble_eq_true rfl)) dX11_chance_27 ⟨Nat.le_of_ble_eq_true rfl, Nat.le_of_ble_eq_true rfl⟩) (fun x9 u10 H locs hw hPD hS => ?_)
    obtain ⟨hP, hD⟩ : PD D A [O11 a11 a7 a5 a3 a2 a6 a4 a10 a9 a1 a0 a8 aN, O2 a2 r2 v2_count v2_madeIn v2_bound, (cI κ (r2 1) 40 f2_inks), (cI κ (r2 2) 40 f2_stuffs), (cI κ (r2 6) 40 f2_shuffled), (cI κ (r2 7) 40 f2_inksOfShuffled)] H := hPD
    refine lv_if_eq (tgt := 45) hx hb dX11_chance_30 (by decide) (fun c11 => ?_) (fun c11 => ?_)
    · have c11 := ci_eq c11
      refine lv_bipush (v := (-2)) hx hb dX11_chance_45 (by decide) ?_
      exact ret _ _ _ _ (-2) (f2_shuffled, f2_inksOfShuffled) dX11_chance_47 trivial hP hD hS
    have c11 := ci_ne c11
    refine lv_aload_n hx hb dX11_chance_33 rfl (lv_at hl 0 rfl) ?_
    refine va_get (D := D) (ci := 11) (v := .ref a2) (C := RX11) (T := TX11) (N := 12) hx hb hts w1 hown hK.1 hP 0 rfl rfl 3 (by decide) w0 (fun _ h9 => h9) rfl dX11_chance_34 ?_
    refine lv_bipush (v := 7) hx hb dX11_chance_37 (by decide) ?_
    refine kcm_i hA hAB hP hD hS [false, true, true, false, false, false] rfl (fun _ => rfl) (fun hPc hDc => va_runV (As := [.int 7]) (rest := []) ⟨hx, hb, hml, hown, hts⟩ (k_X2_howMany l D κ β a2 r2 v2_count v2_madeIn v2_bound f2_inks H.size 7 i1) (cwV 1 hts gX11_chance_X2_howMany rfl rfl rfl (by decide +kernel) ⟨Nat.le_of_ble_eq_true rfl, Nat.le_of_ble_eq_true rfl⟩) (pk_V hK hS hAB hPc hDc 0 (ci := 2) rfl rfl rfl) rfl rfl hl.1 rfl (lv_room (Nat.le_of_ble_eq_true rfl)) dX11_chance_39 ⟨Nat.le_of_ble_eq_true rfl, Nat.le_of_ble_eq_true rfl⟩) (fun x12 u13 H locs hw hPD hS => ?_)
    obtain ⟨hP, hD⟩ : PD D A [O11 a11 a7 a5 a3 a2 a6 a4 a10 a9 a1 a0 a8 aN, O2 a2 r2 v2_count v2_madeIn v2_bound, (cI κ (r2 1) 40 f2_inks), (cI κ (r2 2) 40 f2_stuffs), (cI κ (r2 6) 40 f2_shuffled), (cI κ (r2 7) 40 f2_inksOfShuffled)] H := hPD
    refine lv_if_ne (tgt := 48) hx hb dX11_chance_42 (by decide) (fun c14 => ?_) (fun c14 => ?_)
    · have c14 := ci_ne c14
      refine lv_aload_n hx hb dX11_chance_48 rfl (lv_at hl 0 rfl) ?_
      refine va_get (D := D) (ci := 11) (v := .ref a2) (C := RX11) (T := TX11) (N := 12) hx hb hts w1 hown hK.1 hP 0 rfl rfl 3 (by decide) w0 (fun _ h9 => h9) rfl dX11_chance_49 ?_
      refine lv_iload_n hx hb dX11_chance_52 rfl (lv_at hl 1 rfl) ?_
      refine lv_iload_n hx hb dX11_chance_53 rfl (lv_at hl 2 rfl) ?_
      refine lv_iload_n hx hb dX11_chance_54 rfl (lv_at hl 3 rfl) ?_
      refine kcm_i hA hAB hP hD hS [false, true, true, true, true, true] rfl (fun _ => rfl) (fun hPc hDc => va_runV (As := [.int p1, .int p2, .int p3]) (rest := []) ⟨hx, hb, hml, hown, hts⟩ (k_X2_byChance l D κ β a2 r2 v2_count v2_madeIn v2_bound f2_inks f2_stuffs f2_shuffled f2_inksOfShuffled H.size p1 p2 p3 i1) (cwV 3 hts gX11_chance_X2_byChance rfl rfl rfl (by decide +kernel) ⟨Nat.le_of_ble_eq_true rfl, Nat.le_of_ble_eq_true rfl⟩) (pk_V hK hS hAB hPc hDc 0 (ci := 2) rfl rfl rfl) rfl rfl hl.1 rfl (lv_room (Nat.le_of_ble_eq_true rfl)) dX11_chance_55 ⟨Nat.le_of_ble_eq_true rfl, Nat.le_of_ble_eq_true rfl⟩) (fun x17 u18 H locs hw hPD hS => ?_)
      obtain ⟨g15, g16⟩ := u18
      obtain ⟨hP, hD⟩ : PD D A [O11 a11 a7 a5 a3 a2 a6 a4 a10 a9 a1 a0 a8 aN, O2 a2 r2 v2_count v2_madeIn v2_bound, (cI κ (r2 1) 40 f2_inks), (cI κ (r2 2) 40 f2_stuffs), (cI κ (r2 6) 40 g15), (cI κ (r2 7) 40 g16)] H := hPD
      exact ret _ _ _ _ x17 (g15, g16) dX11_chance_58 trivial hP hD hS
    have c14 := ci_eq c14
    refine lv_bipush (v := (-2)) hx hb dX11_chance_45 (by decide) ?_
    exact ret _ _ _ _ (-2) (f2_shuffled, f2_inksOfShuffled) dX11_chance_47 trivial hP hD hS
  have c8 := ci_eq c8
  refine lv_iconst (v := (-1)) hx hb dX11_chance_20 (by decide) ?_
  exact ret _ _ _ _ (-1) (f2_shuffled, f2_inksOfShuffled) dX11_chance_21 trivial hP hD hS
set_option maxHeartbeats 4000000 in
set_option maxRecDepth 100000 in
theorem k_X11_chosen (l : Launch) (D : va_G) (κ : Nat → ClassId) (β : Nat) (a11 : Nat) (a7 : Nat) (a5 : Nat) (a3 : Nat) (a2 : Nat) (a6 : Nat) (a4 : Nat) (a10 : Nat) (a9 : Nat) (a1 : Nat) (a0 : Nat) (a8 : Nat) (aN : Nat) (r2 : Nat → Nat) (v2_count : Int32) (v2_madeIn : Int32) (v2_bound : Int32) (f2_houses : Nat → Int32) (f2_inks : Nat → Int32) (f2_stuffs : Nat → Int32) (sz : Nat) (p1 : Int32) (i1 : Rg 0 40 v2_count) : Met l yX11_chosen wsX11_chosen ({ frames := 2, cells := 0, slots := 0, locals := 46 } : Room) (PcK D κ β [O11 a11 a7 a5 a3 a2 a6 a4 a10 a9 a1 a0 a8 aN, O2 a2 r2 v2_count v2_madeIn v2_bound, (cI κ (r2 0) 40 f2_houses), (cI κ (r2 1) 40 f2_inks), (cI κ (r2 2) 40 f2_stuffs)] sz [.ref a11, .int p1]) (QiK D (fun (r : Int32) (u : Unit) => True) (fun (u : Unit) => [O11 a11 a7 a5 a3 a2 a6 a4 a10 a9 a1 a0 a8 aN, O2 a2 r2 v2_count v2_madeIn v2_bound, (cI κ (r2 0) 40 f2_houses), (cI κ (r2 1) 40 f2_inks), (cI κ (r2 2) 40 f2_stuffs)]) [O11 a11 a7 a5 a3 a2 a6 a4 a10 a9 a1 a0 a8 aN, O2 a2 r2 v2_count v2_madeIn v2_bound, (cI κ (r2 0) 40 f2_houses), (cI κ (r2 1) 40 f2_inks), (cI κ (r2 2) 40 f2_stuffs)] sz) 0 0 (va_A [O11 a11 a7 a5 a3 a2 a6 a4 a10 a9 a1 a0 a8 aN, O2 a2 r2 v2_count v2_madeIn v2_bound, (cI κ (r2 0) 40 f2_houses), (cI κ (r2 1) 40 f2_inks), (cI κ (r2 2) 40 f2_stuffs)] sz) := by
  refine ofK_i (cc := cX11_chosen) (maxL := 4) (own := RX11) (by decide) rfl rfl (Nat.le_of_ble_eq_true rfl) ?_
  intro p e s m args below meth c Q A ls hsz hx hb hml hts hown hK hA hAB hP hD hl ret
  have hS : va_S A s.heap s.heap [] := va_S.rf
  have hl : lv_has ls 4 [(0, .ref a11), (1, .int p1)] := hl
  have w0 := hts (.fieldLink RX11 33 "OlderSkin" "dots" "LOlderSkin$Dots;") (List.mem_of_getElem? (i := 2) rfl)
  have w1 := (fun w h => List.mem_cons_of_mem _ (List.mem_append_left _ (List.mem_append_right _ h)) : ∀ w ∈ u_ws RX11 TX11 12, w ∈ wsX11_chosen)
  have w2 := hts (.constant RX11 255 (-2000000000)) (List.mem_of_getElem? (i := 1) rfl)
  have l0 : (0 : Int32).toInt = 0 := by decide
  have l1 : (4 : Int32).toInt = 4 := by decide
  have l2 : (1 : Int32).toInt = 1 := by decide
  have l3 : (63 : Int32).toInt = 63 := by decide
  have l4 : (31 : Int32).toInt = 31 := by decide
  have l5 : ((-1) : Int32).toInt = -1 := by decide
  have l6 : ((-2) : Int32).toInt = -2 := by decide
  have l7 : ((-2000000000) : Int32).toInt = -2000000000 := by decide
  refine lv_iload_n hx hb dX11_chosen_0 rfl (lv_at hl 1 rfl) ?_
  refine lv_iconst (v := 0) hx hb dX11_chosen_1 (by decide) ?_
  refine lv_iconst (v := 4) hx hb dX11_chosen_2 (by decide) ?_
  refine kcm_i hA hAB hP hD hS [false, false, false, false, false] rfl (fun _ => rfl) (fun hPc hDc => va_runS (As := [.int p1, .int 0, .int 4]) (rest := []) ⟨hx, hb, hml, hown, hts⟩ (k_X11_within l D κ β s.heap.size p1 0 4) (va_cwS 3 hts gX11_chosen_X11_within rfl rfl rfl (by decide +kernel) ⟨Nat.le_of_ble_eq_true rfl, Nat.le_of_ble_eq_true rfl⟩) (pk_S hK hS hAB hPc hDc) rfl rfl hl.1 rfl (lv_room (Nat.le_of_ble_eq_true rfl)) dX11_chosen_3 ⟨Nat.le_of_ble_eq_true rfl, Nat.le_of_ble_eq_true rfl⟩) (fun x1 u2 H locs hw hPD hS => ?_)
  have h3 : (x1.toInt = 1 ∧ (0 : Int32).toInt ≤ p1.toInt ∧ p1.toInt ≤ (4 : Int32).toInt) ∨ (x1.toInt = 0 ∧ (p1.toInt < (0 : Int32).toInt ∨ (4 : Int32).toInt < p1.toInt)) := hw
  obtain ⟨hP, hD⟩ : PD D A [O11 a11 a7 a5 a3 a2 a6 a4 a10 a9 a1 a0 a8 aN, O2 a2 r2 v2_count v2_madeIn v2_bound, (cI κ (r2 0) 40 f2_houses), (cI κ (r2 1) 40 f2_inks), (cI κ (r2 2) 40 f2_stuffs)] H := hPD
  refine lv_if_ne (tgt := 12) hx hb dX11_chosen_6 (by decide) (fun c4 => ?_) (fun c4 => ?_)
  · have c4 := ci_ne c4
    refine lv_aload_n hx hb dX11_chosen_12 rfl (lv_at hl 0 rfl) ?_
    refine va_get (D := D) (ci := 11) (v := .ref a2) (C := RX11) (T := TX11) (N := 12) hx hb hts w1 hown hK.1 hP 0 rfl rfl 3 (by decide) w0 (fun _ h9 => h9) rfl dX11_chosen_13 ?_
    refine lv_iconst (v := 1) hx hb dX11_chosen_16 (by decide) ?_
    refine lv_iload_n hx hb dX11_chosen_17 rfl (lv_at hl 1 rfl) ?_
    refine lv_ishl hx hb dX11_chosen_18 ?_
    refine lv_topi (fun x5 e6 => ?_)
    refine lv_bipush (v := 63) hx hb dX11_chosen_19 (by decide) ?_
    refine kcm_i hA hAB hP hD hS [false, true, true, true, true] rfl (fun _ => rfl) (fun hPc hDc => va_runV (As := [.int x5, .int 63]) (rest := []) ⟨hx, hb, hml, hown, hts⟩ (k_X2_meanOf l D κ β a2 r2 v2_count v2_madeIn v2_bound f2_houses f2_inks f2_stuffs H.size x5 63 i1) (cwV 2 hts gX11_chosen_X2_meanOf rfl rfl rfl (by decide +kernel) ⟨Nat.le_of_ble_eq_true rfl, Nat.le_of_ble_eq_true rfl⟩) (pk_V hK hS hAB hPc hDc 0 (ci := 2) rfl rfl rfl) rfl rfl hl.1 rfl (lv_room (Nat.le_of_ble_eq_true rfl)) dX11_chosen_21 ⟨Nat.le_of_ble_eq_true rfl, Nat.le_of_ble_eq_true rfl⟩) (fun x7 u8 H locs hw hPD hS => ?_)
    obtain ⟨hP, hD⟩ : PD D A [O11 a11 a7 a5 a3 a2 a6 a4 a10 a9 a1 a0 a8 aN, O2 a2 r2 v2_count v2_madeIn v2_bound, (cI κ (r2 0) 40 f2_houses), (cI κ (r2 1) 40 f2_inks), (cI κ (r2 2) 40 f2_stuffs)] H := hPD
    refine lv_istore_n (lv' := [(2, .int x7), (0, .ref a11), (1, .int p1)]) hx hb dX11_chosen_24 rfl hl (by decide) rfl (fun ls hl => ?_)
    refine lv_aload_n hx hb dX11_chosen_25 rfl (lv_at hl 1 rfl) ?_
    refine va_get (D := D) (ci := 11) (v := .ref a2) (C := RX11) (T := TX11) (N := 12) hx hb hts w1 hown hK.1 hP 0 rfl rfl 3 (by decide) w0 (fun _ h9 => h9) rfl dX11_chosen_26 ?_
    refine lv_bipush (v := 31) hx hb dX11_chosen_29 (by decide) ?_
    refine lv_iconst (v := 1) hx hb dX11_chosen_31 (by decide) ?_
    refine lv_iload_n hx hb dX11_chosen_32 rfl (lv_at hl 2 rfl) ?_
    refine lv_ishl hx hb dX11_chosen_33 ?_
    refine lv_topi (fun x9 e10 => ?_)
    refine lv_iconst (v := (-1)) hx hb dX11_chosen_34 (by decide) ?_
    refine lv_ixor hx hb dX11_chosen_35 ?_
    refine lv_topi (fun x11 e12 => ?_)
    refine lv_iand hx hb dX11_chosen_36 ?_
    refine lv_topi (fun x13 e14 => ?_)
    refine lv_bipush (v := 63) hx hb dX11_chosen_37 (by decide) ?_
    refine kcm_i hA hAB hP hD hS [false, true, true, true, true] rfl (fun _ => rfl) (fun hPc hDc => va_runV (As := [.int x13, .int 63]) (rest := []) ⟨hx, hb, hml, hown, hts⟩ (k_X2_meanOf l D κ β a2 r2 v2_count v2_madeIn v2_bound f2_houses f2_inks f2_stuffs H.size x13 63 i1) (cwV 2 hts gX11_chosen_X2_meanOf rfl rfl rfl (by decide +kernel) ⟨Nat.le_of_ble_eq_true rfl, Nat.le_of_ble_eq_true rfl⟩) (pk_V hK hS hAB hPc hDc 0 (ci := 2) rfl rfl rfl) rfl rfl hl.1 rfl (lv_room (Nat.le_of_ble_eq_true rfl)) dX11_chosen_39 ⟨Nat.le_of_ble_eq_true rfl, Nat.le_of_ble_eq_true rfl⟩) (fun x15 u16 H locs hw hPD hS => ?_)
    obtain ⟨hP, hD⟩ : PD D A [O11 a11 a7 a5 a3 a2 a6 a4 a10 a9 a1 a0 a8 aN, O2 a2 r2 v2_count v2_madeIn v2_bound, (cI κ (r2 0) 40 f2_houses), (cI κ (r2 1) 40 f2_inks), (cI κ (r2 2) 40 f2_stuffs)] H := hPD
    refine lv_istore_n (lv' := [(3, .int x15), (2, .int x7), (0, .ref a11), (1, .int p1)]) hx hb dX11_chosen_42 rfl hl (by decide) rfl (fun ls hl => ?_)
    refine lv_iload_n hx hb dX11_chosen_43 rfl (lv_at hl 1 rfl) ?_
    refine lv_bipush (v := (-2)) hx hb dX11_chosen_44 (by decide) ?_
    refine lv_icmp_eq (tgt := 55) hx hb dX11_chosen_46 (by decide) (fun c17 => ?_) (fun c17 => ?_)
    · have c17 := ci_eq c17
      refine lv_ldc (v := (-2000000000)) hx hb hown w2 dX11_chosen_55 ?_
      refine lv_goto (tgt := 63) hx hb dX11_chosen_57 (by decide) ?_
      exact ret _ _ _ _ (-2000000000) () dX11_chosen_63 trivial hP hD hS
    have c17 := ci_ne c17
    refine lv_iload_n hx hb dX11_chosen_49 rfl (lv_at hl 0 rfl) ?_
    refine lv_bipush (v := (-2)) hx hb dX11_chosen_50 (by decide) ?_
    refine lv_icmp_ne (tgt := 60) hx hb dX11_chosen_52 (by decide) (fun c18 => ?_) (fun c18 => ?_)
    · have c18 := ci_ne c18
      refine lv_iload_n hx hb dX11_chosen_60 rfl (lv_at hl 1 rfl) ?_
      refine lv_iload_n hx hb dX11_chosen_61 rfl (lv_at hl 0 rfl) ?_
      refine lv_isub hx hb dX11_chosen_62 ?_
      refine lv_topi (fun x19 e20 => ?_)
      try have h21 : x19.toInt = x7.toInt - x15.toInt := ci_sub e20 (by omega) (by omega)
      exact ret _ _ _ _ x19 () dX11_chosen_63 trivial hP hD hS
    have c18 := ci_eq c18
    refine lv_ldc (v := (-2000000000)) hx hb hown w2 dX11_chosen_55 ?_
    refine lv_goto (tgt := 63) hx hb dX11_chosen_57 (by decide) ?_
    exact ret _ _ _ _ (-2000000000) () dX11_chosen_63 trivial hP hD hS
  have c4 := ci_eq c4
  refine lv_ldc (v := (-2000000000)) hx hb hown w2 dX11_chosen_9 ?_
  exact ret _ _ _ _ (-2000000000) () dX11_chosen_11 trivial hP hD hS
set_option maxHeartbeats 4000000 in
set_option maxRecDepth 100000 in
theorem k_X11_made (l : Launch) (D : va_G) (κ : Nat → ClassId) (β : Nat) (a11 : Nat) (a7 : Nat) (a5 : Nat) (a3 : Nat) (a2 : Nat) (a6 : Nat) (a4 : Nat) (a10 : Nat) (a9 : Nat) (a1 : Nat) (a0 : Nat) (a8 : Nat) (aN : Nat) (r2 : Nat → Nat) (v2_count : Int32) (v2_madeIn : Int32) (v2_bound : Int32) (sz : Nat) (p1 : Int32) (p2 : Int32) (i1 : Rg 0 40 v2_count) : Met l yX11_made wsX11_made ({ frames := 2, cells := 0, slots := 0, locals := 42 } : Room) (PcK D κ β [O11 a11 a7 a5 a3 a2 a6 a4 a10 a9 a1 a0 a8 aN, O2 a2 r2 v2_count v2_madeIn v2_bound] sz [.ref a11, .int p1, .int p2]) (QiK D (fun (r : Int32) (u : Int32 × Int32) => ((0 ≤ p1.toInt ∧ p1.toInt ≤ 2001 ∧ 0 ≤ p2.toInt ∧ p2.toInt ≤ 9999) ∧ r.toInt = v2_madeIn.toInt ∧ u.1.toInt = p1.toInt) ∨ (¬ (0 ≤ p1.toInt ∧ p1.toInt ≤ 2001 ∧ 0 ≤ p2.toInt ∧ p2.toInt ≤ 9999) ∧ r.toInt = -1 ∧ u.1.toInt = v2_madeIn.toInt)) (fun (u : Int32 × Int32) => [O11 a11 a7 a5 a3 a2 a6 a4 a10 a9 a1 a0 a8 aN, O2 a2 r2 v2_count u.1 u.2]) [O11 a11 a7 a5 a3 a2 a6 a4 a10 a9 a1 a0 a8 aN, O2 a2 r2 v2_count v2_madeIn v2_bound] sz) 0 0 (va_A [O11 a11 a7 a5 a3 a2 a6 a4 a10 a9 a1 a0 a8 aN, O2 a2 r2 v2_count v2_madeIn v2_bound] sz) := by
  refine ofK_i (cc := cX11_made) (maxL := 4) (own := RX11) (by decide) rfl rfl (Nat.le_of_ble_eq_true rfl) ?_
  intro p e s m args below meth c Q A ls hsz hx hb hml hts hown hK hA hAB hP hD hl ret
  have hS : va_S A s.heap s.heap [] := va_S.rf
  have hl : lv_has ls 4 [(0, .ref a11), (1, .int p1), (2, .int p2)] := hl
  have w0 := hts (.fieldLink RX11 33 "OlderSkin" "dots" "LOlderSkin$Dots;") (List.mem_of_getElem? (i := 1) rfl)
  have w1 := (fun w h => List.mem_cons_of_mem _ (List.mem_append_left _ (List.mem_append_right _ h)) : ∀ w ∈ u_ws RX11 TX11 12, w ∈ wsX11_made)
  have w2 := hts (.fieldLink RX11 256 "OlderSkin$Dots" "madeIn" "I") (List.mem_of_getElem? (i := 2) rfl)
  have w3 := (fun w h => List.mem_cons_of_mem _ (List.mem_append_right _ h) : ∀ w ∈ u_ws RX2 TX2 8, w ∈ wsX11_made)
  have w4 := hts (.fieldLink RX11 259 "OlderSkin$Dots" "bound" "I") (List.mem_of_getElem? (i := 3) rfl)
  have l0 : (0 : Int32).toInt = 0 := by decide
  have l1 : (2001 : Int32).toInt = 2001 := by decide
  have l2 : ((-1) : Int32).toInt = -1 := by decide
  refine lv_iload_n hx hb dX11_made_0 rfl (lv_at hl 1 rfl) ?_
  refine lv_iconst (v := 0) hx hb dX11_made_1 (by decide) ?_
  refine lv_sipush (v := 2001) hx hb dX11_made_2 (by decide) ?_
  refine kcm_i hA hAB hP hD hS [false, false] rfl (fun _ => rfl) (fun hPc hDc => va_runS (As := [.int p1, .int 0, .int 2001]) (rest := []) ⟨hx, hb, hml, hown, hts⟩ (k_X11_within l D κ β s.heap.size p1 0 2001) (va_cwS 3 hts gX11_made_X11_within rfl rfl rfl (by decide +kernel) ⟨Nat.le_of_ble_eq_true rfl, Nat.le_of_ble_eq_true rfl⟩) (pk_S hK hS hAB hPc hDc) rfl rfl hl.1 rfl (lv_room (Nat.le_of_ble_eq_true rfl)) dX11_made_5 ⟨Nat.le_of_ble_eq_true rfl, Nat.le_of_ble_eq_true rfl⟩) (fun x1 u2 H locs hw hPD hS => ?_)
  have h3 : (x1.toInt = 1 ∧ (0 : Int32).toInt ≤ p1.toInt ∧ p1.toInt ≤ (2001 : Int32).toInt) ∨ (x1.toInt = 0 ∧ (p1.toInt < (0 : Int32).toInt ∨ (2001 : Int32).toInt < p1.toInt)) := hw
  obtain ⟨hP, hD⟩ : PD D A [O11 a11 a7 a5 a3 a2 a6 a4 a10 a9 a1 a0 a8 aN, O2 a2 r2 v2_count v2_madeIn v2_bound] H := hPD
  refine lv_if_eq (tgt := 18) hx hb dX11_made_8 (by decide) (fun c4 => ?_) (fun c4 => ?_)
  · have c4 := ci_eq c4
    refine lv_iconst (v := (-1)) hx hb dX11_made_18 (by decide) ?_
    have hpo : ((0 ≤ p1.toInt ∧ p1.toInt ≤ 2001 ∧ 0 ≤ p2.toInt ∧ p2.toInt ≤ 9999) ∧ ((-1) : Int32).toInt = v2_madeIn.toInt ∧ v2_madeIn.toInt = p1.toInt) ∨ (¬ (0 ≤ p1.toInt ∧ p1.toInt ≤ 2001 ∧ 0 ≤ p2.toInt ∧ p2.toInt ≤ 9999) ∧ ((-1) : Int32).toInt = -1 ∧ v2_madeIn.toInt = v2_madeIn.toInt) := (by omega)
    exact ret _ _ _ _ (-1) (v2_madeIn, v2_bound) dX11_made_19 hpo hP hD hS
  have c4 := ci_ne c4
  refine lv_iload_n hx hb dX11_made_11 rfl (lv_at hl 2 rfl) ?_
  refine kcm_i hA hAB hP hD hS [false, false] rfl (fun _ => rfl) (fun hPc hDc => va_runS (As := [.int p2]) (rest := []) ⟨hx, hb, hml, hown, hts⟩ (k_X11_isStuff l D κ β H.size p2) (va_cwS 1 hts gX11_made_X11_isStuff rfl rfl rfl (by decide +kernel) ⟨Nat.le_of_ble_eq_true rfl, Nat.le_of_ble_eq_true rfl⟩) (pk_S hK hS hAB hPc hDc) rfl rfl hl.1 rfl (lv_room (Nat.le_of_ble_eq_true rfl)) dX11_made_12 ⟨Nat.le_of_ble_eq_true rfl, Nat.le_of_ble_eq_true rfl⟩) (fun x5 u6 H locs hw hPD hS => ?_)
  have h7 : (x5.toInt = 1 ∧ 0 ≤ p2.toInt ∧ p2.toInt ≤ 9999) ∨ (x5.toInt = 0 ∧ (p2.toInt < 0 ∨ 9999 < p2.toInt)) := hw
  obtain ⟨hP, hD⟩ : PD D A [O11 a11 a7 a5 a3 a2 a6 a4 a10 a9 a1 a0 a8 aN, O2 a2 r2 v2_count v2_madeIn v2_bound] H := hPD
  refine lv_if_ne (tgt := 20) hx hb dX11_made_15 (by decide) (fun c8 => ?_) (fun c8 => ?_)
  · have c8 := ci_ne c8
    refine lv_aload_n hx hb dX11_made_20 rfl (lv_at hl 0 rfl) ?_
    refine va_get (D := D) (ci := 11) (v := .ref a2) (C := RX11) (T := TX11) (N := 12) hx hb hts w1 hown hK.1 hP 0 rfl rfl 3 (by decide) w0 (fun _ h9 => h9) rfl dX11_made_21 ?_
    refine va_get (D := D) (ci := 2) (v := .int v2_madeIn) (C := RX2) (T := TX2) (N := 8) hx hb hts w3 hown hK.1 hP 1 rfl rfl 4 (by decide) w2 (fun _ h9 => h9) rfl dX11_made_24 ?_
    refine lv_istore_n (lv' := [(3, .int v2_madeIn), (0, .ref a11), (1, .int p1), (2, .int p2)]) hx hb dX11_made_27 rfl hl (by decide) rfl (fun ls hl => ?_)
    refine lv_aload_n hx hb dX11_made_28 rfl (lv_at hl 1 rfl) ?_
    refine va_get (D := D) (ci := 11) (v := .ref a2) (C := RX11) (T := TX11) (N := 12) hx hb hts w1 hown hK.1 hP 0 rfl rfl 3 (by decide) w0 (fun _ h9 => h9) rfl dX11_made_29 ?_
    refine lv_iload_n hx hb dX11_made_32 rfl (lv_at hl 2 rfl) ?_
    refine va_put (D := D) (ci := 2) (v := .int p1) (ty := .int) (C := RX2) (T := TX2) (N := 8) hx hb hts w3 tyX2 tyX2_ok nmX2 hown hK.1 hP hD hS 1 rfl rfl 4 (by decide) w2 (fun _ h9 => h9) rfl (by decide +kernel) rfl rfl (Nat.le_of_ble_eq_true rfl) dX11_made_33 (fun H locs hP hD hS => ?_)
    obtain ⟨hP, hD⟩ : PD D A [O11 a11 a7 a5 a3 a2 a6 a4 a10 a9 a1 a0 a8 aN, O2 a2 r2 v2_count p1 v2_bound] H := ⟨hP, hD⟩
    refine lv_aload_n hx hb dX11_made_36 rfl (lv_at hl 1 rfl) ?_
    refine va_get (D := D) (ci := 11) (v := .ref a2) (C := RX11) (T := TX11) (N := 12) hx hb hts w1 hown hK.1 hP 0 rfl rfl 3 (by decide) w0 (fun _ h9 => h9) rfl dX11_made_37 ?_
    refine lv_iload_n hx hb dX11_made_40 rfl (lv_at hl 3 rfl) ?_
    refine va_put (D := D) (ci := 2) (v := .int p2) (ty := .int) (C := RX2) (T := TX2) (N := 8) hx hb hts w3 tyX2 tyX2_ok nmX2 hown hK.1 hP hD hS 1 rfl rfl 5 (by decide) w4 (fun _ h9 => h9) rfl (by decide +kernel) rfl rfl (Nat.le_of_ble_eq_true rfl) dX11_made_41 (fun H locs hP hD hS => ?_)
    obtain ⟨hP, hD⟩ : PD D A [O11 a11 a7 a5 a3 a2 a6 a4 a10 a9 a1 a0 a8 aN, O2 a2 r2 v2_count p1 p2] H := ⟨hP, hD⟩
    refine lv_iload_n hx hb dX11_made_44 rfl (lv_at hl 0 rfl) ?_
    have hpo : ((0 ≤ p1.toInt ∧ p1.toInt ≤ 2001 ∧ 0 ≤ p2.toInt ∧ p2.toInt ≤ 9999) ∧ v2_madeIn.toInt = v2_madeIn.toInt ∧ p1.toInt = p1.toInt) ∨ (¬ (0 ≤ p1.toInt ∧ p1.toInt ≤ 2001 ∧ 0 ≤ p2.toInt ∧ p2.toInt ≤ 9999) ∧ v2_madeIn.toInt = -1 ∧ p1.toInt = v2_madeIn.toInt) := (by omega)
    exact ret _ _ _ _ v2_madeIn (p1, p2) dX11_made_45 hpo hP hD hS
  have c8 := ci_eq c8
  refine lv_iconst (v := (-1)) hx hb dX11_made_18 (by decide) ?_
  have hpo : ((0 ≤ p1.toInt ∧ p1.toInt ≤ 2001 ∧ 0 ≤ p2.toInt ∧ p2.toInt ≤ 9999) ∧ ((-1) : Int32).toInt = v2_madeIn.toInt ∧ v2_madeIn.toInt = p1.toInt) ∨ (¬ (0 ≤ p1.toInt ∧ p1.toInt ≤ 2001 ∧ 0 ≤ p2.toInt ∧ p2.toInt ≤ 9999) ∧ ((-1) : Int32).toInt = -1 ∧ v2_madeIn.toInt = v2_madeIn.toInt) := (by omega)
  exact ret _ _ _ _ (-1) (v2_madeIn, v2_bound) dX11_made_19 hpo hP hD hS
set_option maxHeartbeats 4000000 in
set_option maxRecDepth 100000 in
theorem k_X11_bars (l : Launch) (D : va_G) (κ : Nat → ClassId) (β : Nat) (a11 : Nat) (a7 : Nat) (a5 : Nat) (a3 : Nat) (a2 : Nat) (a6 : Nat) (a4 : Nat) (a10 : Nat) (a9 : Nat) (a1 : Nat) (a0 : Nat) (a8 : Nat) (aN : Nat) (r2 : Nat → Nat) (v2_count : Int32) (v2_madeIn : Int32) (v2_bound : Int32) (f2_houses : Nat → Int32) (f2_inks : Nat → Int32) (f2_stuffs : Nat → Int32) (sz : Nat) (p1 : Int32) (p2 : Int32) (i1 : Rg 0 40 v2_count) : Met l yX11_bars wsX11_bars ({ frames := 3, cells := 0, slots := 0, locals := 68 } : Room) (PcK D κ β [O11 a11 a7 a5 a3 a2 a6 a4 a10 a9 a1 a0 a8 aN, O2 a2 r2 v2_count v2_madeIn v2_bound, (cI κ (r2 0) 40 f2_houses), (cI κ (r2 1) 40 f2_inks), (cI κ (r2 2) 40 f2_stuffs)] sz [.ref a11, .int p1, .int p2]) (QiK D (fun (r : Int32) (u : Unit) => True) (fun (u : Unit) => [O11 a11 a7 a5 a3 a2 a6 a4 a10 a9 a1 a0 a8 aN, O2 a2 r2 v2_count v2_madeIn v2_bound, (cI κ (r2 0) 40 f2_houses), (cI κ (r2 1) 40 f2_inks), (cI κ (r2 2) 40 f2_stuffs)]) [O11 a11 a7 a5 a3 a2 a6 a4 a10 a9 a1 a0 a8 aN, O2 a2 r2 v2_count v2_madeIn v2_bound, (cI κ (r2 0) 40 f2_houses), (cI κ (r2 1) 40 f2_inks), (cI κ (r2 2) 40 f2_stuffs)] sz) 0 0 (va_A [O11 a11 a7 a5 a3 a2 a6 a4 a10 a9 a1 a0 a8 aN, O2 a2 r2 v2_count v2_madeIn v2_bound, (cI κ (r2 0) 40 f2_houses), (cI κ (r2 1) 40 f2_inks), (cI κ (r2 2) 40 f2_stuffs)] sz) := by
  refine ofK_i (cc := cX11_bars) (maxL := 3) (own := RX11) (by decide) rfl rfl (Nat.le_of_ble_eq_true rfl) ?_
  intro p e s m args below meth c Q A ls hsz hx hb hml hts hown hK hA hAB hP hD hl ret
  have hS : va_S A s.heap s.heap [] := va_S.rf
  have hl : lv_has ls 3 [(0, .ref a11), (1, .int p1), (2, .int p2)] := hl
  have w0 := hts (.fieldLink RX11 33 "OlderSkin" "dots" "LOlderSkin$Dots;") (List.mem_of_getElem? (i := 1) rfl)
  have w1 := (fun w h => List.mem_cons_of_mem _ (List.mem_append_left _ (List.mem_append_right _ h)) : ∀ w ∈ u_ws RX11 TX11 12, w ∈ wsX11_bars)
  have l0 : (0 : Int32).toInt = 0 := by decide
  have l1 : ((-1) : Int32).toInt = -1 := by decide
  refine lv_iload_n hx hb dX11_bars_0 rfl (lv_at hl 1 rfl) ?_
  refine kcm_i hA hAB hP hD hS [false, false, false, false, false] rfl (fun _ => rfl) (fun hPc hDc => va_runS (As := [.int p1]) (rest := []) ⟨hx, hb, hml, hown, hts⟩ (k_X11_isInk l D κ β s.heap.size p1) (va_cwS 1 hts gX11_bars_X11_isInk rfl rfl rfl (by decide +kernel) ⟨Nat.le_of_ble_eq_true rfl, Nat.le_of_ble_eq_true rfl⟩) (pk_S hK hS hAB hPc hDc) rfl rfl hl.1 rfl (lv_room (Nat.le_of_ble_eq_true rfl)) dX11_bars_1 ⟨Nat.le_of_ble_eq_true rfl, Nat.le_of_ble_eq_true rfl⟩) (fun x1 u2 H locs hw hPD hS => ?_)
  have h3 : (x1.toInt = 1 ∧ 0 ≤ p1.toInt ∧ p1.toInt ≤ 5) ∨ (x1.toInt = 0 ∧ (p1.toInt < 0 ∨ 5 < p1.toInt)) := hw
  obtain ⟨hP, hD⟩ : PD D A [O11 a11 a7 a5 a3 a2 a6 a4 a10 a9 a1 a0 a8 aN, O2 a2 r2 v2_count v2_madeIn v2_bound, (cI κ (r2 0) 40 f2_houses), (cI κ (r2 1) 40 f2_inks), (cI κ (r2 2) 40 f2_stuffs)] H := hPD
  refine lv_if_eq (tgt := 14) hx hb dX11_bars_4 (by decide) (fun c4 => ?_) (fun c4 => ?_)
  · have c4 := ci_eq c4
    refine lv_iconst (v := (-1)) hx hb dX11_bars_14 (by decide) ?_
    exact ret _ _ _ _ (-1) () dX11_bars_15 trivial hP hD hS
  have c4 := ci_ne c4
  refine lv_iload_n hx hb dX11_bars_7 rfl (lv_at hl 2 rfl) ?_
  refine kcm_i hA hAB hP hD hS [false, false, false, false, false] rfl (fun _ => rfl) (fun hPc hDc => va_runS (As := [.int p2]) (rest := []) ⟨hx, hb, hml, hown, hts⟩ (k_X11_isYear l D κ β H.size p2) (va_cwS 1 hts gX11_bars_X11_isYear rfl rfl rfl (by decide +kernel) ⟨Nat.le_of_ble_eq_true rfl, Nat.le_of_ble_eq_true rfl⟩) (pk_S hK hS hAB hPc hDc) rfl rfl hl.1 rfl (lv_room (Nat.le_of_ble_eq_true rfl)) dX11_bars_8 ⟨Nat.le_of_ble_eq_true rfl, Nat.le_of_ble_eq_true rfl⟩) (fun x5 u6 H locs hw hPD hS => ?_)
  have h7 : (x5.toInt = 1 ∧ 0 ≤ p2.toInt ∧ p2.toInt ≤ 2000) ∨ (x5.toInt = 0 ∧ (p2.toInt < 0 ∨ 2000 < p2.toInt)) := hw
  obtain ⟨hP, hD⟩ : PD D A [O11 a11 a7 a5 a3 a2 a6 a4 a10 a9 a1 a0 a8 aN, O2 a2 r2 v2_count v2_madeIn v2_bound, (cI κ (r2 0) 40 f2_houses), (cI κ (r2 1) 40 f2_inks), (cI κ (r2 2) 40 f2_stuffs)] H := hPD
  refine lv_if_ne (tgt := 16) hx hb dX11_bars_11 (by decide) (fun c8 => ?_) (fun c8 => ?_)
  · have c8 := ci_ne c8
    refine lv_aload_n hx hb dX11_bars_16 rfl (lv_at hl 0 rfl) ?_
    refine va_get (D := D) (ci := 11) (v := .ref a2) (C := RX11) (T := TX11) (N := 12) hx hb hts w1 hown hK.1 hP 0 rfl rfl 3 (by decide) w0 (fun _ h9 => h9) rfl dX11_bars_17 ?_
    refine lv_iload_n hx hb dX11_bars_20 rfl (lv_at hl 1 rfl) ?_
    refine lv_iload_n hx hb dX11_bars_21 rfl (lv_at hl 2 rfl) ?_
    refine kcm_i hA hAB hP hD hS [false, true, true, true, true] rfl (fun _ => rfl) (fun hPc hDc => va_runV (As := [.int p1, .int p2]) (rest := []) ⟨hx, hb, hml, hown, hts⟩ (k_X2_inkBars l D κ β a2 r2 v2_count v2_madeIn v2_bound f2_houses f2_inks f2_stuffs H.size p1 p2 i1) (cwV 2 hts gX11_bars_X2_inkBars rfl rfl rfl (by decide +kernel) ⟨Nat.le_of_ble_eq_true rfl, Nat.le_of_ble_eq_true rfl⟩) (pk_V hK hS hAB hPc hDc 0 (ci := 2) rfl rfl rfl) rfl rfl hl.1 rfl (lv_room (Nat.le_of_ble_eq_true rfl)) dX11_bars_22 ⟨Nat.le_of_ble_eq_true rfl, Nat.le_of_ble_eq_true rfl⟩) (fun x9 u10 H locs hw hPD hS => ?_)
    have h11 : x9.toInt = 0 ∨ x9.toInt = 1 := hw
    obtain ⟨hP, hD⟩ : PD D A [O11 a11 a7 a5 a3 a2 a6 a4 a10 a9 a1 a0 a8 aN, O2 a2 r2 v2_count v2_madeIn v2_bound, (cI κ (r2 0) 40 f2_houses), (cI κ (r2 1) 40 f2_inks), (cI κ (r2 2) 40 f2_stuffs)] H := hPD
    refine kcm_i hA hAB hP hD hS [false, false, false, false, false] rfl (fun _ => rfl) (fun hPc hDc => va_runS (As := [.int x9]) (rest := []) ⟨hx, hb, hml, hown, hts⟩ (k_X11_asBit l D κ β H.size x9) (va_cwS 1 hts gX11_bars_X11_asBit rfl rfl rfl (by decide +kernel) ⟨Nat.le_of_ble_eq_true rfl, Nat.le_of_ble_eq_true rfl⟩) (pk_S hK hS hAB hPc hDc) rfl rfl hl.1 rfl (lv_room (Nat.le_of_ble_eq_true rfl)) dX11_bars_25 ⟨Nat.le_of_ble_eq_true rfl, Nat.le_of_ble_eq_true rfl⟩) (fun x12 u13 H locs hw hPD hS => ?_)
    have h14 : (x12.toInt = 1 ∧ x9.toInt ≠ 0) ∨ (x12.toInt = 0 ∧ x9.toInt = 0) := hw
    obtain ⟨hP, hD⟩ : PD D A [O11 a11 a7 a5 a3 a2 a6 a4 a10 a9 a1 a0 a8 aN, O2 a2 r2 v2_count v2_madeIn v2_bound, (cI κ (r2 0) 40 f2_houses), (cI κ (r2 1) 40 f2_inks), (cI κ (r2 2) 40 f2_stuffs)] H := hPD
    exact ret _ _ _ _ x12 () dX11_bars_28 trivial hP hD hS
  have c8 := ci_eq c8
  refine lv_iconst (v := (-1)) hx hb dX11_bars_14 (by decide) ?_
  exact ret _ _ _ _ (-1) () dX11_bars_15 trivial hP hD hS
set_option maxHeartbeats 4000000 in
set_option maxRecDepth 100000 in
theorem k_X11_place (l : Launch) (D : va_G) (κ : Nat → ClassId) (β : Nat) (a11 : Nat) (a7 : Nat) (a5 : Nat) (a3 : Nat) (a2 : Nat) (a6 : Nat) (a4 : Nat) (a10 : Nat) (a9 : Nat) (a1 : Nat) (a0 : Nat) (a8 : Nat) (aN : Nat) (r6 : Nat → Nat) (v6_count : Int32) (f6_known : Nat → Int32) (f6_truly : Nat → Int32) (f6_drawnAt : Nat → Int32) (sz : Nat) (p1 : Int32) (p2 : Int32) (p3 : Int32) (i1 : Rg 0 20 v6_count) : Met l yX11_place wsX11_place ({ frames := 2, cells := 0, slots := 0, locals := 42 } : Room) (PcK D κ β [O11 a11 a7 a5 a3 a2 a6 a4 a10 a9 a1 a0 a8 aN, O6 a6 r6 v6_count, (cI κ (r6 0) 20 f6_known), (cI κ (r6 1) 20 f6_truly), (cI κ (r6 2) 20 f6_drawnAt)] sz [.ref a11, .int p1, .int p2, .int p3]) (QiK D (fun (r : Int32) (u : Int32 × (Nat → Int32) × (Nat → Int32) × (Nat → Int32)) => (0 ≤ u.1.toInt ∧ u.1.toInt ≤ 20) ∧ ((¬ (0 ≤ p1.toInt ∧ p1.toInt ≤ 2000 ∧ 0 ≤ p2.toInt ∧ p2.toInt ≤ 9999 ∧ 0 ≤ p3.toInt ∧ p3.toInt ≤ 9999) ∧ r.toInt = -1 ∧ u.1.toInt = v6_count.toInt) ∨ ((0 ≤ p1.toInt ∧ p1.toInt ≤ 2000 ∧ 0 ≤ p2.toInt ∧ p2.toInt ≤ 9999 ∧ 0 ≤ p3.toInt ∧ p3.toInt ≤ 9999) ∧ v6_count.toInt = 20 ∧ r.toInt = -3 ∧ u.1.toInt = v6_count.toInt) ∨ ((0 ≤ p1.toInt ∧ p1.toInt ≤ 2000 ∧ 0 ≤ p2.toInt ∧ p2.toInt ≤ 9999 ∧ 0 ≤ p3.toInt ∧ p3.toInt ≤ 9999) ∧ v6_count.toInt < 20 ∧ r.toInt = v6_count.toInt ∧ u.1.toInt = v6_count.toInt + 1))) (fun (u : Int32 × (Nat → Int32) × (Nat → Int32) × (Nat → Int32)) => [O11 a11 a7 a5 a3 a2 a6 a4 a10 a9 a1 a0 a8 aN, O6 a6 r6 u.1, (cI κ (r6 0) 20 u.2.1), (cI κ (r6 1) 20 u.2.2.1), (cI κ (r6 2) 20 u.2.2.2)]) [O11 a11 a7 a5 a3 a2 a6 a4 a10 a9 a1 a0 a8 aN, O6 a6 r6 v6_count, (cI κ (r6 0) 20 f6_known), (cI κ (r6 1) 20 f6_truly), (cI κ (r6 2) 20 f6_drawnAt)] sz) 0 0 (va_A [O11 a11 a7 a5 a3 a2 a6 a4 a10 a9 a1 a0 a8 aN, O6 a6 r6 v6_count, (cI κ (r6 0) 20 f6_known), (cI κ (r6 1) 20 f6_truly), (cI κ (r6 2) 20 f6_drawnAt)] sz) := by
  refine ofK_i (cc := cX11_place) (maxL := 4) (own := RX11) (by decide) rfl rfl (Nat.le_of_ble_eq_true rfl) ?_
  intro p e s m args below meth c Q A ls hsz hx hb hml hts hown hK hA hAB hP hD hl ret
  have hS : va_S A s.heap s.heap [] := va_S.rf
  have hl : lv_has ls 4 [(0, .ref a11), (1, .int p1), (2, .int p2), (3, .int p3)] := hl
  have w0 := hts (.fieldLink RX11 40 "OlderSkin" "places" "LOlderSkin$Places;") (List.mem_of_getElem? (i := 1) rfl)
  have w1 := (fun w h => List.mem_cons_of_mem _ (List.mem_append_left _ (List.mem_append_right _ h)) : ∀ w ∈ u_ws RX11 TX11 12, w ∈ wsX11_place)
  have l0 : (0 : Int32).toInt = 0 := by decide
  have l1 : ((-1) : Int32).toInt = -1 := by decide
  have l2 : (9999 : Int32).toInt = 9999 := by decide
  have i1 : 0 ≤ v6_count.toInt ∧ v6_count.toInt ≤ 20 := i1
  refine lv_iload_n hx hb dX11_place_0 rfl (lv_at hl 1 rfl) ?_
  refine kcm_i hA hAB hP hD hS [false, false, false, false, false] rfl (fun _ => rfl) (fun hPc hDc => va_runS (As := [.int p1]) (rest := []) ⟨hx, hb, hml, hown, hts⟩ (k_X11_isYear l D κ β s.heap.size p1) (va_cwS 1 hts gX11_place_X11_isYear rfl rfl rfl (by decide +kernel) ⟨Nat.le_of_ble_eq_true rfl, Nat.le_of_ble_eq_true rfl⟩) (pk_S hK hS hAB hPc hDc) rfl rfl hl.1 rfl (lv_room (Nat.le_of_ble_eq_true rfl)) dX11_place_1 ⟨Nat.le_of_ble_eq_true rfl, Nat.le_of_ble_eq_true rfl⟩) (fun x1 u2 H locs hw hPD hS => ?_)
  have h3 : (x1.toInt = 1 ∧ 0 ≤ p1.toInt ∧ p1.toInt ≤ 2000) ∨ (x1.toInt = 0 ∧ (p1.toInt < 0 ∨ 2000 < p1.toInt)) := hw
  obtain ⟨hP, hD⟩ : PD D A [O11 a11 a7 a5 a3 a2 a6 a4 a10 a9 a1 a0 a8 aN, O6 a6 r6 v6_count, (cI κ (r6 0) 20 f6_known), (cI κ (r6 1) 20 f6_truly), (cI κ (r6 2) 20 f6_drawnAt)] H := hPD
  refine lv_if_eq (tgt := 29) hx hb dX11_place_4 (by decide) (fun c4 => ?_) (fun c4 => ?_)
  · have c4 := ci_eq c4
    refine lv_iconst (v := (-1)) hx hb dX11_place_29 (by decide) ?_
    have hpo : (0 ≤ v6_count.toInt ∧ v6_count.toInt ≤ 20) ∧ ((¬ (0 ≤ p1.toInt ∧ p1.toInt ≤ 2000 ∧ 0 ≤ p2.toInt ∧ p2.toInt ≤ 9999 ∧ 0 ≤ p3.toInt ∧ p3.toInt ≤ 9999) ∧ ((-1) : Int32).toInt = -1 ∧ v6_count.toInt = v6_count.toInt) ∨ ((0 ≤ p1.toInt ∧ p1.toInt ≤ 2000 ∧ 0 ≤ p2.toInt ∧ p2.toInt ≤ 9999 ∧ 0 ≤ p3.toInt ∧ p3.toInt ≤ 9999) ∧ v6_count.toInt = 20 ∧ ((-1) : Int32).toInt = -3 ∧ v6_count.toInt = v6_count.toInt) ∨ ((0 ≤ p1.toInt ∧ p1.toInt ≤ 2000 ∧ 0 ≤ p2.toInt ∧ p2.toInt ≤ 9999 ∧ 0 ≤ p3.toInt ∧ p3.toInt ≤ 9999) ∧ v6_count.toInt < 20 ∧ ((-1) : Int32).toInt = v6_count.toInt ∧ v6_count.toInt = v6_count.toInt + 1)) := ⟨i1, (by omega)⟩
    exact ret _ _ _ _ (-1) (v6_count, f6_known, f6_truly, f6_drawnAt) dX11_place_30 hpo hP hD hS
  have c4 := ci_ne c4
  refine lv_iload_n hx hb dX11_place_7 rfl (lv_at hl 2 rfl) ?_
  refine lv_iconst (v := 0) hx hb dX11_place_8 (by decide) ?_
  refine lv_sipush (v := 9999) hx hb dX11_place_9 (by decide) ?_
  refine kcm_i hA hAB hP hD hS [false, false, false, false, false] rfl (fun _ => rfl) (fun hPc hDc => va_runS (As := [.int p2, .int 0, .int 9999]) (rest := []) ⟨hx, hb, hml, hown, hts⟩ (k_X11_within l D κ β H.size p2 0 9999) (va_cwS 3 hts gX11_place_X11_within rfl rfl rfl (by decide +kernel) ⟨Nat.le_of_ble_eq_true rfl, Nat.le_of_ble_eq_true rfl⟩) (pk_S hK hS hAB hPc hDc) rfl rfl hl.1 rfl (lv_room (Nat.le_of_ble_eq_true rfl)) dX11_place_12 ⟨Nat.le_of_ble_eq_true rfl, Nat.le_of_ble_eq_true rfl⟩) (fun x5 u6 H locs hw hPD hS => ?_)
  have h7 : (x5.toInt = 1 ∧ (0 : Int32).toInt ≤ p2.toInt ∧ p2.toInt ≤ (9999 : Int32).toInt) ∨ (x5.toInt = 0 ∧ (p2.toInt < (0 : Int32).toInt ∨ (9999 : Int32).toInt < p2.toInt)) := hw
  obtain ⟨hP, hD⟩ : PD D A [O11 a11 a7 a5 a3 a2 a6 a4 a10 a9 a1 a0 a8 aN, O6 a6 r6 v6_count, (cI κ (r6 0) 20 f6_known), (cI κ (r6 1) 20 f6_truly), (cI κ (r6 2) 20 f6_drawnAt)] H := hPD
  refine lv_if_eq (tgt := 29) hx hb dX11_place_15 (by decide) (fun c8 => ?_) (fun c8 => ?_)
  · have c8 := ci_eq c8
    refine lv_iconst (v := (-1)) hx hb dX11_place_29 (by decide) ?_
    have hpo : (0 ≤ v6_count.toInt ∧ v6_count.toInt ≤ 20) ∧ ((¬ (0 ≤ p1.toInt ∧ p1.toInt ≤ 2000 ∧ 0 ≤ p2.toInt ∧ p2.toInt ≤ 9999 ∧ 0 ≤ p3.toInt ∧ p3.toInt ≤ 9999) ∧ ((-1) : Int32).toInt = -1 ∧ v6_count.toInt = v6_count.toInt) ∨ ((0 ≤ p1.toInt ∧ p1.toInt ≤ 2000 ∧ 0 ≤ p2.toInt ∧ p2.toInt ≤ 9999 ∧ 0 ≤ p3.toInt ∧ p3.toInt ≤ 9999) ∧ v6_count.toInt = 20 ∧ ((-1) : Int32).toInt = -3 ∧ v6_count.toInt = v6_count.toInt) ∨ ((0 ≤ p1.toInt ∧ p1.toInt ≤ 2000 ∧ 0 ≤ p2.toInt ∧ p2.toInt ≤ 9999 ∧ 0 ≤ p3.toInt ∧ p3.toInt ≤ 9999) ∧ v6_count.toInt < 20 ∧ ((-1) : Int32).toInt = v6_count.toInt ∧ v6_count.toInt = v6_count.toInt + 1)) := ⟨i1, (by omega)⟩
    exact ret _ _ _ _ (-1) (v6_count, f6_known, f6_truly, f6_drawnAt) dX11_place_30 hpo hP hD hS
  have c8 := ci_ne c8
  refine lv_iload_n hx hb dX11_place_18 rfl (lv_at hl 3 rfl) ?_
  refine lv_iconst (v := 0) hx hb dX11_place_19 (by decide) ?_
  refine lv_sipush (v := 9999) hx hb dX11_place_20 (by decide) ?_
  refine kcm_i hA hAB hP hD hS [false, false, false, false, false] rfl (fun _ => rfl) (fun hPc hDc => va_runS (As := [.int p3, .int 0, .int 9999]) (rest := []) ⟨hx, hb, hml, hown, hts⟩ (k_X11_within l D κ β H.size p3 0 9999) (va_cwS 3 hts gX11_place_X11_within rfl rfl rfl (by decide +kernel) ⟨Nat.le_of_ble_eq_true rfl, Nat.le_of_ble_eq_true rfl⟩) (pk_S hK hS hAB hPc hDc) rfl rfl hl.1 rfl (lv_room (Nat.le_of_ble_eq_true rfl)) dX11_place_23 ⟨Nat.le_of_ble_eq_true rfl, Nat.le_of_ble_eq_true rfl⟩) (fun x9 u10 H locs hw hPD hS => ?_)
  have h11 : (x9.toInt = 1 ∧ (0 : Int32).toInt ≤ p3.toInt ∧ p3.toInt ≤ (9999 : Int32).toInt) ∨ (x9.toInt = 0 ∧ (p3.toInt < (0 : Int32).toInt ∨ (9999 : Int32).toInt < p3.toInt)) := hw
  obtain ⟨hP, hD⟩ : PD D A [O11 a11 a7 a5 a3 a2 a6 a4 a10 a9 a1 a0 a8 aN, O6 a6 r6 v6_count, (cI κ (r6 0) 20 f6_known), (cI κ (r6 1) 20 f6_truly), (cI κ (r6 2) 20 f6_drawnAt)] H := hPD
  refine lv_if_ne (tgt := 31) hx hb dX11_place_26 (by decide) (fun c12 => ?_) (fun c12 => ?_)
  · have c12 := ci_ne c12
    refine lv_aload_n hx hb dX11_place_31 rfl (lv_at hl 0 rfl) ?_
    refine va_get (D := D) (ci := 11) (v := .ref a6) (C := RX11) (T := TX11) (N := 12) hx hb hts w1 hown hK.1 hP 0 rfl rfl 4 (by decide) w0 (fun _ h9 => h9) rfl dX11_place_32 ?_
    refine lv_iload_n hx hb dX11_place_35 rfl (lv_at hl 1 rfl) ?_
    refine lv_iload_n hx hb dX11_place_36 rfl (lv_at hl 2 rfl) ?_
    refine lv_iload_n hx hb dX11_place_37 rfl (lv_at hl 3 rfl) ?_
    refine kcm_i hA hAB hP hD hS [false, true, true, true, true] rfl (fun _ => rfl) (fun hPc hDc => va_runV (As := [.int p1, .int p2, .int p3]) (rest := []) ⟨hx, hb, hml, hown, hts⟩ (k_X6_add l D κ β a6 r6 v6_count f6_known f6_truly f6_drawnAt H.size p1 p2 p3 i1) (cwV 3 hts gX11_place_X6_add rfl rfl rfl (by decide +kernel) ⟨Nat.le_of_ble_eq_true rfl, Nat.le_of_ble_eq_true rfl⟩) (pk_V hK hS hAB hPc hDc 0 (ci := 6) rfl rfl rfl) rfl rfl hl.1 rfl (lv_room (Nat.le_of_ble_eq_true rfl)) dX11_place_38 ⟨Nat.le_of_ble_eq_true rfl, Nat.le_of_ble_eq_true rfl⟩) (fun x17 u18 H locs hw hPD hS => ?_)
    obtain ⟨x13, g14, g15, g16⟩ := u18
    obtain ⟨h19, h20⟩ : (0 ≤ x13.toInt ∧ x13.toInt ≤ 20) ∧ ((v6_count.toInt = 20 ∧ x17.toInt = -3 ∧ x13.toInt = v6_count.toInt) ∨ (v6_count.toInt < 20 ∧ x17.toInt = v6_count.toInt ∧ x13.toInt = v6_count.toInt + 1)) := hw
    obtain ⟨hP, hD⟩ : PD D A [O11 a11 a7 a5 a3 a2 a6 a4 a10 a9 a1 a0 a8 aN, O6 a6 r6 x13, (cI κ (r6 0) 20 g14), (cI κ (r6 1) 20 g15), (cI κ (r6 2) 20 g16)] H := hPD
    have hpo : (0 ≤ x13.toInt ∧ x13.toInt ≤ 20) ∧ ((¬ (0 ≤ p1.toInt ∧ p1.toInt ≤ 2000 ∧ 0 ≤ p2.toInt ∧ p2.toInt ≤ 9999 ∧ 0 ≤ p3.toInt ∧ p3.toInt ≤ 9999) ∧ x17.toInt = -1 ∧ x13.toInt = v6_count.toInt) ∨ ((0 ≤ p1.toInt ∧ p1.toInt ≤ 2000 ∧ 0 ≤ p2.toInt ∧ p2.toInt ≤ 9999 ∧ 0 ≤ p3.toInt ∧ p3.toInt ≤ 9999) ∧ v6_count.toInt = 20 ∧ x17.toInt = -3 ∧ x13.toInt = v6_count.toInt) ∨ ((0 ≤ p1.toInt ∧ p1.toInt ≤ 2000 ∧ 0 ≤ p2.toInt ∧ p2.toInt ≤ 9999 ∧ 0 ≤ p3.toInt ∧ p3.toInt ≤ 9999) ∧ v6_count.toInt < 20 ∧ x17.toInt = v6_count.toInt ∧ x13.toInt = v6_count.toInt + 1)) := ⟨h19, (by omega)⟩
    exact ret _ _ _ _ x17 (x13, g14, g15, g16) dX11_place_41 hpo hP hD hS
  have c12 := ci_eq c12
  refine lv_iconst (v := (-1)) hx hb dX11_place_29 (by decide) ?_
  have hpo : (0 ≤ v6_count.toInt ∧ v6_count.toInt ≤ 20) ∧ ((¬ (0 ≤ p1.toInt ∧ p1.toInt ≤ 2000 ∧ 0 ≤ p2.toInt ∧ p2.toInt ≤ 9999 ∧ 0 ≤ p3.toInt ∧ p3.toInt ≤ 9999) ∧ ((-1) : Int32).toInt = -1 ∧ v6_count.toInt = v6_count.toInt) ∨ ((0 ≤ p1.toInt ∧ p1.toInt ≤ 2000 ∧ 0 ≤ p2.toInt ∧ p2.toInt ≤ 9999 ∧ 0 ≤ p3.toInt ∧ p3.toInt ≤ 9999) ∧ v6_count.toInt = 20 ∧ ((-1) : Int32).toInt = -3 ∧ v6_count.toInt = v6_count.toInt) ∨ ((0 ≤ p1.toInt ∧ p1.toInt ≤ 2000 ∧ 0 ≤ p2.toInt ∧ p2.toInt ≤ 9999 ∧ 0 ≤ p3.toInt ∧ p3.toInt ≤ 9999) ∧ v6_count.toInt < 20 ∧ ((-1) : Int32).toInt = v6_count.toInt ∧ v6_count.toInt = v6_count.toInt + 1)) := ⟨i1, (by omega)⟩
  exact ret _ _ _ _ (-1) (v6_count, f6_known, f6_truly, f6_drawnAt) dX11_place_30 hpo hP hD hS
set_option maxHeartbeats 4000000 in
set_option maxRecDepth 100000 in
theorem k_X11_late (l : Launch) (D : va_G) (κ : Nat → ClassId) (β : Nat) (a11 : Nat) (a7 : Nat) (a5 : Nat) (a3 : Nat) (a2 : Nat) (a6 : Nat) (a4 : Nat) (a10 : Nat) (a9 : Nat) (a1 : Nat) (a0 : Nat) (a8 : Nat) (aN : Nat) (r6 : Nat → Nat) (v6_count : Int32) (f6_known : Nat → Int32) (f6_truly : Nat → Int32) (f6_drawnAt : Nat → Int32) (sz : Nat) (p1 : Int32) (p2 : Int32) (i1 : Rg 0 20 v6_count) : Met l yX11_late wsX11_late ({ frames := 3, cells := 0, slots := 0, locals := 67 } : Room) (PcK D κ β [O11 a11 a7 a5 a3 a2 a6 a4 a10 a9 a1 a0 a8 aN, O6 a6 r6 v6_count, (cI κ (r6 0) 20 f6_known), (cI κ (r6 1) 20 f6_truly), (cI κ (r6 2) 20 f6_drawnAt)] sz [.ref a11, .int p1, .int p2]) (QiK D (fun (r : Int32) (u : Unit) => True) (fun (u : Unit) => [O11 a11 a7 a5 a3 a2 a6 a4 a10 a9 a1 a0 a8 aN, O6 a6 r6 v6_count, (cI κ (r6 0) 20 f6_known), (cI κ (r6 1) 20 f6_truly), (cI κ (r6 2) 20 f6_drawnAt)]) [O11 a11 a7 a5 a3 a2 a6 a4 a10 a9 a1 a0 a8 aN, O6 a6 r6 v6_count, (cI κ (r6 0) 20 f6_known), (cI κ (r6 1) 20 f6_truly), (cI κ (r6 2) 20 f6_drawnAt)] sz) 0 0 (va_A [O11 a11 a7 a5 a3 a2 a6 a4 a10 a9 a1 a0 a8 aN, O6 a6 r6 v6_count, (cI κ (r6 0) 20 f6_known), (cI κ (r6 1) 20 f6_truly), (cI κ (r6 2) 20 f6_drawnAt)] sz) := by
  refine ofK_i (cc := cX11_late) (maxL := 3) (own := RX11) (by decide) rfl rfl (Nat.le_of_ble_eq_true rfl) ?_
  intro p e s m args below meth c Q A ls hsz hx hb hml hts hown hK hA hAB hP hD hl ret
  have hS : va_S A s.heap s.heap [] := va_S.rf
  have hl : lv_has ls 3 [(0, .ref a11), (1, .int p1), (2, .int p2)] := hl
  have w0 := hts (.fieldLink RX11 40 "OlderSkin" "places" "LOlderSkin$Places;") (List.mem_of_getElem? (i := 1) rfl)
  have w1 := (fun w h => List.mem_cons_of_mem _ (List.mem_append_left _ (List.mem_append_right _ h)) : ∀ w ∈ u_ws RX11 TX11 12, w ∈ wsX11_late)
  have l0 : (0 : Int32).toInt = 0 := by decide
  have l1 : ((-1) : Int32).toInt = -1 := by decide
  refine lv_iload_n hx hb dX11_late_0 rfl (lv_at hl 1 rfl) ?_
  refine kcm_i hA hAB hP hD hS [false, false, false, false, false] rfl (fun _ => rfl) (fun hPc hDc => va_runS (As := [.int p1]) (rest := []) ⟨hx, hb, hml, hown, hts⟩ (k_X11_isYear l D κ β s.heap.size p1) (va_cwS 1 hts gX11_late_X11_isYear rfl rfl rfl (by decide +kernel) ⟨Nat.le_of_ble_eq_true rfl, Nat.le_of_ble_eq_true rfl⟩) (pk_S hK hS hAB hPc hDc) rfl rfl hl.1 rfl (lv_room (Nat.le_of_ble_eq_true rfl)) dX11_late_1 ⟨Nat.le_of_ble_eq_true rfl, Nat.le_of_ble_eq_true rfl⟩) (fun x1 u2 H locs hw hPD hS => ?_)
  have h3 : (x1.toInt = 1 ∧ 0 ≤ p1.toInt ∧ p1.toInt ≤ 2000) ∨ (x1.toInt = 0 ∧ (p1.toInt < 0 ∨ 2000 < p1.toInt)) := hw
  obtain ⟨hP, hD⟩ : PD D A [O11 a11 a7 a5 a3 a2 a6 a4 a10 a9 a1 a0 a8 aN, O6 a6 r6 v6_count, (cI κ (r6 0) 20 f6_known), (cI κ (r6 1) 20 f6_truly), (cI κ (r6 2) 20 f6_drawnAt)] H := hPD
  refine lv_if_eq (tgt := 14) hx hb dX11_late_4 (by decide) (fun c4 => ?_) (fun c4 => ?_)
  · have c4 := ci_eq c4
    refine lv_iconst (v := (-1)) hx hb dX11_late_14 (by decide) ?_
    exact ret _ _ _ _ (-1) () dX11_late_15 trivial hP hD hS
  have c4 := ci_ne c4
  refine lv_iload_n hx hb dX11_late_7 rfl (lv_at hl 2 rfl) ?_
  refine kcm_i hA hAB hP hD hS [false, false, false, false, false] rfl (fun _ => rfl) (fun hPc hDc => va_runS (As := [.int p2]) (rest := []) ⟨hx, hb, hml, hown, hts⟩ (k_X11_isBit l D κ β H.size p2) (va_cwS 1 hts gX11_late_X11_isBit rfl rfl rfl (by decide +kernel) ⟨Nat.le_of_ble_eq_true rfl, Nat.le_of_ble_eq_true rfl⟩) (pk_S hK hS hAB hPc hDc) rfl rfl hl.1 rfl (lv_room (Nat.le_of_ble_eq_true rfl)) dX11_late_8 ⟨Nat.le_of_ble_eq_true rfl, Nat.le_of_ble_eq_true rfl⟩) (fun x5 u6 H locs hw hPD hS => ?_)
  have h7 : (x5.toInt = 1 ∧ 0 ≤ p2.toInt ∧ p2.toInt ≤ 1) ∨ (x5.toInt = 0 ∧ (p2.toInt < 0 ∨ 1 < p2.toInt)) := hw
  obtain ⟨hP, hD⟩ : PD D A [O11 a11 a7 a5 a3 a2 a6 a4 a10 a9 a1 a0 a8 aN, O6 a6 r6 v6_count, (cI κ (r6 0) 20 f6_known), (cI κ (r6 1) 20 f6_truly), (cI κ (r6 2) 20 f6_drawnAt)] H := hPD
  refine lv_if_ne (tgt := 16) hx hb dX11_late_11 (by decide) (fun c8 => ?_) (fun c8 => ?_)
  · have c8 := ci_ne c8
    refine lv_iload_n hx hb dX11_late_16 rfl (lv_at hl 2 rfl) ?_
    refine lv_if_ne (tgt := 31) hx hb dX11_late_17 (by decide) (fun c9 => ?_) (fun c9 => ?_)
    · have c9 := ci_ne c9
      refine lv_aload_n hx hb dX11_late_31 rfl (lv_at hl 0 rfl) ?_
      refine va_get (D := D) (ci := 11) (v := .ref a6) (C := RX11) (T := TX11) (N := 12) hx hb hts w1 hown hK.1 hP 0 rfl rfl 4 (by decide) w0 (fun _ h9 => h9) rfl dX11_late_32 ?_
      refine lv_iload_n hx hb dX11_late_35 rfl (lv_at hl 1 rfl) ?_
      refine kcm_i hA hAB hP hD hS [false, true, true, true, true] rfl (fun _ => rfl) (fun hPc hDc => va_runV (As := [.int p1]) (rest := []) ⟨hx, hb, hml, hown, hts⟩ (k_X6_lateOff l D κ β a6 r6 v6_count f6_known f6_truly f6_drawnAt H.size p1 i1) (cwV 1 hts gX11_late_X6_lateOff rfl rfl rfl (by decide +kernel) ⟨Nat.le_of_ble_eq_true rfl, Nat.le_of_ble_eq_true rfl⟩) (pk_V hK hS hAB hPc hDc 0 (ci := 6) rfl rfl rfl) rfl rfl hl.1 rfl (lv_room (Nat.le_of_ble_eq_true rfl)) dX11_late_36 ⟨Nat.le_of_ble_eq_true rfl, Nat.le_of_ble_eq_true rfl⟩) (fun x10 u11 H locs hw hPD hS => ?_)
      obtain ⟨hP, hD⟩ : PD D A [O11 a11 a7 a5 a3 a2 a6 a4 a10 a9 a1 a0 a8 aN, O6 a6 r6 v6_count, (cI κ (r6 0) 20 f6_known), (cI κ (r6 1) 20 f6_truly), (cI κ (r6 2) 20 f6_drawnAt)] H := hPD
      exact ret _ _ _ _ x10 () dX11_late_39 trivial hP hD hS
    have c9 := ci_eq c9
    refine lv_aload_n hx hb dX11_late_20 rfl (lv_at hl 0 rfl) ?_
    refine va_get (D := D) (ci := 11) (v := .ref a6) (C := RX11) (T := TX11) (N := 12) hx hb hts w1 hown hK.1 hP 0 rfl rfl 4 (by decide) w0 (fun _ h9 => h9) rfl dX11_late_21 ?_
    refine lv_iload_n hx hb dX11_late_24 rfl (lv_at hl 1 rfl) ?_
    refine kcm_i hA hAB hP hD hS [false, true, true, false, false] rfl (fun _ => rfl) (fun hPc hDc => va_runV (As := [.int p1]) (rest := []) ⟨hx, hb, hml, hown, hts⟩ (k_X6_lateOnes l D κ β a6 r6 v6_count f6_known H.size p1 i1) (cwV 1 hts gX11_late_X6_lateOnes rfl rfl rfl (by decide +kernel) ⟨Nat.le_of_ble_eq_true rfl, Nat.le_of_ble_eq_true rfl⟩) (pk_V hK hS hAB hPc hDc 0 (ci := 6) rfl rfl rfl) rfl rfl hl.1 rfl (lv_room (Nat.le_of_ble_eq_true rfl)) dX11_late_25 ⟨Nat.le_of_ble_eq_true rfl, Nat.le_of_ble_eq_true rfl⟩) (fun x12 u13 H locs hw hPD hS => ?_)
    obtain ⟨hP, hD⟩ : PD D A [O11 a11 a7 a5 a3 a2 a6 a4 a10 a9 a1 a0 a8 aN, O6 a6 r6 v6_count, (cI κ (r6 0) 20 f6_known), (cI κ (r6 1) 20 f6_truly), (cI κ (r6 2) 20 f6_drawnAt)] H := hPD
    refine lv_goto (tgt := 39) hx hb dX11_late_28 (by decide) ?_
    exact ret _ _ _ _ x12 () dX11_late_39 trivial hP hD hS
  have c8 := ci_eq c8
  refine lv_iconst (v := (-1)) hx hb dX11_late_14 (by decide) ?_
  exact ret _ _ _ _ (-1) () dX11_late_15 trivial hP hD hS
set_option maxHeartbeats 4000000 in
set_option maxRecDepth 100000 in
theorem k_X11_well (l : Launch) (D : va_G) (κ : Nat → ClassId) (β : Nat) (a11 : Nat) (a7 : Nat) (a5 : Nat) (a3 : Nat) (a2 : Nat) (a6 : Nat) (a4 : Nat) (a10 : Nat) (a9 : Nat) (a1 : Nat) (a0 : Nat) (a8 : Nat) (aN : Nat) (r6 : Nat → Nat) (v6_count : Int32) (f6_known : Nat → Int32) (f6_truly : Nat → Int32) (f6_drawnAt : Nat → Int32) (sz : Nat) (p1 : Int32) (p2 : Int32) (p3 : Int32) (i1 : Rg 0 20 v6_count) : Met l yX11_well wsX11_well ({ frames := 4, cells := 0, slots := 0, locals := 97 } : Room) (PcK D κ β [O11 a11 a7 a5 a3 a2 a6 a4 a10 a9 a1 a0 a8 aN, O6 a6 r6 v6_count, (cI κ (r6 0) 20 f6_known), (cI κ (r6 1) 20 f6_truly), (cI κ (r6 2) 20 f6_drawnAt)] sz [.ref a11, .int p1, .int p2, .int p3]) (QiK D (fun (r : Int32) (u : Unit) => True) (fun (u : Unit) => [O11 a11 a7 a5 a3 a2 a6 a4 a10 a9 a1 a0 a8 aN, O6 a6 r6 v6_count, (cI κ (r6 0) 20 f6_known), (cI κ (r6 1) 20 f6_truly), (cI κ (r6 2) 20 f6_drawnAt)]) [O11 a11 a7 a5 a3 a2 a6 a4 a10 a9 a1 a0 a8 aN, O6 a6 r6 v6_count, (cI κ (r6 0) 20 f6_known), (cI κ (r6 1) 20 f6_truly), (cI κ (r6 2) 20 f6_drawnAt)] sz) 0 0 (va_A [O11 a11 a7 a5 a3 a2 a6 a4 a10 a9 a1 a0 a8 aN, O6 a6 r6 v6_count, (cI κ (r6 0) 20 f6_known), (cI κ (r6 1) 20 f6_truly), (cI κ (r6 2) 20 f6_drawnAt)] sz) := by
  refine ofK_i (cc := cX11_well) (maxL := 4) (own := RX11) (by decide) rfl rfl (Nat.le_of_ble_eq_true rfl) ?_
  intro p e s m args below meth c Q A ls hsz hx hb hml hts hown hK hA hAB hP hD hl ret
  have hS : va_S A s.heap s.heap [] := va_S.rf
  have hl : lv_has ls 4 [(0, .ref a11), (1, .int p1), (2, .int p2), (3, .int p3)] := hl
  have w0 := hts (.fieldLink RX11 40 "OlderSkin" "places" "LOlderSkin$Places;") (List.mem_of_getElem? (i := 1) rfl)
  have w1 := (fun w h => List.mem_cons_of_mem _ (List.mem_append_left _ (List.mem_append_right _ h)) : ∀ w ∈ u_ws RX11 TX11 12, w ∈ wsX11_well)
  have l0 : (0 : Int32).toInt = 0 := by decide
  have l1 : ((-1) : Int32).toInt = -1 := by decide
  have l2 : (1 : Int32).toInt = 1 := by decide
  have l3 : (50 : Int32).toInt = 50 := by decide
  have l4 : ((-2) : Int32).toInt = -2 := by decide
  refine lv_iload_n hx hb dX11_well_0 rfl (lv_at hl 1 rfl) ?_
  refine kcm_i hA hAB hP hD hS [false, false, false, false, false] rfl (fun _ => rfl) (fun hPc hDc => va_runS (As := [.int p1]) (rest := []) ⟨hx, hb, hml, hown, hts⟩ (k_X11_isYear l D κ β s.heap.size p1) (va_cwS 1 hts gX11_well_X11_isYear rfl rfl rfl (by decide +kernel) ⟨Nat.le_of_ble_eq_true rfl, Nat.le_of_ble_eq_true rfl⟩) (pk_S hK hS hAB hPc hDc) rfl rfl hl.1 rfl (lv_room (Nat.le_of_ble_eq_true rfl)) dX11_well_1 ⟨Nat.le_of_ble_eq_true rfl, Nat.le_of_ble_eq_true rfl⟩) (fun x1 u2 H locs hw hPD hS => ?_)
  have h3 : (x1.toInt = 1 ∧ 0 ≤ p1.toInt ∧ p1.toInt ≤ 2000) ∨ (x1.toInt = 0 ∧ (p1.toInt < 0 ∨ 2000 < p1.toInt)) := hw
  obtain ⟨hP, hD⟩ : PD D A [O11 a11 a7 a5 a3 a2 a6 a4 a10 a9 a1 a0 a8 aN, O6 a6 r6 v6_count, (cI κ (r6 0) 20 f6_known), (cI κ (r6 1) 20 f6_truly), (cI κ (r6 2) 20 f6_drawnAt)] H := hPD
  refine lv_if_eq (tgt := 17) hx hb dX11_well_4 (by decide) (fun c4 => ?_) (fun c4 => ?_)
  · have c4 := ci_eq c4
    refine lv_iconst (v := (-1)) hx hb dX11_well_17 (by decide) ?_
    exact ret _ _ _ _ (-1) () dX11_well_18 trivial hP hD hS
  have c4 := ci_ne c4
  refine lv_iload_n hx hb dX11_well_7 rfl (lv_at hl 3 rfl) ?_
  refine lv_iconst (v := 1) hx hb dX11_well_8 (by decide) ?_
  refine lv_bipush (v := 50) hx hb dX11_well_9 (by decide) ?_
  refine kcm_i hA hAB hP hD hS [false, false, false, false, false] rfl (fun _ => rfl) (fun hPc hDc => va_runS (As := [.int p3, .int 1, .int 50]) (rest := []) ⟨hx, hb, hml, hown, hts⟩ (k_X11_within l D κ β H.size p3 1 50) (va_cwS 3 hts gX11_well_X11_within rfl rfl rfl (by decide +kernel) ⟨Nat.le_of_ble_eq_true rfl, Nat.le_of_ble_eq_true rfl⟩) (pk_S hK hS hAB hPc hDc) rfl rfl hl.1 rfl (lv_room (Nat.le_of_ble_eq_true rfl)) dX11_well_11 ⟨Nat.le_of_ble_eq_true rfl, Nat.le_of_ble_eq_true rfl⟩) (fun x5 u6 H locs hw hPD hS => ?_)
  have h7 : (x5.toInt = 1 ∧ (1 : Int32).toInt ≤ p3.toInt ∧ p3.toInt ≤ (50 : Int32).toInt) ∨ (x5.toInt = 0 ∧ (p3.toInt < (1 : Int32).toInt ∨ (50 : Int32).toInt < p3.toInt)) := hw
  obtain ⟨hP, hD⟩ : PD D A [O11 a11 a7 a5 a3 a2 a6 a4 a10 a9 a1 a0 a8 aN, O6 a6 r6 v6_count, (cI κ (r6 0) 20 f6_known), (cI κ (r6 1) 20 f6_truly), (cI κ (r6 2) 20 f6_drawnAt)] H := hPD
  refine lv_if_ne (tgt := 19) hx hb dX11_well_14 (by decide) (fun c8 => ?_) (fun c8 => ?_)
  · have c8 := ci_ne c8
    refine lv_aload_n hx hb dX11_well_19 rfl (lv_at hl 0 rfl) ?_
    refine va_get (D := D) (ci := 11) (v := .ref a6) (C := RX11) (T := TX11) (N := 12) hx hb hts w1 hown hK.1 hP 0 rfl rfl 4 (by decide) w0 (fun _ h9 => h9) rfl dX11_well_20 ?_
    refine lv_iload_n hx hb dX11_well_23 rfl (lv_at hl 1 rfl) ?_
    refine kcm_i hA hAB hP hD hS [false, true, true, false, false] rfl (fun _ => rfl) (fun hPc hDc => va_runV (As := [.int p1]) (rest := []) ⟨hx, hb, hml, hown, hts⟩ (k_X6_lateOnes l D κ β a6 r6 v6_count f6_known H.size p1 i1) (cwV 1 hts gX11_well_X6_lateOnes rfl rfl rfl (by decide +kernel) ⟨Nat.le_of_ble_eq_true rfl, Nat.le_of_ble_eq_true rfl⟩) (pk_V hK hS hAB hPc hDc 0 (ci := 6) rfl rfl rfl) rfl rfl hl.1 rfl (lv_room (Nat.le_of_ble_eq_true rfl)) dX11_well_24 ⟨Nat.le_of_ble_eq_true rfl, Nat.le_of_ble_eq_true rfl⟩) (fun x9 u10 H locs hw hPD hS => ?_)
    obtain ⟨hP, hD⟩ : PD D A [O11 a11 a7 a5 a3 a2 a6 a4 a10 a9 a1 a0 a8 aN, O6 a6 r6 v6_count, (cI κ (r6 0) 20 f6_known), (cI κ (r6 1) 20 f6_truly), (cI κ (r6 2) 20 f6_drawnAt)] H := hPD
    refine lv_if_ne (tgt := 33) hx hb dX11_well_27 (by decide) (fun c11 => ?_) (fun c11 => ?_)
    · have c11 := ci_ne c11
      refine lv_aload_n hx hb dX11_well_33 rfl (lv_at hl 0 rfl) ?_
      refine va_get (D := D) (ci := 11) (v := .ref a6) (C := RX11) (T := TX11) (N := 12) hx hb hts w1 hown hK.1 hP 0 rfl rfl 4 (by decide) w0 (fun _ h9 => h9) rfl dX11_well_34 ?_
      refine lv_iload_n hx hb dX11_well_37 rfl (lv_at hl 1 rfl) ?_
      refine lv_iload_n hx hb dX11_well_38 rfl (lv_at hl 2 rfl) ?_
      refine lv_iload_n hx hb dX11_well_39 rfl (lv_at hl 3 rfl) ?_
      refine kcm_i hA hAB hP hD hS [false, true, true, true, true] rfl (fun _ => rfl) (fun hPc hDc => va_runV (As := [.int p1, .int p2, .int p3]) (rest := []) ⟨hx, hb, hml, hown, hts⟩ (k_X6_guessedAsWell l D κ β a6 r6 v6_count f6_known f6_truly f6_drawnAt H.size p1 p2 p3 i1) (cwV 3 hts gX11_well_X6_guessedAsWell rfl rfl rfl (by decide +kernel) ⟨Nat.le_of_ble_eq_true rfl, Nat.le_of_ble_eq_true rfl⟩) (pk_V hK hS hAB hPc hDc 0 (ci := 6) rfl rfl rfl) rfl rfl hl.1 rfl (lv_room (Nat.le_of_ble_eq_true rfl)) dX11_well_40 ⟨Nat.le_of_ble_eq_true rfl, Nat.le_of_ble_eq_true rfl⟩) (fun x12 u13 H locs hw hPD hS => ?_)
      obtain ⟨hP, hD⟩ : PD D A [O11 a11 a7 a5 a3 a2 a6 a4 a10 a9 a1 a0 a8 aN, O6 a6 r6 v6_count, (cI κ (r6 0) 20 f6_known), (cI κ (r6 1) 20 f6_truly), (cI κ (r6 2) 20 f6_drawnAt)] H := hPD
      exact ret _ _ _ _ x12 () dX11_well_43 trivial hP hD hS
    have c11 := ci_eq c11
    refine lv_bipush (v := (-2)) hx hb dX11_well_30 (by decide) ?_
    exact ret _ _ _ _ (-2) () dX11_well_32 trivial hP hD hS
  have c8 := ci_eq c8
  refine lv_iconst (v := (-1)) hx hb dX11_well_17 (by decide) ?_
  exact ret _ _ _ _ (-1) () dX11_well_18 trivial hP hD hS
set_option maxHeartbeats 4000000 in
set_option maxRecDepth 100000 in
theorem k_X11_map (l : Launch) (D : va_G) (κ : Nat → ClassId) (β : Nat) (a11 : Nat) (a7 : Nat) (a5 : Nat) (a3 : Nat) (a2 : Nat) (a6 : Nat) (a4 : Nat) (a10 : Nat) (a9 : Nat) (a1 : Nat) (a0 : Nat) (a8 : Nat) (aN : Nat) (r4 : Nat → Nat) (v4_count : Int32) (f4_years : Nat → Int32) (f4_slips : Nat → Int32) (sz : Nat) (p1 : Int32) (p2 : Int32) (i1 : Rg 0 8 v4_count) (hf4_slips : ∀ j : Nat, 0 ≤ (f4_slips j).toInt ∧ (f4_slips j).toInt ≤ 65535) : Met l yX11_map wsX11_map ({ frames := 2, cells := 0, slots := 0, locals := 42 } : Room) (PcK D κ β [O11 a11 a7 a5 a3 a2 a6 a4 a10 a9 a1 a0 a8 aN, O4 a4 r4 v4_count, (cI κ (r4 0) 8 f4_years), (cI κ (r4 1) 8 f4_slips)] sz [.ref a11, .int p1, .int p2]) (QiK D (fun (r : Int32) (u : Int32 × (Nat → Int32) × (Nat → Int32)) => (0 ≤ u.1.toInt ∧ u.1.toInt ≤ 8) ∧ (∀ j : Nat, 0 ≤ (u.2.2 j).toInt ∧ (u.2.2 j).toInt ≤ 65535) ∧ ((¬ (0 ≤ p1.toInt ∧ p1.toInt ≤ 2000 ∧ 0 ≤ p2.toInt ∧ p2.toInt ≤ 65535) ∧ r.toInt = -1 ∧ u.1.toInt = v4_count.toInt) ∨ ((0 ≤ p1.toInt ∧ p1.toInt ≤ 2000 ∧ 0 ≤ p2.toInt ∧ p2.toInt ≤ 65535) ∧ v4_count.toInt = 8 ∧ r.toInt = -3 ∧ u.1.toInt = v4_count.toInt) ∨ ((0 ≤ p1.toInt ∧ p1.toInt ≤ 2000 ∧ 0 ≤ p2.toInt ∧ p2.toInt ≤ 65535) ∧ v4_count.toInt < 8 ∧ r.toInt = v4_count.toInt ∧ u.1.toInt = v4_count.toInt + 1)) ∧ (u.2.1 = mapF p1 p2 v4_count f4_years p1) ∧ (u.2.2 = mapF p1 p2 v4_count f4_slips p2)) (fun (u : Int32 × (Nat → Int32) × (Nat → Int32)) => [O11 a11 a7 a5 a3 a2 a6 a4 a10 a9 a1 a0 a8 aN, O4 a4 r4 u.1, (cI κ (r4 0) 8 u.2.1), (cI κ (r4 1) 8 u.2.2)]) [O11 a11 a7 a5 a3 a2 a6 a4 a10 a9 a1 a0 a8 aN, O4 a4 r4 v4_count, (cI κ (r4 0) 8 f4_years), (cI κ (r4 1) 8 f4_slips)] sz) 0 0 (va_A [O11 a11 a7 a5 a3 a2 a6 a4 a10 a9 a1 a0 a8 aN, O4 a4 r4 v4_count, (cI κ (r4 0) 8 f4_years), (cI κ (r4 1) 8 f4_slips)] sz) := by
  refine ofK_i (cc := cX11_map) (maxL := 3) (own := RX11) (by decide) rfl rfl (Nat.le_of_ble_eq_true rfl) ?_
  intro p e s m args below meth c Q A ls hsz hx hb hml hts hown hK hA hAB hP hD hl ret
  have hS : va_S A s.heap s.heap [] := va_S.rf
  have hl : lv_has ls 3 [(0, .ref a11), (1, .int p1), (2, .int p2)] := hl
  have w0 := hts (.constant RX11 275 (65535)) (List.mem_of_getElem? (i := 1) rfl)
  have w1 := hts (.fieldLink RX11 47 "OlderSkin" "maps" "LOlderSkin$Maps;") (List.mem_of_getElem? (i := 2) rfl)
  have w2 := (fun w h => List.mem_cons_of_mem _ (List.mem_append_left _ (List.mem_append_right _ h)) : ∀ w ∈ u_ws RX11 TX11 12, w ∈ wsX11_map)
  have l0 : (0 : Int32).toInt = 0 := by decide
  have l1 : ((-1) : Int32).toInt = -1 := by decide
  have l2 : (65535 : Int32).toInt = 65535 := by decide
  have i1 : 0 ≤ v4_count.toInt ∧ v4_count.toInt ≤ 8 := i1
  refine lv_iload_n hx hb dX11_map_0 rfl (lv_at hl 1 rfl) ?_
  refine kcm_i hA hAB hP hD hS [false, false, false, false] rfl (fun _ => rfl) (fun hPc hDc => va_runS (As := [.int p1]) (rest := []) ⟨hx, hb, hml, hown, hts⟩ (k_X11_isYear l D κ β s.heap.size p1) (va_cwS 1 hts gX11_map_X11_isYear rfl rfl rfl (by decide +kernel) ⟨Nat.le_of_ble_eq_true rfl, Nat.le_of_ble_eq_true rfl⟩) (pk_S hK hS hAB hPc hDc) rfl rfl hl.1 rfl (lv_room (Nat.le_of_ble_eq_true rfl)) dX11_map_1 ⟨Nat.le_of_ble_eq_true rfl, Nat.le_of_ble_eq_true rfl⟩) (fun x1 u2 H locs hw hPD hS => ?_)
  have h3 : (x1.toInt = 1 ∧ 0 ≤ p1.toInt ∧ p1.toInt ≤ 2000) ∨ (x1.toInt = 0 ∧ (p1.toInt < 0 ∨ 2000 < p1.toInt)) := hw
  obtain ⟨hP, hD⟩ : PD D A [O11 a11 a7 a5 a3 a2 a6 a4 a10 a9 a1 a0 a8 aN, O4 a4 r4 v4_count, (cI κ (r4 0) 8 f4_years), (cI κ (r4 1) 8 f4_slips)] H := hPD
  refine lv_if_eq (tgt := 18) hx hb dX11_map_4 (by decide) (fun c4 => ?_) (fun c4 => ?_)
  · have c4 := ci_eq c4
    refine lv_iconst (v := (-1)) hx hb dX11_map_18 (by decide) ?_
    have hpo : (0 ≤ v4_count.toInt ∧ v4_count.toInt ≤ 8) ∧ (∀ j : Nat, 0 ≤ (f4_slips j).toInt ∧ (f4_slips j).toInt ≤ 65535) ∧ ((¬ (0 ≤ p1.toInt ∧ p1.toInt ≤ 2000 ∧ 0 ≤ p2.toInt ∧ p2.toInt ≤ 65535) ∧ ((-1) : Int32).toInt = -1 ∧ v4_count.toInt = v4_count.toInt) ∨ ((0 ≤ p1.toInt ∧ p1.toInt ≤ 2000 ∧ 0 ≤ p2.toInt ∧ p2.toInt ≤ 65535) ∧ v4_count.toInt = 8 ∧ ((-1) : Int32).toInt = -3 ∧ v4_count.toInt = v4_count.toInt) ∨ ((0 ≤ p1.toInt ∧ p1.toInt ≤ 2000 ∧ 0 ≤ p2.toInt ∧ p2.toInt ≤ 65535) ∧ v4_count.toInt < 8 ∧ ((-1) : Int32).toInt = v4_count.toInt ∧ v4_count.toInt = v4_count.toInt + 1)) ∧ (f4_years = mapF p1 p2 v4_count f4_years p1) ∧ (f4_slips = mapF p1 p2 v4_count f4_slips p2) := ⟨i1, hf4_slips, (by omega), (by first | (rw [mapF_ok (by omega)]; assumption) | exact (mapF_no (by omega)).symm), (by first | (rw [mapF_ok (by omega)]; assumption) | exact (mapF_no (by omega)).symm)⟩
    exact ret _ _ _ _ (-1) (v4_count, f4_years, f4_slips) dX11_map_19 hpo hP hD hS
  have c4 := ci_ne c4
  refine lv_iload_n hx hb dX11_map_7 rfl (lv_at hl 2 rfl) ?_
  refine lv_iconst (v := 0) hx hb dX11_map_8 (by decide) ?_
  refine lv_ldcw (v := 65535) hx hb hown w0 dX11_map_9 ?_
  refine kcm_i hA hAB hP hD hS [false, false, false, false] rfl (fun _ => rfl) (fun hPc hDc => va_runS (As := [.int p2, .int 0, .int 65535]) (rest := []) ⟨hx, hb, hml, hown, hts⟩ (k_X11_within l D κ β H.size p2 0 65535) (va_cwS 3 hts gX11_map_X11_within rfl rfl rfl (by decide +kernel) ⟨Nat.le_of_ble_eq_true rfl, Nat.le_of_ble_eq_true rfl⟩) (pk_S hK hS hAB hPc hDc) rfl rfl hl.1 rfl (lv_room (Nat.le_of_ble_eq_true rfl)) dX11_map_12 ⟨Nat.le_of_ble_eq_true rfl, Nat.le_of_ble_eq_true rfl⟩) (fun x5 u6 H locs hw hPD hS => ?_)
  have h7 : (x5.toInt = 1 ∧ (0 : Int32).toInt ≤ p2.toInt ∧ p2.toInt ≤ (65535 : Int32).toInt) ∨ (x5.toInt = 0 ∧ (p2.toInt < (0 : Int32).toInt ∨ (65535 : Int32).toInt < p2.toInt)) := hw
  obtain ⟨hP, hD⟩ : PD D A [O11 a11 a7 a5 a3 a2 a6 a4 a10 a9 a1 a0 a8 aN, O4 a4 r4 v4_count, (cI κ (r4 0) 8 f4_years), (cI κ (r4 1) 8 f4_slips)] H := hPD
  refine lv_if_ne (tgt := 20) hx hb dX11_map_15 (by decide) (fun c8 => ?_) (fun c8 => ?_)
  · have c8 := ci_ne c8
    refine lv_aload_n hx hb dX11_map_20 rfl (lv_at hl 0 rfl) ?_
    refine va_get (D := D) (ci := 11) (v := .ref a4) (C := RX11) (T := TX11) (N := 12) hx hb hts w2 hown hK.1 hP 0 rfl rfl 5 (by decide) w1 (fun _ h9 => h9) rfl dX11_map_21 ?_
    refine lv_iload_n hx hb dX11_map_24 rfl (lv_at hl 1 rfl) ?_
    refine lv_iload_n hx hb dX11_map_25 rfl (lv_at hl 2 rfl) ?_
    refine kcm_i hA hAB hP hD hS [false, true, true, true] rfl (fun _ => rfl) (fun hPc hDc => va_runV (As := [.int p1, .int p2]) (rest := []) ⟨hx, hb, hml, hown, hts⟩ (k_X4_add l D κ β a4 r4 v4_count f4_years f4_slips H.size p1 p2 i1 hf4_slips (by omega)) (cwV 2 hts gX11_map_X4_add rfl rfl rfl (by decide +kernel) ⟨Nat.le_of_ble_eq_true rfl, Nat.le_of_ble_eq_true rfl⟩) (pk_V hK hS hAB hPc hDc 0 (ci := 4) rfl rfl rfl) rfl rfl hl.1 rfl (lv_room (Nat.le_of_ble_eq_true rfl)) dX11_map_26 ⟨Nat.le_of_ble_eq_true rfl, Nat.le_of_ble_eq_true rfl⟩) (fun x12 u13 H locs hw hPD hS => ?_)
    obtain ⟨x9, g10, g11⟩ := u13
    obtain ⟨h14, h15, h16, h17, h18⟩ : (0 ≤ x9.toInt ∧ x9.toInt ≤ 8) ∧ (∀ j : Nat, 0 ≤ (g11 j).toInt ∧ (g11 j).toInt ≤ 65535) ∧ ((v4_count.toInt = 8 ∧ x12.toInt = -3 ∧ x9.toInt = v4_count.toInt) ∨ (v4_count.toInt < 8 ∧ x12.toInt = v4_count.toInt ∧ x9.toInt = v4_count.toInt + 1)) ∧ (g10 = addF v4_count 8 f4_years p1) ∧ (g11 = addF v4_count 8 f4_slips p2) := hw
    obtain ⟨hP, hD⟩ : PD D A [O11 a11 a7 a5 a3 a2 a6 a4 a10 a9 a1 a0 a8 aN, O4 a4 r4 x9, (cI κ (r4 0) 8 g10), (cI κ (r4 1) 8 g11)] H := hPD
    have hpo : (0 ≤ x9.toInt ∧ x9.toInt ≤ 8) ∧ (∀ j : Nat, 0 ≤ (g11 j).toInt ∧ (g11 j).toInt ≤ 65535) ∧ ((¬ (0 ≤ p1.toInt ∧ p1.toInt ≤ 2000 ∧ 0 ≤ p2.toInt ∧ p2.toInt ≤ 65535) ∧ x12.toInt = -1 ∧ x9.toInt = v4_count.toInt) ∨ ((0 ≤ p1.toInt ∧ p1.toInt ≤ 2000 ∧ 0 ≤ p2.toInt ∧ p2.toInt ≤ 65535) ∧ v4_count.toInt = 8 ∧ x12.toInt = -3 ∧ x9.toInt = v4_count.toInt) ∨ ((0 ≤ p1.toInt ∧ p1.toInt ≤ 2000 ∧ 0 ≤ p2.toInt ∧ p2.toInt ≤ 65535) ∧ v4_count.toInt < 8 ∧ x12.toInt = v4_count.toInt ∧ x9.toInt = v4_count.toInt + 1)) ∧ (g10 = mapF p1 p2 v4_count f4_years p1) ∧ (g11 = mapF p1 p2 v4_count f4_slips p2) := ⟨h14, h15, (by omega), (by first | (rw [mapF_ok (by omega)]; assumption) | exact (mapF_no (by omega)).symm), (by first | (rw [mapF_ok (by omega)]; assumption) | exact (mapF_no (by omega)).symm)⟩
    exact ret _ _ _ _ x12 (x9, g10, g11) dX11_map_29 hpo hP hD hS
  have c8 := ci_eq c8
  refine lv_iconst (v := (-1)) hx hb dX11_map_18 (by decide) ?_
  have hpo : (0 ≤ v4_count.toInt ∧ v4_count.toInt ≤ 8) ∧ (∀ j : Nat, 0 ≤ (f4_slips j).toInt ∧ (f4_slips j).toInt ≤ 65535) ∧ ((¬ (0 ≤ p1.toInt ∧ p1.toInt ≤ 2000 ∧ 0 ≤ p2.toInt ∧ p2.toInt ≤ 65535) ∧ ((-1) : Int32).toInt = -1 ∧ v4_count.toInt = v4_count.toInt) ∨ ((0 ≤ p1.toInt ∧ p1.toInt ≤ 2000 ∧ 0 ≤ p2.toInt ∧ p2.toInt ≤ 65535) ∧ v4_count.toInt = 8 ∧ ((-1) : Int32).toInt = -3 ∧ v4_count.toInt = v4_count.toInt) ∨ ((0 ≤ p1.toInt ∧ p1.toInt ≤ 2000 ∧ 0 ≤ p2.toInt ∧ p2.toInt ≤ 65535) ∧ v4_count.toInt < 8 ∧ ((-1) : Int32).toInt = v4_count.toInt ∧ v4_count.toInt = v4_count.toInt + 1)) ∧ (f4_years = mapF p1 p2 v4_count f4_years p1) ∧ (f4_slips = mapF p1 p2 v4_count f4_slips p2) := ⟨i1, hf4_slips, (by omega), (by first | (rw [mapF_ok (by omega)]; assumption) | exact (mapF_no (by omega)).symm), (by first | (rw [mapF_ok (by omega)]; assumption) | exact (mapF_no (by omega)).symm)⟩
  exact ret _ _ _ _ (-1) (v4_count, f4_years, f4_slips) dX11_map_19 hpo hP hD hS
set_option maxHeartbeats 4000000 in
set_option maxRecDepth 100000 in
theorem k_X11_father (l : Launch) (D : va_G) (κ : Nat → ClassId) (β : Nat) (a11 : Nat) (a7 : Nat) (a5 : Nat) (a3 : Nat) (a2 : Nat) (a6 : Nat) (a4 : Nat) (a10 : Nat) (a9 : Nat) (a1 : Nat) (a0 : Nat) (a8 : Nat) (aN : Nat) (r4 : Nat → Nat) (v4_count : Int32) (f4_years : Nat → Int32) (f4_slips : Nat → Int32) (sz : Nat) (p1 : Int32) (p2 : Int32) (i1 : Rg 0 8 v4_count) (hf4_slips : ∀ j : Nat, 0 ≤ (f4_slips j).toInt ∧ (f4_slips j).toInt ≤ 65535) : Met l yX11_father wsX11_father ({ frames := 4, cells := 0, slots := 0, locals := 90 } : Room) (PcK D κ β [O11 a11 a7 a5 a3 a2 a6 a4 a10 a9 a1 a0 a8 aN, O4 a4 r4 v4_count, (cI κ (r4 0) 8 f4_years), (cI κ (r4 1) 8 f4_slips)] sz [.ref a11, .int p1, .int p2]) (QiK D (fun (r : Int32) (u : Unit) => (¬ (0 ≤ p1.toInt ∧ p1.toInt < v4_count.toInt ∧ 0 ≤ p2.toInt ∧ p2.toInt ≤ 1) ∧ r.toInt = -1) ∨ ((0 ≤ p1.toInt ∧ p1.toInt < v4_count.toInt ∧ 0 ≤ p2.toInt ∧ p2.toInt ≤ 1) ∧ faF f4_years f4_slips p1.toNatClampNeg v4_count.toInt.toNat < 0 ∧ r.toInt = -2) ∨ ((0 ≤ p1.toInt ∧ p1.toInt < v4_count.toInt ∧ 0 ≤ p2.toInt ∧ p2.toInt ≤ 1) ∧ 0 ≤ faF f4_years f4_slips p1.toNatClampNeg v4_count.toInt.toNat ∧ p2.toInt = 0 ∧ r.toInt = faF f4_years f4_slips p1.toNatClampNeg v4_count.toInt.toNat) ∨ ((0 ≤ p1.toInt ∧ p1.toInt < v4_count.toInt ∧ 0 ≤ p2.toInt ∧ p2.toInt ≤ 1) ∧ 0 ≤ faF f4_years f4_slips p1.toNatClampNeg v4_count.toInt.toNat ∧ p2.toInt = 1 ∧ r.toInt = apF f4_slips p1.toNatClampNeg (faF f4_years f4_slips p1.toNatClampNeg v4_count.toInt.toNat).toNat)) (fun (u : Unit) => [O11 a11 a7 a5 a3 a2 a6 a4 a10 a9 a1 a0 a8 aN, O4 a4 r4 v4_count, (cI κ (r4 0) 8 f4_years), (cI κ (r4 1) 8 f4_slips)]) [O11 a11 a7 a5 a3 a2 a6 a4 a10 a9 a1 a0 a8 aN, O4 a4 r4 v4_count, (cI κ (r4 0) 8 f4_years), (cI κ (r4 1) 8 f4_slips)] sz) 0 0 (va_A [O11 a11 a7 a5 a3 a2 a6 a4 a10 a9 a1 a0 a8 aN, O4 a4 r4 v4_count, (cI κ (r4 0) 8 f4_years), (cI κ (r4 1) 8 f4_slips)] sz) := by
  refine ofK_i (cc := cX11_father) (maxL := 4) (own := RX11) (by decide) rfl rfl (Nat.le_of_ble_eq_true rfl) ?_
  intro p e s m args below meth c Q A ls hsz hx hb hml hts hown hK hA hAB hP hD hl ret
  have hS : va_S A s.heap s.heap [] := va_S.rf
  have hl : lv_has ls 4 [(0, .ref a11), (1, .int p1), (2, .int p2)] := hl
  have w0 := hts (.fieldLink RX11 47 "OlderSkin" "maps" "LOlderSkin$Maps;") (List.mem_of_getElem? (i := 1) rfl)
  have w1 := (fun w h => List.mem_cons_of_mem _ (List.mem_append_left _ (List.mem_append_right _ h)) : ∀ w ∈ u_ws RX11 TX11 12, w ∈ wsX11_father)
  have l0 : (0 : Int32).toInt = 0 := by decide
  have l1 : ((-1) : Int32).toInt = -1 := by decide
  have l2 : ((-2) : Int32).toInt = -2 := by decide
  have i1 : 0 ≤ v4_count.toInt ∧ v4_count.toInt ≤ 8 := i1
  refine lv_aload_n hx hb dX11_father_0 rfl (lv_at hl 0 rfl) ?_
  refine va_get (D := D) (ci := 11) (v := .ref a4) (C := RX11) (T := TX11) (N := 12) hx hb hts w1 hown hK.1 hP 0 rfl rfl 5 (by decide) w0 (fun _ h9 => h9) rfl dX11_father_1 ?_
  refine lv_iload_n hx hb dX11_father_4 rfl (lv_at hl 1 rfl) ?_
  refine kcm_i hA hAB hP hD hS [false, true, false, false] rfl (fun _ => rfl) (fun hPc hDc => va_runV (As := [.int p1]) (rest := []) ⟨hx, hb, hml, hown, hts⟩ (k_X4_isMap l D κ β a4 r4 v4_count s.heap.size p1 i1) (cwV 1 hts gX11_father_X4_isMap rfl rfl rfl (by decide +kernel) ⟨Nat.le_of_ble_eq_true rfl, Nat.le_of_ble_eq_true rfl⟩) (pk_V hK hS hAB hPc hDc 0 (ci := 4) rfl rfl rfl) rfl rfl hl.1 rfl (lv_room (Nat.le_of_ble_eq_true rfl)) dX11_father_5 ⟨Nat.le_of_ble_eq_true rfl, Nat.le_of_ble_eq_true rfl⟩) (fun x1 u2 H locs hw hPD hS => ?_)
  have h3 : (x1.toInt = 1 ∧ 0 ≤ p1.toInt ∧ p1.toInt < v4_count.toInt) ∨ (x1.toInt = 0 ∧ (p1.toInt < 0 ∨ v4_count.toInt ≤ p1.toInt)) := hw
  obtain ⟨hP, hD⟩ : PD D A [O11 a11 a7 a5 a3 a2 a6 a4 a10 a9 a1 a0 a8 aN, O4 a4 r4 v4_count, (cI κ (r4 0) 8 f4_years), (cI κ (r4 1) 8 f4_slips)] H := hPD
  refine lv_if_eq (tgt := 18) hx hb dX11_father_8 (by decide) (fun c4 => ?_) (fun c4 => ?_)
  · have c4 := ci_eq c4
    refine lv_iconst (v := (-1)) hx hb dX11_father_18 (by decide) ?_
    have hpo : (¬ (0 ≤ p1.toInt ∧ p1.toInt < v4_count.toInt ∧ 0 ≤ p2.toInt ∧ p2.toInt ≤ 1) ∧ ((-1) : Int32).toInt = -1) ∨ ((0 ≤ p1.toInt ∧ p1.toInt < v4_count.toInt ∧ 0 ≤ p2.toInt ∧ p2.toInt ≤ 1) ∧ faF f4_years f4_slips p1.toNatClampNeg v4_count.toInt.toNat < 0 ∧ ((-1) : Int32).toInt = -2) ∨ ((0 ≤ p1.toInt ∧ p1.toInt < v4_count.toInt ∧ 0 ≤ p2.toInt ∧ p2.toInt ≤ 1) ∧ 0 ≤ faF f4_years f4_slips p1.toNatClampNeg v4_count.toInt.toNat ∧ p2.toInt = 0 ∧ ((-1) : Int32).toInt = faF f4_years f4_slips p1.toNatClampNeg v4_count.toInt.toNat) ∨ ((0 ≤ p1.toInt ∧ p1.toInt < v4_count.toInt ∧ 0 ≤ p2.toInt ∧ p2.toInt ≤ 1) ∧ 0 ≤ faF f4_years f4_slips p1.toNatClampNeg v4_count.toInt.toNat ∧ p2.toInt = 1 ∧ ((-1) : Int32).toInt = apF f4_slips p1.toNatClampNeg (faF f4_years f4_slips p1.toNatClampNeg v4_count.toInt.toNat).toNat) := (by omega)
    exact ret _ _ _ _ (-1) () dX11_father_19 hpo hP hD hS
  have c4 := ci_ne c4
  refine lv_iload_n hx hb dX11_father_11 rfl (lv_at hl 2 rfl) ?_
  refine kcm_i hA hAB hP hD hS [false, false, false, false] rfl (fun _ => rfl) (fun hPc hDc => va_runS (As := [.int p2]) (rest := []) ⟨hx, hb, hml, hown, hts⟩ (k_X11_isBit l D κ β H.size p2) (va_cwS 1 hts gX11_father_X11_isBit rfl rfl rfl (by decide +kernel) ⟨Nat.le_of_ble_eq_true rfl, Nat.le_of_ble_eq_true rfl⟩) (pk_S hK hS hAB hPc hDc) rfl rfl hl.1 rfl (lv_room (Nat.le_of_ble_eq_true rfl)) dX11_father_12 ⟨Nat.le_of_ble_eq_true rfl, Nat.le_of_ble_eq_true rfl⟩) (fun x5 u6 H locs hw hPD hS => ?_)
  have h7 : (x5.toInt = 1 ∧ 0 ≤ p2.toInt ∧ p2.toInt ≤ 1) ∨ (x5.toInt = 0 ∧ (p2.toInt < 0 ∨ 1 < p2.toInt)) := hw
  obtain ⟨hP, hD⟩ : PD D A [O11 a11 a7 a5 a3 a2 a6 a4 a10 a9 a1 a0 a8 aN, O4 a4 r4 v4_count, (cI κ (r4 0) 8 f4_years), (cI κ (r4 1) 8 f4_slips)] H := hPD
  refine lv_if_ne (tgt := 20) hx hb dX11_father_15 (by decide) (fun c8 => ?_) (fun c8 => ?_)
  · have c8 := ci_ne c8
    refine lv_aload_n hx hb dX11_father_20 rfl (lv_at hl 0 rfl) ?_
    refine va_get (D := D) (ci := 11) (v := .ref a4) (C := RX11) (T := TX11) (N := 12) hx hb hts w1 hown hK.1 hP 0 rfl rfl 5 (by decide) w0 (fun _ h9 => h9) rfl dX11_father_21 ?_
    refine lv_iload_n hx hb dX11_father_24 rfl (lv_at hl 1 rfl) ?_
    refine kcm_i hA hAB hP hD hS [false, true, true, true] rfl (fun _ => rfl) (fun hPc hDc => va_runV (As := [.int p1]) (rest := []) ⟨hx, hb, hml, hown, hts⟩ (k_X4_fatherOf l D κ β a4 r4 v4_count f4_years f4_slips H.size p1 i1 hf4_slips (by omega)) (cwV 1 hts gX11_father_X4_fatherOf rfl rfl rfl (by decide +kernel) ⟨Nat.le_of_ble_eq_true rfl, Nat.le_of_ble_eq_true rfl⟩) (pk_V hK hS hAB hPc hDc 0 (ci := 4) rfl rfl rfl) rfl rfl hl.1 rfl (lv_room (Nat.le_of_ble_eq_true rfl)) dX11_father_25 ⟨Nat.le_of_ble_eq_true rfl, Nat.le_of_ble_eq_true rfl⟩) (fun x9 u10 H locs hw hPD hS => ?_)
    obtain ⟨h11, h12⟩ : (-1 ≤ x9.toInt ∧ x9.toInt < v4_count.toInt) ∧ (x9.toInt = faF f4_years f4_slips p1.toNatClampNeg v4_count.toInt.toNat) := hw
    obtain ⟨hP, hD⟩ : PD D A [O11 a11 a7 a5 a3 a2 a6 a4 a10 a9 a1 a0 a8 aN, O4 a4 r4 v4_count, (cI κ (r4 0) 8 f4_years), (cI κ (r4 1) 8 f4_slips)] H := hPD
    refine lv_istore_n (lv' := [(3, .int x9), (0, .ref a11), (1, .int p1), (2, .int p2)]) hx hb dX11_father_28 rfl hl (by decide) rfl (fun ls hl => ?_)
    refine lv_iload_n hx hb dX11_father_29 rfl (lv_at hl 0 rfl) ?_
    refine lv_if_ge (tgt := 36) hx hb dX11_father_30 (by decide) (fun c13 => ?_) (fun c13 => ?_)
    · have c13 := ci_le c13
      refine lv_iload_n hx hb dX11_father_36 rfl (lv_at hl 3 rfl) ?_
      refine lv_if_ne (tgt := 44) hx hb dX11_father_37 (by decide) (fun c14 => ?_) (fun c14 => ?_)
      · have c14 := ci_ne c14
        refine lv_aload_n hx hb dX11_father_44 rfl (lv_at hl 1 rfl) ?_
        refine va_get (D := D) (ci := 11) (v := .ref a4) (C := RX11) (T := TX11) (N := 12) hx hb hts w1 hown hK.1 hP 0 rfl rfl 5 (by decide) w0 (fun _ h9 => h9) rfl dX11_father_45 ?_
        refine lv_iload_n hx hb dX11_father_48 rfl (lv_at hl 2 rfl) ?_
        refine lv_iload_n hx hb dX11_father_49 rfl (lv_at hl 0 rfl) ?_
        refine kcm_i hA hAB hP hD hS [false, true, false, true] rfl (fun _ => rfl) (fun hPc hDc => va_runV (As := [.int p1, .int x9]) (rest := []) ⟨hx, hb, hml, hown, hts⟩ (k_X4_apart l D κ β a4 r4 v4_count f4_slips H.size p1 x9 i1 hf4_slips (by omega) (by omega)) (cwV 2 hts gX11_father_X4_apart rfl rfl rfl (by decide +kernel) ⟨Nat.le_of_ble_eq_true rfl, Nat.le_of_ble_eq_true rfl⟩) (pk_V hK hS hAB hPc hDc 0 (ci := 4) rfl rfl rfl) rfl rfl hl.1 rfl (lv_room (Nat.le_of_ble_eq_true rfl)) dX11_father_50 ⟨Nat.le_of_ble_eq_true rfl, Nat.le_of_ble_eq_true rfl⟩) (fun x15 u16 H locs hw hPD hS => ?_)
        have h17 : x15.toInt = apF f4_slips p1.toNatClampNeg x9.toNatClampNeg := hw
        obtain ⟨hP, hD⟩ : PD D A [O11 a11 a7 a5 a3 a2 a6 a4 a10 a9 a1 a0 a8 aN, O4 a4 r4 v4_count, (cI κ (r4 0) 8 f4_years), (cI κ (r4 1) 8 f4_slips)] H := hPD
        have hfn : (faF f4_years f4_slips p1.toNatClampNeg v4_count.toInt.toNat).toNat = x9.toNatClampNeg := by rw [show faF f4_years f4_slips p1.toNatClampNeg v4_count.toInt.toNat = x9.toInt from by omega]; rfl
        have hfa : x15.toInt = apF f4_slips p1.toNatClampNeg (faF f4_years f4_slips p1.toNatClampNeg v4_count.toInt.toNat).toNat := by rw [hfn]; assumption
        have hpo : (¬ (0 ≤ p1.toInt ∧ p1.toInt < v4_count.toInt ∧ 0 ≤ p2.toInt ∧ p2.toInt ≤ 1) ∧ x15.toInt = -1) ∨ ((0 ≤ p1.toInt ∧ p1.toInt < v4_count.toInt ∧ 0 ≤ p2.toInt ∧ p2.toInt ≤ 1) ∧ faF f4_years f4_slips p1.toNatClampNeg v4_count.toInt.toNat < 0 ∧ x15.toInt = -2) ∨ ((0 ≤ p1.toInt ∧ p1.toInt < v4_count.toInt ∧ 0 ≤ p2.toInt ∧ p2.toInt ≤ 1) ∧ 0 ≤ faF f4_years f4_slips p1.toNatClampNeg v4_count.toInt.toNat ∧ p2.toInt = 0 ∧ x15.toInt = faF f4_years f4_slips p1.toNatClampNeg v4_count.toInt.toNat) ∨ ((0 ≤ p1.toInt ∧ p1.toInt < v4_count.toInt ∧ 0 ≤ p2.toInt ∧ p2.toInt ≤ 1) ∧ 0 ≤ faF f4_years f4_slips p1.toNatClampNeg v4_count.toInt.toNat ∧ p2.toInt = 1 ∧ x15.toInt = apF f4_slips p1.toNatClampNeg (faF f4_years f4_slips p1.toNatClampNeg v4_count.toInt.toNat).toNat) := (by omega)
        exact ret _ _ _ _ x15 () dX11_father_53 hpo hP hD hS
      have c14 := ci_eq c14
      refine lv_iload_n hx hb dX11_father_40 rfl (lv_at hl 0 rfl) ?_
      refine lv_goto (tgt := 53) hx hb dX11_father_41 (by decide) ?_
      have hpo : (¬ (0 ≤ p1.toInt ∧ p1.toInt < v4_count.toInt ∧ 0 ≤ p2.toInt ∧ p2.toInt ≤ 1) ∧ x9.toInt = -1) ∨ ((0 ≤ p1.toInt ∧ p1.toInt < v4_count.toInt ∧ 0 ≤ p2.toInt ∧ p2.toInt ≤ 1) ∧ faF f4_years f4_slips p1.toNatClampNeg v4_count.toInt.toNat < 0 ∧ x9.toInt = -2) ∨ ((0 ≤ p1.toInt ∧ p1.toInt < v4_count.toInt ∧ 0 ≤ p2.toInt ∧ p2.toInt ≤ 1) ∧ 0 ≤ faF f4_years f4_slips p1.toNatClampNeg v4_count.toInt.toNat ∧ p2.toInt = 0 ∧ x9.toInt = faF f4_years f4_slips p1.toNatClampNeg v4_count.toInt.toNat) ∨ ((0 ≤ p1.toInt ∧ p1.toInt < v4_count.toInt ∧ 0 ≤ p2.toInt ∧ p2.toInt ≤ 1) ∧ 0 ≤ faF f4_years f4_slips p1.toNatClampNeg v4_count.toInt.toNat ∧ p2.toInt = 1 ∧ x9.toInt = apF f4_slips p1.toNatClampNeg (faF f4_years f4_slips p1.toNatClampNeg v4_count.toInt.toNat).toNat) := (by omega)
      exact ret _ _ _ _ x9 () dX11_father_53 hpo hP hD hS
    have c13 := ci_nle c13
    refine lv_bipush (v := (-2)) hx hb dX11_father_33 (by decide) ?_
    have hpo : (¬ (0 ≤ p1.toInt ∧ p1.toInt < v4_count.toInt ∧ 0 ≤ p2.toInt ∧ p2.toInt ≤ 1) ∧ ((-2) : Int32).toInt = -1) ∨ ((0 ≤ p1.toInt ∧ p1.toInt < v4_count.toInt ∧ 0 ≤ p2.toInt ∧ p2.toInt ≤ 1) ∧ faF f4_years f4_slips p1.toNatClampNeg v4_count.toInt.toNat < 0 ∧ ((-2) : Int32).toInt = -2) ∨ ((0 ≤ p1.toInt ∧ p1.toInt < v4_count.toInt ∧ 0 ≤ p2.toInt ∧ p2.toInt ≤ 1) ∧ 0 ≤ faF f4_years f4_slips p1.toNatClampNeg v4_count.toInt.toNat ∧ p2.toInt = 0 ∧ ((-2) : Int32).toInt = faF f4_years f4_slips p1.toNatClampNeg v4_count.toInt.toNat) ∨ ((0 ≤ p1.toInt ∧ p1.toInt < v4_count.toInt ∧ 0 ≤ p2.toInt ∧ p2.toInt ≤ 1) ∧ 0 ≤ faF f4_years f4_slips p1.toNatClampNeg v4_count.toInt.toNat ∧ p2.toInt = 1 ∧ ((-2) : Int32).toInt = apF f4_slips p1.toNatClampNeg (faF f4_years f4_slips p1.toNatClampNeg v4_count.toInt.toNat).toNat) := (by omega)
    exact ret _ _ _ _ (-2) () dX11_father_35 hpo hP hD hS
  have c8 := ci_eq c8
  refine lv_iconst (v := (-1)) hx hb dX11_father_18 (by decide) ?_
  have hpo : (¬ (0 ≤ p1.toInt ∧ p1.toInt < v4_count.toInt ∧ 0 ≤ p2.toInt ∧ p2.toInt ≤ 1) ∧ ((-1) : Int32).toInt = -1) ∨ ((0 ≤ p1.toInt ∧ p1.toInt < v4_count.toInt ∧ 0 ≤ p2.toInt ∧ p2.toInt ≤ 1) ∧ faF f4_years f4_slips p1.toNatClampNeg v4_count.toInt.toNat < 0 ∧ ((-1) : Int32).toInt = -2) ∨ ((0 ≤ p1.toInt ∧ p1.toInt < v4_count.toInt ∧ 0 ≤ p2.toInt ∧ p2.toInt ≤ 1) ∧ 0 ≤ faF f4_years f4_slips p1.toNatClampNeg v4_count.toInt.toNat ∧ p2.toInt = 0 ∧ ((-1) : Int32).toInt = faF f4_years f4_slips p1.toNatClampNeg v4_count.toInt.toNat) ∨ ((0 ≤ p1.toInt ∧ p1.toInt < v4_count.toInt ∧ 0 ≤ p2.toInt ∧ p2.toInt ≤ 1) ∧ 0 ≤ faF f4_years f4_slips p1.toNatClampNeg v4_count.toInt.toNat ∧ p2.toInt = 1 ∧ ((-1) : Int32).toInt = apF f4_slips p1.toNatClampNeg (faF f4_years f4_slips p1.toNatClampNeg v4_count.toInt.toNat).toNat) := (by omega)
  exact ret _ _ _ _ (-1) () dX11_father_19 hpo hP hD hS
set_option maxHeartbeats 4000000 in
set_option maxRecDepth 100000 in
theorem k_X11_hangs (l : Launch) (D : va_G) (κ : Nat → ClassId) (β : Nat) (a11 : Nat) (a7 : Nat) (a5 : Nat) (a3 : Nat) (a2 : Nat) (a6 : Nat) (a4 : Nat) (a10 : Nat) (a9 : Nat) (a1 : Nat) (a0 : Nat) (a8 : Nat) (aN : Nat) (r4 : Nat → Nat) (v4_count : Int32) (f4_years : Nat → Int32) (f4_slips : Nat → Int32) (sz : Nat) (p1 : Int32) (i1 : Rg 0 8 v4_count) (hf4_slips : ∀ j : Nat, 0 ≤ (f4_slips j).toInt ∧ (f4_slips j).toInt ≤ 65535) : Met l yX11_hangs wsX11_hangs ({ frames := 5, cells := 0, slots := 0, locals := 114 } : Room) (PcK D κ β [O11 a11 a7 a5 a3 a2 a6 a4 a10 a9 a1 a0 a8 aN, O4 a4 r4 v4_count, (cI κ (r4 0) 8 f4_years), (cI κ (r4 1) 8 f4_slips)] sz [.ref a11, .int p1]) (QiK D (fun (r : Int32) (u : Unit) => (¬ (0 ≤ p1.toInt ∧ p1.toInt / 10 < v4_count.toInt ∧ p1.toInt % 10 < v4_count.toInt) ∧ r.toInt = -1) ∨ ((0 ≤ p1.toInt ∧ p1.toInt / 10 < v4_count.toInt ∧ p1.toInt % 10 < v4_count.toInt) ∧ r.toInt = 1 ∧ rcF f4_years f4_slips v4_count.toInt.toNat (p1 - p1 / 10 * 10).toInt v4_count.toInt.toNat (faF f4_years f4_slips (p1 / 10).toNatClampNeg v4_count.toInt.toNat) = 1) ∨ ((0 ≤ p1.toInt ∧ p1.toInt / 10 < v4_count.toInt ∧ p1.toInt % 10 < v4_count.toInt) ∧ r.toInt = 0 ∧ rcF f4_years f4_slips v4_count.toInt.toNat (p1 - p1 / 10 * 10).toInt v4_count.toInt.toNat (faF f4_years f4_slips (p1 / 10).toNatClampNeg v4_count.toInt.toNat) = 0)) (fun (u : Unit) => [O11 a11 a7 a5 a3 a2 a6 a4 a10 a9 a1 a0 a8 aN, O4 a4 r4 v4_count, (cI κ (r4 0) 8 f4_years), (cI κ (r4 1) 8 f4_slips)]) [O11 a11 a7 a5 a3 a2 a6 a4 a10 a9 a1 a0 a8 aN, O4 a4 r4 v4_count, (cI κ (r4 0) 8 f4_years), (cI κ (r4 1) 8 f4_slips)] sz) 0 0 (va_A [O11 a11 a7 a5 a3 a2 a6 a4 a10 a9 a1 a0 a8 aN, O4 a4 r4 v4_count, (cI κ (r4 0) 8 f4_years), (cI κ (r4 1) 8 f4_slips)] sz) := by
  refine ofK_i (cc := cX11_hangs) (maxL := 4) (own := RX11) (by decide) rfl rfl (Nat.le_of_ble_eq_true rfl) ?_
  intro p e s m args below meth c Q A ls hsz hx hb hml hts hown hK hA hAB hP hD hl ret
  have hS : va_S A s.heap s.heap [] := va_S.rf
  have hl : lv_has ls 4 [(0, .ref a11), (1, .int p1)] := hl
  have w0 := hts (.fieldLink RX11 47 "OlderSkin" "maps" "LOlderSkin$Maps;") (List.mem_of_getElem? (i := 1) rfl)
  have w1 := (fun w h => List.mem_cons_of_mem _ (List.mem_append_left _ (List.mem_append_right _ h)) : ∀ w ∈ u_ws RX11 TX11 12, w ∈ wsX11_hangs)
  have l0 : (10 : Int32).toInt = 10 := by decide
  have l1 : (0 : Int32).toInt = 0 := by decide
  have l2 : ((-1) : Int32).toInt = -1 := by decide
  have i1 : 0 ≤ v4_count.toInt ∧ v4_count.toInt ≤ 8 := i1
  refine lv_iload_n hx hb dX11_hangs_0 rfl (lv_at hl 1 rfl) ?_
  refine lv_bipush (v := 10) hx hb dX11_hangs_1 (by decide) ?_
  refine lv_idiv hx hb dX11_hangs_3 (by decide) ?_
  refine lv_topi (fun x1 e2 => ?_)
  have h3 := ci_divL (n := 10) (by decide) (by decide) e2
  have hd0 : x1 = p1 / 10 := e2
  have hd1 : x1.toInt = (p1 / 10).toInt := congrArg Int32.toInt e2
  have hd2 := fr_div (n := 10) (by decide) (by decide) e2
  refine lv_istore_n (lv' := [(2, .int x1), (0, .ref a11), (1, .int p1)]) hx hb dX11_hangs_4 rfl hl (by decide) rfl (fun ls hl => ?_)
  refine lv_iload_n hx hb dX11_hangs_5 rfl (lv_at hl 2 rfl) ?_
  refine lv_bipush (v := 10) hx hb dX11_hangs_6 (by decide) ?_
  refine lv_irem hx hb dX11_hangs_8 (by decide) ?_
  refine lv_topi (fun x4 e5 => ?_)
  have h6 := ci_remL (n := 10) (by decide) (by decide) e5
  have hr0 : x4 = p1 - p1 / 10 * 10 := e5
  have hr1 : x4.toInt = (p1 - p1 / 10 * 10).toInt := congrArg Int32.toInt e5
  have hr2 := fr_rem (n := 10) (by decide) (by decide) e5
  refine lv_istore_n (lv' := [(3, .int x4), (2, .int x1), (0, .ref a11), (1, .int p1)]) hx hb dX11_hangs_9 rfl hl (by decide) rfl (fun ls hl => ?_)
  refine lv_aload_n hx hb dX11_hangs_10 rfl (lv_at hl 2 rfl) ?_
  refine va_get (D := D) (ci := 11) (v := .ref a4) (C := RX11) (T := TX11) (N := 12) hx hb hts w1 hown hK.1 hP 0 rfl rfl 5 (by decide) w0 (fun _ h9 => h9) rfl dX11_hangs_11 ?_
  refine lv_iload_n hx hb dX11_hangs_14 rfl (lv_at hl 1 rfl) ?_
  refine kcm_i hA hAB hP hD hS [false, true, false, false] rfl (fun _ => rfl) (fun hPc hDc => va_runV (As := [.int x1]) (rest := []) ⟨hx, hb, hml, hown, hts⟩ (k_X4_isMap l D κ β a4 r4 v4_count s.heap.size x1 i1) (cwV 1 hts gX11_hangs_X4_isMap rfl rfl rfl (by decide +kernel) ⟨Nat.le_of_ble_eq_true rfl, Nat.le_of_ble_eq_true rfl⟩) (pk_V hK hS hAB hPc hDc 0 (ci := 4) rfl rfl rfl) rfl rfl hl.1 rfl (lv_room (Nat.le_of_ble_eq_true rfl)) dX11_hangs_15 ⟨Nat.le_of_ble_eq_true rfl, Nat.le_of_ble_eq_true rfl⟩) (fun x7 u8 H locs hw hPD hS => ?_)
  have h9 : (x7.toInt = 1 ∧ 0 ≤ x1.toInt ∧ x1.toInt < v4_count.toInt) ∨ (x7.toInt = 0 ∧ (x1.toInt < 0 ∨ v4_count.toInt ≤ x1.toInt)) := hw
  obtain ⟨hP, hD⟩ : PD D A [O11 a11 a7 a5 a3 a2 a6 a4 a10 a9 a1 a0 a8 aN, O4 a4 r4 v4_count, (cI κ (r4 0) 8 f4_years), (cI κ (r4 1) 8 f4_slips)] H := hPD
  refine lv_if_eq (tgt := 32) hx hb dX11_hangs_18 (by decide) (fun c10 => ?_) (fun c10 => ?_)
  · have c10 := ci_eq c10
    refine lv_iconst (v := (-1)) hx hb dX11_hangs_32 (by decide) ?_
    have hpo : (¬ (0 ≤ p1.toInt ∧ p1.toInt / 10 < v4_count.toInt ∧ p1.toInt % 10 < v4_count.toInt) ∧ ((-1) : Int32).toInt = -1) ∨ ((0 ≤ p1.toInt ∧ p1.toInt / 10 < v4_count.toInt ∧ p1.toInt % 10 < v4_count.toInt) ∧ ((-1) : Int32).toInt = 1 ∧ rcF f4_years f4_slips v4_count.toInt.toNat (p1 - p1 / 10 * 10).toInt v4_count.toInt.toNat (faF f4_years f4_slips (p1 / 10).toNatClampNeg v4_count.toInt.toNat) = 1) ∨ ((0 ≤ p1.toInt ∧ p1.toInt / 10 < v4_count.toInt ∧ p1.toInt % 10 < v4_count.toInt) ∧ ((-1) : Int32).toInt = 0 ∧ rcF f4_years f4_slips v4_count.toInt.toNat (p1 - p1 / 10 * 10).toInt v4_count.toInt.toNat (faF f4_years f4_slips (p1 / 10).toNatClampNeg v4_count.toInt.toNat) = 0) := (by omega)
    exact ret _ _ _ _ (-1) () dX11_hangs_33 hpo hP hD hS
  have c10 := ci_ne c10
  refine lv_aload_n hx hb dX11_hangs_21 rfl (lv_at hl 2 rfl) ?_
  refine va_get (D := D) (ci := 11) (v := .ref a4) (C := RX11) (T := TX11) (N := 12) hx hb hts w1 hown hK.1 hP 0 rfl rfl 5 (by decide) w0 (fun _ h9 => h9) rfl dX11_hangs_22 ?_
  refine lv_iload_n hx hb dX11_hangs_25 rfl (lv_at hl 0 rfl) ?_
  refine kcm_i hA hAB hP hD hS [false, true, false, false] rfl (fun _ => rfl) (fun hPc hDc => va_runV (As := [.int x4]) (rest := []) ⟨hx, hb, hml, hown, hts⟩ (k_X4_isMap l D κ β a4 r4 v4_count H.size x4 i1) (cwV 1 hts gX11_hangs_X4_isMap rfl rfl rfl (by decide +kernel) ⟨Nat.le_of_ble_eq_true rfl, Nat.le_of_ble_eq_true rfl⟩) (pk_V hK hS hAB hPc hDc 0 (ci := 4) rfl rfl rfl) rfl rfl hl.1 rfl (lv_room (Nat.le_of_ble_eq_true rfl)) dX11_hangs_26 ⟨Nat.le_of_ble_eq_true rfl, Nat.le_of_ble_eq_true rfl⟩) (fun x11 u12 H locs hw hPD hS => ?_)
  have h13 : (x11.toInt = 1 ∧ 0 ≤ x4.toInt ∧ x4.toInt < v4_count.toInt) ∨ (x11.toInt = 0 ∧ (x4.toInt < 0 ∨ v4_count.toInt ≤ x4.toInt)) := hw
  obtain ⟨hP, hD⟩ : PD D A [O11 a11 a7 a5 a3 a2 a6 a4 a10 a9 a1 a0 a8 aN, O4 a4 r4 v4_count, (cI κ (r4 0) 8 f4_years), (cI κ (r4 1) 8 f4_slips)] H := hPD
  refine lv_if_ne (tgt := 34) hx hb dX11_hangs_29 (by decide) (fun c14 => ?_) (fun c14 => ?_)
  · have c14 := ci_ne c14
    refine lv_aload_n hx hb dX11_hangs_34 rfl (lv_at hl 2 rfl) ?_
    refine va_get (D := D) (ci := 11) (v := .ref a4) (C := RX11) (T := TX11) (N := 12) hx hb hts w1 hown hK.1 hP 0 rfl rfl 5 (by decide) w0 (fun _ h9 => h9) rfl dX11_hangs_35 ?_
    refine lv_iload_n hx hb dX11_hangs_38 rfl (lv_at hl 1 rfl) ?_
    refine lv_iload_n hx hb dX11_hangs_39 rfl (lv_at hl 0 rfl) ?_
    refine kcm_i hA hAB hP hD hS [false, true, true, true] rfl (fun _ => rfl) (fun hPc hDc => va_runV (As := [.int x1, .int x4]) (rest := []) ⟨hx, hb, hml, hown, hts⟩ (k_X4_leadsTo l D κ β a4 r4 v4_count f4_years f4_slips H.size x1 x4 i1 hf4_slips (by omega)) (cwV 2 hts gX11_hangs_X4_leadsTo rfl rfl rfl (by decide +kernel) ⟨Nat.le_of_ble_eq_true rfl, Nat.le_of_ble_eq_true rfl⟩) (pk_V hK hS hAB hPc hDc 0 (ci := 4) rfl rfl rfl) rfl rfl hl.1 rfl (lv_room (Nat.le_of_ble_eq_true rfl)) dX11_hangs_40 ⟨Nat.le_of_ble_eq_true rfl, Nat.le_of_ble_eq_true rfl⟩) (fun x15 u16 H locs hw hPD hS => ?_)
    have h17 : (x15.toInt = 1 ∧ rcF f4_years f4_slips v4_count.toInt.toNat x4.toInt v4_count.toInt.toNat (faF f4_years f4_slips x1.toNatClampNeg v4_count.toInt.toNat) = 1) ∨ (x15.toInt = 0 ∧ rcF f4_years f4_slips v4_count.toInt.toNat x4.toInt v4_count.toInt.toNat (faF f4_years f4_slips x1.toNatClampNeg v4_count.toInt.toNat) = 0) := hw
    obtain ⟨hP, hD⟩ : PD D A [O11 a11 a7 a5 a3 a2 a6 a4 a10 a9 a1 a0 a8 aN, O4 a4 r4 v4_count, (cI κ (r4 0) 8 f4_years), (cI κ (r4 1) 8 f4_slips)] H := hPD
    have hlr : (x15.toInt = 1 ∧ rcF f4_years f4_slips v4_count.toInt.toNat (p1 - p1 / 10 * 10).toInt v4_count.toInt.toNat (faF f4_years f4_slips (p1 / 10).toNatClampNeg v4_count.toInt.toNat) = 1) ∨ (x15.toInt = 0 ∧ rcF f4_years f4_slips v4_count.toInt.toNat (p1 - p1 / 10 * 10).toInt v4_count.toInt.toNat (faF f4_years f4_slips (p1 / 10).toNatClampNeg v4_count.toInt.toNat) = 0) := by rw [← hr0, ← hd0]; assumption
    refine kcm_i hA hAB hP hD hS [false, false, false, false] rfl (fun _ => rfl) (fun hPc hDc => va_runS (As := [.int x15]) (rest := []) ⟨hx, hb, hml, hown, hts⟩ (k_X11_asBit l D κ β H.size x15) (va_cwS 1 hts gX11_hangs_X11_asBit rfl rfl rfl (by decide +kernel) ⟨Nat.le_of_ble_eq_true rfl, Nat.le_of_ble_eq_true rfl⟩) (pk_S hK hS hAB hPc hDc) rfl rfl hl.1 rfl (lv_room (Nat.le_of_ble_eq_true rfl)) dX11_hangs_43 ⟨Nat.le_of_ble_eq_true rfl, Nat.le_of_ble_eq_true rfl⟩) (fun x18 u19 H locs hw hPD hS => ?_)
    have h20 : (x18.toInt = 1 ∧ x15.toInt ≠ 0) ∨ (x18.toInt = 0 ∧ x15.toInt = 0) := hw
    obtain ⟨hP, hD⟩ : PD D A [O11 a11 a7 a5 a3 a2 a6 a4 a10 a9 a1 a0 a8 aN, O4 a4 r4 v4_count, (cI κ (r4 0) 8 f4_years), (cI κ (r4 1) 8 f4_slips)] H := hPD
    have hpo : (¬ (0 ≤ p1.toInt ∧ p1.toInt / 10 < v4_count.toInt ∧ p1.toInt % 10 < v4_count.toInt) ∧ x18.toInt = -1) ∨ ((0 ≤ p1.toInt ∧ p1.toInt / 10 < v4_count.toInt ∧ p1.toInt % 10 < v4_count.toInt) ∧ x18.toInt = 1 ∧ rcF f4_years f4_slips v4_count.toInt.toNat (p1 - p1 / 10 * 10).toInt v4_count.toInt.toNat (faF f4_years f4_slips (p1 / 10).toNatClampNeg v4_count.toInt.toNat) = 1) ∨ ((0 ≤ p1.toInt ∧ p1.toInt / 10 < v4_count.toInt ∧ p1.toInt % 10 < v4_count.toInt) ∧ x18.toInt = 0 ∧ rcF f4_years f4_slips v4_count.toInt.toNat (p1 - p1 / 10 * 10).toInt v4_count.toInt.toNat (faF f4_years f4_slips (p1 / 10).toNatClampNeg v4_count.toInt.toNat) = 0) := (by omega)
    exact ret _ _ _ _ x18 () dX11_hangs_46 hpo hP hD hS
  have c14 := ci_eq c14
  refine lv_iconst (v := (-1)) hx hb dX11_hangs_32 (by decide) ?_
  have hpo : (¬ (0 ≤ p1.toInt ∧ p1.toInt / 10 < v4_count.toInt ∧ p1.toInt % 10 < v4_count.toInt) ∧ ((-1) : Int32).toInt = -1) ∨ ((0 ≤ p1.toInt ∧ p1.toInt / 10 < v4_count.toInt ∧ p1.toInt % 10 < v4_count.toInt) ∧ ((-1) : Int32).toInt = 1 ∧ rcF f4_years f4_slips v4_count.toInt.toNat (p1 - p1 / 10 * 10).toInt v4_count.toInt.toNat (faF f4_years f4_slips (p1 / 10).toNatClampNeg v4_count.toInt.toNat) = 1) ∨ ((0 ≤ p1.toInt ∧ p1.toInt / 10 < v4_count.toInt ∧ p1.toInt % 10 < v4_count.toInt) ∧ ((-1) : Int32).toInt = 0 ∧ rcF f4_years f4_slips v4_count.toInt.toNat (p1 - p1 / 10 * 10).toInt v4_count.toInt.toNat (faF f4_years f4_slips (p1 / 10).toNatClampNeg v4_count.toInt.toNat) = 0) := (by omega)
  exact ret _ _ _ _ (-1) () dX11_hangs_33 hpo hP hD hS
set_option maxHeartbeats 4000000 in
set_option maxRecDepth 100000 in
theorem k_X11_shared (l : Launch) (D : va_G) (κ : Nat → ClassId) (β : Nat) (a11 : Nat) (a7 : Nat) (a5 : Nat) (a3 : Nat) (a2 : Nat) (a6 : Nat) (a4 : Nat) (a10 : Nat) (a9 : Nat) (a1 : Nat) (a0 : Nat) (a8 : Nat) (aN : Nat) (r4 : Nat → Nat) (v4_count : Int32) (f4_years : Nat → Int32) (f4_slips : Nat → Int32) (sz : Nat) (p1 : Int32) (i1 : Rg 0 8 v4_count) (hf4_slips : ∀ j : Nat, 0 ≤ (f4_slips j).toInt ∧ (f4_slips j).toInt ≤ 65535) : Met l yX11_shared wsX11_shared ({ frames := 5, cells := 0, slots := 0, locals := 113 } : Room) (PcK D κ β [O11 a11 a7 a5 a3 a2 a6 a4 a10 a9 a1 a0 a8 aN, O4 a4 r4 v4_count, (cI κ (r4 0) 8 f4_years), (cI κ (r4 1) 8 f4_slips)] sz [.ref a11, .int p1]) (QiK D (fun (r : Int32) (u : Unit) => (p1.toInt = -1 ∧ r.toInt = trF f4_years f4_slips v4_count.toInt.toNat v4_count.toInt.toNat) ∨ (p1.toInt ≠ -1 ∧ ¬ (0 ≤ p1.toInt ∧ p1.toInt / 10 < v4_count.toInt ∧ p1.toInt % 10 < v4_count.toInt ∧ p1.toInt / 10 ≠ p1.toInt % 10) ∧ r.toInt = -1) ∨ (p1.toInt ≠ -1 ∧ (0 ≤ p1.toInt ∧ p1.toInt / 10 < v4_count.toInt ∧ p1.toInt % 10 < v4_count.toInt ∧ p1.toInt / 10 ≠ p1.toInt % 10) ∧ r.toInt = (shF f4_slips (p1 / 10) (p1 - p1 / 10 * 10) v4_count.toInt.toNat).toInt)) (fun (u : Unit) => [O11 a11 a7 a5 a3 a2 a6 a4 a10 a9 a1 a0 a8 aN, O4 a4 r4 v4_count, (cI κ (r4 0) 8 f4_years), (cI κ (r4 1) 8 f4_slips)]) [O11 a11 a7 a5 a3 a2 a6 a4 a10 a9 a1 a0 a8 aN, O4 a4 r4 v4_count, (cI κ (r4 0) 8 f4_years), (cI κ (r4 1) 8 f4_slips)] sz) 0 0 (va_A [O11 a11 a7 a5 a3 a2 a6 a4 a10 a9 a1 a0 a8 aN, O4 a4 r4 v4_count, (cI κ (r4 0) 8 f4_years), (cI κ (r4 1) 8 f4_slips)] sz) := by
  refine ofK_i (cc := cX11_shared) (maxL := 4) (own := RX11) (by decide) rfl rfl (Nat.le_of_ble_eq_true rfl) ?_
  intro p e s m args below meth c Q A ls hsz hx hb hml hts hown hK hA hAB hP hD hl ret
  have hS : va_S A s.heap s.heap [] := va_S.rf
  have hl : lv_has ls 4 [(0, .ref a11), (1, .int p1)] := hl
  have w0 := hts (.fieldLink RX11 47 "OlderSkin" "maps" "LOlderSkin$Maps;") (List.mem_of_getElem? (i := 1) rfl)
  have w1 := (fun w h => List.mem_cons_of_mem _ (List.mem_append_left _ (List.mem_append_right _ h)) : ∀ w ∈ u_ws RX11 TX11 12, w ∈ wsX11_shared)
  have l0 : ((-1) : Int32).toInt = -1 := by decide
  have l1 : (0 : Int32).toInt = 0 := by decide
  have l2 : (10 : Int32).toInt = 10 := by decide
  have i1 : 0 ≤ v4_count.toInt ∧ v4_count.toInt ≤ 8 := i1
  refine lv_iload_n hx hb dX11_shared_0 rfl (lv_at hl 1 rfl) ?_
  refine lv_iconst (v := (-1)) hx hb dX11_shared_1 (by decide) ?_
  refine lv_icmp_ne (tgt := 13) hx hb dX11_shared_2 (by decide) (fun c1 => ?_) (fun c1 => ?_)
  · have c1 := ci_ne c1
    refine lv_iload_n hx hb dX11_shared_13 rfl (lv_at hl 1 rfl) ?_
    refine lv_bipush (v := 10) hx hb dX11_shared_14 (by decide) ?_
    refine lv_idiv hx hb dX11_shared_16 (by decide) ?_
    refine lv_topi (fun x2 e3 => ?_)
    have h4 := ci_divL (n := 10) (by decide) (by decide) e3
    have hd0 : x2 = p1 / 10 := e3
    have hd1 : x2.toInt = (p1 / 10).toInt := congrArg Int32.toInt e3
    have hd2 := fr_div (n := 10) (by decide) (by decide) e3
    refine lv_istore_n (lv' := [(2, .int x2), (0, .ref a11), (1, .int p1)]) hx hb dX11_shared_17 rfl hl (by decide) rfl (fun ls hl => ?_)
    refine lv_iload_n hx hb dX11_shared_18 rfl (lv_at hl 2 rfl) ?_
    refine lv_bipush (v := 10) hx hb dX11_shared_19 (by decide) ?_
    refine lv_irem hx hb dX11_shared_21 (by decide) ?_
    refine lv_topi (fun x5 e6 => ?_)
    have h7 := ci_remL (n := 10) (by decide) (by decide) e6
    have hr0 : x5 = p1 - p1 / 10 * 10 := e6
    have hr1 : x5.toInt = (p1 - p1 / 10 * 10).toInt := congrArg Int32.toInt e6
    have hr2 := fr_rem (n := 10) (by decide) (by decide) e6
    refine lv_istore_n (lv' := [(3, .int x5), (2, .int x2), (0, .ref a11), (1, .int p1)]) hx hb dX11_shared_22 rfl hl (by decide) rfl (fun ls hl => ?_)
    refine lv_aload_n hx hb dX11_shared_23 rfl (lv_at hl 2 rfl) ?_
    refine va_get (D := D) (ci := 11) (v := .ref a4) (C := RX11) (T := TX11) (N := 12) hx hb hts w1 hown hK.1 hP 0 rfl rfl 5 (by decide) w0 (fun _ h9 => h9) rfl dX11_shared_24 ?_
    refine lv_iload_n hx hb dX11_shared_27 rfl (lv_at hl 1 rfl) ?_
    refine kcm_i hA hAB hP hD hS [false, true, false, false] rfl (fun _ => rfl) (fun hPc hDc => va_runV (As := [.int x2]) (rest := []) ⟨hx, hb, hml, hown, hts⟩ (k_X4_isMap l D κ β a4 r4 v4_count s.heap.size x2 i1) (cwV 1 hts gX11_shared_X4_isMap rfl rfl rfl (by decide +kernel) ⟨Nat.le_of_ble_eq_true rfl, Nat.le_of_ble_eq_true rfl⟩) (pk_V hK hS hAB hPc hDc 0 (ci := 4) rfl rfl rfl) rfl rfl hl.1 rfl (lv_room (Nat.le_of_ble_eq_true rfl)) dX11_shared_28 ⟨Nat.le_of_ble_eq_true rfl, Nat.le_of_ble_eq_true rfl⟩) (fun x8 u9 H locs hw hPD hS => ?_)
    have h10 : (x8.toInt = 1 ∧ 0 ≤ x2.toInt ∧ x2.toInt < v4_count.toInt) ∨ (x8.toInt = 0 ∧ (x2.toInt < 0 ∨ v4_count.toInt ≤ x2.toInt)) := hw
    obtain ⟨hP, hD⟩ : PD D A [O11 a11 a7 a5 a3 a2 a6 a4 a10 a9 a1 a0 a8 aN, O4 a4 r4 v4_count, (cI κ (r4 0) 8 f4_years), (cI κ (r4 1) 8 f4_slips)] H := hPD
    refine lv_if_eq (tgt := 50) hx hb dX11_shared_31 (by decide) (fun c11 => ?_) (fun c11 => ?_)
    · have c11 := ci_eq c11
      refine lv_iconst (v := (-1)) hx hb dX11_shared_50 (by decide) ?_
      have hpo : (p1.toInt = -1 ∧ ((-1) : Int32).toInt = trF f4_years f4_slips v4_count.toInt.toNat v4_count.toInt.toNat) ∨ (p1.toInt ≠ -1 ∧ ¬ (0 ≤ p1.toInt ∧ p1.toInt / 10 < v4_count.toInt ∧ p1.toInt % 10 < v4_count.toInt ∧ p1.toInt / 10 ≠ p1.toInt % 10) ∧ ((-1) : Int32).toInt = -1) ∨ (p1.toInt ≠ -1 ∧ (0 ≤ p1.toInt ∧ p1.toInt / 10 < v4_count.toInt ∧ p1.toInt % 10 < v4_count.toInt ∧ p1.toInt / 10 ≠ p1.toInt % 10) ∧ ((-1) : Int32).toInt = (shF f4_slips (p1 / 10) (p1 - p1 / 10 * 10) v4_count.toInt.toNat).toInt) := (by omega)
      exact ret _ _ _ _ (-1) () dX11_shared_51 hpo hP hD hS
    have c11 := ci_ne c11
    refine lv_aload_n hx hb dX11_shared_34 rfl (lv_at hl 2 rfl) ?_
    refine va_get (D := D) (ci := 11) (v := .ref a4) (C := RX11) (T := TX11) (N := 12) hx hb hts w1 hown hK.1 hP 0 rfl rfl 5 (by decide) w0 (fun _ h9 => h9) rfl dX11_shared_35 ?_
    refine lv_iload_n hx hb dX11_shared_38 rfl (lv_at hl 0 rfl) ?_
    refine kcm_i hA hAB hP hD hS [false, true, false, false] rfl (fun _ => rfl) (fun hPc hDc => va_runV (As := [.int x5]) (rest := []) ⟨hx, hb, hml, hown, hts⟩ (k_X4_isMap l D κ β a4 r4 v4_count H.size x5 i1) (cwV 1 hts gX11_shared_X4_isMap rfl rfl rfl (by decide +kernel) ⟨Nat.le_of_ble_eq_true rfl, Nat.le_of_ble_eq_true rfl⟩) (pk_V hK hS hAB hPc hDc 0 (ci := 4) rfl rfl rfl) rfl rfl hl.1 rfl (lv_room (Nat.le_of_ble_eq_true rfl)) dX11_shared_39 ⟨Nat.le_of_ble_eq_true rfl, Nat.le_of_ble_eq_true rfl⟩) (fun x12 u13 H locs hw hPD hS => ?_)
    have h14 : (x12.toInt = 1 ∧ 0 ≤ x5.toInt ∧ x5.toInt < v4_count.toInt) ∨ (x12.toInt = 0 ∧ (x5.toInt < 0 ∨ v4_count.toInt ≤ x5.toInt)) := hw
    obtain ⟨hP, hD⟩ : PD D A [O11 a11 a7 a5 a3 a2 a6 a4 a10 a9 a1 a0 a8 aN, O4 a4 r4 v4_count, (cI κ (r4 0) 8 f4_years), (cI κ (r4 1) 8 f4_slips)] H := hPD
    refine lv_if_eq (tgt := 50) hx hb dX11_shared_42 (by decide) (fun c15 => ?_) (fun c15 => ?_)
    · have c15 := ci_eq c15
      refine lv_iconst (v := (-1)) hx hb dX11_shared_50 (by decide) ?_
      have hpo : (p1.toInt = -1 ∧ ((-1) : Int32).toInt = trF f4_years f4_slips v4_count.toInt.toNat v4_count.toInt.toNat) ∨ (p1.toInt ≠ -1 ∧ ¬ (0 ≤ p1.toInt ∧ p1.toInt / 10 < v4_count.toInt ∧ p1.toInt % 10 < v4_count.toInt ∧ p1.toInt / 10 ≠ p1.toInt % 10) ∧ ((-1) : Int32).toInt = -1) ∨ (p1.toInt ≠ -1 ∧ (0 ≤ p1.toInt ∧ p1.toInt / 10 < v4_count.toInt ∧ p1.toInt % 10 < v4_count.toInt ∧ p1.toInt / 10 ≠ p1.toInt % 10) ∧ ((-1) : Int32).toInt = (shF f4_slips (p1 / 10) (p1 - p1 / 10 * 10) v4_count.toInt.toNat).toInt) := (by omega)
      exact ret _ _ _ _ (-1) () dX11_shared_51 hpo hP hD hS
    have c15 := ci_ne c15
    refine lv_iload_n hx hb dX11_shared_45 rfl (lv_at hl 1 rfl) ?_
    refine lv_iload_n hx hb dX11_shared_46 rfl (lv_at hl 0 rfl) ?_
    refine lv_icmp_ne (tgt := 52) hx hb dX11_shared_47 (by decide) (fun c16 => ?_) (fun c16 => ?_)
    · have c16 := ci_ne c16
      refine lv_aload_n hx hb dX11_shared_52 rfl (lv_at hl 2 rfl) ?_
      refine va_get (D := D) (ci := 11) (v := .ref a4) (C := RX11) (T := TX11) (N := 12) hx hb hts w1 hown hK.1 hP 0 rfl rfl 5 (by decide) w0 (fun _ h9 => h9) rfl dX11_shared_53 ?_
      refine lv_iload_n hx hb dX11_shared_56 rfl (lv_at hl 1 rfl) ?_
      refine lv_iload_n hx hb dX11_shared_57 rfl (lv_at hl 0 rfl) ?_
      refine kcm_i hA hAB hP hD hS [false, true, false, true] rfl (fun _ => rfl) (fun hPc hDc => va_runV (As := [.int x2, .int x5]) (rest := []) ⟨hx, hb, hml, hown, hts⟩ (k_X4_sharedSlips l D κ β a4 r4 v4_count f4_slips H.size x2 x5 i1 hf4_slips (by omega) (by omega)) (cwV 2 hts gX11_shared_X4_sharedSlips rfl rfl rfl (by decide +kernel) ⟨Nat.le_of_ble_eq_true rfl, Nat.le_of_ble_eq_true rfl⟩) (pk_V hK hS hAB hPc hDc 0 (ci := 4) rfl rfl rfl) rfl rfl hl.1 rfl (lv_room (Nat.le_of_ble_eq_true rfl)) dX11_shared_58 ⟨Nat.le_of_ble_eq_true rfl, Nat.le_of_ble_eq_true rfl⟩) (fun x17 u18 H locs hw hPD hS => ?_)
      have h19 : x17 = shF f4_slips x2 x5 v4_count.toInt.toNat := hw
      obtain ⟨hP, hD⟩ : PD D A [O11 a11 a7 a5 a3 a2 a6 a4 a10 a9 a1 a0 a8 aN, O4 a4 r4 v4_count, (cI κ (r4 0) 8 f4_years), (cI κ (r4 1) 8 f4_slips)] H := hPD
      have hsf : x17.toInt = (shF f4_slips (p1 / 10) (p1 - p1 / 10 * 10) v4_count.toInt.toNat).toInt := by rw [← hr0, ← hd0]; exact congrArg Int32.toInt (by assumption)
      have hpo : (p1.toInt = -1 ∧ x17.toInt = trF f4_years f4_slips v4_count.toInt.toNat v4_count.toInt.toNat) ∨ (p1.toInt ≠ -1 ∧ ¬ (0 ≤ p1.toInt ∧ p1.toInt / 10 < v4_count.toInt ∧ p1.toInt % 10 < v4_count.toInt ∧ p1.toInt / 10 ≠ p1.toInt % 10) ∧ x17.toInt = -1) ∨ (p1.toInt ≠ -1 ∧ (0 ≤ p1.toInt ∧ p1.toInt / 10 < v4_count.toInt ∧ p1.toInt % 10 < v4_count.toInt ∧ p1.toInt / 10 ≠ p1.toInt % 10) ∧ x17.toInt = (shF f4_slips (p1 / 10) (p1 - p1 / 10 * 10) v4_count.toInt.toNat).toInt) := (by omega)
      exact ret _ _ _ _ x17 () dX11_shared_61 hpo hP hD hS
    have c16 := ci_eq c16
    refine lv_iconst (v := (-1)) hx hb dX11_shared_50 (by decide) ?_
    have hpo : (p1.toInt = -1 ∧ ((-1) : Int32).toInt = trF f4_years f4_slips v4_count.toInt.toNat v4_count.toInt.toNat) ∨ (p1.toInt ≠ -1 ∧ ¬ (0 ≤ p1.toInt ∧ p1.toInt / 10 < v4_count.toInt ∧ p1.toInt % 10 < v4_count.toInt ∧ p1.toInt / 10 ≠ p1.toInt % 10) ∧ ((-1) : Int32).toInt = -1) ∨ (p1.toInt ≠ -1 ∧ (0 ≤ p1.toInt ∧ p1.toInt / 10 < v4_count.toInt ∧ p1.toInt % 10 < v4_count.toInt ∧ p1.toInt / 10 ≠ p1.toInt % 10) ∧ ((-1) : Int32).toInt = (shF f4_slips (p1 / 10) (p1 - p1 / 10 * 10) v4_count.toInt.toNat).toInt) := (by omega)
    exact ret _ _ _ _ (-1) () dX11_shared_51 hpo hP hD hS
  have c1 := ci_eq c1
  refine lv_aload_n hx hb dX11_shared_5 rfl (lv_at hl 0 rfl) ?_
  refine va_get (D := D) (ci := 11) (v := .ref a4) (C := RX11) (T := TX11) (N := 12) hx hb hts w1 hown hK.1 hP 0 rfl rfl 5 (by decide) w0 (fun _ h9 => h9) rfl dX11_shared_6 ?_
  refine kcm_i hA hAB hP hD hS [false, true, true, true] rfl (fun _ => rfl) (fun hPc hDc => va_runV (As := []) (rest := []) ⟨hx, hb, hml, hown, hts⟩ (k_X4_tree l D κ β a4 r4 v4_count f4_years f4_slips s.heap.size i1 hf4_slips) (cwV 0 hts gX11_shared_X4_tree rfl rfl rfl (by decide +kernel) ⟨Nat.le_of_ble_eq_true rfl, Nat.le_of_ble_eq_true rfl⟩) (pk_V hK hS hAB hPc hDc 0 (ci := 4) rfl rfl rfl) rfl rfl hl.1 rfl (lv_room (Nat.le_of_ble_eq_true rfl)) dX11_shared_9 ⟨Nat.le_of_ble_eq_true rfl, Nat.le_of_ble_eq_true rfl⟩) (fun x20 u21 H locs hw hPD hS => ?_)
  have h22 : x20.toInt = trF f4_years f4_slips v4_count.toInt.toNat v4_count.toInt.toNat := hw
  obtain ⟨hP, hD⟩ : PD D A [O11 a11 a7 a5 a3 a2 a6 a4 a10 a9 a1 a0 a8 aN, O4 a4 r4 v4_count, (cI κ (r4 0) 8 f4_years), (cI κ (r4 1) 8 f4_slips)] H := hPD
  have hpo : (p1.toInt = -1 ∧ x20.toInt = trF f4_years f4_slips v4_count.toInt.toNat v4_count.toInt.toNat) ∨ (p1.toInt ≠ -1 ∧ ¬ (0 ≤ p1.toInt ∧ p1.toInt / 10 < v4_count.toInt ∧ p1.toInt % 10 < v4_count.toInt ∧ p1.toInt / 10 ≠ p1.toInt % 10) ∧ x20.toInt = -1) ∨ (p1.toInt ≠ -1 ∧ (0 ≤ p1.toInt ∧ p1.toInt / 10 < v4_count.toInt ∧ p1.toInt % 10 < v4_count.toInt ∧ p1.toInt / 10 ≠ p1.toInt % 10) ∧ x20.toInt = (shF f4_slips (p1 / 10) (p1 - p1 / 10 * 10) v4_count.toInt.toNat).toInt) := (by omega)
  exact ret _ _ _ _ x20 () dX11_shared_12 hpo hP hD hS
