def bb : Nat → Int
  | 0 => 0
  | n + 1 => 1 + 2 * bb n
theorem bb_succ (n : Nat) : bb (n + 1) = 1 + 2 * bb n := rfl
theorem bb_nn : ∀ n, 0 ≤ bb n
  | 0 => Int.le_refl 0
  | n + 1 => by
    have := bb_nn n
    rw [bb_succ]; omega
theorem tb_above (j : Nat) : -1 ≤ (tbAbove.getD j 0).toInt ∧ (tbAbove.getD j 0).toInt ≤ 7 := by
  by_cases h : j < 8
  · have t : ∀ j : Nat, j < 8 → -1 ≤ (tbAbove.getD j 0).toInt ∧ (tbAbove.getD j 0).toInt ≤ 7 := by decide +kernel
    exact t j h
  · have e : tbAbove.getD j 0 = 0 := (by simp only [tbAbove, List.getD_eq_getElem?_getD, List.length_cons, List.length_nil]; rw [List.getElem?_eq_none (by simp; omega)]; rfl)
    rw [e]; decide
set_option maxHeartbeats 4000000 in
set_option maxRecDepth 100000 in
theorem k_X0_isBody (l : Launch) (D : va_G) (κ : Nat → ClassId) (β : Nat) (a0 : Nat) (r0 : Nat → Nat) (v0_count : Int32) (v0_ran : Int32) (v0_actor : Int32) (sz : Nat) (p1 : Int32) (i1 : Rg 0 50 v0_count) (i2 : Rg 0 100000000 v0_ran) (i3 : Rg 0 49 v0_actor) : Met l yX0_isBody wsX0_isBody ({ frames := 1, cells := 0, slots := 0, locals := 22 } : Room) (PcK D κ β [O0 a0 r0 v0_count v0_ran v0_actor] sz [.ref a0, .int p1]) (QiK D (fun (r : Int32) (u : Unit) => (r.toInt = 1 ∧ 0 ≤ p1.toInt ∧ p1.toInt < v0_count.toInt) ∨ (r.toInt = 0 ∧ (p1.toInt < 0 ∨ v0_count.toInt ≤ p1.toInt))) (fun (u : Unit) => [O0 a0 r0 v0_count v0_ran v0_actor]) [O0 a0 r0 v0_count v0_ran v0_actor] sz) 0 0 (va_A [O0 a0 r0 v0_count v0_ran v0_actor] sz) := by
  refine ofK_z (cc := cX0_isBody) (maxL := 2) (own := RX0) (by decide) rfl rfl (Nat.le_of_ble_eq_true rfl) ?_
  intro p e s m args below meth c Q A ls hsz hx hb hml hts hown hK hA hAB hP hD hl ret
  have hS : va_S A s.heap s.heap [] := va_S.rf
  have hl : lv_has ls 2 [(0, .ref a0), (1, .int p1)] := hl
  have w0 := hts (.fieldLink RX0 18 "OlderSkin$Bodies" "count" "I") (List.mem_of_getElem? (i := 1) rfl)
  have w1 := (fun w h => List.mem_cons_of_mem _ (List.mem_append_right _ h) : ∀ w ∈ u_ws RX0 TX0 5, w ∈ wsX0_isBody)
  have w2 := hts (.initialized RX11) (List.mem_of_getElem? (i := 3) rfl)
  have w3 := hts (.static yX11_within) (List.mem_of_getElem? (i := 2) rfl)
  have w4 := hK.2.1 ("OlderSkin$Bodies", 22, ⟨"OlderSkin", "within", "(III)Z"⟩, "OlderSkin") (by decide +kernel)
  have l0 : (0 : Int32).toInt = 0 := by decide
  have l1 : (1 : Int32).toInt = 1 := by decide
  have i1 : 0 ≤ v0_count.toInt ∧ v0_count.toInt ≤ 50 := i1
  refine lv_iload_n hx hb dX0_isBody_0 rfl (lv_at hl 1 rfl) ?_
  refine lv_iconst (v := 0) hx hb dX0_isBody_1 (by decide) ?_
  refine lv_aload_n hx hb dX0_isBody_2 rfl (lv_at hl 0 rfl) ?_
  refine va_get (D := D) (ci := 0) (v := .int v0_count) (C := RX0) (T := TX0) (N := 5) hx hb hts w1 hown hK.1 hP 0 rfl rfl 1 (by decide) w0 (fun _ h9 => h9) rfl dX0_isBody_3 ?_
  refine lv_iconst (v := 1) hx hb dX0_isBody_6 (by decide) ?_
  refine lv_isub hx hb dX0_isBody_7 ?_
  refine lv_topi (fun x1 e2 => ?_)
  try have h3 : x1.toInt = v0_count.toInt - (1 : Int32).toInt := ci_sub e2 (by omega) (by omega)
  refine kcm_i hA hAB hP hD hS [false] rfl (fun _ => rfl) (fun hPc hDc => va_runSN (As := [.int p1, .int 0, .int x1]) (rest := []) ⟨hx, hb, hml, hown, hts⟩ (k_X11_within l D κ β s.heap.size p1 0 x1) ⟨va_cnB 3 hts gX0_isBody_X11_within_n22 rfl rfl rfl w4 w2 (by decide +kernel) ⟨Nat.le_of_ble_eq_true rfl, Nat.le_of_ble_eq_true rfl⟩, w3, trivial⟩ (pk_S hK hS hAB hPc hDc) rfl rfl hl.1 rfl (lv_room (Nat.le_of_ble_eq_true rfl)) dX0_isBody_8 ⟨Nat.le_of_ble_eq_true rfl, Nat.le_of_ble_eq_true rfl⟩) (fun x4 u5 H locs hw hPD hS => ?_)
  have h6 : (x4.toInt = 1 ∧ (0 : Int32).toInt ≤ p1.toInt ∧ p1.toInt ≤ x1.toInt) ∨ (x4.toInt = 0 ∧ (p1.toInt < (0 : Int32).toInt ∨ x1.toInt < p1.toInt)) := hw
  obtain ⟨hP, hD⟩ : PD D A [O0 a0 r0 v0_count v0_ran v0_actor] H := hPD
  have hpo : (x4.toInt = 1 ∧ 0 ≤ p1.toInt ∧ p1.toInt < v0_count.toInt) ∨ (x4.toInt = 0 ∧ (p1.toInt < 0 ∨ v0_count.toInt ≤ p1.toInt)) := (by omega)
  exact ret _ _ _ _ x4 () dX0_isBody_11 (by omega) hpo hP hD hS
set_option maxHeartbeats 4000000 in
set_option maxRecDepth 100000 in
theorem k_X0_add (l : Launch) (D : va_G) (κ : Nat → ClassId) (β : Nat) (a0 : Nat) (r0 : Nat → Nat) (v0_count : Int32) (v0_ran : Int32) (v0_actor : Int32) (f0_kinds : Nat → Int32) (sz : Nat) (p1 : Int32) (i1 : Rg 0 50 v0_count) (i2 : Rg 0 100000000 v0_ran) (i3 : Rg 0 49 v0_actor) (hf0_kinds : ∀ j : Nat, 0 ≤ (f0_kinds j).toInt ∧ (f0_kinds j).toInt ≤ 7) (i4 : 0 ≤ p1.toInt ∧ p1.toInt ≤ 7) : Met l yX0_add wsX0_add ({ frames := 0, cells := 0, slots := 0, locals := 0 } : Room) (PcK D κ β [O0 a0 r0 v0_count v0_ran v0_actor, (cI κ (r0 0) 50 f0_kinds)] sz [.ref a0, .int p1]) (QiK D (fun (r : Int32) (u : Int32 × (Nat → Int32)) => (0 ≤ u.1.toInt ∧ u.1.toInt ≤ 50) ∧ (∀ j : Nat, 0 ≤ (u.2 j).toInt ∧ (u.2 j).toInt ≤ 7) ∧ ((v0_count.toInt = 50 ∧ r.toInt = -3 ∧ u.1.toInt = v0_count.toInt) ∨ (v0_count.toInt < 50 ∧ r.toInt = v0_count.toInt ∧ u.1.toInt = v0_count.toInt + 1))) (fun (u : Int32 × (Nat → Int32)) => [O0 a0 r0 u.1 v0_ran v0_actor, (cI κ (r0 0) 50 u.2)]) [O0 a0 r0 v0_count v0_ran v0_actor, (cI κ (r0 0) 50 f0_kinds)] sz) 0 0 (va_A [O0 a0 r0 v0_count v0_ran v0_actor, (cI κ (r0 0) 50 f0_kinds)] sz) := by
  refine ofK_i (cc := cX0_add) (maxL := 2) (own := RX0) (by decide) rfl rfl (Nat.le_of_ble_eq_true rfl) ?_
  intro p e s m args below meth c Q A ls hsz hx hb hml hts hown hK hA hAB hP hD hl ret
  have hS : va_S A s.heap s.heap [] := va_S.rf
  have hl : lv_has ls 2 [(0, .ref a0), (1, .int p1)] := hl
  have w0 := hts (.fieldLink RX0 18 "OlderSkin$Bodies" "count" "I") (List.mem_of_getElem? (i := 1) rfl)
  have w1 := (fun w h => List.mem_cons_of_mem _ (List.mem_append_right _ h) : ∀ w ∈ u_ws RX0 TX0 5, w ∈ wsX0_add)
  have w2 := hts (.fieldLink RX0 9 "OlderSkin$Bodies" "kinds" "[I") (List.mem_of_getElem? (i := 2) rfl)
  have l0 : (50 : Int32).toInt = 50 := by decide
  have l1 : (0 : Int32).toInt = 0 := by decide
  have l2 : (1 : Int32).toInt = 1 := by decide
  have l3 : ((-3) : Int32).toInt = -3 := by decide
  have i1 : 0 ≤ v0_count.toInt ∧ v0_count.toInt ≤ 50 := i1
  refine lv_aload_n hx hb dX0_add_0 rfl (lv_at hl 0 rfl) ?_
  refine va_get (D := D) (ci := 0) (v := .int v0_count) (C := RX0) (T := TX0) (N := 5) hx hb hts w1 hown hK.1 hP 0 rfl rfl 1 (by decide) w0 (fun _ h9 => h9) rfl dX0_add_1 ?_
  refine lv_aload_n hx hb dX0_add_4 rfl (lv_at hl 0 rfl) ?_
  refine va_get (D := D) (ci := 0) (v := .ref (r0 0)) (C := RX0) (T := TX0) (N := 5) hx hb hts w1 hown hK.1 hP 0 rfl rfl 0 (by decide) w2 (fun _ h9 => h9) rfl dX0_add_5 ?_
  refine va_alen hx hb hK.1 hP 1 1 rfl rfl (v := 50) rfl dX0_add_8 ?_
  refine lv_icmp_ne (tgt := 15) hx hb dX0_add_9 (by decide) (fun c1 => ?_) (fun c1 => ?_)
  · have c1 := ci_ne c1
    refine lv_aload_n hx hb dX0_add_15 rfl (lv_at hl 0 rfl) ?_
    refine va_get (D := D) (ci := 0) (v := .ref (r0 0)) (C := RX0) (T := TX0) (N := 5) hx hb hts w1 hown hK.1 hP 0 rfl rfl 0 (by decide) w2 (fun _ h9 => h9) rfl dX0_add_16 ?_
    refine lv_aload_n hx hb dX0_add_19 rfl (lv_at hl 0 rfl) ?_
    refine va_get (D := D) (ci := 0) (v := .int v0_count) (C := RX0) (T := TX0) (N := 5) hx hb hts w1 hown hK.1 hP 0 rfl rfl 1 (by decide) w0 (fun _ h9 => h9) rfl dX0_add_20 ?_
    refine lv_iload_n hx hb dX0_add_23 rfl (lv_at hl 1 rfl) ?_
    refine va_iast hx hb hK.1 hP hD hS 1 1 rfl rfl (i := v0_count) (ix (by omega) (by omega)) dX0_add_24 (fun H locs hP hD hS => ?_)
    obtain ⟨g2, e3⟩ : ∃ y : Nat → Int32, y = upd f0_kinds v0_count.toNatClampNeg p1 := ⟨_, rfl⟩
    rw [← e3] at hP hD
    obtain ⟨hP, hD⟩ : PD D A [O0 a0 r0 v0_count v0_ran v0_actor, (cI κ (r0 0) 50 g2)] H := ⟨hP, hD⟩
    have h4 : ∀ j : Nat, 0 ≤ (g2 j).toInt ∧ (g2 j).toInt ≤ 7 := by rw [e3]; exact all_upd (P := fun z => 0 ≤ z.toInt ∧ z.toInt ≤ 7) hf0_kinds (by omega)
    refine lv_aload_n hx hb dX0_add_25 rfl (lv_at hl 0 rfl) ?_
    refine lv_dup hx hb dX0_add_26 rfl ?_
    refine va_get (D := D) (ci := 0) (v := .int v0_count) (C := RX0) (T := TX0) (N := 5) hx hb hts w1 hown hK.1 hP 0 rfl rfl 1 (by decide) w0 (fun _ h9 => h9) rfl dX0_add_27 ?_
    refine lv_dup_x1 hx hb dX0_add_30 rfl rfl ?_
    refine lv_iconst (v := 1) hx hb dX0_add_31 (by decide) ?_
    refine lv_iadd hx hb dX0_add_32 ?_
    refine lv_topi (fun x5 e6 => ?_)
    try have h7 : x5.toInt = v0_count.toInt + (1 : Int32).toInt := ci_add e6 (by omega) (by omega)
    refine va_put (D := D) (ci := 0) (v := .int x5) (ty := .int) (C := RX0) (T := TX0) (N := 5) hx hb hts w1 tyX0 tyX0_ok nmX0 hown hK.1 hP hD hS 0 rfl rfl 1 (by decide) w0 (fun _ h9 => h9) rfl (by decide +kernel) rfl rfl (Nat.le_of_ble_eq_true rfl) dX0_add_33 (fun H locs hP hD hS => ?_)
    obtain ⟨hP, hD⟩ : PD D A [O0 a0 r0 x5 v0_ran v0_actor, (cI κ (r0 0) 50 g2)] H := ⟨hP, hD⟩
    have h8 : 0 ≤ x5.toInt ∧ x5.toInt ≤ 50 := by omega
    have hpo : (0 ≤ x5.toInt ∧ x5.toInt ≤ 50) ∧ (∀ j : Nat, 0 ≤ (g2 j).toInt ∧ (g2 j).toInt ≤ 7) ∧ ((v0_count.toInt = 50 ∧ v0_count.toInt = -3 ∧ x5.toInt = v0_count.toInt) ∨ (v0_count.toInt < 50 ∧ v0_count.toInt = v0_count.toInt ∧ x5.toInt = v0_count.toInt + 1)) := ⟨h8, h4, (by omega)⟩
    exact ret _ _ _ _ v0_count (x5, g2) dX0_add_36 hpo hP hD hS
  have c1 := ci_eq c1
  refine lv_bipush (v := (-3)) hx hb dX0_add_12 (by decide) ?_
  have hpo : (0 ≤ v0_count.toInt ∧ v0_count.toInt ≤ 50) ∧ (∀ j : Nat, 0 ≤ (f0_kinds j).toInt ∧ (f0_kinds j).toInt ≤ 7) ∧ ((v0_count.toInt = 50 ∧ ((-3) : Int32).toInt = -3 ∧ v0_count.toInt = v0_count.toInt) ∨ (v0_count.toInt < 50 ∧ ((-3) : Int32).toInt = v0_count.toInt ∧ v0_count.toInt = v0_count.toInt + 1)) := ⟨i1, hf0_kinds, (by omega)⟩
  exact ret _ _ _ _ (-3) (v0_count, f0_kinds) dX0_add_14 hpo hP hD hS
set_option maxHeartbeats 4000000 in
set_option maxRecDepth 100000 in
theorem k_X0_traced (l : Launch) (D : va_G) (κ : Nat → ClassId) (β : Nat) (a0 : Nat) (r0 : Nat → Nat) (v0_count : Int32) (v0_ran : Int32) (v0_actor : Int32) (f0_trace : Nat → Int32) (sz : Nat) (i1 : Rg 0 50 v0_count) (i2 : Rg 0 100000000 v0_ran) (i3 : Rg 0 49 v0_actor) : Met l yX0_traced wsX0_traced ({ frames := 1, cells := 0, slots := 0, locals := 21 } : Room) (PcK D κ β [O0 a0 r0 v0_count v0_ran v0_actor, (cI κ (r0 2) 24 f0_trace)] sz [.ref a0]) (QiK D (fun (r : Int32) (u : Unit) => 0 ≤ r.toInt ∧ r.toInt ≤ 24) (fun (u : Unit) => [O0 a0 r0 v0_count v0_ran v0_actor, (cI κ (r0 2) 24 f0_trace)]) [O0 a0 r0 v0_count v0_ran v0_actor, (cI κ (r0 2) 24 f0_trace)] sz) 0 0 (va_A [O0 a0 r0 v0_count v0_ran v0_actor, (cI κ (r0 2) 24 f0_trace)] sz) := by
  refine ofK_i (cc := cX0_traced) (maxL := 1) (own := RX0) (by decide) rfl rfl (Nat.le_of_ble_eq_true rfl) ?_
  intro p e s m args below meth c Q A ls hsz hx hb hml hts hown hK hA hAB hP hD hl ret
  have hS : va_S A s.heap s.heap [] := va_S.rf
  have hl : lv_has ls 1 [(0, .ref a0)] := hl
  have w0 := hts (.fieldLink RX0 26 "OlderSkin$Bodies" "ran" "I") (List.mem_of_getElem? (i := 1) rfl)
  have w1 := (fun w h => List.mem_cons_of_mem _ (List.mem_append_right _ h) : ∀ w ∈ u_ws RX0 TX0 5, w ∈ wsX0_traced)
  have w2 := hts (.fieldLink RX0 15 "OlderSkin$Bodies" "trace" "[I") (List.mem_of_getElem? (i := 2) rfl)
  have w3 := hts (.methodLink RX0 29 Lib.Math.min.name) (List.mem_of_getElem? (i := 3) rfl)
  have w4 := hts (.static Lib.Math.min.name) (List.mem_of_getElem? (i := 4) rfl)
  have w5 := hts (.initialized "java/lang/Math") (List.mem_of_getElem? (i := 5) rfl)
  have w6 := hts (.code Lib.Math.min.name Lib.Math.min.code 2 (some .int)) (List.mem_of_getElem? (i := 6) rfl)
  have l0 : (24 : Int32).toInt = 24 := by decide
  have i2 : 0 ≤ v0_ran.toInt ∧ v0_ran.toInt ≤ 100000000 := i2
  refine lv_aload_n hx hb dX0_traced_0 rfl (lv_at hl 0 rfl) ?_
  refine va_get (D := D) (ci := 0) (v := .int v0_ran) (C := RX0) (T := TX0) (N := 5) hx hb hts w1 hown hK.1 hP 0 rfl rfl 3 (by decide) w0 (fun _ h9 => h9) rfl dX0_traced_1 ?_
  refine lv_aload_n hx hb dX0_traced_4 rfl (lv_at hl 0 rfl) ?_
  refine va_get (D := D) (ci := 0) (v := .ref (r0 2)) (C := RX0) (T := TX0) (N := 5) hx hb hts w1 hown hK.1 hP 0 rfl rfl 2 (by decide) w2 (fun _ h9 => h9) rfl dX0_traced_5 ?_
  refine va_alen hx hb hK.1 hP 1 1 rfl rfl (v := 24) rfl dX0_traced_8 ?_
  refine va_mmin hx hb (hml.trans hl.1.symm) hown w3 w4 w5 w6 (Nat.le_of_ble_eq_true rfl) (Nat.le_of_ble_eq_true rfl) (Nat.le_of_ble_eq_true rfl) (Nat.le_of_ble_eq_true rfl) dX0_traced_9 ?_
  refine lv_topi (fun x1 e2 => ?_)
  have h3 := ci_min e2
  have hpo : 0 ≤ x1.toInt ∧ x1.toInt ≤ 24 := (by omega)
  exact ret _ _ _ _ x1 () dX0_traced_12 hpo hP hD hS
set_option maxHeartbeats 4000000 in
set_option maxRecDepth 100000 in
theorem k_X0_isUnder (l : Launch) (D : va_G) (κ : Nat → ClassId) (β : Nat) (a0 : Nat) (r0 : Nat → Nat) (v0_count : Int32) (v0_ran : Int32) (v0_actor : Int32) (sz : Nat) (p1 : Int32) (p2 : Int32) (i1 : Rg 0 50 v0_count) (i2 : Rg 0 100000000 v0_ran) (i3 : Rg 0 49 v0_actor) (i4 : -1 ≤ p1.toInt ∧ p1.toInt ≤ 7) : Met l yX0_isUnder wsX0_isUnder ({ frames := 0, cells := 0, slots := 0, locals := 0 } : Room) (PcK D κ β [O0 a0 r0 v0_count v0_ran v0_actor] sz [.ref a0, .int p1, .int p2]) (QiK D (fun (r : Int32) (u : Unit) => r.toInt = 0 ∨ r.toInt = 1) (fun (u : Unit) => [O0 a0 r0 v0_count v0_ran v0_actor]) [O0 a0 r0 v0_count v0_ran v0_actor] sz) 0 0 (va_A [O0 a0 r0 v0_count v0_ran v0_actor] sz) := by
  refine ofK_z (cc := cX0_isUnder) (maxL := 5) (own := RX0) (by decide) rfl rfl (Nat.le_of_ble_eq_true rfl) ?_
  intro p e s m args below meth c Q A ls hsz hx hb hml hts hown hK hA hAB hP hD hl ret
  have hS : va_S A s.heap s.heap [] := va_S.rf
  have hl : lv_has ls 5 [(0, .ref a0), (1, .int p1), (2, .int p2)] := hl
  have w0 := hts (.fieldLink RX0 35 "OlderSkin$Bodies" "ABOVE" "[I") (List.mem_of_getElem? (i := 1) rfl)
  have l0 : (0 : Int32).toInt = 0 := by decide
  have l1 : (8 : Int32).toInt = 8 := by decide
  have l2 : (1 : Int32).toInt = 1 := by decide
  obtain ⟨t1, t2, z1, y1, z2, y2⟩ := hK.2.2.2.2.1
  have z1 := z1.narrow hAB
  have y1 := y1.narrow hAB
  have z2 := z2.narrow hAB
  have y2 := y2.narrow hAB
  refine lv_iload_n hx hb dX0_isUnder_0 rfl (lv_at hl 1 rfl) ?_
  refine lv_istore_n (lv' := [(3, .int p1), (0, .ref a0), (1, .int p1), (2, .int p2)]) hx hb dX0_isUnder_1 rfl hl (by decide) rfl (fun ls hl => ?_)
  refine lv_iconst (v := 0) hx hb dX0_isUnder_2 (by decide) ?_
  refine lv_istore (lv' := [(4, .int 0), (3, .int p1), (0, .ref a0), (1, .int p1), (2, .int p2)]) hx hb dX0_isUnder_3 hl (by decide) rfl (fun ls hl => ?_)
  have lp5 : ∀ (n5 : Nat) (k1 : Int32) (k2 : Int32), (-1 ≤ k2.toInt ∧ k2.toInt ≤ 7) → (0 ≤ k1.toInt) → (8 - k1.toInt).toNat < n5 → ∀ (H : Heap) (locs : List Loc), va_P D vwCl [O0 a0 r0 v0_count v0_ran v0_actor] H → va_D A [O0 a0 r0 v0_count v0_ran v0_actor] → va_S A s.heap H locs → ∀ ls : Array Slot, lv_has ls 5 [(4, .int k1), (3, .int k2), (0, .ref a0), (1, .int p1), (2, .int p2)] → W p l e ({ frames := 0, cells := 0, slots := 0, locals := 0 } : Room) s m args below meth c H locs 0 0 Q (F0 m 5 ls []) := by
    intro n5
    induction n5 with
    | zero =>
      intro k1 k2 h3 h4 m5
      exact absurd m5 (Nat.not_lt_zero _)
    | succ n5 ih5 =>
      intro k1 k2 h3 h4 m5 H locs hP hD hS ls hl
      refine lv_iload hx hb dX0_isUnder_5 (lv_at hl 0 rfl) ?_
      refine lv_bipush (v := 8) hx hb dX0_isUnder_7 (by decide) ?_
      refine lv_icmp_ge (tgt := 35) hx hb dX0_isUnder_9 (by decide) (fun c6 => ?_) (fun c6 => ?_)
      · have c6 := ci_le c6
        refine lv_iconst (v := 0) hx hb dX0_isUnder_35 (by decide) ?_
        have hpo : (0 : Int32).toInt = 0 ∨ (0 : Int32).toInt = 1 := (by omega)
        exact ret _ _ _ _ 0 () dX0_isUnder_36 (by omega) hpo hP hD hS
      have c6 := ci_nle c6
      refine lv_iload_n hx hb dX0_isUnder_12 rfl (lv_at hl 1 rfl) ?_
      refine lv_if_lt (tgt := 35) hx hb dX0_isUnder_13 (by decide) (fun c7 => ?_) (fun c7 => ?_)
      · have c7 := ci_lt c7
        refine lv_iconst (v := 0) hx hb dX0_isUnder_35 (by decide) ?_
        have hpo : (0 : Int32).toInt = 0 ∨ (0 : Int32).toInt = 1 := (by omega)
        exact ret _ _ _ _ 0 () dX0_isUnder_36 (by omega) hpo hP hD hS
      have c7 := ci_nlt c7
      refine lv_iload_n hx hb dX0_isUnder_16 rfl (lv_at hl 1 rfl) ?_
      refine lv_iload_n hx hb dX0_isUnder_17 rfl (lv_at hl 4 rfl) ?_
      refine lv_icmp_ne (tgt := 23) hx hb dX0_isUnder_18 (by decide) (fun c8 => ?_) (fun c8 => ?_)
      · have c8 := ci_ne c8
        refine va_gets hx hb z1 hS hown w0 (fun _ h9 => h9) dX0_isUnder_23 ?_
        refine lv_iload_n hx hb dX0_isUnder_26 rfl (lv_at hl 1 rfl) ?_
        refine va_ti hx hb y1 hS (i := k2) (ix (by omega) (by omega)) rfl dX0_isUnder_27 ?_
        refine lv_topi (fun x9 e10 => ?_)
        have h11 := tb_above k2.toNatClampNeg; rw [← e10] at h11
        refine lv_istore_n (lv' := [(3, .int x9), (4, .int k1), (0, .ref a0), (1, .int p1), (2, .int p2)]) hx hb dX0_isUnder_28 rfl hl (by decide) rfl (fun ls hl => ?_)
        obtain ⟨x12, e13⟩ : ∃ y : Int32, y = k1 + 1 := ⟨_, rfl⟩
        refine lv_iinc (v := x12) (lv' := [(4, .int x12), (3, .int x9), (0, .ref a0), (1, .int p1), (2, .int p2)]) hx hb dX0_isUnder_29 hl (k := 1) rfl (by rw [e13]; rfl) (by decide) rfl (fun ls hl => ?_)
        try have h14 : x12.toInt = k1.toInt + (1 : Int32).toInt := ci_add e13 (by omega) (by omega)
        refine lv_goto (tgt := 5) hx hb dX0_isUnder_32 (by decide) ?_
        exact ih5 x12 x9 (by omega) (by omega) (by omega) _ _ hP hD hS _ hl
      have c8 := ci_eq c8
      refine lv_iconst (v := 1) hx hb dX0_isUnder_21 (by decide) ?_
      have hpo : (1 : Int32).toInt = 0 ∨ (1 : Int32).toInt = 1 := (by omega)
      exact ret _ _ _ _ 1 () dX0_isUnder_22 (by omega) hpo hP hD hS
  exact lp5 ((8 - (0 : Int32).toInt).toNat + 1) 0 p1 (by omega) (by omega) (by omega) _ _ hP hD hS _ hl
def C_X0_from (l : Launch) (D : va_G) (κ : Nat → ClassId) (β d : Nat) : Prop := ∀ (a0 : Nat) (r0 : Nat → Nat) (v0_count : Int32) (v0_ran : Int32) (v0_actor : Int32) (f0_kinds : Nat → Int32) (f0_trace : Nat → Int32) (sz : Nat) (p1 : Int32) (p2 : Int32) (p3 : Int32) (p4 : Int32) (i1 : Rg 0 50 v0_count) (i2 : Rg 0 100000000 v0_ran) (i3 : Rg 0 49 v0_actor) (hf0_kinds : ∀ j : Nat, 0 ≤ (f0_kinds j).toInt ∧ (f0_kinds j).toInt ≤ 7) (i4 : -1 ≤ p1.toInt ∧ p1.toInt ≤ 7) (i5 : 0 ≤ p2.toInt ∧ p2.toInt ≤ 3) (i6 : 0 ≤ p4.toInt) (i7 : 25 - p4.toInt ≤ d) (i8 : v0_ran.toInt + bb d ≤ 100000000), Met l yX0_from wsX0_from ({ frames := 3 * d, cells := 0, slots := 0, locals := 73 * d } : Room) (PcK D κ β [O0 a0 r0 v0_count v0_ran v0_actor, (cI κ (r0 0) 50 f0_kinds), (cI κ (r0 2) 24 f0_trace)] sz [.ref a0, .int p1, .int p2, .int p3, .int p4]) (QiK D (fun (r : Int32) (u : Int32 × (Nat → Int32)) => (0 ≤ u.1.toInt ∧ u.1.toInt ≤ 100000000) ∧ (v0_ran.toInt ≤ u.1.toInt ∧ u.1.toInt ≤ v0_ran.toInt + bb d)) (fun (u : Int32 × (Nat → Int32)) => [O0 a0 r0 v0_count u.1 v0_actor, (cI κ (r0 0) 50 f0_kinds), (cI κ (r0 2) 24 u.2)]) [O0 a0 r0 v0_count v0_ran v0_actor, (cI κ (r0 0) 50 f0_kinds), (cI κ (r0 2) 24 f0_trace)] sz) 0 0 (va_A [O0 a0 r0 v0_count v0_ran v0_actor, (cI κ (r0 0) 50 f0_kinds), (cI κ (r0 2) 24 f0_trace)] sz)
def C_X0_own (l : Launch) (D : va_G) (κ : Nat → ClassId) (β d : Nat) : Prop := ∀ (a0 : Nat) (r0 : Nat → Nat) (v0_count : Int32) (v0_ran : Int32) (v0_actor : Int32) (f0_kinds : Nat → Int32) (f0_trace : Nat → Int32) (sz : Nat) (p1 : Int32) (p2 : Int32) (p3 : Int32) (i1 : Rg 0 50 v0_count) (i2 : Rg 0 100000000 v0_ran) (i3 : Rg 0 49 v0_actor) (hf0_kinds : ∀ j : Nat, 0 ≤ (f0_kinds j).toInt ∧ (f0_kinds j).toInt ≤ 7) (i4 : 0 ≤ p1.toInt ∧ p1.toInt ≤ 3) (i5 : 0 ≤ p3.toInt) (i6 : 25 - p3.toInt ≤ d) (i7 : v0_ran.toInt + bb d ≤ 100000000), Met l yX0_own wsX0_own ({ frames := 3 * d + 1, cells := 0, slots := 0, locals := 73 * d + 26 } : Room) (PcK D κ β [O0 a0 r0 v0_count v0_ran v0_actor, (cI κ (r0 0) 50 f0_kinds), (cI κ (r0 2) 24 f0_trace)] sz [.ref a0, .int p1, .int p2, .int p3]) (QiK D (fun (r : Int32) (u : Int32 × (Nat → Int32)) => (0 ≤ u.1.toInt ∧ u.1.toInt ≤ 100000000) ∧ (v0_ran.toInt ≤ u.1.toInt ∧ u.1.toInt ≤ v0_ran.toInt + bb d)) (fun (u : Int32 × (Nat → Int32)) => [O0 a0 r0 v0_count u.1 v0_actor, (cI κ (r0 0) 50 f0_kinds), (cI κ (r0 2) 24 u.2)]) [O0 a0 r0 v0_count v0_ran v0_actor, (cI κ (r0 0) 50 f0_kinds), (cI κ (r0 2) 24 f0_trace)] sz) 0 0 (va_A [O0 a0 r0 v0_count v0_ran v0_actor, (cI κ (r0 0) 50 f0_kinds), (cI κ (r0 2) 24 f0_trace)] sz)
def C_X0_run (l : Launch) (D : va_G) (κ : Nat → ClassId) (β d : Nat) : Prop := ∀ (a0 : Nat) (r0 : Nat → Nat) (v0_count : Int32) (v0_ran : Int32) (v0_actor : Int32) (f0_kinds : Nat → Int32) (f0_trace : Nat → Int32) (sz : Nat) (p1 : Int32) (p2 : Int32) (p3 : Int32) (p4 : Int32) (i1 : Rg 0 50 v0_count) (i2 : Rg 0 100000000 v0_ran) (i3 : Rg 0 49 v0_actor) (hf0_kinds : ∀ j : Nat, 0 ≤ (f0_kinds j).toInt ∧ (f0_kinds j).toInt ≤ 7) (i4 : -1 ≤ p2.toInt ∧ p2.toInt ≤ 7) (i5 : 0 ≤ p4.toInt) (i6 : 25 - p4.toInt ≤ d) (i7 : v0_ran.toInt + 2 * bb d ≤ 100000000), Met l yX0_run wsX0_run ({ frames := 3 * d + 2, cells := 0, slots := 0, locals := 73 * d + 49 } : Room) (PcK D κ β [O0 a0 r0 v0_count v0_ran v0_actor, (cI κ (r0 0) 50 f0_kinds), (cI κ (r0 2) 24 f0_trace)] sz [.ref a0, .int p1, .int p2, .int p3, .int p4]) (QiK D (fun (r : Int32) (u : Int32 × (Nat → Int32)) => (0 ≤ u.1.toInt ∧ u.1.toInt ≤ 100000000) ∧ (v0_ran.toInt ≤ u.1.toInt ∧ u.1.toInt ≤ v0_ran.toInt + 2 * bb d)) (fun (u : Int32 × (Nat → Int32)) => [O0 a0 r0 v0_count u.1 v0_actor, (cI κ (r0 0) 50 f0_kinds), (cI κ (r0 2) 24 u.2)]) [O0 a0 r0 v0_count v0_ran v0_actor, (cI κ (r0 0) 50 f0_kinds), (cI κ (r0 2) 24 f0_trace)] sz) 0 0 (va_A [O0 a0 r0 v0_count v0_ran v0_actor, (cI κ (r0 0) 50 f0_kinds), (cI κ (r0 2) 24 f0_trace)] sz)
set_option maxHeartbeats 4000000 in
set_option maxRecDepth 100000 in
theorem of_X0_own (l : Launch) (D : va_G) (κ : Nat → ClassId) (β d : Nat) (hfrom : C_X0_from l D κ β d) : C_X0_own l D κ β d := by
  intro a0 r0 v0_count v0_ran v0_actor f0_kinds f0_trace sz p1 p2 p3 i1 i2 i3 hf0_kinds i4 i5 i6 i7
  refine ofK_i (cc := cX0_own) (maxL := 4) (own := RX0) (by decide) rfl rfl (Nat.le_of_ble_eq_true rfl) ?_
  intro p e s m args below meth c Q A ls hsz hx hb hml hts hown hK hA hAB hP hD hl ret
  have hS : va_S A s.heap s.heap [] := va_S.rf
  have hl : lv_has ls 4 [(0, .ref a0), (1, .int p1), (2, .int p2), (3, .int p3)] := hl
  have w0 := hts (.fieldLink RX0 9 "OlderSkin$Bodies" "kinds" "[I") (List.mem_of_getElem? (i := 1) rfl)
  have w1 := (fun w h => List.mem_cons_of_mem _ (List.mem_append_right _ h) : ∀ w ∈ u_ws RX0 TX0 5, w ∈ wsX0_own)
  have w2 := hts (.fieldLink RX0 42 "OlderSkin$Bodies" "actor" "I") (List.mem_of_getElem? (i := 2) rfl)
  have i2 : 0 ≤ v0_ran.toInt ∧ v0_ran.toInt ≤ 100000000 := i2
  have i3 : 0 ≤ v0_actor.toInt ∧ v0_actor.toInt ≤ 49 := i3
  have hb1 := bb_succ d
  have hb0 := bb_nn d
  refine lv_aload_n hx hb dX0_own_0 rfl (lv_at hl 0 rfl) ?_
  refine lv_aload_n hx hb dX0_own_1 rfl (lv_at hl 0 rfl) ?_
  refine va_get (D := D) (ci := 0) (v := .ref (r0 0)) (C := RX0) (T := TX0) (N := 5) hx hb hts w1 hown hK.1 hP 0 rfl rfl 0 (by decide) w0 (fun _ h9 => h9) rfl dX0_own_2 ?_
  refine lv_aload_n hx hb dX0_own_5 rfl (lv_at hl 0 rfl) ?_
  refine va_get (D := D) (ci := 0) (v := .int v0_actor) (C := RX0) (T := TX0) (N := 5) hx hb hts w1 hown hK.1 hP 0 rfl rfl 4 (by decide) w2 (fun _ h9 => h9) rfl dX0_own_6 ?_
  refine va_iald hx hb hK.1 hP 1 1 rfl rfl (i := v0_actor) (ix (by omega) (by omega)) dX0_own_9 ?_
  refine lv_topi (fun x1 e2 => ?_)
  have h3 : 0 ≤ x1.toInt ∧ x1.toInt ≤ 7 := by rw [e2]; exact hf0_kinds _
  refine lv_iload_n hx hb dX0_own_10 rfl (lv_at hl 1 rfl) ?_
  refine lv_iload_n hx hb dX0_own_11 rfl (lv_at hl 2 rfl) ?_
  refine lv_iload_n hx hb dX0_own_12 rfl (lv_at hl 3 rfl) ?_
  refine kcm_i hA hAB hP hD hS [true, true, true] rfl (fun _ => rfl) (fun hPc hDc => va_runV (As := [.int x1, .int p1, .int p2, .int p3]) (rest := []) ⟨hx, hb, hml, hown, hts⟩ (hfrom a0 r0 v0_count v0_ran v0_actor f0_kinds f0_trace s.heap.size x1 p1 p2 p3 i1 i2 i3 hf0_kinds (by omega) (by omega) (by omega) (by omega) (by omega)) (cwV 4 hts gX0_own_X0_from rfl rfl rfl (by decide +kernel) ⟨by dsimp only; omega, by dsimp only; omega⟩) (pk_V hK hS hAB hPc hDc 0 (ci := 0) rfl rfl rfl) rfl rfl hl.1 rfl (lv_room (Nat.le_of_ble_eq_true rfl)) dX0_own_13 ⟨Nat.le_of_ble_eq_true rfl, Nat.le_of_ble_eq_true rfl⟩) (fun x6 u7 H locs hw hPD hS => ?_)
  obtain ⟨x4, g5⟩ := u7
  obtain ⟨h8, h9⟩ : (0 ≤ x4.toInt ∧ x4.toInt ≤ 100000000) ∧ (v0_ran.toInt ≤ x4.toInt ∧ x4.toInt ≤ v0_ran.toInt + bb d) := hw
  obtain ⟨hP, hD⟩ : PD D A [O0 a0 r0 v0_count x4 v0_actor, (cI κ (r0 0) 50 f0_kinds), (cI κ (r0 2) 24 g5)] H := hPD
  have hpo : (0 ≤ x4.toInt ∧ x4.toInt ≤ 100000000) ∧ (v0_ran.toInt ≤ x4.toInt ∧ x4.toInt ≤ v0_ran.toInt + bb d) := ⟨h8, (by omega)⟩
  exact ret _ _ _ _ x6 (x4, g5) dX0_own_16 hpo hP hD hS
set_option maxHeartbeats 4000000 in
set_option maxRecDepth 100000 in
theorem of_X0_run (l : Launch) (D : va_G) (κ : Nat → ClassId) (β d : Nat) (hfrom : C_X0_from l D κ β d) (hown2 : C_X0_own l D κ β d) : C_X0_run l D κ β d := by
  intro a0 r0 v0_count v0_ran v0_actor f0_kinds f0_trace sz p1 p2 p3 p4 i1 i2 i3 hf0_kinds i4 i5 i6 i7
  refine ofK_i (cc := cX0_run) (maxL := 5) (own := RX0) (by decide) rfl rfl (Nat.le_of_ble_eq_true rfl) ?_
  intro p e s m args below meth c Q A ls hsz hx hb hml hts hown hK hA hAB hP hD hl ret
  have hS : va_S A s.heap s.heap [] := va_S.rf
  have hl : lv_has ls 5 [(0, .ref a0), (1, .int p1), (2, .int p2), (3, .int p3), (4, .int p4)] := hl
  have w0 := hts (.fieldLink RX0 42 "OlderSkin$Bodies" "actor" "I") (List.mem_of_getElem? (i := 1) rfl)
  have w1 := (fun w h => List.mem_cons_of_mem _ (List.mem_append_right _ h) : ∀ w ∈ u_ws RX0 TX0 5, w ∈ wsX0_run)
  have l0 : (1 : Int32).toInt = 1 := by decide
  have l1 : (2 : Int32).toInt = 2 := by decide
  have l2 : (0 : Int32).toInt = 0 := by decide
  have l3 : (3 : Int32).toInt = 3 := by decide
  have l4 : (5 : Int32).toInt = 5 := by decide
  have i2 : 0 ≤ v0_ran.toInt ∧ v0_ran.toInt ≤ 100000000 := i2
  have i3 : 0 ≤ v0_actor.toInt ∧ v0_actor.toInt ≤ 49 := i3
  have hb1 := bb_succ d
  have hb0 := bb_nn d
  refine lv_iload_n hx hb dX0_run_0 rfl (lv_at hl 1 rfl) ?_
  by_cases c1 : p1.toInt = 1
  · refine lv_lookup (off := 115) (tgt := 116) hx hb dX0_run_1 (by decide) (by rw [c1]; decide) (by decide) ?_
    refine lv_iload_n hx hb dX0_run_116 rfl (lv_at hl 3 rfl) ?_
    refine lv_aload_n hx hb dX0_run_117 rfl (lv_at hl 0 rfl) ?_
    refine va_get (D := D) (ci := 0) (v := .int v0_actor) (C := RX0) (T := TX0) (N := 5) hx hb hts w1 hown hK.1 hP 0 rfl rfl 4 (by decide) w0 (fun _ h9 => h9) rfl dX0_run_118 ?_
    refine lv_iadd hx hb dX0_run_121 ?_
    refine lv_topi (fun x2 e3 => ?_)
    try have h4 : x2.toInt = p3.toInt + v0_actor.toInt := ci_add e3 (by omega) (by omega)
    have hpo : (0 ≤ v0_ran.toInt ∧ v0_ran.toInt ≤ 100000000) ∧ (v0_ran.toInt ≤ v0_ran.toInt ∧ v0_ran.toInt ≤ v0_ran.toInt + 2 * bb d) := ⟨i2, (by omega)⟩
    exact ret _ _ _ _ x2 (v0_ran, f0_trace) dX0_run_122 hpo hP hD hS
  by_cases c5 : p1.toInt = 2
  · refine lv_lookup (off := 122) (tgt := 123) hx hb dX0_run_1 (by decide) (by rw [c5]; decide) (by decide) ?_
    refine lv_aload_n hx hb dX0_run_123 rfl (lv_at hl 0 rfl) ?_
    refine lv_iconst (v := 1) hx hb dX0_run_124 (by decide) ?_
    refine lv_iload_n hx hb dX0_run_125 rfl (lv_at hl 3 rfl) ?_
    refine lv_iload hx hb dX0_run_126 (lv_at hl 4 rfl) ?_
    refine kcm_i hA hAB hP hD hS [true, true, true] rfl (fun _ => rfl) (fun hPc hDc => va_runV (As := [.int 1, .int p3, .int p4]) (rest := []) ⟨hx, hb, hml, hown, hts⟩ (hown2 a0 r0 v0_count v0_ran v0_actor f0_kinds f0_trace s.heap.size 1 p3 p4 i1 i2 i3 hf0_kinds (by omega) (by omega) (by omega) (by omega)) (cwV 3 hts gX0_run_X0_own rfl rfl rfl (by decide +kernel) ⟨by dsimp only; omega, by dsimp only; omega⟩) (pk_V hK hS hAB hPc hDc 0 (ci := 0) rfl rfl rfl) rfl rfl hl.1 rfl (lv_room (Nat.le_of_ble_eq_true rfl)) dX0_run_128 ⟨Nat.le_of_ble_eq_true rfl, Nat.le_of_ble_eq_true rfl⟩) (fun x8 u9 H locs hw hPD hS => ?_)
    obtain ⟨x6, g7⟩ := u9
    obtain ⟨h10, h11⟩ : (0 ≤ x6.toInt ∧ x6.toInt ≤ 100000000) ∧ (v0_ran.toInt ≤ x6.toInt ∧ x6.toInt ≤ v0_ran.toInt + bb d) := hw
    obtain ⟨hP, hD⟩ : PD D A [O0 a0 r0 v0_count x6 v0_actor, (cI κ (r0 0) 50 f0_kinds), (cI κ (r0 2) 24 g7)] H := hPD
    refine lv_aload_n hx hb dX0_run_131 rfl (lv_at hl 0 rfl) ?_
    refine lv_iconst (v := 2) hx hb dX0_run_132 (by decide) ?_
    refine lv_iconst (v := 1) hx hb dX0_run_133 (by decide) ?_
    refine lv_iload hx hb dX0_run_134 (lv_at hl 4 rfl) ?_
    refine kcm_i hA hAB hP hD hS [true, true, true] rfl (fun _ => rfl) (fun hPc hDc => va_runV (As := [.int 2, .int 1, .int p4]) (rest := [.int x8]) ⟨hx, hb, hml, hown, hts⟩ (hown2 a0 r0 v0_count x6 v0_actor f0_kinds g7 H.size 2 1 p4 i1 h10 i3 hf0_kinds (by omega) (by omega) (by omega) (by omega)) (cwV 3 hts gX0_run_X0_own rfl rfl rfl (by decide +kernel) ⟨by dsimp only; omega, by dsimp only; omega⟩) (pk_V hK hS hAB hPc hDc 0 (ci := 0) rfl rfl rfl) rfl rfl hl.1 rfl (lv_room (Nat.le_of_ble_eq_true rfl)) dX0_run_136 ⟨Nat.le_of_ble_eq_true rfl, Nat.le_of_ble_eq_true rfl⟩) (fun x14 u15 H locs hw hPD hS => ?_)
    obtain ⟨x12, g13⟩ := u15
    obtain ⟨h16, h17⟩ : (0 ≤ x12.toInt ∧ x12.toInt ≤ 100000000) ∧ (x6.toInt ≤ x12.toInt ∧ x12.toInt ≤ x6.toInt + bb d) := hw
    obtain ⟨hP, hD⟩ : PD D A [O0 a0 r0 v0_count x12 v0_actor, (cI κ (r0 0) 50 f0_kinds), (cI κ (r0 2) 24 g13)] H := hPD
    refine lv_isub hx hb dX0_run_139 ?_
    refine lv_topi (fun x18 e19 => ?_)
    try have h20 : x18.toInt = x8.toInt - x14.toInt := ci_sub e19 (by omega) (by omega)
    have hpo : (0 ≤ x12.toInt ∧ x12.toInt ≤ 100000000) ∧ (v0_ran.toInt ≤ x12.toInt ∧ x12.toInt ≤ v0_ran.toInt + 2 * bb d) := ⟨h16, (by omega)⟩
    exact ret _ _ _ _ x18 (x12, g13) dX0_run_140 hpo hP hD hS
  by_cases c21 : p1.toInt = 10
  · refine lv_lookup (off := 140) (tgt := 141) hx hb dX0_run_1 (by decide) (by rw [c21]; decide) (by decide) ?_
    refine lv_aload_n hx hb dX0_run_141 rfl (lv_at hl 0 rfl) ?_
    refine lv_iconst (v := 0) hx hb dX0_run_142 (by decide) ?_
    refine lv_iload_n hx hb dX0_run_143 rfl (lv_at hl 3 rfl) ?_
    refine lv_iload hx hb dX0_run_144 (lv_at hl 4 rfl) ?_
    refine kcm_i hA hAB hP hD hS [true, true, true] rfl (fun _ => rfl) (fun hPc hDc => va_runV (As := [.int 0, .int p3, .int p4]) (rest := []) ⟨hx, hb, hml, hown, hts⟩ (hown2 a0 r0 v0_count v0_ran v0_actor f0_kinds f0_trace s.heap.size 0 p3 p4 i1 i2 i3 hf0_kinds (by omega) (by omega) (by omega) (by omega)) (cwV 3 hts gX0_run_X0_own rfl rfl rfl (by decide +kernel) ⟨by dsimp only; omega, by dsimp only; omega⟩) (pk_V hK hS hAB hPc hDc 0 (ci := 0) rfl rfl rfl) rfl rfl hl.1 rfl (lv_room (Nat.le_of_ble_eq_true rfl)) dX0_run_146 ⟨Nat.le_of_ble_eq_true rfl, Nat.le_of_ble_eq_true rfl⟩) (fun x24 u25 H locs hw hPD hS => ?_)
    obtain ⟨x22, g23⟩ := u25
    obtain ⟨h26, h27⟩ : (0 ≤ x22.toInt ∧ x22.toInt ≤ 100000000) ∧ (v0_ran.toInt ≤ x22.toInt ∧ x22.toInt ≤ v0_ran.toInt + bb d) := hw
    obtain ⟨hP, hD⟩ : PD D A [O0 a0 r0 v0_count x22 v0_actor, (cI κ (r0 0) 50 f0_kinds), (cI κ (r0 2) 24 g23)] H := hPD
    refine lv_iconst (v := 2) hx hb dX0_run_149 (by decide) ?_
    refine lv_imul hx hb dX0_run_150 ?_
    refine lv_topi (fun x28 e29 => ?_)
    try have h30 : x28.toInt = 2 * x24.toInt := ci_mulR (n := 2) (by decide) e29 (by omega) (by omega)
    have hpo : (0 ≤ x22.toInt ∧ x22.toInt ≤ 100000000) ∧ (v0_ran.toInt ≤ x22.toInt ∧ x22.toInt ≤ v0_ran.toInt + 2 * bb d) := ⟨h26, (by omega)⟩
    exact ret _ _ _ _ x28 (x22, g23) dX0_run_151 hpo hP hD hS
  by_cases c31 : p1.toInt = 11
  · refine lv_lookup (off := 151) (tgt := 152) hx hb dX0_run_1 (by decide) (by rw [c31]; decide) (by decide) ?_
    refine lv_iload_n hx hb dX0_run_152 rfl (lv_at hl 3 rfl) ?_
    refine lv_aload_n hx hb dX0_run_153 rfl (lv_at hl 0 rfl) ?_
    refine va_get (D := D) (ci := 0) (v := .int v0_actor) (C := RX0) (T := TX0) (N := 5) hx hb hts w1 hown hK.1 hP 0 rfl rfl 4 (by decide) w0 (fun _ h9 => h9) rfl dX0_run_154 ?_
    refine lv_ixor hx hb dX0_run_157 ?_
    refine lv_topi (fun x32 e33 => ?_)
    have hpo : (0 ≤ v0_ran.toInt ∧ v0_ran.toInt ≤ 100000000) ∧ (v0_ran.toInt ≤ v0_ran.toInt ∧ v0_ran.toInt ≤ v0_ran.toInt + 2 * bb d) := ⟨i2, (by omega)⟩
    exact ret _ _ _ _ x32 (v0_ran, f0_trace) dX0_run_158 hpo hP hD hS
  by_cases c34 : p1.toInt = 20
  · refine lv_lookup (off := 158) (tgt := 159) hx hb dX0_run_1 (by decide) (by rw [c34]; decide) (by decide) ?_
    refine lv_aload_n hx hb dX0_run_159 rfl (lv_at hl 0 rfl) ?_
    refine lv_iload_n hx hb dX0_run_160 rfl (lv_at hl 2 rfl) ?_
    refine lv_iconst (v := 0) hx hb dX0_run_161 (by decide) ?_
    refine lv_iload_n hx hb dX0_run_162 rfl (lv_at hl 3 rfl) ?_
    refine lv_iload hx hb dX0_run_163 (lv_at hl 4 rfl) ?_
    refine kcm_i hA hAB hP hD hS [true, true, true] rfl (fun _ => rfl) (fun hPc hDc => va_runV (As := [.int p2, .int 0, .int p3, .int p4]) (rest := []) ⟨hx, hb, hml, hown, hts⟩ (hfrom a0 r0 v0_count v0_ran v0_actor f0_kinds f0_trace s.heap.size p2 0 p3 p4 i1 i2 i3 hf0_kinds (by omega) (by omega) (by omega) (by omega) (by omega)) (cwV 4 hts gX0_run_X0_from rfl rfl rfl (by decide +kernel) ⟨by dsimp only; omega, by dsimp only; omega⟩) (pk_V hK hS hAB hPc hDc 0 (ci := 0) rfl rfl rfl) rfl rfl hl.1 rfl (lv_room (Nat.le_of_ble_eq_true rfl)) dX0_run_165 ⟨Nat.le_of_ble_eq_true rfl, Nat.le_of_ble_eq_true rfl⟩) (fun x37 u38 H locs hw hPD hS => ?_)
    obtain ⟨x35, g36⟩ := u38
    obtain ⟨h39, h40⟩ : (0 ≤ x35.toInt ∧ x35.toInt ≤ 100000000) ∧ (v0_ran.toInt ≤ x35.toInt ∧ x35.toInt ≤ v0_ran.toInt + bb d) := hw
    obtain ⟨hP, hD⟩ : PD D A [O0 a0 r0 v0_count x35 v0_actor, (cI κ (r0 0) 50 f0_kinds), (cI κ (r0 2) 24 g36)] H := hPD
    refine lv_iconst (v := 3) hx hb dX0_run_168 (by decide) ?_
    refine lv_iadd hx hb dX0_run_169 ?_
    refine lv_topi (fun x41 e42 => ?_)
    try have h43 : x41.toInt = x37.toInt + (3 : Int32).toInt := ci_add e42 (by omega) (by omega)
    have hpo : (0 ≤ x35.toInt ∧ x35.toInt ≤ 100000000) ∧ (v0_ran.toInt ≤ x35.toInt ∧ x35.toInt ≤ v0_ran.toInt + 2 * bb d) := ⟨h39, (by omega)⟩
    exact ret _ _ _ _ x41 (x35, g36) dX0_run_170 hpo hP hD hS
  by_cases c44 : p1.toInt = 30
  · refine lv_lookup (off := 170) (tgt := 171) hx hb dX0_run_1 (by decide) (by rw [c44]; decide) (by decide) ?_
    refine lv_aload_n hx hb dX0_run_171 rfl (lv_at hl 0 rfl) ?_
    refine lv_iload_n hx hb dX0_run_172 rfl (lv_at hl 2 rfl) ?_
    refine lv_iconst (v := 1) hx hb dX0_run_173 (by decide) ?_
    refine lv_iload_n hx hb dX0_run_174 rfl (lv_at hl 3 rfl) ?_
    refine lv_iload hx hb dX0_run_175 (lv_at hl 4 rfl) ?_
    refine kcm_i hA hAB hP hD hS [true, true, true] rfl (fun _ => rfl) (fun hPc hDc => va_runV (As := [.int p2, .int 1, .int p3, .int p4]) (rest := []) ⟨hx, hb, hml, hown, hts⟩ (hfrom a0 r0 v0_count v0_ran v0_actor f0_kinds f0_trace s.heap.size p2 1 p3 p4 i1 i2 i3 hf0_kinds (by omega) (by omega) (by omega) (by omega) (by omega)) (cwV 4 hts gX0_run_X0_from rfl rfl rfl (by decide +kernel) ⟨by dsimp only; omega, by dsimp only; omega⟩) (pk_V hK hS hAB hPc hDc 0 (ci := 0) rfl rfl rfl) rfl rfl hl.1 rfl (lv_room (Nat.le_of_ble_eq_true rfl)) dX0_run_177 ⟨Nat.le_of_ble_eq_true rfl, Nat.le_of_ble_eq_true rfl⟩) (fun x47 u48 H locs hw hPD hS => ?_)
    obtain ⟨x45, g46⟩ := u48
    obtain ⟨h49, h50⟩ : (0 ≤ x45.toInt ∧ x45.toInt ≤ 100000000) ∧ (v0_ran.toInt ≤ x45.toInt ∧ x45.toInt ≤ v0_ran.toInt + bb d) := hw
    obtain ⟨hP, hD⟩ : PD D A [O0 a0 r0 v0_count x45 v0_actor, (cI κ (r0 0) 50 f0_kinds), (cI κ (r0 2) 24 g46)] H := hPD
    refine lv_ineg hx hb dX0_run_180 ?_
    refine lv_topi (fun x51 e52 => ?_)
    try have h53 : x51.toInt = -x47.toInt := ci_neg e52 (by omega)
    have hpo : (0 ≤ x45.toInt ∧ x45.toInt ≤ 100000000) ∧ (v0_ran.toInt ≤ x45.toInt ∧ x45.toInt ≤ v0_ran.toInt + 2 * bb d) := ⟨h49, (by omega)⟩
    exact ret _ _ _ _ x51 (x45, g46) dX0_run_181 hpo hP hD hS
  by_cases c54 : p1.toInt = 40
  · refine lv_lookup (off := 181) (tgt := 182) hx hb dX0_run_1 (by decide) (by rw [c54]; decide) (by decide) ?_
    refine lv_aload_n hx hb dX0_run_182 rfl (lv_at hl 0 rfl) ?_
    refine lv_iload_n hx hb dX0_run_183 rfl (lv_at hl 2 rfl) ?_
    refine lv_iconst (v := 2) hx hb dX0_run_184 (by decide) ?_
    refine lv_iload_n hx hb dX0_run_185 rfl (lv_at hl 3 rfl) ?_
    refine lv_iload hx hb dX0_run_186 (lv_at hl 4 rfl) ?_
    refine kcm_i hA hAB hP hD hS [true, true, true] rfl (fun _ => rfl) (fun hPc hDc => va_runV (As := [.int p2, .int 2, .int p3, .int p4]) (rest := []) ⟨hx, hb, hml, hown, hts⟩ (hfrom a0 r0 v0_count v0_ran v0_actor f0_kinds f0_trace s.heap.size p2 2 p3 p4 i1 i2 i3 hf0_kinds (by omega) (by omega) (by omega) (by omega) (by omega)) (cwV 4 hts gX0_run_X0_from rfl rfl rfl (by decide +kernel) ⟨by dsimp only; omega, by dsimp only; omega⟩) (pk_V hK hS hAB hPc hDc 0 (ci := 0) rfl rfl rfl) rfl rfl hl.1 rfl (lv_room (Nat.le_of_ble_eq_true rfl)) dX0_run_188 ⟨Nat.le_of_ble_eq_true rfl, Nat.le_of_ble_eq_true rfl⟩) (fun x57 u58 H locs hw hPD hS => ?_)
    obtain ⟨x55, g56⟩ := u58
    obtain ⟨h59, h60⟩ : (0 ≤ x55.toInt ∧ x55.toInt ≤ 100000000) ∧ (v0_ran.toInt ≤ x55.toInt ∧ x55.toInt ≤ v0_ran.toInt + bb d) := hw
    obtain ⟨hP, hD⟩ : PD D A [O0 a0 r0 v0_count x55 v0_actor, (cI κ (r0 0) 50 f0_kinds), (cI κ (r0 2) 24 g56)] H := hPD
    refine lv_iconst (v := 3) hx hb dX0_run_191 (by decide) ?_
    refine lv_imul hx hb dX0_run_192 ?_
    refine lv_topi (fun x61 e62 => ?_)
    try have h63 : x61.toInt = 3 * x57.toInt := ci_mulR (n := 3) (by decide) e62 (by omega) (by omega)
    have hpo : (0 ≤ x55.toInt ∧ x55.toInt ≤ 100000000) ∧ (v0_ran.toInt ≤ x55.toInt ∧ x55.toInt ≤ v0_ran.toInt + 2 * bb d) := ⟨h59, (by omega)⟩
    exact ret _ _ _ _ x61 (x55, g56) dX0_run_193 hpo hP hD hS
  by_cases c64 : p1.toInt = 50
  · refine lv_lookup (off := 193) (tgt := 194) hx hb dX0_run_1 (by decide) (by rw [c64]; decide) (by decide) ?_
    refine lv_aload_n hx hb dX0_run_194 rfl (lv_at hl 0 rfl) ?_
    refine lv_iload_n hx hb dX0_run_195 rfl (lv_at hl 2 rfl) ?_
    refine lv_iconst (v := 3) hx hb dX0_run_196 (by decide) ?_
    refine lv_iload_n hx hb dX0_run_197 rfl (lv_at hl 3 rfl) ?_
    refine lv_iload hx hb dX0_run_198 (lv_at hl 4 rfl) ?_
    refine kcm_i hA hAB hP hD hS [true, true, true] rfl (fun _ => rfl) (fun hPc hDc => va_runV (As := [.int p2, .int 3, .int p3, .int p4]) (rest := []) ⟨hx, hb, hml, hown, hts⟩ (hfrom a0 r0 v0_count v0_ran v0_actor f0_kinds f0_trace s.heap.size p2 3 p3 p4 i1 i2 i3 hf0_kinds (by omega) (by omega) (by omega) (by omega) (by omega)) (cwV 4 hts gX0_run_X0_from rfl rfl rfl (by decide +kernel) ⟨by dsimp only; omega, by dsimp only; omega⟩) (pk_V hK hS hAB hPc hDc 0 (ci := 0) rfl rfl rfl) rfl rfl hl.1 rfl (lv_room (Nat.le_of_ble_eq_true rfl)) dX0_run_200 ⟨Nat.le_of_ble_eq_true rfl, Nat.le_of_ble_eq_true rfl⟩) (fun x67 u68 H locs hw hPD hS => ?_)
    obtain ⟨x65, g66⟩ := u68
    obtain ⟨h69, h70⟩ : (0 ≤ x65.toInt ∧ x65.toInt ≤ 100000000) ∧ (v0_ran.toInt ≤ x65.toInt ∧ x65.toInt ≤ v0_ran.toInt + bb d) := hw
    obtain ⟨hP, hD⟩ : PD D A [O0 a0 r0 v0_count x65 v0_actor, (cI κ (r0 0) 50 f0_kinds), (cI κ (r0 2) 24 g66)] H := hPD
    refine lv_iconst (v := 5) hx hb dX0_run_203 (by decide) ?_
    refine lv_ixor hx hb dX0_run_204 ?_
    refine lv_topi (fun x71 e72 => ?_)
    have hpo : (0 ≤ x65.toInt ∧ x65.toInt ≤ 100000000) ∧ (v0_ran.toInt ≤ x65.toInt ∧ x65.toInt ≤ v0_ran.toInt + 2 * bb d) := ⟨h69, (by omega)⟩
    exact ret _ _ _ _ x71 (x65, g66) dX0_run_205 hpo hP hD hS
  by_cases c73 : p1.toInt = 51
  · refine lv_lookup (off := 205) (tgt := 206) hx hb dX0_run_1 (by decide) (by rw [c73]; decide) (by decide) ?_
    refine lv_aload_n hx hb dX0_run_206 rfl (lv_at hl 0 rfl) ?_
    refine lv_iload_n hx hb dX0_run_207 rfl (lv_at hl 2 rfl) ?_
    refine lv_iconst (v := 1) hx hb dX0_run_208 (by decide) ?_
    refine lv_iload_n hx hb dX0_run_209 rfl (lv_at hl 3 rfl) ?_
    refine lv_iconst (v := 1) hx hb dX0_run_210 (by decide) ?_
    refine lv_iadd hx hb dX0_run_211 ?_
    refine lv_topi (fun x74 e75 => ?_)
    try have h76 : x74.toInt = p3.toInt + (1 : Int32).toInt := ci_add e75 (by omega) (by omega)
    refine lv_iload hx hb dX0_run_212 (lv_at hl 4 rfl) ?_
    refine kcm_i hA hAB hP hD hS [true, true, true] rfl (fun _ => rfl) (fun hPc hDc => va_runV (As := [.int p2, .int 1, .int x74, .int p4]) (rest := []) ⟨hx, hb, hml, hown, hts⟩ (hfrom a0 r0 v0_count v0_ran v0_actor f0_kinds f0_trace s.heap.size p2 1 x74 p4 i1 i2 i3 hf0_kinds (by omega) (by omega) (by omega) (by omega) (by omega)) (cwV 4 hts gX0_run_X0_from rfl rfl rfl (by decide +kernel) ⟨by dsimp only; omega, by dsimp only; omega⟩) (pk_V hK hS hAB hPc hDc 0 (ci := 0) rfl rfl rfl) rfl rfl hl.1 rfl (lv_room (Nat.le_of_ble_eq_true rfl)) dX0_run_214 ⟨Nat.le_of_ble_eq_true rfl, Nat.le_of_ble_eq_true rfl⟩) (fun x79 u80 H locs hw hPD hS => ?_)
    obtain ⟨x77, g78⟩ := u80
    obtain ⟨h81, h82⟩ : (0 ≤ x77.toInt ∧ x77.toInt ≤ 100000000) ∧ (v0_ran.toInt ≤ x77.toInt ∧ x77.toInt ≤ v0_ran.toInt + bb d) := hw
    obtain ⟨hP, hD⟩ : PD D A [O0 a0 r0 v0_count x77 v0_actor, (cI κ (r0 0) 50 f0_kinds), (cI κ (r0 2) 24 g78)] H := hPD
    have hpo : (0 ≤ x77.toInt ∧ x77.toInt ≤ 100000000) ∧ (v0_ran.toInt ≤ x77.toInt ∧ x77.toInt ≤ v0_ran.toInt + 2 * bb d) := ⟨h81, (by omega)⟩
    exact ret _ _ _ _ x79 (x77, g78) dX0_run_217 hpo hP hD hS
  by_cases c83 : p1.toInt = 60
  · refine lv_lookup (off := 217) (tgt := 218) hx hb dX0_run_1 (by decide) (by rw [c83]; decide) (by decide) ?_
    refine lv_aload_n hx hb dX0_run_218 rfl (lv_at hl 0 rfl) ?_
    refine lv_iload_n hx hb dX0_run_219 rfl (lv_at hl 2 rfl) ?_
    refine lv_iconst (v := 2) hx hb dX0_run_220 (by decide) ?_
    refine lv_iload_n hx hb dX0_run_221 rfl (lv_at hl 3 rfl) ?_
    refine lv_iload hx hb dX0_run_222 (lv_at hl 4 rfl) ?_
    refine kcm_i hA hAB hP hD hS [true, true, true] rfl (fun _ => rfl) (fun hPc hDc => va_runV (As := [.int p2, .int 2, .int p3, .int p4]) (rest := []) ⟨hx, hb, hml, hown, hts⟩ (hfrom a0 r0 v0_count v0_ran v0_actor f0_kinds f0_trace s.heap.size p2 2 p3 p4 i1 i2 i3 hf0_kinds (by omega) (by omega) (by omega) (by omega) (by omega)) (cwV 4 hts gX0_run_X0_from rfl rfl rfl (by decide +kernel) ⟨by dsimp only; omega, by dsimp only; omega⟩) (pk_V hK hS hAB hPc hDc 0 (ci := 0) rfl rfl rfl) rfl rfl hl.1 rfl (lv_room (Nat.le_of_ble_eq_true rfl)) dX0_run_224 ⟨Nat.le_of_ble_eq_true rfl, Nat.le_of_ble_eq_true rfl⟩) (fun x86 u87 H locs hw hPD hS => ?_)
    obtain ⟨x84, g85⟩ := u87
    obtain ⟨h88, h89⟩ : (0 ≤ x84.toInt ∧ x84.toInt ≤ 100000000) ∧ (v0_ran.toInt ≤ x84.toInt ∧ x84.toInt ≤ v0_ran.toInt + bb d) := hw
    obtain ⟨hP, hD⟩ : PD D A [O0 a0 r0 v0_count x84 v0_actor, (cI κ (r0 0) 50 f0_kinds), (cI κ (r0 2) 24 g85)] H := hPD
    refine lv_aload_n hx hb dX0_run_227 rfl (lv_at hl 0 rfl) ?_
    refine lv_iconst (v := 0) hx hb dX0_run_228 (by decide) ?_
    refine lv_iconst (v := 2) hx hb dX0_run_229 (by decide) ?_
    refine lv_iload hx hb dX0_run_230 (lv_at hl 4 rfl) ?_
    refine kcm_i hA hAB hP hD hS [true, true, true] rfl (fun _ => rfl) (fun hPc hDc => va_runV (As := [.int 0, .int 2, .int p4]) (rest := [.int x86]) ⟨hx, hb, hml, hown, hts⟩ (hown2 a0 r0 v0_count x84 v0_actor f0_kinds g85 H.size 0 2 p4 i1 h88 i3 hf0_kinds (by omega) (by omega) (by omega) (by omega)) (cwV 3 hts gX0_run_X0_own rfl rfl rfl (by decide +kernel) ⟨by dsimp only; omega, by dsimp only; omega⟩) (pk_V hK hS hAB hPc hDc 0 (ci := 0) rfl rfl rfl) rfl rfl hl.1 rfl (lv_room (Nat.le_of_ble_eq_true rfl)) dX0_run_232 ⟨Nat.le_of_ble_eq_true rfl, Nat.le_of_ble_eq_true rfl⟩) (fun x92 u93 H locs hw hPD hS => ?_)
    obtain ⟨x90, g91⟩ := u93
    obtain ⟨h94, h95⟩ : (0 ≤ x90.toInt ∧ x90.toInt ≤ 100000000) ∧ (x84.toInt ≤ x90.toInt ∧ x90.toInt ≤ x84.toInt + bb d) := hw
    obtain ⟨hP, hD⟩ : PD D A [O0 a0 r0 v0_count x90 v0_actor, (cI κ (r0 0) 50 f0_kinds), (cI κ (r0 2) 24 g91)] H := hPD
    refine lv_isub hx hb dX0_run_235 ?_
    refine lv_topi (fun x96 e97 => ?_)
    try have h98 : x96.toInt = x86.toInt - x92.toInt := ci_sub e97 (by omega) (by omega)
    have hpo : (0 ≤ x90.toInt ∧ x90.toInt ≤ 100000000) ∧ (v0_ran.toInt ≤ x90.toInt ∧ x90.toInt ≤ v0_ran.toInt + 2 * bb d) := ⟨h94, (by omega)⟩
    exact ret _ _ _ _ x96 (x90, g91) dX0_run_236 hpo hP hD hS
  by_cases c99 : p1.toInt = 70
  · refine lv_lookup (off := 236) (tgt := 237) hx hb dX0_run_1 (by decide) (by rw [c99]; decide) (by decide) ?_
    refine lv_aload_n hx hb dX0_run_237 rfl (lv_at hl 0 rfl) ?_
    refine lv_iload_n hx hb dX0_run_238 rfl (lv_at hl 2 rfl) ?_
    refine lv_iconst (v := 0) hx hb dX0_run_239 (by decide) ?_
    refine lv_iload_n hx hb dX0_run_240 rfl (lv_at hl 3 rfl) ?_
    refine lv_iload hx hb dX0_run_241 (lv_at hl 4 rfl) ?_
    refine kcm_i hA hAB hP hD hS [true, true, true] rfl (fun _ => rfl) (fun hPc hDc => va_runV (As := [.int p2, .int 0, .int p3, .int p4]) (rest := []) ⟨hx, hb, hml, hown, hts⟩ (hfrom a0 r0 v0_count v0_ran v0_actor f0_kinds f0_trace s.heap.size p2 0 p3 p4 i1 i2 i3 hf0_kinds (by omega) (by omega) (by omega) (by omega) (by omega)) (cwV 4 hts gX0_run_X0_from rfl rfl rfl (by decide +kernel) ⟨by dsimp only; omega, by dsimp only; omega⟩) (pk_V hK hS hAB hPc hDc 0 (ci := 0) rfl rfl rfl) rfl rfl hl.1 rfl (lv_room (Nat.le_of_ble_eq_true rfl)) dX0_run_243 ⟨Nat.le_of_ble_eq_true rfl, Nat.le_of_ble_eq_true rfl⟩) (fun x102 u103 H locs hw hPD hS => ?_)
    obtain ⟨x100, g101⟩ := u103
    obtain ⟨h104, h105⟩ : (0 ≤ x100.toInt ∧ x100.toInt ≤ 100000000) ∧ (v0_ran.toInt ≤ x100.toInt ∧ x100.toInt ≤ v0_ran.toInt + bb d) := hw
    obtain ⟨hP, hD⟩ : PD D A [O0 a0 r0 v0_count x100 v0_actor, (cI κ (r0 0) 50 f0_kinds), (cI κ (r0 2) 24 g101)] H := hPD
    refine lv_iconst (v := 2) hx hb dX0_run_246 (by decide) ?_
    refine lv_imul hx hb dX0_run_247 ?_
    refine lv_topi (fun x106 e107 => ?_)
    try have h108 : x106.toInt = 2 * x102.toInt := ci_mulR (n := 2) (by decide) e107 (by omega) (by omega)
    have hpo : (0 ≤ x100.toInt ∧ x100.toInt ≤ 100000000) ∧ (v0_ran.toInt ≤ x100.toInt ∧ x100.toInt ≤ v0_ran.toInt + 2 * bb d) := ⟨h104, (by omega)⟩
    exact ret _ _ _ _ x106 (x100, g101) dX0_run_248 hpo hP hD hS
  by_cases c109 : p1.toInt = 80
  · refine lv_lookup (off := 248) (tgt := 249) hx hb dX0_run_1 (by decide) (by rw [c109]; decide) (by decide) ?_
    refine lv_aload_n hx hb dX0_run_249 rfl (lv_at hl 0 rfl) ?_
    refine lv_iload_n hx hb dX0_run_250 rfl (lv_at hl 2 rfl) ?_
    refine lv_iconst (v := 1) hx hb dX0_run_251 (by decide) ?_
    refine lv_iload_n hx hb dX0_run_252 rfl (lv_at hl 3 rfl) ?_
    refine lv_iload hx hb dX0_run_253 (lv_at hl 4 rfl) ?_
    refine kcm_i hA hAB hP hD hS [true, true, true] rfl (fun _ => rfl) (fun hPc hDc => va_runV (As := [.int p2, .int 1, .int p3, .int p4]) (rest := []) ⟨hx, hb, hml, hown, hts⟩ (hfrom a0 r0 v0_count v0_ran v0_actor f0_kinds f0_trace s.heap.size p2 1 p3 p4 i1 i2 i3 hf0_kinds (by omega) (by omega) (by omega) (by omega) (by omega)) (cwV 4 hts gX0_run_X0_from rfl rfl rfl (by decide +kernel) ⟨by dsimp only; omega, by dsimp only; omega⟩) (pk_V hK hS hAB hPc hDc 0 (ci := 0) rfl rfl rfl) rfl rfl hl.1 rfl (lv_room (Nat.le_of_ble_eq_true rfl)) dX0_run_255 ⟨Nat.le_of_ble_eq_true rfl, Nat.le_of_ble_eq_true rfl⟩) (fun x112 u113 H locs hw hPD hS => ?_)
    obtain ⟨x110, g111⟩ := u113
    obtain ⟨h114, h115⟩ : (0 ≤ x110.toInt ∧ x110.toInt ≤ 100000000) ∧ (v0_ran.toInt ≤ x110.toInt ∧ x110.toInt ≤ v0_ran.toInt + bb d) := hw
    obtain ⟨hP, hD⟩ : PD D A [O0 a0 r0 v0_count x110 v0_actor, (cI κ (r0 0) 50 f0_kinds), (cI κ (r0 2) 24 g111)] H := hPD
    refine lv_aload_n hx hb dX0_run_258 rfl (lv_at hl 0 rfl) ?_
    refine lv_iconst (v := 2) hx hb dX0_run_259 (by decide) ?_
    refine lv_iconst (v := 2) hx hb dX0_run_260 (by decide) ?_
    refine lv_iload hx hb dX0_run_261 (lv_at hl 4 rfl) ?_
    refine kcm_i hA hAB hP hD hS [true, true, true] rfl (fun _ => rfl) (fun hPc hDc => va_runV (As := [.int 2, .int 2, .int p4]) (rest := [.int x112]) ⟨hx, hb, hml, hown, hts⟩ (hown2 a0 r0 v0_count x110 v0_actor f0_kinds g111 H.size 2 2 p4 i1 h114 i3 hf0_kinds (by omega) (by omega) (by omega) (by omega)) (cwV 3 hts gX0_run_X0_own rfl rfl rfl (by decide +kernel) ⟨by dsimp only; omega, by dsimp only; omega⟩) (pk_V hK hS hAB hPc hDc 0 (ci := 0) rfl rfl rfl) rfl rfl hl.1 rfl (lv_room (Nat.le_of_ble_eq_true rfl)) dX0_run_263 ⟨Nat.le_of_ble_eq_true rfl, Nat.le_of_ble_eq_true rfl⟩) (fun x118 u119 H locs hw hPD hS => ?_)
    obtain ⟨x116, g117⟩ := u119
    obtain ⟨h120, h121⟩ : (0 ≤ x116.toInt ∧ x116.toInt ≤ 100000000) ∧ (x110.toInt ≤ x116.toInt ∧ x116.toInt ≤ x110.toInt + bb d) := hw
    obtain ⟨hP, hD⟩ : PD D A [O0 a0 r0 v0_count x116 v0_actor, (cI κ (r0 0) 50 f0_kinds), (cI κ (r0 2) 24 g117)] H := hPD
    refine lv_iadd hx hb dX0_run_266 ?_
    refine lv_topi (fun x122 e123 => ?_)
    try have h124 : x122.toInt = x112.toInt + x118.toInt := ci_add e123 (by omega) (by omega)
    have hpo : (0 ≤ x116.toInt ∧ x116.toInt ≤ 100000000) ∧ (v0_ran.toInt ≤ x116.toInt ∧ x116.toInt ≤ v0_ran.toInt + 2 * bb d) := ⟨h120, (by omega)⟩
    exact ret _ _ _ _ x122 (x116, g117) dX0_run_267 hpo hP hD hS
  by_cases c125 : p1.toInt = 81
  · refine lv_lookup (off := 267) (tgt := 268) hx hb dX0_run_1 (by decide) (by rw [c125]; decide) (by decide) ?_
    refine lv_aload_n hx hb dX0_run_268 rfl (lv_at hl 0 rfl) ?_
    refine lv_iload_n hx hb dX0_run_269 rfl (lv_at hl 2 rfl) ?_
    refine lv_iconst (v := 3) hx hb dX0_run_270 (by decide) ?_
    refine lv_iload_n hx hb dX0_run_271 rfl (lv_at hl 3 rfl) ?_
    refine lv_iload hx hb dX0_run_272 (lv_at hl 4 rfl) ?_
    refine kcm_i hA hAB hP hD hS [true, true, true] rfl (fun _ => rfl) (fun hPc hDc => va_runV (As := [.int p2, .int 3, .int p3, .int p4]) (rest := []) ⟨hx, hb, hml, hown, hts⟩ (hfrom a0 r0 v0_count v0_ran v0_actor f0_kinds f0_trace s.heap.size p2 3 p3 p4 i1 i2 i3 hf0_kinds (by omega) (by omega) (by omega) (by omega) (by omega)) (cwV 4 hts gX0_run_X0_from rfl rfl rfl (by decide +kernel) ⟨by dsimp only; omega, by dsimp only; omega⟩) (pk_V hK hS hAB hPc hDc 0 (ci := 0) rfl rfl rfl) rfl rfl hl.1 rfl (lv_room (Nat.le_of_ble_eq_true rfl)) dX0_run_274 ⟨Nat.le_of_ble_eq_true rfl, Nat.le_of_ble_eq_true rfl⟩) (fun x128 u129 H locs hw hPD hS => ?_)
    obtain ⟨x126, g127⟩ := u129
    obtain ⟨h130, h131⟩ : (0 ≤ x126.toInt ∧ x126.toInt ≤ 100000000) ∧ (v0_ran.toInt ≤ x126.toInt ∧ x126.toInt ≤ v0_ran.toInt + bb d) := hw
    obtain ⟨hP, hD⟩ : PD D A [O0 a0 r0 v0_count x126 v0_actor, (cI κ (r0 0) 50 f0_kinds), (cI κ (r0 2) 24 g127)] H := hPD
    refine lv_iconst (v := 1) hx hb dX0_run_277 (by decide) ?_
    refine lv_isub hx hb dX0_run_278 ?_
    refine lv_topi (fun x132 e133 => ?_)
    try have h134 : x132.toInt = x128.toInt - (1 : Int32).toInt := ci_sub e133 (by omega) (by omega)
    have hpo : (0 ≤ x126.toInt ∧ x126.toInt ≤ 100000000) ∧ (v0_ran.toInt ≤ x126.toInt ∧ x126.toInt ≤ v0_ran.toInt + 2 * bb d) := ⟨h130, (by omega)⟩
    exact ret _ _ _ _ x132 (x126, g127) dX0_run_279 hpo hP hD hS
  refine lv_lookup (off := 279) (tgt := 280) hx hb dX0_run_1 (by decide) (by show Op.lookupswitch.offset [(1, 115), (2, 122), (10, 140), (11, 151), (20, 158), (30, 170), (40, 181), (50, 193), (51, 205), (60, 217), (70, 236), (80, 248), (81, 267)] 279 p1.toInt = 279; rw [Op.lookupswitch.offset_cons, if_neg (by omega), Op.lookupswitch.offset_cons, if_neg (by omega), Op.lookupswitch.offset_cons, if_neg (by omega), Op.lookupswitch.offset_cons, if_neg (by omega), Op.lookupswitch.offset_cons, if_neg (by omega), Op.lookupswitch.offset_cons, if_neg (by omega), Op.lookupswitch.offset_cons, if_neg (by omega), Op.lookupswitch.offset_cons, if_neg (by omega), Op.lookupswitch.offset_cons, if_neg (by omega), Op.lookupswitch.offset_cons, if_neg (by omega), Op.lookupswitch.offset_cons, if_neg (by omega), Op.lookupswitch.offset_cons, if_neg (by omega), Op.lookupswitch.offset_cons, if_neg (by omega), Op.lookupswitch.offset_nil]) (by decide) ?_
  refine lv_iconst (v := 0) hx hb dX0_run_280 (by decide) ?_
  have hpo : (0 ≤ v0_ran.toInt ∧ v0_ran.toInt ≤ 100000000) ∧ (v0_ran.toInt ≤ v0_ran.toInt ∧ v0_ran.toInt ≤ v0_ran.toInt + 2 * bb d) := ⟨i2, (by omega)⟩
  exact ret _ _ _ _ 0 (v0_ran, f0_trace) dX0_run_281 hpo hP hD hS
set_option maxHeartbeats 4000000 in
set_option maxRecDepth 100000 in
theorem of_X0_from (l : Launch) (D : va_G) (κ : Nat → ClassId) (β d : Nat) (hrun : C_X0_run l D κ β d) : C_X0_from l D κ β (d + 1) := by
  intro a0 r0 v0_count v0_ran v0_actor f0_kinds f0_trace sz p1 p2 p3 p4 i1 i2 i3 hf0_kinds i4 i5 i6 i7 i8
  refine ofK_i (cc := cX0_from) (maxL := 7) (own := RX0) (by decide) rfl rfl (Nat.le_of_ble_eq_true rfl) ?_
  intro p e s m args below meth c Q A ls hsz hx hb hml hts hown hK hA hAB hP hD hl ret
  have hS : va_S A s.heap s.heap [] := va_S.rf
  have hl : lv_has ls 7 [(0, .ref a0), (1, .int p1), (2, .int p2), (3, .int p3), (4, .int p4)] := hl
  have w0 := hts (.fieldLink RX0 53 "OlderSkin$Bodies" "OWN" "[I") (List.mem_of_getElem? (i := 1) rfl)
  have w1 := hts (.fieldLink RX0 26 "OlderSkin$Bodies" "ran" "I") (List.mem_of_getElem? (i := 3) rfl)
  have w2 := (fun w h => List.mem_cons_of_mem _ (List.mem_append_right _ h) : ∀ w ∈ u_ws RX0 TX0 5, w ∈ wsX0_from)
  have w3 := hts (.fieldLink RX0 15 "OlderSkin$Bodies" "trace" "[I") (List.mem_of_getElem? (i := 4) rfl)
  have w4 := hts (.fieldLink RX0 35 "OlderSkin$Bodies" "ABOVE" "[I") (List.mem_of_getElem? (i := 2) rfl)
  have l0 : (0 : Int32).toInt = 0 := by decide
  have l1 : (8 : Int32).toInt = 8 := by decide
  have l2 : (24 : Int32).toInt = 24 := by decide
  have l3 : (4 : Int32).toInt = 4 := by decide
  have l4 : (1 : Int32).toInt = 1 := by decide
  have i2 : 0 ≤ v0_ran.toInt ∧ v0_ran.toInt ≤ 100000000 := i2
  obtain ⟨t1, t2, z1, y1, z2, y2⟩ := hK.2.2.2.2.1
  have z1 := z1.narrow hAB
  have y1 := y1.narrow hAB
  have z2 := z2.narrow hAB
  have y2 := y2.narrow hAB
  have hb1 := bb_succ d
  have hb0 := bb_nn d
  refine lv_iload_n hx hb dX0_from_0 rfl (lv_at hl 1 rfl) ?_
  refine lv_istore (lv' := [(5, .int p1), (0, .ref a0), (1, .int p1), (2, .int p2), (3, .int p3), (4, .int p4)]) hx hb dX0_from_1 hl (by decide) rfl (fun ls hl => ?_)
  refine lv_iconst (v := 0) hx hb dX0_from_3 (by decide) ?_
  refine lv_istore (lv' := [(6, .int 0), (5, .int p1), (0, .ref a0), (1, .int p1), (2, .int p2), (3, .int p3), (4, .int p4)]) hx hb dX0_from_4 hl (by decide) rfl (fun ls hl => ?_)
  have lp6 : ∀ (n6 : Nat) (k1 : Int32) (k2 : Int32), (-1 ≤ k2.toInt ∧ k2.toInt ≤ 7) → (0 ≤ k1.toInt) → (8 - k1.toInt).toNat < n6 → ∀ (H : Heap) (locs : List Loc), va_P D vwCl [O0 a0 r0 v0_count v0_ran v0_actor, (cI κ (r0 0) 50 f0_kinds), (cI κ (r0 2) 24 f0_trace)] H → va_D A [O0 a0 r0 v0_count v0_ran v0_actor, (cI κ (r0 0) 50 f0_kinds), (cI κ (r0 2) 24 f0_trace)] → va_S A s.heap H locs → ∀ ls : Array Slot, lv_has ls 7 [(6, .int k1), (5, .int k2), (0, .ref a0), (1, .int p1), (2, .int p2), (3, .int p3), (4, .int p4)] → W p l e ({ frames := 3 * (d + 1), cells := 0, slots := 0, locals := 73 * (d + 1) } : Room) s m args below meth c H locs 0 0 Q (F0 m 6 ls []) := by
    intro n6
    induction n6 with
    | zero =>
      intro k1 k2 h3 h4 m5
      exact absurd m5 (Nat.not_lt_zero _)
    | succ n6 ih6 =>
      intro k1 k2 h3 h4 m5 H locs hP hD hS ls hl
      refine lv_iload hx hb dX0_from_6 (lv_at hl 0 rfl) ?_
      refine lv_bipush (v := 8) hx hb dX0_from_8 (by decide) ?_
      refine lv_icmp_ge (tgt := 45) hx hb dX0_from_10 (by decide) (fun c6 => ?_) (fun c6 => ?_)
      · have c6 := ci_le c6
        refine lv_iload hx hb dX0_from_45 (lv_at hl 1 rfl) ?_
        refine lv_if_lt (tgt := 57) hx hb dX0_from_47 (by decide) (fun c7 => ?_) (fun c7 => ?_)
        · have c7 := ci_lt c7
          refine lv_iconst (v := 0) hx hb dX0_from_57 (by decide) ?_
          have hpo : (0 ≤ v0_ran.toInt ∧ v0_ran.toInt ≤ 100000000) ∧ (v0_ran.toInt ≤ v0_ran.toInt ∧ v0_ran.toInt ≤ v0_ran.toInt + bb (d + 1)) := ⟨i2, (by omega)⟩
          exact ret _ _ _ _ 0 (v0_ran, f0_trace) dX0_from_58 hpo hP hD hS
        have c7 := ci_nlt c7
        refine lv_iload hx hb dX0_from_50 (lv_at hl 6 rfl) ?_
        refine lv_bipush (v := 24) hx hb dX0_from_52 (by decide) ?_
        refine lv_icmp_le (tgt := 59) hx hb dX0_from_54 (by decide) (fun c8 => ?_) (fun c8 => ?_)
        · have c8 := ci_le c8
          refine va_gets hx hb z2 hS hown w0 (fun _ h9 => h9) dX0_from_59 ?_
          refine lv_iconst (v := 4) hx hb dX0_from_62 (by decide) ?_
          refine lv_iload hx hb dX0_from_63 (lv_at hl 1 rfl) ?_
          refine lv_imul hx hb dX0_from_65 ?_
          refine lv_topi (fun x9 e10 => ?_)
          try have h11 : x9.toInt = 4 * k2.toInt := ci_mulL (n := 4) (by decide) e10 (by omega) (by omega)
          refine lv_iload_n hx hb dX0_from_66 rfl (lv_at hl 4 rfl) ?_
          refine lv_iadd hx hb dX0_from_67 ?_
          refine lv_topi (fun x12 e13 => ?_)
          try have h14 : x12.toInt = x9.toInt + p2.toInt := ci_add e13 (by omega) (by omega)
          refine va_ti hx hb y2 hS (i := x12) (ix (by omega) (by omega)) rfl dX0_from_68 ?_
          refine lv_topi (fun x15 e16 => ?_)
          refine lv_istore (lv' := [(6, .int x15), (5, .int k2), (0, .ref a0), (1, .int p1), (2, .int p2), (3, .int p3), (4, .int p4)]) hx hb dX0_from_69 hl (by decide) rfl (fun ls hl => ?_)
          refine lv_aload_n hx hb dX0_from_71 rfl (lv_at hl 2 rfl) ?_
          refine va_get (D := D) (ci := 0) (v := .int v0_ran) (C := RX0) (T := TX0) (N := 5) hx hb hts w2 hown hK.1 hP 0 rfl rfl 3 (by decide) w1 (fun _ h9 => h9) rfl dX0_from_72 ?_
          refine lv_aload_n hx hb dX0_from_75 rfl (lv_at hl 2 rfl) ?_
          refine va_get (D := D) (ci := 0) (v := .ref (r0 2)) (C := RX0) (T := TX0) (N := 5) hx hb hts w2 hown hK.1 hP 0 rfl rfl 2 (by decide) w3 (fun _ h9 => h9) rfl dX0_from_76 ?_
          refine va_alen hx hb hK.1 hP 2 1 rfl rfl (v := 24) rfl dX0_from_79 ?_
          refine lv_icmp_ge (tgt := 94) hx hb dX0_from_80 (by decide) (fun c17 => ?_) (fun c17 => ?_)
          · have c17 := ci_le c17
            refine lv_aload_n hx hb dX0_from_94 rfl (lv_at hl 2 rfl) ?_
            refine lv_dup hx hb dX0_from_95 rfl ?_
            refine va_get (D := D) (ci := 0) (v := .int v0_ran) (C := RX0) (T := TX0) (N := 5) hx hb hts w2 hown hK.1 hP 0 rfl rfl 3 (by decide) w1 (fun _ h9 => h9) rfl dX0_from_96 ?_
            refine lv_iconst (v := 1) hx hb dX0_from_99 (by decide) ?_
            refine lv_iadd hx hb dX0_from_100 ?_
            refine lv_topi (fun x18 e19 => ?_)
            try have h20 : x18.toInt = v0_ran.toInt + (1 : Int32).toInt := ci_add e19 (by omega) (by omega)
            refine va_put (D := D) (ci := 0) (v := .int x18) (ty := .int) (C := RX0) (T := TX0) (N := 5) hx hb hts w2 tyX0 tyX0_ok nmX0 hown hK.1 hP hD hS 0 rfl rfl 3 (by decide) w1 (fun _ h9 => h9) rfl (by decide +kernel) rfl rfl (Nat.le_of_ble_eq_true rfl) dX0_from_101 (fun H locs hP hD hS => ?_)
            obtain ⟨hP, hD⟩ : PD D A [O0 a0 r0 v0_count x18 v0_actor, (cI κ (r0 0) 50 f0_kinds), (cI κ (r0 2) 24 f0_trace)] H := ⟨hP, hD⟩
            have h21 : 0 ≤ x18.toInt ∧ x18.toInt ≤ 100000000 := by omega
            refine lv_aload_n hx hb dX0_from_104 rfl (lv_at hl 2 rfl) ?_
            refine lv_iload hx hb dX0_from_105 (lv_at hl 0 rfl) ?_
            refine va_gets hx hb z1 hS hown w4 (fun _ h9 => h9) dX0_from_107 ?_
            refine lv_iload hx hb dX0_from_110 (lv_at hl 1 rfl) ?_
            refine va_ti hx hb y1 hS (i := k2) (ix (by omega) (by omega)) rfl dX0_from_112 ?_
            refine lv_topi (fun x22 e23 => ?_)
            have h24 := tb_above k2.toNatClampNeg; rw [← e23] at h24
            refine lv_iload_n hx hb dX0_from_113 rfl (lv_at hl 5 rfl) ?_
            refine lv_iload hx hb dX0_from_114 (lv_at hl 6 rfl) ?_
            refine lv_iconst (v := 1) hx hb dX0_from_116 (by decide) ?_
            refine lv_iadd hx hb dX0_from_117 ?_
            refine lv_topi (fun x25 e26 => ?_)
            try have h27 : x25.toInt = p4.toInt + (1 : Int32).toInt := ci_add e26 (by omega) (by omega)
            refine kcm_i hA hAB hP hD hS [true, true, true] rfl (fun _ => rfl) (fun hPc hDc => va_runV (As := [.int x15, .int x22, .int p3, .int x25]) (rest := []) ⟨hx, hb, hml, hown, hts⟩ (hrun a0 r0 v0_count x18 v0_actor f0_kinds f0_trace H.size x15 x22 p3 x25 i1 h21 i3 hf0_kinds (by omega) (by omega) (by omega) (by omega)) (cwV 4 hts gX0_from_X0_run rfl rfl rfl (by decide +kernel) ⟨by dsimp only; omega, by dsimp only; omega⟩) (pk_V hK hS hAB hPc hDc 0 (ci := 0) rfl rfl rfl) rfl rfl hl.1 rfl (lv_room (Nat.le_of_ble_eq_true rfl)) dX0_from_118 ⟨Nat.le_of_ble_eq_true rfl, Nat.le_of_ble_eq_true rfl⟩) (fun x30 u31 H locs hw hPD hS => ?_)
            obtain ⟨x28, g29⟩ := u31
            obtain ⟨h32, h33⟩ : (0 ≤ x28.toInt ∧ x28.toInt ≤ 100000000) ∧ (x18.toInt ≤ x28.toInt ∧ x28.toInt ≤ x18.toInt + 2 * bb d) := hw
            obtain ⟨hP, hD⟩ : PD D A [O0 a0 r0 v0_count x28 v0_actor, (cI κ (r0 0) 50 f0_kinds), (cI κ (r0 2) 24 g29)] H := hPD
            have hpo : (0 ≤ x28.toInt ∧ x28.toInt ≤ 100000000) ∧ (v0_ran.toInt ≤ x28.toInt ∧ x28.toInt ≤ v0_ran.toInt + bb (d + 1)) := ⟨h32, (by omega)⟩
            exact ret _ _ _ _ x30 (x28, g29) dX0_from_121 hpo hP hD hS
          have c17 := ci_nle c17
          refine lv_aload_n hx hb dX0_from_83 rfl (lv_at hl 2 rfl) ?_
          refine va_get (D := D) (ci := 0) (v := .ref (r0 2)) (C := RX0) (T := TX0) (N := 5) hx hb hts w2 hown hK.1 hP 0 rfl rfl 2 (by decide) w3 (fun _ h9 => h9) rfl dX0_from_84 ?_
          refine lv_aload_n hx hb dX0_from_87 rfl (lv_at hl 2 rfl) ?_
          refine va_get (D := D) (ci := 0) (v := .int v0_ran) (C := RX0) (T := TX0) (N := 5) hx hb hts w2 hown hK.1 hP 0 rfl rfl 3 (by decide) w1 (fun _ h9 => h9) rfl dX0_from_88 ?_
          refine lv_iload hx hb dX0_from_91 (lv_at hl 0 rfl) ?_
          refine va_iast hx hb hK.1 hP hD hS 2 1 rfl rfl (i := v0_ran) (ix (by omega) (by omega)) dX0_from_93 (fun H locs hP hD hS => ?_)
          obtain ⟨g34, e35⟩ : ∃ y : Nat → Int32, y = upd f0_trace v0_ran.toNatClampNeg x15 := ⟨_, rfl⟩
          rw [← e35] at hP hD
          obtain ⟨hP, hD⟩ : PD D A [O0 a0 r0 v0_count v0_ran v0_actor, (cI κ (r0 0) 50 f0_kinds), (cI κ (r0 2) 24 g34)] H := ⟨hP, hD⟩
          refine lv_aload_n hx hb dX0_from_94 rfl (lv_at hl 2 rfl) ?_
          refine lv_dup hx hb dX0_from_95 rfl ?_
          refine va_get (D := D) (ci := 0) (v := .int v0_ran) (C := RX0) (T := TX0) (N := 5) hx hb hts w2 hown hK.1 hP 0 rfl rfl 3 (by decide) w1 (fun _ h9 => h9) rfl dX0_from_96 ?_
          refine lv_iconst (v := 1) hx hb dX0_from_99 (by decide) ?_
          refine lv_iadd hx hb dX0_from_100 ?_
          refine lv_topi (fun x36 e37 => ?_)
          try have h38 : x36.toInt = v0_ran.toInt + (1 : Int32).toInt := ci_add e37 (by omega) (by omega)
          refine va_put (D := D) (ci := 0) (v := .int x36) (ty := .int) (C := RX0) (T := TX0) (N := 5) hx hb hts w2 tyX0 tyX0_ok nmX0 hown hK.1 hP hD hS 0 rfl rfl 3 (by decide) w1 (fun _ h9 => h9) rfl (by decide +kernel) rfl rfl (Nat.le_of_ble_eq_true rfl) dX0_from_101 (fun H locs hP hD hS => ?_)
          obtain ⟨hP, hD⟩ : PD D A [O0 a0 r0 v0_count x36 v0_actor, (cI κ (r0 0) 50 f0_kinds), (cI κ (r0 2) 24 g34)] H := ⟨hP, hD⟩
          have h39 : 0 ≤ x36.toInt ∧ x36.toInt ≤ 100000000 := by omega
          refine lv_aload_n hx hb dX0_from_104 rfl (lv_at hl 2 rfl) ?_
          refine lv_iload hx hb dX0_from_105 (lv_at hl 0 rfl) ?_
          refine va_gets hx hb z1 hS hown w4 (fun _ h9 => h9) dX0_from_107 ?_
          refine lv_iload hx hb dX0_from_110 (lv_at hl 1 rfl) ?_
          refine va_ti hx hb y1 hS (i := k2) (ix (by omega) (by omega)) rfl dX0_from_112 ?_
          refine lv_topi (fun x40 e41 => ?_)
          have h42 := tb_above k2.toNatClampNeg; rw [← e41] at h42
          refine lv_iload_n hx hb dX0_from_113 rfl (lv_at hl 5 rfl) ?_
          refine lv_iload hx hb dX0_from_114 (lv_at hl 6 rfl) ?_
          refine lv_iconst (v := 1) hx hb dX0_from_116 (by decide) ?_
          refine lv_iadd hx hb dX0_from_117 ?_
          refine lv_topi (fun x43 e44 => ?_)
          try have h45 : x43.toInt = p4.toInt + (1 : Int32).toInt := ci_add e44 (by omega) (by omega)
          refine kcm_i hA hAB hP hD hS [true, true, true] rfl (fun _ => rfl) (fun hPc hDc => va_runV (As := [.int x15, .int x40, .int p3, .int x43]) (rest := []) ⟨hx, hb, hml, hown, hts⟩ (hrun a0 r0 v0_count x36 v0_actor f0_kinds g34 H.size x15 x40 p3 x43 i1 h39 i3 hf0_kinds (by omega) (by omega) (by omega) (by omega)) (cwV 4 hts gX0_from_X0_run rfl rfl rfl (by decide +kernel) ⟨by dsimp only; omega, by dsimp only; omega⟩) (pk_V hK hS hAB hPc hDc 0 (ci := 0) rfl rfl rfl) rfl rfl hl.1 rfl (lv_room (Nat.le_of_ble_eq_true rfl)) dX0_from_118 ⟨Nat.le_of_ble_eq_true rfl, Nat.le_of_ble_eq_true rfl⟩) (fun x48 u49 H locs hw hPD hS => ?_)
          obtain ⟨x46, g47⟩ := u49
          obtain ⟨h50, h51⟩ : (0 ≤ x46.toInt ∧ x46.toInt ≤ 100000000) ∧ (x36.toInt ≤ x46.toInt ∧ x46.toInt ≤ x36.toInt + 2 * bb d) := hw
          obtain ⟨hP, hD⟩ : PD D A [O0 a0 r0 v0_count x46 v0_actor, (cI κ (r0 0) 50 f0_kinds), (cI κ (r0 2) 24 g47)] H := hPD
          have hpo : (0 ≤ x46.toInt ∧ x46.toInt ≤ 100000000) ∧ (v0_ran.toInt ≤ x46.toInt ∧ x46.toInt ≤ v0_ran.toInt + bb (d + 1)) := ⟨h50, (by omega)⟩
          exact ret _ _ _ _ x48 (x46, g47) dX0_from_121 hpo hP hD hS
        have c8 := ci_nle c8
        refine lv_iconst (v := 0) hx hb dX0_from_57 (by decide) ?_
        have hpo : (0 ≤ v0_ran.toInt ∧ v0_ran.toInt ≤ 100000000) ∧ (v0_ran.toInt ≤ v0_ran.toInt ∧ v0_ran.toInt ≤ v0_ran.toInt + bb (d + 1)) := ⟨i2, (by omega)⟩
        exact ret _ _ _ _ 0 (v0_ran, f0_trace) dX0_from_58 hpo hP hD hS
      have c6 := ci_nle c6
      refine lv_iload hx hb dX0_from_13 (lv_at hl 1 rfl) ?_
      refine lv_if_lt (tgt := 45) hx hb dX0_from_15 (by decide) (fun c52 => ?_) (fun c52 => ?_)
      · have c52 := ci_lt c52
        refine lv_iload hx hb dX0_from_45 (lv_at hl 1 rfl) ?_
        refine lv_if_lt (tgt := 57) hx hb dX0_from_47 (by decide) (fun c53 => ?_) (fun c53 => ?_)
        · have c53 := ci_lt c53
          refine lv_iconst (v := 0) hx hb dX0_from_57 (by decide) ?_
          have hpo : (0 ≤ v0_ran.toInt ∧ v0_ran.toInt ≤ 100000000) ∧ (v0_ran.toInt ≤ v0_ran.toInt ∧ v0_ran.toInt ≤ v0_ran.toInt + bb (d + 1)) := ⟨i2, (by omega)⟩
          exact ret _ _ _ _ 0 (v0_ran, f0_trace) dX0_from_58 hpo hP hD hS
        have c53 := ci_nlt c53
        refine lv_iload hx hb dX0_from_50 (lv_at hl 6 rfl) ?_
        refine lv_bipush (v := 24) hx hb dX0_from_52 (by decide) ?_
        refine lv_icmp_le (tgt := 59) hx hb dX0_from_54 (by decide) (fun c54 => ?_) (fun c54 => ?_)
        · have c54 := ci_le c54
          refine va_gets hx hb z2 hS hown w0 (fun _ h9 => h9) dX0_from_59 ?_
          refine lv_iconst (v := 4) hx hb dX0_from_62 (by decide) ?_
          refine lv_iload hx hb dX0_from_63 (lv_at hl 1 rfl) ?_
          refine lv_imul hx hb dX0_from_65 ?_
          refine lv_topi (fun x55 e56 => ?_)
          try have h57 : x55.toInt = 4 * k2.toInt := ci_mulL (n := 4) (by decide) e56 (by omega) (by omega)
          refine lv_iload_n hx hb dX0_from_66 rfl (lv_at hl 4 rfl) ?_
          refine lv_iadd hx hb dX0_from_67 ?_
          refine lv_topi (fun x58 e59 => ?_)
          try have h60 : x58.toInt = x55.toInt + p2.toInt := ci_add e59 (by omega) (by omega)
          refine va_ti hx hb y2 hS (i := x58) (ix (by omega) (by omega)) rfl dX0_from_68 ?_
          refine lv_topi (fun x61 e62 => ?_)
          refine lv_istore (lv' := [(6, .int x61), (5, .int k2), (0, .ref a0), (1, .int p1), (2, .int p2), (3, .int p3), (4, .int p4)]) hx hb dX0_from_69 hl (by decide) rfl (fun ls hl => ?_)
          refine lv_aload_n hx hb dX0_from_71 rfl (lv_at hl 2 rfl) ?_
          refine va_get (D := D) (ci := 0) (v := .int v0_ran) (C := RX0) (T := TX0) (N := 5) hx hb hts w2 hown hK.1 hP 0 rfl rfl 3 (by decide) w1 (fun _ h9 => h9) rfl dX0_from_72 ?_
          refine lv_aload_n hx hb dX0_from_75 rfl (lv_at hl 2 rfl) ?_
          refine va_get (D := D) (ci := 0) (v := .ref (r0 2)) (C := RX0) (T := TX0) (N := 5) hx hb hts w2 hown hK.1 hP 0 rfl rfl 2 (by decide) w3 (fun _ h9 => h9) rfl dX0_from_76 ?_
          refine va_alen hx hb hK.1 hP 2 1 rfl rfl (v := 24) rfl dX0_from_79 ?_
          refine lv_icmp_ge (tgt := 94) hx hb dX0_from_80 (by decide) (fun c63 => ?_) (fun c63 => ?_)
          · have c63 := ci_le c63
            refine lv_aload_n hx hb dX0_from_94 rfl (lv_at hl 2 rfl) ?_
            refine lv_dup hx hb dX0_from_95 rfl ?_
            refine va_get (D := D) (ci := 0) (v := .int v0_ran) (C := RX0) (T := TX0) (N := 5) hx hb hts w2 hown hK.1 hP 0 rfl rfl 3 (by decide) w1 (fun _ h9 => h9) rfl dX0_from_96 ?_
            refine lv_iconst (v := 1) hx hb dX0_from_99 (by decide) ?_
            refine lv_iadd hx hb dX0_from_100 ?_
            refine lv_topi (fun x64 e65 => ?_)
            try have h66 : x64.toInt = v0_ran.toInt + (1 : Int32).toInt := ci_add e65 (by omega) (by omega)
            refine va_put (D := D) (ci := 0) (v := .int x64) (ty := .int) (C := RX0) (T := TX0) (N := 5) hx hb hts w2 tyX0 tyX0_ok nmX0 hown hK.1 hP hD hS 0 rfl rfl 3 (by decide) w1 (fun _ h9 => h9) rfl (by decide +kernel) rfl rfl (Nat.le_of_ble_eq_true rfl) dX0_from_101 (fun H locs hP hD hS => ?_)
            obtain ⟨hP, hD⟩ : PD D A [O0 a0 r0 v0_count x64 v0_actor, (cI κ (r0 0) 50 f0_kinds), (cI κ (r0 2) 24 f0_trace)] H := ⟨hP, hD⟩
            have h67 : 0 ≤ x64.toInt ∧ x64.toInt ≤ 100000000 := by omega
            refine lv_aload_n hx hb dX0_from_104 rfl (lv_at hl 2 rfl) ?_
            refine lv_iload hx hb dX0_from_105 (lv_at hl 0 rfl) ?_
            refine va_gets hx hb z1 hS hown w4 (fun _ h9 => h9) dX0_from_107 ?_
            refine lv_iload hx hb dX0_from_110 (lv_at hl 1 rfl) ?_
            refine va_ti hx hb y1 hS (i := k2) (ix (by omega) (by omega)) rfl dX0_from_112 ?_
            refine lv_topi (fun x68 e69 => ?_)
            have h70 := tb_above k2.toNatClampNeg; rw [← e69] at h70
            refine lv_iload_n hx hb dX0_from_113 rfl (lv_at hl 5 rfl) ?_
            refine lv_iload hx hb dX0_from_114 (lv_at hl 6 rfl) ?_
            refine lv_iconst (v := 1) hx hb dX0_from_116 (by decide) ?_
            refine lv_iadd hx hb dX0_from_117 ?_
            refine lv_topi (fun x71 e72 => ?_)
            try have h73 : x71.toInt = p4.toInt + (1 : Int32).toInt := ci_add e72 (by omega) (by omega)
            refine kcm_i hA hAB hP hD hS [true, true, true] rfl (fun _ => rfl) (fun hPc hDc => va_runV (As := [.int x61, .int x68, .int p3, .int x71]) (rest := []) ⟨hx, hb, hml, hown, hts⟩ (hrun a0 r0 v0_count x64 v0_actor f0_kinds f0_trace H.size x61 x68 p3 x71 i1 h67 i3 hf0_kinds (by omega) (by omega) (by omega) (by omega)) (cwV 4 hts gX0_from_X0_run rfl rfl rfl (by decide +kernel) ⟨by dsimp only; omega, by dsimp only; omega⟩) (pk_V hK hS hAB hPc hDc 0 (ci := 0) rfl rfl rfl) rfl rfl hl.1 rfl (lv_room (Nat.le_of_ble_eq_true rfl)) dX0_from_118 ⟨Nat.le_of_ble_eq_true rfl, Nat.le_of_ble_eq_true rfl⟩) (fun x76 u77 H locs hw hPD hS => ?_)
            obtain ⟨x74, g75⟩ := u77
            obtain ⟨h78, h79⟩ : (0 ≤ x74.toInt ∧ x74.toInt ≤ 100000000) ∧ (x64.toInt ≤ x74.toInt ∧ x74.toInt ≤ x64.toInt + 2 * bb d) := hw
            obtain ⟨hP, hD⟩ : PD D A [O0 a0 r0 v0_count x74 v0_actor, (cI κ (r0 0) 50 f0_kinds), (cI κ (r0 2) 24 g75)] H := hPD
            have hpo : (0 ≤ x74.toInt ∧ x74.toInt ≤ 100000000) ∧ (v0_ran.toInt ≤ x74.toInt ∧ x74.toInt ≤ v0_ran.toInt + bb (d + 1)) := ⟨h78, (by omega)⟩
            exact ret _ _ _ _ x76 (x74, g75) dX0_from_121 hpo hP hD hS
          have c63 := ci_nle c63
          refine lv_aload_n hx hb dX0_from_83 rfl (lv_at hl 2 rfl) ?_
          refine va_get (D := D) (ci := 0) (v := .ref (r0 2)) (C := RX0) (T := TX0) (N := 5) hx hb hts w2 hown hK.1 hP 0 rfl rfl 2 (by decide) w3 (fun _ h9 => h9) rfl dX0_from_84 ?_
          refine lv_aload_n hx hb dX0_from_87 rfl (lv_at hl 2 rfl) ?_
          refine va_get (D := D) (ci := 0) (v := .int v0_ran) (C := RX0) (T := TX0) (N := 5) hx hb hts w2 hown hK.1 hP 0 rfl rfl 3 (by decide) w1 (fun _ h9 => h9) rfl dX0_from_88 ?_
          refine lv_iload hx hb dX0_from_91 (lv_at hl 0 rfl) ?_
          refine va_iast hx hb hK.1 hP hD hS 2 1 rfl rfl (i := v0_ran) (ix (by omega) (by omega)) dX0_from_93 (fun H locs hP hD hS => ?_)
          obtain ⟨g80, e81⟩ : ∃ y : Nat → Int32, y = upd f0_trace v0_ran.toNatClampNeg x61 := ⟨_, rfl⟩
          rw [← e81] at hP hD
          obtain ⟨hP, hD⟩ : PD D A [O0 a0 r0 v0_count v0_ran v0_actor, (cI κ (r0 0) 50 f0_kinds), (cI κ (r0 2) 24 g80)] H := ⟨hP, hD⟩
          refine lv_aload_n hx hb dX0_from_94 rfl (lv_at hl 2 rfl) ?_
          refine lv_dup hx hb dX0_from_95 rfl ?_
          refine va_get (D := D) (ci := 0) (v := .int v0_ran) (C := RX0) (T := TX0) (N := 5) hx hb hts w2 hown hK.1 hP 0 rfl rfl 3 (by decide) w1 (fun _ h9 => h9) rfl dX0_from_96 ?_
          refine lv_iconst (v := 1) hx hb dX0_from_99 (by decide) ?_
          refine lv_iadd hx hb dX0_from_100 ?_
          refine lv_topi (fun x82 e83 => ?_)
          try have h84 : x82.toInt = v0_ran.toInt + (1 : Int32).toInt := ci_add e83 (by omega) (by omega)
          refine va_put (D := D) (ci := 0) (v := .int x82) (ty := .int) (C := RX0) (T := TX0) (N := 5) hx hb hts w2 tyX0 tyX0_ok nmX0 hown hK.1 hP hD hS 0 rfl rfl 3 (by decide) w1 (fun _ h9 => h9) rfl (by decide +kernel) rfl rfl (Nat.le_of_ble_eq_true rfl) dX0_from_101 (fun H locs hP hD hS => ?_)
          obtain ⟨hP, hD⟩ : PD D A [O0 a0 r0 v0_count x82 v0_actor, (cI κ (r0 0) 50 f0_kinds), (cI κ (r0 2) 24 g80)] H := ⟨hP, hD⟩
          have h85 : 0 ≤ x82.toInt ∧ x82.toInt ≤ 100000000 := by omega
          refine lv_aload_n hx hb dX0_from_104 rfl (lv_at hl 2 rfl) ?_
          refine lv_iload hx hb dX0_from_105 (lv_at hl 0 rfl) ?_
          refine va_gets hx hb z1 hS hown w4 (fun _ h9 => h9) dX0_from_107 ?_
          refine lv_iload hx hb dX0_from_110 (lv_at hl 1 rfl) ?_
          refine va_ti hx hb y1 hS (i := k2) (ix (by omega) (by omega)) rfl dX0_from_112 ?_
          refine lv_topi (fun x86 e87 => ?_)
          have h88 := tb_above k2.toNatClampNeg; rw [← e87] at h88
          refine lv_iload_n hx hb dX0_from_113 rfl (lv_at hl 5 rfl) ?_
          refine lv_iload hx hb dX0_from_114 (lv_at hl 6 rfl) ?_
          refine lv_iconst (v := 1) hx hb dX0_from_116 (by decide) ?_
          refine lv_iadd hx hb dX0_from_117 ?_
          refine lv_topi (fun x89 e90 => ?_)
          try have h91 : x89.toInt = p4.toInt + (1 : Int32).toInt := ci_add e90 (by omega) (by omega)
          refine kcm_i hA hAB hP hD hS [true, true, true] rfl (fun _ => rfl) (fun hPc hDc => va_runV (As := [.int x61, .int x86, .int p3, .int x89]) (rest := []) ⟨hx, hb, hml, hown, hts⟩ (hrun a0 r0 v0_count x82 v0_actor f0_kinds g80 H.size x61 x86 p3 x89 i1 h85 i3 hf0_kinds (by omega) (by omega) (by omega) (by omega)) (cwV 4 hts gX0_from_X0_run rfl rfl rfl (by decide +kernel) ⟨by dsimp only; omega, by dsimp only; omega⟩) (pk_V hK hS hAB hPc hDc 0 (ci := 0) rfl rfl rfl) rfl rfl hl.1 rfl (lv_room (Nat.le_of_ble_eq_true rfl)) dX0_from_118 ⟨Nat.le_of_ble_eq_true rfl, Nat.le_of_ble_eq_true rfl⟩) (fun x94 u95 H locs hw hPD hS => ?_)
          obtain ⟨x92, g93⟩ := u95
          obtain ⟨h96, h97⟩ : (0 ≤ x92.toInt ∧ x92.toInt ≤ 100000000) ∧ (x82.toInt ≤ x92.toInt ∧ x92.toInt ≤ x82.toInt + 2 * bb d) := hw
          obtain ⟨hP, hD⟩ : PD D A [O0 a0 r0 v0_count x92 v0_actor, (cI κ (r0 0) 50 f0_kinds), (cI κ (r0 2) 24 g93)] H := hPD
          have hpo : (0 ≤ x92.toInt ∧ x92.toInt ≤ 100000000) ∧ (v0_ran.toInt ≤ x92.toInt ∧ x92.toInt ≤ v0_ran.toInt + bb (d + 1)) := ⟨h96, (by omega)⟩
          exact ret _ _ _ _ x94 (x92, g93) dX0_from_121 hpo hP hD hS
        have c54 := ci_nle c54
        refine lv_iconst (v := 0) hx hb dX0_from_57 (by decide) ?_
        have hpo : (0 ≤ v0_ran.toInt ∧ v0_ran.toInt ≤ 100000000) ∧ (v0_ran.toInt ≤ v0_ran.toInt ∧ v0_ran.toInt ≤ v0_ran.toInt + bb (d + 1)) := ⟨i2, (by omega)⟩
        exact ret _ _ _ _ 0 (v0_ran, f0_trace) dX0_from_58 hpo hP hD hS
      have c52 := ci_nlt c52
      refine va_gets hx hb z2 hS hown w0 (fun _ h9 => h9) dX0_from_18 ?_
      refine lv_iconst (v := 4) hx hb dX0_from_21 (by decide) ?_
      refine lv_iload hx hb dX0_from_22 (lv_at hl 1 rfl) ?_
      refine lv_imul hx hb dX0_from_24 ?_
      refine lv_topi (fun x98 e99 => ?_)
      try have h100 : x98.toInt = 4 * k2.toInt := ci_mulL (n := 4) (by decide) e99 (by omega) (by omega)
      refine lv_iload_n hx hb dX0_from_25 rfl (lv_at hl 4 rfl) ?_
      refine lv_iadd hx hb dX0_from_26 ?_
      refine lv_topi (fun x101 e102 => ?_)
      try have h103 : x101.toInt = x98.toInt + p2.toInt := ci_add e102 (by omega) (by omega)
      refine va_ti hx hb y2 hS (i := x101) (ix (by omega) (by omega)) rfl dX0_from_27 ?_
      refine lv_topi (fun x104 e105 => ?_)
      refine lv_if_ne (tgt := 45) hx hb dX0_from_28 (by decide) (fun c106 => ?_) (fun c106 => ?_)
      · have c106 := ci_ne c106
        refine lv_iload hx hb dX0_from_45 (lv_at hl 1 rfl) ?_
        refine lv_if_lt (tgt := 57) hx hb dX0_from_47 (by decide) (fun c107 => ?_) (fun c107 => ?_)
        · have c107 := ci_lt c107
          refine lv_iconst (v := 0) hx hb dX0_from_57 (by decide) ?_
          have hpo : (0 ≤ v0_ran.toInt ∧ v0_ran.toInt ≤ 100000000) ∧ (v0_ran.toInt ≤ v0_ran.toInt ∧ v0_ran.toInt ≤ v0_ran.toInt + bb (d + 1)) := ⟨i2, (by omega)⟩
          exact ret _ _ _ _ 0 (v0_ran, f0_trace) dX0_from_58 hpo hP hD hS
        have c107 := ci_nlt c107
        refine lv_iload hx hb dX0_from_50 (lv_at hl 6 rfl) ?_
        refine lv_bipush (v := 24) hx hb dX0_from_52 (by decide) ?_
        refine lv_icmp_le (tgt := 59) hx hb dX0_from_54 (by decide) (fun c108 => ?_) (fun c108 => ?_)
        · have c108 := ci_le c108
          refine va_gets hx hb z2 hS hown w0 (fun _ h9 => h9) dX0_from_59 ?_
          refine lv_iconst (v := 4) hx hb dX0_from_62 (by decide) ?_
          refine lv_iload hx hb dX0_from_63 (lv_at hl 1 rfl) ?_
          refine lv_imul hx hb dX0_from_65 ?_
          refine lv_topi (fun x109 e110 => ?_)
          try have h111 : x109.toInt = 4 * k2.toInt := ci_mulL (n := 4) (by decide) e110 (by omega) (by omega)
          refine lv_iload_n hx hb dX0_from_66 rfl (lv_at hl 4 rfl) ?_
          refine lv_iadd hx hb dX0_from_67 ?_
          refine lv_topi (fun x112 e113 => ?_)
          try have h114 : x112.toInt = x109.toInt + p2.toInt := ci_add e113 (by omega) (by omega)
          refine va_ti hx hb y2 hS (i := x112) (ix (by omega) (by omega)) rfl dX0_from_68 ?_
          refine lv_topi (fun x115 e116 => ?_)
          refine lv_istore (lv' := [(6, .int x115), (5, .int k2), (0, .ref a0), (1, .int p1), (2, .int p2), (3, .int p3), (4, .int p4)]) hx hb dX0_from_69 hl (by decide) rfl (fun ls hl => ?_)
          refine lv_aload_n hx hb dX0_from_71 rfl (lv_at hl 2 rfl) ?_
          refine va_get (D := D) (ci := 0) (v := .int v0_ran) (C := RX0) (T := TX0) (N := 5) hx hb hts w2 hown hK.1 hP 0 rfl rfl 3 (by decide) w1 (fun _ h9 => h9) rfl dX0_from_72 ?_
          refine lv_aload_n hx hb dX0_from_75 rfl (lv_at hl 2 rfl) ?_
          refine va_get (D := D) (ci := 0) (v := .ref (r0 2)) (C := RX0) (T := TX0) (N := 5) hx hb hts w2 hown hK.1 hP 0 rfl rfl 2 (by decide) w3 (fun _ h9 => h9) rfl dX0_from_76 ?_
          refine va_alen hx hb hK.1 hP 2 1 rfl rfl (v := 24) rfl dX0_from_79 ?_
          refine lv_icmp_ge (tgt := 94) hx hb dX0_from_80 (by decide) (fun c117 => ?_) (fun c117 => ?_)
          · have c117 := ci_le c117
            refine lv_aload_n hx hb dX0_from_94 rfl (lv_at hl 2 rfl) ?_
            refine lv_dup hx hb dX0_from_95 rfl ?_
            refine va_get (D := D) (ci := 0) (v := .int v0_ran) (C := RX0) (T := TX0) (N := 5) hx hb hts w2 hown hK.1 hP 0 rfl rfl 3 (by decide) w1 (fun _ h9 => h9) rfl dX0_from_96 ?_
            refine lv_iconst (v := 1) hx hb dX0_from_99 (by decide) ?_
            refine lv_iadd hx hb dX0_from_100 ?_
            refine lv_topi (fun x118 e119 => ?_)
            try have h120 : x118.toInt = v0_ran.toInt + (1 : Int32).toInt := ci_add e119 (by omega) (by omega)
            refine va_put (D := D) (ci := 0) (v := .int x118) (ty := .int) (C := RX0) (T := TX0) (N := 5) hx hb hts w2 tyX0 tyX0_ok nmX0 hown hK.1 hP hD hS 0 rfl rfl 3 (by decide) w1 (fun _ h9 => h9) rfl (by decide +kernel) rfl rfl (Nat.le_of_ble_eq_true rfl) dX0_from_101 (fun H locs hP hD hS => ?_)
            obtain ⟨hP, hD⟩ : PD D A [O0 a0 r0 v0_count x118 v0_actor, (cI κ (r0 0) 50 f0_kinds), (cI κ (r0 2) 24 f0_trace)] H := ⟨hP, hD⟩
            have h121 : 0 ≤ x118.toInt ∧ x118.toInt ≤ 100000000 := by omega
            refine lv_aload_n hx hb dX0_from_104 rfl (lv_at hl 2 rfl) ?_
            refine lv_iload hx hb dX0_from_105 (lv_at hl 0 rfl) ?_
            refine va_gets hx hb z1 hS hown w4 (fun _ h9 => h9) dX0_from_107 ?_
            refine lv_iload hx hb dX0_from_110 (lv_at hl 1 rfl) ?_
            refine va_ti hx hb y1 hS (i := k2) (ix (by omega) (by omega)) rfl dX0_from_112 ?_
            refine lv_topi (fun x122 e123 => ?_)
            have h124 := tb_above k2.toNatClampNeg; rw [← e123] at h124
            refine lv_iload_n hx hb dX0_from_113 rfl (lv_at hl 5 rfl) ?_
            refine lv_iload hx hb dX0_from_114 (lv_at hl 6 rfl) ?_
            refine lv_iconst (v := 1) hx hb dX0_from_116 (by decide) ?_
            refine lv_iadd hx hb dX0_from_117 ?_
            refine lv_topi (fun x125 e126 => ?_)
            try have h127 : x125.toInt = p4.toInt + (1 : Int32).toInt := ci_add e126 (by omega) (by omega)
            refine kcm_i hA hAB hP hD hS [true, true, true] rfl (fun _ => rfl) (fun hPc hDc => va_runV (As := [.int x115, .int x122, .int p3, .int x125]) (rest := []) ⟨hx, hb, hml, hown, hts⟩ (hrun a0 r0 v0_count x118 v0_actor f0_kinds f0_trace H.size x115 x122 p3 x125 i1 h121 i3 hf0_kinds (by omega) (by omega) (by omega) (by omega)) (cwV 4 hts gX0_from_X0_run rfl rfl rfl (by decide +kernel) ⟨by dsimp only; omega, by dsimp only; omega⟩) (pk_V hK hS hAB hPc hDc 0 (ci := 0) rfl rfl rfl) rfl rfl hl.1 rfl (lv_room (Nat.le_of_ble_eq_true rfl)) dX0_from_118 ⟨Nat.le_of_ble_eq_true rfl, Nat.le_of_ble_eq_true rfl⟩) (fun x130 u131 H locs hw hPD hS => ?_)
            obtain ⟨x128, g129⟩ := u131
            obtain ⟨h132, h133⟩ : (0 ≤ x128.toInt ∧ x128.toInt ≤ 100000000) ∧ (x118.toInt ≤ x128.toInt ∧ x128.toInt ≤ x118.toInt + 2 * bb d) := hw
            obtain ⟨hP, hD⟩ : PD D A [O0 a0 r0 v0_count x128 v0_actor, (cI κ (r0 0) 50 f0_kinds), (cI κ (r0 2) 24 g129)] H := hPD
            have hpo : (0 ≤ x128.toInt ∧ x128.toInt ≤ 100000000) ∧ (v0_ran.toInt ≤ x128.toInt ∧ x128.toInt ≤ v0_ran.toInt + bb (d + 1)) := ⟨h132, (by omega)⟩
            exact ret _ _ _ _ x130 (x128, g129) dX0_from_121 hpo hP hD hS
          have c117 := ci_nle c117
          refine lv_aload_n hx hb dX0_from_83 rfl (lv_at hl 2 rfl) ?_
          refine va_get (D := D) (ci := 0) (v := .ref (r0 2)) (C := RX0) (T := TX0) (N := 5) hx hb hts w2 hown hK.1 hP 0 rfl rfl 2 (by decide) w3 (fun _ h9 => h9) rfl dX0_from_84 ?_
          refine lv_aload_n hx hb dX0_from_87 rfl (lv_at hl 2 rfl) ?_
          refine va_get (D := D) (ci := 0) (v := .int v0_ran) (C := RX0) (T := TX0) (N := 5) hx hb hts w2 hown hK.1 hP 0 rfl rfl 3 (by decide) w1 (fun _ h9 => h9) rfl dX0_from_88 ?_
          refine lv_iload hx hb dX0_from_91 (lv_at hl 0 rfl) ?_
          refine va_iast hx hb hK.1 hP hD hS 2 1 rfl rfl (i := v0_ran) (ix (by omega) (by omega)) dX0_from_93 (fun H locs hP hD hS => ?_)
          obtain ⟨g134, e135⟩ : ∃ y : Nat → Int32, y = upd f0_trace v0_ran.toNatClampNeg x115 := ⟨_, rfl⟩
          rw [← e135] at hP hD
          obtain ⟨hP, hD⟩ : PD D A [O0 a0 r0 v0_count v0_ran v0_actor, (cI κ (r0 0) 50 f0_kinds), (cI κ (r0 2) 24 g134)] H := ⟨hP, hD⟩
          refine lv_aload_n hx hb dX0_from_94 rfl (lv_at hl 2 rfl) ?_
          refine lv_dup hx hb dX0_from_95 rfl ?_
          refine va_get (D := D) (ci := 0) (v := .int v0_ran) (C := RX0) (T := TX0) (N := 5) hx hb hts w2 hown hK.1 hP 0 rfl rfl 3 (by decide) w1 (fun _ h9 => h9) rfl dX0_from_96 ?_
          refine lv_iconst (v := 1) hx hb dX0_from_99 (by decide) ?_
          refine lv_iadd hx hb dX0_from_100 ?_
          refine lv_topi (fun x136 e137 => ?_)
          try have h138 : x136.toInt = v0_ran.toInt + (1 : Int32).toInt := ci_add e137 (by omega) (by omega)
          refine va_put (D := D) (ci := 0) (v := .int x136) (ty := .int) (C := RX0) (T := TX0) (N := 5) hx hb hts w2 tyX0 tyX0_ok nmX0 hown hK.1 hP hD hS 0 rfl rfl 3 (by decide) w1 (fun _ h9 => h9) rfl (by decide +kernel) rfl rfl (Nat.le_of_ble_eq_true rfl) dX0_from_101 (fun H locs hP hD hS => ?_)
          obtain ⟨hP, hD⟩ : PD D A [O0 a0 r0 v0_count x136 v0_actor, (cI κ (r0 0) 50 f0_kinds), (cI κ (r0 2) 24 g134)] H := ⟨hP, hD⟩
          have h139 : 0 ≤ x136.toInt ∧ x136.toInt ≤ 100000000 := by omega
          refine lv_aload_n hx hb dX0_from_104 rfl (lv_at hl 2 rfl) ?_
          refine lv_iload hx hb dX0_from_105 (lv_at hl 0 rfl) ?_
          refine va_gets hx hb z1 hS hown w4 (fun _ h9 => h9) dX0_from_107 ?_
          refine lv_iload hx hb dX0_from_110 (lv_at hl 1 rfl) ?_
          refine va_ti hx hb y1 hS (i := k2) (ix (by omega) (by omega)) rfl dX0_from_112 ?_
          refine lv_topi (fun x140 e141 => ?_)
          have h142 := tb_above k2.toNatClampNeg; rw [← e141] at h142
          refine lv_iload_n hx hb dX0_from_113 rfl (lv_at hl 5 rfl) ?_
          refine lv_iload hx hb dX0_from_114 (lv_at hl 6 rfl) ?_
          refine lv_iconst (v := 1) hx hb dX0_from_116 (by decide) ?_
          refine lv_iadd hx hb dX0_from_117 ?_
          refine lv_topi (fun x143 e144 => ?_)
          try have h145 : x143.toInt = p4.toInt + (1 : Int32).toInt := ci_add e144 (by omega) (by omega)
          refine kcm_i hA hAB hP hD hS [true, true, true] rfl (fun _ => rfl) (fun hPc hDc => va_runV (As := [.int x115, .int x140, .int p3, .int x143]) (rest := []) ⟨hx, hb, hml, hown, hts⟩ (hrun a0 r0 v0_count x136 v0_actor f0_kinds g134 H.size x115 x140 p3 x143 i1 h139 i3 hf0_kinds (by omega) (by omega) (by omega) (by omega)) (cwV 4 hts gX0_from_X0_run rfl rfl rfl (by decide +kernel) ⟨by dsimp only; omega, by dsimp only; omega⟩) (pk_V hK hS hAB hPc hDc 0 (ci := 0) rfl rfl rfl) rfl rfl hl.1 rfl (lv_room (Nat.le_of_ble_eq_true rfl)) dX0_from_118 ⟨Nat.le_of_ble_eq_true rfl, Nat.le_of_ble_eq_true rfl⟩) (fun x148 u149 H locs hw hPD hS => ?_)
          obtain ⟨x146, g147⟩ := u149
          obtain ⟨h150, h151⟩ : (0 ≤ x146.toInt ∧ x146.toInt ≤ 100000000) ∧ (x136.toInt ≤ x146.toInt ∧ x146.toInt ≤ x136.toInt + 2 * bb d) := hw
          obtain ⟨hP, hD⟩ : PD D A [O0 a0 r0 v0_count x146 v0_actor, (cI κ (r0 0) 50 f0_kinds), (cI κ (r0 2) 24 g147)] H := hPD
          have hpo : (0 ≤ x146.toInt ∧ x146.toInt ≤ 100000000) ∧ (v0_ran.toInt ≤ x146.toInt ∧ x146.toInt ≤ v0_ran.toInt + bb (d + 1)) := ⟨h150, (by omega)⟩
          exact ret _ _ _ _ x148 (x146, g147) dX0_from_121 hpo hP hD hS
        have c108 := ci_nle c108
        refine lv_iconst (v := 0) hx hb dX0_from_57 (by decide) ?_
        have hpo : (0 ≤ v0_ran.toInt ∧ v0_ran.toInt ≤ 100000000) ∧ (v0_ran.toInt ≤ v0_ran.toInt ∧ v0_ran.toInt ≤ v0_ran.toInt + bb (d + 1)) := ⟨i2, (by omega)⟩
        exact ret _ _ _ _ 0 (v0_ran, f0_trace) dX0_from_58 hpo hP hD hS
      have c106 := ci_eq c106
      refine va_gets hx hb z1 hS hown w4 (fun _ h9 => h9) dX0_from_31 ?_
      refine lv_iload hx hb dX0_from_34 (lv_at hl 1 rfl) ?_
      refine va_ti hx hb y1 hS (i := k2) (ix (by omega) (by omega)) rfl dX0_from_36 ?_
      refine lv_topi (fun x152 e153 => ?_)
      have h154 := tb_above k2.toNatClampNeg; rw [← e153] at h154
      refine lv_istore (lv' := [(5, .int x152), (6, .int k1), (0, .ref a0), (1, .int p1), (2, .int p2), (3, .int p3), (4, .int p4)]) hx hb dX0_from_37 hl (by decide) rfl (fun ls hl => ?_)
      obtain ⟨x155, e156⟩ : ∃ y : Int32, y = k1 + 1 := ⟨_, rfl⟩
      refine lv_iinc (v := x155) (lv' := [(6, .int x155), (5, .int x152), (0, .ref a0), (1, .int p1), (2, .int p2), (3, .int p3), (4, .int p4)]) hx hb dX0_from_39 hl (k := 1) rfl (by rw [e156]; rfl) (by decide) rfl (fun ls hl => ?_)
      try have h157 : x155.toInt = k1.toInt + (1 : Int32).toInt := ci_add e156 (by omega) (by omega)
      refine lv_goto (tgt := 6) hx hb dX0_from_42 (by decide) ?_
      exact ih6 x155 x152 (by omega) (by omega) (by omega) _ _ hP hD hS _ hl
  exact lp6 ((8 - (0 : Int32).toInt).toNat + 1) 0 p1 (by omega) (by omega) (by omega) _ _ hP hD hS _ hl
set_option maxHeartbeats 4000000 in
set_option maxRecDepth 100000 in
theorem of_X0_from0 (l : Launch) (D : va_G) (κ : Nat → ClassId) (β : Nat) : C_X0_from l D κ β 0 := by
  intro a0 r0 v0_count v0_ran v0_actor f0_kinds f0_trace sz p1 p2 p3 p4 i1 i2 i3 hf0_kinds i4 i5 i6 i7 i8
  refine ofK_i (cc := cX0_from) (maxL := 7) (own := RX0) (by decide) rfl rfl (Nat.le_of_ble_eq_true rfl) ?_
  intro p e s m args below meth c Q A ls hsz hx hb hml hts hown hK hA hAB hP hD hl ret
  have hS : va_S A s.heap s.heap [] := va_S.rf
  have hl : lv_has ls 7 [(0, .ref a0), (1, .int p1), (2, .int p2), (3, .int p3), (4, .int p4)] := hl
  have w0 := hts (.fieldLink RX0 53 "OlderSkin$Bodies" "OWN" "[I") (List.mem_of_getElem? (i := 1) rfl)
  have w1 := hts (.fieldLink RX0 35 "OlderSkin$Bodies" "ABOVE" "[I") (List.mem_of_getElem? (i := 2) rfl)
  have l0 : (0 : Int32).toInt = 0 := by decide
  have l1 : (8 : Int32).toInt = 8 := by decide
  have l2 : (24 : Int32).toInt = 24 := by decide
  have l3 : (4 : Int32).toInt = 4 := by decide
  have l4 : (1 : Int32).toInt = 1 := by decide
  have i2 : 0 ≤ v0_ran.toInt ∧ v0_ran.toInt ≤ 100000000 := i2
  obtain ⟨t1, t2, z1, y1, z2, y2⟩ := hK.2.2.2.2.1
  have z1 := z1.narrow hAB
  have y1 := y1.narrow hAB
  have z2 := z2.narrow hAB
  have y2 := y2.narrow hAB
  have hb0 : bb 0 = 0 := rfl
  refine lv_iload_n hx hb dX0_from_0 rfl (lv_at hl 1 rfl) ?_
  refine lv_istore (lv' := [(5, .int p1), (0, .ref a0), (1, .int p1), (2, .int p2), (3, .int p3), (4, .int p4)]) hx hb dX0_from_1 hl (by decide) rfl (fun ls hl => ?_)
  refine lv_iconst (v := 0) hx hb dX0_from_3 (by decide) ?_
  refine lv_istore (lv' := [(6, .int 0), (5, .int p1), (0, .ref a0), (1, .int p1), (2, .int p2), (3, .int p3), (4, .int p4)]) hx hb dX0_from_4 hl (by decide) rfl (fun ls hl => ?_)
  have lp6 : ∀ (n6 : Nat) (k1 : Int32) (k2 : Int32), (-1 ≤ k2.toInt ∧ k2.toInt ≤ 7) → (0 ≤ k1.toInt) → (8 - k1.toInt).toNat < n6 → ∀ (H : Heap) (locs : List Loc), va_P D vwCl [O0 a0 r0 v0_count v0_ran v0_actor, (cI κ (r0 0) 50 f0_kinds), (cI κ (r0 2) 24 f0_trace)] H → va_D A [O0 a0 r0 v0_count v0_ran v0_actor, (cI κ (r0 0) 50 f0_kinds), (cI κ (r0 2) 24 f0_trace)] → va_S A s.heap H locs → ∀ ls : Array Slot, lv_has ls 7 [(6, .int k1), (5, .int k2), (0, .ref a0), (1, .int p1), (2, .int p2), (3, .int p3), (4, .int p4)] → W p l e ({ frames := 3 * 0, cells := 0, slots := 0, locals := 73 * 0 } : Room) s m args below meth c H locs 0 0 Q (F0 m 6 ls []) := by
    intro n6
    induction n6 with
    | zero =>
      intro k1 k2 h3 h4 m5
      exact absurd m5 (Nat.not_lt_zero _)
    | succ n6 ih6 =>
      intro k1 k2 h3 h4 m5 H locs hP hD hS ls hl
      refine lv_iload hx hb dX0_from_6 (lv_at hl 0 rfl) ?_
      refine lv_bipush (v := 8) hx hb dX0_from_8 (by decide) ?_
      refine lv_icmp_ge (tgt := 45) hx hb dX0_from_10 (by decide) (fun c6 => ?_) (fun c6 => ?_)
      · have c6 := ci_le c6
        refine lv_iload hx hb dX0_from_45 (lv_at hl 1 rfl) ?_
        refine lv_if_lt (tgt := 57) hx hb dX0_from_47 (by decide) (fun c7 => ?_) (fun c7 => ?_)
        · have c7 := ci_lt c7
          refine lv_iconst (v := 0) hx hb dX0_from_57 (by decide) ?_
          have hpo : (0 ≤ v0_ran.toInt ∧ v0_ran.toInt ≤ 100000000) ∧ (v0_ran.toInt ≤ v0_ran.toInt ∧ v0_ran.toInt ≤ v0_ran.toInt + bb 0) := ⟨i2, (by omega)⟩
          exact ret _ _ _ _ 0 (v0_ran, f0_trace) dX0_from_58 hpo hP hD hS
        have c7 := ci_nlt c7
        refine lv_iload hx hb dX0_from_50 (lv_at hl 6 rfl) ?_
        refine lv_bipush (v := 24) hx hb dX0_from_52 (by decide) ?_
        refine lv_icmp_le (tgt := 59) hx hb dX0_from_54 (by decide) (fun c8 => ?_) (fun c8 => ?_)
        · have c8 := ci_le c8
          exfalso
          omega
        have c8 := ci_nle c8
        refine lv_iconst (v := 0) hx hb dX0_from_57 (by decide) ?_
        have hpo : (0 ≤ v0_ran.toInt ∧ v0_ran.toInt ≤ 100000000) ∧ (v0_ran.toInt ≤ v0_ran.toInt ∧ v0_ran.toInt ≤ v0_ran.toInt + bb 0) := ⟨i2, (by omega)⟩
        exact ret _ _ _ _ 0 (v0_ran, f0_trace) dX0_from_58 hpo hP hD hS
      have c6 := ci_nle c6
      refine lv_iload hx hb dX0_from_13 (lv_at hl 1 rfl) ?_
      refine lv_if_lt (tgt := 45) hx hb dX0_from_15 (by decide) (fun c9 => ?_) (fun c9 => ?_)
      · have c9 := ci_lt c9
        refine lv_iload hx hb dX0_from_45 (lv_at hl 1 rfl) ?_
        refine lv_if_lt (tgt := 57) hx hb dX0_from_47 (by decide) (fun c10 => ?_) (fun c10 => ?_)
        · have c10 := ci_lt c10
          refine lv_iconst (v := 0) hx hb dX0_from_57 (by decide) ?_
          have hpo : (0 ≤ v0_ran.toInt ∧ v0_ran.toInt ≤ 100000000) ∧ (v0_ran.toInt ≤ v0_ran.toInt ∧ v0_ran.toInt ≤ v0_ran.toInt + bb 0) := ⟨i2, (by omega)⟩
          exact ret _ _ _ _ 0 (v0_ran, f0_trace) dX0_from_58 hpo hP hD hS
        have c10 := ci_nlt c10
        refine lv_iload hx hb dX0_from_50 (lv_at hl 6 rfl) ?_
        refine lv_bipush (v := 24) hx hb dX0_from_52 (by decide) ?_
        refine lv_icmp_le (tgt := 59) hx hb dX0_from_54 (by decide) (fun c11 => ?_) (fun c11 => ?_)
        · have c11 := ci_le c11
          exfalso
          omega
        have c11 := ci_nle c11
        refine lv_iconst (v := 0) hx hb dX0_from_57 (by decide) ?_
        have hpo : (0 ≤ v0_ran.toInt ∧ v0_ran.toInt ≤ 100000000) ∧ (v0_ran.toInt ≤ v0_ran.toInt ∧ v0_ran.toInt ≤ v0_ran.toInt + bb 0) := ⟨i2, (by omega)⟩
        exact ret _ _ _ _ 0 (v0_ran, f0_trace) dX0_from_58 hpo hP hD hS
      have c9 := ci_nlt c9
      refine va_gets hx hb z2 hS hown w0 (fun _ h9 => h9) dX0_from_18 ?_
      refine lv_iconst (v := 4) hx hb dX0_from_21 (by decide) ?_
      refine lv_iload hx hb dX0_from_22 (lv_at hl 1 rfl) ?_
      refine lv_imul hx hb dX0_from_24 ?_
      refine lv_topi (fun x12 e13 => ?_)
      try have h14 : x12.toInt = 4 * k2.toInt := ci_mulL (n := 4) (by decide) e13 (by omega) (by omega)
      refine lv_iload_n hx hb dX0_from_25 rfl (lv_at hl 4 rfl) ?_
      refine lv_iadd hx hb dX0_from_26 ?_
      refine lv_topi (fun x15 e16 => ?_)
      try have h17 : x15.toInt = x12.toInt + p2.toInt := ci_add e16 (by omega) (by omega)
      refine va_ti hx hb y2 hS (i := x15) (ix (by omega) (by omega)) rfl dX0_from_27 ?_
      refine lv_topi (fun x18 e19 => ?_)
      refine lv_if_ne (tgt := 45) hx hb dX0_from_28 (by decide) (fun c20 => ?_) (fun c20 => ?_)
      · have c20 := ci_ne c20
        refine lv_iload hx hb dX0_from_45 (lv_at hl 1 rfl) ?_
        refine lv_if_lt (tgt := 57) hx hb dX0_from_47 (by decide) (fun c21 => ?_) (fun c21 => ?_)
        · have c21 := ci_lt c21
          refine lv_iconst (v := 0) hx hb dX0_from_57 (by decide) ?_
          have hpo : (0 ≤ v0_ran.toInt ∧ v0_ran.toInt ≤ 100000000) ∧ (v0_ran.toInt ≤ v0_ran.toInt ∧ v0_ran.toInt ≤ v0_ran.toInt + bb 0) := ⟨i2, (by omega)⟩
          exact ret _ _ _ _ 0 (v0_ran, f0_trace) dX0_from_58 hpo hP hD hS
        have c21 := ci_nlt c21
        refine lv_iload hx hb dX0_from_50 (lv_at hl 6 rfl) ?_
        refine lv_bipush (v := 24) hx hb dX0_from_52 (by decide) ?_
        refine lv_icmp_le (tgt := 59) hx hb dX0_from_54 (by decide) (fun c22 => ?_) (fun c22 => ?_)
        · have c22 := ci_le c22
          exfalso
          omega
        have c22 := ci_nle c22
        refine lv_iconst (v := 0) hx hb dX0_from_57 (by decide) ?_
        have hpo : (0 ≤ v0_ran.toInt ∧ v0_ran.toInt ≤ 100000000) ∧ (v0_ran.toInt ≤ v0_ran.toInt ∧ v0_ran.toInt ≤ v0_ran.toInt + bb 0) := ⟨i2, (by omega)⟩
        exact ret _ _ _ _ 0 (v0_ran, f0_trace) dX0_from_58 hpo hP hD hS
      have c20 := ci_eq c20
      refine va_gets hx hb z1 hS hown w1 (fun _ h9 => h9) dX0_from_31 ?_
      refine lv_iload hx hb dX0_from_34 (lv_at hl 1 rfl) ?_
      refine va_ti hx hb y1 hS (i := k2) (ix (by omega) (by omega)) rfl dX0_from_36 ?_
      refine lv_topi (fun x23 e24 => ?_)
      have h25 := tb_above k2.toNatClampNeg; rw [← e24] at h25
      refine lv_istore (lv' := [(5, .int x23), (6, .int k1), (0, .ref a0), (1, .int p1), (2, .int p2), (3, .int p3), (4, .int p4)]) hx hb dX0_from_37 hl (by decide) rfl (fun ls hl => ?_)
      obtain ⟨x26, e27⟩ : ∃ y : Int32, y = k1 + 1 := ⟨_, rfl⟩
      refine lv_iinc (v := x26) (lv' := [(6, .int x26), (5, .int x23), (0, .ref a0), (1, .int p1), (2, .int p2), (3, .int p3), (4, .int p4)]) hx hb dX0_from_39 hl (k := 1) rfl (by rw [e27]; rfl) (by decide) rfl (fun ls hl => ?_)
      try have h28 : x26.toInt = k1.toInt + (1 : Int32).toInt := ci_add e27 (by omega) (by omega)
      refine lv_goto (tgt := 6) hx hb dX0_from_42 (by decide) ?_
      exact ih6 x26 x23 (by omega) (by omega) (by omega) _ _ hP hD hS _ hl
  exact lp6 ((8 - (0 : Int32).toInt).toNat + 1) 0 p1 (by omega) (by omega) (by omega) _ _ hP hD hS _ hl
theorem k_X0_from (l : Launch) (D : va_G) (κ : Nat → ClassId) (β : Nat) : ∀ d : Nat, C_X0_from l D κ β d
  | 0 => of_X0_from0 l D κ β
  | d + 1 => of_X0_from l D κ β d (of_X0_run l D κ β d (k_X0_from l D κ β d) (of_X0_own l D κ β d (k_X0_from l D κ β d)))
theorem k_X0_own (l : Launch) (D : va_G) (κ : Nat → ClassId) (β d : Nat) : C_X0_own l D κ β d := of_X0_own l D κ β d (k_X0_from l D κ β d)
set_option maxHeartbeats 4000000 in
set_option maxRecDepth 100000 in
theorem k_X0_start (l : Launch) (D : va_G) (κ : Nat → ClassId) (β : Nat) (a0 : Nat) (r0 : Nat → Nat) (v0_count : Int32) (v0_ran : Int32) (v0_actor : Int32) (f0_kinds : Nat → Int32) (f0_trace : Nat → Int32) (sz : Nat) (p1 : Int32) (p2 : Int32) (p3 : Int32) (i1 : Rg 0 50 v0_count) (i2 : Rg 0 100000000 v0_ran) (i3 : Rg 0 49 v0_actor) (hf0_kinds : ∀ j : Nat, 0 ≤ (f0_kinds j).toInt ∧ (f0_kinds j).toInt ≤ 7) : Met l yX0_start wsX0_start ({ frames := 77, cells := 0, slots := 0, locals := 1874 } : Room) (PcK D κ β [O0 a0 r0 v0_count v0_ran v0_actor, (cI κ (r0 0) 50 f0_kinds), (cI κ (r0 2) 24 f0_trace)] sz [.ref a0, .int p1, .int p2, .int p3]) (QiK D (fun (r : Int32) (u : Int32 × Int32 × (Nat → Int32)) => (0 ≤ u.1.toInt ∧ u.1.toInt ≤ 100000000) ∧ (0 ≤ u.2.1.toInt ∧ u.2.1.toInt ≤ 49)) (fun (u : Int32 × Int32 × (Nat → Int32)) => [O0 a0 r0 v0_count u.1 u.2.1, (cI κ (r0 0) 50 f0_kinds), (cI κ (r0 2) 24 u.2.2)]) [O0 a0 r0 v0_count v0_ran v0_actor, (cI κ (r0 0) 50 f0_kinds), (cI κ (r0 2) 24 f0_trace)] sz) 0 0 (va_A [O0 a0 r0 v0_count v0_ran v0_actor, (cI κ (r0 0) 50 f0_kinds), (cI κ (r0 2) 24 f0_trace)] sz) := by
  refine ofK_i (cc := cX0_start) (maxL := 4) (own := RX0) (by decide) rfl rfl (Nat.le_of_ble_eq_true rfl) ?_
  intro p e s m args below meth c Q A ls hsz hx hb hml hts hown hK hA hAB hP hD hl ret
  have hS : va_S A s.heap s.heap [] := va_S.rf
  have hl : lv_has ls 4 [(0, .ref a0), (1, .int p1), (2, .int p2), (3, .int p3)] := hl
  have w0 := hts (.fieldLink RX0 26 "OlderSkin$Bodies" "ran" "I") (List.mem_of_getElem? (i := 1) rfl)
  have w1 := (fun w h => List.mem_cons_of_mem _ (List.mem_append_right _ h) : ∀ w ∈ u_ws RX0 TX0 5, w ∈ wsX0_start)
  have w2 := hts (.initialized RX11) (List.mem_of_getElem? (i := 10) rfl)
  have w3 := hts (.static yX11_within) (List.mem_of_getElem? (i := 9) rfl)
  have w4 := hK.2.1 ("OlderSkin$Bodies", 22, ⟨"OlderSkin", "within", "(III)Z"⟩, "OlderSkin") (by decide +kernel)
  have w5 := hts (.fieldLink RX0 42 "OlderSkin$Bodies" "actor" "I") (List.mem_of_getElem? (i := 2) rfl)
  have l0 : (0 : Int32).toInt = 0 := by decide
  have l1 : (3 : Int32).toInt = 3 := by decide
  have i1 : 0 ≤ v0_count.toInt ∧ v0_count.toInt ≤ 50 := i1
  have i2 : 0 ≤ v0_ran.toInt ∧ v0_ran.toInt ≤ 100000000 := i2
  have i3 : 0 ≤ v0_actor.toInt ∧ v0_actor.toInt ≤ 49 := i3
  have hbb : bb 25 = 33554431 := by decide
  refine lv_aload_n hx hb dX0_start_0 rfl (lv_at hl 0 rfl) ?_
  refine lv_iconst (v := 0) hx hb dX0_start_1 (by decide) ?_
  refine va_put (D := D) (ci := 0) (v := .int 0) (ty := .int) (C := RX0) (T := TX0) (N := 5) hx hb hts w1 tyX0 tyX0_ok nmX0 hown hK.1 hP hD hS 0 rfl rfl 3 (by decide) w0 (fun _ h9 => h9) rfl (by decide +kernel) rfl rfl (Nat.le_of_ble_eq_true rfl) dX0_start_2 (fun H locs hP hD hS => ?_)
  obtain ⟨hP, hD⟩ : PD D A [O0 a0 r0 v0_count 0 v0_actor, (cI κ (r0 0) 50 f0_kinds), (cI κ (r0 2) 24 f0_trace)] H := ⟨hP, hD⟩
  have h1 : 0 ≤ (0 : Int32).toInt ∧ (0 : Int32).toInt ≤ 100000000 := by omega
  refine lv_aload_n hx hb dX0_start_5 rfl (lv_at hl 0 rfl) ?_
  refine lv_iload_n hx hb dX0_start_6 rfl (lv_at hl 1 rfl) ?_
  refine kcm_i hA hAB hP hD hS [true, false, false] rfl (fun _ => rfl) (fun hPc hDc => va_runV (As := [.int p1]) (rest := []) ⟨hx, hb, hml, hown, hts⟩ (k_X0_isBody l D κ β a0 r0 v0_count 0 v0_actor H.size p1 i1 h1 i3) (cwV 1 hts gX0_start_X0_isBody rfl rfl rfl (by decide +kernel) ⟨Nat.le_of_ble_eq_true rfl, Nat.le_of_ble_eq_true rfl⟩) (pk_V hK hS hAB hPc hDc 0 (ci := 0) rfl rfl rfl) rfl rfl hl.1 rfl (lv_room (Nat.le_of_ble_eq_true rfl)) dX0_start_7 ⟨Nat.le_of_ble_eq_true rfl, Nat.le_of_ble_eq_true rfl⟩) (fun x2 u3 H locs hw hPD hS => ?_)
  have h4 : (x2.toInt = 1 ∧ 0 ≤ p1.toInt ∧ p1.toInt < v0_count.toInt) ∨ (x2.toInt = 0 ∧ (p1.toInt < 0 ∨ v0_count.toInt ≤ p1.toInt)) := hw
  obtain ⟨hP, hD⟩ : PD D A [O0 a0 r0 v0_count 0 v0_actor, (cI κ (r0 0) 50 f0_kinds), (cI κ (r0 2) 24 f0_trace)] H := hPD
  refine lv_if_eq (tgt := 22) hx hb dX0_start_10 (by decide) (fun c5 => ?_) (fun c5 => ?_)
  · have c5 := ci_eq c5
    refine lv_iconst (v := 0) hx hb dX0_start_22 (by decide) ?_
    have hpo : (0 ≤ (0 : Int32).toInt ∧ (0 : Int32).toInt ≤ 100000000) ∧ (0 ≤ v0_actor.toInt ∧ v0_actor.toInt ≤ 49) := ⟨h1, i3⟩
    exact ret _ _ _ _ 0 (0, v0_actor, f0_trace) dX0_start_23 hpo hP hD hS
  have c5 := ci_ne c5
  refine lv_iload_n hx hb dX0_start_13 rfl (lv_at hl 2 rfl) ?_
  refine lv_iconst (v := 0) hx hb dX0_start_14 (by decide) ?_
  refine lv_iconst (v := 3) hx hb dX0_start_15 (by decide) ?_
  refine kcm_i hA hAB hP hD hS [false, false, false] rfl (fun _ => rfl) (fun hPc hDc => va_runSN (As := [.int p2, .int 0, .int 3]) (rest := []) ⟨hx, hb, hml, hown, hts⟩ (k_X11_within l D κ β H.size p2 0 3) ⟨va_cnB 3 hts gX0_start_X11_within_n22 rfl rfl rfl w4 w2 (by decide +kernel) ⟨Nat.le_of_ble_eq_true rfl, Nat.le_of_ble_eq_true rfl⟩, w3, trivial⟩ (pk_S hK hS hAB hPc hDc) rfl rfl hl.1 rfl (lv_room (Nat.le_of_ble_eq_true rfl)) dX0_start_16 ⟨Nat.le_of_ble_eq_true rfl, Nat.le_of_ble_eq_true rfl⟩) (fun x6 u7 H locs hw hPD hS => ?_)
  have h8 : (x6.toInt = 1 ∧ (0 : Int32).toInt ≤ p2.toInt ∧ p2.toInt ≤ (3 : Int32).toInt) ∨ (x6.toInt = 0 ∧ (p2.toInt < (0 : Int32).toInt ∨ (3 : Int32).toInt < p2.toInt)) := hw
  obtain ⟨hP, hD⟩ : PD D A [O0 a0 r0 v0_count 0 v0_actor, (cI κ (r0 0) 50 f0_kinds), (cI κ (r0 2) 24 f0_trace)] H := hPD
  refine lv_if_ne (tgt := 24) hx hb dX0_start_19 (by decide) (fun c9 => ?_) (fun c9 => ?_)
  · have c9 := ci_ne c9
    refine lv_aload_n hx hb dX0_start_24 rfl (lv_at hl 0 rfl) ?_
    refine lv_iload_n hx hb dX0_start_25 rfl (lv_at hl 1 rfl) ?_
    refine va_put (D := D) (ci := 0) (v := .int p1) (ty := .int) (C := RX0) (T := TX0) (N := 5) hx hb hts w1 tyX0 tyX0_ok nmX0 hown hK.1 hP hD hS 0 rfl rfl 4 (by decide) w5 (fun _ h9 => h9) rfl (by decide +kernel) rfl rfl (Nat.le_of_ble_eq_true rfl) dX0_start_26 (fun H locs hP hD hS => ?_)
    obtain ⟨hP, hD⟩ : PD D A [O0 a0 r0 v0_count 0 p1, (cI κ (r0 0) 50 f0_kinds), (cI κ (r0 2) 24 f0_trace)] H := ⟨hP, hD⟩
    have h10 : 0 ≤ p1.toInt ∧ p1.toInt ≤ 49 := by omega
    refine lv_aload_n hx hb dX0_start_29 rfl (lv_at hl 0 rfl) ?_
    refine lv_iload_n hx hb dX0_start_30 rfl (lv_at hl 2 rfl) ?_
    refine lv_iload_n hx hb dX0_start_31 rfl (lv_at hl 3 rfl) ?_
    refine lv_iconst (v := 0) hx hb dX0_start_32 (by decide) ?_
    refine kcm_i hA hAB hP hD hS [true, true, true] rfl (fun _ => rfl) (fun hPc hDc => va_runV (As := [.int p2, .int p3, .int 0]) (rest := []) ⟨hx, hb, hml, hown, hts⟩ (k_X0_own l D κ β 25 a0 r0 v0_count 0 p1 f0_kinds f0_trace H.size p2 p3 0 i1 h1 h10 hf0_kinds (by omega) (by omega) (by omega) (by omega)) (cwV 3 hts gX0_start_X0_own rfl rfl rfl (by decide +kernel) ⟨Nat.le_of_ble_eq_true rfl, Nat.le_of_ble_eq_true rfl⟩) (pk_V hK hS hAB hPc hDc 0 (ci := 0) rfl rfl rfl) rfl rfl hl.1 rfl (lv_room (Nat.le_of_ble_eq_true rfl)) dX0_start_33 ⟨Nat.le_of_ble_eq_true rfl, Nat.le_of_ble_eq_true rfl⟩) (fun x13 u14 H locs hw hPD hS => ?_)
    obtain ⟨x11, g12⟩ := u14
    obtain ⟨h15, h16⟩ : (0 ≤ x11.toInt ∧ x11.toInt ≤ 100000000) ∧ ((0 : Int32).toInt ≤ x11.toInt ∧ x11.toInt ≤ (0 : Int32).toInt + bb 25) := hw
    obtain ⟨hP, hD⟩ : PD D A [O0 a0 r0 v0_count x11 p1, (cI κ (r0 0) 50 f0_kinds), (cI κ (r0 2) 24 g12)] H := hPD
    have hpo : (0 ≤ x11.toInt ∧ x11.toInt ≤ 100000000) ∧ (0 ≤ p1.toInt ∧ p1.toInt ≤ 49) := ⟨h15, h10⟩
    exact ret _ _ _ _ x13 (x11, p1, g12) dX0_start_36 hpo hP hD hS
  have c9 := ci_eq c9
  refine lv_iconst (v := 0) hx hb dX0_start_22 (by decide) ?_
  have hpo : (0 ≤ (0 : Int32).toInt ∧ (0 : Int32).toInt ≤ 100000000) ∧ (0 ≤ v0_actor.toInt ∧ v0_actor.toInt ≤ 49) := ⟨h1, i3⟩
  exact ret _ _ _ _ 0 (0, v0_actor, f0_trace) dX0_start_23 hpo hP hD hS
