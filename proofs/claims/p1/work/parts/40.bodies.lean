def bb : Nat → Int
  | 0 => 0
  | n + 1 => 1 + 2 * bb n
theorem bb_succ (n : Nat) : bb (n + 1) = 1 + 2 * bb n := rfl
theorem bb_nn : ∀ n, 0 ≤ bb n
  | 0 => Int.le_refl 0
  | n + 1 => by
    have := bb_nn n
    rw [bb_succ]; omega
theorem tb_above (j : Nat) : -1 ≤ (tbAbove.getD j 0).toInt ∧ (tbAbove.getD j 0).toInt ≤ 7 := by
  by_cases h : j < 8
  · have t : ∀ j : Nat, j < 8 → -1 ≤ (tbAbove.getD j 0).toInt ∧ (tbAbove.getD j 0).toInt ≤ 7 := by decide +kernel
    exact t j h
  · have e : tbAbove.getD j 0 = 0 := (by simp only [tbAbove, List.getD_eq_getElem?_getD, List.length_cons, List.length_nil]; rw [List.getElem?_eq_none (by simp; omega)]; rfl)
    rw [e]; decide
set_option maxHeartbeats 4000000 in
set_option maxRecDepth 100000 in
theorem k_X0_isBody (l : Launch) (D : va_G) (κ : Nat → ClassId) (β : Nat) (a0 : Nat) (r0 : Nat → Nat) (v0_count : Int32) (v0_ran : Int32) (v0_actor : Int32) (sz : Nat) (p1 : Int32) (i1 : Rg 0 50 v0_count) (i2 : Rg 0 100000000 v0_ran) (i3 : Rg 0 49 v0_actor) (i4 : v0_count.toInt = 0) : Met l yX0_isBody wsX0_isBody ({ frames := 1, cells := 0, slots := 0, locals := 22 } : Room) (PcK D κ β [O0 a0 r0 v0_count v0_ran v0_actor] sz [.ref a0, .int p1]) (QiK D (fun (r : Int32) (u : Unit) => (r.toInt = 1 ∧ 0 ≤ p1.toInt ∧ p1.toInt < v0_count.toInt) ∨ (r.toInt = 0 ∧ (p1.toInt < 0 ∨ v0_count.toInt ≤ p1.toInt))) (fun (u : Unit) => [O0 a0 r0 v0_count v0_ran v0_actor]) [O0 a0 r0 v0_count v0_ran v0_actor] sz) 0 0 (va_A [O0 a0 r0 v0_count v0_ran v0_actor] sz) := by
  refine ofK_z (cc := cX0_isBody) (maxL := 2) (own := RX0) (by decide) rfl rfl (Nat.le_of_ble_eq_true rfl) ?_
  intro p e s m args below meth c Q A ls hsz hx hb hml hts hown hK hA hAB hP hD hl ret
  have hS : va_S A s.heap s.heap [] := va_S.rf
  have hl : lv_has ls 2 [(0, .ref a0), (1, .int p1)] := hl
  have w0 := hts (.fieldLink RX0 18 "OlderSkin$Bodies" "count" "I") (List.mem_of_getElem? (i := 1) rfl)
  have w1 := (fun w h => List.mem_cons_of_mem _ (List.mem_append_right _ h) : ∀ w ∈ u_ws RX0 TX0 5, w ∈ wsX0_isBody)
  have w2 := hts (.initialized RX11) (List.mem_of_getElem? (i := 3) rfl)
  have w3 := hts (.static yX11_within) (List.mem_of_getElem? (i := 2) rfl)
  have w4 := hK.2.1 ("OlderSkin$Bodies", 22, ⟨"OlderSkin", "within", "(III)Z"⟩, "OlderSkin") (by decide +kernel)
  have l0 : (0 : Int32).toInt = 0 := by decide
  have l1 : (1 : Int32).toInt = 1 := by decide
  have i1 : 0 ≤ v0_count.toInt ∧ v0_count.toInt ≤ 50 := i1
  refine lv_iload_n hx hb dX0_isBody_0 rfl (lv_at hl 1 rfl) ?_
  refine lv_iconst (v := 0) hx hb dX0_isBody_1 (by decide) ?_
  refine lv_aload_n hx hb dX0_isBody_2 rfl (lv_at hl 0 rfl) ?_
  refine va_get (D := D) (ci := 0) (v := .int v0_count) (C := RX0) (T := TX0) (N := 5) hx hb hts w1 hown hK.1 hP 0 rfl rfl 1 (by decide) w0 (fun _ h9 => h9) rfl dX0_isBody_3 ?_
  refine lv_iconst (v := 1) hx hb dX0_isBody_6 (by decide) ?_
  refine lv_isub hx hb dX0_isBody_7 ?_
  refine lv_topi (fun x1 e2 => ?_)
  try have h3 : x1.toInt = v0_count.toInt - (1 : Int32).toInt := ci_sub e2 (by omega) (by omega)
  refine kcm_i hA hAB hP hD hS [false] rfl (fun _ => rfl) (fun hPc hDc => va_runSN (As := [.int p1, .int 0, .int x1]) (rest := []) ⟨hx, hb, hml, hown, hts⟩ (k_X11_within l D κ β s.heap.size p1 0 x1) ⟨va_cnB 3 hts gX0_isBody_X11_within_n22 rfl rfl rfl w4 w2 (by decide +kernel) ⟨Nat.le_of_ble_eq_true rfl, Nat.le_of_ble_eq_true rfl⟩, w3, trivial⟩ (pk_S hK hS hAB hPc hDc) rfl rfl hl.1 rfl (lv_room (Nat.le_of_ble_eq_true rfl)) dX0_isBody_8 ⟨Nat.le_of_ble_eq_true rfl, Nat.le_of_ble_eq_true rfl⟩) (fun x4 u5 H locs hw hPD hS => ?_)
  have h6 : (x4.toInt = 1 ∧ (0 : Int32).toInt ≤ p1.toInt ∧ p1.toInt ≤ x1.toInt) ∨ (x4.toInt = 0 ∧ (p1.toInt < (0 : Int32).toInt ∨ x1.toInt < p1.toInt)) := hw
  obtain ⟨hP, hD⟩ : PD D A [O0 a0 r0 v0_count v0_ran v0_actor] H := hPD
  have hpo : (x4.toInt = 1 ∧ 0 ≤ p1.toInt ∧ p1.toInt < v0_count.toInt) ∨ (x4.toInt = 0 ∧ (p1.toInt < 0 ∨ v0_count.toInt ≤ p1.toInt)) := (by omega)
  exact ret _ _ _ _ x4 () dX0_isBody_11 (by omega) hpo hP hD hS
set_option maxHeartbeats 4000000 in
set_option maxRecDepth 100000 in
theorem k_X0_add (l : Launch) (D : va_G) (κ : Nat → ClassId) (β : Nat) (a0 : Nat) (r0 : Nat → Nat) (v0_count : Int32) (v0_ran : Int32) (v0_actor : Int32) (f0_kinds : Nat → Int32) (sz : Nat) (p1 : Int32) (i1 : Rg 0 50 v0_count) (i2 : Rg 0 100000000 v0_ran) (i3 : Rg 0 49 v0_actor) (hf0_kinds : ∀ j : Nat, 0 ≤ (f0_kinds j).toInt ∧ (f0_kinds j).toInt ≤ 7) (i4 : 0 ≤ p1.toInt ∧ p1.toInt ≤ 7) (i5 : v0_count.toInt = 0) : Met l yX0_add wsX0_add ({ frames := 0, cells := 0, slots := 0, locals := 0 } : Room) (PcK D κ β [O0 a0 r0 v0_count v0_ran v0_actor, (cI κ (r0 0) 50 f0_kinds)] sz [.ref a0, .int p1]) (QiK D (fun (r : Int32) (u : Int32 × (Nat → Int32)) => (0 ≤ u.1.toInt ∧ u.1.toInt ≤ 50) ∧ (∀ j : Nat, 0 ≤ (u.2 j).toInt ∧ (u.2 j).toInt ≤ 7) ∧ ((v0_count.toInt = 50 ∧ r.toInt = -3 ∧ u.1.toInt = v0_count.toInt) ∨ (v0_count.toInt < 50 ∧ r.toInt = v0_count.toInt ∧ u.1.toInt = v0_count.toInt + 1))) (fun (u : Int32 × (Nat → Int32)) => [O0 a0 r0 u.1 v0_ran v0_actor, (cI κ (r0 0) 50 u.2)]) [O0 a0 r0 v0_count v0_ran v0_actor, (cI κ (r0 0) 50 f0_kinds)] sz) 0 0 (va_A [O0 a0 r0 v0_count v0_ran v0_actor, (cI κ (r0 0) 50 f0_kinds)] sz) := by
  refine ofK_i (cc := cX0_add) (maxL := 2) (own := RX0) (by decide) rfl rfl (Nat.le_of_ble_eq_true rfl) ?_
  intro p e s m args below meth c Q A ls hsz hx hb hml hts hown hK hA hAB hP hD hl ret
  have hS : va_S A s.heap s.heap [] := va_S.rf
  have hl : lv_has ls 2 [(0, .ref a0), (1, .int p1)] := hl
  have w0 := hts (.fieldLink RX0 18 "OlderSkin$Bodies" "count" "I") (List.mem_of_getElem? (i := 1) rfl)
  have w1 := (fun w h => List.mem_cons_of_mem _ (List.mem_append_right _ h) : ∀ w ∈ u_ws RX0 TX0 5, w ∈ wsX0_add)
  have w2 := hts (.fieldLink RX0 9 "OlderSkin$Bodies" "kinds" "[I") (List.mem_of_getElem? (i := 2) rfl)
  have l0 : (50 : Int32).toInt = 50 := by decide
  have l1 : (0 : Int32).toInt = 0 := by decide
  have l2 : (1 : Int32).toInt = 1 := by decide
  have l3 : ((-3) : Int32).toInt = -3 := by decide
  have i1 : 0 ≤ v0_count.toInt ∧ v0_count.toInt ≤ 50 := i1
  refine lv_aload_n hx hb dX0_add_0 rfl (lv_at hl 0 rfl) ?_
  refine va_get (D := D) (ci := 0) (v := .int v0_count) (C := RX0) (T := TX0) (N := 5) hx hb hts w1 hown hK.1 hP 0 rfl rfl 1 (by decide) w0 (fun _ h9 => h9) rfl dX0_add_1 ?_
  refine lv_aload_n hx hb dX0_add_4 rfl (lv_at hl 0 rfl) ?_
  refine va_get (D := D) (ci := 0) (v := .ref (r0 0)) (C := RX0) (T := TX0) (N := 5) hx hb hts w1 hown hK.1 hP 0 rfl rfl 0 (by decide) w2 (fun _ h9 => h9) rfl dX0_add_5 ?_
  refine va_alen hx hb hK.1 hP 1 1 rfl rfl (v := 50) rfl dX0_add_8 ?_
  refine lv_icmp_ne (tgt := 15) hx hb dX0_add_9 (by decide) (fun c1 => ?_) (fun c1 => ?_)
  · have c1 := ci_ne c1
    refine lv_aload_n hx hb dX0_add_15 rfl (lv_at hl 0 rfl) ?_
    refine va_get (D := D) (ci := 0) (v := .ref (r0 0)) (C := RX0) (T := TX0) (N := 5) hx hb hts w1 hown hK.1 hP 0 rfl rfl 0 (by decide) w2 (fun _ h9 => h9) rfl dX0_add_16 ?_
    refine lv_aload_n hx hb dX0_add_19 rfl (lv_at hl 0 rfl) ?_
    refine va_get (D := D) (ci := 0) (v := .int v0_count) (C := RX0) (T := TX0) (N := 5) hx hb hts w1 hown hK.1 hP 0 rfl rfl 1 (by decide) w0 (fun _ h9 => h9) rfl dX0_add_20 ?_
    refine lv_iload_n hx hb dX0_add_23 rfl (lv_at hl 1 rfl) ?_
    refine va_iast hx hb hK.1 hP hD hS 1 1 rfl rfl (i := v0_count) (ix (by omega) (by omega)) dX0_add_24 (fun H locs hP hD hS => ?_)
    obtain ⟨g2, e3⟩ : ∃ y : Nat → Int32, y = upd f0_kinds v0_count.toNatClampNeg p1 := ⟨_, rfl⟩
    rw [← e3] at hP hD
    obtain ⟨hP, hD⟩ : PD D A [O0 a0 r0 v0_count v0_ran v0_actor, (cI κ (r0 0) 50 g2)] H := ⟨hP, hD⟩
    have h4 : ∀ j : Nat, 0 ≤ (g2 j).toInt ∧ (g2 j).toInt ≤ 7 := by rw [e3]; exact all_upd (P := fun z => 0 ≤ z.toInt ∧ z.toInt ≤ 7) hf0_kinds (by omega)
    refine lv_aload_n hx hb dX0_add_25 rfl (lv_at hl 0 rfl) ?_
    refine lv_dup hx hb dX0_add_26 rfl ?_
    refine va_get (D := D) (ci := 0) (v := .int v0_count) (C := RX0) (T := TX0) (N := 5) hx hb hts w1 hown hK.1 hP 0 rfl rfl 1 (by decide) w0 (fun _ h9 => h9) rfl dX0_add_27 ?_
    refine lv_dup_x1 hx hb dX0_add_30 rfl rfl ?_
    refine lv_iconst (v := 1) hx hb dX0_add_31 (by decide) ?_
    refine lv_iadd hx hb dX0_add_32 ?_
    refine lv_topi (fun x5 e6 => ?_)
    try have h7 : x5.toInt = v0_count.toInt + (1 : Int32).toInt := ci_add e6 (by omega) (by omega)
    refine va_put (D := D) (ci := 0) (v := .int x5) (ty := .int) (C := RX0) (T := TX0) (N := 5) hx hb hts w1 tyX0 tyX0_ok nmX0 hown hK.1 hP hD hS 0 rfl rfl 1 (by decide) w0 (fun _ h9 => h9) rfl (by decide +kernel) rfl rfl (Nat.le_of_ble_eq_true rfl) dX0_add_33 (fun H locs hP hD hS => ?_)
    obtain ⟨hP, hD⟩ : PD D A [O0 a0 r0 x5 v0_ran v0_actor, (cI κ (r0 0) 50 g2)] H := ⟨hP, hD⟩
    have h8 : 0 ≤ x5.toInt ∧ x5.toInt ≤ 50 := by omega
    have hpo : (0 ≤ x5.toInt ∧ x5.toInt ≤ 50) ∧ (∀ j : Nat, 0 ≤ (g2 j).toInt ∧ (g2 j).toInt ≤ 7) ∧ ((v0_count.toInt = 50 ∧ v0_count.toInt = -3 ∧ x5.toInt = v0_count.toInt) ∨ (v0_count.toInt < 50 ∧ v0_count.toInt = v0_count.toInt ∧ x5.toInt = v0_count.toInt + 1)) := ⟨h8, h4, (by omega)⟩
    exact ret _ _ _ _ v0_count (x5, g2) dX0_add_36 hpo hP hD hS
  have c1 := ci_eq c1
  refine lv_bipush (v := (-3)) hx hb dX0_add_12 (by decide) ?_
  have hpo : (0 ≤ v0_count.toInt ∧ v0_count.toInt ≤ 50) ∧ (∀ j : Nat, 0 ≤ (f0_kinds j).toInt ∧ (f0_kinds j).toInt ≤ 7) ∧ ((v0_count.toInt = 50 ∧ ((-3) : Int32).toInt = -3 ∧ v0_count.toInt = v0_count.toInt) ∨ (v0_count.toInt < 50 ∧ ((-3) : Int32).toInt = v0_count.toInt ∧ v0_count.toInt = v0_count.toInt + 1)) := ⟨i1, hf0_kinds, (by omega)⟩
  exact ret _ _ _ _ (-3) (v0_count, f0_kinds) dX0_add_14 hpo hP hD hS
set_option maxHeartbeats 4000000 in
set_option maxRecDepth 100000 in
theorem k_X0_traced (l : Launch) (D : va_G) (κ : Nat → ClassId) (β : Nat) (a0 : Nat) (r0 : Nat → Nat) (v0_count : Int32) (v0_ran : Int32) (v0_actor : Int32) (f0_trace : Nat → Int32) (sz : Nat) (i1 : Rg 0 50 v0_count) (i2 : Rg 0 100000000 v0_ran) (i3 : Rg 0 49 v0_actor) (i4 : v0_ran.toInt = 0) (i5 : v0_count.toInt = 0) : Met l yX0_traced wsX0_traced ({ frames := 1, cells := 0, slots := 0, locals := 21 } : Room) (PcK D κ β [O0 a0 r0 v0_count v0_ran v0_actor, (cI κ (r0 2) 24 f0_trace)] sz [.ref a0]) (QiK D (fun (r : Int32) (u : Unit) => (0 ≤ r.toInt ∧ r.toInt ≤ 24) ∧ (r.toInt = 0)) (fun (u : Unit) => [O0 a0 r0 v0_count v0_ran v0_actor, (cI κ (r0 2) 24 f0_trace)]) [O0 a0 r0 v0_count v0_ran v0_actor, (cI κ (r0 2) 24 f0_trace)] sz) 0 0 (va_A [O0 a0 r0 v0_count v0_ran v0_actor, (cI κ (r0 2) 24 f0_trace)] sz) := by
  refine ofK_i (cc := cX0_traced) (maxL := 1) (own := RX0) (by decide) rfl rfl (Nat.le_of_ble_eq_true rfl) ?_
  intro p e s m args below meth c Q A ls hsz hx hb hml hts hown hK hA hAB hP hD hl ret
  have hS : va_S A s.heap s.heap [] := va_S.rf
  have hl : lv_has ls 1 [(0, .ref a0)] := hl
  have w0 := hts (.fieldLink RX0 26 "OlderSkin$Bodies" "ran" "I") (List.mem_of_getElem? (i := 1) rfl)
  have w1 := (fun w h => List.mem_cons_of_mem _ (List.mem_append_right _ h) : ∀ w ∈ u_ws RX0 TX0 5, w ∈ wsX0_traced)
  have w2 := hts (.fieldLink RX0 15 "OlderSkin$Bodies" "trace" "[I") (List.mem_of_getElem? (i := 2) rfl)
  have w3 := hts (.methodLink RX0 29 Lib.Math.min.name) (List.mem_of_getElem? (i := 3) rfl)
  have w4 := hts (.static Lib.Math.min.name) (List.mem_of_getElem? (i := 4) rfl)
  have w5 := hts (.initialized "java/lang/Math") (List.mem_of_getElem? (i := 5) rfl)
  have w6 := hts (.code Lib.Math.min.name Lib.Math.min.code 2 (some .int)) (List.mem_of_getElem? (i := 6) rfl)
  have l0 : (24 : Int32).toInt = 24 := by decide
  have i2 : 0 ≤ v0_ran.toInt ∧ v0_ran.toInt ≤ 100000000 := i2
  refine lv_aload_n hx hb dX0_traced_0 rfl (lv_at hl 0 rfl) ?_
  refine va_get (D := D) (ci := 0) (v := .int v0_ran) (C := RX0) (T := TX0) (N := 5) hx hb hts w1 hown hK.1 hP 0 rfl rfl 3 (by decide) w0 (fun _ h9 => h9) rfl dX0_traced_1 ?_
  refine lv_aload_n hx hb dX0_traced_4 rfl (lv_at hl 0 rfl) ?_
  refine va_get (D := D) (ci := 0) (v := .ref (r0 2)) (C := RX0) (T := TX0) (N := 5) hx hb hts w1 hown hK.1 hP 0 rfl rfl 2 (by decide) w2 (fun _ h9 => h9) rfl dX0_traced_5 ?_
  refine va_alen hx hb hK.1 hP 1 1 rfl rfl (v := 24) rfl dX0_traced_8 ?_
  refine va_mmin hx hb (hml.trans hl.1.symm) hown w3 w4 w5 w6 (Nat.le_of_ble_eq_true rfl) (Nat.le_of_ble_eq_true rfl) (Nat.le_of_ble_eq_true rfl) (Nat.le_of_ble_eq_true rfl) dX0_traced_9 ?_
  refine lv_topi (fun x1 e2 => ?_)
  have h3 := ci_min e2
  have hpo : (0 ≤ x1.toInt ∧ x1.toInt ≤ 24) ∧ (x1.toInt = 0) := ⟨(by omega), (by omega)⟩
  exact ret _ _ _ _ x1 () dX0_traced_12 hpo hP hD hS
set_option maxHeartbeats 4000000 in
set_option maxRecDepth 100000 in
theorem k_X0_isUnder (l : Launch) (D : va_G) (κ : Nat → ClassId) (β : Nat) (a0 : Nat) (r0 : Nat → Nat) (v0_count : Int32) (v0_ran : Int32) (v0_actor : Int32) (sz : Nat) (p1 : Int32) (p2 : Int32) (i1 : Rg 0 50 v0_count) (i2 : Rg 0 100000000 v0_ran) (i3 : Rg 0 49 v0_actor) (i4 : (1 : Int) ≤ 0) : Met l yX0_isUnder wsX0_isUnder ({ frames := 1, cells := 0, slots := 0, locals := 30 } : Room) (PcK D κ β [O0 a0 r0 v0_count v0_ran v0_actor] sz [.ref a0, .int p1, .int p2]) (QiK D (fun (r : Int32) (u : Unit) => r.toInt = 0 ∨ r.toInt = 1) (fun (u : Unit) => [O0 a0 r0 v0_count v0_ran v0_actor]) [O0 a0 r0 v0_count v0_ran v0_actor] sz) 0 0 (va_A [O0 a0 r0 v0_count v0_ran v0_actor] sz) := by
  refine ofK_z (cc := cX0_isUnder) (maxL := 5) (own := RX0) (by decide) rfl rfl (Nat.le_of_ble_eq_true rfl) ?_
  intro p e s m args below meth c Q A ls hsz hx hb hml hts hown hK hA hAB hP hD hl ret
  have hS : va_S A s.heap s.heap [] := va_S.rf
  have hl : lv_has ls 5 [(0, .ref a0), (1, .int p1), (2, .int p2)] := hl
  exfalso
  omega
set_option maxHeartbeats 4000000 in
set_option maxRecDepth 100000 in
theorem k_X0_own (l : Launch) (D : va_G) (κ : Nat → ClassId) (β : Nat) (a0 : Nat) (r0 : Nat → Nat) (v0_count : Int32) (v0_ran : Int32) (v0_actor : Int32) (sz : Nat) (p1 : Int32) (p2 : Int32) (p3 : Int32) (i1 : Rg 0 50 v0_count) (i2 : Rg 0 100000000 v0_ran) (i3 : Rg 0 49 v0_actor) (i4 : (1 : Int) ≤ 0) : Met l yX0_own wsX0_own ({ frames := 1, cells := 0, slots := 0, locals := 30 } : Room) (PcK D κ β [O0 a0 r0 v0_count v0_ran v0_actor] sz [.ref a0, .int p1, .int p2, .int p3]) (QiK D (fun (r : Int32) (u : Unit) => True) (fun (u : Unit) => [O0 a0 r0 v0_count v0_ran v0_actor]) [O0 a0 r0 v0_count v0_ran v0_actor] sz) 0 0 (va_A [O0 a0 r0 v0_count v0_ran v0_actor] sz) := by
  refine ofK_i (cc := cX0_own) (maxL := 4) (own := RX0) (by decide) rfl rfl (Nat.le_of_ble_eq_true rfl) ?_
  intro p e s m args below meth c Q A ls hsz hx hb hml hts hown hK hA hAB hP hD hl ret
  have hS : va_S A s.heap s.heap [] := va_S.rf
  have hl : lv_has ls 4 [(0, .ref a0), (1, .int p1), (2, .int p2), (3, .int p3)] := hl
  have i3 : 0 ≤ v0_actor.toInt ∧ v0_actor.toInt ≤ 49 := i3
  exfalso
  omega
set_option maxHeartbeats 4000000 in
set_option maxRecDepth 100000 in
theorem k_X0_from (l : Launch) (D : va_G) (κ : Nat → ClassId) (β : Nat) (a0 : Nat) (r0 : Nat → Nat) (v0_count : Int32) (v0_ran : Int32) (v0_actor : Int32) (sz : Nat) (p1 : Int32) (p2 : Int32) (p3 : Int32) (p4 : Int32) (i1 : Rg 0 50 v0_count) (i2 : Rg 0 100000000 v0_ran) (i3 : Rg 0 49 v0_actor) (i4 : (1 : Int) ≤ 0) : Met l yX0_from wsX0_from ({ frames := 1, cells := 0, slots := 0, locals := 30 } : Room) (PcK D κ β [O0 a0 r0 v0_count v0_ran v0_actor] sz [.ref a0, .int p1, .int p2, .int p3, .int p4]) (QiK D (fun (r : Int32) (u : Unit) => True) (fun (u : Unit) => [O0 a0 r0 v0_count v0_ran v0_actor]) [O0 a0 r0 v0_count v0_ran v0_actor] sz) 0 0 (va_A [O0 a0 r0 v0_count v0_ran v0_actor] sz) := by
  refine ofK_i (cc := cX0_from) (maxL := 7) (own := RX0) (by decide) rfl rfl (Nat.le_of_ble_eq_true rfl) ?_
  intro p e s m args below meth c Q A ls hsz hx hb hml hts hown hK hA hAB hP hD hl ret
  have hS : va_S A s.heap s.heap [] := va_S.rf
  have hl : lv_has ls 7 [(0, .ref a0), (1, .int p1), (2, .int p2), (3, .int p3), (4, .int p4)] := hl
  have i2 : 0 ≤ v0_ran.toInt ∧ v0_ran.toInt ≤ 100000000 := i2
  exfalso
  omega
set_option maxHeartbeats 4000000 in
set_option maxRecDepth 100000 in
theorem k_X0_run (l : Launch) (D : va_G) (κ : Nat → ClassId) (β : Nat) (a0 : Nat) (r0 : Nat → Nat) (v0_count : Int32) (v0_ran : Int32) (v0_actor : Int32) (sz : Nat) (p1 : Int32) (p2 : Int32) (p3 : Int32) (p4 : Int32) (i1 : Rg 0 50 v0_count) (i2 : Rg 0 100000000 v0_ran) (i3 : Rg 0 49 v0_actor) (i4 : (1 : Int) ≤ 0) : Met l yX0_run wsX0_run ({ frames := 1, cells := 0, slots := 0, locals := 30 } : Room) (PcK D κ β [O0 a0 r0 v0_count v0_ran v0_actor] sz [.ref a0, .int p1, .int p2, .int p3, .int p4]) (QiK D (fun (r : Int32) (u : Unit) => True) (fun (u : Unit) => [O0 a0 r0 v0_count v0_ran v0_actor]) [O0 a0 r0 v0_count v0_ran v0_actor] sz) 0 0 (va_A [O0 a0 r0 v0_count v0_ran v0_actor] sz) := by
  refine ofK_i (cc := cX0_run) (maxL := 5) (own := RX0) (by decide) rfl rfl (Nat.le_of_ble_eq_true rfl) ?_
  intro p e s m args below meth c Q A ls hsz hx hb hml hts hown hK hA hAB hP hD hl ret
  have hS : va_S A s.heap s.heap [] := va_S.rf
  have hl : lv_has ls 5 [(0, .ref a0), (1, .int p1), (2, .int p2), (3, .int p3), (4, .int p4)] := hl
  have i3 : 0 ≤ v0_actor.toInt ∧ v0_actor.toInt ≤ 49 := i3
  exfalso
  omega
set_option maxHeartbeats 4000000 in
set_option maxRecDepth 100000 in
theorem k_X0_start (l : Launch) (D : va_G) (κ : Nat → ClassId) (β : Nat) (a0 : Nat) (r0 : Nat → Nat) (v0_count : Int32) (v0_ran : Int32) (v0_actor : Int32) (sz : Nat) (p1 : Int32) (p2 : Int32) (p3 : Int32) (i1 : Rg 0 50 v0_count) (i2 : Rg 0 100000000 v0_ran) (i3 : Rg 0 49 v0_actor) (i4 : v0_count.toInt = 0) : Met l yX0_start wsX0_start ({ frames := 2, cells := 0, slots := 0, locals := 43 } : Room) (PcK D κ β [O0 a0 r0 v0_count v0_ran v0_actor] sz [.ref a0, .int p1, .int p2, .int p3]) (QiK D (fun (r : Int32) (u : Int32) => (0 ≤ u.toInt ∧ u.toInt ≤ 100000000) ∧ (r.toInt = 0)) (fun (u : Int32) => [O0 a0 r0 v0_count u v0_actor]) [O0 a0 r0 v0_count v0_ran v0_actor] sz) 0 0 (va_A [O0 a0 r0 v0_count v0_ran v0_actor] sz) := by
  refine ofK_i (cc := cX0_start) (maxL := 4) (own := RX0) (by decide) rfl rfl (Nat.le_of_ble_eq_true rfl) ?_
  intro p e s m args below meth c Q A ls hsz hx hb hml hts hown hK hA hAB hP hD hl ret
  have hS : va_S A s.heap s.heap [] := va_S.rf
  have hl : lv_has ls 4 [(0, .ref a0), (1, .int p1), (2, .int p2), (3, .int p3)] := hl
  have w0 := hts (.fieldLink RX0 26 "OlderSkin$Bodies" "ran" "I") (List.mem_of_getElem? (i := 1) rfl)
  have w1 := (fun w h => List.mem_cons_of_mem _ (List.mem_append_right _ h) : ∀ w ∈ u_ws RX0 TX0 5, w ∈ wsX0_start)
  have l0 : (0 : Int32).toInt = 0 := by decide
  have i1 : 0 ≤ v0_count.toInt ∧ v0_count.toInt ≤ 50 := i1
  have i2 : 0 ≤ v0_ran.toInt ∧ v0_ran.toInt ≤ 100000000 := i2
  have i3 : 0 ≤ v0_actor.toInt ∧ v0_actor.toInt ≤ 49 := i3
  refine lv_aload_n hx hb dX0_start_0 rfl (lv_at hl 0 rfl) ?_
  refine lv_iconst (v := 0) hx hb dX0_start_1 (by decide) ?_
  refine va_put (D := D) (ci := 0) (v := .int 0) (ty := .int) (C := RX0) (T := TX0) (N := 5) hx hb hts w1 tyX0 tyX0_ok nmX0 hown hK.1 hP hD hS 0 rfl rfl 3 (by decide) w0 (fun _ h9 => h9) rfl (by decide +kernel) rfl rfl (Nat.le_of_ble_eq_true rfl) dX0_start_2 (fun H locs hP hD hS => ?_)
  obtain ⟨hP, hD⟩ : PD D A [O0 a0 r0 v0_count 0 v0_actor] H := ⟨hP, hD⟩
  have h1 : 0 ≤ (0 : Int32).toInt ∧ (0 : Int32).toInt ≤ 100000000 := by omega
  refine lv_aload_n hx hb dX0_start_5 rfl (lv_at hl 0 rfl) ?_
  refine lv_iload_n hx hb dX0_start_6 rfl (lv_at hl 1 rfl) ?_
  refine kcm_i hA hAB hP hD hS [true] rfl (fun _ => rfl) (fun hPc hDc => va_runV (As := [.int p1]) (rest := []) ⟨hx, hb, hml, hown, hts⟩ (k_X0_isBody l D κ β a0 r0 v0_count 0 v0_actor H.size p1 i1 h1 i3 (by omega)) (cwV 1 hts gX0_start_X0_isBody rfl rfl rfl (by decide +kernel) ⟨Nat.le_of_ble_eq_true rfl, Nat.le_of_ble_eq_true rfl⟩) (pk_V hK hS hAB hPc hDc 0 (ci := 0) rfl rfl rfl) rfl rfl hl.1 rfl (lv_room (Nat.le_of_ble_eq_true rfl)) dX0_start_7 ⟨Nat.le_of_ble_eq_true rfl, Nat.le_of_ble_eq_true rfl⟩) (fun x2 u3 H locs hw hPD hS => ?_)
  have h4 : (x2.toInt = 1 ∧ 0 ≤ p1.toInt ∧ p1.toInt < v0_count.toInt) ∨ (x2.toInt = 0 ∧ (p1.toInt < 0 ∨ v0_count.toInt ≤ p1.toInt)) := hw
  obtain ⟨hP, hD⟩ : PD D A [O0 a0 r0 v0_count 0 v0_actor] H := hPD
  refine lv_if_eq (tgt := 22) hx hb dX0_start_10 (by decide) (fun c5 => ?_) (fun c5 => ?_)
  · have c5 := ci_eq c5
    refine lv_iconst (v := 0) hx hb dX0_start_22 (by decide) ?_
    have hpo : (0 ≤ (0 : Int32).toInt ∧ (0 : Int32).toInt ≤ 100000000) ∧ ((0 : Int32).toInt = 0) := ⟨h1, (by omega)⟩
    exact ret _ _ _ _ 0 0 dX0_start_23 hpo hP hD hS
  have c5 := ci_ne c5
  exfalso
  omega
