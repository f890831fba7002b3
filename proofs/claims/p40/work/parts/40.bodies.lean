def bb : Nat → Int
  | 0 => 0
  | n + 1 => 1 + 2 * bb n
theorem bb_succ (n : Nat) : bb (n + 1) = 1 + 2 * bb n := rfl
theorem bb_nn : ∀ n, 0 ≤ bb n
  | 0 => Int.le_refl 0
  | n + 1 => by
    have := bb_nn n
    rw [bb_succ]; omega
theorem tb_above (j : Nat) : -1 ≤ (tbAbove.getD j 0).toInt ∧ (tbAbove.getD j 0).toInt ≤ 7 := by
  by_cases h : j < 8
  · have t : ∀ j : Nat, j < 8 → -1 ≤ (tbAbove.getD j 0).toInt ∧ (tbAbove.getD j 0).toInt ≤ 7 := by decide +kernel
    exact t j h
  · have e : tbAbove.getD j 0 = 0 := (by simp only [tbAbove, List.getD_eq_getElem?_getD, List.length_cons, List.length_nil]; rw [List.getElem?_eq_none (by simp; omega)]; rfl)
    rw [e]; decide
theorem ab_cases {v k : Int} (e : v = (tbAbove.getD k.toNat 0).toInt) (hk : 0 ≤ k ∧ k ≤ 7) : (k = 0 ∧ v = -1) ∨ ((k = 1 ∨ k = 2 ∨ k = 5 ∨ k = 6) ∧ v = 0) ∨ (k = 3 ∧ v = 1) ∨ (k = 4 ∧ v = 2) ∨ (k = 7 ∧ v = 6) := by
  have h2 : k = 0 ∨ k = 1 ∨ k = 2 ∨ k = 3 ∨ k = 4 ∨ k = 5 ∨ k = 6 ∨ k = 7 := by omega
  have t0 : (tbAbove.getD (0 : Int).toNat 0).toInt = -1 := by decide
  have t1 : (tbAbove.getD (1 : Int).toNat 0).toInt = 0 := by decide
  have t2 : (tbAbove.getD (2 : Int).toNat 0).toInt = 0 := by decide
  have t3 : (tbAbove.getD (3 : Int).toNat 0).toInt = 1 := by decide
  have t4 : (tbAbove.getD (4 : Int).toNat 0).toInt = 2 := by decide
  have t5 : (tbAbove.getD (5 : Int).toNat 0).toInt = 0 := by decide
  have t6 : (tbAbove.getD (6 : Int).toNat 0).toInt = 0 := by decide
  have t7 : (tbAbove.getD (7 : Int).toNat 0).toInt = 6 := by decide
  rcases h2 with h | h | h | h | h | h | h | h <;> subst h <;> omega
theorem FR_cong {w : Int32} {ok a k k' : Int} {x : Int32} {n : Nat} (h : k' = k) : FR w ok n a k x = FR w ok n a k' x := by rw [h]
theorem TR_cong {ok a k k' : Int} {n : Nat} (h : k' = k) : TR ok n a k = TR ok n a k' := by rw [h]
set_option maxHeartbeats 4000000 in
set_option maxRecDepth 100000 in
theorem k_X0_isBody (l : Launch) (D : va_G) (κ : Nat → ClassId) (β : Nat) (a0 : Nat) (r0 : Nat → Nat) (v0_count : Int32) (v0_ran : Int32) (v0_actor : Int32) (sz : Nat) (p1 : Int32) (i1 : Rg 0 50 v0_count) (i2 : Rg 0 100000000 v0_ran) (i3 : Rg 0 49 v0_actor) : Met l yX0_isBody wsX0_isBody ({ frames := 1, cells := 0, slots := 0, locals := 22 } : Room) (PcK D κ β [O0 a0 r0 v0_count v0_ran v0_actor] sz [.ref a0, .int p1]) (QiK D (fun (r : Int32) (u : Unit) => (r.toInt = 1 ∧ 0 ≤ p1.toInt ∧ p1.toInt < v0_count.toInt) ∨ (r.toInt = 0 ∧ (p1.toInt < 0 ∨ v0_count.toInt ≤ p1.toInt))) (fun (u : Unit) => [O0 a0 r0 v0_count v0_ran v0_actor]) [O0 a0 r0 v0_count v0_ran v0_actor] sz) 0 0 (va_A [O0 a0 r0 v0_count v0_ran v0_actor] sz) := by
  refine ofK_z (cc := cX0_isBody) (maxL := 2) (own := RX0) (by decide) rfl rfl (Nat.le_of_ble_eq_true rfl) ?_
  intro p e s m args below meth c Q A ls hsz hx hb hml hts hown hK hA hAB hP hD hl ret
  have hS : va_S A s.heap s.heap [] := va_S.rf
  have hl : lv_has ls 2 [(0, .ref a0), (1, .int p1)] := hl
  have w0 := hts (.fieldLink RX0 18 "OlderSkin$Bodies" "count" "I") (List.mem_of_getElem? (i := 1) rfl)
  have w1 := (fun w h => List.mem_cons_of_mem _ (List.mem_append_right _ h) : ∀ w ∈ u_ws RX0 TX0 5, w ∈ wsX0_isBody)
  have w2 := hts (.initialized RX11) (List.mem_of_getElem? (i := 3) rfl)
  have w3 := hts (.static yX11_within) (List.mem_of_getElem? (i := 2) rfl)
  have w4 := hK.2.1 ("OlderSkin$Bodies", 22, ⟨"OlderSkin", "within", "(III)Z"⟩, "OlderSkin") (by decide +kernel)
  have l0 : (0 : Int32).toInt = 0 := by decide
  have l1 : (1 : Int32).toInt = 1 := by decide
  have i1 : 0 ≤ v0_count.toInt ∧ v0_count.toInt ≤ 50 := i1
  refine lv_iload_n hx hb dX0_isBody_0 rfl (lv_at hl 1 rfl) ?_
  refine lv_iconst (v := 0) hx hb dX0_isBody_1 (by decide) ?_
  refine lv_aload_n hx hb dX0_isBody_2 rfl (lv_at hl 0 rfl) ?_
  refine va_get (D := D) (ci := 0) (v := .int v0_count) (C := RX0) (T := TX0) (N := 5) hx hb hts w1 hown hK.1 hP 0 rfl rfl 1 (by decide) w0 (fun _ h9 => h9) rfl dX0_isBody_3 ?_
  refine lv_iconst (v := 1) hx hb dX0_isBody_6 (by decide) ?_
  refine lv_isub hx hb dX0_isBody_7 ?_
  refine lv_topi (fun x1 e2 => ?_)
  try have h3 : x1.toInt = v0_count.toInt - (1 : Int32).toInt := ci_sub e2 (by omega) (by omega)
  refine kcm_i hA hAB hP hD hS [false] rfl (fun _ => rfl) (fun hPc hDc => va_runSN (As := [.int p1, .int 0, .int x1]) (rest := []) ⟨hx, hb, hml, hown, hts⟩ (k_X11_within l D κ β s.heap.size p1 0 x1) ⟨va_cnB 3 hts gX0_isBody_X11_within_n22 rfl rfl rfl w4 w2 (by decide +kernel) ⟨Nat.le_of_ble_eq_true rfl, Nat.le_of_ble_eq_true rfl⟩, w3, trivial⟩ (pk_S hK hS hAB hPc hDc) rfl rfl hl.1 rfl (lv_room (Nat.le_of_ble_eq_true rfl)) dX0_isBody_8 ⟨Nat.le_of_ble_eq_true rfl, Nat.le_of_ble_eq_true rfl⟩) (fun x4 u5 H locs hw hPD hS => ?_)
  have h6 : (x4.toInt = 1 ∧ (0 : Int32).toInt ≤ p1.toInt ∧ p1.toInt ≤ x1.toInt) ∨ (x4.toInt = 0 ∧ (p1.toInt < (0 : Int32).toInt ∨ x1.toInt < p1.toInt)) := hw
  obtain ⟨hP, hD⟩ : PD D A [O0 a0 r0 v0_count v0_ran v0_actor] H := hPD
  have hpo : (x4.toInt = 1 ∧ 0 ≤ p1.toInt ∧ p1.toInt < v0_count.toInt) ∨ (x4.toInt = 0 ∧ (p1.toInt < 0 ∨ v0_count.toInt ≤ p1.toInt)) := (by omega)
  exact ret _ _ _ _ x4 () dX0_isBody_11 (by omega) hpo hP hD hS
set_option maxHeartbeats 4000000 in
set_option maxRecDepth 100000 in
theorem k_X0_add (l : Launch) (D : va_G) (κ : Nat → ClassId) (β : Nat) (a0 : Nat) (r0 : Nat → Nat) (v0_count : Int32) (v0_ran : Int32) (v0_actor : Int32) (f0_kinds : Nat → Int32) (sz : Nat) (p1 : Int32) (i1 : Rg 0 50 v0_count) (i2 : Rg 0 100000000 v0_ran) (i3 : Rg 0 49 v0_actor) (hf0_kinds : ∀ j : Nat, 0 ≤ (f0_kinds j).toInt ∧ (f0_kinds j).toInt ≤ 7) (i4 : 0 ≤ p1.toInt ∧ p1.toInt ≤ 7) : Met l yX0_add wsX0_add ({ frames := 0, cells := 0, slots := 0, locals := 0 } : Room) (PcK D κ β [O0 a0 r0 v0_count v0_ran v0_actor, (cI κ (r0 0) 50 f0_kinds)] sz [.ref a0, .int p1]) (QiK D (fun (r : Int32) (u : Int32 × (Nat → Int32)) => (0 ≤ u.1.toInt ∧ u.1.toInt ≤ 50) ∧ (∀ j : Nat, 0 ≤ (u.2 j).toInt ∧ (u.2 j).toInt ≤ 7) ∧ ((v0_count.toInt = 50 ∧ r.toInt = -3 ∧ u.1.toInt = v0_count.toInt) ∨ (v0_count.toInt < 50 ∧ r.toInt = v0_count.toInt ∧ u.1.toInt = v0_count.toInt + 1)) ∧ (u.2 = addF v0_count 50 f0_kinds p1)) (fun (u : Int32 × (Nat → Int32)) => [O0 a0 r0 u.1 v0_ran v0_actor, (cI κ (r0 0) 50 u.2)]) [O0 a0 r0 v0_count v0_ran v0_actor, (cI κ (r0 0) 50 f0_kinds)] sz) 0 0 (va_A [O0 a0 r0 v0_count v0_ran v0_actor, (cI κ (r0 0) 50 f0_kinds)] sz) := by
  refine ofK_i (cc := cX0_add) (maxL := 2) (own := RX0) (by decide) rfl rfl (Nat.le_of_ble_eq_true rfl) ?_
  intro p e s m args below meth c Q A ls hsz hx hb hml hts hown hK hA hAB hP hD hl ret
  have hS : va_S A s.heap s.heap [] := va_S.rf
  have hl : lv_has ls 2 [(0, .ref a0), (1, .int p1)] := hl
  have w0 := hts (.fieldLink RX0 18 "OlderSkin$Bodies" "count" "I") (List.mem_of_getElem? (i := 1) rfl)
  have w1 := (fun w h => List.mem_cons_of_mem _ (List.mem_append_right _ h) : ∀ w ∈ u_ws RX0 TX0 5, w ∈ wsX0_add)
  have w2 := hts (.fieldLink RX0 9 "OlderSkin$Bodies" "kinds" "[I") (List.mem_of_getElem? (i := 2) rfl)
  have l0 : (50 : Int32).toInt = 50 := by decide
  have l1 : (0 : Int32).toInt = 0 := by decide
  have l2 : (1 : Int32).toInt = 1 := by decide
  have l3 : ((-3) : Int32).toInt = -3 := by decide
  have i1 : 0 ≤ v0_count.toInt ∧ v0_count.toInt ≤ 50 := i1
  refine lv_aload_n hx hb dX0_add_0 rfl (lv_at hl 0 rfl) ?_
  refine va_get (D := D) (ci := 0) (v := .int v0_count) (C := RX0) (T := TX0) (N := 5) hx hb hts w1 hown hK.1 hP 0 rfl rfl 1 (by decide) w0 (fun _ h9 => h9) rfl dX0_add_1 ?_
  refine lv_aload_n hx hb dX0_add_4 rfl (lv_at hl 0 rfl) ?_
  refine va_get (D := D) (ci := 0) (v := .ref (r0 0)) (C := RX0) (T := TX0) (N := 5) hx hb hts w1 hown hK.1 hP 0 rfl rfl 0 (by decide) w2 (fun _ h9 => h9) rfl dX0_add_5 ?_
  refine va_alen hx hb hK.1 hP 1 1 rfl rfl (v := 50) rfl dX0_add_8 ?_
  refine lv_icmp_ne (tgt := 15) hx hb dX0_add_9 (by decide) (fun c1 => ?_) (fun c1 => ?_)
  · have c1 := ci_ne c1
    refine lv_aload_n hx hb dX0_add_15 rfl (lv_at hl 0 rfl) ?_
    refine va_get (D := D) (ci := 0) (v := .ref (r0 0)) (C := RX0) (T := TX0) (N := 5) hx hb hts w1 hown hK.1 hP 0 rfl rfl 0 (by decide) w2 (fun _ h9 => h9) rfl dX0_add_16 ?_
    refine lv_aload_n hx hb dX0_add_19 rfl (lv_at hl 0 rfl) ?_
    refine va_get (D := D) (ci := 0) (v := .int v0_count) (C := RX0) (T := TX0) (N := 5) hx hb hts w1 hown hK.1 hP 0 rfl rfl 1 (by decide) w0 (fun _ h9 => h9) rfl dX0_add_20 ?_
    refine lv_iload_n hx hb dX0_add_23 rfl (lv_at hl 1 rfl) ?_
    refine va_iast hx hb hK.1 hP hD hS 1 1 rfl rfl (i := v0_count) (ix (by omega) (by omega)) dX0_add_24 (fun H locs hP hD hS => ?_)
    obtain ⟨g2, e3⟩ : ∃ y : Nat → Int32, y = upd f0_kinds v0_count.toNatClampNeg p1 := ⟨_, rfl⟩
    rw [← e3] at hP hD
    obtain ⟨hP, hD⟩ : PD D A [O0 a0 r0 v0_count v0_ran v0_actor, (cI κ (r0 0) 50 g2)] H := ⟨hP, hD⟩
    have h4 : ∀ j : Nat, 0 ≤ (g2 j).toInt ∧ (g2 j).toInt ≤ 7 := by rw [e3]; exact all_upd (P := fun z => 0 ≤ z.toInt ∧ z.toInt ≤ 7) hf0_kinds (by omega)
    refine lv_aload_n hx hb dX0_add_25 rfl (lv_at hl 0 rfl) ?_
    refine lv_dup hx hb dX0_add_26 rfl ?_
    refine va_get (D := D) (ci := 0) (v := .int v0_count) (C := RX0) (T := TX0) (N := 5) hx hb hts w1 hown hK.1 hP 0 rfl rfl 1 (by decide) w0 (fun _ h9 => h9) rfl dX0_add_27 ?_
    refine lv_dup_x1 hx hb dX0_add_30 rfl rfl ?_
    refine lv_iconst (v := 1) hx hb dX0_add_31 (by decide) ?_
    refine lv_iadd hx hb dX0_add_32 ?_
    refine lv_topi (fun x5 e6 => ?_)
    try have h7 : x5.toInt = v0_count.toInt + (1 : Int32).toInt := ci_add e6 (by omega) (by omega)
    refine va_put (D := D) (ci := 0) (v := .int x5) (ty := .int) (C := RX0) (T := TX0) (N := 5) hx hb hts w1 tyX0 tyX0_ok nmX0 hown hK.1 hP hD hS 0 rfl rfl 1 (by decide) w0 (fun _ h9 => h9) rfl (by decide +kernel) rfl rfl (Nat.le_of_ble_eq_true rfl) dX0_add_33 (fun H locs hP hD hS => ?_)
    obtain ⟨hP, hD⟩ : PD D A [O0 a0 r0 x5 v0_ran v0_actor, (cI κ (r0 0) 50 g2)] H := ⟨hP, hD⟩
    have h8 : 0 ≤ x5.toInt ∧ x5.toInt ≤ 50 := by omega
    have hpo : (0 ≤ x5.toInt ∧ x5.toInt ≤ 50) ∧ (∀ j : Nat, 0 ≤ (g2 j).toInt ∧ (g2 j).toInt ≤ 7) ∧ ((v0_count.toInt = 50 ∧ v0_count.toInt = -3 ∧ x5.toInt = v0_count.toInt) ∨ (v0_count.toInt < 50 ∧ v0_count.toInt = v0_count.toInt ∧ x5.toInt = v0_count.toInt + 1)) ∧ (g2 = addF v0_count 50 f0_kinds p1) := ⟨h8, h4, (by omega), (by first | (rw [addF_ok (by omega)]; assumption) | exact (addF_no (by omega)).symm)⟩
    exact ret _ _ _ _ v0_count (x5, g2) dX0_add_36 hpo hP hD hS
  have c1 := ci_eq c1
  refine lv_bipush (v := (-3)) hx hb dX0_add_12 (by decide) ?_
  have hpo : (0 ≤ v0_count.toInt ∧ v0_count.toInt ≤ 50) ∧ (∀ j : Nat, 0 ≤ (f0_kinds j).toInt ∧ (f0_kinds j).toInt ≤ 7) ∧ ((v0_count.toInt = 50 ∧ ((-3) : Int32).toInt = -3 ∧ v0_count.toInt = v0_count.toInt) ∨ (v0_count.toInt < 50 ∧ ((-3) : Int32).toInt = v0_count.toInt ∧ v0_count.toInt = v0_count.toInt + 1)) ∧ (f0_kinds = addF v0_count 50 f0_kinds p1) := ⟨i1, hf0_kinds, (by omega), (by first | (rw [addF_ok (by omega)]; assumption) | exact (addF_no (by omega)).symm)⟩
  exact ret _ _ _ _ (-3) (v0_count, f0_kinds) dX0_add_14 hpo hP hD hS
set_option maxHeartbeats 4000000 in
set_option maxRecDepth 100000 in
theorem k_X0_traced (l : Launch) (D : va_G) (κ : Nat → ClassId) (β : Nat) (a0 : Nat) (r0 : Nat → Nat) (v0_count : Int32) (v0_ran : Int32) (v0_actor : Int32) (f0_trace : Nat → Int32) (sz : Nat) (i1 : Rg 0 50 v0_count) (i2 : Rg 0 100000000 v0_ran) (i3 : Rg 0 49 v0_actor) : Met l yX0_traced wsX0_traced ({ frames := 1, cells := 0, slots := 0, locals := 21 } : Room) (PcK D κ β [O0 a0 r0 v0_count v0_ran v0_actor, (cI κ (r0 2) 24 f0_trace)] sz [.ref a0]) (QiK D (fun (r : Int32) (u : Unit) => (0 ≤ r.toInt ∧ r.toInt ≤ 24) ∧ (r.toInt ≤ v0_ran.toInt ∧ (r.toInt = v0_ran.toInt ∨ r.toInt = 24))) (fun (u : Unit) => [O0 a0 r0 v0_count v0_ran v0_actor, (cI κ (r0 2) 24 f0_trace)]) [O0 a0 r0 v0_count v0_ran v0_actor, (cI κ (r0 2) 24 f0_trace)] sz) 0 0 (va_A [O0 a0 r0 v0_count v0_ran v0_actor, (cI κ (r0 2) 24 f0_trace)] sz) := by
  refine ofK_i (cc := cX0_traced) (maxL := 1) (own := RX0) (by decide) rfl rfl (Nat.le_of_ble_eq_true rfl) ?_
  intro p e s m args below meth c Q A ls hsz hx hb hml hts hown hK hA hAB hP hD hl ret
  have hS : va_S A s.heap s.heap [] := va_S.rf
  have hl : lv_has ls 1 [(0, .ref a0)] := hl
  have w0 := hts (.fieldLink RX0 26 "OlderSkin$Bodies" "ran" "I") (List.mem_of_getElem? (i := 1) rfl)
  have w1 := (fun w h => List.mem_cons_of_mem _ (List.mem_append_right _ h) : ∀ w ∈ u_ws RX0 TX0 5, w ∈ wsX0_traced)
  have w2 := hts (.fieldLink RX0 15 "OlderSkin$Bodies" "trace" "[I") (List.mem_of_getElem? (i := 2) rfl)
  have w3 := hts (.methodLink RX0 29 Lib.Math.min.name) (List.mem_of_getElem? (i := 3) rfl)
  have w4 := hts (.static Lib.Math.min.name) (List.mem_of_getElem? (i := 4) rfl)
  have w5 := hts (.initialized "java/lang/Math") (List.mem_of_getElem? (i := 5) rfl)
  have w6 := hts (.code Lib.Math.min.name Lib.Math.min.code 2 (some .int)) (List.mem_of_getElem? (i := 6) rfl)
  have l0 : (24 : Int32).toInt = 24 := by decide
  have i2 : 0 ≤ v0_ran.toInt ∧ v0_ran.toInt ≤ 100000000 := i2
  refine lv_aload_n hx hb dX0_traced_0 rfl (lv_at hl 0 rfl) ?_
  refine va_get (D := D) (ci := 0) (v := .int v0_ran) (C := RX0) (T := TX0) (N := 5) hx hb hts w1 hown hK.1 hP 0 rfl rfl 3 (by decide) w0 (fun _ h9 => h9) rfl dX0_traced_1 ?_
  refine lv_aload_n hx hb dX0_traced_4 rfl (lv_at hl 0 rfl) ?_
  refine va_get (D := D) (ci := 0) (v := .ref (r0 2)) (C := RX0) (T := TX0) (N := 5) hx hb hts w1 hown hK.1 hP 0 rfl rfl 2 (by decide) w2 (fun _ h9 => h9) rfl dX0_traced_5 ?_
  refine va_alen hx hb hK.1 hP 1 1 rfl rfl (v := 24) rfl dX0_traced_8 ?_
  refine va_mmin hx hb (hml.trans hl.1.symm) hown w3 w4 w5 w6 (Nat.le_of_ble_eq_true rfl) (Nat.le_of_ble_eq_true rfl) (Nat.le_of_ble_eq_true rfl) (Nat.le_of_ble_eq_true rfl) dX0_traced_9 ?_
  refine lv_topi (fun x1 e2 => ?_)
  have h3 := ci_min e2
  have hpo : (0 ≤ x1.toInt ∧ x1.toInt ≤ 24) ∧ (x1.toInt ≤ v0_ran.toInt ∧ (x1.toInt = v0_ran.toInt ∨ x1.toInt = 24)) := ⟨(by omega), (by omega)⟩
  exact ret _ _ _ _ x1 () dX0_traced_12 hpo hP hD hS
set_option maxHeartbeats 4000000 in
set_option maxRecDepth 100000 in
theorem k_X0_isUnder (l : Launch) (D : va_G) (κ : Nat → ClassId) (β : Nat) (a0 : Nat) (r0 : Nat → Nat) (v0_count : Int32) (v0_ran : Int32) (v0_actor : Int32) (sz : Nat) (p1 : Int32) (p2 : Int32) (i1 : Rg 0 50 v0_count) (i2 : Rg 0 100000000 v0_ran) (i3 : Rg 0 49 v0_actor) (i4 : -1 ≤ p1.toInt ∧ p1.toInt ≤ 7) : Met l yX0_isUnder wsX0_isUnder ({ frames := 0, cells := 0, slots := 0, locals := 0 } : Room) (PcK D κ β [O0 a0 r0 v0_count v0_ran v0_actor] sz [.ref a0, .int p1, .int p2]) (QiK D (fun (r : Int32) (u : Unit) => r.toInt = 0 ∨ r.toInt = 1) (fun (u : Unit) => [O0 a0 r0 v0_count v0_ran v0_actor]) [O0 a0 r0 v0_count v0_ran v0_actor] sz) 0 0 (va_A [O0 a0 r0 v0_count v0_ran v0_actor] sz) := by
  refine ofK_z (cc := cX0_isUnder) (maxL := 5) (own := RX0) (by decide) rfl rfl (Nat.le_of_ble_eq_true rfl) ?_
  intro p e s m args below meth c Q A ls hsz hx hb hml hts hown hK hA hAB hP hD hl ret
  have hS : va_S A s.heap s.heap [] := va_S.rf
  have hl : lv_has ls 5 [(0, .ref a0), (1, .int p1), (2, .int p2)] := hl
  have w0 := hts (.fieldLink RX0 35 "OlderSkin$Bodies" "ABOVE" "[I") (List.mem_of_getElem? (i := 1) rfl)
  have l0 : (0 : Int32).toInt = 0 := by decide
  have l1 : (8 : Int32).toInt = 8 := by decide
  have l2 : (1 : Int32).toInt = 1 := by decide
  obtain ⟨t1, t2, z1, y1, z2, y2⟩ := hK.2.2.2.2.1
  have z1 := z1.narrow hAB
  have y1 := y1.narrow hAB
  have z2 := z2.narrow hAB
  have y2 := y2.narrow hAB
  refine lv_iload_n hx hb dX0_isUnder_0 rfl (lv_at hl 1 rfl) ?_
  refine lv_istore_n (lv' := [(3, .int p1), (0, .ref a0), (1, .int p1), (2, .int p2)]) hx hb dX0_isUnder_1 rfl hl (by decide) rfl (fun ls hl => ?_)
  refine lv_iconst (v := 0) hx hb dX0_isUnder_2 (by decide) ?_
  refine lv_istore (lv' := [(4, .int 0), (3, .int p1), (0, .ref a0), (1, .int p1), (2, .int p2)]) hx hb dX0_isUnder_3 hl (by decide) rfl (fun ls hl => ?_)
  have lp5 : ∀ (n5 : Nat) (k1 : Int32) (k2 : Int32), (-1 ≤ k2.toInt ∧ k2.toInt ≤ 7) → (0 ≤ k1.toInt) → (8 - k1.toInt).toNat < n5 → ∀ (H : Heap) (locs : List Loc), va_P D vwCl [O0 a0 r0 v0_count v0_ran v0_actor] H → va_D A [O0 a0 r0 v0_count v0_ran v0_actor] → va_S A s.heap H locs → ∀ ls : Array Slot, lv_has ls 5 [(4, .int k1), (3, .int k2), (0, .ref a0), (1, .int p1), (2, .int p2)] → W p l e ({ frames := 0, cells := 0, slots := 0, locals := 0 } : Room) s m args below meth c H locs 0 0 Q (F0 m 5 ls []) := by
    intro n5
    induction n5 with
    | zero =>
      intro k1 k2 h3 h4 m5
      exact absurd m5 (Nat.not_lt_zero _)
    | succ n5 ih5 =>
      intro k1 k2 h3 h4 m5 H locs hP hD hS ls hl
      refine lv_iload hx hb dX0_isUnder_5 (lv_at hl 0 rfl) ?_
      refine lv_bipush (v := 8) hx hb dX0_isUnder_7 (by decide) ?_
      refine lv_icmp_ge (tgt := 35) hx hb dX0_isUnder_9 (by decide) (fun c6 => ?_) (fun c6 => ?_)
      · have c6 := ci_le c6
        refine lv_iconst (v := 0) hx hb dX0_isUnder_35 (by decide) ?_
        have hpo : (0 : Int32).toInt = 0 ∨ (0 : Int32).toInt = 1 := (by omega)
        exact ret _ _ _ _ 0 () dX0_isUnder_36 (by omega) hpo hP hD hS
      have c6 := ci_nle c6
      refine lv_iload_n hx hb dX0_isUnder_12 rfl (lv_at hl 1 rfl) ?_
      refine lv_if_lt (tgt := 35) hx hb dX0_isUnder_13 (by decide) (fun c7 => ?_) (fun c7 => ?_)
      · have c7 := ci_lt c7
        refine lv_iconst (v := 0) hx hb dX0_isUnder_35 (by decide) ?_
        have hpo : (0 : Int32).toInt = 0 ∨ (0 : Int32).toInt = 1 := (by omega)
        exact ret _ _ _ _ 0 () dX0_isUnder_36 (by omega) hpo hP hD hS
      have c7 := ci_nlt c7
      refine lv_iload_n hx hb dX0_isUnder_16 rfl (lv_at hl 1 rfl) ?_
      refine lv_iload_n hx hb dX0_isUnder_17 rfl (lv_at hl 4 rfl) ?_
      refine lv_icmp_ne (tgt := 23) hx hb dX0_isUnder_18 (by decide) (fun c8 => ?_) (fun c8 => ?_)
      · have c8 := ci_ne c8
        refine va_gets hx hb z1 hS hown w0 (fun _ h9 => h9) dX0_isUnder_23 ?_
        refine lv_iload_n hx hb dX0_isUnder_26 rfl (lv_at hl 1 rfl) ?_
        refine va_ti hx hb y1 hS (i := k2) (ix (by omega) (by omega)) rfl dX0_isUnder_27 ?_
        refine lv_topi (fun x9 e10 => ?_)
        have h11 := tb_above k2.toNatClampNeg; rw [← e10] at h11
        refine lv_istore_n (lv' := [(3, .int x9), (4, .int k1), (0, .ref a0), (1, .int p1), (2, .int p2)]) hx hb dX0_isUnder_28 rfl hl (by decide) rfl (fun ls hl => ?_)
        obtain ⟨x12, e13⟩ : ∃ y : Int32, y = k1 + 1 := ⟨_, rfl⟩
        refine lv_iinc (v := x12) (lv' := [(4, .int x12), (3, .int x9), (0, .ref a0), (1, .int p1), (2, .int p2)]) hx hb dX0_isUnder_29 hl (k := 1) rfl (by rw [e13]; rfl) (by decide) rfl (fun ls hl => ?_)
        try have h14 : x12.toInt = k1.toInt + (1 : Int32).toInt := ci_add e13 (by omega) (by omega)
        refine lv_goto (tgt := 5) hx hb dX0_isUnder_32 (by decide) ?_
        exact ih5 x12 x9 (by omega) (by omega) (by omega) _ _ hP hD hS _ hl
      have c8 := ci_eq c8
      refine lv_iconst (v := 1) hx hb dX0_isUnder_21 (by decide) ?_
      have hpo : (1 : Int32).toInt = 0 ∨ (1 : Int32).toInt = 1 := (by omega)
      exact ret _ _ _ _ 1 () dX0_isUnder_22 (by omega) hpo hP hD hS
  exact lp5 ((8 - (0 : Int32).toInt).toNat + 1) 0 p1 (by omega) (by omega) (by omega) _ _ hP hD hS _ hl
def C_X0_from (l : Launch) (D : va_G) (κ : Nat → ClassId) (β d : Nat) : Prop := ∀ (a0 : Nat) (r0 : Nat → Nat) (v0_count : Int32) (v0_ran : Int32) (v0_actor : Int32) (f0_kinds : Nat → Int32) (f0_trace : Nat → Int32) (sz : Nat) (p1 : Int32) (p2 : Int32) (p3 : Int32) (p4 : Int32) (i1 : Rg 0 50 v0_count) (i2 : Rg 0 100000000 v0_ran) (i3 : Rg 0 49 v0_actor) (hf0_kinds : ∀ j : Nat, 0 ≤ (f0_kinds j).toInt ∧ (f0_kinds j).toInt ≤ 7) (i4 : -1 ≤ p1.toInt ∧ p1.toInt ≤ 7) (i5 : 0 ≤ p2.toInt ∧ p2.toInt ≤ 3) (i6 : 0 ≤ p4.toInt) (i7 : 25 - p4.toInt ≤ d) (i8 : v0_ran.toInt + bb d ≤ 100000000), Met l yX0_from wsX0_from ({ frames := 3 * d, cells := 0, slots := 0, locals := 73 * d } : Room) (PcK D κ β [O0 a0 r0 v0_count v0_ran v0_actor, (cI κ (r0 0) 50 f0_kinds), (cI κ (r0 2) 24 f0_trace)] sz [.ref a0, .int p1, .int p2, .int p3, .int p4]) (QiK D (fun (r : Int32) (u : Int32 × (Nat → Int32)) => (0 ≤ u.1.toInt ∧ u.1.toInt ≤ 100000000) ∧ (v0_ran.toInt ≤ u.1.toInt ∧ u.1.toInt ≤ v0_ran.toInt + bb d) ∧ (r = FR v0_actor (f0_kinds v0_actor.toNatClampNeg).toInt (25 - p4.toInt).toNat p2.toInt p1.toInt p3) ∧ (u.2 = wrL f0_trace v0_ran.toInt (TR (f0_kinds v0_actor.toNatClampNeg).toInt (25 - p4.toInt).toNat p2.toInt p1.toInt)) ∧ (u.1.toInt = v0_ran.toInt + (((TR (f0_kinds v0_actor.toNatClampNeg).toInt (25 - p4.toInt).toNat p2.toInt p1.toInt).length : Nat) : Int))) (fun (u : Int32 × (Nat → Int32)) => [O0 a0 r0 v0_count u.1 v0_actor, (cI κ (r0 0) 50 f0_kinds), (cI κ (r0 2) 24 u.2)]) [O0 a0 r0 v0_count v0_ran v0_actor, (cI κ (r0 0) 50 f0_kinds), (cI κ (r0 2) 24 f0_trace)] sz) 0 0 (va_A [O0 a0 r0 v0_count v0_ran v0_actor, (cI κ (r0 0) 50 f0_kinds), (cI κ (r0 2) 24 f0_trace)] sz)
def C_X0_own (l : Launch) (D : va_G) (κ : Nat → ClassId) (β d : Nat) : Prop := ∀ (a0 : Nat) (r0 : Nat → Nat) (v0_count : Int32) (v0_ran : Int32) (v0_actor : Int32) (f0_kinds : Nat → Int32) (f0_trace : Nat → Int32) (sz : Nat) (p1 : Int32) (p2 : Int32) (p3 : Int32) (i1 : Rg 0 50 v0_count) (i2 : Rg 0 100000000 v0_ran) (i3 : Rg 0 49 v0_actor) (hf0_kinds : ∀ j : Nat, 0 ≤ (f0_kinds j).toInt ∧ (f0_kinds j).toInt ≤ 7) (i4 : 0 ≤ p1.toInt ∧ p1.toInt ≤ 3) (i5 : 0 ≤ p3.toInt) (i6 : 25 - p3.toInt ≤ d) (i7 : v0_ran.toInt + bb d ≤ 100000000), Met l yX0_own wsX0_own ({ frames := 3 * d + 1, cells := 0, slots := 0, locals := 73 * d + 26 } : Room) (PcK D κ β [O0 a0 r0 v0_count v0_ran v0_actor, (cI κ (r0 0) 50 f0_kinds), (cI κ (r0 2) 24 f0_trace)] sz [.ref a0, .int p1, .int p2, .int p3]) (QiK D (fun (r : Int32) (u : Int32 × (Nat → Int32)) => (0 ≤ u.1.toInt ∧ u.1.toInt ≤ 100000000) ∧ (v0_ran.toInt ≤ u.1.toInt ∧ u.1.toInt ≤ v0_ran.toInt + bb d) ∧ (r = FR v0_actor (f0_kinds v0_actor.toNatClampNeg).toInt (25 - p3.toInt).toNat p1.toInt (f0_kinds v0_actor.toNatClampNeg).toInt p2) ∧ (u.2 = wrL f0_trace v0_ran.toInt (TR (f0_kinds v0_actor.toNatClampNeg).toInt (25 - p3.toInt).toNat p1.toInt (f0_kinds v0_actor.toNatClampNeg).toInt)) ∧ (u.1.toInt = v0_ran.toInt + (((TR (f0_kinds v0_actor.toNatClampNeg).toInt (25 - p3.toInt).toNat p1.toInt (f0_kinds v0_actor.toNatClampNeg).toInt).length : Nat) : Int))) (fun (u : Int32 × (Nat → Int32)) => [O0 a0 r0 v0_count u.1 v0_actor, (cI κ (r0 0) 50 f0_kinds), (cI κ (r0 2) 24 u.2)]) [O0 a0 r0 v0_count v0_ran v0_actor, (cI κ (r0 0) 50 f0_kinds), (cI κ (r0 2) 24 f0_trace)] sz) 0 0 (va_A [O0 a0 r0 v0_count v0_ran v0_actor, (cI κ (r0 0) 50 f0_kinds), (cI κ (r0 2) 24 f0_trace)] sz)
def C_X0_run (l : Launch) (D : va_G) (κ : Nat → ClassId) (β d : Nat) : Prop := ∀ (a0 : Nat) (r0 : Nat → Nat) (v0_count : Int32) (v0_ran : Int32) (v0_actor : Int32) (f0_kinds : Nat → Int32) (f0_trace : Nat → Int32) (sz : Nat) (p1 : Int32) (p2 : Int32) (p3 : Int32) (p4 : Int32) (i1 : Rg 0 50 v0_count) (i2 : Rg 0 100000000 v0_ran) (i3 : Rg 0 49 v0_actor) (hf0_kinds : ∀ j : Nat, 0 ≤ (f0_kinds j).toInt ∧ (f0_kinds j).toInt ≤ 7) (i4 : -1 ≤ p2.toInt ∧ p2.toInt ≤ 7) (i5 : 0 ≤ p4.toInt) (i6 : 25 - p4.toInt ≤ d) (i7 : v0_ran.toInt + 2 * bb d ≤ 100000000), Met l yX0_run wsX0_run ({ frames := 3 * d + 2, cells := 0, slots := 0, locals := 73 * d + 49 } : Room) (PcK D κ β [O0 a0 r0 v0_count v0_ran v0_actor, (cI κ (r0 0) 50 f0_kinds), (cI κ (r0 2) 24 f0_trace)] sz [.ref a0, .int p1, .int p2, .int p3, .int p4]) (QiK D (fun (r : Int32) (u : Int32 × (Nat → Int32)) => (0 ≤ u.1.toInt ∧ u.1.toInt ≤ 100000000) ∧ (v0_ran.toInt ≤ u.1.toInt ∧ u.1.toInt ≤ v0_ran.toInt + 2 * bb d) ∧ (r = runF (FR v0_actor (f0_kinds v0_actor.toNatClampNeg).toInt (25 - p4.toInt).toNat) v0_actor (f0_kinds v0_actor.toNatClampNeg).toInt p1.toInt p2.toInt p3) ∧ (u.2 = wrL f0_trace v0_ran.toInt (runT (TR (f0_kinds v0_actor.toNatClampNeg).toInt (25 - p4.toInt).toNat) (f0_kinds v0_actor.toNatClampNeg).toInt p1.toInt p2.toInt)) ∧ (u.1.toInt = v0_ran.toInt + (((runT (TR (f0_kinds v0_actor.toNatClampNeg).toInt (25 - p4.toInt).toNat) (f0_kinds v0_actor.toNatClampNeg).toInt p1.toInt p2.toInt).length : Nat) : Int))) (fun (u : Int32 × (Nat → Int32)) => [O0 a0 r0 v0_count u.1 v0_actor, (cI κ (r0 0) 50 f0_kinds), (cI κ (r0 2) 24 u.2)]) [O0 a0 r0 v0_count v0_ran v0_actor, (cI κ (r0 0) 50 f0_kinds), (cI κ (r0 2) 24 f0_trace)] sz) 0 0 (va_A [O0 a0 r0 v0_count v0_ran v0_actor, (cI κ (r0 0) 50 f0_kinds), (cI κ (r0 2) 24 f0_trace)] sz)
set_option maxHeartbeats 4000000 in
set_option maxRecDepth 100000 in
theorem of_X0_own (l : Launch) (D : va_G) (κ : Nat → ClassId) (β d : Nat) (hfrom : C_X0_from l D κ β d) : C_X0_own l D κ β d := by
  intro a0 r0 v0_count v0_ran v0_actor f0_kinds f0_trace sz p1 p2 p3 i1 i2 i3 hf0_kinds i4 i5 i6 i7
  refine ofK_i (cc := cX0_own) (maxL := 4) (own := RX0) (by decide) rfl rfl (Nat.le_of_ble_eq_true rfl) ?_
  intro p e s m args below meth c Q A ls hsz hx hb hml hts hown hK hA hAB hP hD hl ret
  have hS : va_S A s.heap s.heap [] := va_S.rf
  have hl : lv_has ls 4 [(0, .ref a0), (1, .int p1), (2, .int p2), (3, .int p3)] := hl
  have w0 := hts (.fieldLink RX0 9 "OlderSkin$Bodies" "kinds" "[I") (List.mem_of_getElem? (i := 1) rfl)
  have w1 := (fun w h => List.mem_cons_of_mem _ (List.mem_append_right _ h) : ∀ w ∈ u_ws RX0 TX0 5, w ∈ wsX0_own)
  have w2 := hts (.fieldLink RX0 42 "OlderSkin$Bodies" "actor" "I") (List.mem_of_getElem? (i := 2) rfl)
  have i2 : 0 ≤ v0_ran.toInt ∧ v0_ran.toInt ≤ 100000000 := i2
  have i3 : 0 ≤ v0_actor.toInt ∧ v0_actor.toInt ≤ 49 := i3
  have hb1 := bb_succ d
  have hb0 := bb_nn d
  refine lv_aload_n hx hb dX0_own_0 rfl (lv_at hl 0 rfl) ?_
  refine lv_aload_n hx hb dX0_own_1 rfl (lv_at hl 0 rfl) ?_
  refine va_get (D := D) (ci := 0) (v := .ref (r0 0)) (C := RX0) (T := TX0) (N := 5) hx hb hts w1 hown hK.1 hP 0 rfl rfl 0 (by decide) w0 (fun _ h9 => h9) rfl dX0_own_2 ?_
  refine lv_aload_n hx hb dX0_own_5 rfl (lv_at hl 0 rfl) ?_
  refine va_get (D := D) (ci := 0) (v := .int v0_actor) (C := RX0) (T := TX0) (N := 5) hx hb hts w1 hown hK.1 hP 0 rfl rfl 4 (by decide) w2 (fun _ h9 => h9) rfl dX0_own_6 ?_
  refine va_iald hx hb hK.1 hP 1 1 rfl rfl (i := v0_actor) (ix (by omega) (by omega)) dX0_own_9 ?_
  refine lv_topi (fun x1 e2 => ?_)
  have h3 : 0 ≤ x1.toInt ∧ x1.toInt ≤ 7 := by rw [e2]; exact hf0_kinds _
  have hk9 : x1.toInt = (f0_kinds v0_actor.toNatClampNeg).toInt := congrArg Int32.toInt e2
  refine lv_iload_n hx hb dX0_own_10 rfl (lv_at hl 1 rfl) ?_
  refine lv_iload_n hx hb dX0_own_11 rfl (lv_at hl 2 rfl) ?_
  refine lv_iload_n hx hb dX0_own_12 rfl (lv_at hl 3 rfl) ?_
  refine kcm_i hA hAB hP hD hS [true, true, true] rfl (fun _ => rfl) (fun hPc hDc => va_runV (As := [.int x1, .int p1, .int p2, .int p3]) (rest := []) ⟨hx, hb, hml, hown, hts⟩ (hfrom a0 r0 v0_count v0_ran v0_actor f0_kinds f0_trace s.heap.size x1 p1 p2 p3 i1 i2 i3 hf0_kinds (by omega) (by omega) (by omega) (by omega) (by omega)) (cwV 4 hts gX0_own_X0_from rfl rfl rfl (by decide +kernel) ⟨by dsimp only; omega, by dsimp only; omega⟩) (pk_V hK hS hAB hPc hDc 0 (ci := 0) rfl rfl rfl) rfl rfl hl.1 rfl (lv_room (Nat.le_of_ble_eq_true rfl)) dX0_own_13 ⟨Nat.le_of_ble_eq_true rfl, Nat.le_of_ble_eq_true rfl⟩) (fun x6 u7 H locs hw hPD hS => ?_)
  obtain ⟨x4, g5⟩ := u7
  obtain ⟨h8, h9, h10, h11, h12⟩ : (0 ≤ x4.toInt ∧ x4.toInt ≤ 100000000) ∧ (v0_ran.toInt ≤ x4.toInt ∧ x4.toInt ≤ v0_ran.toInt + bb d) ∧ (x6 = FR v0_actor (f0_kinds v0_actor.toNatClampNeg).toInt (25 - p3.toInt).toNat p1.toInt x1.toInt p2) ∧ (g5 = wrL f0_trace v0_ran.toInt (TR (f0_kinds v0_actor.toNatClampNeg).toInt (25 - p3.toInt).toNat p1.toInt x1.toInt)) ∧ (x4.toInt = v0_ran.toInt + (((TR (f0_kinds v0_actor.toNatClampNeg).toInt (25 - p3.toInt).toNat p1.toInt x1.toInt).length : Nat) : Int)) := hw
  obtain ⟨hP, hD⟩ : PD D A [O0 a0 r0 v0_count x4 v0_actor, (cI κ (r0 0) 50 f0_kinds), (cI κ (r0 2) 24 g5)] H := hPD
  have hpo : (0 ≤ x4.toInt ∧ x4.toInt ≤ 100000000) ∧ (v0_ran.toInt ≤ x4.toInt ∧ x4.toInt ≤ v0_ran.toInt + bb d) ∧ (x6 = FR v0_actor (f0_kinds v0_actor.toNatClampNeg).toInt (25 - p3.toInt).toNat p1.toInt (f0_kinds v0_actor.toNatClampNeg).toInt p2) ∧ (g5 = wrL f0_trace v0_ran.toInt (TR (f0_kinds v0_actor.toNatClampNeg).toInt (25 - p3.toInt).toNat p1.toInt (f0_kinds v0_actor.toNatClampNeg).toInt)) ∧ (x4.toInt = v0_ran.toInt + (((TR (f0_kinds v0_actor.toNatClampNeg).toInt (25 - p3.toInt).toNat p1.toInt (f0_kinds v0_actor.toNatClampNeg).toInt).length : Nat) : Int)) := ⟨h8, (by omega), (by rw [FR_cong hk9]; assumption), (by rw [TR_cong hk9]; assumption), (by rw [TR_cong hk9]; assumption)⟩
  exact ret _ _ _ _ x6 (x4, g5) dX0_own_16 hpo hP hD hS
set_option maxHeartbeats 4000000 in
set_option maxRecDepth 100000 in
theorem of_X0_run (l : Launch) (D : va_G) (κ : Nat → ClassId) (β d : Nat) (hfrom : C_X0_from l D κ β d) (hown2 : C_X0_own l D κ β d) : C_X0_run l D κ β d := by
  intro a0 r0 v0_count v0_ran v0_actor f0_kinds f0_trace sz p1 p2 p3 p4 i1 i2 i3 hf0_kinds i4 i5 i6 i7
  refine ofK_i (cc := cX0_run) (maxL := 5) (own := RX0) (by decide) rfl rfl (Nat.le_of_ble_eq_true rfl) ?_
  intro p e s m args below meth c Q A ls hsz hx hb hml hts hown hK hA hAB hP hD hl ret
  have hS : va_S A s.heap s.heap [] := va_S.rf
  have hl : lv_has ls 5 [(0, .ref a0), (1, .int p1), (2, .int p2), (3, .int p3), (4, .int p4)] := hl
  have w0 := hts (.fieldLink RX0 42 "OlderSkin$Bodies" "actor" "I") (List.mem_of_getElem? (i := 1) rfl)
  have w1 := (fun w h => List.mem_cons_of_mem _ (List.mem_append_right _ h) : ∀ w ∈ u_ws RX0 TX0 5, w ∈ wsX0_run)
  have l0 : (1 : Int32).toInt = 1 := by decide
  have l1 : (2 : Int32).toInt = 2 := by decide
  have l2 : (0 : Int32).toInt = 0 := by decide
  have l3 : (3 : Int32).toInt = 3 := by decide
  have l4 : (5 : Int32).toInt = 5 := by decide
  have i2 : 0 ≤ v0_ran.toInt ∧ v0_ran.toInt ≤ 100000000 := i2
  have i3 : 0 ≤ v0_actor.toInt ∧ v0_actor.toInt ≤ 49 := i3
  have hb1 := bb_succ d
  have hb0 := bb_nn d
  refine lv_iload_n hx hb dX0_run_0 rfl (lv_at hl 1 rfl) ?_
  by_cases c1 : p1.toInt = 1
  · refine lv_lookup (off := 115) (tgt := 116) hx hb dX0_run_1 (by decide) (by rw [c1]; decide) (by decide) ?_
    refine lv_iload_n hx hb dX0_run_116 rfl (lv_at hl 3 rfl) ?_
    refine lv_aload_n hx hb dX0_run_117 rfl (lv_at hl 0 rfl) ?_
    refine va_get (D := D) (ci := 0) (v := .int v0_actor) (C := RX0) (T := TX0) (N := 5) hx hb hts w1 hown hK.1 hP 0 rfl rfl 4 (by decide) w0 (fun _ h9 => h9) rfl dX0_run_118 ?_
    refine lv_iadd hx hb dX0_run_121 ?_
    refine lv_topi (fun x2 e3 => ?_)
    try have h4 : x2.toInt = p3.toInt + v0_actor.toInt := ci_add e3 (by omega) (by omega)
    have hpo : (0 ≤ v0_ran.toInt ∧ v0_ran.toInt ≤ 100000000) ∧ (v0_ran.toInt ≤ v0_ran.toInt ∧ v0_ran.toInt ≤ v0_ran.toInt + 2 * bb d) ∧ (x2 = runF (FR v0_actor (f0_kinds v0_actor.toNatClampNeg).toInt (25 - p4.toInt).toNat) v0_actor (f0_kinds v0_actor.toNatClampNeg).toInt p1.toInt p2.toInt p3) ∧ (f0_trace = wrL f0_trace v0_ran.toInt (runT (TR (f0_kinds v0_actor.toNatClampNeg).toInt (25 - p4.toInt).toNat) (f0_kinds v0_actor.toNatClampNeg).toInt p1.toInt p2.toInt)) ∧ (v0_ran.toInt = v0_ran.toInt + (((runT (TR (f0_kinds v0_actor.toNatClampNeg).toInt (25 - p4.toInt).toNat) (f0_kinds v0_actor.toNatClampNeg).toInt p1.toInt p2.toInt).length : Nat) : Int)) := ⟨i2, (by omega), (by rw [runF_1 (by omega), e3]), (by rw [runT_1 (by omega)]; rfl), (by rw [runT_1 (by omega)]; show _ = _ + ((0 : Nat) : Int); omega)⟩
    exact ret _ _ _ _ x2 (v0_ran, f0_trace) dX0_run_122 hpo hP hD hS
  by_cases c5 : p1.toInt = 2
  · refine lv_lookup (off := 122) (tgt := 123) hx hb dX0_run_1 (by decide) (by rw [c5]; decide) (by decide) ?_
    refine lv_aload_n hx hb dX0_run_123 rfl (lv_at hl 0 rfl) ?_
    refine lv_iconst (v := 1) hx hb dX0_run_124 (by decide) ?_
    refine lv_iload_n hx hb dX0_run_125 rfl (lv_at hl 3 rfl) ?_
    refine lv_iload hx hb dX0_run_126 (lv_at hl 4 rfl) ?_
    refine kcm_i hA hAB hP hD hS [true, true, true] rfl (fun _ => rfl) (fun hPc hDc => va_runV (As := [.int 1, .int p3, .int p4]) (rest := []) ⟨hx, hb, hml, hown, hts⟩ (hown2 a0 r0 v0_count v0_ran v0_actor f0_kinds f0_trace s.heap.size 1 p3 p4 i1 i2 i3 hf0_kinds (by omega) (by omega) (by omega) (by omega)) (cwV 3 hts gX0_run_X0_own rfl rfl rfl (by decide +kernel) ⟨by dsimp only; omega, by dsimp only; omega⟩) (pk_V hK hS hAB hPc hDc 0 (ci := 0) rfl rfl rfl) rfl rfl hl.1 rfl (lv_room (Nat.le_of_ble_eq_true rfl)) dX0_run_128 ⟨Nat.le_of_ble_eq_true rfl, Nat.le_of_ble_eq_true rfl⟩) (fun x8 u9 H locs hw hPD hS => ?_)
    obtain ⟨x6, g7⟩ := u9
    obtain ⟨h10, h11, h12, h13, h14⟩ : (0 ≤ x6.toInt ∧ x6.toInt ≤ 100000000) ∧ (v0_ran.toInt ≤ x6.toInt ∧ x6.toInt ≤ v0_ran.toInt + bb d) ∧ (x8 = FR v0_actor (f0_kinds v0_actor.toNatClampNeg).toInt (25 - p4.toInt).toNat (1 : Int32).toInt (f0_kinds v0_actor.toNatClampNeg).toInt p3) ∧ (g7 = wrL f0_trace v0_ran.toInt (TR (f0_kinds v0_actor.toNatClampNeg).toInt (25 - p4.toInt).toNat (1 : Int32).toInt (f0_kinds v0_actor.toNatClampNeg).toInt)) ∧ (x6.toInt = v0_ran.toInt + (((TR (f0_kinds v0_actor.toNatClampNeg).toInt (25 - p4.toInt).toNat (1 : Int32).toInt (f0_kinds v0_actor.toNatClampNeg).toInt).length : Nat) : Int)) := hw
    obtain ⟨hP, hD⟩ : PD D A [O0 a0 r0 v0_count x6 v0_actor, (cI κ (r0 0) 50 f0_kinds), (cI κ (r0 2) 24 g7)] H := hPD
    have hq1 : x8 = FR v0_actor (f0_kinds v0_actor.toNatClampNeg).toInt (25 - p4.toInt).toNat (1 : Int32).toInt (f0_kinds v0_actor.toNatClampNeg).toInt p3 := by assumption
    have ht1 : g7 = wrL f0_trace v0_ran.toInt (TR (f0_kinds v0_actor.toNatClampNeg).toInt (25 - p4.toInt).toNat (1 : Int32).toInt (f0_kinds v0_actor.toNatClampNeg).toInt) := by assumption
    have hl1 : x6.toInt = v0_ran.toInt + (((TR (f0_kinds v0_actor.toNatClampNeg).toInt (25 - p4.toInt).toNat (1 : Int32).toInt (f0_kinds v0_actor.toNatClampNeg).toInt).length : Nat) : Int) := by assumption
    refine lv_aload_n hx hb dX0_run_131 rfl (lv_at hl 0 rfl) ?_
    refine lv_iconst (v := 2) hx hb dX0_run_132 (by decide) ?_
    refine lv_iconst (v := 1) hx hb dX0_run_133 (by decide) ?_
    refine lv_iload hx hb dX0_run_134 (lv_at hl 4 rfl) ?_
    refine kcm_i hA hAB hP hD hS [true, true, true] rfl (fun _ => rfl) (fun hPc hDc => va_runV (As := [.int 2, .int 1, .int p4]) (rest := [.int x8]) ⟨hx, hb, hml, hown, hts⟩ (hown2 a0 r0 v0_count x6 v0_actor f0_kinds g7 H.size 2 1 p4 i1 h10 i3 hf0_kinds (by omega) (by omega) (by omega) (by omega)) (cwV 3 hts gX0_run_X0_own rfl rfl rfl (by decide +kernel) ⟨by dsimp only; omega, by dsimp only; omega⟩) (pk_V hK hS hAB hPc hDc 0 (ci := 0) rfl rfl rfl) rfl rfl hl.1 rfl (lv_room (Nat.le_of_ble_eq_true rfl)) dX0_run_136 ⟨Nat.le_of_ble_eq_true rfl, Nat.le_of_ble_eq_true rfl⟩) (fun x17 u18 H locs hw hPD hS => ?_)
    obtain ⟨x15, g16⟩ := u18
    obtain ⟨h19, h20, h21, h22, h23⟩ : (0 ≤ x15.toInt ∧ x15.toInt ≤ 100000000) ∧ (x6.toInt ≤ x15.toInt ∧ x15.toInt ≤ x6.toInt + bb d) ∧ (x17 = FR v0_actor (f0_kinds v0_actor.toNatClampNeg).toInt (25 - p4.toInt).toNat (2 : Int32).toInt (f0_kinds v0_actor.toNatClampNeg).toInt (1 : Int32)) ∧ (g16 = wrL g7 x6.toInt (TR (f0_kinds v0_actor.toNatClampNeg).toInt (25 - p4.toInt).toNat (2 : Int32).toInt (f0_kinds v0_actor.toNatClampNeg).toInt)) ∧ (x15.toInt = x6.toInt + (((TR (f0_kinds v0_actor.toNatClampNeg).toInt (25 - p4.toInt).toNat (2 : Int32).toInt (f0_kinds v0_actor.toNatClampNeg).toInt).length : Nat) : Int)) := hw
    obtain ⟨hP, hD⟩ : PD D A [O0 a0 r0 v0_count x15 v0_actor, (cI κ (r0 0) 50 f0_kinds), (cI κ (r0 2) 24 g16)] H := hPD
    have hq2 : x17 = FR v0_actor (f0_kinds v0_actor.toNatClampNeg).toInt (25 - p4.toInt).toNat (2 : Int32).toInt (f0_kinds v0_actor.toNatClampNeg).toInt (1 : Int32) := by assumption
    refine lv_isub hx hb dX0_run_139 ?_
    refine lv_topi (fun x24 e25 => ?_)
    try have h26 : x24.toInt = x8.toInt - x17.toInt := ci_sub e25 (by omega) (by omega)
    have hpo : (0 ≤ x15.toInt ∧ x15.toInt ≤ 100000000) ∧ (v0_ran.toInt ≤ x15.toInt ∧ x15.toInt ≤ v0_ran.toInt + 2 * bb d) ∧ (x24 = runF (FR v0_actor (f0_kinds v0_actor.toNatClampNeg).toInt (25 - p4.toInt).toNat) v0_actor (f0_kinds v0_actor.toNatClampNeg).toInt p1.toInt p2.toInt p3) ∧ (g16 = wrL f0_trace v0_ran.toInt (runT (TR (f0_kinds v0_actor.toNatClampNeg).toInt (25 - p4.toInt).toNat) (f0_kinds v0_actor.toNatClampNeg).toInt p1.toInt p2.toInt)) ∧ (x15.toInt = v0_ran.toInt + (((runT (TR (f0_kinds v0_actor.toNatClampNeg).toInt (25 - p4.toInt).toNat) (f0_kinds v0_actor.toNatClampNeg).toInt p1.toInt p2.toInt).length : Nat) : Int)) := ⟨h19, (by omega), (by rw [runF_2 (by omega), e25, hq1, hq2]), (by rw [runT_2 (by omega), wrL_app, ← ht1, ← hl1]; assumption), (by rw [runT_2 (by omega), List.length_append]; omega)⟩
    exact ret _ _ _ _ x24 (x15, g16) dX0_run_140 hpo hP hD hS
  by_cases c27 : p1.toInt = 10
  · refine lv_lookup (off := 140) (tgt := 141) hx hb dX0_run_1 (by decide) (by rw [c27]; decide) (by decide) ?_
    refine lv_aload_n hx hb dX0_run_141 rfl (lv_at hl 0 rfl) ?_
    refine lv_iconst (v := 0) hx hb dX0_run_142 (by decide) ?_
    refine lv_iload_n hx hb dX0_run_143 rfl (lv_at hl 3 rfl) ?_
    refine lv_iload hx hb dX0_run_144 (lv_at hl 4 rfl) ?_
    refine kcm_i hA hAB hP hD hS [true, true, true] rfl (fun _ => rfl) (fun hPc hDc => va_runV (As := [.int 0, .int p3, .int p4]) (rest := []) ⟨hx, hb, hml, hown, hts⟩ (hown2 a0 r0 v0_count v0_ran v0_actor f0_kinds f0_trace s.heap.size 0 p3 p4 i1 i2 i3 hf0_kinds (by omega) (by omega) (by omega) (by omega)) (cwV 3 hts gX0_run_X0_own rfl rfl rfl (by decide +kernel) ⟨by dsimp only; omega, by dsimp only; omega⟩) (pk_V hK hS hAB hPc hDc 0 (ci := 0) rfl rfl rfl) rfl rfl hl.1 rfl (lv_room (Nat.le_of_ble_eq_true rfl)) dX0_run_146 ⟨Nat.le_of_ble_eq_true rfl, Nat.le_of_ble_eq_true rfl⟩) (fun x30 u31 H locs hw hPD hS => ?_)
    obtain ⟨x28, g29⟩ := u31
    obtain ⟨h32, h33, h34, h35, h36⟩ : (0 ≤ x28.toInt ∧ x28.toInt ≤ 100000000) ∧ (v0_ran.toInt ≤ x28.toInt ∧ x28.toInt ≤ v0_ran.toInt + bb d) ∧ (x30 = FR v0_actor (f0_kinds v0_actor.toNatClampNeg).toInt (25 - p4.toInt).toNat (0 : Int32).toInt (f0_kinds v0_actor.toNatClampNeg).toInt p3) ∧ (g29 = wrL f0_trace v0_ran.toInt (TR (f0_kinds v0_actor.toNatClampNeg).toInt (25 - p4.toInt).toNat (0 : Int32).toInt (f0_kinds v0_actor.toNatClampNeg).toInt)) ∧ (x28.toInt = v0_ran.toInt + (((TR (f0_kinds v0_actor.toNatClampNeg).toInt (25 - p4.toInt).toNat (0 : Int32).toInt (f0_kinds v0_actor.toNatClampNeg).toInt).length : Nat) : Int)) := hw
    obtain ⟨hP, hD⟩ : PD D A [O0 a0 r0 v0_count x28 v0_actor, (cI κ (r0 0) 50 f0_kinds), (cI κ (r0 2) 24 g29)] H := hPD
    have hq1 : x30 = FR v0_actor (f0_kinds v0_actor.toNatClampNeg).toInt (25 - p4.toInt).toNat (0 : Int32).toInt (f0_kinds v0_actor.toNatClampNeg).toInt p3 := by assumption
    refine lv_iconst (v := 2) hx hb dX0_run_149 (by decide) ?_
    refine lv_imul hx hb dX0_run_150 ?_
    refine lv_topi (fun x37 e38 => ?_)
    try have h39 : x37.toInt = 2 * x30.toInt := ci_mulR (n := 2) (by decide) e38 (by omega) (by omega)
    have hpo : (0 ≤ x28.toInt ∧ x28.toInt ≤ 100000000) ∧ (v0_ran.toInt ≤ x28.toInt ∧ x28.toInt ≤ v0_ran.toInt + 2 * bb d) ∧ (x37 = runF (FR v0_actor (f0_kinds v0_actor.toNatClampNeg).toInt (25 - p4.toInt).toNat) v0_actor (f0_kinds v0_actor.toNatClampNeg).toInt p1.toInt p2.toInt p3) ∧ (g29 = wrL f0_trace v0_ran.toInt (runT (TR (f0_kinds v0_actor.toNatClampNeg).toInt (25 - p4.toInt).toNat) (f0_kinds v0_actor.toNatClampNeg).toInt p1.toInt p2.toInt)) ∧ (x28.toInt = v0_ran.toInt + (((runT (TR (f0_kinds v0_actor.toNatClampNeg).toInt (25 - p4.toInt).toNat) (f0_kinds v0_actor.toNatClampNeg).toInt p1.toInt p2.toInt).length : Nat) : Int)) := ⟨h32, (by omega), (by rw [runF_10 (by omega), e38, hq1]), (by rw [runT_10 (by omega)]; assumption), (by rw [runT_10 (by omega)]; assumption)⟩
    exact ret _ _ _ _ x37 (x28, g29) dX0_run_151 hpo hP hD hS
  by_cases c40 : p1.toInt = 11
  · refine lv_lookup (off := 151) (tgt := 152) hx hb dX0_run_1 (by decide) (by rw [c40]; decide) (by decide) ?_
    refine lv_iload_n hx hb dX0_run_152 rfl (lv_at hl 3 rfl) ?_
    refine lv_aload_n hx hb dX0_run_153 rfl (lv_at hl 0 rfl) ?_
    refine va_get (D := D) (ci := 0) (v := .int v0_actor) (C := RX0) (T := TX0) (N := 5) hx hb hts w1 hown hK.1 hP 0 rfl rfl 4 (by decide) w0 (fun _ h9 => h9) rfl dX0_run_154 ?_
    refine lv_ixor hx hb dX0_run_157 ?_
    refine lv_topi (fun x41 e42 => ?_)
    have hpo : (0 ≤ v0_ran.toInt ∧ v0_ran.toInt ≤ 100000000) ∧ (v0_ran.toInt ≤ v0_ran.toInt ∧ v0_ran.toInt ≤ v0_ran.toInt + 2 * bb d) ∧ (x41 = runF (FR v0_actor (f0_kinds v0_actor.toNatClampNeg).toInt (25 - p4.toInt).toNat) v0_actor (f0_kinds v0_actor.toNatClampNeg).toInt p1.toInt p2.toInt p3) ∧ (f0_trace = wrL f0_trace v0_ran.toInt (runT (TR (f0_kinds v0_actor.toNatClampNeg).toInt (25 - p4.toInt).toNat) (f0_kinds v0_actor.toNatClampNeg).toInt p1.toInt p2.toInt)) ∧ (v0_ran.toInt = v0_ran.toInt + (((runT (TR (f0_kinds v0_actor.toNatClampNeg).toInt (25 - p4.toInt).toNat) (f0_kinds v0_actor.toNatClampNeg).toInt p1.toInt p2.toInt).length : Nat) : Int)) := ⟨i2, (by omega), (by rw [runF_11 (by omega), e42]), (by rw [runT_11 (by omega)]; rfl), (by rw [runT_11 (by omega)]; show _ = _ + ((0 : Nat) : Int); omega)⟩
    exact ret _ _ _ _ x41 (v0_ran, f0_trace) dX0_run_158 hpo hP hD hS
  by_cases c43 : p1.toInt = 20
  · refine lv_lookup (off := 158) (tgt := 159) hx hb dX0_run_1 (by decide) (by rw [c43]; decide) (by decide) ?_
    refine lv_aload_n hx hb dX0_run_159 rfl (lv_at hl 0 rfl) ?_
    refine lv_iload_n hx hb dX0_run_160 rfl (lv_at hl 2 rfl) ?_
    refine lv_iconst (v := 0) hx hb dX0_run_161 (by decide) ?_
    refine lv_iload_n hx hb dX0_run_162 rfl (lv_at hl 3 rfl) ?_
    refine lv_iload hx hb dX0_run_163 (lv_at hl 4 rfl) ?_
    refine kcm_i hA hAB hP hD hS [true, true, true] rfl (fun _ => rfl) (fun hPc hDc => va_runV (As := [.int p2, .int 0, .int p3, .int p4]) (rest := []) ⟨hx, hb, hml, hown, hts⟩ (hfrom a0 r0 v0_count v0_ran v0_actor f0_kinds f0_trace s.heap.size p2 0 p3 p4 i1 i2 i3 hf0_kinds (by omega) (by omega) (by omega) (by omega) (by omega)) (cwV 4 hts gX0_run_X0_from rfl rfl rfl (by decide +kernel) ⟨by dsimp only; omega, by dsimp only; omega⟩) (pk_V hK hS hAB hPc hDc 0 (ci := 0) rfl rfl rfl) rfl rfl hl.1 rfl (lv_room (Nat.le_of_ble_eq_true rfl)) dX0_run_165 ⟨Nat.le_of_ble_eq_true rfl, Nat.le_of_ble_eq_true rfl⟩) (fun x46 u47 H locs hw hPD hS => ?_)
    obtain ⟨x44, g45⟩ := u47
    obtain ⟨h48, h49, h50, h51, h52⟩ : (0 ≤ x44.toInt ∧ x44.toInt ≤ 100000000) ∧ (v0_ran.toInt ≤ x44.toInt ∧ x44.toInt ≤ v0_ran.toInt + bb d) ∧ (x46 = FR v0_actor (f0_kinds v0_actor.toNatClampNeg).toInt (25 - p4.toInt).toNat (0 : Int32).toInt p2.toInt p3) ∧ (g45 = wrL f0_trace v0_ran.toInt (TR (f0_kinds v0_actor.toNatClampNeg).toInt (25 - p4.toInt).toNat (0 : Int32).toInt p2.toInt)) ∧ (x44.toInt = v0_ran.toInt + (((TR (f0_kinds v0_actor.toNatClampNeg).toInt (25 - p4.toInt).toNat (0 : Int32).toInt p2.toInt).length : Nat) : Int)) := hw
    obtain ⟨hP, hD⟩ : PD D A [O0 a0 r0 v0_count x44 v0_actor, (cI κ (r0 0) 50 f0_kinds), (cI κ (r0 2) 24 g45)] H := hPD
    have hq1 : x46 = FR v0_actor (f0_kinds v0_actor.toNatClampNeg).toInt (25 - p4.toInt).toNat (0 : Int32).toInt p2.toInt p3 := by assumption
    refine lv_iconst (v := 3) hx hb dX0_run_168 (by decide) ?_
    refine lv_iadd hx hb dX0_run_169 ?_
    refine lv_topi (fun x53 e54 => ?_)
    try have h55 : x53.toInt = x46.toInt + (3 : Int32).toInt := ci_add e54 (by omega) (by omega)
    have hpo : (0 ≤ x44.toInt ∧ x44.toInt ≤ 100000000) ∧ (v0_ran.toInt ≤ x44.toInt ∧ x44.toInt ≤ v0_ran.toInt + 2 * bb d) ∧ (x53 = runF (FR v0_actor (f0_kinds v0_actor.toNatClampNeg).toInt (25 - p4.toInt).toNat) v0_actor (f0_kinds v0_actor.toNatClampNeg).toInt p1.toInt p2.toInt p3) ∧ (g45 = wrL f0_trace v0_ran.toInt (runT (TR (f0_kinds v0_actor.toNatClampNeg).toInt (25 - p4.toInt).toNat) (f0_kinds v0_actor.toNatClampNeg).toInt p1.toInt p2.toInt)) ∧ (x44.toInt = v0_ran.toInt + (((runT (TR (f0_kinds v0_actor.toNatClampNeg).toInt (25 - p4.toInt).toNat) (f0_kinds v0_actor.toNatClampNeg).toInt p1.toInt p2.toInt).length : Nat) : Int)) := ⟨h48, (by omega), (by rw [runF_20 (by omega), e54, hq1]), (by rw [runT_20 (by omega)]; assumption), (by rw [runT_20 (by omega)]; assumption)⟩
    exact ret _ _ _ _ x53 (x44, g45) dX0_run_170 hpo hP hD hS
  by_cases c56 : p1.toInt = 30
  · refine lv_lookup (off := 170) (tgt := 171) hx hb dX0_run_1 (by decide) (by rw [c56]; decide) (by decide) ?_
    refine lv_aload_n hx hb dX0_run_171 rfl (lv_at hl 0 rfl) ?_
    refine lv_iload_n hx hb dX0_run_172 rfl (lv_at hl 2 rfl) ?_
    refine lv_iconst (v := 1) hx hb dX0_run_173 (by decide) ?_
    refine lv_iload_n hx hb dX0_run_174 rfl (lv_at hl 3 rfl) ?_
    refine lv_iload hx hb dX0_run_175 (lv_at hl 4 rfl) ?_
    refine kcm_i hA hAB hP hD hS [true, true, true] rfl (fun _ => rfl) (fun hPc hDc => va_runV (As := [.int p2, .int 1, .int p3, .int p4]) (rest := []) ⟨hx, hb, hml, hown, hts⟩ (hfrom a0 r0 v0_count v0_ran v0_actor f0_kinds f0_trace s.heap.size p2 1 p3 p4 i1 i2 i3 hf0_kinds (by omega) (by omega) (by omega) (by omega) (by omega)) (cwV 4 hts gX0_run_X0_from rfl rfl rfl (by decide +kernel) ⟨by dsimp only; omega, by dsimp only; omega⟩) (pk_V hK hS hAB hPc hDc 0 (ci := 0) rfl rfl rfl) rfl rfl hl.1 rfl (lv_room (Nat.le_of_ble_eq_true rfl)) dX0_run_177 ⟨Nat.le_of_ble_eq_true rfl, Nat.le_of_ble_eq_true rfl⟩) (fun x59 u60 H locs hw hPD hS => ?_)
    obtain ⟨x57, g58⟩ := u60
    obtain ⟨h61, h62, h63, h64, h65⟩ : (0 ≤ x57.toInt ∧ x57.toInt ≤ 100000000) ∧ (v0_ran.toInt ≤ x57.toInt ∧ x57.toInt ≤ v0_ran.toInt + bb d) ∧ (x59 = FR v0_actor (f0_kinds v0_actor.toNatClampNeg).toInt (25 - p4.toInt).toNat (1 : Int32).toInt p2.toInt p3) ∧ (g58 = wrL f0_trace v0_ran.toInt (TR (f0_kinds v0_actor.toNatClampNeg).toInt (25 - p4.toInt).toNat (1 : Int32).toInt p2.toInt)) ∧ (x57.toInt = v0_ran.toInt + (((TR (f0_kinds v0_actor.toNatClampNeg).toInt (25 - p4.toInt).toNat (1 : Int32).toInt p2.toInt).length : Nat) : Int)) := hw
    obtain ⟨hP, hD⟩ : PD D A [O0 a0 r0 v0_count x57 v0_actor, (cI κ (r0 0) 50 f0_kinds), (cI κ (r0 2) 24 g58)] H := hPD
    have hq1 : x59 = FR v0_actor (f0_kinds v0_actor.toNatClampNeg).toInt (25 - p4.toInt).toNat (1 : Int32).toInt p2.toInt p3 := by assumption
    refine lv_ineg hx hb dX0_run_180 ?_
    refine lv_topi (fun x66 e67 => ?_)
    try have h68 : x66.toInt = -x59.toInt := ci_neg e67 (by omega)
    have hpo : (0 ≤ x57.toInt ∧ x57.toInt ≤ 100000000) ∧ (v0_ran.toInt ≤ x57.toInt ∧ x57.toInt ≤ v0_ran.toInt + 2 * bb d) ∧ (x66 = runF (FR v0_actor (f0_kinds v0_actor.toNatClampNeg).toInt (25 - p4.toInt).toNat) v0_actor (f0_kinds v0_actor.toNatClampNeg).toInt p1.toInt p2.toInt p3) ∧ (g58 = wrL f0_trace v0_ran.toInt (runT (TR (f0_kinds v0_actor.toNatClampNeg).toInt (25 - p4.toInt).toNat) (f0_kinds v0_actor.toNatClampNeg).toInt p1.toInt p2.toInt)) ∧ (x57.toInt = v0_ran.toInt + (((runT (TR (f0_kinds v0_actor.toNatClampNeg).toInt (25 - p4.toInt).toNat) (f0_kinds v0_actor.toNatClampNeg).toInt p1.toInt p2.toInt).length : Nat) : Int)) := ⟨h61, (by omega), (by rw [runF_30 (by omega), e67, hq1]), (by rw [runT_30 (by omega)]; assumption), (by rw [runT_30 (by omega)]; assumption)⟩
    exact ret _ _ _ _ x66 (x57, g58) dX0_run_181 hpo hP hD hS
  by_cases c69 : p1.toInt = 40
  · refine lv_lookup (off := 181) (tgt := 182) hx hb dX0_run_1 (by decide) (by rw [c69]; decide) (by decide) ?_
    refine lv_aload_n hx hb dX0_run_182 rfl (lv_at hl 0 rfl) ?_
    refine lv_iload_n hx hb dX0_run_183 rfl (lv_at hl 2 rfl) ?_
    refine lv_iconst (v := 2) hx hb dX0_run_184 (by decide) ?_
    refine lv_iload_n hx hb dX0_run_185 rfl (lv_at hl 3 rfl) ?_
    refine lv_iload hx hb dX0_run_186 (lv_at hl 4 rfl) ?_
    refine kcm_i hA hAB hP hD hS [true, true, true] rfl (fun _ => rfl) (fun hPc hDc => va_runV (As := [.int p2, .int 2, .int p3, .int p4]) (rest := []) ⟨hx, hb, hml, hown, hts⟩ (hfrom a0 r0 v0_count v0_ran v0_actor f0_kinds f0_trace s.heap.size p2 2 p3 p4 i1 i2 i3 hf0_kinds (by omega) (by omega) (by omega) (by omega) (by omega)) (cwV 4 hts gX0_run_X0_from rfl rfl rfl (by decide +kernel) ⟨by dsimp only; omega, by dsimp only; omega⟩) (pk_V hK hS hAB hPc hDc 0 (ci := 0) rfl rfl rfl) rfl rfl hl.1 rfl (lv_room (Nat.le_of_ble_eq_true rfl)) dX0_run_188 ⟨Nat.le_of_ble_eq_true rfl, Nat.le_of_ble_eq_true rfl⟩) (fun x72 u73 H locs hw hPD hS => ?_)
    obtain ⟨x70, g71⟩ := u73
    obtain ⟨h74, h75, h76, h77, h78⟩ : (0 ≤ x70.toInt ∧ x70.toInt ≤ 100000000) ∧ (v0_ran.toInt ≤ x70.toInt ∧ x70.toInt ≤ v0_ran.toInt + bb d) ∧ (x72 = FR v0_actor (f0_kinds v0_actor.toNatClampNeg).toInt (25 - p4.toInt).toNat (2 : Int32).toInt p2.toInt p3) ∧ (g71 = wrL f0_trace v0_ran.toInt (TR (f0_kinds v0_actor.toNatClampNeg).toInt (25 - p4.toInt).toNat (2 : Int32).toInt p2.toInt)) ∧ (x70.toInt = v0_ran.toInt + (((TR (f0_kinds v0_actor.toNatClampNeg).toInt (25 - p4.toInt).toNat (2 : Int32).toInt p2.toInt).length : Nat) : Int)) := hw
    obtain ⟨hP, hD⟩ : PD D A [O0 a0 r0 v0_count x70 v0_actor, (cI κ (r0 0) 50 f0_kinds), (cI κ (r0 2) 24 g71)] H := hPD
    have hq1 : x72 = FR v0_actor (f0_kinds v0_actor.toNatClampNeg).toInt (25 - p4.toInt).toNat (2 : Int32).toInt p2.toInt p3 := by assumption
    refine lv_iconst (v := 3) hx hb dX0_run_191 (by decide) ?_
    refine lv_imul hx hb dX0_run_192 ?_
    refine lv_topi (fun x79 e80 => ?_)
    try have h81 : x79.toInt = 3 * x72.toInt := ci_mulR (n := 3) (by decide) e80 (by omega) (by omega)
    have hpo : (0 ≤ x70.toInt ∧ x70.toInt ≤ 100000000) ∧ (v0_ran.toInt ≤ x70.toInt ∧ x70.toInt ≤ v0_ran.toInt + 2 * bb d) ∧ (x79 = runF (FR v0_actor (f0_kinds v0_actor.toNatClampNeg).toInt (25 - p4.toInt).toNat) v0_actor (f0_kinds v0_actor.toNatClampNeg).toInt p1.toInt p2.toInt p3) ∧ (g71 = wrL f0_trace v0_ran.toInt (runT (TR (f0_kinds v0_actor.toNatClampNeg).toInt (25 - p4.toInt).toNat) (f0_kinds v0_actor.toNatClampNeg).toInt p1.toInt p2.toInt)) ∧ (x70.toInt = v0_ran.toInt + (((runT (TR (f0_kinds v0_actor.toNatClampNeg).toInt (25 - p4.toInt).toNat) (f0_kinds v0_actor.toNatClampNeg).toInt p1.toInt p2.toInt).length : Nat) : Int)) := ⟨h74, (by omega), (by rw [runF_40 (by omega), e80, hq1]), (by rw [runT_40 (by omega)]; assumption), (by rw [runT_40 (by omega)]; assumption)⟩
    exact ret _ _ _ _ x79 (x70, g71) dX0_run_193 hpo hP hD hS
  by_cases c82 : p1.toInt = 50
  · refine lv_lookup (off := 193) (tgt := 194) hx hb dX0_run_1 (by decide) (by rw [c82]; decide) (by decide) ?_
    refine lv_aload_n hx hb dX0_run_194 rfl (lv_at hl 0 rfl) ?_
    refine lv_iload_n hx hb dX0_run_195 rfl (lv_at hl 2 rfl) ?_
    refine lv_iconst (v := 3) hx hb dX0_run_196 (by decide) ?_
    refine lv_iload_n hx hb dX0_run_197 rfl (lv_at hl 3 rfl) ?_
    refine lv_iload hx hb dX0_run_198 (lv_at hl 4 rfl) ?_
    refine kcm_i hA hAB hP hD hS [true, true, true] rfl (fun _ => rfl) (fun hPc hDc => va_runV (As := [.int p2, .int 3, .int p3, .int p4]) (rest := []) ⟨hx, hb, hml, hown, hts⟩ (hfrom a0 r0 v0_count v0_ran v0_actor f0_kinds f0_trace s.heap.size p2 3 p3 p4 i1 i2 i3 hf0_kinds (by omega) (by omega) (by omega) (by omega) (by omega)) (cwV 4 hts gX0_run_X0_from rfl rfl rfl (by decide +kernel) ⟨by dsimp only; omega, by dsimp only; omega⟩) (pk_V hK hS hAB hPc hDc 0 (ci := 0) rfl rfl rfl) rfl rfl hl.1 rfl (lv_room (Nat.le_of_ble_eq_true rfl)) dX0_run_200 ⟨Nat.le_of_ble_eq_true rfl, Nat.le_of_ble_eq_true rfl⟩) (fun x85 u86 H locs hw hPD hS => ?_)
    obtain ⟨x83, g84⟩ := u86
    obtain ⟨h87, h88, h89, h90, h91⟩ : (0 ≤ x83.toInt ∧ x83.toInt ≤ 100000000) ∧ (v0_ran.toInt ≤ x83.toInt ∧ x83.toInt ≤ v0_ran.toInt + bb d) ∧ (x85 = FR v0_actor (f0_kinds v0_actor.toNatClampNeg).toInt (25 - p4.toInt).toNat (3 : Int32).toInt p2.toInt p3) ∧ (g84 = wrL f0_trace v0_ran.toInt (TR (f0_kinds v0_actor.toNatClampNeg).toInt (25 - p4.toInt).toNat (3 : Int32).toInt p2.toInt)) ∧ (x83.toInt = v0_ran.toInt + (((TR (f0_kinds v0_actor.toNatClampNeg).toInt (25 - p4.toInt).toNat (3 : Int32).toInt p2.toInt).length : Nat) : Int)) := hw
    obtain ⟨hP, hD⟩ : PD D A [O0 a0 r0 v0_count x83 v0_actor, (cI κ (r0 0) 50 f0_kinds), (cI κ (r0 2) 24 g84)] H := hPD
    have hq1 : x85 = FR v0_actor (f0_kinds v0_actor.toNatClampNeg).toInt (25 - p4.toInt).toNat (3 : Int32).toInt p2.toInt p3 := by assumption
    refine lv_iconst (v := 5) hx hb dX0_run_203 (by decide) ?_
    refine lv_ixor hx hb dX0_run_204 ?_
    refine lv_topi (fun x92 e93 => ?_)
    have hpo : (0 ≤ x83.toInt ∧ x83.toInt ≤ 100000000) ∧ (v0_ran.toInt ≤ x83.toInt ∧ x83.toInt ≤ v0_ran.toInt + 2 * bb d) ∧ (x92 = runF (FR v0_actor (f0_kinds v0_actor.toNatClampNeg).toInt (25 - p4.toInt).toNat) v0_actor (f0_kinds v0_actor.toNatClampNeg).toInt p1.toInt p2.toInt p3) ∧ (g84 = wrL f0_trace v0_ran.toInt (runT (TR (f0_kinds v0_actor.toNatClampNeg).toInt (25 - p4.toInt).toNat) (f0_kinds v0_actor.toNatClampNeg).toInt p1.toInt p2.toInt)) ∧ (x83.toInt = v0_ran.toInt + (((runT (TR (f0_kinds v0_actor.toNatClampNeg).toInt (25 - p4.toInt).toNat) (f0_kinds v0_actor.toNatClampNeg).toInt p1.toInt p2.toInt).length : Nat) : Int)) := ⟨h87, (by omega), (by rw [runF_50 (by omega), e93, hq1]), (by rw [runT_50 (by omega)]; assumption), (by rw [runT_50 (by omega)]; assumption)⟩
    exact ret _ _ _ _ x92 (x83, g84) dX0_run_205 hpo hP hD hS
  by_cases c94 : p1.toInt = 51
  · refine lv_lookup (off := 205) (tgt := 206) hx hb dX0_run_1 (by decide) (by rw [c94]; decide) (by decide) ?_
    refine lv_aload_n hx hb dX0_run_206 rfl (lv_at hl 0 rfl) ?_
    refine lv_iload_n hx hb dX0_run_207 rfl (lv_at hl 2 rfl) ?_
    refine lv_iconst (v := 1) hx hb dX0_run_208 (by decide) ?_
    refine lv_iload_n hx hb dX0_run_209 rfl (lv_at hl 3 rfl) ?_
    refine lv_iconst (v := 1) hx hb dX0_run_210 (by decide) ?_
    refine lv_iadd hx hb dX0_run_211 ?_
    refine lv_topi (fun x95 e96 => ?_)
    try have h97 : x95.toInt = p3.toInt + (1 : Int32).toInt := ci_add e96 (by omega) (by omega)
    have hx1 : x95 = p3 + 1 := e96
    refine lv_iload hx hb dX0_run_212 (lv_at hl 4 rfl) ?_
    refine kcm_i hA hAB hP hD hS [true, true, true] rfl (fun _ => rfl) (fun hPc hDc => va_runV (As := [.int p2, .int 1, .int x95, .int p4]) (rest := []) ⟨hx, hb, hml, hown, hts⟩ (hfrom a0 r0 v0_count v0_ran v0_actor f0_kinds f0_trace s.heap.size p2 1 x95 p4 i1 i2 i3 hf0_kinds (by omega) (by omega) (by omega) (by omega) (by omega)) (cwV 4 hts gX0_run_X0_from rfl rfl rfl (by decide +kernel) ⟨by dsimp only; omega, by dsimp only; omega⟩) (pk_V hK hS hAB hPc hDc 0 (ci := 0) rfl rfl rfl) rfl rfl hl.1 rfl (lv_room (Nat.le_of_ble_eq_true rfl)) dX0_run_214 ⟨Nat.le_of_ble_eq_true rfl, Nat.le_of_ble_eq_true rfl⟩) (fun x100 u101 H locs hw hPD hS => ?_)
    obtain ⟨x98, g99⟩ := u101
    obtain ⟨h102, h103, h104, h105, h106⟩ : (0 ≤ x98.toInt ∧ x98.toInt ≤ 100000000) ∧ (v0_ran.toInt ≤ x98.toInt ∧ x98.toInt ≤ v0_ran.toInt + bb d) ∧ (x100 = FR v0_actor (f0_kinds v0_actor.toNatClampNeg).toInt (25 - p4.toInt).toNat (1 : Int32).toInt p2.toInt x95) ∧ (g99 = wrL f0_trace v0_ran.toInt (TR (f0_kinds v0_actor.toNatClampNeg).toInt (25 - p4.toInt).toNat (1 : Int32).toInt p2.toInt)) ∧ (x98.toInt = v0_ran.toInt + (((TR (f0_kinds v0_actor.toNatClampNeg).toInt (25 - p4.toInt).toNat (1 : Int32).toInt p2.toInt).length : Nat) : Int)) := hw
    obtain ⟨hP, hD⟩ : PD D A [O0 a0 r0 v0_count x98 v0_actor, (cI κ (r0 0) 50 f0_kinds), (cI κ (r0 2) 24 g99)] H := hPD
    have hq1 : x100 = FR v0_actor (f0_kinds v0_actor.toNatClampNeg).toInt (25 - p4.toInt).toNat (1 : Int32).toInt p2.toInt (p3 + 1) := by rw [← hx1]; assumption
    have hpo : (0 ≤ x98.toInt ∧ x98.toInt ≤ 100000000) ∧ (v0_ran.toInt ≤ x98.toInt ∧ x98.toInt ≤ v0_ran.toInt + 2 * bb d) ∧ (x100 = runF (FR v0_actor (f0_kinds v0_actor.toNatClampNeg).toInt (25 - p4.toInt).toNat) v0_actor (f0_kinds v0_actor.toNatClampNeg).toInt p1.toInt p2.toInt p3) ∧ (g99 = wrL f0_trace v0_ran.toInt (runT (TR (f0_kinds v0_actor.toNatClampNeg).toInt (25 - p4.toInt).toNat) (f0_kinds v0_actor.toNatClampNeg).toInt p1.toInt p2.toInt)) ∧ (x98.toInt = v0_ran.toInt + (((runT (TR (f0_kinds v0_actor.toNatClampNeg).toInt (25 - p4.toInt).toNat) (f0_kinds v0_actor.toNatClampNeg).toInt p1.toInt p2.toInt).length : Nat) : Int)) := ⟨h102, (by omega), (by rw [runF_51 (by omega), hq1]), (by rw [runT_51 (by omega)]; assumption), (by rw [runT_51 (by omega)]; assumption)⟩
    exact ret _ _ _ _ x100 (x98, g99) dX0_run_217 hpo hP hD hS
  by_cases c107 : p1.toInt = 60
  · refine lv_lookup (off := 217) (tgt := 218) hx hb dX0_run_1 (by decide) (by rw [c107]; decide) (by decide) ?_
    refine lv_aload_n hx hb dX0_run_218 rfl (lv_at hl 0 rfl) ?_
    refine lv_iload_n hx hb dX0_run_219 rfl (lv_at hl 2 rfl) ?_
    refine lv_iconst (v := 2) hx hb dX0_run_220 (by decide) ?_
    refine lv_iload_n hx hb dX0_run_221 rfl (lv_at hl 3 rfl) ?_
    refine lv_iload hx hb dX0_run_222 (lv_at hl 4 rfl) ?_
    refine kcm_i hA hAB hP hD hS [true, true, true] rfl (fun _ => rfl) (fun hPc hDc => va_runV (As := [.int p2, .int 2, .int p3, .int p4]) (rest := []) ⟨hx, hb, hml, hown, hts⟩ (hfrom a0 r0 v0_count v0_ran v0_actor f0_kinds f0_trace s.heap.size p2 2 p3 p4 i1 i2 i3 hf0_kinds (by omega) (by omega) (by omega) (by omega) (by omega)) (cwV 4 hts gX0_run_X0_from rfl rfl rfl (by decide +kernel) ⟨by dsimp only; omega, by dsimp only; omega⟩) (pk_V hK hS hAB hPc hDc 0 (ci := 0) rfl rfl rfl) rfl rfl hl.1 rfl (lv_room (Nat.le_of_ble_eq_true rfl)) dX0_run_224 ⟨Nat.le_of_ble_eq_true rfl, Nat.le_of_ble_eq_true rfl⟩) (fun x110 u111 H locs hw hPD hS => ?_)
    obtain ⟨x108, g109⟩ := u111
    obtain ⟨h112, h113, h114, h115, h116⟩ : (0 ≤ x108.toInt ∧ x108.toInt ≤ 100000000) ∧ (v0_ran.toInt ≤ x108.toInt ∧ x108.toInt ≤ v0_ran.toInt + bb d) ∧ (x110 = FR v0_actor (f0_kinds v0_actor.toNatClampNeg).toInt (25 - p4.toInt).toNat (2 : Int32).toInt p2.toInt p3) ∧ (g109 = wrL f0_trace v0_ran.toInt (TR (f0_kinds v0_actor.toNatClampNeg).toInt (25 - p4.toInt).toNat (2 : Int32).toInt p2.toInt)) ∧ (x108.toInt = v0_ran.toInt + (((TR (f0_kinds v0_actor.toNatClampNeg).toInt (25 - p4.toInt).toNat (2 : Int32).toInt p2.toInt).length : Nat) : Int)) := hw
    obtain ⟨hP, hD⟩ : PD D A [O0 a0 r0 v0_count x108 v0_actor, (cI κ (r0 0) 50 f0_kinds), (cI κ (r0 2) 24 g109)] H := hPD
    have hq1 : x110 = FR v0_actor (f0_kinds v0_actor.toNatClampNeg).toInt (25 - p4.toInt).toNat (2 : Int32).toInt p2.toInt p3 := by assumption
    have ht1 : g109 = wrL f0_trace v0_ran.toInt (TR (f0_kinds v0_actor.toNatClampNeg).toInt (25 - p4.toInt).toNat (2 : Int32).toInt p2.toInt) := by assumption
    have hl1 : x108.toInt = v0_ran.toInt + (((TR (f0_kinds v0_actor.toNatClampNeg).toInt (25 - p4.toInt).toNat (2 : Int32).toInt p2.toInt).length : Nat) : Int) := by assumption
    refine lv_aload_n hx hb dX0_run_227 rfl (lv_at hl 0 rfl) ?_
    refine lv_iconst (v := 0) hx hb dX0_run_228 (by decide) ?_
    refine lv_iconst (v := 2) hx hb dX0_run_229 (by decide) ?_
    refine lv_iload hx hb dX0_run_230 (lv_at hl 4 rfl) ?_
    refine kcm_i hA hAB hP hD hS [true, true, true] rfl (fun _ => rfl) (fun hPc hDc => va_runV (As := [.int 0, .int 2, .int p4]) (rest := [.int x110]) ⟨hx, hb, hml, hown, hts⟩ (hown2 a0 r0 v0_count x108 v0_actor f0_kinds g109 H.size 0 2 p4 i1 h112 i3 hf0_kinds (by omega) (by omega) (by omega) (by omega)) (cwV 3 hts gX0_run_X0_own rfl rfl rfl (by decide +kernel) ⟨by dsimp only; omega, by dsimp only; omega⟩) (pk_V hK hS hAB hPc hDc 0 (ci := 0) rfl rfl rfl) rfl rfl hl.1 rfl (lv_room (Nat.le_of_ble_eq_true rfl)) dX0_run_232 ⟨Nat.le_of_ble_eq_true rfl, Nat.le_of_ble_eq_true rfl⟩) (fun x119 u120 H locs hw hPD hS => ?_)
    obtain ⟨x117, g118⟩ := u120
    obtain ⟨h121, h122, h123, h124, h125⟩ : (0 ≤ x117.toInt ∧ x117.toInt ≤ 100000000) ∧ (x108.toInt ≤ x117.toInt ∧ x117.toInt ≤ x108.toInt + bb d) ∧ (x119 = FR v0_actor (f0_kinds v0_actor.toNatClampNeg).toInt (25 - p4.toInt).toNat (0 : Int32).toInt (f0_kinds v0_actor.toNatClampNeg).toInt (2 : Int32)) ∧ (g118 = wrL g109 x108.toInt (TR (f0_kinds v0_actor.toNatClampNeg).toInt (25 - p4.toInt).toNat (0 : Int32).toInt (f0_kinds v0_actor.toNatClampNeg).toInt)) ∧ (x117.toInt = x108.toInt + (((TR (f0_kinds v0_actor.toNatClampNeg).toInt (25 - p4.toInt).toNat (0 : Int32).toInt (f0_kinds v0_actor.toNatClampNeg).toInt).length : Nat) : Int)) := hw
    obtain ⟨hP, hD⟩ : PD D A [O0 a0 r0 v0_count x117 v0_actor, (cI κ (r0 0) 50 f0_kinds), (cI κ (r0 2) 24 g118)] H := hPD
    have hq2 : x119 = FR v0_actor (f0_kinds v0_actor.toNatClampNeg).toInt (25 - p4.toInt).toNat (0 : Int32).toInt (f0_kinds v0_actor.toNatClampNeg).toInt (2 : Int32) := by assumption
    refine lv_isub hx hb dX0_run_235 ?_
    refine lv_topi (fun x126 e127 => ?_)
    try have h128 : x126.toInt = x110.toInt - x119.toInt := ci_sub e127 (by omega) (by omega)
    have hpo : (0 ≤ x117.toInt ∧ x117.toInt ≤ 100000000) ∧ (v0_ran.toInt ≤ x117.toInt ∧ x117.toInt ≤ v0_ran.toInt + 2 * bb d) ∧ (x126 = runF (FR v0_actor (f0_kinds v0_actor.toNatClampNeg).toInt (25 - p4.toInt).toNat) v0_actor (f0_kinds v0_actor.toNatClampNeg).toInt p1.toInt p2.toInt p3) ∧ (g118 = wrL f0_trace v0_ran.toInt (runT (TR (f0_kinds v0_actor.toNatClampNeg).toInt (25 - p4.toInt).toNat) (f0_kinds v0_actor.toNatClampNeg).toInt p1.toInt p2.toInt)) ∧ (x117.toInt = v0_ran.toInt + (((runT (TR (f0_kinds v0_actor.toNatClampNeg).toInt (25 - p4.toInt).toNat) (f0_kinds v0_actor.toNatClampNeg).toInt p1.toInt p2.toInt).length : Nat) : Int)) := ⟨h121, (by omega), (by rw [runF_60 (by omega), e127, hq1, hq2]), (by rw [runT_60 (by omega), wrL_app, ← ht1, ← hl1]; assumption), (by rw [runT_60 (by omega), List.length_append]; omega)⟩
    exact ret _ _ _ _ x126 (x117, g118) dX0_run_236 hpo hP hD hS
  by_cases c129 : p1.toInt = 70
  · refine lv_lookup (off := 236) (tgt := 237) hx hb dX0_run_1 (by decide) (by rw [c129]; decide) (by decide) ?_
    refine lv_aload_n hx hb dX0_run_237 rfl (lv_at hl 0 rfl) ?_
    refine lv_iload_n hx hb dX0_run_238 rfl (lv_at hl 2 rfl) ?_
    refine lv_iconst (v := 0) hx hb dX0_run_239 (by decide) ?_
    refine lv_iload_n hx hb dX0_run_240 rfl (lv_at hl 3 rfl) ?_
    refine lv_iload hx hb dX0_run_241 (lv_at hl 4 rfl) ?_
    refine kcm_i hA hAB hP hD hS [true, true, true] rfl (fun _ => rfl) (fun hPc hDc => va_runV (As := [.int p2, .int 0, .int p3, .int p4]) (rest := []) ⟨hx, hb, hml, hown, hts⟩ (hfrom a0 r0 v0_count v0_ran v0_actor f0_kinds f0_trace s.heap.size p2 0 p3 p4 i1 i2 i3 hf0_kinds (by omega) (by omega) (by omega) (by omega) (by omega)) (cwV 4 hts gX0_run_X0_from rfl rfl rfl (by decide +kernel) ⟨by dsimp only; omega, by dsimp only; omega⟩) (pk_V hK hS hAB hPc hDc 0 (ci := 0) rfl rfl rfl) rfl rfl hl.1 rfl (lv_room (Nat.le_of_ble_eq_true rfl)) dX0_run_243 ⟨Nat.le_of_ble_eq_true rfl, Nat.le_of_ble_eq_true rfl⟩) (fun x132 u133 H locs hw hPD hS => ?_)
    obtain ⟨x130, g131⟩ := u133
    obtain ⟨h134, h135, h136, h137, h138⟩ : (0 ≤ x130.toInt ∧ x130.toInt ≤ 100000000) ∧ (v0_ran.toInt ≤ x130.toInt ∧ x130.toInt ≤ v0_ran.toInt + bb d) ∧ (x132 = FR v0_actor (f0_kinds v0_actor.toNatClampNeg).toInt (25 - p4.toInt).toNat (0 : Int32).toInt p2.toInt p3) ∧ (g131 = wrL f0_trace v0_ran.toInt (TR (f0_kinds v0_actor.toNatClampNeg).toInt (25 - p4.toInt).toNat (0 : Int32).toInt p2.toInt)) ∧ (x130.toInt = v0_ran.toInt + (((TR (f0_kinds v0_actor.toNatClampNeg).toInt (25 - p4.toInt).toNat (0 : Int32).toInt p2.toInt).length : Nat) : Int)) := hw
    obtain ⟨hP, hD⟩ : PD D A [O0 a0 r0 v0_count x130 v0_actor, (cI κ (r0 0) 50 f0_kinds), (cI κ (r0 2) 24 g131)] H := hPD
    have hq1 : x132 = FR v0_actor (f0_kinds v0_actor.toNatClampNeg).toInt (25 - p4.toInt).toNat (0 : Int32).toInt p2.toInt p3 := by assumption
    refine lv_iconst (v := 2) hx hb dX0_run_246 (by decide) ?_
    refine lv_imul hx hb dX0_run_247 ?_
    refine lv_topi (fun x139 e140 => ?_)
    try have h141 : x139.toInt = 2 * x132.toInt := ci_mulR (n := 2) (by decide) e140 (by omega) (by omega)
    have hpo : (0 ≤ x130.toInt ∧ x130.toInt ≤ 100000000) ∧ (v0_ran.toInt ≤ x130.toInt ∧ x130.toInt ≤ v0_ran.toInt + 2 * bb d) ∧ (x139 = runF (FR v0_actor (f0_kinds v0_actor.toNatClampNeg).toInt (25 - p4.toInt).toNat) v0_actor (f0_kinds v0_actor.toNatClampNeg).toInt p1.toInt p2.toInt p3) ∧ (g131 = wrL f0_trace v0_ran.toInt (runT (TR (f0_kinds v0_actor.toNatClampNeg).toInt (25 - p4.toInt).toNat) (f0_kinds v0_actor.toNatClampNeg).toInt p1.toInt p2.toInt)) ∧ (x130.toInt = v0_ran.toInt + (((runT (TR (f0_kinds v0_actor.toNatClampNeg).toInt (25 - p4.toInt).toNat) (f0_kinds v0_actor.toNatClampNeg).toInt p1.toInt p2.toInt).length : Nat) : Int)) := ⟨h134, (by omega), (by rw [runF_70 (by omega), e140, hq1]), (by rw [runT_70 (by omega)]; assumption), (by rw [runT_70 (by omega)]; assumption)⟩
    exact ret _ _ _ _ x139 (x130, g131) dX0_run_248 hpo hP hD hS
  by_cases c142 : p1.toInt = 80
  · refine lv_lookup (off := 248) (tgt := 249) hx hb dX0_run_1 (by decide) (by rw [c142]; decide) (by decide) ?_
    refine lv_aload_n hx hb dX0_run_249 rfl (lv_at hl 0 rfl) ?_
    refine lv_iload_n hx hb dX0_run_250 rfl (lv_at hl 2 rfl) ?_
    refine lv_iconst (v := 1) hx hb dX0_run_251 (by decide) ?_
    refine lv_iload_n hx hb dX0_run_252 rfl (lv_at hl 3 rfl) ?_
    refine lv_iload hx hb dX0_run_253 (lv_at hl 4 rfl) ?_
    refine kcm_i hA hAB hP hD hS [true, true, true] rfl (fun _ => rfl) (fun hPc hDc => va_runV (As := [.int p2, .int 1, .int p3, .int p4]) (rest := []) ⟨hx, hb, hml, hown, hts⟩ (hfrom a0 r0 v0_count v0_ran v0_actor f0_kinds f0_trace s.heap.size p2 1 p3 p4 i1 i2 i3 hf0_kinds (by omega) (by omega) (by omega) (by omega) (by omega)) (cwV 4 hts gX0_run_X0_from rfl rfl rfl (by decide +kernel) ⟨by dsimp only; omega, by dsimp only; omega⟩) (pk_V hK hS hAB hPc hDc 0 (ci := 0) rfl rfl rfl) rfl rfl hl.1 rfl (lv_room (Nat.le_of_ble_eq_true rfl)) dX0_run_255 ⟨Nat.le_of_ble_eq_true rfl, Nat.le_of_ble_eq_true rfl⟩) (fun x145 u146 H locs hw hPD hS => ?_)
    obtain ⟨x143, g144⟩ := u146
    obtain ⟨h147, h148, h149, h150, h151⟩ : (0 ≤ x143.toInt ∧ x143.toInt ≤ 100000000) ∧ (v0_ran.toInt ≤ x143.toInt ∧ x143.toInt ≤ v0_ran.toInt + bb d) ∧ (x145 = FR v0_actor (f0_kinds v0_actor.toNatClampNeg).toInt (25 - p4.toInt).toNat (1 : Int32).toInt p2.toInt p3) ∧ (g144 = wrL f0_trace v0_ran.toInt (TR (f0_kinds v0_actor.toNatClampNeg).toInt (25 - p4.toInt).toNat (1 : Int32).toInt p2.toInt)) ∧ (x143.toInt = v0_ran.toInt + (((TR (f0_kinds v0_actor.toNatClampNeg).toInt (25 - p4.toInt).toNat (1 : Int32).toInt p2.toInt).length : Nat) : Int)) := hw
    obtain ⟨hP, hD⟩ : PD D A [O0 a0 r0 v0_count x143 v0_actor, (cI κ (r0 0) 50 f0_kinds), (cI κ (r0 2) 24 g144)] H := hPD
    have hq1 : x145 = FR v0_actor (f0_kinds v0_actor.toNatClampNeg).toInt (25 - p4.toInt).toNat (1 : Int32).toInt p2.toInt p3 := by assumption
    have ht1 : g144 = wrL f0_trace v0_ran.toInt (TR (f0_kinds v0_actor.toNatClampNeg).toInt (25 - p4.toInt).toNat (1 : Int32).toInt p2.toInt) := by assumption
    have hl1 : x143.toInt = v0_ran.toInt + (((TR (f0_kinds v0_actor.toNatClampNeg).toInt (25 - p4.toInt).toNat (1 : Int32).toInt p2.toInt).length : Nat) : Int) := by assumption
    refine lv_aload_n hx hb dX0_run_258 rfl (lv_at hl 0 rfl) ?_
    refine lv_iconst (v := 2) hx hb dX0_run_259 (by decide) ?_
    refine lv_iconst (v := 2) hx hb dX0_run_260 (by decide) ?_
    refine lv_iload hx hb dX0_run_261 (lv_at hl 4 rfl) ?_
    refine kcm_i hA hAB hP hD hS [true, true, true] rfl (fun _ => rfl) (fun hPc hDc => va_runV (As := [.int 2, .int 2, .int p4]) (rest := [.int x145]) ⟨hx, hb, hml, hown, hts⟩ (hown2 a0 r0 v0_count x143 v0_actor f0_kinds g144 H.size 2 2 p4 i1 h147 i3 hf0_kinds (by omega) (by omega) (by omega) (by omega)) (cwV 3 hts gX0_run_X0_own rfl rfl rfl (by decide +kernel) ⟨by dsimp only; omega, by dsimp only; omega⟩) (pk_V hK hS hAB hPc hDc 0 (ci := 0) rfl rfl rfl) rfl rfl hl.1 rfl (lv_room (Nat.le_of_ble_eq_true rfl)) dX0_run_263 ⟨Nat.le_of_ble_eq_true rfl, Nat.le_of_ble_eq_true rfl⟩) (fun x154 u155 H locs hw hPD hS => ?_)
    obtain ⟨x152, g153⟩ := u155
    obtain ⟨h156, h157, h158, h159, h160⟩ : (0 ≤ x152.toInt ∧ x152.toInt ≤ 100000000) ∧ (x143.toInt ≤ x152.toInt ∧ x152.toInt ≤ x143.toInt + bb d) ∧ (x154 = FR v0_actor (f0_kinds v0_actor.toNatClampNeg).toInt (25 - p4.toInt).toNat (2 : Int32).toInt (f0_kinds v0_actor.toNatClampNeg).toInt (2 : Int32)) ∧ (g153 = wrL g144 x143.toInt (TR (f0_kinds v0_actor.toNatClampNeg).toInt (25 - p4.toInt).toNat (2 : Int32).toInt (f0_kinds v0_actor.toNatClampNeg).toInt)) ∧ (x152.toInt = x143.toInt + (((TR (f0_kinds v0_actor.toNatClampNeg).toInt (25 - p4.toInt).toNat (2 : Int32).toInt (f0_kinds v0_actor.toNatClampNeg).toInt).length : Nat) : Int)) := hw
    obtain ⟨hP, hD⟩ : PD D A [O0 a0 r0 v0_count x152 v0_actor, (cI κ (r0 0) 50 f0_kinds), (cI κ (r0 2) 24 g153)] H := hPD
    have hq2 : x154 = FR v0_actor (f0_kinds v0_actor.toNatClampNeg).toInt (25 - p4.toInt).toNat (2 : Int32).toInt (f0_kinds v0_actor.toNatClampNeg).toInt (2 : Int32) := by assumption
    refine lv_iadd hx hb dX0_run_266 ?_
    refine lv_topi (fun x161 e162 => ?_)
    try have h163 : x161.toInt = x145.toInt + x154.toInt := ci_add e162 (by omega) (by omega)
    have hpo : (0 ≤ x152.toInt ∧ x152.toInt ≤ 100000000) ∧ (v0_ran.toInt ≤ x152.toInt ∧ x152.toInt ≤ v0_ran.toInt + 2 * bb d) ∧ (x161 = runF (FR v0_actor (f0_kinds v0_actor.toNatClampNeg).toInt (25 - p4.toInt).toNat) v0_actor (f0_kinds v0_actor.toNatClampNeg).toInt p1.toInt p2.toInt p3) ∧ (g153 = wrL f0_trace v0_ran.toInt (runT (TR (f0_kinds v0_actor.toNatClampNeg).toInt (25 - p4.toInt).toNat) (f0_kinds v0_actor.toNatClampNeg).toInt p1.toInt p2.toInt)) ∧ (x152.toInt = v0_ran.toInt + (((runT (TR (f0_kinds v0_actor.toNatClampNeg).toInt (25 - p4.toInt).toNat) (f0_kinds v0_actor.toNatClampNeg).toInt p1.toInt p2.toInt).length : Nat) : Int)) := ⟨h156, (by omega), (by rw [runF_80 (by omega), e162, hq1, hq2]), (by rw [runT_80 (by omega), wrL_app, ← ht1, ← hl1]; assumption), (by rw [runT_80 (by omega), List.length_append]; omega)⟩
    exact ret _ _ _ _ x161 (x152, g153) dX0_run_267 hpo hP hD hS
  by_cases c164 : p1.toInt = 81
  · refine lv_lookup (off := 267) (tgt := 268) hx hb dX0_run_1 (by decide) (by rw [c164]; decide) (by decide) ?_
    refine lv_aload_n hx hb dX0_run_268 rfl (lv_at hl 0 rfl) ?_
    refine lv_iload_n hx hb dX0_run_269 rfl (lv_at hl 2 rfl) ?_
    refine lv_iconst (v := 3) hx hb dX0_run_270 (by decide) ?_
    refine lv_iload_n hx hb dX0_run_271 rfl (lv_at hl 3 rfl) ?_
    refine lv_iload hx hb dX0_run_272 (lv_at hl 4 rfl) ?_
    refine kcm_i hA hAB hP hD hS [true, true, true] rfl (fun _ => rfl) (fun hPc hDc => va_runV (As := [.int p2, .int 3, .int p3, .int p4]) (rest := []) ⟨hx, hb, hml, hown, hts⟩ (hfrom a0 r0 v0_count v0_ran v0_actor f0_kinds f0_trace s.heap.size p2 3 p3 p4 i1 i2 i3 hf0_kinds (by omega) (by omega) (by omega) (by omega) (by omega)) (cwV 4 hts gX0_run_X0_from rfl rfl rfl (by decide +kernel) ⟨by dsimp only; omega, by dsimp only; omega⟩) (pk_V hK hS hAB hPc hDc 0 (ci := 0) rfl rfl rfl) rfl rfl hl.1 rfl (lv_room (Nat.le_of_ble_eq_true rfl)) dX0_run_274 ⟨Nat.le_of_ble_eq_true rfl, Nat.le_of_ble_eq_true rfl⟩) (fun x167 u168 H locs hw hPD hS => ?_)
    obtain ⟨x165, g166⟩ := u168
    obtain ⟨h169, h170, h171, h172, h173⟩ : (0 ≤ x165.toInt ∧ x165.toInt ≤ 100000000) ∧ (v0_ran.toInt ≤ x165.toInt ∧ x165.toInt ≤ v0_ran.toInt + bb d) ∧ (x167 = FR v0_actor (f0_kinds v0_actor.toNatClampNeg).toInt (25 - p4.toInt).toNat (3 : Int32).toInt p2.toInt p3) ∧ (g166 = wrL f0_trace v0_ran.toInt (TR (f0_kinds v0_actor.toNatClampNeg).toInt (25 - p4.toInt).toNat (3 : Int32).toInt p2.toInt)) ∧ (x165.toInt = v0_ran.toInt + (((TR (f0_kinds v0_actor.toNatClampNeg).toInt (25 - p4.toInt).toNat (3 : Int32).toInt p2.toInt).length : Nat) : Int)) := hw
    obtain ⟨hP, hD⟩ : PD D A [O0 a0 r0 v0_count x165 v0_actor, (cI κ (r0 0) 50 f0_kinds), (cI κ (r0 2) 24 g166)] H := hPD
    have hq1 : x167 = FR v0_actor (f0_kinds v0_actor.toNatClampNeg).toInt (25 - p4.toInt).toNat (3 : Int32).toInt p2.toInt p3 := by assumption
    refine lv_iconst (v := 1) hx hb dX0_run_277 (by decide) ?_
    refine lv_isub hx hb dX0_run_278 ?_
    refine lv_topi (fun x174 e175 => ?_)
    try have h176 : x174.toInt = x167.toInt - (1 : Int32).toInt := ci_sub e175 (by omega) (by omega)
    have hpo : (0 ≤ x165.toInt ∧ x165.toInt ≤ 100000000) ∧ (v0_ran.toInt ≤ x165.toInt ∧ x165.toInt ≤ v0_ran.toInt + 2 * bb d) ∧ (x174 = runF (FR v0_actor (f0_kinds v0_actor.toNatClampNeg).toInt (25 - p4.toInt).toNat) v0_actor (f0_kinds v0_actor.toNatClampNeg).toInt p1.toInt p2.toInt p3) ∧ (g166 = wrL f0_trace v0_ran.toInt (runT (TR (f0_kinds v0_actor.toNatClampNeg).toInt (25 - p4.toInt).toNat) (f0_kinds v0_actor.toNatClampNeg).toInt p1.toInt p2.toInt)) ∧ (x165.toInt = v0_ran.toInt + (((runT (TR (f0_kinds v0_actor.toNatClampNeg).toInt (25 - p4.toInt).toNat) (f0_kinds v0_actor.toNatClampNeg).toInt p1.toInt p2.toInt).length : Nat) : Int)) := ⟨h169, (by omega), (by rw [runF_81 (by omega), e175, hq1]), (by rw [runT_81 (by omega)]; assumption), (by rw [runT_81 (by omega)]; assumption)⟩
    exact ret _ _ _ _ x174 (x165, g166) dX0_run_279 hpo hP hD hS
  refine lv_lookup (off := 279) (tgt := 280) hx hb dX0_run_1 (by decide) (by show Op.lookupswitch.offset [(1, 115), (2, 122), (10, 140), (11, 151), (20, 158), (30, 170), (40, 181), (50, 193), (51, 205), (60, 217), (70, 236), (80, 248), (81, 267)] 279 p1.toInt = 279; rw [Op.lookupswitch.offset_cons, if_neg (by omega), Op.lookupswitch.offset_cons, if_neg (by omega), Op.lookupswitch.offset_cons, if_neg (by omega), Op.lookupswitch.offset_cons, if_neg (by omega), Op.lookupswitch.offset_cons, if_neg (by omega), Op.lookupswitch.offset_cons, if_neg (by omega), Op.lookupswitch.offset_cons, if_neg (by omega), Op.lookupswitch.offset_cons, if_neg (by omega), Op.lookupswitch.offset_cons, if_neg (by omega), Op.lookupswitch.offset_cons, if_neg (by omega), Op.lookupswitch.offset_cons, if_neg (by omega), Op.lookupswitch.offset_cons, if_neg (by omega), Op.lookupswitch.offset_cons, if_neg (by omega), Op.lookupswitch.offset_nil]) (by decide) ?_
  refine lv_iconst (v := 0) hx hb dX0_run_280 (by decide) ?_
  have hpo : (0 ≤ v0_ran.toInt ∧ v0_ran.toInt ≤ 100000000) ∧ (v0_ran.toInt ≤ v0_ran.toInt ∧ v0_ran.toInt ≤ v0_ran.toInt + 2 * bb d) ∧ ((0 : Int32) = runF (FR v0_actor (f0_kinds v0_actor.toNatClampNeg).toInt (25 - p4.toInt).toNat) v0_actor (f0_kinds v0_actor.toNatClampNeg).toInt p1.toInt p2.toInt p3) ∧ (f0_trace = wrL f0_trace v0_ran.toInt (runT (TR (f0_kinds v0_actor.toNatClampNeg).toInt (25 - p4.toInt).toNat) (f0_kinds v0_actor.toNatClampNeg).toInt p1.toInt p2.toInt)) ∧ (v0_ran.toInt = v0_ran.toInt + (((runT (TR (f0_kinds v0_actor.toNatClampNeg).toInt (25 - p4.toInt).toNat) (f0_kinds v0_actor.toNatClampNeg).toInt p1.toInt p2.toInt).length : Nat) : Int)) := ⟨i2, (by omega), (runF_no (by omega) (by omega) (by omega) (by omega) (by omega) (by omega) (by omega) (by omega) (by omega) (by omega) (by omega) (by omega) (by omega) ).symm, (by rw [runT_no (by omega) (by omega) (by omega) (by omega) (by omega) (by omega) (by omega) (by omega) (by omega) (by omega) (by omega) (by omega) (by omega) ]; rfl), (by rw [runT_no (by omega) (by omega) (by omega) (by omega) (by omega) (by omega) (by omega) (by omega) (by omega) (by omega) (by omega) (by omega) (by omega) ]; show _ = _ + ((0 : Nat) : Int); omega)⟩
  exact ret _ _ _ _ 0 (v0_ran, f0_trace) dX0_run_281 hpo hP hD hS
set_option maxHeartbeats 4000000 in
set_option maxRecDepth 100000 in
theorem of_X0_from (l : Launch) (D : va_G) (κ : Nat → ClassId) (β d : Nat) (hrun : C_X0_run l D κ β d) : C_X0_from l D κ β (d + 1) := by
  intro a0 r0 v0_count v0_ran v0_actor f0_kinds f0_trace sz p1 p2 p3 p4 i1 i2 i3 hf0_kinds i4 i5 i6 i7 i8
  refine ofK_i (cc := cX0_from) (maxL := 7) (own := RX0) (by decide) rfl rfl (Nat.le_of_ble_eq_true rfl) ?_
  intro p e s m args below meth c Q A ls hsz hx hb hml hts hown hK hA hAB hP hD hl ret
  have hS : va_S A s.heap s.heap [] := va_S.rf
  have hl : lv_has ls 7 [(0, .ref a0), (1, .int p1), (2, .int p2), (3, .int p3), (4, .int p4)] := hl
  have w0 := hts (.fieldLink RX0 53 "OlderSkin$Bodies" "OWN" "[I") (List.mem_of_getElem? (i := 1) rfl)
  have w1 := hts (.fieldLink RX0 26 "OlderSkin$Bodies" "ran" "I") (List.mem_of_getElem? (i := 3) rfl)
  have w2 := (fun w h => List.mem_cons_of_mem _ (List.mem_append_right _ h) : ∀ w ∈ u_ws RX0 TX0 5, w ∈ wsX0_from)
  have w3 := hts (.fieldLink RX0 15 "OlderSkin$Bodies" "trace" "[I") (List.mem_of_getElem? (i := 4) rfl)
  have w4 := hts (.fieldLink RX0 35 "OlderSkin$Bodies" "ABOVE" "[I") (List.mem_of_getElem? (i := 2) rfl)
  have l0 : (0 : Int32).toInt = 0 := by decide
  have l1 : (8 : Int32).toInt = 8 := by decide
  have l2 : (24 : Int32).toInt = 24 := by decide
  have l3 : (4 : Int32).toInt = 4 := by decide
  have l4 : (1 : Int32).toInt = 1 := by decide
  have i2 : 0 ≤ v0_ran.toInt ∧ v0_ran.toInt ≤ 100000000 := i2
  have i3 : 0 ≤ v0_actor.toInt ∧ v0_actor.toInt ≤ 49 := i3
  obtain ⟨t1, t2, z1, y1, z2, y2⟩ := hK.2.2.2.2.1
  have z1 := z1.narrow hAB
  have y1 := y1.narrow hAB
  have z2 := z2.narrow hAB
  have y2 := y2.narrow hAB
  have hb1 := bb_succ d
  have hb0 := bb_nn d
  refine lv_iload_n hx hb dX0_from_0 rfl (lv_at hl 1 rfl) ?_
  refine lv_istore (lv' := [(5, .int p1), (0, .ref a0), (1, .int p1), (2, .int p2), (3, .int p3), (4, .int p4)]) hx hb dX0_from_1 hl (by decide) rfl (fun ls hl => ?_)
  refine lv_iconst (v := 0) hx hb dX0_from_3 (by decide) ?_
  refine lv_istore (lv' := [(6, .int 0), (5, .int p1), (0, .ref a0), (1, .int p1), (2, .int p2), (3, .int p3), (4, .int p4)]) hx hb dX0_from_4 hl (by decide) rfl (fun ls hl => ?_)
  have lp6 : ∀ (n6 : Nat) (k1 : Int32) (k2 : Int32), (-1 ≤ k2.toInt ∧ k2.toInt ≤ 7) → (k2.toInt < 0 ∨ (k2.toInt = 0 ∧ k1.toInt ≤ 2) ∨ ((k2.toInt = 1 ∨ k2.toInt = 2 ∨ k2.toInt = 5 ∨ k2.toInt = 6) ∧ k1.toInt ≤ 1) ∨ k1.toInt ≤ 0) → (ownI p2.toInt k2.toInt = ownI p2.toInt p1.toInt) → (abvI p2.toInt k2.toInt = abvI p2.toInt p1.toInt) → (0 ≤ k1.toInt) → (8 - k1.toInt).toNat < n6 → ∀ (H : Heap) (locs : List Loc), va_P D vwCl [O0 a0 r0 v0_count v0_ran v0_actor, (cI κ (r0 0) 50 f0_kinds), (cI κ (r0 2) 24 f0_trace)] H → va_D A [O0 a0 r0 v0_count v0_ran v0_actor, (cI κ (r0 0) 50 f0_kinds), (cI κ (r0 2) 24 f0_trace)] → va_S A s.heap H locs → ∀ ls : Array Slot, lv_has ls 7 [(6, .int k1), (5, .int k2), (0, .ref a0), (1, .int p1), (2, .int p2), (3, .int p3), (4, .int p4)] → W p l e ({ frames := 3 * (d + 1), cells := 0, slots := 0, locals := 73 * (d + 1) } : Room) s m args below meth c H locs 0 0 Q (F0 m 6 ls []) := by
    intro n6
    induction n6 with
    | zero =>
      intro k1 k2 h3 h4 h5 h6 h7 m8
      exact absurd m8 (Nat.not_lt_zero _)
    | succ n6 ih6 =>
      intro k1 k2 h3 h4 h5 h6 h7 m8 H locs hP hD hS ls hl
      have hI1 : ownI p2.toInt k2.toInt = ownI p2.toInt p1.toInt := by assumption
      have hI2 : abvI p2.toInt k2.toInt = abvI p2.toInt p1.toInt := by assumption
      refine lv_iload hx hb dX0_from_6 (lv_at hl 0 rfl) ?_
      refine lv_bipush (v := 8) hx hb dX0_from_8 (by decide) ?_
      refine lv_icmp_ge (tgt := 45) hx hb dX0_from_10 (by decide) (fun c9 => ?_) (fun c9 => ?_)
      · have c9 := ci_le c9
        refine lv_iload hx hb dX0_from_45 (lv_at hl 1 rfl) ?_
        refine lv_if_lt (tgt := 57) hx hb dX0_from_47 (by decide) (fun c10 => ?_) (fun c10 => ?_)
        · have c10 := ci_lt c10
          refine lv_iconst (v := 0) hx hb dX0_from_57 (by decide) ?_
          have hpo : (0 ≤ v0_ran.toInt ∧ v0_ran.toInt ≤ 100000000) ∧ (v0_ran.toInt ≤ v0_ran.toInt ∧ v0_ran.toInt ≤ v0_ran.toInt + bb (d + 1)) ∧ ((0 : Int32) = FR v0_actor (f0_kinds v0_actor.toNatClampNeg).toInt (25 - p4.toInt).toNat p2.toInt p1.toInt p3) ∧ (f0_trace = wrL f0_trace v0_ran.toInt (TR (f0_kinds v0_actor.toNatClampNeg).toInt (25 - p4.toInt).toNat p2.toInt p1.toInt)) ∧ (v0_ran.toInt = v0_ran.toInt + (((TR (f0_kinds v0_actor.toNatClampNeg).toInt (25 - p4.toInt).toNat p2.toInt p1.toInt).length : Nat) : Int)) := ⟨i2, (by omega), (by first | exact (FR_zero (by omega)).symm | exact (FR_none (by rw [← hI1]; exact ownI_neg (by omega))).symm), (by first | (rw [TR_zero (by omega)]; rfl) | (rw [TR_none (by rw [← hI1]; exact ownI_neg (by omega))]; rfl)), (by first | (rw [TR_zero (by omega)]; show _ = _ + ((0 : Nat) : Int); omega) | (rw [TR_none (by rw [← hI1]; exact ownI_neg (by omega))]; show _ = _ + ((0 : Nat) : Int); omega))⟩
          exact ret _ _ _ _ 0 (v0_ran, f0_trace) dX0_from_58 hpo hP hD hS
        have c10 := ci_nlt c10
        refine lv_iload hx hb dX0_from_50 (lv_at hl 6 rfl) ?_
        refine lv_bipush (v := 24) hx hb dX0_from_52 (by decide) ?_
        refine lv_icmp_le (tgt := 59) hx hb dX0_from_54 (by decide) (fun c11 => ?_) (fun c11 => ?_)
        · have c11 := ci_le c11
          refine va_gets hx hb z2 hS hown w0 (fun _ h9 => h9) dX0_from_59 ?_
          refine lv_iconst (v := 4) hx hb dX0_from_62 (by decide) ?_
          refine lv_iload hx hb dX0_from_63 (lv_at hl 1 rfl) ?_
          refine lv_imul hx hb dX0_from_65 ?_
          refine lv_topi (fun x12 e13 => ?_)
          try have h14 : x12.toInt = 4 * k2.toInt := ci_mulL (n := 4) (by decide) e13 (by omega) (by omega)
          refine lv_iload_n hx hb dX0_from_66 rfl (lv_at hl 4 rfl) ?_
          refine lv_iadd hx hb dX0_from_67 ?_
          refine lv_topi (fun x15 e16 => ?_)
          try have h17 : x15.toInt = x12.toInt + p2.toInt := ci_add e16 (by omega) (by omega)
          have hix : x15.toNatClampNeg = (4 * k2.toInt + p2.toInt).toNat := by rw [← show x15.toInt = 4 * k2.toInt + p2.toInt from by omega]; rfl
          refine va_ti hx hb y2 hS (i := x15) (ix (by omega) (by omega)) rfl dX0_from_68 ?_
          refine lv_topi (fun x18 e19 => ?_)
          have hov : x18.toInt = (tbOwn.getD (4 * k2.toInt + p2.toInt).toNat 0).toInt := by rw [e19, hix]
          have how := own_cases p2.toInt k2.toInt (by omega) (by omega)
          refine lv_istore (lv' := [(6, .int x18), (5, .int k2), (0, .ref a0), (1, .int p1), (2, .int p2), (3, .int p3), (4, .int p4)]) hx hb dX0_from_69 hl (by decide) rfl (fun ls hl => ?_)
          refine lv_aload_n hx hb dX0_from_71 rfl (lv_at hl 2 rfl) ?_
          refine va_get (D := D) (ci := 0) (v := .int v0_ran) (C := RX0) (T := TX0) (N := 5) hx hb hts w2 hown hK.1 hP 0 rfl rfl 3 (by decide) w1 (fun _ h9 => h9) rfl dX0_from_72 ?_
          refine lv_aload_n hx hb dX0_from_75 rfl (lv_at hl 2 rfl) ?_
          refine va_get (D := D) (ci := 0) (v := .ref (r0 2)) (C := RX0) (T := TX0) (N := 5) hx hb hts w2 hown hK.1 hP 0 rfl rfl 2 (by decide) w3 (fun _ h9 => h9) rfl dX0_from_76 ?_
          refine va_alen hx hb hK.1 hP 2 1 rfl rfl (v := 24) rfl dX0_from_79 ?_
          refine lv_icmp_ge (tgt := 94) hx hb dX0_from_80 (by decide) (fun c20 => ?_) (fun c20 => ?_)
          · have c20 := ci_le c20
            have hgg : (v0_ran.toInt < 24 ∧ f0_trace = upd f0_trace v0_ran.toNatClampNeg x18) ∨ (24 ≤ v0_ran.toInt ∧ f0_trace = f0_trace) := by first | exact Or.inl ⟨by omega, e19⟩ | exact Or.inr ⟨by omega, rfl⟩
            refine lv_aload_n hx hb dX0_from_94 rfl (lv_at hl 2 rfl) ?_
            refine lv_dup hx hb dX0_from_95 rfl ?_
            refine va_get (D := D) (ci := 0) (v := .int v0_ran) (C := RX0) (T := TX0) (N := 5) hx hb hts w2 hown hK.1 hP 0 rfl rfl 3 (by decide) w1 (fun _ h9 => h9) rfl dX0_from_96 ?_
            refine lv_iconst (v := 1) hx hb dX0_from_99 (by decide) ?_
            refine lv_iadd hx hb dX0_from_100 ?_
            refine lv_topi (fun x21 e22 => ?_)
            try have h23 : x21.toInt = v0_ran.toInt + (1 : Int32).toInt := ci_add e22 (by omega) (by omega)
            refine va_put (D := D) (ci := 0) (v := .int x21) (ty := .int) (C := RX0) (T := TX0) (N := 5) hx hb hts w2 tyX0 tyX0_ok nmX0 hown hK.1 hP hD hS 0 rfl rfl 3 (by decide) w1 (fun _ h9 => h9) rfl (by decide +kernel) rfl rfl (Nat.le_of_ble_eq_true rfl) dX0_from_101 (fun H locs hP hD hS => ?_)
            obtain ⟨hP, hD⟩ : PD D A [O0 a0 r0 v0_count x21 v0_actor, (cI κ (r0 0) 50 f0_kinds), (cI κ (r0 2) 24 f0_trace)] H := ⟨hP, hD⟩
            have h24 : 0 ≤ x21.toInt ∧ x21.toInt ≤ 100000000 := by omega
            have hr1 : x21.toInt = v0_ran.toInt + 1 := by omega
            refine lv_aload_n hx hb dX0_from_104 rfl (lv_at hl 2 rfl) ?_
            refine lv_iload hx hb dX0_from_105 (lv_at hl 0 rfl) ?_
            refine va_gets hx hb z1 hS hown w4 (fun _ h9 => h9) dX0_from_107 ?_
            refine lv_iload hx hb dX0_from_110 (lv_at hl 1 rfl) ?_
            refine va_ti hx hb y1 hS (i := k2) (ix (by omega) (by omega)) rfl dX0_from_112 ?_
            refine lv_topi (fun x25 e26 => ?_)
            have h27 := tb_above k2.toNatClampNeg; rw [← e26] at h27
            have hav : x25.toInt = (tbAbove.getD k2.toInt.toNat 0).toInt := by rw [e26]; rfl
            have hw1 : ownI p2.toInt k2.toInt = x18.toInt := by rcases how with ⟨h, _, _⟩ | ⟨_, h, _⟩; exact absurd h (by omega); rw [h, hov]
            have hw2 : abvI p2.toInt k2.toInt = x25.toInt := by rcases how with ⟨h, _, _⟩ | ⟨_, _, h⟩; exact absurd h (by omega); rw [h, hav]
            have hn0 : ownI p2.toInt p1.toInt ≠ 0 := by rw [← hI1]; rcases how with ⟨h, _, _⟩ | ⟨h1, h2, _⟩; exact absurd h (by omega); rw [h2]; exact h1
            refine lv_iload_n hx hb dX0_from_113 rfl (lv_at hl 5 rfl) ?_
            refine lv_iload hx hb dX0_from_114 (lv_at hl 6 rfl) ?_
            refine lv_iconst (v := 1) hx hb dX0_from_116 (by decide) ?_
            refine lv_iadd hx hb dX0_from_117 ?_
            refine lv_topi (fun x28 e29 => ?_)
            try have h30 : x28.toInt = p4.toInt + (1 : Int32).toInt := ci_add e29 (by omega) (by omega)
            have hd9 : x28.toInt = p4.toInt + 1 := by omega
            refine kcm_i hA hAB hP hD hS [true, true, true] rfl (fun _ => rfl) (fun hPc hDc => va_runV (As := [.int x18, .int x25, .int p3, .int x28]) (rest := []) ⟨hx, hb, hml, hown, hts⟩ (hrun a0 r0 v0_count x21 v0_actor f0_kinds f0_trace H.size x18 x25 p3 x28 i1 h24 i3 hf0_kinds (by omega) (by omega) (by omega) (by omega)) (cwV 4 hts gX0_from_X0_run rfl rfl rfl (by decide +kernel) ⟨by dsimp only; omega, by dsimp only; omega⟩) (pk_V hK hS hAB hPc hDc 0 (ci := 0) rfl rfl rfl) rfl rfl hl.1 rfl (lv_room (Nat.le_of_ble_eq_true rfl)) dX0_from_118 ⟨Nat.le_of_ble_eq_true rfl, Nat.le_of_ble_eq_true rfl⟩) (fun x33 u34 H locs hw hPD hS => ?_)
            obtain ⟨x31, g32⟩ := u34
            obtain ⟨h35, h36, h37, h38, h39⟩ : (0 ≤ x31.toInt ∧ x31.toInt ≤ 100000000) ∧ (x21.toInt ≤ x31.toInt ∧ x31.toInt ≤ x21.toInt + 2 * bb d) ∧ (x33 = runF (FR v0_actor (f0_kinds v0_actor.toNatClampNeg).toInt (25 - x28.toInt).toNat) v0_actor (f0_kinds v0_actor.toNatClampNeg).toInt x18.toInt x25.toInt p3) ∧ (g32 = wrL f0_trace x21.toInt (runT (TR (f0_kinds v0_actor.toNatClampNeg).toInt (25 - x28.toInt).toNat) (f0_kinds v0_actor.toNatClampNeg).toInt x18.toInt x25.toInt)) ∧ (x31.toInt = x21.toInt + (((runT (TR (f0_kinds v0_actor.toNatClampNeg).toInt (25 - x28.toInt).toNat) (f0_kinds v0_actor.toNatClampNeg).toInt x18.toInt x25.toInt).length : Nat) : Int)) := hw
            obtain ⟨hP, hD⟩ : PD D A [O0 a0 r0 v0_count x31 v0_actor, (cI κ (r0 0) 50 f0_kinds), (cI κ (r0 2) 24 g32)] H := hPD
            have hpo : (0 ≤ x31.toInt ∧ x31.toInt ≤ 100000000) ∧ (v0_ran.toInt ≤ x31.toInt ∧ x31.toInt ≤ v0_ran.toInt + bb (d + 1)) ∧ (x33 = FR v0_actor (f0_kinds v0_actor.toNatClampNeg).toInt (25 - p4.toInt).toNat p2.toInt p1.toInt p3) ∧ (g32 = wrL f0_trace v0_ran.toInt (TR (f0_kinds v0_actor.toNatClampNeg).toInt (25 - p4.toInt).toNat p2.toInt p1.toInt)) ∧ (x31.toInt = v0_ran.toInt + (((TR (f0_kinds v0_actor.toNatClampNeg).toInt (25 - p4.toInt).toNat p2.toInt p1.toInt).length : Nat) : Int)) := ⟨h35, (by omega), (by rw [FR_step (by omega) hd9, ← hI1, ← hI2, hw1, hw2]; assumption), (by rw [TR_step (by omega) hd9 hn0, ← hI1, ← hI2, hw1, hw2, wrL_one rfl hgg, ← hr1]; assumption), (by rw [TR_step (by omega) hd9 hn0, ← hI1, ← hI2, hw1, hw2, List.length_cons]; omega)⟩
            exact ret _ _ _ _ x33 (x31, g32) dX0_from_121 hpo hP hD hS
          have c20 := ci_nle c20
          refine lv_aload_n hx hb dX0_from_83 rfl (lv_at hl 2 rfl) ?_
          refine va_get (D := D) (ci := 0) (v := .ref (r0 2)) (C := RX0) (T := TX0) (N := 5) hx hb hts w2 hown hK.1 hP 0 rfl rfl 2 (by decide) w3 (fun _ h9 => h9) rfl dX0_from_84 ?_
          refine lv_aload_n hx hb dX0_from_87 rfl (lv_at hl 2 rfl) ?_
          refine va_get (D := D) (ci := 0) (v := .int v0_ran) (C := RX0) (T := TX0) (N := 5) hx hb hts w2 hown hK.1 hP 0 rfl rfl 3 (by decide) w1 (fun _ h9 => h9) rfl dX0_from_88 ?_
          refine lv_iload hx hb dX0_from_91 (lv_at hl 0 rfl) ?_
          refine va_iast hx hb hK.1 hP hD hS 2 1 rfl rfl (i := v0_ran) (ix (by omega) (by omega)) dX0_from_93 (fun H locs hP hD hS => ?_)
          obtain ⟨g40, e41⟩ : ∃ y : Nat → Int32, y = upd f0_trace v0_ran.toNatClampNeg x18 := ⟨_, rfl⟩
          rw [← e41] at hP hD
          obtain ⟨hP, hD⟩ : PD D A [O0 a0 r0 v0_count v0_ran v0_actor, (cI κ (r0 0) 50 f0_kinds), (cI κ (r0 2) 24 g40)] H := ⟨hP, hD⟩
          have hgg : (v0_ran.toInt < 24 ∧ g40 = upd f0_trace v0_ran.toNatClampNeg x18) ∨ (24 ≤ v0_ran.toInt ∧ g40 = f0_trace) := by first | exact Or.inl ⟨by omega, e41⟩ | exact Or.inr ⟨by omega, rfl⟩
          refine lv_aload_n hx hb dX0_from_94 rfl (lv_at hl 2 rfl) ?_
          refine lv_dup hx hb dX0_from_95 rfl ?_
          refine va_get (D := D) (ci := 0) (v := .int v0_ran) (C := RX0) (T := TX0) (N := 5) hx hb hts w2 hown hK.1 hP 0 rfl rfl 3 (by decide) w1 (fun _ h9 => h9) rfl dX0_from_96 ?_
          refine lv_iconst (v := 1) hx hb dX0_from_99 (by decide) ?_
          refine lv_iadd hx hb dX0_from_100 ?_
          refine lv_topi (fun x42 e43 => ?_)
          try have h44 : x42.toInt = v0_ran.toInt + (1 : Int32).toInt := ci_add e43 (by omega) (by omega)
          refine va_put (D := D) (ci := 0) (v := .int x42) (ty := .int) (C := RX0) (T := TX0) (N := 5) hx hb hts w2 tyX0 tyX0_ok nmX0 hown hK.1 hP hD hS 0 rfl rfl 3 (by decide) w1 (fun _ h9 => h9) rfl (by decide +kernel) rfl rfl (Nat.le_of_ble_eq_true rfl) dX0_from_101 (fun H locs hP hD hS => ?_)
          obtain ⟨hP, hD⟩ : PD D A [O0 a0 r0 v0_count x42 v0_actor, (cI κ (r0 0) 50 f0_kinds), (cI κ (r0 2) 24 g40)] H := ⟨hP, hD⟩
          have h45 : 0 ≤ x42.toInt ∧ x42.toInt ≤ 100000000 := by omega
          have hr1 : x42.toInt = v0_ran.toInt + 1 := by omega
          refine lv_aload_n hx hb dX0_from_104 rfl (lv_at hl 2 rfl) ?_
          refine lv_iload hx hb dX0_from_105 (lv_at hl 0 rfl) ?_
          refine va_gets hx hb z1 hS hown w4 (fun _ h9 => h9) dX0_from_107 ?_
          refine lv_iload hx hb dX0_from_110 (lv_at hl 1 rfl) ?_
          refine va_ti hx hb y1 hS (i := k2) (ix (by omega) (by omega)) rfl dX0_from_112 ?_
          refine lv_topi (fun x46 e47 => ?_)
          have h48 := tb_above k2.toNatClampNeg; rw [← e47] at h48
          have hav : x46.toInt = (tbAbove.getD k2.toInt.toNat 0).toInt := by rw [e47]; rfl
          have hw1 : ownI p2.toInt k2.toInt = x18.toInt := by rcases how with ⟨h, _, _⟩ | ⟨_, h, _⟩; exact absurd h (by omega); rw [h, hov]
          have hw2 : abvI p2.toInt k2.toInt = x46.toInt := by rcases how with ⟨h, _, _⟩ | ⟨_, _, h⟩; exact absurd h (by omega); rw [h, hav]
          have hn0 : ownI p2.toInt p1.toInt ≠ 0 := by rw [← hI1]; rcases how with ⟨h, _, _⟩ | ⟨h1, h2, _⟩; exact absurd h (by omega); rw [h2]; exact h1
          refine lv_iload_n hx hb dX0_from_113 rfl (lv_at hl 5 rfl) ?_
          refine lv_iload hx hb dX0_from_114 (lv_at hl 6 rfl) ?_
          refine lv_iconst (v := 1) hx hb dX0_from_116 (by decide) ?_
          refine lv_iadd hx hb dX0_from_117 ?_
          refine lv_topi (fun x49 e50 => ?_)
          try have h51 : x49.toInt = p4.toInt + (1 : Int32).toInt := ci_add e50 (by omega) (by omega)
          have hd9 : x49.toInt = p4.toInt + 1 := by omega
          refine kcm_i hA hAB hP hD hS [true, true, true] rfl (fun _ => rfl) (fun hPc hDc => va_runV (As := [.int x18, .int x46, .int p3, .int x49]) (rest := []) ⟨hx, hb, hml, hown, hts⟩ (hrun a0 r0 v0_count x42 v0_actor f0_kinds g40 H.size x18 x46 p3 x49 i1 h45 i3 hf0_kinds (by omega) (by omega) (by omega) (by omega)) (cwV 4 hts gX0_from_X0_run rfl rfl rfl (by decide +kernel) ⟨by dsimp only; omega, by dsimp only; omega⟩) (pk_V hK hS hAB hPc hDc 0 (ci := 0) rfl rfl rfl) rfl rfl hl.1 rfl (lv_room (Nat.le_of_ble_eq_true rfl)) dX0_from_118 ⟨Nat.le_of_ble_eq_true rfl, Nat.le_of_ble_eq_true rfl⟩) (fun x54 u55 H locs hw hPD hS => ?_)
          obtain ⟨x52, g53⟩ := u55
          obtain ⟨h56, h57, h58, h59, h60⟩ : (0 ≤ x52.toInt ∧ x52.toInt ≤ 100000000) ∧ (x42.toInt ≤ x52.toInt ∧ x52.toInt ≤ x42.toInt + 2 * bb d) ∧ (x54 = runF (FR v0_actor (f0_kinds v0_actor.toNatClampNeg).toInt (25 - x49.toInt).toNat) v0_actor (f0_kinds v0_actor.toNatClampNeg).toInt x18.toInt x46.toInt p3) ∧ (g53 = wrL g40 x42.toInt (runT (TR (f0_kinds v0_actor.toNatClampNeg).toInt (25 - x49.toInt).toNat) (f0_kinds v0_actor.toNatClampNeg).toInt x18.toInt x46.toInt)) ∧ (x52.toInt = x42.toInt + (((runT (TR (f0_kinds v0_actor.toNatClampNeg).toInt (25 - x49.toInt).toNat) (f0_kinds v0_actor.toNatClampNeg).toInt x18.toInt x46.toInt).length : Nat) : Int)) := hw
          obtain ⟨hP, hD⟩ : PD D A [O0 a0 r0 v0_count x52 v0_actor, (cI κ (r0 0) 50 f0_kinds), (cI κ (r0 2) 24 g53)] H := hPD
          have hpo : (0 ≤ x52.toInt ∧ x52.toInt ≤ 100000000) ∧ (v0_ran.toInt ≤ x52.toInt ∧ x52.toInt ≤ v0_ran.toInt + bb (d + 1)) ∧ (x54 = FR v0_actor (f0_kinds v0_actor.toNatClampNeg).toInt (25 - p4.toInt).toNat p2.toInt p1.toInt p3) ∧ (g53 = wrL f0_trace v0_ran.toInt (TR (f0_kinds v0_actor.toNatClampNeg).toInt (25 - p4.toInt).toNat p2.toInt p1.toInt)) ∧ (x52.toInt = v0_ran.toInt + (((TR (f0_kinds v0_actor.toNatClampNeg).toInt (25 - p4.toInt).toNat p2.toInt p1.toInt).length : Nat) : Int)) := ⟨h56, (by omega), (by rw [FR_step (by omega) hd9, ← hI1, ← hI2, hw1, hw2]; assumption), (by rw [TR_step (by omega) hd9 hn0, ← hI1, ← hI2, hw1, hw2, wrL_one rfl hgg, ← hr1]; assumption), (by rw [TR_step (by omega) hd9 hn0, ← hI1, ← hI2, hw1, hw2, List.length_cons]; omega)⟩
          exact ret _ _ _ _ x54 (x52, g53) dX0_from_121 hpo hP hD hS
        have c11 := ci_nle c11
        refine lv_iconst (v := 0) hx hb dX0_from_57 (by decide) ?_
        have hpo : (0 ≤ v0_ran.toInt ∧ v0_ran.toInt ≤ 100000000) ∧ (v0_ran.toInt ≤ v0_ran.toInt ∧ v0_ran.toInt ≤ v0_ran.toInt + bb (d + 1)) ∧ ((0 : Int32) = FR v0_actor (f0_kinds v0_actor.toNatClampNeg).toInt (25 - p4.toInt).toNat p2.toInt p1.toInt p3) ∧ (f0_trace = wrL f0_trace v0_ran.toInt (TR (f0_kinds v0_actor.toNatClampNeg).toInt (25 - p4.toInt).toNat p2.toInt p1.toInt)) ∧ (v0_ran.toInt = v0_ran.toInt + (((TR (f0_kinds v0_actor.toNatClampNeg).toInt (25 - p4.toInt).toNat p2.toInt p1.toInt).length : Nat) : Int)) := ⟨i2, (by omega), (by first | exact (FR_zero (by omega)).symm | exact (FR_none (by rw [← hI1]; exact ownI_neg (by omega))).symm), (by first | (rw [TR_zero (by omega)]; rfl) | (rw [TR_none (by rw [← hI1]; exact ownI_neg (by omega))]; rfl)), (by first | (rw [TR_zero (by omega)]; show _ = _ + ((0 : Nat) : Int); omega) | (rw [TR_none (by rw [← hI1]; exact ownI_neg (by omega))]; show _ = _ + ((0 : Nat) : Int); omega))⟩
        exact ret _ _ _ _ 0 (v0_ran, f0_trace) dX0_from_58 hpo hP hD hS
      have c9 := ci_nle c9
      refine lv_iload hx hb dX0_from_13 (lv_at hl 1 rfl) ?_
      refine lv_if_lt (tgt := 45) hx hb dX0_from_15 (by decide) (fun c61 => ?_) (fun c61 => ?_)
      · have c61 := ci_lt c61
        refine lv_iload hx hb dX0_from_45 (lv_at hl 1 rfl) ?_
        refine lv_if_lt (tgt := 57) hx hb dX0_from_47 (by decide) (fun c62 => ?_) (fun c62 => ?_)
        · have c62 := ci_lt c62
          refine lv_iconst (v := 0) hx hb dX0_from_57 (by decide) ?_
          have hpo : (0 ≤ v0_ran.toInt ∧ v0_ran.toInt ≤ 100000000) ∧ (v0_ran.toInt ≤ v0_ran.toInt ∧ v0_ran.toInt ≤ v0_ran.toInt + bb (d + 1)) ∧ ((0 : Int32) = FR v0_actor (f0_kinds v0_actor.toNatClampNeg).toInt (25 - p4.toInt).toNat p2.toInt p1.toInt p3) ∧ (f0_trace = wrL f0_trace v0_ran.toInt (TR (f0_kinds v0_actor.toNatClampNeg).toInt (25 - p4.toInt).toNat p2.toInt p1.toInt)) ∧ (v0_ran.toInt = v0_ran.toInt + (((TR (f0_kinds v0_actor.toNatClampNeg).toInt (25 - p4.toInt).toNat p2.toInt p1.toInt).length : Nat) : Int)) := ⟨i2, (by omega), (by first | exact (FR_zero (by omega)).symm | exact (FR_none (by rw [← hI1]; exact ownI_neg (by omega))).symm), (by first | (rw [TR_zero (by omega)]; rfl) | (rw [TR_none (by rw [← hI1]; exact ownI_neg (by omega))]; rfl)), (by first | (rw [TR_zero (by omega)]; show _ = _ + ((0 : Nat) : Int); omega) | (rw [TR_none (by rw [← hI1]; exact ownI_neg (by omega))]; show _ = _ + ((0 : Nat) : Int); omega))⟩
          exact ret _ _ _ _ 0 (v0_ran, f0_trace) dX0_from_58 hpo hP hD hS
        have c62 := ci_nlt c62
        refine lv_iload hx hb dX0_from_50 (lv_at hl 6 rfl) ?_
        refine lv_bipush (v := 24) hx hb dX0_from_52 (by decide) ?_
        refine lv_icmp_le (tgt := 59) hx hb dX0_from_54 (by decide) (fun c63 => ?_) (fun c63 => ?_)
        · have c63 := ci_le c63
          refine va_gets hx hb z2 hS hown w0 (fun _ h9 => h9) dX0_from_59 ?_
          refine lv_iconst (v := 4) hx hb dX0_from_62 (by decide) ?_
          refine lv_iload hx hb dX0_from_63 (lv_at hl 1 rfl) ?_
          refine lv_imul hx hb dX0_from_65 ?_
          refine lv_topi (fun x64 e65 => ?_)
          try have h66 : x64.toInt = 4 * k2.toInt := ci_mulL (n := 4) (by decide) e65 (by omega) (by omega)
          refine lv_iload_n hx hb dX0_from_66 rfl (lv_at hl 4 rfl) ?_
          refine lv_iadd hx hb dX0_from_67 ?_
          refine lv_topi (fun x67 e68 => ?_)
          try have h69 : x67.toInt = x64.toInt + p2.toInt := ci_add e68 (by omega) (by omega)
          have hix : x67.toNatClampNeg = (4 * k2.toInt + p2.toInt).toNat := by rw [← show x67.toInt = 4 * k2.toInt + p2.toInt from by omega]; rfl
          refine va_ti hx hb y2 hS (i := x67) (ix (by omega) (by omega)) rfl dX0_from_68 ?_
          refine lv_topi (fun x70 e71 => ?_)
          have hov : x70.toInt = (tbOwn.getD (4 * k2.toInt + p2.toInt).toNat 0).toInt := by rw [e71, hix]
          have how := own_cases p2.toInt k2.toInt (by omega) (by omega)
          refine lv_istore (lv' := [(6, .int x70), (5, .int k2), (0, .ref a0), (1, .int p1), (2, .int p2), (3, .int p3), (4, .int p4)]) hx hb dX0_from_69 hl (by decide) rfl (fun ls hl => ?_)
          refine lv_aload_n hx hb dX0_from_71 rfl (lv_at hl 2 rfl) ?_
          refine va_get (D := D) (ci := 0) (v := .int v0_ran) (C := RX0) (T := TX0) (N := 5) hx hb hts w2 hown hK.1 hP 0 rfl rfl 3 (by decide) w1 (fun _ h9 => h9) rfl dX0_from_72 ?_
          refine lv_aload_n hx hb dX0_from_75 rfl (lv_at hl 2 rfl) ?_
          refine va_get (D := D) (ci := 0) (v := .ref (r0 2)) (C := RX0) (T := TX0) (N := 5) hx hb hts w2 hown hK.1 hP 0 rfl rfl 2 (by decide) w3 (fun _ h9 => h9) rfl dX0_from_76 ?_
          refine va_alen hx hb hK.1 hP 2 1 rfl rfl (v := 24) rfl dX0_from_79 ?_
          refine lv_icmp_ge (tgt := 94) hx hb dX0_from_80 (by decide) (fun c72 => ?_) (fun c72 => ?_)
          · have c72 := ci_le c72
            have hgg : (v0_ran.toInt < 24 ∧ f0_trace = upd f0_trace v0_ran.toNatClampNeg x70) ∨ (24 ≤ v0_ran.toInt ∧ f0_trace = f0_trace) := by first | exact Or.inl ⟨by omega, e71⟩ | exact Or.inr ⟨by omega, rfl⟩
            refine lv_aload_n hx hb dX0_from_94 rfl (lv_at hl 2 rfl) ?_
            refine lv_dup hx hb dX0_from_95 rfl ?_
            refine va_get (D := D) (ci := 0) (v := .int v0_ran) (C := RX0) (T := TX0) (N := 5) hx hb hts w2 hown hK.1 hP 0 rfl rfl 3 (by decide) w1 (fun _ h9 => h9) rfl dX0_from_96 ?_
            refine lv_iconst (v := 1) hx hb dX0_from_99 (by decide) ?_
            refine lv_iadd hx hb dX0_from_100 ?_
            refine lv_topi (fun x73 e74 => ?_)
            try have h75 : x73.toInt = v0_ran.toInt + (1 : Int32).toInt := ci_add e74 (by omega) (by omega)
            refine va_put (D := D) (ci := 0) (v := .int x73) (ty := .int) (C := RX0) (T := TX0) (N := 5) hx hb hts w2 tyX0 tyX0_ok nmX0 hown hK.1 hP hD hS 0 rfl rfl 3 (by decide) w1 (fun _ h9 => h9) rfl (by decide +kernel) rfl rfl (Nat.le_of_ble_eq_true rfl) dX0_from_101 (fun H locs hP hD hS => ?_)
            obtain ⟨hP, hD⟩ : PD D A [O0 a0 r0 v0_count x73 v0_actor, (cI κ (r0 0) 50 f0_kinds), (cI κ (r0 2) 24 f0_trace)] H := ⟨hP, hD⟩
            have h76 : 0 ≤ x73.toInt ∧ x73.toInt ≤ 100000000 := by omega
            have hr1 : x73.toInt = v0_ran.toInt + 1 := by omega
            refine lv_aload_n hx hb dX0_from_104 rfl (lv_at hl 2 rfl) ?_
            refine lv_iload hx hb dX0_from_105 (lv_at hl 0 rfl) ?_
            refine va_gets hx hb z1 hS hown w4 (fun _ h9 => h9) dX0_from_107 ?_
            refine lv_iload hx hb dX0_from_110 (lv_at hl 1 rfl) ?_
            refine va_ti hx hb y1 hS (i := k2) (ix (by omega) (by omega)) rfl dX0_from_112 ?_
            refine lv_topi (fun x77 e78 => ?_)
            have h79 := tb_above k2.toNatClampNeg; rw [← e78] at h79
            have hav : x77.toInt = (tbAbove.getD k2.toInt.toNat 0).toInt := by rw [e78]; rfl
            have hw1 : ownI p2.toInt k2.toInt = x70.toInt := by rcases how with ⟨h, _, _⟩ | ⟨_, h, _⟩; exact absurd h (by omega); rw [h, hov]
            have hw2 : abvI p2.toInt k2.toInt = x77.toInt := by rcases how with ⟨h, _, _⟩ | ⟨_, _, h⟩; exact absurd h (by omega); rw [h, hav]
            have hn0 : ownI p2.toInt p1.toInt ≠ 0 := by rw [← hI1]; rcases how with ⟨h, _, _⟩ | ⟨h1, h2, _⟩; exact absurd h (by omega); rw [h2]; exact h1
            refine lv_iload_n hx hb dX0_from_113 rfl (lv_at hl 5 rfl) ?_
            refine lv_iload hx hb dX0_from_114 (lv_at hl 6 rfl) ?_
            refine lv_iconst (v := 1) hx hb dX0_from_116 (by decide) ?_
            refine lv_iadd hx hb dX0_from_117 ?_
            refine lv_topi (fun x80 e81 => ?_)
            try have h82 : x80.toInt = p4.toInt + (1 : Int32).toInt := ci_add e81 (by omega) (by omega)
            have hd9 : x80.toInt = p4.toInt + 1 := by omega
            refine kcm_i hA hAB hP hD hS [true, true, true] rfl (fun _ => rfl) (fun hPc hDc => va_runV (As := [.int x70, .int x77, .int p3, .int x80]) (rest := []) ⟨hx, hb, hml, hown, hts⟩ (hrun a0 r0 v0_count x73 v0_actor f0_kinds f0_trace H.size x70 x77 p3 x80 i1 h76 i3 hf0_kinds (by omega) (by omega) (by omega) (by omega)) (cwV 4 hts gX0_from_X0_run rfl rfl rfl (by decide +kernel) ⟨by dsimp only; omega, by dsimp only; omega⟩) (pk_V hK hS hAB hPc hDc 0 (ci := 0) rfl rfl rfl) rfl rfl hl.1 rfl (lv_room (Nat.le_of_ble_eq_true rfl)) dX0_from_118 ⟨Nat.le_of_ble_eq_true rfl, Nat.le_of_ble_eq_true rfl⟩) (fun x85 u86 H locs hw hPD hS => ?_)
            obtain ⟨x83, g84⟩ := u86
            obtain ⟨h87, h88, h89, h90, h91⟩ : (0 ≤ x83.toInt ∧ x83.toInt ≤ 100000000) ∧ (x73.toInt ≤ x83.toInt ∧ x83.toInt ≤ x73.toInt + 2 * bb d) ∧ (x85 = runF (FR v0_actor (f0_kinds v0_actor.toNatClampNeg).toInt (25 - x80.toInt).toNat) v0_actor (f0_kinds v0_actor.toNatClampNeg).toInt x70.toInt x77.toInt p3) ∧ (g84 = wrL f0_trace x73.toInt (runT (TR (f0_kinds v0_actor.toNatClampNeg).toInt (25 - x80.toInt).toNat) (f0_kinds v0_actor.toNatClampNeg).toInt x70.toInt x77.toInt)) ∧ (x83.toInt = x73.toInt + (((runT (TR (f0_kinds v0_actor.toNatClampNeg).toInt (25 - x80.toInt).toNat) (f0_kinds v0_actor.toNatClampNeg).toInt x70.toInt x77.toInt).length : Nat) : Int)) := hw
            obtain ⟨hP, hD⟩ : PD D A [O0 a0 r0 v0_count x83 v0_actor, (cI κ (r0 0) 50 f0_kinds), (cI κ (r0 2) 24 g84)] H := hPD
            have hpo : (0 ≤ x83.toInt ∧ x83.toInt ≤ 100000000) ∧ (v0_ran.toInt ≤ x83.toInt ∧ x83.toInt ≤ v0_ran.toInt + bb (d + 1)) ∧ (x85 = FR v0_actor (f0_kinds v0_actor.toNatClampNeg).toInt (25 - p4.toInt).toNat p2.toInt p1.toInt p3) ∧ (g84 = wrL f0_trace v0_ran.toInt (TR (f0_kinds v0_actor.toNatClampNeg).toInt (25 - p4.toInt).toNat p2.toInt p1.toInt)) ∧ (x83.toInt = v0_ran.toInt + (((TR (f0_kinds v0_actor.toNatClampNeg).toInt (25 - p4.toInt).toNat p2.toInt p1.toInt).length : Nat) : Int)) := ⟨h87, (by omega), (by rw [FR_step (by omega) hd9, ← hI1, ← hI2, hw1, hw2]; assumption), (by rw [TR_step (by omega) hd9 hn0, ← hI1, ← hI2, hw1, hw2, wrL_one rfl hgg, ← hr1]; assumption), (by rw [TR_step (by omega) hd9 hn0, ← hI1, ← hI2, hw1, hw2, List.length_cons]; omega)⟩
            exact ret _ _ _ _ x85 (x83, g84) dX0_from_121 hpo hP hD hS
          have c72 := ci_nle c72
          refine lv_aload_n hx hb dX0_from_83 rfl (lv_at hl 2 rfl) ?_
          refine va_get (D := D) (ci := 0) (v := .ref (r0 2)) (C := RX0) (T := TX0) (N := 5) hx hb hts w2 hown hK.1 hP 0 rfl rfl 2 (by decide) w3 (fun _ h9 => h9) rfl dX0_from_84 ?_
          refine lv_aload_n hx hb dX0_from_87 rfl (lv_at hl 2 rfl) ?_
          refine va_get (D := D) (ci := 0) (v := .int v0_ran) (C := RX0) (T := TX0) (N := 5) hx hb hts w2 hown hK.1 hP 0 rfl rfl 3 (by decide) w1 (fun _ h9 => h9) rfl dX0_from_88 ?_
          refine lv_iload hx hb dX0_from_91 (lv_at hl 0 rfl) ?_
          refine va_iast hx hb hK.1 hP hD hS 2 1 rfl rfl (i := v0_ran) (ix (by omega) (by omega)) dX0_from_93 (fun H locs hP hD hS => ?_)
          obtain ⟨g92, e93⟩ : ∃ y : Nat → Int32, y = upd f0_trace v0_ran.toNatClampNeg x70 := ⟨_, rfl⟩
          rw [← e93] at hP hD
          obtain ⟨hP, hD⟩ : PD D A [O0 a0 r0 v0_count v0_ran v0_actor, (cI κ (r0 0) 50 f0_kinds), (cI κ (r0 2) 24 g92)] H := ⟨hP, hD⟩
          have hgg : (v0_ran.toInt < 24 ∧ g92 = upd f0_trace v0_ran.toNatClampNeg x70) ∨ (24 ≤ v0_ran.toInt ∧ g92 = f0_trace) := by first | exact Or.inl ⟨by omega, e93⟩ | exact Or.inr ⟨by omega, rfl⟩
          refine lv_aload_n hx hb dX0_from_94 rfl (lv_at hl 2 rfl) ?_
          refine lv_dup hx hb dX0_from_95 rfl ?_
          refine va_get (D := D) (ci := 0) (v := .int v0_ran) (C := RX0) (T := TX0) (N := 5) hx hb hts w2 hown hK.1 hP 0 rfl rfl 3 (by decide) w1 (fun _ h9 => h9) rfl dX0_from_96 ?_
          refine lv_iconst (v := 1) hx hb dX0_from_99 (by decide) ?_
          refine lv_iadd hx hb dX0_from_100 ?_
          refine lv_topi (fun x94 e95 => ?_)
          try have h96 : x94.toInt = v0_ran.toInt + (1 : Int32).toInt := ci_add e95 (by omega) (by omega)
          refine va_put (D := D) (ci := 0) (v := .int x94) (ty := .int) (C := RX0) (T := TX0) (N := 5) hx hb hts w2 tyX0 tyX0_ok nmX0 hown hK.1 hP hD hS 0 rfl rfl 3 (by decide) w1 (fun _ h9 => h9) rfl (by decide +kernel) rfl rfl (Nat.le_of_ble_eq_true rfl) dX0_from_101 (fun H locs hP hD hS => ?_)
          obtain ⟨hP, hD⟩ : PD D A [O0 a0 r0 v0_count x94 v0_actor, (cI κ (r0 0) 50 f0_kinds), (cI κ (r0 2) 24 g92)] H := ⟨hP, hD⟩
          have h97 : 0 ≤ x94.toInt ∧ x94.toInt ≤ 100000000 := by omega
          have hr1 : x94.toInt = v0_ran.toInt + 1 := by omega
          refine lv_aload_n hx hb dX0_from_104 rfl (lv_at hl 2 rfl) ?_
          refine lv_iload hx hb dX0_from_105 (lv_at hl 0 rfl) ?_
          refine va_gets hx hb z1 hS hown w4 (fun _ h9 => h9) dX0_from_107 ?_
          refine lv_iload hx hb dX0_from_110 (lv_at hl 1 rfl) ?_
          refine va_ti hx hb y1 hS (i := k2) (ix (by omega) (by omega)) rfl dX0_from_112 ?_
          refine lv_topi (fun x98 e99 => ?_)
          have h100 := tb_above k2.toNatClampNeg; rw [← e99] at h100
          have hav : x98.toInt = (tbAbove.getD k2.toInt.toNat 0).toInt := by rw [e99]; rfl
          have hw1 : ownI p2.toInt k2.toInt = x70.toInt := by rcases how with ⟨h, _, _⟩ | ⟨_, h, _⟩; exact absurd h (by omega); rw [h, hov]
          have hw2 : abvI p2.toInt k2.toInt = x98.toInt := by rcases how with ⟨h, _, _⟩ | ⟨_, _, h⟩; exact absurd h (by omega); rw [h, hav]
          have hn0 : ownI p2.toInt p1.toInt ≠ 0 := by rw [← hI1]; rcases how with ⟨h, _, _⟩ | ⟨h1, h2, _⟩; exact absurd h (by omega); rw [h2]; exact h1
          refine lv_iload_n hx hb dX0_from_113 rfl (lv_at hl 5 rfl) ?_
          refine lv_iload hx hb dX0_from_114 (lv_at hl 6 rfl) ?_
          refine lv_iconst (v := 1) hx hb dX0_from_116 (by decide) ?_
          refine lv_iadd hx hb dX0_from_117 ?_
          refine lv_topi (fun x101 e102 => ?_)
          try have h103 : x101.toInt = p4.toInt + (1 : Int32).toInt := ci_add e102 (by omega) (by omega)
          have hd9 : x101.toInt = p4.toInt + 1 := by omega
          refine kcm_i hA hAB hP hD hS [true, true, true] rfl (fun _ => rfl) (fun hPc hDc => va_runV (As := [.int x70, .int x98, .int p3, .int x101]) (rest := []) ⟨hx, hb, hml, hown, hts⟩ (hrun a0 r0 v0_count x94 v0_actor f0_kinds g92 H.size x70 x98 p3 x101 i1 h97 i3 hf0_kinds (by omega) (by omega) (by omega) (by omega)) (cwV 4 hts gX0_from_X0_run rfl rfl rfl (by decide +kernel) ⟨by dsimp only; omega, by dsimp only; omega⟩) (pk_V hK hS hAB hPc hDc 0 (ci := 0) rfl rfl rfl) rfl rfl hl.1 rfl (lv_room (Nat.le_of_ble_eq_true rfl)) dX0_from_118 ⟨Nat.le_of_ble_eq_true rfl, Nat.le_of_ble_eq_true rfl⟩) (fun x106 u107 H locs hw hPD hS => ?_)
          obtain ⟨x104, g105⟩ := u107
          obtain ⟨h108, h109, h110, h111, h112⟩ : (0 ≤ x104.toInt ∧ x104.toInt ≤ 100000000) ∧ (x94.toInt ≤ x104.toInt ∧ x104.toInt ≤ x94.toInt + 2 * bb d) ∧ (x106 = runF (FR v0_actor (f0_kinds v0_actor.toNatClampNeg).toInt (25 - x101.toInt).toNat) v0_actor (f0_kinds v0_actor.toNatClampNeg).toInt x70.toInt x98.toInt p3) ∧ (g105 = wrL g92 x94.toInt (runT (TR (f0_kinds v0_actor.toNatClampNeg).toInt (25 - x101.toInt).toNat) (f0_kinds v0_actor.toNatClampNeg).toInt x70.toInt x98.toInt)) ∧ (x104.toInt = x94.toInt + (((runT (TR (f0_kinds v0_actor.toNatClampNeg).toInt (25 - x101.toInt).toNat) (f0_kinds v0_actor.toNatClampNeg).toInt x70.toInt x98.toInt).length : Nat) : Int)) := hw
          obtain ⟨hP, hD⟩ : PD D A [O0 a0 r0 v0_count x104 v0_actor, (cI κ (r0 0) 50 f0_kinds), (cI κ (r0 2) 24 g105)] H := hPD
          have hpo : (0 ≤ x104.toInt ∧ x104.toInt ≤ 100000000) ∧ (v0_ran.toInt ≤ x104.toInt ∧ x104.toInt ≤ v0_ran.toInt + bb (d + 1)) ∧ (x106 = FR v0_actor (f0_kinds v0_actor.toNatClampNeg).toInt (25 - p4.toInt).toNat p2.toInt p1.toInt p3) ∧ (g105 = wrL f0_trace v0_ran.toInt (TR (f0_kinds v0_actor.toNatClampNeg).toInt (25 - p4.toInt).toNat p2.toInt p1.toInt)) ∧ (x104.toInt = v0_ran.toInt + (((TR (f0_kinds v0_actor.toNatClampNeg).toInt (25 - p4.toInt).toNat p2.toInt p1.toInt).length : Nat) : Int)) := ⟨h108, (by omega), (by rw [FR_step (by omega) hd9, ← hI1, ← hI2, hw1, hw2]; assumption), (by rw [TR_step (by omega) hd9 hn0, ← hI1, ← hI2, hw1, hw2, wrL_one rfl hgg, ← hr1]; assumption), (by rw [TR_step (by omega) hd9 hn0, ← hI1, ← hI2, hw1, hw2, List.length_cons]; omega)⟩
          exact ret _ _ _ _ x106 (x104, g105) dX0_from_121 hpo hP hD hS
        have c63 := ci_nle c63
        refine lv_iconst (v := 0) hx hb dX0_from_57 (by decide) ?_
        have hpo : (0 ≤ v0_ran.toInt ∧ v0_ran.toInt ≤ 100000000) ∧ (v0_ran.toInt ≤ v0_ran.toInt ∧ v0_ran.toInt ≤ v0_ran.toInt + bb (d + 1)) ∧ ((0 : Int32) = FR v0_actor (f0_kinds v0_actor.toNatClampNeg).toInt (25 - p4.toInt).toNat p2.toInt p1.toInt p3) ∧ (f0_trace = wrL f0_trace v0_ran.toInt (TR (f0_kinds v0_actor.toNatClampNeg).toInt (25 - p4.toInt).toNat p2.toInt p1.toInt)) ∧ (v0_ran.toInt = v0_ran.toInt + (((TR (f0_kinds v0_actor.toNatClampNeg).toInt (25 - p4.toInt).toNat p2.toInt p1.toInt).length : Nat) : Int)) := ⟨i2, (by omega), (by first | exact (FR_zero (by omega)).symm | exact (FR_none (by rw [← hI1]; exact ownI_neg (by omega))).symm), (by first | (rw [TR_zero (by omega)]; rfl) | (rw [TR_none (by rw [← hI1]; exact ownI_neg (by omega))]; rfl)), (by first | (rw [TR_zero (by omega)]; show _ = _ + ((0 : Nat) : Int); omega) | (rw [TR_none (by rw [← hI1]; exact ownI_neg (by omega))]; show _ = _ + ((0 : Nat) : Int); omega))⟩
        exact ret _ _ _ _ 0 (v0_ran, f0_trace) dX0_from_58 hpo hP hD hS
      have c61 := ci_nlt c61
      refine va_gets hx hb z2 hS hown w0 (fun _ h9 => h9) dX0_from_18 ?_
      refine lv_iconst (v := 4) hx hb dX0_from_21 (by decide) ?_
      refine lv_iload hx hb dX0_from_22 (lv_at hl 1 rfl) ?_
      refine lv_imul hx hb dX0_from_24 ?_
      refine lv_topi (fun x113 e114 => ?_)
      try have h115 : x113.toInt = 4 * k2.toInt := ci_mulL (n := 4) (by decide) e114 (by omega) (by omega)
      refine lv_iload_n hx hb dX0_from_25 rfl (lv_at hl 4 rfl) ?_
      refine lv_iadd hx hb dX0_from_26 ?_
      refine lv_topi (fun x116 e117 => ?_)
      try have h118 : x116.toInt = x113.toInt + p2.toInt := ci_add e117 (by omega) (by omega)
      have hix : x116.toNatClampNeg = (4 * k2.toInt + p2.toInt).toNat := by rw [← show x116.toInt = 4 * k2.toInt + p2.toInt from by omega]; rfl
      refine va_ti hx hb y2 hS (i := x116) (ix (by omega) (by omega)) rfl dX0_from_27 ?_
      refine lv_topi (fun x119 e120 => ?_)
      have hov : x119.toInt = (tbOwn.getD (4 * k2.toInt + p2.toInt).toNat 0).toInt := by rw [e120, hix]
      have how := own_cases p2.toInt k2.toInt (by omega) (by omega)
      refine lv_if_ne (tgt := 45) hx hb dX0_from_28 (by decide) (fun c121 => ?_) (fun c121 => ?_)
      · have c121 := ci_ne c121
        refine lv_iload hx hb dX0_from_45 (lv_at hl 1 rfl) ?_
        refine lv_if_lt (tgt := 57) hx hb dX0_from_47 (by decide) (fun c122 => ?_) (fun c122 => ?_)
        · have c122 := ci_lt c122
          refine lv_iconst (v := 0) hx hb dX0_from_57 (by decide) ?_
          have hpo : (0 ≤ v0_ran.toInt ∧ v0_ran.toInt ≤ 100000000) ∧ (v0_ran.toInt ≤ v0_ran.toInt ∧ v0_ran.toInt ≤ v0_ran.toInt + bb (d + 1)) ∧ ((0 : Int32) = FR v0_actor (f0_kinds v0_actor.toNatClampNeg).toInt (25 - p4.toInt).toNat p2.toInt p1.toInt p3) ∧ (f0_trace = wrL f0_trace v0_ran.toInt (TR (f0_kinds v0_actor.toNatClampNeg).toInt (25 - p4.toInt).toNat p2.toInt p1.toInt)) ∧ (v0_ran.toInt = v0_ran.toInt + (((TR (f0_kinds v0_actor.toNatClampNeg).toInt (25 - p4.toInt).toNat p2.toInt p1.toInt).length : Nat) : Int)) := ⟨i2, (by omega), (by first | exact (FR_zero (by omega)).symm | exact (FR_none (by rw [← hI1]; exact ownI_neg (by omega))).symm), (by first | (rw [TR_zero (by omega)]; rfl) | (rw [TR_none (by rw [← hI1]; exact ownI_neg (by omega))]; rfl)), (by first | (rw [TR_zero (by omega)]; show _ = _ + ((0 : Nat) : Int); omega) | (rw [TR_none (by rw [← hI1]; exact ownI_neg (by omega))]; show _ = _ + ((0 : Nat) : Int); omega))⟩
          exact ret _ _ _ _ 0 (v0_ran, f0_trace) dX0_from_58 hpo hP hD hS
        have c122 := ci_nlt c122
        refine lv_iload hx hb dX0_from_50 (lv_at hl 6 rfl) ?_
        refine lv_bipush (v := 24) hx hb dX0_from_52 (by decide) ?_
        refine lv_icmp_le (tgt := 59) hx hb dX0_from_54 (by decide) (fun c123 => ?_) (fun c123 => ?_)
        · have c123 := ci_le c123
          refine va_gets hx hb z2 hS hown w0 (fun _ h9 => h9) dX0_from_59 ?_
          refine lv_iconst (v := 4) hx hb dX0_from_62 (by decide) ?_
          refine lv_iload hx hb dX0_from_63 (lv_at hl 1 rfl) ?_
          refine lv_imul hx hb dX0_from_65 ?_
          refine lv_topi (fun x124 e125 => ?_)
          try have h126 : x124.toInt = 4 * k2.toInt := ci_mulL (n := 4) (by decide) e125 (by omega) (by omega)
          refine lv_iload_n hx hb dX0_from_66 rfl (lv_at hl 4 rfl) ?_
          refine lv_iadd hx hb dX0_from_67 ?_
          refine lv_topi (fun x127 e128 => ?_)
          try have h129 : x127.toInt = x124.toInt + p2.toInt := ci_add e128 (by omega) (by omega)
          have hix : x127.toNatClampNeg = (4 * k2.toInt + p2.toInt).toNat := by rw [← show x127.toInt = 4 * k2.toInt + p2.toInt from by omega]; rfl
          refine va_ti hx hb y2 hS (i := x127) (ix (by omega) (by omega)) rfl dX0_from_68 ?_
          refine lv_topi (fun x130 e131 => ?_)
          have hov : x130.toInt = (tbOwn.getD (4 * k2.toInt + p2.toInt).toNat 0).toInt := by rw [e131, hix]
          have how := own_cases p2.toInt k2.toInt (by omega) (by omega)
          refine lv_istore (lv' := [(6, .int x130), (5, .int k2), (0, .ref a0), (1, .int p1), (2, .int p2), (3, .int p3), (4, .int p4)]) hx hb dX0_from_69 hl (by decide) rfl (fun ls hl => ?_)
          refine lv_aload_n hx hb dX0_from_71 rfl (lv_at hl 2 rfl) ?_
          refine va_get (D := D) (ci := 0) (v := .int v0_ran) (C := RX0) (T := TX0) (N := 5) hx hb hts w2 hown hK.1 hP 0 rfl rfl 3 (by decide) w1 (fun _ h9 => h9) rfl dX0_from_72 ?_
          refine lv_aload_n hx hb dX0_from_75 rfl (lv_at hl 2 rfl) ?_
          refine va_get (D := D) (ci := 0) (v := .ref (r0 2)) (C := RX0) (T := TX0) (N := 5) hx hb hts w2 hown hK.1 hP 0 rfl rfl 2 (by decide) w3 (fun _ h9 => h9) rfl dX0_from_76 ?_
          refine va_alen hx hb hK.1 hP 2 1 rfl rfl (v := 24) rfl dX0_from_79 ?_
          refine lv_icmp_ge (tgt := 94) hx hb dX0_from_80 (by decide) (fun c132 => ?_) (fun c132 => ?_)
          · have c132 := ci_le c132
            have hgg : (v0_ran.toInt < 24 ∧ f0_trace = upd f0_trace v0_ran.toNatClampNeg x130) ∨ (24 ≤ v0_ran.toInt ∧ f0_trace = f0_trace) := by first | exact Or.inl ⟨by omega, e131⟩ | exact Or.inr ⟨by omega, rfl⟩
            refine lv_aload_n hx hb dX0_from_94 rfl (lv_at hl 2 rfl) ?_
            refine lv_dup hx hb dX0_from_95 rfl ?_
            refine va_get (D := D) (ci := 0) (v := .int v0_ran) (C := RX0) (T := TX0) (N := 5) hx hb hts w2 hown hK.1 hP 0 rfl rfl 3 (by decide) w1 (fun _ h9 => h9) rfl dX0_from_96 ?_
            refine lv_iconst (v := 1) hx hb dX0_from_99 (by decide) ?_
            refine lv_iadd hx hb dX0_from_100 ?_
            refine lv_topi (fun x133 e134 => ?_)
            try have h135 : x133.toInt = v0_ran.toInt + (1 : Int32).toInt := ci_add e134 (by omega) (by omega)
            refine va_put (D := D) (ci := 0) (v := .int x133) (ty := .int) (C := RX0) (T := TX0) (N := 5) hx hb hts w2 tyX0 tyX0_ok nmX0 hown hK.1 hP hD hS 0 rfl rfl 3 (by decide) w1 (fun _ h9 => h9) rfl (by decide +kernel) rfl rfl (Nat.le_of_ble_eq_true rfl) dX0_from_101 (fun H locs hP hD hS => ?_)
            obtain ⟨hP, hD⟩ : PD D A [O0 a0 r0 v0_count x133 v0_actor, (cI κ (r0 0) 50 f0_kinds), (cI κ (r0 2) 24 f0_trace)] H := ⟨hP, hD⟩
            have h136 : 0 ≤ x133.toInt ∧ x133.toInt ≤ 100000000 := by omega
            have hr1 : x133.toInt = v0_ran.toInt + 1 := by omega
            refine lv_aload_n hx hb dX0_from_104 rfl (lv_at hl 2 rfl) ?_
            refine lv_iload hx hb dX0_from_105 (lv_at hl 0 rfl) ?_
            refine va_gets hx hb z1 hS hown w4 (fun _ h9 => h9) dX0_from_107 ?_
            refine lv_iload hx hb dX0_from_110 (lv_at hl 1 rfl) ?_
            refine va_ti hx hb y1 hS (i := k2) (ix (by omega) (by omega)) rfl dX0_from_112 ?_
            refine lv_topi (fun x137 e138 => ?_)
            have h139 := tb_above k2.toNatClampNeg; rw [← e138] at h139
            have hav : x137.toInt = (tbAbove.getD k2.toInt.toNat 0).toInt := by rw [e138]; rfl
            have hw1 : ownI p2.toInt k2.toInt = x130.toInt := by rcases how with ⟨h, _, _⟩ | ⟨_, h, _⟩; exact absurd h (by omega); rw [h, hov]
            have hw2 : abvI p2.toInt k2.toInt = x137.toInt := by rcases how with ⟨h, _, _⟩ | ⟨_, _, h⟩; exact absurd h (by omega); rw [h, hav]
            have hn0 : ownI p2.toInt p1.toInt ≠ 0 := by rw [← hI1]; rcases how with ⟨h, _, _⟩ | ⟨h1, h2, _⟩; exact absurd h (by omega); rw [h2]; exact h1
            refine lv_iload_n hx hb dX0_from_113 rfl (lv_at hl 5 rfl) ?_
            refine lv_iload hx hb dX0_from_114 (lv_at hl 6 rfl) ?_
            refine lv_iconst (v := 1) hx hb dX0_from_116 (by decide) ?_
            refine lv_iadd hx hb dX0_from_117 ?_
            refine lv_topi (fun x140 e141 => ?_)
            try have h142 : x140.toInt = p4.toInt + (1 : Int32).toInt := ci_add e141 (by omega) (by omega)
            have hd9 : x140.toInt = p4.toInt + 1 := by omega
            refine kcm_i hA hAB hP hD hS [true, true, true] rfl (fun _ => rfl) (fun hPc hDc => va_runV (As := [.int x130, .int x137, .int p3, .int x140]) (rest := []) ⟨hx, hb, hml, hown, hts⟩ (hrun a0 r0 v0_count x133 v0_actor f0_kinds f0_trace H.size x130 x137 p3 x140 i1 h136 i3 hf0_kinds (by omega) (by omega) (by omega) (by omega)) (cwV 4 hts gX0_from_X0_run rfl rfl rfl (by decide +kernel) ⟨by dsimp only; omega, by dsimp only; omega⟩) (pk_V hK hS hAB hPc hDc 0 (ci := 0) rfl rfl rfl) rfl rfl hl.1 rfl (lv_room (Nat.le_of_ble_eq_true rfl)) dX0_from_118 ⟨Nat.le_of_ble_eq_true rfl, Nat.le_of_ble_eq_true rfl⟩) (fun x145 u146 H locs hw hPD hS => ?_)
            obtain ⟨x143, g144⟩ := u146
            obtain ⟨h147, h148, h149, h150, h151⟩ : (0 ≤ x143.toInt ∧ x143.toInt ≤ 100000000) ∧ (x133.toInt ≤ x143.toInt ∧ x143.toInt ≤ x133.toInt + 2 * bb d) ∧ (x145 = runF (FR v0_actor (f0_kinds v0_actor.toNatClampNeg).toInt (25 - x140.toInt).toNat) v0_actor (f0_kinds v0_actor.toNatClampNeg).toInt x130.toInt x137.toInt p3) ∧ (g144 = wrL f0_trace x133.toInt (runT (TR (f0_kinds v0_actor.toNatClampNeg).toInt (25 - x140.toInt).toNat) (f0_kinds v0_actor.toNatClampNeg).toInt x130.toInt x137.toInt)) ∧ (x143.toInt = x133.toInt + (((runT (TR (f0_kinds v0_actor.toNatClampNeg).toInt (25 - x140.toInt).toNat) (f0_kinds v0_actor.toNatClampNeg).toInt x130.toInt x137.toInt).length : Nat) : Int)) := hw
            obtain ⟨hP, hD⟩ : PD D A [O0 a0 r0 v0_count x143 v0_actor, (cI κ (r0 0) 50 f0_kinds), (cI κ (r0 2) 24 g144)] H := hPD
            have hpo : (0 ≤ x143.toInt ∧ x143.toInt ≤ 100000000) ∧ (v0_ran.toInt ≤ x143.toInt ∧ x143.toInt ≤ v0_ran.toInt + bb (d + 1)) ∧ (x145 = FR v0_actor (f0_kinds v0_actor.toNatClampNeg).toInt (25 - p4.toInt).toNat p2.toInt p1.toInt p3) ∧ (g144 = wrL f0_trace v0_ran.toInt (TR (f0_kinds v0_actor.toNatClampNeg).toInt (25 - p4.toInt).toNat p2.toInt p1.toInt)) ∧ (x143.toInt = v0_ran.toInt + (((TR (f0_kinds v0_actor.toNatClampNeg).toInt (25 - p4.toInt).toNat p2.toInt p1.toInt).length : Nat) : Int)) := ⟨h147, (by omega), (by rw [FR_step (by omega) hd9, ← hI1, ← hI2, hw1, hw2]; assumption), (by rw [TR_step (by omega) hd9 hn0, ← hI1, ← hI2, hw1, hw2, wrL_one rfl hgg, ← hr1]; assumption), (by rw [TR_step (by omega) hd9 hn0, ← hI1, ← hI2, hw1, hw2, List.length_cons]; omega)⟩
            exact ret _ _ _ _ x145 (x143, g144) dX0_from_121 hpo hP hD hS
          have c132 := ci_nle c132
          refine lv_aload_n hx hb dX0_from_83 rfl (lv_at hl 2 rfl) ?_
          refine va_get (D := D) (ci := 0) (v := .ref (r0 2)) (C := RX0) (T := TX0) (N := 5) hx hb hts w2 hown hK.1 hP 0 rfl rfl 2 (by decide) w3 (fun _ h9 => h9) rfl dX0_from_84 ?_
          refine lv_aload_n hx hb dX0_from_87 rfl (lv_at hl 2 rfl) ?_
          refine va_get (D := D) (ci := 0) (v := .int v0_ran) (C := RX0) (T := TX0) (N := 5) hx hb hts w2 hown hK.1 hP 0 rfl rfl 3 (by decide) w1 (fun _ h9 => h9) rfl dX0_from_88 ?_
          refine lv_iload hx hb dX0_from_91 (lv_at hl 0 rfl) ?_
          refine va_iast hx hb hK.1 hP hD hS 2 1 rfl rfl (i := v0_ran) (ix (by omega) (by omega)) dX0_from_93 (fun H locs hP hD hS => ?_)
          obtain ⟨g152, e153⟩ : ∃ y : Nat → Int32, y = upd f0_trace v0_ran.toNatClampNeg x130 := ⟨_, rfl⟩
          rw [← e153] at hP hD
          obtain ⟨hP, hD⟩ : PD D A [O0 a0 r0 v0_count v0_ran v0_actor, (cI κ (r0 0) 50 f0_kinds), (cI κ (r0 2) 24 g152)] H := ⟨hP, hD⟩
          have hgg : (v0_ran.toInt < 24 ∧ g152 = upd f0_trace v0_ran.toNatClampNeg x130) ∨ (24 ≤ v0_ran.toInt ∧ g152 = f0_trace) := by first | exact Or.inl ⟨by omega, e153⟩ | exact Or.inr ⟨by omega, rfl⟩
          refine lv_aload_n hx hb dX0_from_94 rfl (lv_at hl 2 rfl) ?_
          refine lv_dup hx hb dX0_from_95 rfl ?_
          refine va_get (D := D) (ci := 0) (v := .int v0_ran) (C := RX0) (T := TX0) (N := 5) hx hb hts w2 hown hK.1 hP 0 rfl rfl 3 (by decide) w1 (fun _ h9 => h9) rfl dX0_from_96 ?_
          refine lv_iconst (v := 1) hx hb dX0_from_99 (by decide) ?_
          refine lv_iadd hx hb dX0_from_100 ?_
          refine lv_topi (fun x154 e155 => ?_)
          try have h156 : x154.toInt = v0_ran.toInt + (1 : Int32).toInt := ci_add e155 (by omega) (by omega)
          refine va_put (D := D) (ci := 0) (v := .int x154) (ty := .int) (C := RX0) (T := TX0) (N := 5) hx hb hts w2 tyX0 tyX0_ok nmX0 hown hK.1 hP hD hS 0 rfl rfl 3 (by decide) w1 (fun _ h9 => h9) rfl (by decide +kernel) rfl rfl (Nat.le_of_ble_eq_true rfl) dX0_from_101 (fun H locs hP hD hS => ?_)
          obtain ⟨hP, hD⟩ : PD D A [O0 a0 r0 v0_count x154 v0_actor, (cI κ (r0 0) 50 f0_kinds), (cI κ (r0 2) 24 g152)] H := ⟨hP, hD⟩
          have h157 : 0 ≤ x154.toInt ∧ x154.toInt ≤ 100000000 := by omega
          have hr1 : x154.toInt = v0_ran.toInt + 1 := by omega
          refine lv_aload_n hx hb dX0_from_104 rfl (lv_at hl 2 rfl) ?_
          refine lv_iload hx hb dX0_from_105 (lv_at hl 0 rfl) ?_
          refine va_gets hx hb z1 hS hown w4 (fun _ h9 => h9) dX0_from_107 ?_
          refine lv_iload hx hb dX0_from_110 (lv_at hl 1 rfl) ?_
          refine va_ti hx hb y1 hS (i := k2) (ix (by omega) (by omega)) rfl dX0_from_112 ?_
          refine lv_topi (fun x158 e159 => ?_)
          have h160 := tb_above k2.toNatClampNeg; rw [← e159] at h160
          have hav : x158.toInt = (tbAbove.getD k2.toInt.toNat 0).toInt := by rw [e159]; rfl
          have hw1 : ownI p2.toInt k2.toInt = x130.toInt := by rcases how with ⟨h, _, _⟩ | ⟨_, h, _⟩; exact absurd h (by omega); rw [h, hov]
          have hw2 : abvI p2.toInt k2.toInt = x158.toInt := by rcases how with ⟨h, _, _⟩ | ⟨_, _, h⟩; exact absurd h (by omega); rw [h, hav]
          have hn0 : ownI p2.toInt p1.toInt ≠ 0 := by rw [← hI1]; rcases how with ⟨h, _, _⟩ | ⟨h1, h2, _⟩; exact absurd h (by omega); rw [h2]; exact h1
          refine lv_iload_n hx hb dX0_from_113 rfl (lv_at hl 5 rfl) ?_
          refine lv_iload hx hb dX0_from_114 (lv_at hl 6 rfl) ?_
          refine lv_iconst (v := 1) hx hb dX0_from_116 (by decide) ?_
          refine lv_iadd hx hb dX0_from_117 ?_
          refine lv_topi (fun x161 e162 => ?_)
          try have h163 : x161.toInt = p4.toInt + (1 : Int32).toInt := ci_add e162 (by omega) (by omega)
          have hd9 : x161.toInt = p4.toInt + 1 := by omega
          refine kcm_i hA hAB hP hD hS [true, true, true] rfl (fun _ => rfl) (fun hPc hDc => va_runV (As := [.int x130, .int x158, .int p3, .int x161]) (rest := []) ⟨hx, hb, hml, hown, hts⟩ (hrun a0 r0 v0_count x154 v0_actor f0_kinds g152 H.size x130 x158 p3 x161 i1 h157 i3 hf0_kinds (by omega) (by omega) (by omega) (by omega)) (cwV 4 hts gX0_from_X0_run rfl rfl rfl (by decide +kernel) ⟨by dsimp only; omega, by dsimp only; omega⟩) (pk_V hK hS hAB hPc hDc 0 (ci := 0) rfl rfl rfl) rfl rfl hl.1 rfl (lv_room (Nat.le_of_ble_eq_true rfl)) dX0_from_118 ⟨Nat.le_of_ble_eq_true rfl, Nat.le_of_ble_eq_true rfl⟩) (fun x166 u167 H locs hw hPD hS => ?_)
          obtain ⟨x164, g165⟩ := u167
          obtain ⟨h168, h169, h170, h171, h172⟩ : (0 ≤ x164.toInt ∧ x164.toInt ≤ 100000000) ∧ (x154.toInt ≤ x164.toInt ∧ x164.toInt ≤ x154.toInt + 2 * bb d) ∧ (x166 = runF (FR v0_actor (f0_kinds v0_actor.toNatClampNeg).toInt (25 - x161.toInt).toNat) v0_actor (f0_kinds v0_actor.toNatClampNeg).toInt x130.toInt x158.toInt p3) ∧ (g165 = wrL g152 x154.toInt (runT (TR (f0_kinds v0_actor.toNatClampNeg).toInt (25 - x161.toInt).toNat) (f0_kinds v0_actor.toNatClampNeg).toInt x130.toInt x158.toInt)) ∧ (x164.toInt = x154.toInt + (((runT (TR (f0_kinds v0_actor.toNatClampNeg).toInt (25 - x161.toInt).toNat) (f0_kinds v0_actor.toNatClampNeg).toInt x130.toInt x158.toInt).length : Nat) : Int)) := hw
          obtain ⟨hP, hD⟩ : PD D A [O0 a0 r0 v0_count x164 v0_actor, (cI κ (r0 0) 50 f0_kinds), (cI κ (r0 2) 24 g165)] H := hPD
          have hpo : (0 ≤ x164.toInt ∧ x164.toInt ≤ 100000000) ∧ (v0_ran.toInt ≤ x164.toInt ∧ x164.toInt ≤ v0_ran.toInt + bb (d + 1)) ∧ (x166 = FR v0_actor (f0_kinds v0_actor.toNatClampNeg).toInt (25 - p4.toInt).toNat p2.toInt p1.toInt p3) ∧ (g165 = wrL f0_trace v0_ran.toInt (TR (f0_kinds v0_actor.toNatClampNeg).toInt (25 - p4.toInt).toNat p2.toInt p1.toInt)) ∧ (x164.toInt = v0_ran.toInt + (((TR (f0_kinds v0_actor.toNatClampNeg).toInt (25 - p4.toInt).toNat p2.toInt p1.toInt).length : Nat) : Int)) := ⟨h168, (by omega), (by rw [FR_step (by omega) hd9, ← hI1, ← hI2, hw1, hw2]; assumption), (by rw [TR_step (by omega) hd9 hn0, ← hI1, ← hI2, hw1, hw2, wrL_one rfl hgg, ← hr1]; assumption), (by rw [TR_step (by omega) hd9 hn0, ← hI1, ← hI2, hw1, hw2, List.length_cons]; omega)⟩
          exact ret _ _ _ _ x166 (x164, g165) dX0_from_121 hpo hP hD hS
        have c123 := ci_nle c123
        refine lv_iconst (v := 0) hx hb dX0_from_57 (by decide) ?_
        have hpo : (0 ≤ v0_ran.toInt ∧ v0_ran.toInt ≤ 100000000) ∧ (v0_ran.toInt ≤ v0_ran.toInt ∧ v0_ran.toInt ≤ v0_ran.toInt + bb (d + 1)) ∧ ((0 : Int32) = FR v0_actor (f0_kinds v0_actor.toNatClampNeg).toInt (25 - p4.toInt).toNat p2.toInt p1.toInt p3) ∧ (f0_trace = wrL f0_trace v0_ran.toInt (TR (f0_kinds v0_actor.toNatClampNeg).toInt (25 - p4.toInt).toNat p2.toInt p1.toInt)) ∧ (v0_ran.toInt = v0_ran.toInt + (((TR (f0_kinds v0_actor.toNatClampNeg).toInt (25 - p4.toInt).toNat p2.toInt p1.toInt).length : Nat) : Int)) := ⟨i2, (by omega), (by first | exact (FR_zero (by omega)).symm | exact (FR_none (by rw [← hI1]; exact ownI_neg (by omega))).symm), (by first | (rw [TR_zero (by omega)]; rfl) | (rw [TR_none (by rw [← hI1]; exact ownI_neg (by omega))]; rfl)), (by first | (rw [TR_zero (by omega)]; show _ = _ + ((0 : Nat) : Int); omega) | (rw [TR_none (by rw [← hI1]; exact ownI_neg (by omega))]; show _ = _ + ((0 : Nat) : Int); omega))⟩
        exact ret _ _ _ _ 0 (v0_ran, f0_trace) dX0_from_58 hpo hP hD hS
      have c121 := ci_eq c121
      refine va_gets hx hb z1 hS hown w4 (fun _ h9 => h9) dX0_from_31 ?_
      refine lv_iload hx hb dX0_from_34 (lv_at hl 1 rfl) ?_
      refine va_ti hx hb y1 hS (i := k2) (ix (by omega) (by omega)) rfl dX0_from_36 ?_
      refine lv_topi (fun x173 e174 => ?_)
      have h175 := tb_above k2.toNatClampNeg; rw [← e174] at h175
      have hcc := ci_clamp (i := k2) (by omega)
      have hav : x173.toInt = (tbAbove.getD k2.toInt.toNat 0).toInt := by rw [e174]; rfl
      have hab := ab_cases hav (by omega)
      refine lv_istore (lv' := [(5, .int x173), (6, .int k1), (0, .ref a0), (1, .int p1), (2, .int p2), (3, .int p3), (4, .int p4)]) hx hb dX0_from_37 hl (by decide) rfl (fun ls hl => ?_)
      obtain ⟨x176, e177⟩ : ∃ y : Int32, y = k1 + 1 := ⟨_, rfl⟩
      refine lv_iinc (v := x176) (lv' := [(6, .int x176), (5, .int x173), (0, .ref a0), (1, .int p1), (2, .int p2), (3, .int p3), (4, .int p4)]) hx hb dX0_from_39 hl (k := 1) rfl (by rw [e177]; rfl) (by decide) rfl (fun ls hl => ?_)
      try have h178 : x176.toInt = k1.toInt + (1 : Int32).toInt := ci_add e177 (by omega) (by omega)
      refine lv_goto (tgt := 6) hx hb dX0_from_42 (by decide) ?_
      exact ih6 x176 x173 (by omega) (by omega) (by first | rfl | (rw [hav, ← hI1]; rcases how with ⟨_, h, _⟩ | ⟨h, _⟩; exact h.symm; exact absurd h (by omega))) (by first | rfl | (rw [hav, ← hI2]; rcases how with ⟨_, _, h⟩ | ⟨h, _⟩; exact h.symm; exact absurd h (by omega))) (by omega) (by omega) _ _ hP hD hS _ hl
  exact lp6 ((8 - (0 : Int32).toInt).toNat + 1) 0 p1 (by omega) (by omega) (by first | rfl | (rw [hav, ← hI1]; rcases how with ⟨_, h, _⟩ | ⟨h, _⟩; exact h.symm; exact absurd h (by omega))) (by first | rfl | (rw [hav, ← hI2]; rcases how with ⟨_, _, h⟩ | ⟨h, _⟩; exact h.symm; exact absurd h (by omega))) (by omega) (by omega) _ _ hP hD hS _ hl
set_option maxHeartbeats 4000000 in
set_option maxRecDepth 100000 in
theorem of_X0_from0 (l : Launch) (D : va_G) (κ : Nat → ClassId) (β : Nat) : C_X0_from l D κ β 0 := by
  intro a0 r0 v0_count v0_ran v0_actor f0_kinds f0_trace sz p1 p2 p3 p4 i1 i2 i3 hf0_kinds i4 i5 i6 i7 i8
  refine ofK_i (cc := cX0_from) (maxL := 7) (own := RX0) (by decide) rfl rfl (Nat.le_of_ble_eq_true rfl) ?_
  intro p e s m args below meth c Q A ls hsz hx hb hml hts hown hK hA hAB hP hD hl ret
  have hS : va_S A s.heap s.heap [] := va_S.rf
  have hl : lv_has ls 7 [(0, .ref a0), (1, .int p1), (2, .int p2), (3, .int p3), (4, .int p4)] := hl
  have w0 := hts (.fieldLink RX0 53 "OlderSkin$Bodies" "OWN" "[I") (List.mem_of_getElem? (i := 1) rfl)
  have w1 := hts (.fieldLink RX0 35 "OlderSkin$Bodies" "ABOVE" "[I") (List.mem_of_getElem? (i := 2) rfl)
  have l0 : (0 : Int32).toInt = 0 := by decide
  have l1 : (8 : Int32).toInt = 8 := by decide
  have l2 : (24 : Int32).toInt = 24 := by decide
  have l3 : (4 : Int32).toInt = 4 := by decide
  have l4 : (1 : Int32).toInt = 1 := by decide
  have i2 : 0 ≤ v0_ran.toInt ∧ v0_ran.toInt ≤ 100000000 := i2
  have i3 : 0 ≤ v0_actor.toInt ∧ v0_actor.toInt ≤ 49 := i3
  obtain ⟨t1, t2, z1, y1, z2, y2⟩ := hK.2.2.2.2.1
  have z1 := z1.narrow hAB
  have y1 := y1.narrow hAB
  have z2 := z2.narrow hAB
  have y2 := y2.narrow hAB
  have hb0 : bb 0 = 0 := rfl
  refine lv_iload_n hx hb dX0_from_0 rfl (lv_at hl 1 rfl) ?_
  refine lv_istore (lv' := [(5, .int p1), (0, .ref a0), (1, .int p1), (2, .int p2), (3, .int p3), (4, .int p4)]) hx hb dX0_from_1 hl (by decide) rfl (fun ls hl => ?_)
  refine lv_iconst (v := 0) hx hb dX0_from_3 (by decide) ?_
  refine lv_istore (lv' := [(6, .int 0), (5, .int p1), (0, .ref a0), (1, .int p1), (2, .int p2), (3, .int p3), (4, .int p4)]) hx hb dX0_from_4 hl (by decide) rfl (fun ls hl => ?_)
  have lp6 : ∀ (n6 : Nat) (k1 : Int32) (k2 : Int32), (-1 ≤ k2.toInt ∧ k2.toInt ≤ 7) → (k2.toInt < 0 ∨ (k2.toInt = 0 ∧ k1.toInt ≤ 2) ∨ ((k2.toInt = 1 ∨ k2.toInt = 2 ∨ k2.toInt = 5 ∨ k2.toInt = 6) ∧ k1.toInt ≤ 1) ∨ k1.toInt ≤ 0) → (ownI p2.toInt k2.toInt = ownI p2.toInt p1.toInt) → (abvI p2.toInt k2.toInt = abvI p2.toInt p1.toInt) → (0 ≤ k1.toInt) → (8 - k1.toInt).toNat < n6 → ∀ (H : Heap) (locs : List Loc), va_P D vwCl [O0 a0 r0 v0_count v0_ran v0_actor, (cI κ (r0 0) 50 f0_kinds), (cI κ (r0 2) 24 f0_trace)] H → va_D A [O0 a0 r0 v0_count v0_ran v0_actor, (cI κ (r0 0) 50 f0_kinds), (cI κ (r0 2) 24 f0_trace)] → va_S A s.heap H locs → ∀ ls : Array Slot, lv_has ls 7 [(6, .int k1), (5, .int k2), (0, .ref a0), (1, .int p1), (2, .int p2), (3, .int p3), (4, .int p4)] → W p l e ({ frames := 3 * 0, cells := 0, slots := 0, locals := 73 * 0 } : Room) s m args below meth c H locs 0 0 Q (F0 m 6 ls []) := by
    intro n6
    induction n6 with
    | zero =>
      intro k1 k2 h3 h4 h5 h6 h7 m8
      exact absurd m8 (Nat.not_lt_zero _)
    | succ n6 ih6 =>
      intro k1 k2 h3 h4 h5 h6 h7 m8 H locs hP hD hS ls hl
      have hI1 : ownI p2.toInt k2.toInt = ownI p2.toInt p1.toInt := by assumption
      have hI2 : abvI p2.toInt k2.toInt = abvI p2.toInt p1.toInt := by assumption
      refine lv_iload hx hb dX0_from_6 (lv_at hl 0 rfl) ?_
      refine lv_bipush (v := 8) hx hb dX0_from_8 (by decide) ?_
      refine lv_icmp_ge (tgt := 45) hx hb dX0_from_10 (by decide) (fun c9 => ?_) (fun c9 => ?_)
      · have c9 := ci_le c9
        refine lv_iload hx hb dX0_from_45 (lv_at hl 1 rfl) ?_
        refine lv_if_lt (tgt := 57) hx hb dX0_from_47 (by decide) (fun c10 => ?_) (fun c10 => ?_)
        · have c10 := ci_lt c10
          refine lv_iconst (v := 0) hx hb dX0_from_57 (by decide) ?_
          have hpo : (0 ≤ v0_ran.toInt ∧ v0_ran.toInt ≤ 100000000) ∧ (v0_ran.toInt ≤ v0_ran.toInt ∧ v0_ran.toInt ≤ v0_ran.toInt + bb 0) ∧ ((0 : Int32) = FR v0_actor (f0_kinds v0_actor.toNatClampNeg).toInt (25 - p4.toInt).toNat p2.toInt p1.toInt p3) ∧ (f0_trace = wrL f0_trace v0_ran.toInt (TR (f0_kinds v0_actor.toNatClampNeg).toInt (25 - p4.toInt).toNat p2.toInt p1.toInt)) ∧ (v0_ran.toInt = v0_ran.toInt + (((TR (f0_kinds v0_actor.toNatClampNeg).toInt (25 - p4.toInt).toNat p2.toInt p1.toInt).length : Nat) : Int)) := ⟨i2, (by omega), (by first | exact (FR_zero (by omega)).symm | exact (FR_none (by rw [← hI1]; exact ownI_neg (by omega))).symm), (by first | (rw [TR_zero (by omega)]; rfl) | (rw [TR_none (by rw [← hI1]; exact ownI_neg (by omega))]; rfl)), (by first | (rw [TR_zero (by omega)]; show _ = _ + ((0 : Nat) : Int); omega) | (rw [TR_none (by rw [← hI1]; exact ownI_neg (by omega))]; show _ = _ + ((0 : Nat) : Int); omega))⟩
          exact ret _ _ _ _ 0 (v0_ran, f0_trace) dX0_from_58 hpo hP hD hS
        have c10 := ci_nlt c10
        refine lv_iload hx hb dX0_from_50 (lv_at hl 6 rfl) ?_
        refine lv_bipush (v := 24) hx hb dX0_from_52 (by decide) ?_
        refine lv_icmp_le (tgt := 59) hx hb dX0_from_54 (by decide) (fun c11 => ?_) (fun c11 => ?_)
        · have c11 := ci_le c11
          exfalso
          omega
        have c11 := ci_nle c11
        refine lv_iconst (v := 0) hx hb dX0_from_57 (by decide) ?_
        have hpo : (0 ≤ v0_ran.toInt ∧ v0_ran.toInt ≤ 100000000) ∧ (v0_ran.toInt ≤ v0_ran.toInt ∧ v0_ran.toInt ≤ v0_ran.toInt + bb 0) ∧ ((0 : Int32) = FR v0_actor (f0_kinds v0_actor.toNatClampNeg).toInt (25 - p4.toInt).toNat p2.toInt p1.toInt p3) ∧ (f0_trace = wrL f0_trace v0_ran.toInt (TR (f0_kinds v0_actor.toNatClampNeg).toInt (25 - p4.toInt).toNat p2.toInt p1.toInt)) ∧ (v0_ran.toInt = v0_ran.toInt + (((TR (f0_kinds v0_actor.toNatClampNeg).toInt (25 - p4.toInt).toNat p2.toInt p1.toInt).length : Nat) : Int)) := ⟨i2, (by omega), (by first | exact (FR_zero (by omega)).symm | exact (FR_none (by rw [← hI1]; exact ownI_neg (by omega))).symm), (by first | (rw [TR_zero (by omega)]; rfl) | (rw [TR_none (by rw [← hI1]; exact ownI_neg (by omega))]; rfl)), (by first | (rw [TR_zero (by omega)]; show _ = _ + ((0 : Nat) : Int); omega) | (rw [TR_none (by rw [← hI1]; exact ownI_neg (by omega))]; show _ = _ + ((0 : Nat) : Int); omega))⟩
        exact ret _ _ _ _ 0 (v0_ran, f0_trace) dX0_from_58 hpo hP hD hS
      have c9 := ci_nle c9
      refine lv_iload hx hb dX0_from_13 (lv_at hl 1 rfl) ?_
      refine lv_if_lt (tgt := 45) hx hb dX0_from_15 (by decide) (fun c12 => ?_) (fun c12 => ?_)
      · have c12 := ci_lt c12
        refine lv_iload hx hb dX0_from_45 (lv_at hl 1 rfl) ?_
        refine lv_if_lt (tgt := 57) hx hb dX0_from_47 (by decide) (fun c13 => ?_) (fun c13 => ?_)
        · have c13 := ci_lt c13
          refine lv_iconst (v := 0) hx hb dX0_from_57 (by decide) ?_
          have hpo : (0 ≤ v0_ran.toInt ∧ v0_ran.toInt ≤ 100000000) ∧ (v0_ran.toInt ≤ v0_ran.toInt ∧ v0_ran.toInt ≤ v0_ran.toInt + bb 0) ∧ ((0 : Int32) = FR v0_actor (f0_kinds v0_actor.toNatClampNeg).toInt (25 - p4.toInt).toNat p2.toInt p1.toInt p3) ∧ (f0_trace = wrL f0_trace v0_ran.toInt (TR (f0_kinds v0_actor.toNatClampNeg).toInt (25 - p4.toInt).toNat p2.toInt p1.toInt)) ∧ (v0_ran.toInt = v0_ran.toInt + (((TR (f0_kinds v0_actor.toNatClampNeg).toInt (25 - p4.toInt).toNat p2.toInt p1.toInt).length : Nat) : Int)) := ⟨i2, (by omega), (by first | exact (FR_zero (by omega)).symm | exact (FR_none (by rw [← hI1]; exact ownI_neg (by omega))).symm), (by first | (rw [TR_zero (by omega)]; rfl) | (rw [TR_none (by rw [← hI1]; exact ownI_neg (by omega))]; rfl)), (by first | (rw [TR_zero (by omega)]; show _ = _ + ((0 : Nat) : Int); omega) | (rw [TR_none (by rw [← hI1]; exact ownI_neg (by omega))]; show _ = _ + ((0 : Nat) : Int); omega))⟩
          exact ret _ _ _ _ 0 (v0_ran, f0_trace) dX0_from_58 hpo hP hD hS
        have c13 := ci_nlt c13
        refine lv_iload hx hb dX0_from_50 (lv_at hl 6 rfl) ?_
        refine lv_bipush (v := 24) hx hb dX0_from_52 (by decide) ?_
        refine lv_icmp_le (tgt := 59) hx hb dX0_from_54 (by decide) (fun c14 => ?_) (fun c14 => ?_)
        · have c14 := ci_le c14
          exfalso
          omega
        have c14 := ci_nle c14
        refine lv_iconst (v := 0) hx hb dX0_from_57 (by decide) ?_
        have hpo : (0 ≤ v0_ran.toInt ∧ v0_ran.toInt ≤ 100000000) ∧ (v0_ran.toInt ≤ v0_ran.toInt ∧ v0_ran.toInt ≤ v0_ran.toInt + bb 0) ∧ ((0 : Int32) = FR v0_actor (f0_kinds v0_actor.toNatClampNeg).toInt (25 - p4.toInt).toNat p2.toInt p1.toInt p3) ∧ (f0_trace = wrL f0_trace v0_ran.toInt (TR (f0_kinds v0_actor.toNatClampNeg).toInt (25 - p4.toInt).toNat p2.toInt p1.toInt)) ∧ (v0_ran.toInt = v0_ran.toInt + (((TR (f0_kinds v0_actor.toNatClampNeg).toInt (25 - p4.toInt).toNat p2.toInt p1.toInt).length : Nat) : Int)) := ⟨i2, (by omega), (by first | exact (FR_zero (by omega)).symm | exact (FR_none (by rw [← hI1]; exact ownI_neg (by omega))).symm), (by first | (rw [TR_zero (by omega)]; rfl) | (rw [TR_none (by rw [← hI1]; exact ownI_neg (by omega))]; rfl)), (by first | (rw [TR_zero (by omega)]; show _ = _ + ((0 : Nat) : Int); omega) | (rw [TR_none (by rw [← hI1]; exact ownI_neg (by omega))]; show _ = _ + ((0 : Nat) : Int); omega))⟩
        exact ret _ _ _ _ 0 (v0_ran, f0_trace) dX0_from_58 hpo hP hD hS
      have c12 := ci_nlt c12
      refine va_gets hx hb z2 hS hown w0 (fun _ h9 => h9) dX0_from_18 ?_
      refine lv_iconst (v := 4) hx hb dX0_from_21 (by decide) ?_
      refine lv_iload hx hb dX0_from_22 (lv_at hl 1 rfl) ?_
      refine lv_imul hx hb dX0_from_24 ?_
      refine lv_topi (fun x15 e16 => ?_)
      try have h17 : x15.toInt = 4 * k2.toInt := ci_mulL (n := 4) (by decide) e16 (by omega) (by omega)
      refine lv_iload_n hx hb dX0_from_25 rfl (lv_at hl 4 rfl) ?_
      refine lv_iadd hx hb dX0_from_26 ?_
      refine lv_topi (fun x18 e19 => ?_)
      try have h20 : x18.toInt = x15.toInt + p2.toInt := ci_add e19 (by omega) (by omega)
      have hix : x18.toNatClampNeg = (4 * k2.toInt + p2.toInt).toNat := by rw [← show x18.toInt = 4 * k2.toInt + p2.toInt from by omega]; rfl
      refine va_ti hx hb y2 hS (i := x18) (ix (by omega) (by omega)) rfl dX0_from_27 ?_
      refine lv_topi (fun x21 e22 => ?_)
      have hov : x21.toInt = (tbOwn.getD (4 * k2.toInt + p2.toInt).toNat 0).toInt := by rw [e22, hix]
      have how := own_cases p2.toInt k2.toInt (by omega) (by omega)
      refine lv_if_ne (tgt := 45) hx hb dX0_from_28 (by decide) (fun c23 => ?_) (fun c23 => ?_)
      · have c23 := ci_ne c23
        refine lv_iload hx hb dX0_from_45 (lv_at hl 1 rfl) ?_
        refine lv_if_lt (tgt := 57) hx hb dX0_from_47 (by decide) (fun c24 => ?_) (fun c24 => ?_)
        · have c24 := ci_lt c24
          refine lv_iconst (v := 0) hx hb dX0_from_57 (by decide) ?_
          have hpo : (0 ≤ v0_ran.toInt ∧ v0_ran.toInt ≤ 100000000) ∧ (v0_ran.toInt ≤ v0_ran.toInt ∧ v0_ran.toInt ≤ v0_ran.toInt + bb 0) ∧ ((0 : Int32) = FR v0_actor (f0_kinds v0_actor.toNatClampNeg).toInt (25 - p4.toInt).toNat p2.toInt p1.toInt p3) ∧ (f0_trace = wrL f0_trace v0_ran.toInt (TR (f0_kinds v0_actor.toNatClampNeg).toInt (25 - p4.toInt).toNat p2.toInt p1.toInt)) ∧ (v0_ran.toInt = v0_ran.toInt + (((TR (f0_kinds v0_actor.toNatClampNeg).toInt (25 - p4.toInt).toNat p2.toInt p1.toInt).length : Nat) : Int)) := ⟨i2, (by omega), (by first | exact (FR_zero (by omega)).symm | exact (FR_none (by rw [← hI1]; exact ownI_neg (by omega))).symm), (by first | (rw [TR_zero (by omega)]; rfl) | (rw [TR_none (by rw [← hI1]; exact ownI_neg (by omega))]; rfl)), (by first | (rw [TR_zero (by omega)]; show _ = _ + ((0 : Nat) : Int); omega) | (rw [TR_none (by rw [← hI1]; exact ownI_neg (by omega))]; show _ = _ + ((0 : Nat) : Int); omega))⟩
          exact ret _ _ _ _ 0 (v0_ran, f0_trace) dX0_from_58 hpo hP hD hS
        have c24 := ci_nlt c24
        refine lv_iload hx hb dX0_from_50 (lv_at hl 6 rfl) ?_
        refine lv_bipush (v := 24) hx hb dX0_from_52 (by decide) ?_
        refine lv_icmp_le (tgt := 59) hx hb dX0_from_54 (by decide) (fun c25 => ?_) (fun c25 => ?_)
        · have c25 := ci_le c25
          exfalso
          omega
        have c25 := ci_nle c25
        refine lv_iconst (v := 0) hx hb dX0_from_57 (by decide) ?_
        have hpo : (0 ≤ v0_ran.toInt ∧ v0_ran.toInt ≤ 100000000) ∧ (v0_ran.toInt ≤ v0_ran.toInt ∧ v0_ran.toInt ≤ v0_ran.toInt + bb 0) ∧ ((0 : Int32) = FR v0_actor (f0_kinds v0_actor.toNatClampNeg).toInt (25 - p4.toInt).toNat p2.toInt p1.toInt p3) ∧ (f0_trace = wrL f0_trace v0_ran.toInt (TR (f0_kinds v0_actor.toNatClampNeg).toInt (25 - p4.toInt).toNat p2.toInt p1.toInt)) ∧ (v0_ran.toInt = v0_ran.toInt + (((TR (f0_kinds v0_actor.toNatClampNeg).toInt (25 - p4.toInt).toNat p2.toInt p1.toInt).length : Nat) : Int)) := ⟨i2, (by omega), (by first | exact (FR_zero (by omega)).symm | exact (FR_none (by rw [← hI1]; exact ownI_neg (by omega))).symm), (by first | (rw [TR_zero (by omega)]; rfl) | (rw [TR_none (by rw [← hI1]; exact ownI_neg (by omega))]; rfl)), (by first | (rw [TR_zero (by omega)]; show _ = _ + ((0 : Nat) : Int); omega) | (rw [TR_none (by rw [← hI1]; exact ownI_neg (by omega))]; show _ = _ + ((0 : Nat) : Int); omega))⟩
        exact ret _ _ _ _ 0 (v0_ran, f0_trace) dX0_from_58 hpo hP hD hS
      have c23 := ci_eq c23
      refine va_gets hx hb z1 hS hown w1 (fun _ h9 => h9) dX0_from_31 ?_
      refine lv_iload hx hb dX0_from_34 (lv_at hl 1 rfl) ?_
      refine va_ti hx hb y1 hS (i := k2) (ix (by omega) (by omega)) rfl dX0_from_36 ?_
      refine lv_topi (fun x26 e27 => ?_)
      have h28 := tb_above k2.toNatClampNeg; rw [← e27] at h28
      have hcc := ci_clamp (i := k2) (by omega)
      have hav : x26.toInt = (tbAbove.getD k2.toInt.toNat 0).toInt := by rw [e27]; rfl
      have hab := ab_cases hav (by omega)
      refine lv_istore (lv' := [(5, .int x26), (6, .int k1), (0, .ref a0), (1, .int p1), (2, .int p2), (3, .int p3), (4, .int p4)]) hx hb dX0_from_37 hl (by decide) rfl (fun ls hl => ?_)
      obtain ⟨x29, e30⟩ : ∃ y : Int32, y = k1 + 1 := ⟨_, rfl⟩
      refine lv_iinc (v := x29) (lv' := [(6, .int x29), (5, .int x26), (0, .ref a0), (1, .int p1), (2, .int p2), (3, .int p3), (4, .int p4)]) hx hb dX0_from_39 hl (k := 1) rfl (by rw [e30]; rfl) (by decide) rfl (fun ls hl => ?_)
      try have h31 : x29.toInt = k1.toInt + (1 : Int32).toInt := ci_add e30 (by omega) (by omega)
      refine lv_goto (tgt := 6) hx hb dX0_from_42 (by decide) ?_
      exact ih6 x29 x26 (by omega) (by omega) (by first | rfl | (rw [hav, ← hI1]; rcases how with ⟨_, h, _⟩ | ⟨h, _⟩; exact h.symm; exact absurd h (by omega))) (by first | rfl | (rw [hav, ← hI2]; rcases how with ⟨_, _, h⟩ | ⟨h, _⟩; exact h.symm; exact absurd h (by omega))) (by omega) (by omega) _ _ hP hD hS _ hl
  exact lp6 ((8 - (0 : Int32).toInt).toNat + 1) 0 p1 (by omega) (by omega) (by first | rfl | (rw [hav, ← hI1]; rcases how with ⟨_, h, _⟩ | ⟨h, _⟩; exact h.symm; exact absurd h (by omega))) (by first | rfl | (rw [hav, ← hI2]; rcases how with ⟨_, _, h⟩ | ⟨h, _⟩; exact h.symm; exact absurd h (by omega))) (by omega) (by omega) _ _ hP hD hS _ hl
theorem k_X0_from (l : Launch) (D : va_G) (κ : Nat → ClassId) (β : Nat) : ∀ d : Nat, C_X0_from l D κ β d
  | 0 => of_X0_from0 l D κ β
  | d + 1 => of_X0_from l D κ β d (of_X0_run l D κ β d (k_X0_from l D κ β d) (of_X0_own l D κ β d (k_X0_from l D κ β d)))
theorem k_X0_own (l : Launch) (D : va_G) (κ : Nat → ClassId) (β d : Nat) : C_X0_own l D κ β d := of_X0_own l D κ β d (k_X0_from l D κ β d)
set_option maxHeartbeats 4000000 in
set_option maxRecDepth 100000 in
theorem k_X0_start (l : Launch) (D : va_G) (κ : Nat → ClassId) (β : Nat) (a0 : Nat) (r0 : Nat → Nat) (v0_count : Int32) (v0_ran : Int32) (v0_actor : Int32) (f0_kinds : Nat → Int32) (f0_trace : Nat → Int32) (sz : Nat) (p1 : Int32) (p2 : Int32) (p3 : Int32) (i1 : Rg 0 50 v0_count) (i2 : Rg 0 100000000 v0_ran) (i3 : Rg 0 49 v0_actor) (hf0_kinds : ∀ j : Nat, 0 ≤ (f0_kinds j).toInt ∧ (f0_kinds j).toInt ≤ 7) : Met l yX0_start wsX0_start ({ frames := 77, cells := 0, slots := 0, locals := 1874 } : Room) (PcK D κ β [O0 a0 r0 v0_count v0_ran v0_actor, (cI κ (r0 0) 50 f0_kinds), (cI κ (r0 2) 24 f0_trace)] sz [.ref a0, .int p1, .int p2, .int p3]) (QiK D (fun (r : Int32) (u : Int32 × Int32 × (Nat → Int32)) => (0 ≤ u.1.toInt ∧ u.1.toInt ≤ 100000000) ∧ (0 ≤ u.2.1.toInt ∧ u.2.1.toInt ≤ 49) ∧ ((0 ≤ p1.toInt ∧ p1.toInt < v0_count.toInt ∧ 0 ≤ p2.toInt ∧ p2.toInt ≤ 3) → r = FR p1 (f0_kinds p1.toNatClampNeg).toInt (25 - (0 : Int32).toInt).toNat p2.toInt (f0_kinds p1.toNatClampNeg).toInt p3) ∧ ((0 ≤ p1.toInt ∧ p1.toInt < v0_count.toInt ∧ 0 ≤ p2.toInt ∧ p2.toInt ≤ 3) ∨ r.toInt = 0) ∧ ((0 ≤ p1.toInt ∧ p1.toInt < v0_count.toInt ∧ 0 ≤ p2.toInt ∧ p2.toInt ≤ 3) → u.2.2 = wrL f0_trace (0 : Int32).toInt (TR (f0_kinds p1.toNatClampNeg).toInt (25 - (0 : Int32).toInt).toNat p2.toInt (f0_kinds p1.toNatClampNeg).toInt)) ∧ ((0 ≤ p1.toInt ∧ p1.toInt < v0_count.toInt ∧ 0 ≤ p2.toInt ∧ p2.toInt ≤ 3) → u.1.toInt = (0 : Int32).toInt + (((TR (f0_kinds p1.toNatClampNeg).toInt (25 - (0 : Int32).toInt).toNat p2.toInt (f0_kinds p1.toNatClampNeg).toInt).length : Nat) : Int)) ∧ ((0 ≤ p1.toInt ∧ p1.toInt < v0_count.toInt ∧ 0 ≤ p2.toInt ∧ p2.toInt ≤ 3) ∨ u.2.2 = f0_trace) ∧ ((0 ≤ p1.toInt ∧ p1.toInt < v0_count.toInt ∧ 0 ≤ p2.toInt ∧ p2.toInt ≤ 3) ∨ u.1.toInt = 0)) (fun (u : Int32 × Int32 × (Nat → Int32)) => [O0 a0 r0 v0_count u.1 u.2.1, (cI κ (r0 0) 50 f0_kinds), (cI κ (r0 2) 24 u.2.2)]) [O0 a0 r0 v0_count v0_ran v0_actor, (cI κ (r0 0) 50 f0_kinds), (cI κ (r0 2) 24 f0_trace)] sz) 0 0 (va_A [O0 a0 r0 v0_count v0_ran v0_actor, (cI κ (r0 0) 50 f0_kinds), (cI κ (r0 2) 24 f0_trace)] sz) := by
  refine ofK_i (cc := cX0_start) (maxL := 4) (own := RX0) (by decide) rfl rfl (Nat.le_of_ble_eq_true rfl) ?_
  intro p e s m args below meth c Q A ls hsz hx hb hml hts hown hK hA hAB hP hD hl ret
  have hS : va_S A s.heap s.heap [] := va_S.rf
  have hl : lv_has ls 4 [(0, .ref a0), (1, .int p1), (2, .int p2), (3, .int p3)] := hl
  have w0 := hts (.fieldLink RX0 26 "OlderSkin$Bodies" "ran" "I") (List.mem_of_getElem? (i := 1) rfl)
  have w1 := (fun w h => List.mem_cons_of_mem _ (List.mem_append_right _ h) : ∀ w ∈ u_ws RX0 TX0 5, w ∈ wsX0_start)
  have w2 := hts (.initialized RX11) (List.mem_of_getElem? (i := 10) rfl)
  have w3 := hts (.static yX11_within) (List.mem_of_getElem? (i := 9) rfl)
  have w4 := hK.2.1 ("OlderSkin$Bodies", 22, ⟨"OlderSkin", "within", "(III)Z"⟩, "OlderSkin") (by decide +kernel)
  have w5 := hts (.fieldLink RX0 42 "OlderSkin$Bodies" "actor" "I") (List.mem_of_getElem? (i := 2) rfl)
  have l0 : (0 : Int32).toInt = 0 := by decide
  have l1 : (3 : Int32).toInt = 3 := by decide
  have i1 : 0 ≤ v0_count.toInt ∧ v0_count.toInt ≤ 50 := i1
  have i2 : 0 ≤ v0_ran.toInt ∧ v0_ran.toInt ≤ 100000000 := i2
  have i3 : 0 ≤ v0_actor.toInt ∧ v0_actor.toInt ≤ 49 := i3
  have hbb : bb 25 = 33554431 := by decide
  refine lv_aload_n hx hb dX0_start_0 rfl (lv_at hl 0 rfl) ?_
  refine lv_iconst (v := 0) hx hb dX0_start_1 (by decide) ?_
  refine va_put (D := D) (ci := 0) (v := .int 0) (ty := .int) (C := RX0) (T := TX0) (N := 5) hx hb hts w1 tyX0 tyX0_ok nmX0 hown hK.1 hP hD hS 0 rfl rfl 3 (by decide) w0 (fun _ h9 => h9) rfl (by decide +kernel) rfl rfl (Nat.le_of_ble_eq_true rfl) dX0_start_2 (fun H locs hP hD hS => ?_)
  obtain ⟨hP, hD⟩ : PD D A [O0 a0 r0 v0_count 0 v0_actor, (cI κ (r0 0) 50 f0_kinds), (cI κ (r0 2) 24 f0_trace)] H := ⟨hP, hD⟩
  have h1 : 0 ≤ (0 : Int32).toInt ∧ (0 : Int32).toInt ≤ 100000000 := by omega
  refine lv_aload_n hx hb dX0_start_5 rfl (lv_at hl 0 rfl) ?_
  refine lv_iload_n hx hb dX0_start_6 rfl (lv_at hl 1 rfl) ?_
  refine kcm_i hA hAB hP hD hS [true, false, false] rfl (fun _ => rfl) (fun hPc hDc => va_runV (As := [.int p1]) (rest := []) ⟨hx, hb, hml, hown, hts⟩ (k_X0_isBody l D κ β a0 r0 v0_count 0 v0_actor H.size p1 i1 h1 i3) (cwV 1 hts gX0_start_X0_isBody rfl rfl rfl (by decide +kernel) ⟨Nat.le_of_ble_eq_true rfl, Nat.le_of_ble_eq_true rfl⟩) (pk_V hK hS hAB hPc hDc 0 (ci := 0) rfl rfl rfl) rfl rfl hl.1 rfl (lv_room (Nat.le_of_ble_eq_true rfl)) dX0_start_7 ⟨Nat.le_of_ble_eq_true rfl, Nat.le_of_ble_eq_true rfl⟩) (fun x2 u3 H locs hw hPD hS => ?_)
  have h4 : (x2.toInt = 1 ∧ 0 ≤ p1.toInt ∧ p1.toInt < v0_count.toInt) ∨ (x2.toInt = 0 ∧ (p1.toInt < 0 ∨ v0_count.toInt ≤ p1.toInt)) := hw
  obtain ⟨hP, hD⟩ : PD D A [O0 a0 r0 v0_count 0 v0_actor, (cI κ (r0 0) 50 f0_kinds), (cI κ (r0 2) 24 f0_trace)] H := hPD
  refine lv_if_eq (tgt := 22) hx hb dX0_start_10 (by decide) (fun c5 => ?_) (fun c5 => ?_)
  · have c5 := ci_eq c5
    refine lv_iconst (v := 0) hx hb dX0_start_22 (by decide) ?_
    have hpo : (0 ≤ (0 : Int32).toInt ∧ (0 : Int32).toInt ≤ 100000000) ∧ (0 ≤ v0_actor.toInt ∧ v0_actor.toInt ≤ 49) ∧ ((0 ≤ p1.toInt ∧ p1.toInt < v0_count.toInt ∧ 0 ≤ p2.toInt ∧ p2.toInt ≤ 3) → (0 : Int32) = FR p1 (f0_kinds p1.toNatClampNeg).toInt (25 - (0 : Int32).toInt).toNat p2.toInt (f0_kinds p1.toNatClampNeg).toInt p3) ∧ ((0 ≤ p1.toInt ∧ p1.toInt < v0_count.toInt ∧ 0 ≤ p2.toInt ∧ p2.toInt ≤ 3) ∨ (0 : Int32).toInt = 0) ∧ ((0 ≤ p1.toInt ∧ p1.toInt < v0_count.toInt ∧ 0 ≤ p2.toInt ∧ p2.toInt ≤ 3) → f0_trace = wrL f0_trace (0 : Int32).toInt (TR (f0_kinds p1.toNatClampNeg).toInt (25 - (0 : Int32).toInt).toNat p2.toInt (f0_kinds p1.toNatClampNeg).toInt)) ∧ ((0 ≤ p1.toInt ∧ p1.toInt < v0_count.toInt ∧ 0 ≤ p2.toInt ∧ p2.toInt ≤ 3) → (0 : Int32).toInt = (0 : Int32).toInt + (((TR (f0_kinds p1.toNatClampNeg).toInt (25 - (0 : Int32).toInt).toNat p2.toInt (f0_kinds p1.toNatClampNeg).toInt).length : Nat) : Int)) ∧ ((0 ≤ p1.toInt ∧ p1.toInt < v0_count.toInt ∧ 0 ≤ p2.toInt ∧ p2.toInt ≤ 3) ∨ f0_trace = f0_trace) ∧ ((0 ≤ p1.toInt ∧ p1.toInt < v0_count.toInt ∧ 0 ≤ p2.toInt ∧ p2.toInt ≤ 3) ∨ (0 : Int32).toInt = 0) := ⟨h1, i3, (fun h => absurd h (by omega)), (by omega), (fun h => absurd h (by omega)), (fun h => absurd h (by omega)), (Or.inr rfl), (by omega)⟩
    exact ret _ _ _ _ 0 (0, v0_actor, f0_trace) dX0_start_23 hpo hP hD hS
  have c5 := ci_ne c5
  refine lv_iload_n hx hb dX0_start_13 rfl (lv_at hl 2 rfl) ?_
  refine lv_iconst (v := 0) hx hb dX0_start_14 (by decide) ?_
  refine lv_iconst (v := 3) hx hb dX0_start_15 (by decide) ?_
  refine kcm_i hA hAB hP hD hS [false, false, false] rfl (fun _ => rfl) (fun hPc hDc => va_runSN (As := [.int p2, .int 0, .int 3]) (rest := []) ⟨hx, hb, hml, hown, hts⟩ (k_X11_within l D κ β H.size p2 0 3) ⟨va_cnB 3 hts gX0_start_X11_within_n22 rfl rfl rfl w4 w2 (by decide +kernel) ⟨Nat.le_of_ble_eq_true rfl, Nat.le_of_ble_eq_true rfl⟩, w3, trivial⟩ (pk_S hK hS hAB hPc hDc) rfl rfl hl.1 rfl (lv_room (Nat.le_of_ble_eq_true rfl)) dX0_start_16 ⟨Nat.le_of_ble_eq_true rfl, Nat.le_of_ble_eq_true rfl⟩) (fun x6 u7 H locs hw hPD hS => ?_)
  have h8 : (x6.toInt = 1 ∧ (0 : Int32).toInt ≤ p2.toInt ∧ p2.toInt ≤ (3 : Int32).toInt) ∨ (x6.toInt = 0 ∧ (p2.toInt < (0 : Int32).toInt ∨ (3 : Int32).toInt < p2.toInt)) := hw
  obtain ⟨hP, hD⟩ : PD D A [O0 a0 r0 v0_count 0 v0_actor, (cI κ (r0 0) 50 f0_kinds), (cI κ (r0 2) 24 f0_trace)] H := hPD
  refine lv_if_ne (tgt := 24) hx hb dX0_start_19 (by decide) (fun c9 => ?_) (fun c9 => ?_)
  · have c9 := ci_ne c9
    refine lv_aload_n hx hb dX0_start_24 rfl (lv_at hl 0 rfl) ?_
    refine lv_iload_n hx hb dX0_start_25 rfl (lv_at hl 1 rfl) ?_
    refine va_put (D := D) (ci := 0) (v := .int p1) (ty := .int) (C := RX0) (T := TX0) (N := 5) hx hb hts w1 tyX0 tyX0_ok nmX0 hown hK.1 hP hD hS 0 rfl rfl 4 (by decide) w5 (fun _ h9 => h9) rfl (by decide +kernel) rfl rfl (Nat.le_of_ble_eq_true rfl) dX0_start_26 (fun H locs hP hD hS => ?_)
    obtain ⟨hP, hD⟩ : PD D A [O0 a0 r0 v0_count 0 p1, (cI κ (r0 0) 50 f0_kinds), (cI κ (r0 2) 24 f0_trace)] H := ⟨hP, hD⟩
    have h10 : 0 ≤ p1.toInt ∧ p1.toInt ≤ 49 := by omega
    refine lv_aload_n hx hb dX0_start_29 rfl (lv_at hl 0 rfl) ?_
    refine lv_iload_n hx hb dX0_start_30 rfl (lv_at hl 2 rfl) ?_
    refine lv_iload_n hx hb dX0_start_31 rfl (lv_at hl 3 rfl) ?_
    refine lv_iconst (v := 0) hx hb dX0_start_32 (by decide) ?_
    refine kcm_i hA hAB hP hD hS [true, true, true] rfl (fun _ => rfl) (fun hPc hDc => va_runV (As := [.int p2, .int p3, .int 0]) (rest := []) ⟨hx, hb, hml, hown, hts⟩ (k_X0_own l D κ β 25 a0 r0 v0_count 0 p1 f0_kinds f0_trace H.size p2 p3 0 i1 h1 h10 hf0_kinds (by omega) (by omega) (by omega) (by omega)) (cwV 3 hts gX0_start_X0_own rfl rfl rfl (by decide +kernel) ⟨Nat.le_of_ble_eq_true rfl, Nat.le_of_ble_eq_true rfl⟩) (pk_V hK hS hAB hPc hDc 0 (ci := 0) rfl rfl rfl) rfl rfl hl.1 rfl (lv_room (Nat.le_of_ble_eq_true rfl)) dX0_start_33 ⟨Nat.le_of_ble_eq_true rfl, Nat.le_of_ble_eq_true rfl⟩) (fun x13 u14 H locs hw hPD hS => ?_)
    obtain ⟨x11, g12⟩ := u14
    obtain ⟨h15, h16, h17, h18, h19⟩ : (0 ≤ x11.toInt ∧ x11.toInt ≤ 100000000) ∧ ((0 : Int32).toInt ≤ x11.toInt ∧ x11.toInt ≤ (0 : Int32).toInt + bb 25) ∧ (x13 = FR p1 (f0_kinds p1.toNatClampNeg).toInt (25 - (0 : Int32).toInt).toNat p2.toInt (f0_kinds p1.toNatClampNeg).toInt p3) ∧ (g12 = wrL f0_trace (0 : Int32).toInt (TR (f0_kinds p1.toNatClampNeg).toInt (25 - (0 : Int32).toInt).toNat p2.toInt (f0_kinds p1.toNatClampNeg).toInt)) ∧ (x11.toInt = (0 : Int32).toInt + (((TR (f0_kinds p1.toNatClampNeg).toInt (25 - (0 : Int32).toInt).toNat p2.toInt (f0_kinds p1.toNatClampNeg).toInt).length : Nat) : Int)) := hw
    obtain ⟨hP, hD⟩ : PD D A [O0 a0 r0 v0_count x11 p1, (cI κ (r0 0) 50 f0_kinds), (cI κ (r0 2) 24 g12)] H := hPD
    have hpo : (0 ≤ x11.toInt ∧ x11.toInt ≤ 100000000) ∧ (0 ≤ p1.toInt ∧ p1.toInt ≤ 49) ∧ ((0 ≤ p1.toInt ∧ p1.toInt < v0_count.toInt ∧ 0 ≤ p2.toInt ∧ p2.toInt ≤ 3) → x13 = FR p1 (f0_kinds p1.toNatClampNeg).toInt (25 - (0 : Int32).toInt).toNat p2.toInt (f0_kinds p1.toNatClampNeg).toInt p3) ∧ ((0 ≤ p1.toInt ∧ p1.toInt < v0_count.toInt ∧ 0 ≤ p2.toInt ∧ p2.toInt ≤ 3) ∨ x13.toInt = 0) ∧ ((0 ≤ p1.toInt ∧ p1.toInt < v0_count.toInt ∧ 0 ≤ p2.toInt ∧ p2.toInt ≤ 3) → g12 = wrL f0_trace (0 : Int32).toInt (TR (f0_kinds p1.toNatClampNeg).toInt (25 - (0 : Int32).toInt).toNat p2.toInt (f0_kinds p1.toNatClampNeg).toInt)) ∧ ((0 ≤ p1.toInt ∧ p1.toInt < v0_count.toInt ∧ 0 ≤ p2.toInt ∧ p2.toInt ≤ 3) → x11.toInt = (0 : Int32).toInt + (((TR (f0_kinds p1.toNatClampNeg).toInt (25 - (0 : Int32).toInt).toNat p2.toInt (f0_kinds p1.toNatClampNeg).toInt).length : Nat) : Int)) ∧ ((0 ≤ p1.toInt ∧ p1.toInt < v0_count.toInt ∧ 0 ≤ p2.toInt ∧ p2.toInt ≤ 3) ∨ g12 = f0_trace) ∧ ((0 ≤ p1.toInt ∧ p1.toInt < v0_count.toInt ∧ 0 ≤ p2.toInt ∧ p2.toInt ≤ 3) ∨ x11.toInt = 0) := ⟨h15, h10, (fun _ => by assumption), (by omega), (fun _ => by assumption), (fun _ => by assumption), (Or.inl (by omega)), (by omega)⟩
    exact ret _ _ _ _ x13 (x11, p1, g12) dX0_start_36 hpo hP hD hS
  have c9 := ci_eq c9
  refine lv_iconst (v := 0) hx hb dX0_start_22 (by decide) ?_
  have hpo : (0 ≤ (0 : Int32).toInt ∧ (0 : Int32).toInt ≤ 100000000) ∧ (0 ≤ v0_actor.toInt ∧ v0_actor.toInt ≤ 49) ∧ ((0 ≤ p1.toInt ∧ p1.toInt < v0_count.toInt ∧ 0 ≤ p2.toInt ∧ p2.toInt ≤ 3) → (0 : Int32) = FR p1 (f0_kinds p1.toNatClampNeg).toInt (25 - (0 : Int32).toInt).toNat p2.toInt (f0_kinds p1.toNatClampNeg).toInt p3) ∧ ((0 ≤ p1.toInt ∧ p1.toInt < v0_count.toInt ∧ 0 ≤ p2.toInt ∧ p2.toInt ≤ 3) ∨ (0 : Int32).toInt = 0) ∧ ((0 ≤ p1.toInt ∧ p1.toInt < v0_count.toInt ∧ 0 ≤ p2.toInt ∧ p2.toInt ≤ 3) → f0_trace = wrL f0_trace (0 : Int32).toInt (TR (f0_kinds p1.toNatClampNeg).toInt (25 - (0 : Int32).toInt).toNat p2.toInt (f0_kinds p1.toNatClampNeg).toInt)) ∧ ((0 ≤ p1.toInt ∧ p1.toInt < v0_count.toInt ∧ 0 ≤ p2.toInt ∧ p2.toInt ≤ 3) → (0 : Int32).toInt = (0 : Int32).toInt + (((TR (f0_kinds p1.toNatClampNeg).toInt (25 - (0 : Int32).toInt).toNat p2.toInt (f0_kinds p1.toNatClampNeg).toInt).length : Nat) : Int)) ∧ ((0 ≤ p1.toInt ∧ p1.toInt < v0_count.toInt ∧ 0 ≤ p2.toInt ∧ p2.toInt ≤ 3) ∨ f0_trace = f0_trace) ∧ ((0 ≤ p1.toInt ∧ p1.toInt < v0_count.toInt ∧ 0 ≤ p2.toInt ∧ p2.toInt ≤ 3) ∨ (0 : Int32).toInt = 0) := ⟨h1, i3, (fun h => absurd h (by omega)), (by omega), (fun h => absurd h (by omega)), (fun h => absurd h (by omega)), (Or.inr rfl), (by omega)⟩
  exact ret _ _ _ _ 0 (0, v0_actor, f0_trace) dX0_start_23 hpo hP hD hS
