set_option maxHeartbeats 4000000 in
set_option maxRecDepth 100000 in
theorem k_X1_init (l : Launch) (D : va_G) (κ : Nat → ClassId) (β : Nat) (a : Nat) (sz : Nat) : Met l yX1_init wsX1_init ({ frames := 1, cells := 4, slots := 160, locals := 20 } : Room) (PcK D κ β [(a, .inr (1, [.null, .null, .null, .null, .int 0, .int 0]))] sz [.ref a]) (QvK D (fun (u : Nat → Nat) => True) (fun (u : Nat → Nat) => [O1 a u 0 0, (cI κ (u 0) 40 (fun _ => 0)), (cI κ (u 1) 40 (fun _ => 0)), (cI κ (u 2) 40 (fun _ => 0)), (cI κ (u 3) 40 (fun _ => 0))]) [(a, .inr (1, [.null, .null, .null, .null, .int 0, .int 0]))] sz) 4 160 (va_A [(a, .inr (1, [.null, .null, .null, .null, .int 0, .int 0]))] sz) := by
  refine ofK_v (cc := cX1_init) (maxL := 1) (own := RX1) (by decide) rfl rfl (Nat.le_of_ble_eq_true rfl) ?_
  intro p e s m args below meth c Q A ls hsz hx hb hml hts hown hK hA hAB hP hD hl hin ret
  have hS : va_S A s.heap s.heap [] := va_S.rf
  have hl : lv_has ls 1 [(0, .ref a)] := hl
  have w0 := hts (.arrayClass .int) (List.mem_of_getElem? (i := 4) rfl)
  have w1 := hts (.fieldLink RX1 7 "OlderSkin$Changes" "sorts" "[I") (List.mem_of_getElem? (i := 5) rfl)
  have w2 := (fun w h => List.mem_cons_of_mem _ (List.mem_append_right _ h) : ∀ w ∈ u_ws RX1 TX1 6, w ∈ wsX1_init)
  have w3 := hts (.fieldLink RX1 13 "OlderSkin$Changes" "which" "[I") (List.mem_of_getElem? (i := 6) rfl)
  have w4 := hts (.fieldLink RX1 16 "OlderSkin$Changes" "was" "[I") (List.mem_of_getElem? (i := 7) rfl)
  have w5 := hts (.fieldLink RX1 19 "OlderSkin$Changes" "became" "[I") (List.mem_of_getElem? (i := 8) rfl)
  have l0 : (40 : Int32).toInt = 40 := by decide
  refine lv_aload_n hx hb dX1_init_0 rfl (lv_at hl 0 rfl) ?_
  refine W.objInit hx hb hown (hts (.methodLink RX1 1 objectInit) (by decide +kernel)) (hts (.instanceMethod objectInit) (by decide +kernel)) (hts _ (List.mem_cons_of_mem _ (List.mem_of_getElem? (i := 2) rfl))) rfl (by rw [hml]; exact hl.1) rfl dX1_init_1 (Nat.le_of_ble_eq_true rfl) (Nat.le_of_ble_eq_true rfl) ?_
  refine W.eq (g2 := F0 m 4 ls []) rfl ?_
  refine lv_aload_n hx hb dX1_init_4 rfl (lv_at hl 0 rfl) ?_
  refine lv_bipush (v := 40) hx hb dX1_init_5 (by decide) ?_
  refine va_newa (atype := .int) hx hb w0 rfl hK.1 hP hD hS hA (a0 := (40, .inl (fun _ => 0))) (fun _ => rfl) (by decide) rfl (Nat.le_of_ble_eq_true rfl) (Nat.le_of_ble_eq_true rfl) (Nat.le_of_ble_eq_true rfl) dX1_init_7 (fun q1 cA H hK9 hP hD hS => ?_)
  have hcA := cls_I hK9
  subst hcA
  obtain ⟨hP, hD⟩ : PD D A [(a, .inr (1, [.null, .null, .null, .null, .int 0, .int 0])), (cI κ q1 40 (fun _ => 0))] H := ⟨hP, hD⟩
  refine va_putF (D := D) (ci := 1) (v := .ref q1) (ty := .array .int) (C := RX1) (T := TX1) (N := 6) hx hb hts w2 tyX1 tyX1_ok nmX1 hown hK.1 hP hD hS 0 rfl rfl 0 (by decide) w1 (fun _ h9 => h9) rfl hin rfl (by decide +kernel) rfl rfl (Nat.le_of_ble_eq_true rfl) dX1_init_9 (fun H locs hP hD hS => ?_)
  obtain ⟨hP, hD⟩ : PD D A [(a, .inr (1, [.ref q1, .null, .null, .null, .int 0, .int 0])), (cI κ q1 40 (fun _ => 0))] H := ⟨hP, hD⟩
  refine lv_aload_n hx hb dX1_init_12 rfl (lv_at hl 0 rfl) ?_
  refine lv_bipush (v := 40) hx hb dX1_init_13 (by decide) ?_
  refine va_newa (atype := .int) hx hb w0 rfl hK.1 hP hD hS hA (a0 := (40, .inl (fun _ => 0))) (fun _ => rfl) (by decide) rfl (Nat.le_of_ble_eq_true rfl) (Nat.le_of_ble_eq_true rfl) (Nat.le_of_ble_eq_true rfl) dX1_init_15 (fun q2 cA H hK9 hP hD hS => ?_)
  have hcA := cls_I hK9
  subst hcA
  obtain ⟨hP, hD⟩ : PD D A [(a, .inr (1, [.ref q1, .null, .null, .null, .int 0, .int 0])), (cI κ q1 40 (fun _ => 0)), (cI κ q2 40 (fun _ => 0))] H := ⟨hP, hD⟩
  refine va_putF (D := D) (ci := 1) (v := .ref q2) (ty := .array .int) (C := RX1) (T := TX1) (N := 6) hx hb hts w2 tyX1 tyX1_ok nmX1 hown hK.1 hP hD hS 0 rfl rfl 1 (by decide) w3 (fun _ h9 => h9) rfl hin rfl (by decide +kernel) rfl rfl (Nat.le_of_ble_eq_true rfl) dX1_init_17 (fun H locs hP hD hS => ?_)
  obtain ⟨hP, hD⟩ : PD D A [(a, .inr (1, [.ref q1, .ref q2, .null, .null, .int 0, .int 0])), (cI κ q1 40 (fun _ => 0)), (cI κ q2 40 (fun _ => 0))] H := ⟨hP, hD⟩
  refine lv_aload_n hx hb dX1_init_20 rfl (lv_at hl 0 rfl) ?_
  refine lv_bipush (v := 40) hx hb dX1_init_21 (by decide) ?_
  refine va_newa (atype := .int) hx hb w0 rfl hK.1 hP hD hS hA (a0 := (40, .inl (fun _ => 0))) (fun _ => rfl) (by decide) rfl (Nat.le_of_ble_eq_true rfl) (Nat.le_of_ble_eq_true rfl) (Nat.le_of_ble_eq_true rfl) dX1_init_23 (fun q3 cA H hK9 hP hD hS => ?_)
  have hcA := cls_I hK9
  subst hcA
  obtain ⟨hP, hD⟩ : PD D A [(a, .inr (1, [.ref q1, .ref q2, .null, .null, .int 0, .int 0])), (cI κ q1 40 (fun _ => 0)), (cI κ q2 40 (fun _ => 0)), (cI κ q3 40 (fun _ => 0))] H := ⟨hP, hD⟩
  refine va_putF (D := D) (ci := 1) (v := .ref q3) (ty := .array .int) (C := RX1) (T := TX1) (N := 6) hx hb hts w2 tyX1 tyX1_ok nmX1 hown hK.1 hP hD hS 0 rfl rfl 2 (by decide) w4 (fun _ h9 => h9) rfl hin rfl (by decide +kernel) rfl rfl (Nat.le_of_ble_eq_true rfl) dX1_init_25 (fun H locs hP hD hS => ?_)
  obtain ⟨hP, hD⟩ : PD D A [(a, .inr (1, [.ref q1, .ref q2, .ref q3, .null, .int 0, .int 0])), (cI κ q1 40 (fun _ => 0)), (cI κ q2 40 (fun _ => 0)), (cI κ q3 40 (fun _ => 0))] H := ⟨hP, hD⟩
  refine lv_aload_n hx hb dX1_init_28 rfl (lv_at hl 0 rfl) ?_
  refine lv_bipush (v := 40) hx hb dX1_init_29 (by decide) ?_
  refine va_newa (atype := .int) hx hb w0 rfl hK.1 hP hD hS hA (a0 := (40, .inl (fun _ => 0))) (fun _ => rfl) (by decide) rfl (Nat.le_of_ble_eq_true rfl) (Nat.le_of_ble_eq_true rfl) (Nat.le_of_ble_eq_true rfl) dX1_init_31 (fun q4 cA H hK9 hP hD hS => ?_)
  have hcA := cls_I hK9
  subst hcA
  obtain ⟨hP, hD⟩ : PD D A [(a, .inr (1, [.ref q1, .ref q2, .ref q3, .null, .int 0, .int 0])), (cI κ q1 40 (fun _ => 0)), (cI κ q2 40 (fun _ => 0)), (cI κ q3 40 (fun _ => 0)), (cI κ q4 40 (fun _ => 0))] H := ⟨hP, hD⟩
  refine va_putF (D := D) (ci := 1) (v := .ref q4) (ty := .array .int) (C := RX1) (T := TX1) (N := 6) hx hb hts w2 tyX1 tyX1_ok nmX1 hown hK.1 hP hD hS 0 rfl rfl 3 (by decide) w5 (fun _ h9 => h9) rfl hin rfl (by decide +kernel) rfl rfl (Nat.le_of_ble_eq_true rfl) dX1_init_33 (fun H locs hP hD hS => ?_)
  obtain ⟨hP, hD⟩ : PD D A [(a, .inr (1, [.ref q1, .ref q2, .ref q3, .ref q4, .int 0, .int 0])), (cI κ q1 40 (fun _ => 0)), (cI κ q2 40 (fun _ => 0)), (cI κ q3 40 (fun _ => 0)), (cI κ q4 40 (fun _ => 0))] H := ⟨hP, hD⟩
  have hP : va_P D vwCl [(a, .inr (1, [.ref q1, .ref q2, .ref q3, .ref q4, .int 0, .int 0])), (cI κ q1 40 (fun _ => 0)), (cI κ q2 40 (fun _ => 0)), (cI κ q3 40 (fun _ => 0)), (cI κ q4 40 (fun _ => 0))] H := hP.sub [0, 1, 2, 3, 4] rfl
  have hD : va_D A [(a, .inr (1, [.ref q1, .ref q2, .ref q3, .ref q4, .int 0, .int 0])), (cI κ q1 40 (fun _ => 0)), (cI κ q2 40 (fun _ => 0)), (cI κ q3 40 (fun _ => 0)), (cI κ q4 40 (fun _ => 0))] := hD.sub [0, 1, 2, 3, 4] (by decide) rfl
  exact ret _ _ _ _ (fun i => ([q1, q2, q3, q4, 0, 0] : List Nat).getD i 0) dX1_init_36 trivial hP hD hS
set_option maxHeartbeats 4000000 in
set_option maxRecDepth 100000 in
theorem k_X0_init (l : Launch) (D : va_G) (κ : Nat → ClassId) (β : Nat) (a : Nat) (sz : Nat) : Met l yX0_init wsX0_init ({ frames := 1, cells := 2, slots := 74, locals := 20 } : Room) (PcK D κ β [(a, .inr (0, [.null, .int 0, .null, .int 0, .int 0]))] sz [.ref a]) (QvK D (fun (u : Nat → Nat) => True) (fun (u : Nat → Nat) => [O0 a u 0 0 0, (cI κ (u 0) 50 (fun _ => 0)), (cI κ (u 2) 24 (fun _ => 0))]) [(a, .inr (0, [.null, .int 0, .null, .int 0, .int 0]))] sz) 2 74 (va_A [(a, .inr (0, [.null, .int 0, .null, .int 0, .int 0]))] sz) := by
  refine ofK_v (cc := cX0_init) (maxL := 1) (own := RX0) (by decide) rfl rfl (Nat.le_of_ble_eq_true rfl) ?_
  intro p e s m args below meth c Q A ls hsz hx hb hml hts hown hK hA hAB hP hD hl hin ret
  have hS : va_S A s.heap s.heap [] := va_S.rf
  have hl : lv_has ls 1 [(0, .ref a)] := hl
  have w0 := hts (.arrayClass .int) (List.mem_of_getElem? (i := 4) rfl)
  have w1 := hts (.fieldLink RX0 9 "OlderSkin$Bodies" "kinds" "[I") (List.mem_of_getElem? (i := 5) rfl)
  have w2 := (fun w h => List.mem_cons_of_mem _ (List.mem_append_right _ h) : ∀ w ∈ u_ws RX0 TX0 5, w ∈ wsX0_init)
  have w3 := hts (.fieldLink RX0 15 "OlderSkin$Bodies" "trace" "[I") (List.mem_of_getElem? (i := 6) rfl)
  have l0 : (50 : Int32).toInt = 50 := by decide
  have l1 : (24 : Int32).toInt = 24 := by decide
  refine lv_aload_n hx hb dX0_init_0 rfl (lv_at hl 0 rfl) ?_
  refine W.objInit hx hb hown (hts (.methodLink RX0 3 objectInit) (by decide +kernel)) (hts (.instanceMethod objectInit) (by decide +kernel)) (hts _ (List.mem_cons_of_mem _ (List.mem_of_getElem? (i := 2) rfl))) rfl (by rw [hml]; exact hl.1) rfl dX0_init_1 (Nat.le_of_ble_eq_true rfl) (Nat.le_of_ble_eq_true rfl) ?_
  refine W.eq (g2 := F0 m 4 ls []) rfl ?_
  refine lv_aload_n hx hb dX0_init_4 rfl (lv_at hl 0 rfl) ?_
  refine lv_bipush (v := 50) hx hb dX0_init_5 (by decide) ?_
  refine va_newa (atype := .int) hx hb w0 rfl hK.1 hP hD hS hA (a0 := (50, .inl (fun _ => 0))) (fun _ => rfl) (by decide) rfl (Nat.le_of_ble_eq_true rfl) (Nat.le_of_ble_eq_true rfl) (Nat.le_of_ble_eq_true rfl) dX0_init_7 (fun q1 cA H hK9 hP hD hS => ?_)
  have hcA := cls_I hK9
  subst hcA
  obtain ⟨hP, hD⟩ : PD D A [(a, .inr (0, [.null, .int 0, .null, .int 0, .int 0])), (cI κ q1 50 (fun _ => 0))] H := ⟨hP, hD⟩
  refine va_putF (D := D) (ci := 0) (v := .ref q1) (ty := .array .int) (C := RX0) (T := TX0) (N := 5) hx hb hts w2 tyX0 tyX0_ok nmX0 hown hK.1 hP hD hS 0 rfl rfl 0 (by decide) w1 (fun _ h9 => h9) rfl hin rfl (by decide +kernel) rfl rfl (Nat.le_of_ble_eq_true rfl) dX0_init_9 (fun H locs hP hD hS => ?_)
  obtain ⟨hP, hD⟩ : PD D A [(a, .inr (0, [.ref q1, .int 0, .null, .int 0, .int 0])), (cI κ q1 50 (fun _ => 0))] H := ⟨hP, hD⟩
  refine lv_aload_n hx hb dX0_init_12 rfl (lv_at hl 0 rfl) ?_
  refine lv_bipush (v := 24) hx hb dX0_init_13 (by decide) ?_
  refine va_newa (atype := .int) hx hb w0 rfl hK.1 hP hD hS hA (a0 := (24, .inl (fun _ => 0))) (fun _ => rfl) (by decide) rfl (Nat.le_of_ble_eq_true rfl) (Nat.le_of_ble_eq_true rfl) (Nat.le_of_ble_eq_true rfl) dX0_init_15 (fun q2 cA H hK9 hP hD hS => ?_)
  have hcA := cls_I hK9
  subst hcA
  obtain ⟨hP, hD⟩ : PD D A [(a, .inr (0, [.ref q1, .int 0, .null, .int 0, .int 0])), (cI κ q1 50 (fun _ => 0)), (cI κ q2 24 (fun _ => 0))] H := ⟨hP, hD⟩
  refine va_putF (D := D) (ci := 0) (v := .ref q2) (ty := .array .int) (C := RX0) (T := TX0) (N := 5) hx hb hts w2 tyX0 tyX0_ok nmX0 hown hK.1 hP hD hS 0 rfl rfl 2 (by decide) w3 (fun _ h9 => h9) rfl hin rfl (by decide +kernel) rfl rfl (Nat.le_of_ble_eq_true rfl) dX0_init_17 (fun H locs hP hD hS => ?_)
  obtain ⟨hP, hD⟩ : PD D A [(a, .inr (0, [.ref q1, .int 0, .ref q2, .int 0, .int 0])), (cI κ q1 50 (fun _ => 0)), (cI κ q2 24 (fun _ => 0))] H := ⟨hP, hD⟩
  have hP : va_P D vwCl [(a, .inr (0, [.ref q1, .int 0, .ref q2, .int 0, .int 0])), (cI κ q1 50 (fun _ => 0)), (cI κ q2 24 (fun _ => 0))] H := hP.sub [0, 1, 2] rfl
  have hD : va_D A [(a, .inr (0, [.ref q1, .int 0, .ref q2, .int 0, .int 0])), (cI κ q1 50 (fun _ => 0)), (cI κ q2 24 (fun _ => 0))] := hD.sub [0, 1, 2] (by decide) rfl
  exact ret _ _ _ _ (fun i => ([q1, 0, q2, 0, 0] : List Nat).getD i 0) dX0_init_20 trivial hP hD hS
set_option maxHeartbeats 4000000 in
set_option maxRecDepth 100000 in
theorem k_X2_init (l : Launch) (D : va_G) (κ : Nat → ClassId) (β : Nat) (a : Nat) (sz : Nat) : Met l yX2_init wsX2_init ({ frames := 1, cells := 5, slots := 200, locals := 20 } : Room) (PcK D κ β [(a, .inr (2, [.null, .null, .null, .int 0, .int 0, .int 0, .null, .null]))] sz [.ref a]) (QvK D (fun (u : Nat → Nat) => True) (fun (u : Nat → Nat) => [O2 a u 0 2001 9999, (cI κ (u 0) 40 (fun _ => 0)), (cI κ (u 1) 40 (fun _ => 0)), (cI κ (u 2) 40 (fun _ => 0)), (cI κ (u 6) 40 (fun _ => 0)), (cI κ (u 7) 40 (fun _ => 0))]) [(a, .inr (2, [.null, .null, .null, .int 0, .int 0, .int 0, .null, .null]))] sz) 5 200 (va_A [(a, .inr (2, [.null, .null, .null, .int 0, .int 0, .int 0, .null, .null]))] sz) := by
  refine ofK_v (cc := cX2_init) (maxL := 1) (own := RX2) (by decide) rfl rfl (Nat.le_of_ble_eq_true rfl) ?_
  intro p e s m args below meth c Q A ls hsz hx hb hml hts hown hK hA hAB hP hD hl hin ret
  have hS : va_S A s.heap s.heap [] := va_S.rf
  have hl : lv_has ls 1 [(0, .ref a)] := hl
  have w0 := hts (.arrayClass .int) (List.mem_of_getElem? (i := 4) rfl)
  have w1 := hts (.fieldLink RX2 9 "OlderSkin$Dots" "houses" "[I") (List.mem_of_getElem? (i := 5) rfl)
  have w2 := (fun w h => List.mem_cons_of_mem _ (List.mem_append_right _ h) : ∀ w ∈ u_ws RX2 TX2 8, w ∈ wsX2_init)
  have w3 := hts (.fieldLink RX2 15 "OlderSkin$Dots" "inks" "[I") (List.mem_of_getElem? (i := 6) rfl)
  have w4 := hts (.fieldLink RX2 18 "OlderSkin$Dots" "stuffs" "[I") (List.mem_of_getElem? (i := 7) rfl)
  have w5 := hts (.fieldLink RX2 21 "OlderSkin$Dots" "madeIn" "I") (List.mem_of_getElem? (i := 8) rfl)
  have w6 := hts (.fieldLink RX2 25 "OlderSkin$Dots" "bound" "I") (List.mem_of_getElem? (i := 9) rfl)
  have w7 := hts (.fieldLink RX2 28 "OlderSkin$Dots" "shuffled" "[I") (List.mem_of_getElem? (i := 10) rfl)
  have w8 := hts (.fieldLink RX2 31 "OlderSkin$Dots" "inksOfShuffled" "[I") (List.mem_of_getElem? (i := 11) rfl)
  have l0 : (40 : Int32).toInt = 40 := by decide
  have l1 : (2001 : Int32).toInt = 2001 := by decide
  have l2 : (9999 : Int32).toInt = 9999 := by decide
  refine lv_aload_n hx hb dX2_init_0 rfl (lv_at hl 0 rfl) ?_
  refine W.objInit hx hb hown (hts (.methodLink RX2 3 objectInit) (by decide +kernel)) (hts (.instanceMethod objectInit) (by decide +kernel)) (hts _ (List.mem_cons_of_mem _ (List.mem_of_getElem? (i := 2) rfl))) rfl (by rw [hml]; exact hl.1) rfl dX2_init_1 (Nat.le_of_ble_eq_true rfl) (Nat.le_of_ble_eq_true rfl) ?_
  refine W.eq (g2 := F0 m 4 ls []) rfl ?_
  refine lv_aload_n hx hb dX2_init_4 rfl (lv_at hl 0 rfl) ?_
  refine lv_bipush (v := 40) hx hb dX2_init_5 (by decide) ?_
  refine va_newa (atype := .int) hx hb w0 rfl hK.1 hP hD hS hA (a0 := (40, .inl (fun _ => 0))) (fun _ => rfl) (by decide) rfl (Nat.le_of_ble_eq_true rfl) (Nat.le_of_ble_eq_true rfl) (Nat.le_of_ble_eq_true rfl) dX2_init_7 (fun q1 cA H hK9 hP hD hS => ?_)
  have hcA := cls_I hK9
  subst hcA
  obtain ⟨hP, hD⟩ : PD D A [(a, .inr (2, [.null, .null, .null, .int 0, .int 0, .int 0, .null, .null])), (cI κ q1 40 (fun _ => 0))] H := ⟨hP, hD⟩
  refine va_putF (D := D) (ci := 2) (v := .ref q1) (ty := .array .int) (C := RX2) (T := TX2) (N := 8) hx hb hts w2 tyX2 tyX2_ok nmX2 hown hK.1 hP hD hS 0 rfl rfl 0 (by decide) w1 (fun _ h9 => h9) rfl hin rfl (by decide +kernel) rfl rfl (Nat.le_of_ble_eq_true rfl) dX2_init_9 (fun H locs hP hD hS => ?_)
  obtain ⟨hP, hD⟩ : PD D A [(a, .inr (2, [.ref q1, .null, .null, .int 0, .int 0, .int 0, .null, .null])), (cI κ q1 40 (fun _ => 0))] H := ⟨hP, hD⟩
  refine lv_aload_n hx hb dX2_init_12 rfl (lv_at hl 0 rfl) ?_
  refine lv_bipush (v := 40) hx hb dX2_init_13 (by decide) ?_
  refine va_newa (atype := .int) hx hb w0 rfl hK.1 hP hD hS hA (a0 := (40, .inl (fun _ => 0))) (fun _ => rfl) (by decide) rfl (Nat.le_of_ble_eq_true rfl) (Nat.le_of_ble_eq_true rfl) (Nat.le_of_ble_eq_true rfl) dX2_init_15 (fun q2 cA H hK9 hP hD hS => ?_)
  have hcA := cls_I hK9
  subst hcA
  obtain ⟨hP, hD⟩ : PD D A [(a, .inr (2, [.ref q1, .null, .null, .int 0, .int 0, .int 0, .null, .null])), (cI κ q1 40 (fun _ => 0)), (cI κ q2 40 (fun _ => 0))] H := ⟨hP, hD⟩
  refine va_putF (D := D) (ci := 2) (v := .ref q2) (ty := .array .int) (C := RX2) (T := TX2) (N := 8) hx hb hts w2 tyX2 tyX2_ok nmX2 hown hK.1 hP hD hS 0 rfl rfl 1 (by decide) w3 (fun _ h9 => h9) rfl hin rfl (by decide +kernel) rfl rfl (Nat.le_of_ble_eq_true rfl) dX2_init_17 (fun H locs hP hD hS => ?_)
  obtain ⟨hP, hD⟩ : PD D A [(a, .inr (2, [.ref q1, .ref q2, .null, .int 0, .int 0, .int 0, .null, .null])), (cI κ q1 40 (fun _ => 0)), (cI κ q2 40 (fun _ => 0))] H := ⟨hP, hD⟩
  refine lv_aload_n hx hb dX2_init_20 rfl (lv_at hl 0 rfl) ?_
  refine lv_bipush (v := 40) hx hb dX2_init_21 (by decide) ?_
  refine va_newa (atype := .int) hx hb w0 rfl hK.1 hP hD hS hA (a0 := (40, .inl (fun _ => 0))) (fun _ => rfl) (by decide) rfl (Nat.le_of_ble_eq_true rfl) (Nat.le_of_ble_eq_true rfl) (Nat.le_of_ble_eq_true rfl) dX2_init_23 (fun q3 cA H hK9 hP hD hS => ?_)
  have hcA := cls_I hK9
  subst hcA
  obtain ⟨hP, hD⟩ : PD D A [(a, .inr (2, [.ref q1, .ref q2, .null, .int 0, .int 0, .int 0, .null, .null])), (cI κ q1 40 (fun _ => 0)), (cI κ q2 40 (fun _ => 0)), (cI κ q3 40 (fun _ => 0))] H := ⟨hP, hD⟩
  refine va_putF (D := D) (ci := 2) (v := .ref q3) (ty := .array .int) (C := RX2) (T := TX2) (N := 8) hx hb hts w2 tyX2 tyX2_ok nmX2 hown hK.1 hP hD hS 0 rfl rfl 2 (by decide) w4 (fun _ h9 => h9) rfl hin rfl (by decide +kernel) rfl rfl (Nat.le_of_ble_eq_true rfl) dX2_init_25 (fun H locs hP hD hS => ?_)
  obtain ⟨hP, hD⟩ : PD D A [(a, .inr (2, [.ref q1, .ref q2, .ref q3, .int 0, .int 0, .int 0, .null, .null])), (cI κ q1 40 (fun _ => 0)), (cI κ q2 40 (fun _ => 0)), (cI κ q3 40 (fun _ => 0))] H := ⟨hP, hD⟩
  refine lv_aload_n hx hb dX2_init_28 rfl (lv_at hl 0 rfl) ?_
  refine lv_sipush (v := 2001) hx hb dX2_init_29 (by decide) ?_
  refine va_put (D := D) (ci := 2) (v := .int 2001) (ty := .int) (C := RX2) (T := TX2) (N := 8) hx hb hts w2 tyX2 tyX2_ok nmX2 hown hK.1 hP hD hS 0 rfl rfl 4 (by decide) w5 (fun _ h9 => h9) rfl (by decide +kernel) rfl rfl (Nat.le_of_ble_eq_true rfl) dX2_init_32 (fun H locs hP hD hS => ?_)
  obtain ⟨hP, hD⟩ : PD D A [(a, .inr (2, [.ref q1, .ref q2, .ref q3, .int 0, .int 2001, .int 0, .null, .null])), (cI κ q1 40 (fun _ => 0)), (cI κ q2 40 (fun _ => 0)), (cI κ q3 40 (fun _ => 0))] H := ⟨hP, hD⟩
  refine lv_aload_n hx hb dX2_init_35 rfl (lv_at hl 0 rfl) ?_
  refine lv_sipush (v := 9999) hx hb dX2_init_36 (by decide) ?_
  refine va_put (D := D) (ci := 2) (v := .int 9999) (ty := .int) (C := RX2) (T := TX2) (N := 8) hx hb hts w2 tyX2 tyX2_ok nmX2 hown hK.1 hP hD hS 0 rfl rfl 5 (by decide) w6 (fun _ h9 => h9) rfl (by decide +kernel) rfl rfl (Nat.le_of_ble_eq_true rfl) dX2_init_39 (fun H locs hP hD hS => ?_)
  obtain ⟨hP, hD⟩ : PD D A [(a, .inr (2, [.ref q1, .ref q2, .ref q3, .int 0, .int 2001, .int 9999, .null, .null])), (cI κ q1 40 (fun _ => 0)), (cI κ q2 40 (fun _ => 0)), (cI κ q3 40 (fun _ => 0))] H := ⟨hP, hD⟩
  refine lv_aload_n hx hb dX2_init_42 rfl (lv_at hl 0 rfl) ?_
  refine lv_bipush (v := 40) hx hb dX2_init_43 (by decide) ?_
  refine va_newa (atype := .int) hx hb w0 rfl hK.1 hP hD hS hA (a0 := (40, .inl (fun _ => 0))) (fun _ => rfl) (by decide) rfl (Nat.le_of_ble_eq_true rfl) (Nat.le_of_ble_eq_true rfl) (Nat.le_of_ble_eq_true rfl) dX2_init_45 (fun q4 cA H hK9 hP hD hS => ?_)
  have hcA := cls_I hK9
  subst hcA
  obtain ⟨hP, hD⟩ : PD D A [(a, .inr (2, [.ref q1, .ref q2, .ref q3, .int 0, .int 2001, .int 9999, .null, .null])), (cI κ q1 40 (fun _ => 0)), (cI κ q2 40 (fun _ => 0)), (cI κ q3 40 (fun _ => 0)), (cI κ q4 40 (fun _ => 0))] H := ⟨hP, hD⟩
  refine va_putF (D := D) (ci := 2) (v := .ref q4) (ty := .array .int) (C := RX2) (T := TX2) (N := 8) hx hb hts w2 tyX2 tyX2_ok nmX2 hown hK.1 hP hD hS 0 rfl rfl 6 (by decide) w7 (fun _ h9 => h9) rfl hin rfl (by decide +kernel) rfl rfl (Nat.le_of_ble_eq_true rfl) dX2_init_47 (fun H locs hP hD hS => ?_)
  obtain ⟨hP, hD⟩ : PD D A [(a, .inr (2, [.ref q1, .ref q2, .ref q3, .int 0, .int 2001, .int 9999, .ref q4, .null])), (cI κ q1 40 (fun _ => 0)), (cI κ q2 40 (fun _ => 0)), (cI κ q3 40 (fun _ => 0)), (cI κ q4 40 (fun _ => 0))] H := ⟨hP, hD⟩
  refine lv_aload_n hx hb dX2_init_50 rfl (lv_at hl 0 rfl) ?_
  refine lv_bipush (v := 40) hx hb dX2_init_51 (by decide) ?_
  refine va_newa (atype := .int) hx hb w0 rfl hK.1 hP hD hS hA (a0 := (40, .inl (fun _ => 0))) (fun _ => rfl) (by decide) rfl (Nat.le_of_ble_eq_true rfl) (Nat.le_of_ble_eq_true rfl) (Nat.le_of_ble_eq_true rfl) dX2_init_53 (fun q5 cA H hK9 hP hD hS => ?_)
  have hcA := cls_I hK9
  subst hcA
  obtain ⟨hP, hD⟩ : PD D A [(a, .inr (2, [.ref q1, .ref q2, .ref q3, .int 0, .int 2001, .int 9999, .ref q4, .null])), (cI κ q1 40 (fun _ => 0)), (cI κ q2 40 (fun _ => 0)), (cI κ q3 40 (fun _ => 0)), (cI κ q4 40 (fun _ => 0)), (cI κ q5 40 (fun _ => 0))] H := ⟨hP, hD⟩
  refine va_putF (D := D) (ci := 2) (v := .ref q5) (ty := .array .int) (C := RX2) (T := TX2) (N := 8) hx hb hts w2 tyX2 tyX2_ok nmX2 hown hK.1 hP hD hS 0 rfl rfl 7 (by decide) w8 (fun _ h9 => h9) rfl hin rfl (by decide +kernel) rfl rfl (Nat.le_of_ble_eq_true rfl) dX2_init_55 (fun H locs hP hD hS => ?_)
  obtain ⟨hP, hD⟩ : PD D A [(a, .inr (2, [.ref q1, .ref q2, .ref q3, .int 0, .int 2001, .int 9999, .ref q4, .ref q5])), (cI κ q1 40 (fun _ => 0)), (cI κ q2 40 (fun _ => 0)), (cI κ q3 40 (fun _ => 0)), (cI κ q4 40 (fun _ => 0)), (cI κ q5 40 (fun _ => 0))] H := ⟨hP, hD⟩
  have hP : va_P D vwCl [(a, .inr (2, [.ref q1, .ref q2, .ref q3, .int 0, .int 2001, .int 9999, .ref q4, .ref q5])), (cI κ q1 40 (fun _ => 0)), (cI κ q2 40 (fun _ => 0)), (cI κ q3 40 (fun _ => 0)), (cI κ q4 40 (fun _ => 0)), (cI κ q5 40 (fun _ => 0))] H := hP.sub [0, 1, 2, 3, 4, 5] rfl
  have hD : va_D A [(a, .inr (2, [.ref q1, .ref q2, .ref q3, .int 0, .int 2001, .int 9999, .ref q4, .ref q5])), (cI κ q1 40 (fun _ => 0)), (cI κ q2 40 (fun _ => 0)), (cI κ q3 40 (fun _ => 0)), (cI κ q4 40 (fun _ => 0)), (cI κ q5 40 (fun _ => 0))] := hD.sub [0, 1, 2, 3, 4, 5] (by decide) rfl
  exact ret _ _ _ _ (fun i => ([q1, q2, q3, 0, 0, 0, q4, q5] : List Nat).getD i 0) dX2_init_58 trivial hP hD hS
set_option maxHeartbeats 4000000 in
set_option maxRecDepth 100000 in
theorem k_X3_init (l : Launch) (D : va_G) (κ : Nat → ClassId) (β : Nat) (a : Nat) (sz : Nat) : Met l yX3_init wsX3_init ({ frames := 1, cells := 8, slots := 306, locals := 20 } : Room) (PcK D κ β [(a, .inr (3, [.null, .null, .int 0, .null, .null, .null, .int 0, .null, .null, .null]))] sz [.ref a]) (QvK D (fun (u : Nat → Nat) => True) (fun (u : Nat → Nat) => [O3 a u 0 0, (cI κ (u 0) 20 (fun _ => 0)), (cI κ (u 1) 20 (fun _ => 0)), (cI κ (u 3) 60 (fun _ => 0)), (cI κ (u 4) 60 (fun _ => 0)), (cI κ (u 5) 60 (fun _ => 0)), (cI κ (u 7) 40 (fun _ => 0)), (cI κ (u 8) 40 (fun _ => 0)), (cI κ (u 9) 6 (fun _ => 0))]) [(a, .inr (3, [.null, .null, .int 0, .null, .null, .null, .int 0, .null, .null, .null]))] sz) 8 306 (va_A [(a, .inr (3, [.null, .null, .int 0, .null, .null, .null, .int 0, .null, .null, .null]))] sz) := by
  refine ofK_v (cc := cX3_init) (maxL := 1) (own := RX3) (by decide) rfl rfl (Nat.le_of_ble_eq_true rfl) ?_
  intro p e s m args below meth c Q A ls hsz hx hb hml hts hown hK hA hAB hP hD hl hin ret
  have hS : va_S A s.heap s.heap [] := va_S.rf
  have hl : lv_has ls 1 [(0, .ref a)] := hl
  have w0 := hts (.arrayClass .int) (List.mem_of_getElem? (i := 4) rfl)
  have w1 := hts (.fieldLink RX3 9 "OlderSkin$Lines" "sheetOf" "[I") (List.mem_of_getElem? (i := 5) rfl)
  have w2 := (fun w h => List.mem_cons_of_mem _ (List.mem_append_right _ h) : ∀ w ∈ u_ws RX3 TX3 10, w ∈ wsX3_init)
  have w3 := hts (.fieldLink RX3 15 "OlderSkin$Lines" "inkOf" "[I") (List.mem_of_getElem? (i := 6) rfl)
  have w4 := hts (.fieldLink RX3 18 "OlderSkin$Lines" "markLine" "[I") (List.mem_of_getElem? (i := 7) rfl)
  have w5 := hts (.fieldLink RX3 21 "OlderSkin$Lines" "markHole" "[I") (List.mem_of_getElem? (i := 8) rfl)
  have w6 := hts (.fieldLink RX3 24 "OlderSkin$Lines" "markOver" "[I") (List.mem_of_getElem? (i := 9) rfl)
  have w7 := hts (.fieldLink RX3 27 "OlderSkin$Lines" "inksOver" "[I") (List.mem_of_getElem? (i := 10) rfl)
  have w8 := hts (.fieldLink RX3 30 "OlderSkin$Lines" "inksRound" "[I") (List.mem_of_getElem? (i := 11) rfl)
  have w9 := hts (.fieldLink RX3 33 "OlderSkin$Lines" "inksAhead" "[I") (List.mem_of_getElem? (i := 12) rfl)
  have l0 : (20 : Int32).toInt = 20 := by decide
  have l1 : (60 : Int32).toInt = 60 := by decide
  have l2 : (40 : Int32).toInt = 40 := by decide
  have l3 : (6 : Int32).toInt = 6 := by decide
  refine lv_aload_n hx hb dX3_init_0 rfl (lv_at hl 0 rfl) ?_
  refine W.objInit hx hb hown (hts (.methodLink RX3 3 objectInit) (by decide +kernel)) (hts (.instanceMethod objectInit) (by decide +kernel)) (hts _ (List.mem_cons_of_mem _ (List.mem_of_getElem? (i := 2) rfl))) rfl (by rw [hml]; exact hl.1) rfl dX3_init_1 (Nat.le_of_ble_eq_true rfl) (Nat.le_of_ble_eq_true rfl) ?_
  refine W.eq (g2 := F0 m 4 ls []) rfl ?_
  refine lv_aload_n hx hb dX3_init_4 rfl (lv_at hl 0 rfl) ?_
  refine lv_bipush (v := 20) hx hb dX3_init_5 (by decide) ?_
  refine va_newa (atype := .int) hx hb w0 rfl hK.1 hP hD hS hA (a0 := (20, .inl (fun _ => 0))) (fun _ => rfl) (by decide) rfl (Nat.le_of_ble_eq_true rfl) (Nat.le_of_ble_eq_true rfl) (Nat.le_of_ble_eq_true rfl) dX3_init_7 (fun q1 cA H hK9 hP hD hS => ?_)
  have hcA := cls_I hK9
  subst hcA
  obtain ⟨hP, hD⟩ : PD D A [(a, .inr (3, [.null, .null, .int 0, .null, .null, .null, .int 0, .null, .null, .null])), (cI κ q1 20 (fun _ => 0))] H := ⟨hP, hD⟩
  refine va_putF (D := D) (ci := 3) (v := .ref q1) (ty := .array .int) (C := RX3) (T := TX3) (N := 10) hx hb hts w2 tyX3 tyX3_ok nmX3 hown hK.1 hP hD hS 0 rfl rfl 0 (by decide) w1 (fun _ h9 => h9) rfl hin rfl (by decide +kernel) rfl rfl (Nat.le_of_ble_eq_true rfl) dX3_init_9 (fun H locs hP hD hS => ?_)
  obtain ⟨hP, hD⟩ : PD D A [(a, .inr (3, [.ref q1, .null, .int 0, .null, .null, .null, .int 0, .null, .null, .null])), (cI κ q1 20 (fun _ => 0))] H := ⟨hP, hD⟩
  refine lv_aload_n hx hb dX3_init_12 rfl (lv_at hl 0 rfl) ?_
  refine lv_bipush (v := 20) hx hb dX3_init_13 (by decide) ?_
  refine va_newa (atype := .int) hx hb w0 rfl hK.1 hP hD hS hA (a0 := (20, .inl (fun _ => 0))) (fun _ => rfl) (by decide) rfl (Nat.le_of_ble_eq_true rfl) (Nat.le_of_ble_eq_true rfl) (Nat.le_of_ble_eq_true rfl) dX3_init_15 (fun q2 cA H hK9 hP hD hS => ?_)
  have hcA := cls_I hK9
  subst hcA
  obtain ⟨hP, hD⟩ : PD D A [(a, .inr (3, [.ref q1, .null, .int 0, .null, .null, .null, .int 0, .null, .null, .null])), (cI κ q1 20 (fun _ => 0)), (cI κ q2 20 (fun _ => 0))] H := ⟨hP, hD⟩
  refine va_putF (D := D) (ci := 3) (v := .ref q2) (ty := .array .int) (C := RX3) (T := TX3) (N := 10) hx hb hts w2 tyX3 tyX3_ok nmX3 hown hK.1 hP hD hS 0 rfl rfl 1 (by decide) w3 (fun _ h9 => h9) rfl hin rfl (by decide +kernel) rfl rfl (Nat.le_of_ble_eq_true rfl) dX3_init_17 (fun H locs hP hD hS => ?_)
  obtain ⟨hP, hD⟩ : PD D A [(a, .inr (3, [.ref q1, .ref q2, .int 0, .null, .null, .null, .int 0, .null, .null, .null])), (cI κ q1 20 (fun _ => 0)), (cI κ q2 20 (fun _ => 0))] H := ⟨hP, hD⟩
  refine lv_aload_n hx hb dX3_init_20 rfl (lv_at hl 0 rfl) ?_
  refine lv_bipush (v := 60) hx hb dX3_init_21 (by decide) ?_
  refine va_newa (atype := .int) hx hb w0 rfl hK.1 hP hD hS hA (a0 := (60, .inl (fun _ => 0))) (fun _ => rfl) (by decide) rfl (Nat.le_of_ble_eq_true rfl) (Nat.le_of_ble_eq_true rfl) (Nat.le_of_ble_eq_true rfl) dX3_init_23 (fun q3 cA H hK9 hP hD hS => ?_)
  have hcA := cls_I hK9
  subst hcA
  obtain ⟨hP, hD⟩ : PD D A [(a, .inr (3, [.ref q1, .ref q2, .int 0, .null, .null, .null, .int 0, .null, .null, .null])), (cI κ q1 20 (fun _ => 0)), (cI κ q2 20 (fun _ => 0)), (cI κ q3 60 (fun _ => 0))] H := ⟨hP, hD⟩
  refine va_putF (D := D) (ci := 3) (v := .ref q3) (ty := .array .int) (C := RX3) (T := TX3) (N := 10) hx hb hts w2 tyX3 tyX3_ok nmX3 hown hK.1 hP hD hS 0 rfl rfl 3 (by decide) w4 (fun _ h9 => h9) rfl hin rfl (by decide +kernel) rfl rfl (Nat.le_of_ble_eq_true rfl) dX3_init_25 (fun H locs hP hD hS => ?_)
  obtain ⟨hP, hD⟩ : PD D A [(a, .inr (3, [.ref q1, .ref q2, .int 0, .ref q3, .null, .null, .int 0, .null, .null, .null])), (cI κ q1 20 (fun _ => 0)), (cI κ q2 20 (fun _ => 0)), (cI κ q3 60 (fun _ => 0))] H := ⟨hP, hD⟩
  refine lv_aload_n hx hb dX3_init_28 rfl (lv_at hl 0 rfl) ?_
  refine lv_bipush (v := 60) hx hb dX3_init_29 (by decide) ?_
  refine va_newa (atype := .int) hx hb w0 rfl hK.1 hP hD hS hA (a0 := (60, .inl (fun _ => 0))) (fun _ => rfl) (by decide) rfl (Nat.le_of_ble_eq_true rfl) (Nat.le_of_ble_eq_true rfl) (Nat.le_of_ble_eq_true rfl) dX3_init_31 (fun q4 cA H hK9 hP hD hS => ?_)
  have hcA := cls_I hK9
  subst hcA
  obtain ⟨hP, hD⟩ : PD D A [(a, .inr (3, [.ref q1, .ref q2, .int 0, .ref q3, .null, .null, .int 0, .null, .null, .null])), (cI κ q1 20 (fun _ => 0)), (cI κ q2 20 (fun _ => 0)), (cI κ q3 60 (fun _ => 0)), (cI κ q4 60 (fun _ => 0))] H := ⟨hP, hD⟩
  refine va_putF (D := D) (ci := 3) (v := .ref q4) (ty := .array .int) (C := RX3) (T := TX3) (N := 10) hx hb hts w2 tyX3 tyX3_ok nmX3 hown hK.1 hP hD hS 0 rfl rfl 4 (by decide) w5 (fun _ h9 => h9) rfl hin rfl (by decide +kernel) rfl rfl (Nat.le_of_ble_eq_true rfl) dX3_init_33 (fun H locs hP hD hS => ?_)
  obtain ⟨hP, hD⟩ : PD D A [(a, .inr (3, [.ref q1, .ref q2, .int 0, .ref q3, .ref q4, .null, .int 0, .null, .null, .null])), (cI κ q1 20 (fun _ => 0)), (cI κ q2 20 (fun _ => 0)), (cI κ q3 60 (fun _ => 0)), (cI κ q4 60 (fun _ => 0))] H := ⟨hP, hD⟩
  refine lv_aload_n hx hb dX3_init_36 rfl (lv_at hl 0 rfl) ?_
  refine lv_bipush (v := 60) hx hb dX3_init_37 (by decide) ?_
  refine va_newa (atype := .int) hx hb w0 rfl hK.1 hP hD hS hA (a0 := (60, .inl (fun _ => 0))) (fun _ => rfl) (by decide) rfl (Nat.le_of_ble_eq_true rfl) (Nat.le_of_ble_eq_true rfl) (Nat.le_of_ble_eq_true rfl) dX3_init_39 (fun q5 cA H hK9 hP hD hS => ?_)
  have hcA := cls_I hK9
  subst hcA
  obtain ⟨hP, hD⟩ : PD D A [(a, .inr (3, [.ref q1, .ref q2, .int 0, .ref q3, .ref q4, .null, .int 0, .null, .null, .null])), (cI κ q1 20 (fun _ => 0)), (cI κ q2 20 (fun _ => 0)), (cI κ q3 60 (fun _ => 0)), (cI κ q4 60 (fun _ => 0)), (cI κ q5 60 (fun _ => 0))] H := ⟨hP, hD⟩
  refine va_putF (D := D) (ci := 3) (v := .ref q5) (ty := .array .int) (C := RX3) (T := TX3) (N := 10) hx hb hts w2 tyX3 tyX3_ok nmX3 hown hK.1 hP hD hS 0 rfl rfl 5 (by decide) w6 (fun _ h9 => h9) rfl hin rfl (by decide +kernel) rfl rfl (Nat.le_of_ble_eq_true rfl) dX3_init_41 (fun H locs hP hD hS => ?_)
  obtain ⟨hP, hD⟩ : PD D A [(a, .inr (3, [.ref q1, .ref q2, .int 0, .ref q3, .ref q4, .ref q5, .int 0, .null, .null, .null])), (cI κ q1 20 (fun _ => 0)), (cI κ q2 20 (fun _ => 0)), (cI κ q3 60 (fun _ => 0)), (cI κ q4 60 (fun _ => 0)), (cI κ q5 60 (fun _ => 0))] H := ⟨hP, hD⟩
  refine lv_aload_n hx hb dX3_init_44 rfl (lv_at hl 0 rfl) ?_
  refine lv_bipush (v := 40) hx hb dX3_init_45 (by decide) ?_
  refine va_newa (atype := .int) hx hb w0 rfl hK.1 hP hD hS hA (a0 := (40, .inl (fun _ => 0))) (fun _ => rfl) (by decide) rfl (Nat.le_of_ble_eq_true rfl) (Nat.le_of_ble_eq_true rfl) (Nat.le_of_ble_eq_true rfl) dX3_init_47 (fun q6 cA H hK9 hP hD hS => ?_)
  have hcA := cls_I hK9
  subst hcA
  obtain ⟨hP, hD⟩ : PD D A [(a, .inr (3, [.ref q1, .ref q2, .int 0, .ref q3, .ref q4, .ref q5, .int 0, .null, .null, .null])), (cI κ q1 20 (fun _ => 0)), (cI κ q2 20 (fun _ => 0)), (cI κ q3 60 (fun _ => 0)), (cI κ q4 60 (fun _ => 0)), (cI κ q5 60 (fun _ => 0)), (cI κ q6 40 (fun _ => 0))] H := ⟨hP, hD⟩
  refine va_putF (D := D) (ci := 3) (v := .ref q6) (ty := .array .int) (C := RX3) (T := TX3) (N := 10) hx hb hts w2 tyX3 tyX3_ok nmX3 hown hK.1 hP hD hS 0 rfl rfl 7 (by decide) w7 (fun _ h9 => h9) rfl hin rfl (by decide +kernel) rfl rfl (Nat.le_of_ble_eq_true rfl) dX3_init_49 (fun H locs hP hD hS => ?_)
  obtain ⟨hP, hD⟩ : PD D A [(a, .inr (3, [.ref q1, .ref q2, .int 0, .ref q3, .ref q4, .ref q5, .int 0, .ref q6, .null, .null])), (cI κ q1 20 (fun _ => 0)), (cI κ q2 20 (fun _ => 0)), (cI κ q3 60 (fun _ => 0)), (cI κ q4 60 (fun _ => 0)), (cI κ q5 60 (fun _ => 0)), (cI κ q6 40 (fun _ => 0))] H := ⟨hP, hD⟩
  refine lv_aload_n hx hb dX3_init_52 rfl (lv_at hl 0 rfl) ?_
  refine lv_bipush (v := 40) hx hb dX3_init_53 (by decide) ?_
  refine va_newa (atype := .int) hx hb w0 rfl hK.1 hP hD hS hA (a0 := (40, .inl (fun _ => 0))) (fun _ => rfl) (by decide) rfl (Nat.le_of_ble_eq_true rfl) (Nat.le_of_ble_eq_true rfl) (Nat.le_of_ble_eq_true rfl) dX3_init_55 (fun q7 cA H hK9 hP hD hS => ?_)
  have hcA := cls_I hK9
  subst hcA
  obtain ⟨hP, hD⟩ : PD D A [(a, .inr (3, [.ref q1, .ref q2, .int 0, .ref q3, .ref q4, .ref q5, .int 0, .ref q6, .null, .null])), (cI κ q1 20 (fun _ => 0)), (cI κ q2 20 (fun _ => 0)), (cI κ q3 60 (fun _ => 0)), (cI κ q4 60 (fun _ => 0)), (cI κ q5 60 (fun _ => 0)), (cI κ q6 40 (fun _ => 0)), (cI κ q7 40 (fun _ => 0))] H := ⟨hP, hD⟩
  refine va_putF (D := D) (ci := 3) (v := .ref q7) (ty := .array .int) (C := RX3) (T := TX3) (N := 10) hx hb hts w2 tyX3 tyX3_ok nmX3 hown hK.1 hP hD hS 0 rfl rfl 8 (by decide) w8 (fun _ h9 => h9) rfl hin rfl (by decide +kernel) rfl rfl (Nat.le_of_ble_eq_true rfl) dX3_init_57 (fun H locs hP hD hS => ?_)
  obtain ⟨hP, hD⟩ : PD D A [(a, .inr (3, [.ref q1, .ref q2, .int 0, .ref q3, .ref q4, .ref q5, .int 0, .ref q6, .ref q7, .null])), (cI κ q1 20 (fun _ => 0)), (cI κ q2 20 (fun _ => 0)), (cI κ q3 60 (fun _ => 0)), (cI κ q4 60 (fun _ => 0)), (cI κ q5 60 (fun _ => 0)), (cI κ q6 40 (fun _ => 0)), (cI κ q7 40 (fun _ => 0))] H := ⟨hP, hD⟩
  refine lv_aload_n hx hb dX3_init_60 rfl (lv_at hl 0 rfl) ?_
  refine lv_bipush (v := 6) hx hb dX3_init_61 (by decide) ?_
  refine va_newa (atype := .int) hx hb w0 rfl hK.1 hP hD hS hA (a0 := (6, .inl (fun _ => 0))) (fun _ => rfl) (by decide) rfl (Nat.le_of_ble_eq_true rfl) (Nat.le_of_ble_eq_true rfl) (Nat.le_of_ble_eq_true rfl) dX3_init_63 (fun q8 cA H hK9 hP hD hS => ?_)
  have hcA := cls_I hK9
  subst hcA
  obtain ⟨hP, hD⟩ : PD D A [(a, .inr (3, [.ref q1, .ref q2, .int 0, .ref q3, .ref q4, .ref q5, .int 0, .ref q6, .ref q7, .null])), (cI κ q1 20 (fun _ => 0)), (cI κ q2 20 (fun _ => 0)), (cI κ q3 60 (fun _ => 0)), (cI κ q4 60 (fun _ => 0)), (cI κ q5 60 (fun _ => 0)), (cI κ q6 40 (fun _ => 0)), (cI κ q7 40 (fun _ => 0)), (cI κ q8 6 (fun _ => 0))] H := ⟨hP, hD⟩
  refine va_putF (D := D) (ci := 3) (v := .ref q8) (ty := .array .int) (C := RX3) (T := TX3) (N := 10) hx hb hts w2 tyX3 tyX3_ok nmX3 hown hK.1 hP hD hS 0 rfl rfl 9 (by decide) w9 (fun _ h9 => h9) rfl hin rfl (by decide +kernel) rfl rfl (Nat.le_of_ble_eq_true rfl) dX3_init_65 (fun H locs hP hD hS => ?_)
  obtain ⟨hP, hD⟩ : PD D A [(a, .inr (3, [.ref q1, .ref q2, .int 0, .ref q3, .ref q4, .ref q5, .int 0, .ref q6, .ref q7, .ref q8])), (cI κ q1 20 (fun _ => 0)), (cI κ q2 20 (fun _ => 0)), (cI κ q3 60 (fun _ => 0)), (cI κ q4 60 (fun _ => 0)), (cI κ q5 60 (fun _ => 0)), (cI κ q6 40 (fun _ => 0)), (cI κ q7 40 (fun _ => 0)), (cI κ q8 6 (fun _ => 0))] H := ⟨hP, hD⟩
  have hP : va_P D vwCl [(a, .inr (3, [.ref q1, .ref q2, .int 0, .ref q3, .ref q4, .ref q5, .int 0, .ref q6, .ref q7, .ref q8])), (cI κ q1 20 (fun _ => 0)), (cI κ q2 20 (fun _ => 0)), (cI κ q3 60 (fun _ => 0)), (cI κ q4 60 (fun _ => 0)), (cI κ q5 60 (fun _ => 0)), (cI κ q6 40 (fun _ => 0)), (cI κ q7 40 (fun _ => 0)), (cI κ q8 6 (fun _ => 0))] H := hP.sub [0, 1, 2, 3, 4, 5, 6, 7, 8] rfl
  have hD : va_D A [(a, .inr (3, [.ref q1, .ref q2, .int 0, .ref q3, .ref q4, .ref q5, .int 0, .ref q6, .ref q7, .ref q8])), (cI κ q1 20 (fun _ => 0)), (cI κ q2 20 (fun _ => 0)), (cI κ q3 60 (fun _ => 0)), (cI κ q4 60 (fun _ => 0)), (cI κ q5 60 (fun _ => 0)), (cI κ q6 40 (fun _ => 0)), (cI κ q7 40 (fun _ => 0)), (cI κ q8 6 (fun _ => 0))] := hD.sub [0, 1, 2, 3, 4, 5, 6, 7, 8] (by decide) rfl
  exact ret _ _ _ _ (fun i => ([q1, q2, 0, q3, q4, q5, 0, q6, q7, q8] : List Nat).getD i 0) dX3_init_68 trivial hP hD hS
set_option maxHeartbeats 4000000 in
set_option maxRecDepth 100000 in
theorem k_X4_init (l : Launch) (D : va_G) (κ : Nat → ClassId) (β : Nat) (a : Nat) (sz : Nat) : Met l yX4_init wsX4_init ({ frames := 1, cells := 2, slots := 16, locals := 20 } : Room) (PcK D κ β [(a, .inr (4, [.null, .null, .int 0]))] sz [.ref a]) (QvK D (fun (u : Nat → Nat) => True) (fun (u : Nat → Nat) => [O4 a u 0, (cI κ (u 0) 8 (fun _ => 0)), (cI κ (u 1) 8 (fun _ => 0))]) [(a, .inr (4, [.null, .null, .int 0]))] sz) 2 16 (va_A [(a, .inr (4, [.null, .null, .int 0]))] sz) := by
  refine ofK_v (cc := cX4_init) (maxL := 1) (own := RX4) (by decide) rfl rfl (Nat.le_of_ble_eq_true rfl) ?_
  intro p e s m args below meth c Q A ls hsz hx hb hml hts hown hK hA hAB hP hD hl hin ret
  have hS : va_S A s.heap s.heap [] := va_S.rf
  have hl : lv_has ls 1 [(0, .ref a)] := hl
  have w0 := hts (.arrayClass .int) (List.mem_of_getElem? (i := 4) rfl)
  have w1 := hts (.fieldLink RX4 9 "OlderSkin$Maps" "years" "[I") (List.mem_of_getElem? (i := 5) rfl)
  have w2 := (fun w h => List.mem_cons_of_mem _ (List.mem_append_right _ h) : ∀ w ∈ u_ws RX4 TX4 3, w ∈ wsX4_init)
  have w3 := hts (.fieldLink RX4 15 "OlderSkin$Maps" "slips" "[I") (List.mem_of_getElem? (i := 6) rfl)
  have l0 : (8 : Int32).toInt = 8 := by decide
  refine lv_aload_n hx hb dX4_init_0 rfl (lv_at hl 0 rfl) ?_
  refine W.objInit hx hb hown (hts (.methodLink RX4 3 objectInit) (by decide +kernel)) (hts (.instanceMethod objectInit) (by decide +kernel)) (hts _ (List.mem_cons_of_mem _ (List.mem_of_getElem? (i := 2) rfl))) rfl (by rw [hml]; exact hl.1) rfl dX4_init_1 (Nat.le_of_ble_eq_true rfl) (Nat.le_of_ble_eq_true rfl) ?_
  refine W.eq (g2 := F0 m 4 ls []) rfl ?_
  refine lv_aload_n hx hb dX4_init_4 rfl (lv_at hl 0 rfl) ?_
  refine lv_bipush (v := 8) hx hb dX4_init_5 (by decide) ?_
  refine va_newa (atype := .int) hx hb w0 rfl hK.1 hP hD hS hA (a0 := (8, .inl (fun _ => 0))) (fun _ => rfl) (by decide) rfl (Nat.le_of_ble_eq_true rfl) (Nat.le_of_ble_eq_true rfl) (Nat.le_of_ble_eq_true rfl) dX4_init_7 (fun q1 cA H hK9 hP hD hS => ?_)
  have hcA := cls_I hK9
  subst hcA
  obtain ⟨hP, hD⟩ : PD D A [(a, .inr (4, [.null, .null, .int 0])), (cI κ q1 8 (fun _ => 0))] H := ⟨hP, hD⟩
  refine va_putF (D := D) (ci := 4) (v := .ref q1) (ty := .array .int) (C := RX4) (T := TX4) (N := 3) hx hb hts w2 tyX4 tyX4_ok nmX4 hown hK.1 hP hD hS 0 rfl rfl 0 (by decide) w1 (fun _ h9 => h9) rfl hin rfl (by decide +kernel) rfl rfl (Nat.le_of_ble_eq_true rfl) dX4_init_9 (fun H locs hP hD hS => ?_)
  obtain ⟨hP, hD⟩ : PD D A [(a, .inr (4, [.ref q1, .null, .int 0])), (cI κ q1 8 (fun _ => 0))] H := ⟨hP, hD⟩
  refine lv_aload_n hx hb dX4_init_12 rfl (lv_at hl 0 rfl) ?_
  refine lv_bipush (v := 8) hx hb dX4_init_13 (by decide) ?_
  refine va_newa (atype := .int) hx hb w0 rfl hK.1 hP hD hS hA (a0 := (8, .inl (fun _ => 0))) (fun _ => rfl) (by decide) rfl (Nat.le_of_ble_eq_true rfl) (Nat.le_of_ble_eq_true rfl) (Nat.le_of_ble_eq_true rfl) dX4_init_15 (fun q2 cA H hK9 hP hD hS => ?_)
  have hcA := cls_I hK9
  subst hcA
  obtain ⟨hP, hD⟩ : PD D A [(a, .inr (4, [.ref q1, .null, .int 0])), (cI κ q1 8 (fun _ => 0)), (cI κ q2 8 (fun _ => 0))] H := ⟨hP, hD⟩
  refine va_putF (D := D) (ci := 4) (v := .ref q2) (ty := .array .int) (C := RX4) (T := TX4) (N := 3) hx hb hts w2 tyX4 tyX4_ok nmX4 hown hK.1 hP hD hS 0 rfl rfl 1 (by decide) w3 (fun _ h9 => h9) rfl hin rfl (by decide +kernel) rfl rfl (Nat.le_of_ble_eq_true rfl) dX4_init_17 (fun H locs hP hD hS => ?_)
  obtain ⟨hP, hD⟩ : PD D A [(a, .inr (4, [.ref q1, .ref q2, .int 0])), (cI κ q1 8 (fun _ => 0)), (cI κ q2 8 (fun _ => 0))] H := ⟨hP, hD⟩
  have hP : va_P D vwCl [(a, .inr (4, [.ref q1, .ref q2, .int 0])), (cI κ q1 8 (fun _ => 0)), (cI κ q2 8 (fun _ => 0))] H := hP.sub [0, 1, 2] rfl
  have hD : va_D A [(a, .inr (4, [.ref q1, .ref q2, .int 0])), (cI κ q1 8 (fun _ => 0)), (cI κ q2 8 (fun _ => 0))] := hD.sub [0, 1, 2] (by decide) rfl
  exact ret _ _ _ _ (fun i => ([q1, q2, 0] : List Nat).getD i 0) dX4_init_20 trivial hP hD hS
set_option maxHeartbeats 4000000 in
set_option maxRecDepth 100000 in
theorem k_X5_init (l : Launch) (D : va_G) (κ : Nat → ClassId) (β : Nat) (a : Nat) (sz : Nat) : Met l yX5_init wsX5_init ({ frames := 1, cells := 3, slots := 768, locals := 20 } : Room) (PcK D κ β [(a, .inr (5, [.int 0, .null, .null, .null]))] sz [.ref a]) (QvK D (fun (u : Nat → Nat) => True) (fun (u : Nat → Nat) => [O5 a u 0, (cI κ (u 1) 256 (fun _ => 0)), (cI κ (u 2) 256 (fun _ => 0)), (cI κ (u 3) 256 (fun _ => 0))]) [(a, .inr (5, [.int 0, .null, .null, .null]))] sz) 3 768 (va_A [(a, .inr (5, [.int 0, .null, .null, .null]))] sz) := by
  refine ofK_v (cc := cX5_init) (maxL := 1) (own := RX5) (by decide) rfl rfl (Nat.le_of_ble_eq_true rfl) ?_
  intro p e s m args below meth c Q A ls hsz hx hb hml hts hown hK hA hAB hP hD hl hin ret
  have hS : va_S A s.heap s.heap [] := va_S.rf
  have hl : lv_has ls 1 [(0, .ref a)] := hl
  have w0 := hts (.arrayClass .int) (List.mem_of_getElem? (i := 4) rfl)
  have w1 := hts (.fieldLink RX5 9 "OlderSkin$Orders" "mayFollow" "[I") (List.mem_of_getElem? (i := 5) rfl)
  have w2 := (fun w h => List.mem_cons_of_mem _ (List.mem_append_right _ h) : ∀ w ∈ u_ws RX5 TX5 4, w ∈ wsX5_init)
  have w3 := hts (.fieldLink RX5 15 "OlderSkin$Orders" "waysTo" "[I") (List.mem_of_getElem? (i := 6) rfl)
  have w4 := hts (.fieldLink RX5 18 "OlderSkin$Orders" "waysOn" "[I") (List.mem_of_getElem? (i := 7) rfl)
  have l0 : (256 : Int32).toInt = 256 := by decide
  refine lv_aload_n hx hb dX5_init_0 rfl (lv_at hl 0 rfl) ?_
  refine W.objInit hx hb hown (hts (.methodLink RX5 3 objectInit) (by decide +kernel)) (hts (.instanceMethod objectInit) (by decide +kernel)) (hts _ (List.mem_cons_of_mem _ (List.mem_of_getElem? (i := 2) rfl))) rfl (by rw [hml]; exact hl.1) rfl dX5_init_1 (Nat.le_of_ble_eq_true rfl) (Nat.le_of_ble_eq_true rfl) ?_
  refine W.eq (g2 := F0 m 4 ls []) rfl ?_
  refine lv_aload_n hx hb dX5_init_4 rfl (lv_at hl 0 rfl) ?_
  refine lv_sipush (v := 256) hx hb dX5_init_5 (by decide) ?_
  refine va_newa (atype := .int) hx hb w0 rfl hK.1 hP hD hS hA (a0 := (256, .inl (fun _ => 0))) (fun _ => rfl) (by decide) rfl (Nat.le_of_ble_eq_true rfl) (Nat.le_of_ble_eq_true rfl) (Nat.le_of_ble_eq_true rfl) dX5_init_8 (fun q1 cA H hK9 hP hD hS => ?_)
  have hcA := cls_I hK9
  subst hcA
  obtain ⟨hP, hD⟩ : PD D A [(a, .inr (5, [.int 0, .null, .null, .null])), (cI κ q1 256 (fun _ => 0))] H := ⟨hP, hD⟩
  refine va_putF (D := D) (ci := 5) (v := .ref q1) (ty := .array .int) (C := RX5) (T := TX5) (N := 4) hx hb hts w2 tyX5 tyX5_ok nmX5 hown hK.1 hP hD hS 0 rfl rfl 1 (by decide) w1 (fun _ h9 => h9) rfl hin rfl (by decide +kernel) rfl rfl (Nat.le_of_ble_eq_true rfl) dX5_init_10 (fun H locs hP hD hS => ?_)
  obtain ⟨hP, hD⟩ : PD D A [(a, .inr (5, [.int 0, .ref q1, .null, .null])), (cI κ q1 256 (fun _ => 0))] H := ⟨hP, hD⟩
  refine lv_aload_n hx hb dX5_init_13 rfl (lv_at hl 0 rfl) ?_
  refine lv_sipush (v := 256) hx hb dX5_init_14 (by decide) ?_
  refine va_newa (atype := .int) hx hb w0 rfl hK.1 hP hD hS hA (a0 := (256, .inl (fun _ => 0))) (fun _ => rfl) (by decide) rfl (Nat.le_of_ble_eq_true rfl) (Nat.le_of_ble_eq_true rfl) (Nat.le_of_ble_eq_true rfl) dX5_init_17 (fun q2 cA H hK9 hP hD hS => ?_)
  have hcA := cls_I hK9
  subst hcA
  obtain ⟨hP, hD⟩ : PD D A [(a, .inr (5, [.int 0, .ref q1, .null, .null])), (cI κ q1 256 (fun _ => 0)), (cI κ q2 256 (fun _ => 0))] H := ⟨hP, hD⟩
  refine va_putF (D := D) (ci := 5) (v := .ref q2) (ty := .array .int) (C := RX5) (T := TX5) (N := 4) hx hb hts w2 tyX5 tyX5_ok nmX5 hown hK.1 hP hD hS 0 rfl rfl 2 (by decide) w3 (fun _ h9 => h9) rfl hin rfl (by decide +kernel) rfl rfl (Nat.le_of_ble_eq_true rfl) dX5_init_19 (fun H locs hP hD hS => ?_)
  obtain ⟨hP, hD⟩ : PD D A [(a, .inr (5, [.int 0, .ref q1, .ref q2, .null])), (cI κ q1 256 (fun _ => 0)), (cI κ q2 256 (fun _ => 0))] H := ⟨hP, hD⟩
  refine lv_aload_n hx hb dX5_init_22 rfl (lv_at hl 0 rfl) ?_
  refine lv_sipush (v := 256) hx hb dX5_init_23 (by decide) ?_
  refine va_newa (atype := .int) hx hb w0 rfl hK.1 hP hD hS hA (a0 := (256, .inl (fun _ => 0))) (fun _ => rfl) (by decide) rfl (Nat.le_of_ble_eq_true rfl) (Nat.le_of_ble_eq_true rfl) (Nat.le_of_ble_eq_true rfl) dX5_init_26 (fun q3 cA H hK9 hP hD hS => ?_)
  have hcA := cls_I hK9
  subst hcA
  obtain ⟨hP, hD⟩ : PD D A [(a, .inr (5, [.int 0, .ref q1, .ref q2, .null])), (cI κ q1 256 (fun _ => 0)), (cI κ q2 256 (fun _ => 0)), (cI κ q3 256 (fun _ => 0))] H := ⟨hP, hD⟩
  refine va_putF (D := D) (ci := 5) (v := .ref q3) (ty := .array .int) (C := RX5) (T := TX5) (N := 4) hx hb hts w2 tyX5 tyX5_ok nmX5 hown hK.1 hP hD hS 0 rfl rfl 3 (by decide) w4 (fun _ h9 => h9) rfl hin rfl (by decide +kernel) rfl rfl (Nat.le_of_ble_eq_true rfl) dX5_init_28 (fun H locs hP hD hS => ?_)
  obtain ⟨hP, hD⟩ : PD D A [(a, .inr (5, [.int 0, .ref q1, .ref q2, .ref q3])), (cI κ q1 256 (fun _ => 0)), (cI κ q2 256 (fun _ => 0)), (cI κ q3 256 (fun _ => 0))] H := ⟨hP, hD⟩
  have hP : va_P D vwCl [(a, .inr (5, [.int 0, .ref q1, .ref q2, .ref q3])), (cI κ q1 256 (fun _ => 0)), (cI κ q2 256 (fun _ => 0)), (cI κ q3 256 (fun _ => 0))] H := hP.sub [0, 1, 2, 3] rfl
  have hD : va_D A [(a, .inr (5, [.int 0, .ref q1, .ref q2, .ref q3])), (cI κ q1 256 (fun _ => 0)), (cI κ q2 256 (fun _ => 0)), (cI κ q3 256 (fun _ => 0))] := hD.sub [0, 1, 2, 3] (by decide) rfl
  exact ret _ _ _ _ (fun i => ([0, q1, q2, q3] : List Nat).getD i 0) dX5_init_31 trivial hP hD hS
set_option maxHeartbeats 4000000 in
set_option maxRecDepth 100000 in
theorem k_X6_init (l : Launch) (D : va_G) (κ : Nat → ClassId) (β : Nat) (a : Nat) (sz : Nat) : Met l yX6_init wsX6_init ({ frames := 1, cells := 3, slots := 60, locals := 20 } : Room) (PcK D κ β [(a, .inr (6, [.null, .null, .null, .int 0]))] sz [.ref a]) (QvK D (fun (u : Nat → Nat) => True) (fun (u : Nat → Nat) => [O6 a u 0, (cI κ (u 0) 20 (fun _ => 0)), (cI κ (u 1) 20 (fun _ => 0)), (cI κ (u 2) 20 (fun _ => 0))]) [(a, .inr (6, [.null, .null, .null, .int 0]))] sz) 3 60 (va_A [(a, .inr (6, [.null, .null, .null, .int 0]))] sz) := by
  refine ofK_v (cc := cX6_init) (maxL := 1) (own := RX6) (by decide) rfl rfl (Nat.le_of_ble_eq_true rfl) ?_
  intro p e s m args below meth c Q A ls hsz hx hb hml hts hown hK hA hAB hP hD hl hin ret
  have hS : va_S A s.heap s.heap [] := va_S.rf
  have hl : lv_has ls 1 [(0, .ref a)] := hl
  have w0 := hts (.arrayClass .int) (List.mem_of_getElem? (i := 4) rfl)
  have w1 := hts (.fieldLink RX6 9 "OlderSkin$Places" "known" "[I") (List.mem_of_getElem? (i := 5) rfl)
  have w2 := (fun w h => List.mem_cons_of_mem _ (List.mem_append_right _ h) : ∀ w ∈ u_ws RX6 TX6 4, w ∈ wsX6_init)
  have w3 := hts (.fieldLink RX6 15 "OlderSkin$Places" "truly" "[I") (List.mem_of_getElem? (i := 6) rfl)
  have w4 := hts (.fieldLink RX6 18 "OlderSkin$Places" "drawnAt" "[I") (List.mem_of_getElem? (i := 7) rfl)
  have l0 : (20 : Int32).toInt = 20 := by decide
  refine lv_aload_n hx hb dX6_init_0 rfl (lv_at hl 0 rfl) ?_
  refine W.objInit hx hb hown (hts (.methodLink RX6 3 objectInit) (by decide +kernel)) (hts (.instanceMethod objectInit) (by decide +kernel)) (hts _ (List.mem_cons_of_mem _ (List.mem_of_getElem? (i := 2) rfl))) rfl (by rw [hml]; exact hl.1) rfl dX6_init_1 (Nat.le_of_ble_eq_true rfl) (Nat.le_of_ble_eq_true rfl) ?_
  refine W.eq (g2 := F0 m 4 ls []) rfl ?_
  refine lv_aload_n hx hb dX6_init_4 rfl (lv_at hl 0 rfl) ?_
  refine lv_bipush (v := 20) hx hb dX6_init_5 (by decide) ?_
  refine va_newa (atype := .int) hx hb w0 rfl hK.1 hP hD hS hA (a0 := (20, .inl (fun _ => 0))) (fun _ => rfl) (by decide) rfl (Nat.le_of_ble_eq_true rfl) (Nat.le_of_ble_eq_true rfl) (Nat.le_of_ble_eq_true rfl) dX6_init_7 (fun q1 cA H hK9 hP hD hS => ?_)
  have hcA := cls_I hK9
  subst hcA
  obtain ⟨hP, hD⟩ : PD D A [(a, .inr (6, [.null, .null, .null, .int 0])), (cI κ q1 20 (fun _ => 0))] H := ⟨hP, hD⟩
  refine va_putF (D := D) (ci := 6) (v := .ref q1) (ty := .array .int) (C := RX6) (T := TX6) (N := 4) hx hb hts w2 tyX6 tyX6_ok nmX6 hown hK.1 hP hD hS 0 rfl rfl 0 (by decide) w1 (fun _ h9 => h9) rfl hin rfl (by decide +kernel) rfl rfl (Nat.le_of_ble_eq_true rfl) dX6_init_9 (fun H locs hP hD hS => ?_)
  obtain ⟨hP, hD⟩ : PD D A [(a, .inr (6, [.ref q1, .null, .null, .int 0])), (cI κ q1 20 (fun _ => 0))] H := ⟨hP, hD⟩
  refine lv_aload_n hx hb dX6_init_12 rfl (lv_at hl 0 rfl) ?_
  refine lv_bipush (v := 20) hx hb dX6_init_13 (by decide) ?_
  refine va_newa (atype := .int) hx hb w0 rfl hK.1 hP hD hS hA (a0 := (20, .inl (fun _ => 0))) (fun _ => rfl) (by decide) rfl (Nat.le_of_ble_eq_true rfl) (Nat.le_of_ble_eq_true rfl) (Nat.le_of_ble_eq_true rfl) dX6_init_15 (fun q2 cA H hK9 hP hD hS => ?_)
  have hcA := cls_I hK9
  subst hcA
  obtain ⟨hP, hD⟩ : PD D A [(a, .inr (6, [.ref q1, .null, .null, .int 0])), (cI κ q1 20 (fun _ => 0)), (cI κ q2 20 (fun _ => 0))] H := ⟨hP, hD⟩
  refine va_putF (D := D) (ci := 6) (v := .ref q2) (ty := .array .int) (C := RX6) (T := TX6) (N := 4) hx hb hts w2 tyX6 tyX6_ok nmX6 hown hK.1 hP hD hS 0 rfl rfl 1 (by decide) w3 (fun _ h9 => h9) rfl hin rfl (by decide +kernel) rfl rfl (Nat.le_of_ble_eq_true rfl) dX6_init_17 (fun H locs hP hD hS => ?_)
  obtain ⟨hP, hD⟩ : PD D A [(a, .inr (6, [.ref q1, .ref q2, .null, .int 0])), (cI κ q1 20 (fun _ => 0)), (cI κ q2 20 (fun _ => 0))] H := ⟨hP, hD⟩
  refine lv_aload_n hx hb dX6_init_20 rfl (lv_at hl 0 rfl) ?_
  refine lv_bipush (v := 20) hx hb dX6_init_21 (by decide) ?_
  refine va_newa (atype := .int) hx hb w0 rfl hK.1 hP hD hS hA (a0 := (20, .inl (fun _ => 0))) (fun _ => rfl) (by decide) rfl (Nat.le_of_ble_eq_true rfl) (Nat.le_of_ble_eq_true rfl) (Nat.le_of_ble_eq_true rfl) dX6_init_23 (fun q3 cA H hK9 hP hD hS => ?_)
  have hcA := cls_I hK9
  subst hcA
  obtain ⟨hP, hD⟩ : PD D A [(a, .inr (6, [.ref q1, .ref q2, .null, .int 0])), (cI κ q1 20 (fun _ => 0)), (cI κ q2 20 (fun _ => 0)), (cI κ q3 20 (fun _ => 0))] H := ⟨hP, hD⟩
  refine va_putF (D := D) (ci := 6) (v := .ref q3) (ty := .array .int) (C := RX6) (T := TX6) (N := 4) hx hb hts w2 tyX6 tyX6_ok nmX6 hown hK.1 hP hD hS 0 rfl rfl 2 (by decide) w4 (fun _ h9 => h9) rfl hin rfl (by decide +kernel) rfl rfl (Nat.le_of_ble_eq_true rfl) dX6_init_25 (fun H locs hP hD hS => ?_)
  obtain ⟨hP, hD⟩ : PD D A [(a, .inr (6, [.ref q1, .ref q2, .ref q3, .int 0])), (cI κ q1 20 (fun _ => 0)), (cI κ q2 20 (fun _ => 0)), (cI κ q3 20 (fun _ => 0))] H := ⟨hP, hD⟩
  have hP : va_P D vwCl [(a, .inr (6, [.ref q1, .ref q2, .ref q3, .int 0])), (cI κ q1 20 (fun _ => 0)), (cI κ q2 20 (fun _ => 0)), (cI κ q3 20 (fun _ => 0))] H := hP.sub [0, 1, 2, 3] rfl
  have hD : va_D A [(a, .inr (6, [.ref q1, .ref q2, .ref q3, .int 0])), (cI κ q1 20 (fun _ => 0)), (cI κ q2 20 (fun _ => 0)), (cI κ q3 20 (fun _ => 0))] := hD.sub [0, 1, 2, 3] (by decide) rfl
  exact ret _ _ _ _ (fun i => ([q1, q2, q3, 0] : List Nat).getD i 0) dX6_init_28 trivial hP hD hS
set_option maxHeartbeats 4000000 in
set_option maxRecDepth 100000 in
theorem k_X7_init (l : Launch) (D : va_G) (κ : Nat → ClassId) (β : Nat) (a : Nat) (sz : Nat) : Met l yX7_init wsX7_init ({ frames := 1, cells := 6, slots := 208, locals := 20 } : Room) (PcK D κ β [(a, .inr (7, [.null, .int 0, .null, .null, .null, .int 0, .null, .null, .int 0]))] sz [.ref a]) (QvK D (fun (u : Nat → Nat) => True) (fun (u : Nat → Nat) => [O7 a u 0 0 0, (cI κ (u 0) 8 (fun _ => 0)), (cI κ (u 2) 40 (fun _ => 0)), (cI κ (u 3) 40 (fun _ => 0)), (cI κ (u 4) 40 (fun _ => 0)), (cI κ (u 6) 40 (fun _ => 0)), (cI κ (u 7) 40 (fun _ => 0))]) [(a, .inr (7, [.null, .int 0, .null, .null, .null, .int 0, .null, .null, .int 0]))] sz) 6 208 (va_A [(a, .inr (7, [.null, .int 0, .null, .null, .null, .int 0, .null, .null, .int 0]))] sz) := by
  refine ofK_v (cc := cX7_init) (maxL := 1) (own := RX7) (by decide) rfl rfl (Nat.le_of_ble_eq_true rfl) ?_
  intro p e s m args below meth c Q A ls hsz hx hb hml hts hown hK hA hAB hP hD hl hin ret
  have hS : va_S A s.heap s.heap [] := va_S.rf
  have hl : lv_has ls 1 [(0, .ref a)] := hl
  have w0 := hts (.arrayClass .int) (List.mem_of_getElem? (i := 4) rfl)
  have w1 := hts (.fieldLink RX7 9 "OlderSkin$Sheets" "ages" "[I") (List.mem_of_getElem? (i := 5) rfl)
  have w2 := (fun w h => List.mem_cons_of_mem _ (List.mem_append_right _ h) : ∀ w ∈ u_ws RX7 TX7 9, w ∈ wsX7_init)
  have w3 := hts (.fieldLink RX7 15 "OlderSkin$Sheets" "sheetOf" "[I") (List.mem_of_getElem? (i := 6) rfl)
  have w4 := hts (.fieldLink RX7 18 "OlderSkin$Sheets" "placeOf" "[I") (List.mem_of_getElem? (i := 7) rfl)
  have w5 := hts (.fieldLink RX7 21 "OlderSkin$Sheets" "byPlace" "[I") (List.mem_of_getElem? (i := 8) rfl)
  have w6 := hts (.fieldLink RX7 24 "OlderSkin$Sheets" "wormOf" "[I") (List.mem_of_getElem? (i := 9) rfl)
  have w7 := hts (.fieldLink RX7 27 "OlderSkin$Sheets" "wormSheets" "[I") (List.mem_of_getElem? (i := 10) rfl)
  have l0 : (8 : Int32).toInt = 8 := by decide
  have l1 : (40 : Int32).toInt = 40 := by decide
  refine lv_aload_n hx hb dX7_init_0 rfl (lv_at hl 0 rfl) ?_
  refine W.objInit hx hb hown (hts (.methodLink RX7 3 objectInit) (by decide +kernel)) (hts (.instanceMethod objectInit) (by decide +kernel)) (hts _ (List.mem_cons_of_mem _ (List.mem_of_getElem? (i := 2) rfl))) rfl (by rw [hml]; exact hl.1) rfl dX7_init_1 (Nat.le_of_ble_eq_true rfl) (Nat.le_of_ble_eq_true rfl) ?_
  refine W.eq (g2 := F0 m 4 ls []) rfl ?_
  refine lv_aload_n hx hb dX7_init_4 rfl (lv_at hl 0 rfl) ?_
  refine lv_bipush (v := 8) hx hb dX7_init_5 (by decide) ?_
  refine va_newa (atype := .int) hx hb w0 rfl hK.1 hP hD hS hA (a0 := (8, .inl (fun _ => 0))) (fun _ => rfl) (by decide) rfl (Nat.le_of_ble_eq_true rfl) (Nat.le_of_ble_eq_true rfl) (Nat.le_of_ble_eq_true rfl) dX7_init_7 (fun q1 cA H hK9 hP hD hS => ?_)
  have hcA := cls_I hK9
  subst hcA
  obtain ⟨hP, hD⟩ : PD D A [(a, .inr (7, [.null, .int 0, .null, .null, .null, .int 0, .null, .null, .int 0])), (cI κ q1 8 (fun _ => 0))] H := ⟨hP, hD⟩
  refine va_putF (D := D) (ci := 7) (v := .ref q1) (ty := .array .int) (C := RX7) (T := TX7) (N := 9) hx hb hts w2 tyX7 tyX7_ok nmX7 hown hK.1 hP hD hS 0 rfl rfl 0 (by decide) w1 (fun _ h9 => h9) rfl hin rfl (by decide +kernel) rfl rfl (Nat.le_of_ble_eq_true rfl) dX7_init_9 (fun H locs hP hD hS => ?_)
  obtain ⟨hP, hD⟩ : PD D A [(a, .inr (7, [.ref q1, .int 0, .null, .null, .null, .int 0, .null, .null, .int 0])), (cI κ q1 8 (fun _ => 0))] H := ⟨hP, hD⟩
  refine lv_aload_n hx hb dX7_init_12 rfl (lv_at hl 0 rfl) ?_
  refine lv_bipush (v := 40) hx hb dX7_init_13 (by decide) ?_
  refine va_newa (atype := .int) hx hb w0 rfl hK.1 hP hD hS hA (a0 := (40, .inl (fun _ => 0))) (fun _ => rfl) (by decide) rfl (Nat.le_of_ble_eq_true rfl) (Nat.le_of_ble_eq_true rfl) (Nat.le_of_ble_eq_true rfl) dX7_init_15 (fun q2 cA H hK9 hP hD hS => ?_)
  have hcA := cls_I hK9
  subst hcA
  obtain ⟨hP, hD⟩ : PD D A [(a, .inr (7, [.ref q1, .int 0, .null, .null, .null, .int 0, .null, .null, .int 0])), (cI κ q1 8 (fun _ => 0)), (cI κ q2 40 (fun _ => 0))] H := ⟨hP, hD⟩
  refine va_putF (D := D) (ci := 7) (v := .ref q2) (ty := .array .int) (C := RX7) (T := TX7) (N := 9) hx hb hts w2 tyX7 tyX7_ok nmX7 hown hK.1 hP hD hS 0 rfl rfl 2 (by decide) w3 (fun _ h9 => h9) rfl hin rfl (by decide +kernel) rfl rfl (Nat.le_of_ble_eq_true rfl) dX7_init_17 (fun H locs hP hD hS => ?_)
  obtain ⟨hP, hD⟩ : PD D A [(a, .inr (7, [.ref q1, .int 0, .ref q2, .null, .null, .int 0, .null, .null, .int 0])), (cI κ q1 8 (fun _ => 0)), (cI κ q2 40 (fun _ => 0))] H := ⟨hP, hD⟩
  refine lv_aload_n hx hb dX7_init_20 rfl (lv_at hl 0 rfl) ?_
  refine lv_bipush (v := 40) hx hb dX7_init_21 (by decide) ?_
  refine va_newa (atype := .int) hx hb w0 rfl hK.1 hP hD hS hA (a0 := (40, .inl (fun _ => 0))) (fun _ => rfl) (by decide) rfl (Nat.le_of_ble_eq_true rfl) (Nat.le_of_ble_eq_true rfl) (Nat.le_of_ble_eq_true rfl) dX7_init_23 (fun q3 cA H hK9 hP hD hS => ?_)
  have hcA := cls_I hK9
  subst hcA
  obtain ⟨hP, hD⟩ : PD D A [(a, .inr (7, [.ref q1, .int 0, .ref q2, .null, .null, .int 0, .null, .null, .int 0])), (cI κ q1 8 (fun _ => 0)), (cI κ q2 40 (fun _ => 0)), (cI κ q3 40 (fun _ => 0))] H := ⟨hP, hD⟩
  refine va_putF (D := D) (ci := 7) (v := .ref q3) (ty := .array .int) (C := RX7) (T := TX7) (N := 9) hx hb hts w2 tyX7 tyX7_ok nmX7 hown hK.1 hP hD hS 0 rfl rfl 3 (by decide) w4 (fun _ h9 => h9) rfl hin rfl (by decide +kernel) rfl rfl (Nat.le_of_ble_eq_true rfl) dX7_init_25 (fun H locs hP hD hS => ?_)
  obtain ⟨hP, hD⟩ : PD D A [(a, .inr (7, [.ref q1, .int 0, .ref q2, .ref q3, .null, .int 0, .null, .null, .int 0])), (cI κ q1 8 (fun _ => 0)), (cI κ q2 40 (fun _ => 0)), (cI κ q3 40 (fun _ => 0))] H := ⟨hP, hD⟩
  refine lv_aload_n hx hb dX7_init_28 rfl (lv_at hl 0 rfl) ?_
  refine lv_bipush (v := 40) hx hb dX7_init_29 (by decide) ?_
  refine va_newa (atype := .int) hx hb w0 rfl hK.1 hP hD hS hA (a0 := (40, .inl (fun _ => 0))) (fun _ => rfl) (by decide) rfl (Nat.le_of_ble_eq_true rfl) (Nat.le_of_ble_eq_true rfl) (Nat.le_of_ble_eq_true rfl) dX7_init_31 (fun q4 cA H hK9 hP hD hS => ?_)
  have hcA := cls_I hK9
  subst hcA
  obtain ⟨hP, hD⟩ : PD D A [(a, .inr (7, [.ref q1, .int 0, .ref q2, .ref q3, .null, .int 0, .null, .null, .int 0])), (cI κ q1 8 (fun _ => 0)), (cI κ q2 40 (fun _ => 0)), (cI κ q3 40 (fun _ => 0)), (cI κ q4 40 (fun _ => 0))] H := ⟨hP, hD⟩
  refine va_putF (D := D) (ci := 7) (v := .ref q4) (ty := .array .int) (C := RX7) (T := TX7) (N := 9) hx hb hts w2 tyX7 tyX7_ok nmX7 hown hK.1 hP hD hS 0 rfl rfl 4 (by decide) w5 (fun _ h9 => h9) rfl hin rfl (by decide +kernel) rfl rfl (Nat.le_of_ble_eq_true rfl) dX7_init_33 (fun H locs hP hD hS => ?_)
  obtain ⟨hP, hD⟩ : PD D A [(a, .inr (7, [.ref q1, .int 0, .ref q2, .ref q3, .ref q4, .int 0, .null, .null, .int 0])), (cI κ q1 8 (fun _ => 0)), (cI κ q2 40 (fun _ => 0)), (cI κ q3 40 (fun _ => 0)), (cI κ q4 40 (fun _ => 0))] H := ⟨hP, hD⟩
  refine lv_aload_n hx hb dX7_init_36 rfl (lv_at hl 0 rfl) ?_
  refine lv_bipush (v := 40) hx hb dX7_init_37 (by decide) ?_
  refine va_newa (atype := .int) hx hb w0 rfl hK.1 hP hD hS hA (a0 := (40, .inl (fun _ => 0))) (fun _ => rfl) (by decide) rfl (Nat.le_of_ble_eq_true rfl) (Nat.le_of_ble_eq_true rfl) (Nat.le_of_ble_eq_true rfl) dX7_init_39 (fun q5 cA H hK9 hP hD hS => ?_)
  have hcA := cls_I hK9
  subst hcA
  obtain ⟨hP, hD⟩ : PD D A [(a, .inr (7, [.ref q1, .int 0, .ref q2, .ref q3, .ref q4, .int 0, .null, .null, .int 0])), (cI κ q1 8 (fun _ => 0)), (cI κ q2 40 (fun _ => 0)), (cI κ q3 40 (fun _ => 0)), (cI κ q4 40 (fun _ => 0)), (cI κ q5 40 (fun _ => 0))] H := ⟨hP, hD⟩
  refine va_putF (D := D) (ci := 7) (v := .ref q5) (ty := .array .int) (C := RX7) (T := TX7) (N := 9) hx hb hts w2 tyX7 tyX7_ok nmX7 hown hK.1 hP hD hS 0 rfl rfl 6 (by decide) w6 (fun _ h9 => h9) rfl hin rfl (by decide +kernel) rfl rfl (Nat.le_of_ble_eq_true rfl) dX7_init_41 (fun H locs hP hD hS => ?_)
  obtain ⟨hP, hD⟩ : PD D A [(a, .inr (7, [.ref q1, .int 0, .ref q2, .ref q3, .ref q4, .int 0, .ref q5, .null, .int 0])), (cI κ q1 8 (fun _ => 0)), (cI κ q2 40 (fun _ => 0)), (cI κ q3 40 (fun _ => 0)), (cI κ q4 40 (fun _ => 0)), (cI κ q5 40 (fun _ => 0))] H := ⟨hP, hD⟩
  refine lv_aload_n hx hb dX7_init_44 rfl (lv_at hl 0 rfl) ?_
  refine lv_bipush (v := 40) hx hb dX7_init_45 (by decide) ?_
  refine va_newa (atype := .int) hx hb w0 rfl hK.1 hP hD hS hA (a0 := (40, .inl (fun _ => 0))) (fun _ => rfl) (by decide) rfl (Nat.le_of_ble_eq_true rfl) (Nat.le_of_ble_eq_true rfl) (Nat.le_of_ble_eq_true rfl) dX7_init_47 (fun q6 cA H hK9 hP hD hS => ?_)
  have hcA := cls_I hK9
  subst hcA
  obtain ⟨hP, hD⟩ : PD D A [(a, .inr (7, [.ref q1, .int 0, .ref q2, .ref q3, .ref q4, .int 0, .ref q5, .null, .int 0])), (cI κ q1 8 (fun _ => 0)), (cI κ q2 40 (fun _ => 0)), (cI κ q3 40 (fun _ => 0)), (cI κ q4 40 (fun _ => 0)), (cI κ q5 40 (fun _ => 0)), (cI κ q6 40 (fun _ => 0))] H := ⟨hP, hD⟩
  refine va_putF (D := D) (ci := 7) (v := .ref q6) (ty := .array .int) (C := RX7) (T := TX7) (N := 9) hx hb hts w2 tyX7 tyX7_ok nmX7 hown hK.1 hP hD hS 0 rfl rfl 7 (by decide) w7 (fun _ h9 => h9) rfl hin rfl (by decide +kernel) rfl rfl (Nat.le_of_ble_eq_true rfl) dX7_init_49 (fun H locs hP hD hS => ?_)
  obtain ⟨hP, hD⟩ : PD D A [(a, .inr (7, [.ref q1, .int 0, .ref q2, .ref q3, .ref q4, .int 0, .ref q5, .ref q6, .int 0])), (cI κ q1 8 (fun _ => 0)), (cI κ q2 40 (fun _ => 0)), (cI κ q3 40 (fun _ => 0)), (cI κ q4 40 (fun _ => 0)), (cI κ q5 40 (fun _ => 0)), (cI κ q6 40 (fun _ => 0))] H := ⟨hP, hD⟩
  have hP : va_P D vwCl [(a, .inr (7, [.ref q1, .int 0, .ref q2, .ref q3, .ref q4, .int 0, .ref q5, .ref q6, .int 0])), (cI κ q1 8 (fun _ => 0)), (cI κ q2 40 (fun _ => 0)), (cI κ q3 40 (fun _ => 0)), (cI κ q4 40 (fun _ => 0)), (cI κ q5 40 (fun _ => 0)), (cI κ q6 40 (fun _ => 0))] H := hP.sub [0, 1, 2, 3, 4, 5, 6] rfl
  have hD : va_D A [(a, .inr (7, [.ref q1, .int 0, .ref q2, .ref q3, .ref q4, .int 0, .ref q5, .ref q6, .int 0])), (cI κ q1 8 (fun _ => 0)), (cI κ q2 40 (fun _ => 0)), (cI κ q3 40 (fun _ => 0)), (cI κ q4 40 (fun _ => 0)), (cI κ q5 40 (fun _ => 0)), (cI κ q6 40 (fun _ => 0))] := hD.sub [0, 1, 2, 3, 4, 5, 6] (by decide) rfl
  exact ret _ _ _ _ (fun i => ([q1, 0, q2, q3, q4, 0, q5, q6, 0] : List Nat).getD i 0) dX7_init_52 trivial hP hD hS
set_option maxHeartbeats 4000000 in
set_option maxRecDepth 100000 in
theorem k_X10_init (l : Launch) (D : va_G) (κ : Nat → ClassId) (β : Nat) (a : Nat) (sz : Nat) : Met l yX10_init wsX10_init ({ frames := 1, cells := 2, slots := 64, locals := 20 } : Room) (PcK D κ β [(a, .inr (10, [.null, .int 0, .int 0, .null, .int 0]))] sz [.ref a]) (QvK D (fun (u : Nat → Nat) => True) (fun (u : Nat → Nat) => [O10 a u (u 0) 0 0 (u 3) 0, (cB κ (u 0) 64 (fun _ => 0))]) [(a, .inr (10, [.null, .int 0, .int 0, .null, .int 0]))] sz) 2 64 (va_A [(a, .inr (10, [.null, .int 0, .int 0, .null, .int 0]))] sz) := by
  refine ofK_v (cc := cX10_init) (maxL := 1) (own := RX10) (by decide) rfl rfl (Nat.le_of_ble_eq_true rfl) ?_
  intro p e s m args below meth c Q A ls hsz hx hb hml hts hown hK hA hAB hP hD hl hin ret
  have hS : va_S A s.heap s.heap [] := va_S.rf
  have hl : lv_has ls 1 [(0, .ref a)] := hl
  have w0 := hts (.arrayClass .byte) (List.mem_of_getElem? (i := 4) rfl)
  have w1 := hts (.fieldLink RX10 9 "OlderSkin$Tape" "bytes" "[B") (List.mem_of_getElem? (i := 5) rfl)
  have w2 := (fun w h => List.mem_cons_of_mem _ (List.mem_append_right _ h) : ∀ w ∈ u_ws RX10 TX10 5, w ∈ wsX10_init)
  have w3 := hts (.arrayClass .int) (List.mem_of_getElem? (i := 6) rfl)
  have w4 := hts (.fieldLink RX10 15 "OlderSkin$Tape" "steps" "[I") (List.mem_of_getElem? (i := 7) rfl)
  have l0 : (64 : Int32).toInt = 64 := by decide
  have l1 : (0 : Int32).toInt = 0 := by decide
  refine lv_aload_n hx hb dX10_init_0 rfl (lv_at hl 0 rfl) ?_
  refine W.objInit hx hb hown (hts (.methodLink RX10 3 objectInit) (by decide +kernel)) (hts (.instanceMethod objectInit) (by decide +kernel)) (hts _ (List.mem_cons_of_mem _ (List.mem_of_getElem? (i := 2) rfl))) rfl (by rw [hml]; exact hl.1) rfl dX10_init_1 (Nat.le_of_ble_eq_true rfl) (Nat.le_of_ble_eq_true rfl) ?_
  refine W.eq (g2 := F0 m 4 ls []) rfl ?_
  refine lv_aload_n hx hb dX10_init_4 rfl (lv_at hl 0 rfl) ?_
  refine lv_bipush (v := 64) hx hb dX10_init_5 (by decide) ?_
  refine va_newa (atype := .byte) hx hb w0 rfl hK.1 hP hD hS hA (a0 := (64, .inl (fun _ => 0))) (fun _ => rfl) (by decide) rfl (Nat.le_of_ble_eq_true rfl) (Nat.le_of_ble_eq_true rfl) (Nat.le_of_ble_eq_true rfl) dX10_init_7 (fun q1 cA H hK9 hP hD hS => ?_)
  have hcA := cls_B hK9
  subst hcA
  obtain ⟨hP, hD⟩ : PD D A [(a, .inr (10, [.null, .int 0, .int 0, .null, .int 0])), (cB κ q1 64 (fun _ => 0))] H := ⟨hP, hD⟩
  refine va_put (D := D) (ci := 10) (v := .ref q1) (ty := .array .byte) (C := RX10) (T := TX10) (N := 5) hx hb hts w2 tyX10 tyX10_ok nmX10 hown hK.1 hP hD hS 0 rfl rfl 0 (by decide) w1 (fun _ h9 => h9) rfl (by decide +kernel) rfl rfl (Nat.le_of_ble_eq_true rfl) dX10_init_9 (fun H locs hP hD hS => ?_)
  obtain ⟨hP, hD⟩ : PD D A [(a, .inr (10, [.ref q1, .int 0, .int 0, .null, .int 0])), (cB κ q1 64 (fun _ => 0))] H := ⟨hP, hD⟩
  refine lv_aload_n hx hb dX10_init_12 rfl (lv_at hl 0 rfl) ?_
  refine lv_iconst (v := 0) hx hb dX10_init_13 (by decide) ?_
  refine va_newa (atype := .int) hx hb w3 rfl hK.1 hP hD hS hA (a0 := (0, .inl (fun _ => 0))) (fun _ => rfl) (by decide) rfl (Nat.le_of_ble_eq_true rfl) (Nat.le_of_ble_eq_true rfl) (Nat.le_of_ble_eq_true rfl) dX10_init_14 (fun q2 cA H hK9 hP hD hS => ?_)
  have hcA := cls_I hK9
  subst hcA
  obtain ⟨hP, hD⟩ : PD D A [(a, .inr (10, [.ref q1, .int 0, .int 0, .null, .int 0])), (cB κ q1 64 (fun _ => 0)), (cI κ q2 0 (fun _ => 0))] H := ⟨hP, hD⟩
  refine va_put (D := D) (ci := 10) (v := .ref q2) (ty := .array .int) (C := RX10) (T := TX10) (N := 5) hx hb hts w2 tyX10 tyX10_ok nmX10 hown hK.1 hP hD hS 0 rfl rfl 3 (by decide) w4 (fun _ h9 => h9) rfl (by decide +kernel) rfl rfl (Nat.le_of_ble_eq_true rfl) dX10_init_16 (fun H locs hP hD hS => ?_)
  obtain ⟨hP, hD⟩ : PD D A [(a, .inr (10, [.ref q1, .int 0, .int 0, .ref q2, .int 0])), (cB κ q1 64 (fun _ => 0)), (cI κ q2 0 (fun _ => 0))] H := ⟨hP, hD⟩
  have hP : va_P D vwCl [(a, .inr (10, [.ref q1, .int 0, .int 0, .ref q2, .int 0])), (cB κ q1 64 (fun _ => 0))] H := hP.sub [0, 1] rfl
  have hD : va_D A [(a, .inr (10, [.ref q1, .int 0, .int 0, .ref q2, .int 0])), (cB κ q1 64 (fun _ => 0))] := hD.sub [0, 1] (by decide) rfl
  exact ret _ _ _ _ (fun i => ([q1, 0, 0, q2, 0] : List Nat).getD i 0) dX10_init_19 trivial hP hD hS
