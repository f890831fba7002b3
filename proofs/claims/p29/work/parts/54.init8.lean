set_option maxHeartbeats 4000000 in
set_option maxRecDepth 100000 in
theorem k_X8_init (l : Launch) (D : va_G) (κ : Nat → ClassId) (β : Nat) (a : Nat) (sz : Nat) : Met l yX8_init wsX8_init ({ frames := 1, cells := 10, slots := 384, locals := 20 } : Room) (PcA D κ β [(a, .inr (8, [.null, .null, .null, .null]))] sz [.ref a]) (QvK D (fun (u : (Nat → Nat) × (Nat → Int32) × (Nat → Nat)) => True) (fun (u : (Nat → Nat) × (Nat → Int32) × (Nat → Nat)) => [O8 a u.1, (cI κ (u.1 0) 6 u.2.1), (cI κ (u.1 1) 6 (fun _ => 0)), (cI κ (u.1 2) 6 (fun _ => 0)), (cRJ κ (u.1 3) 6 (fun i => some (u.2.2 i))), (cJ κ (u.2.2 0) 60 ((fun _ _ => 0) 0)), (cJ κ (u.2.2 1) 60 ((fun _ _ => 0) 1)), (cJ κ (u.2.2 2) 60 ((fun _ _ => 0) 2)), (cJ κ (u.2.2 3) 60 ((fun _ _ => 0) 3)), (cJ κ (u.2.2 4) 60 ((fun _ _ => 0) 4)), (cJ κ (u.2.2 5) 60 ((fun _ _ => 0) 5))]) [(a, .inr (8, [.null, .null, .null, .null]))] sz) 10 384 (va_A [(a, .inr (8, [.null, .null, .null, .null]))] sz) := by
  refine ofA_v (cc := cX8_init) (maxL := 1) (own := RX8) (by decide) rfl rfl (Nat.le_of_ble_eq_true rfl) ?_
  intro p e s m args below meth c Q A ls hsz ha1 ha2 hx hb hml hts hown hK hA hAB hP hD hl hin ret
  have hS : va_S A s.heap s.heap [] := va_S.rf
  have hl : lv_has ls 1 [(0, .ref a)] := hl
  have w0 := hts (.arrayClass .int) (List.mem_of_getElem? (i := 4) rfl)
  have w1 := hts (.fieldLink RX8 11 "OlderSkin$Shelves" "sorts" "[I") (List.mem_of_getElem? (i := 5) rfl)
  have w2 := (fun w h => List.mem_cons_of_mem _ (List.mem_append_right _ h) : ∀ w ∈ u_ws RX8 TX8 4, w ∈ wsX8_init)
  have w3 := hts (.fieldLink RX8 15 "OlderSkin$Shelves" "lengths" "[I") (List.mem_of_getElem? (i := 6) rfl)
  have w4 := hts (.fieldLink RX8 18 "OlderSkin$Shelves" "bodyKinds" "[I") (List.mem_of_getElem? (i := 7) rfl)
  have w5 := hts (.fieldLink RX8 23 "OlderSkin$Shelves" "values" "[[J") (List.mem_of_getElem? (i := 10) rfl)
  have l0 : (6 : Int32).toInt = 6 := by decide
  have l1 : (0 : Int32).toInt = 0 := by decide
  have l2 : ((-1) : Int32).toInt = -1 := by decide
  have l3 : (1 : Int32).toInt = 1 := by decide
  have l4 : (2 : Int32).toInt = 2 := by decide
  have l5 : (3 : Int32).toInt = 3 := by decide
  have l6 : (4 : Int32).toInt = 4 := by decide
  have l7 : (5 : Int32).toInt = 5 := by decide
  have l8 : (60 : Int32).toInt = 60 := by decide
  refine lv_aload_n hx hb dX8_init_0 rfl (lv_at hl 0 rfl) ?_
  refine W.objInit hx hb hown (hts (.methodLink RX8 3 objectInit) (by decide +kernel)) (hts (.instanceMethod objectInit) (by decide +kernel)) (hts _ (List.mem_cons_of_mem _ (List.mem_of_getElem? (i := 2) rfl))) rfl (by rw [hml]; exact hl.1) rfl dX8_init_1 (Nat.le_of_ble_eq_true rfl) (Nat.le_of_ble_eq_true rfl) ?_
  refine W.eq (g2 := F0 m 4 ls []) rfl ?_
  refine lv_aload_n hx hb dX8_init_4 rfl (lv_at hl 0 rfl) ?_
  refine lv_bipush (v := 6) hx hb dX8_init_5 (by decide) ?_
  refine va_newa (atype := .int) hx hb w0 rfl hK.1 hP hD hS hA (a0 := (6, .inl (fun _ => 0))) (fun _ => rfl) (by decide) rfl (Nat.le_of_ble_eq_true rfl) (Nat.le_of_ble_eq_true rfl) (Nat.le_of_ble_eq_true rfl) dX8_init_7 (fun q1 cA H hK9 hP hD hS => ?_)
  have hcA := cls_I hK9
  subst hcA
  obtain ⟨hP, hD⟩ : PD D A [(a, .inr (8, [.null, .null, .null, .null])), (cI κ q1 6 (fun _ => 0))] H := ⟨hP, hD⟩
  refine lv_dup hx hb dX8_init_9 rfl ?_
  refine lv_iconst (v := 0) hx hb dX8_init_10 (by decide) ?_
  refine lv_iconst (v := (-1)) hx hb dX8_init_11 (by decide) ?_
  refine va_iast hx hb hK.1 hP hD hS 1 1 rfl rfl (i := 0) (ix (by omega) (by omega)) dX8_init_12 (fun H locs hP hD hS => ?_)
  obtain ⟨g2, e3⟩ : ∃ y : Nat → Int32, y = upd (fun _ => 0) (0 : Int32).toNatClampNeg (-1) := ⟨_, rfl⟩
  rw [← e3] at hP hD
  obtain ⟨hP, hD⟩ : PD D A [(a, .inr (8, [.null, .null, .null, .null])), (cI κ q1 6 g2)] H := ⟨hP, hD⟩
  refine lv_dup hx hb dX8_init_13 rfl ?_
  refine lv_iconst (v := 1) hx hb dX8_init_14 (by decide) ?_
  refine lv_iconst (v := (-1)) hx hb dX8_init_15 (by decide) ?_
  refine va_iast hx hb hK.1 hP hD hS 1 1 rfl rfl (i := 1) (ix (by omega) (by omega)) dX8_init_16 (fun H locs hP hD hS => ?_)
  obtain ⟨g4, e5⟩ : ∃ y : Nat → Int32, y = upd g2 (1 : Int32).toNatClampNeg (-1) := ⟨_, rfl⟩
  rw [← e5] at hP hD
  obtain ⟨hP, hD⟩ : PD D A [(a, .inr (8, [.null, .null, .null, .null])), (cI κ q1 6 g4)] H := ⟨hP, hD⟩
  refine lv_dup hx hb dX8_init_17 rfl ?_
  refine lv_iconst (v := 2) hx hb dX8_init_18 (by decide) ?_
  refine lv_iconst (v := (-1)) hx hb dX8_init_19 (by decide) ?_
  refine va_iast hx hb hK.1 hP hD hS 1 1 rfl rfl (i := 2) (ix (by omega) (by omega)) dX8_init_20 (fun H locs hP hD hS => ?_)
  obtain ⟨g6, e7⟩ : ∃ y : Nat → Int32, y = upd g4 (2 : Int32).toNatClampNeg (-1) := ⟨_, rfl⟩
  rw [← e7] at hP hD
  obtain ⟨hP, hD⟩ : PD D A [(a, .inr (8, [.null, .null, .null, .null])), (cI κ q1 6 g6)] H := ⟨hP, hD⟩
  refine lv_dup hx hb dX8_init_21 rfl ?_
  refine lv_iconst (v := 3) hx hb dX8_init_22 (by decide) ?_
  refine lv_iconst (v := (-1)) hx hb dX8_init_23 (by decide) ?_
  refine va_iast hx hb hK.1 hP hD hS 1 1 rfl rfl (i := 3) (ix (by omega) (by omega)) dX8_init_24 (fun H locs hP hD hS => ?_)
  obtain ⟨g10, e11⟩ : ∃ y : Nat → Int32, y = upd g6 (3 : Int32).toNatClampNeg (-1) := ⟨_, rfl⟩
  rw [← e11] at hP hD
  obtain ⟨hP, hD⟩ : PD D A [(a, .inr (8, [.null, .null, .null, .null])), (cI κ q1 6 g10)] H := ⟨hP, hD⟩
  refine lv_dup hx hb dX8_init_25 rfl ?_
  refine lv_iconst (v := 4) hx hb dX8_init_26 (by decide) ?_
  refine lv_iconst (v := (-1)) hx hb dX8_init_27 (by decide) ?_
  refine va_iast hx hb hK.1 hP hD hS 1 1 rfl rfl (i := 4) (ix (by omega) (by omega)) dX8_init_28 (fun H locs hP hD hS => ?_)
  obtain ⟨g12, e13⟩ : ∃ y : Nat → Int32, y = upd g10 (4 : Int32).toNatClampNeg (-1) := ⟨_, rfl⟩
  rw [← e13] at hP hD
  obtain ⟨hP, hD⟩ : PD D A [(a, .inr (8, [.null, .null, .null, .null])), (cI κ q1 6 g12)] H := ⟨hP, hD⟩
  refine lv_dup hx hb dX8_init_29 rfl ?_
  refine lv_iconst (v := 5) hx hb dX8_init_30 (by decide) ?_
  refine lv_iconst (v := (-1)) hx hb dX8_init_31 (by decide) ?_
  refine va_iast hx hb hK.1 hP hD hS 1 1 rfl rfl (i := 5) (ix (by omega) (by omega)) dX8_init_32 (fun H locs hP hD hS => ?_)
  obtain ⟨g14, e15⟩ : ∃ y : Nat → Int32, y = upd g12 (5 : Int32).toNatClampNeg (-1) := ⟨_, rfl⟩
  rw [← e15] at hP hD
  obtain ⟨hP, hD⟩ : PD D A [(a, .inr (8, [.null, .null, .null, .null])), (cI κ q1 6 g14)] H := ⟨hP, hD⟩
  refine va_putF (D := D) (ci := 8) (v := .ref q1) (ty := .array .int) (C := RX8) (T := TX8) (N := 4) hx hb hts w2 tyX8 tyX8_ok nmX8 hown hK.1 hP hD hS 0 rfl rfl 0 (by decide) w1 (fun _ h9 => h9) rfl hin rfl (by decide +kernel) rfl rfl (Nat.le_of_ble_eq_true rfl) dX8_init_33 (fun H locs hP hD hS => ?_)
  obtain ⟨hP, hD⟩ : PD D A [(a, .inr (8, [.ref q1, .null, .null, .null])), (cI κ q1 6 g14)] H := ⟨hP, hD⟩
  refine lv_aload_n hx hb dX8_init_36 rfl (lv_at hl 0 rfl) ?_
  refine lv_bipush (v := 6) hx hb dX8_init_37 (by decide) ?_
  refine va_newa (atype := .int) hx hb w0 rfl hK.1 hP hD hS hA (a0 := (6, .inl (fun _ => 0))) (fun _ => rfl) (by decide) rfl (Nat.le_of_ble_eq_true rfl) (Nat.le_of_ble_eq_true rfl) (Nat.le_of_ble_eq_true rfl) dX8_init_39 (fun q16 cA H hK9 hP hD hS => ?_)
  have hcA := cls_I hK9
  subst hcA
  obtain ⟨hP, hD⟩ : PD D A [(a, .inr (8, [.ref q1, .null, .null, .null])), (cI κ q1 6 g14), (cI κ q16 6 (fun _ => 0))] H := ⟨hP, hD⟩
  refine va_putF (D := D) (ci := 8) (v := .ref q16) (ty := .array .int) (C := RX8) (T := TX8) (N := 4) hx hb hts w2 tyX8 tyX8_ok nmX8 hown hK.1 hP hD hS 0 rfl rfl 1 (by decide) w3 (fun _ h9 => h9) rfl hin rfl (by decide +kernel) rfl rfl (Nat.le_of_ble_eq_true rfl) dX8_init_41 (fun H locs hP hD hS => ?_)
  obtain ⟨hP, hD⟩ : PD D A [(a, .inr (8, [.ref q1, .ref q16, .null, .null])), (cI κ q1 6 g14), (cI κ q16 6 (fun _ => 0))] H := ⟨hP, hD⟩
  refine lv_aload_n hx hb dX8_init_44 rfl (lv_at hl 0 rfl) ?_
  refine lv_bipush (v := 6) hx hb dX8_init_45 (by decide) ?_
  refine va_newa (atype := .int) hx hb w0 rfl hK.1 hP hD hS hA (a0 := (6, .inl (fun _ => 0))) (fun _ => rfl) (by decide) rfl (Nat.le_of_ble_eq_true rfl) (Nat.le_of_ble_eq_true rfl) (Nat.le_of_ble_eq_true rfl) dX8_init_47 (fun q17 cA H hK9 hP hD hS => ?_)
  have hcA := cls_I hK9
  subst hcA
  obtain ⟨hP, hD⟩ : PD D A [(a, .inr (8, [.ref q1, .ref q16, .null, .null])), (cI κ q1 6 g14), (cI κ q16 6 (fun _ => 0)), (cI κ q17 6 (fun _ => 0))] H := ⟨hP, hD⟩
  refine va_putF (D := D) (ci := 8) (v := .ref q17) (ty := .array .int) (C := RX8) (T := TX8) (N := 4) hx hb hts w2 tyX8 tyX8_ok nmX8 hown hK.1 hP hD hS 0 rfl rfl 2 (by decide) w4 (fun _ h9 => h9) rfl hin rfl (by decide +kernel) rfl rfl (Nat.le_of_ble_eq_true rfl) dX8_init_49 (fun H locs hP hD hS => ?_)
  obtain ⟨hP, hD⟩ : PD D A [(a, .inr (8, [.ref q1, .ref q16, .ref q17, .null])), (cI κ q1 6 g14), (cI κ q16 6 (fun _ => 0)), (cI κ q17 6 (fun _ => 0))] H := ⟨hP, hD⟩
  refine lv_aload_n hx hb dX8_init_52 rfl (lv_at hl 0 rfl) ?_
  refine lv_bipush (v := 6) hx hb dX8_init_53 (by decide) ?_
  refine lv_bipush (v := 60) hx hb dX8_init_55 (by decide) ?_
  refine va_mna (X := [(a, .inr (8, [.ref q1, .ref q16, .ref q17, .null])), (cI κ q1 6 g14), (cI κ q16 6 (fun _ => 0)), (cI κ q17 6 (fun _ => 0))]) (L := []) (f := fun _ => .inl (κ 0, 0, .inl (fun _ => 0))) (ty := .long) (cy := κ 2) (N' := 6) (K' := 60) (z := (60, .inr (.inl (fun _ => 0)))) hx hb hown (by rw [lnk_J]; exact hts (.classLink RX8 21 "[[J") (by decide +kernel)) ha2 (hts (.arrayClass .long) (by decide +kernel)) (hK.1.2 2 (κ 2, .long) rfl).2 hK.1 hP hD hS hA (n := 6) (k := 60) (fun q => absurd q (by decide)) (fun q => absurd q (by decide)) rfl rfl (Nat.le_of_ble_eq_true rfl) (Nat.le_of_ble_eq_true rfl) (Nat.le_of_ble_eq_true rfl) (by decide) (by decide) (Nat.le_of_ble_eq_true rfl) (Nat.le_of_ble_eq_true rfl) in_long60 dX8_init_57 (fun q18 rr19 cA H hri hrn hK9 hP hD hS => ?_)
  have hcA := cls_RJ hK9
  subst hcA
  rw [mna_l] at hP hD
  obtain ⟨hP, hD⟩ : PD D A [(a, .inr (8, [.ref q1, .ref q16, .ref q17, .null])), (cI κ q1 6 g14), (cI κ q16 6 (fun _ => 0)), (cI κ q17 6 (fun _ => 0)), (cRJ κ q18 6 (fun i => if i < 6 then some (rr19 i) else none)), (cJ κ (rr19 0) 60 ((fun _ _ => 0) 0)), (cJ κ (rr19 1) 60 ((fun _ _ => 0) 1)), (cJ κ (rr19 2) 60 ((fun _ _ => 0) 2)), (cJ κ (rr19 3) 60 ((fun _ _ => 0) 3)), (cJ κ (rr19 4) 60 ((fun _ _ => 0) 4)), (cJ κ (rr19 5) 60 ((fun _ _ => 0) 5))] H := ⟨hP, hD⟩
  have hP := va_P_eqv (k := 4) (e' := .inl (κ 5, 6, .inr (.inr (.inr (.inr (fun i => some (rr19 i))))))) hP rfl outer_at
  have hD := hD.set (p := 4) (e := .inl (κ 5, 6, .inr (.inr (.inr (.inr (fun i => some (rr19 i))))))) rfl
  obtain ⟨hP, hD⟩ : PD D A [(a, .inr (8, [.ref q1, .ref q16, .ref q17, .null])), (cI κ q1 6 g14), (cI κ q16 6 (fun _ => 0)), (cI κ q17 6 (fun _ => 0)), (cRJ κ q18 6 (fun i => some (rr19 i))), (cJ κ (rr19 0) 60 ((fun _ _ => 0) 0)), (cJ κ (rr19 1) 60 ((fun _ _ => 0) 1)), (cJ κ (rr19 2) 60 ((fun _ _ => 0) 2)), (cJ κ (rr19 3) 60 ((fun _ _ => 0) 3)), (cJ κ (rr19 4) 60 ((fun _ _ => 0) 4)), (cJ κ (rr19 5) 60 ((fun _ _ => 0) 5))] H := ⟨hP, hD⟩
  refine va_putF (D := D) (ci := 8) (v := .ref q18) (ty := .array (.array .long)) (C := RX8) (T := TX8) (N := 4) hx hb hts w2 tyX8 tyX8_ok nmX8 hown hK.1 hP hD hS 0 rfl rfl 3 (by decide) w5 (fun _ h9 => h9) rfl hin rfl (by decide +kernel) rfl rfl (Nat.le_of_ble_eq_true rfl) dX8_init_61 (fun H locs hP hD hS => ?_)
  obtain ⟨hP, hD⟩ : PD D A [(a, .inr (8, [.ref q1, .ref q16, .ref q17, .ref q18])), (cI κ q1 6 g14), (cI κ q16 6 (fun _ => 0)), (cI κ q17 6 (fun _ => 0)), (cRJ κ q18 6 (fun i => some (rr19 i))), (cJ κ (rr19 0) 60 ((fun _ _ => 0) 0)), (cJ κ (rr19 1) 60 ((fun _ _ => 0) 1)), (cJ κ (rr19 2) 60 ((fun _ _ => 0) 2)), (cJ κ (rr19 3) 60 ((fun _ _ => 0) 3)), (cJ κ (rr19 4) 60 ((fun _ _ => 0) 4)), (cJ κ (rr19 5) 60 ((fun _ _ => 0) 5))] H := ⟨hP, hD⟩
  have hP : va_P D vwCl [(a, .inr (8, [.ref q1, .ref q16, .ref q17, .ref q18])), (cI κ q1 6 g14), (cI κ q16 6 (fun _ => 0)), (cI κ q17 6 (fun _ => 0)), (cRJ κ q18 6 (fun i => some (rr19 i))), (cJ κ (rr19 0) 60 ((fun _ _ => 0) 0)), (cJ κ (rr19 1) 60 ((fun _ _ => 0) 1)), (cJ κ (rr19 2) 60 ((fun _ _ => 0) 2)), (cJ κ (rr19 3) 60 ((fun _ _ => 0) 3)), (cJ κ (rr19 4) 60 ((fun _ _ => 0) 4)), (cJ κ (rr19 5) 60 ((fun _ _ => 0) 5))] H := hP.sub [0, 1, 2, 3, 4, 5, 6, 7, 8, 9, 10] rfl
  have hD : va_D A [(a, .inr (8, [.ref q1, .ref q16, .ref q17, .ref q18])), (cI κ q1 6 g14), (cI κ q16 6 (fun _ => 0)), (cI κ q17 6 (fun _ => 0)), (cRJ κ q18 6 (fun i => some (rr19 i))), (cJ κ (rr19 0) 60 ((fun _ _ => 0) 0)), (cJ κ (rr19 1) 60 ((fun _ _ => 0) 1)), (cJ κ (rr19 2) 60 ((fun _ _ => 0) 2)), (cJ κ (rr19 3) 60 ((fun _ _ => 0) 3)), (cJ κ (rr19 4) 60 ((fun _ _ => 0) 4)), (cJ κ (rr19 5) 60 ((fun _ _ => 0) 5))] := hD.sub [0, 1, 2, 3, 4, 5, 6, 7, 8, 9, 10] (by decide) rfl
  exact ret _ _ _ _ ((fun i => ([q1, q16, q17, q18] : List Nat).getD i 0), g14, rr19) dX8_init_64 trivial hP hD hS
set_option maxHeartbeats 4000000 in
set_option maxRecDepth 100000 in
theorem k_X9_init (l : Launch) (D : va_G) (κ : Nat → ClassId) (β : Nat) (a : Nat) (sz : Nat) : Met l yX9_init wsX9_init ({ frames := 1, cells := 12, slots := 70, locals := 20 } : Room) (PcA D κ β [(a, .inr (9, [.null, .null, .null, .null, .null, .int 0, .null]))] sz [.ref a]) (QvK D (fun (u : (Nat → Nat) × (Nat → Nat)) => True) (fun (u : (Nat → Nat) × (Nat → Nat)) => [O9 a u.1 0, (cI κ (u.1 0) 6 (fun _ => 0)), (cI κ (u.1 1) 6 (fun _ => 0)), (cI κ (u.1 2) 6 (fun _ => 0)), (cRI κ (u.1 3) 6 (fun i => some (u.2 i))), (cI κ (u.1 4) 6 (fun _ => 0)), (cI κ (u.1 6) 40 (fun _ => 0)), (cI κ (u.2 0) ((fun _ => 0) 0) ((fun _ _ => 0) 0)), (cI κ (u.2 1) ((fun _ => 0) 1) ((fun _ _ => 0) 1)), (cI κ (u.2 2) ((fun _ => 0) 2) ((fun _ _ => 0) 2)), (cI κ (u.2 3) ((fun _ => 0) 3) ((fun _ _ => 0) 3)), (cI κ (u.2 4) ((fun _ => 0) 4) ((fun _ _ => 0) 4)), (cI κ (u.2 5) ((fun _ => 0) 5) ((fun _ _ => 0) 5))]) [(a, .inr (9, [.null, .null, .null, .null, .null, .int 0, .null]))] sz) 12 70 (va_A [(a, .inr (9, [.null, .null, .null, .null, .null, .int 0, .null]))] sz) := by
  refine ofA_v (cc := cX9_init) (maxL := 1) (own := RX9) (by decide) rfl rfl (Nat.le_of_ble_eq_true rfl) ?_
  intro p e s m args below meth c Q A ls hsz ha1 ha2 hx hb hml hts hown hK hA hAB hP hD hl hin ret
  have hS : va_S A s.heap s.heap [] := va_S.rf
  have hl : lv_has ls 1 [(0, .ref a)] := hl
  have w0 := hts (.arrayClass .int) (List.mem_of_getElem? (i := 4) rfl)
  have w1 := hts (.fieldLink RX9 9 "OlderSkin$Stories" "years" "[I") (List.mem_of_getElem? (i := 5) rfl)
  have w2 := (fun w h => List.mem_cons_of_mem _ (List.mem_append_right _ h) : ∀ w ∈ u_ws RX9 TX9 7, w ∈ wsX9_init)
  have w3 := hts (.fieldLink RX9 15 "OlderSkin$Stories" "priors" "[I") (List.mem_of_getElem? (i := 6) rfl)
  have w4 := hts (.fieldLink RX9 18 "OlderSkin$Stories" "weights" "[I") (List.mem_of_getElem? (i := 7) rfl)
  have w5 := hts (.fieldLink RX9 23 "OlderSkin$Stories" "steps" "[[I") (List.mem_of_getElem? (i := 9) rfl)
  have w6 := hts (.fieldLink RX9 26 "OlderSkin$Stories" "sizes" "[I") (List.mem_of_getElem? (i := 10) rfl)
  have w7 := hts (.fieldLink RX9 29 "OlderSkin$Stories" "stack" "[I") (List.mem_of_getElem? (i := 11) rfl)
  have l0 : (6 : Int32).toInt = 6 := by decide
  have l1 : (0 : Int32).toInt = 0 := by decide
  have l2 : (40 : Int32).toInt = 40 := by decide
  refine lv_aload_n hx hb dX9_init_0 rfl (lv_at hl 0 rfl) ?_
  refine W.objInit hx hb hown (hts (.methodLink RX9 3 objectInit) (by decide +kernel)) (hts (.instanceMethod objectInit) (by decide +kernel)) (hts _ (List.mem_cons_of_mem _ (List.mem_of_getElem? (i := 2) rfl))) rfl (by rw [hml]; exact hl.1) rfl dX9_init_1 (Nat.le_of_ble_eq_true rfl) (Nat.le_of_ble_eq_true rfl) ?_
  refine W.eq (g2 := F0 m 4 ls []) rfl ?_
  refine lv_aload_n hx hb dX9_init_4 rfl (lv_at hl 0 rfl) ?_
  refine lv_bipush (v := 6) hx hb dX9_init_5 (by decide) ?_
  refine va_newa (atype := .int) hx hb w0 rfl hK.1 hP hD hS hA (a0 := (6, .inl (fun _ => 0))) (fun _ => rfl) (by decide) rfl (Nat.le_of_ble_eq_true rfl) (Nat.le_of_ble_eq_true rfl) (Nat.le_of_ble_eq_true rfl) dX9_init_7 (fun q1 cA H hK9 hP hD hS => ?_)
  have hcA := cls_I hK9
  subst hcA
  obtain ⟨hP, hD⟩ : PD D A [(a, .inr (9, [.null, .null, .null, .null, .null, .int 0, .null])), (cI κ q1 6 (fun _ => 0))] H := ⟨hP, hD⟩
  refine va_putF (D := D) (ci := 9) (v := .ref q1) (ty := .array .int) (C := RX9) (T := TX9) (N := 7) hx hb hts w2 tyX9 tyX9_ok nmX9 hown hK.1 hP hD hS 0 rfl rfl 0 (by decide) w1 (fun _ h9 => h9) rfl hin rfl (by decide +kernel) rfl rfl (Nat.le_of_ble_eq_true rfl) dX9_init_9 (fun H locs hP hD hS => ?_)
  obtain ⟨hP, hD⟩ : PD D A [(a, .inr (9, [.ref q1, .null, .null, .null, .null, .int 0, .null])), (cI κ q1 6 (fun _ => 0))] H := ⟨hP, hD⟩
  refine lv_aload_n hx hb dX9_init_12 rfl (lv_at hl 0 rfl) ?_
  refine lv_bipush (v := 6) hx hb dX9_init_13 (by decide) ?_
  refine va_newa (atype := .int) hx hb w0 rfl hK.1 hP hD hS hA (a0 := (6, .inl (fun _ => 0))) (fun _ => rfl) (by decide) rfl (Nat.le_of_ble_eq_true rfl) (Nat.le_of_ble_eq_true rfl) (Nat.le_of_ble_eq_true rfl) dX9_init_15 (fun q2 cA H hK9 hP hD hS => ?_)
  have hcA := cls_I hK9
  subst hcA
  obtain ⟨hP, hD⟩ : PD D A [(a, .inr (9, [.ref q1, .null, .null, .null, .null, .int 0, .null])), (cI κ q1 6 (fun _ => 0)), (cI κ q2 6 (fun _ => 0))] H := ⟨hP, hD⟩
  refine va_putF (D := D) (ci := 9) (v := .ref q2) (ty := .array .int) (C := RX9) (T := TX9) (N := 7) hx hb hts w2 tyX9 tyX9_ok nmX9 hown hK.1 hP hD hS 0 rfl rfl 1 (by decide) w3 (fun _ h9 => h9) rfl hin rfl (by decide +kernel) rfl rfl (Nat.le_of_ble_eq_true rfl) dX9_init_17 (fun H locs hP hD hS => ?_)
  obtain ⟨hP, hD⟩ : PD D A [(a, .inr (9, [.ref q1, .ref q2, .null, .null, .null, .int 0, .null])), (cI κ q1 6 (fun _ => 0)), (cI κ q2 6 (fun _ => 0))] H := ⟨hP, hD⟩
  refine lv_aload_n hx hb dX9_init_20 rfl (lv_at hl 0 rfl) ?_
  refine lv_bipush (v := 6) hx hb dX9_init_21 (by decide) ?_
  refine va_newa (atype := .int) hx hb w0 rfl hK.1 hP hD hS hA (a0 := (6, .inl (fun _ => 0))) (fun _ => rfl) (by decide) rfl (Nat.le_of_ble_eq_true rfl) (Nat.le_of_ble_eq_true rfl) (Nat.le_of_ble_eq_true rfl) dX9_init_23 (fun q3 cA H hK9 hP hD hS => ?_)
  have hcA := cls_I hK9
  subst hcA
  obtain ⟨hP, hD⟩ : PD D A [(a, .inr (9, [.ref q1, .ref q2, .null, .null, .null, .int 0, .null])), (cI κ q1 6 (fun _ => 0)), (cI κ q2 6 (fun _ => 0)), (cI κ q3 6 (fun _ => 0))] H := ⟨hP, hD⟩
  refine va_putF (D := D) (ci := 9) (v := .ref q3) (ty := .array .int) (C := RX9) (T := TX9) (N := 7) hx hb hts w2 tyX9 tyX9_ok nmX9 hown hK.1 hP hD hS 0 rfl rfl 2 (by decide) w4 (fun _ h9 => h9) rfl hin rfl (by decide +kernel) rfl rfl (Nat.le_of_ble_eq_true rfl) dX9_init_25 (fun H locs hP hD hS => ?_)
  obtain ⟨hP, hD⟩ : PD D A [(a, .inr (9, [.ref q1, .ref q2, .ref q3, .null, .null, .int 0, .null])), (cI κ q1 6 (fun _ => 0)), (cI κ q2 6 (fun _ => 0)), (cI κ q3 6 (fun _ => 0))] H := ⟨hP, hD⟩
  refine lv_aload_n hx hb dX9_init_28 rfl (lv_at hl 0 rfl) ?_
  refine lv_bipush (v := 6) hx hb dX9_init_29 (by decide) ?_
  refine lv_iconst (v := 0) hx hb dX9_init_31 (by decide) ?_
  refine va_mna (X := [(a, .inr (9, [.ref q1, .ref q2, .ref q3, .null, .null, .int 0, .null])), (cI κ q1 6 (fun _ => 0)), (cI κ q2 6 (fun _ => 0)), (cI κ q3 6 (fun _ => 0))]) (L := []) (f := fun _ => .inl (κ 0, 0, .inl (fun _ => 0))) (ty := .int) (cy := κ 1) (N' := 6) (K' := 0) (z := (0, .inl (fun _ => 0))) hx hb hown (by rw [lnk_I]; exact hts (.classLink RX9 21 "[[I") (by decide +kernel)) ha1 (hts (.arrayClass .int) (by decide +kernel)) (hK.1.2 1 (κ 1, .int) rfl).2 hK.1 hP hD hS hA (n := 6) (k := 0) (fun q => absurd q (by decide)) (fun q => absurd q (by decide)) rfl rfl (Nat.le_of_ble_eq_true rfl) (Nat.le_of_ble_eq_true rfl) (Nat.le_of_ble_eq_true rfl) (by decide) (by decide) (Nat.le_of_ble_eq_true rfl) (Nat.le_of_ble_eq_true rfl) in_int0 dX9_init_32 (fun q4 rr5 cA H hri hrn hK9 hP hD hS => ?_)
  have hcA := cls_RI hK9
  subst hcA
  rw [mna_l] at hP hD
  obtain ⟨hP, hD⟩ : PD D A [(a, .inr (9, [.ref q1, .ref q2, .ref q3, .null, .null, .int 0, .null])), (cI κ q1 6 (fun _ => 0)), (cI κ q2 6 (fun _ => 0)), (cI κ q3 6 (fun _ => 0)), (cRI κ q4 6 (fun i => if i < 6 then some (rr5 i) else none)), (cI κ (rr5 0) ((fun _ => 0) 0) ((fun _ _ => 0) 0)), (cI κ (rr5 1) ((fun _ => 0) 1) ((fun _ _ => 0) 1)), (cI κ (rr5 2) ((fun _ => 0) 2) ((fun _ _ => 0) 2)), (cI κ (rr5 3) ((fun _ => 0) 3) ((fun _ _ => 0) 3)), (cI κ (rr5 4) ((fun _ => 0) 4) ((fun _ _ => 0) 4)), (cI κ (rr5 5) ((fun _ => 0) 5) ((fun _ _ => 0) 5))] H := ⟨hP, hD⟩
  have hP := va_P_eqv (k := 4) (e' := .inl (κ 4, 6, .inr (.inr (.inr (.inr (fun i => some (rr5 i))))))) hP rfl outer_at
  have hD := hD.set (p := 4) (e := .inl (κ 4, 6, .inr (.inr (.inr (.inr (fun i => some (rr5 i))))))) rfl
  obtain ⟨hP, hD⟩ : PD D A [(a, .inr (9, [.ref q1, .ref q2, .ref q3, .null, .null, .int 0, .null])), (cI κ q1 6 (fun _ => 0)), (cI κ q2 6 (fun _ => 0)), (cI κ q3 6 (fun _ => 0)), (cRI κ q4 6 (fun i => some (rr5 i))), (cI κ (rr5 0) ((fun _ => 0) 0) ((fun _ _ => 0) 0)), (cI κ (rr5 1) ((fun _ => 0) 1) ((fun _ _ => 0) 1)), (cI κ (rr5 2) ((fun _ => 0) 2) ((fun _ _ => 0) 2)), (cI κ (rr5 3) ((fun _ => 0) 3) ((fun _ _ => 0) 3)), (cI κ (rr5 4) ((fun _ => 0) 4) ((fun _ _ => 0) 4)), (cI κ (rr5 5) ((fun _ => 0) 5) ((fun _ _ => 0) 5))] H := ⟨hP, hD⟩
  refine va_putF (D := D) (ci := 9) (v := .ref q4) (ty := .array (.array .int)) (C := RX9) (T := TX9) (N := 7) hx hb hts w2 tyX9 tyX9_ok nmX9 hown hK.1 hP hD hS 0 rfl rfl 3 (by decide) w5 (fun _ h9 => h9) rfl hin rfl (by decide +kernel) rfl rfl (Nat.le_of_ble_eq_true rfl) dX9_init_36 (fun H locs hP hD hS => ?_)
  obtain ⟨hP, hD⟩ : PD D A [(a, .inr (9, [.ref q1, .ref q2, .ref q3, .ref q4, .null, .int 0, .null])), (cI κ q1 6 (fun _ => 0)), (cI κ q2 6 (fun _ => 0)), (cI κ q3 6 (fun _ => 0)), (cRI κ q4 6 (fun i => some (rr5 i))), (cI κ (rr5 0) ((fun _ => 0) 0) ((fun _ _ => 0) 0)), (cI κ (rr5 1) ((fun _ => 0) 1) ((fun _ _ => 0) 1)), (cI κ (rr5 2) ((fun _ => 0) 2) ((fun _ _ => 0) 2)), (cI κ (rr5 3) ((fun _ => 0) 3) ((fun _ _ => 0) 3)), (cI κ (rr5 4) ((fun _ => 0) 4) ((fun _ _ => 0) 4)), (cI κ (rr5 5) ((fun _ => 0) 5) ((fun _ _ => 0) 5))] H := ⟨hP, hD⟩
  refine lv_aload_n hx hb dX9_init_39 rfl (lv_at hl 0 rfl) ?_
  refine lv_bipush (v := 6) hx hb dX9_init_40 (by decide) ?_
  refine va_newa (atype := .int) hx hb w0 rfl hK.1 hP hD hS hA (a0 := (6, .inl (fun _ => 0))) (fun _ => rfl) (by decide) rfl (Nat.le_of_ble_eq_true rfl) (Nat.le_of_ble_eq_true rfl) (Nat.le_of_ble_eq_true rfl) dX9_init_42 (fun q6 cA H hK9 hP hD hS => ?_)
  have hcA := cls_I hK9
  subst hcA
  obtain ⟨hP, hD⟩ : PD D A [(a, .inr (9, [.ref q1, .ref q2, .ref q3, .ref q4, .null, .int 0, .null])), (cI κ q1 6 (fun _ => 0)), (cI κ q2 6 (fun _ => 0)), (cI κ q3 6 (fun _ => 0)), (cRI κ q4 6 (fun i => some (rr5 i))), (cI κ (rr5 0) ((fun _ => 0) 0) ((fun _ _ => 0) 0)), (cI κ (rr5 1) ((fun _ => 0) 1) ((fun _ _ => 0) 1)), (cI κ (rr5 2) ((fun _ => 0) 2) ((fun _ _ => 0) 2)), (cI κ (rr5 3) ((fun _ => 0) 3) ((fun _ _ => 0) 3)), (cI κ (rr5 4) ((fun _ => 0) 4) ((fun _ _ => 0) 4)), (cI κ (rr5 5) ((fun _ => 0) 5) ((fun _ _ => 0) 5)), (cI κ q6 6 (fun _ => 0))] H := ⟨hP, hD⟩
  refine va_putF (D := D) (ci := 9) (v := .ref q6) (ty := .array .int) (C := RX9) (T := TX9) (N := 7) hx hb hts w2 tyX9 tyX9_ok nmX9 hown hK.1 hP hD hS 0 rfl rfl 4 (by decide) w6 (fun _ h9 => h9) rfl hin rfl (by decide +kernel) rfl rfl (Nat.le_of_ble_eq_true rfl) dX9_init_44 (fun H locs hP hD hS => ?_)
  obtain ⟨hP, hD⟩ : PD D A [(a, .inr (9, [.ref q1, .ref q2, .ref q3, .ref q4, .ref q6, .int 0, .null])), (cI κ q1 6 (fun _ => 0)), (cI κ q2 6 (fun _ => 0)), (cI κ q3 6 (fun _ => 0)), (cRI κ q4 6 (fun i => some (rr5 i))), (cI κ (rr5 0) ((fun _ => 0) 0) ((fun _ _ => 0) 0)), (cI κ (rr5 1) ((fun _ => 0) 1) ((fun _ _ => 0) 1)), (cI κ (rr5 2) ((fun _ => 0) 2) ((fun _ _ => 0) 2)), (cI κ (rr5 3) ((fun _ => 0) 3) ((fun _ _ => 0) 3)), (cI κ (rr5 4) ((fun _ => 0) 4) ((fun _ _ => 0) 4)), (cI κ (rr5 5) ((fun _ => 0) 5) ((fun _ _ => 0) 5)), (cI κ q6 6 (fun _ => 0))] H := ⟨hP, hD⟩
  refine lv_aload_n hx hb dX9_init_47 rfl (lv_at hl 0 rfl) ?_
  refine lv_bipush (v := 40) hx hb dX9_init_48 (by decide) ?_
  refine va_newa (atype := .int) hx hb w0 rfl hK.1 hP hD hS hA (a0 := (40, .inl (fun _ => 0))) (fun _ => rfl) (by decide) rfl (Nat.le_of_ble_eq_true rfl) (Nat.le_of_ble_eq_true rfl) (Nat.le_of_ble_eq_true rfl) dX9_init_50 (fun q7 cA H hK9 hP hD hS => ?_)
  have hcA := cls_I hK9
  subst hcA
  obtain ⟨hP, hD⟩ : PD D A [(a, .inr (9, [.ref q1, .ref q2, .ref q3, .ref q4, .ref q6, .int 0, .null])), (cI κ q1 6 (fun _ => 0)), (cI κ q2 6 (fun _ => 0)), (cI κ q3 6 (fun _ => 0)), (cRI κ q4 6 (fun i => some (rr5 i))), (cI κ (rr5 0) ((fun _ => 0) 0) ((fun _ _ => 0) 0)), (cI κ (rr5 1) ((fun _ => 0) 1) ((fun _ _ => 0) 1)), (cI κ (rr5 2) ((fun _ => 0) 2) ((fun _ _ => 0) 2)), (cI κ (rr5 3) ((fun _ => 0) 3) ((fun _ _ => 0) 3)), (cI κ (rr5 4) ((fun _ => 0) 4) ((fun _ _ => 0) 4)), (cI κ (rr5 5) ((fun _ => 0) 5) ((fun _ _ => 0) 5)), (cI κ q6 6 (fun _ => 0)), (cI κ q7 40 (fun _ => 0))] H := ⟨hP, hD⟩
  refine va_putF (D := D) (ci := 9) (v := .ref q7) (ty := .array .int) (C := RX9) (T := TX9) (N := 7) hx hb hts w2 tyX9 tyX9_ok nmX9 hown hK.1 hP hD hS 0 rfl rfl 6 (by decide) w7 (fun _ h9 => h9) rfl hin rfl (by decide +kernel) rfl rfl (Nat.le_of_ble_eq_true rfl) dX9_init_52 (fun H locs hP hD hS => ?_)
  obtain ⟨hP, hD⟩ : PD D A [(a, .inr (9, [.ref q1, .ref q2, .ref q3, .ref q4, .ref q6, .int 0, .ref q7])), (cI κ q1 6 (fun _ => 0)), (cI κ q2 6 (fun _ => 0)), (cI κ q3 6 (fun _ => 0)), (cRI κ q4 6 (fun i => some (rr5 i))), (cI κ (rr5 0) ((fun _ => 0) 0) ((fun _ _ => 0) 0)), (cI κ (rr5 1) ((fun _ => 0) 1) ((fun _ _ => 0) 1)), (cI κ (rr5 2) ((fun _ => 0) 2) ((fun _ _ => 0) 2)), (cI κ (rr5 3) ((fun _ => 0) 3) ((fun _ _ => 0) 3)), (cI κ (rr5 4) ((fun _ => 0) 4) ((fun _ _ => 0) 4)), (cI κ (rr5 5) ((fun _ => 0) 5) ((fun _ _ => 0) 5)), (cI κ q6 6 (fun _ => 0)), (cI κ q7 40 (fun _ => 0))] H := ⟨hP, hD⟩
  have hP : va_P D vwCl [(a, .inr (9, [.ref q1, .ref q2, .ref q3, .ref q4, .ref q6, .int 0, .ref q7])), (cI κ q1 6 (fun _ => 0)), (cI κ q2 6 (fun _ => 0)), (cI κ q3 6 (fun _ => 0)), (cRI κ q4 6 (fun i => some (rr5 i))), (cI κ q6 6 (fun _ => 0)), (cI κ q7 40 (fun _ => 0)), (cI κ (rr5 0) ((fun _ => 0) 0) ((fun _ _ => 0) 0)), (cI κ (rr5 1) ((fun _ => 0) 1) ((fun _ _ => 0) 1)), (cI κ (rr5 2) ((fun _ => 0) 2) ((fun _ _ => 0) 2)), (cI κ (rr5 3) ((fun _ => 0) 3) ((fun _ _ => 0) 3)), (cI κ (rr5 4) ((fun _ => 0) 4) ((fun _ _ => 0) 4)), (cI κ (rr5 5) ((fun _ => 0) 5) ((fun _ _ => 0) 5))] H := hP.sub [0, 1, 2, 3, 4, 11, 12, 5, 6, 7, 8, 9, 10] rfl
  have hD : va_D A [(a, .inr (9, [.ref q1, .ref q2, .ref q3, .ref q4, .ref q6, .int 0, .ref q7])), (cI κ q1 6 (fun _ => 0)), (cI κ q2 6 (fun _ => 0)), (cI κ q3 6 (fun _ => 0)), (cRI κ q4 6 (fun i => some (rr5 i))), (cI κ q6 6 (fun _ => 0)), (cI κ q7 40 (fun _ => 0)), (cI κ (rr5 0) ((fun _ => 0) 0) ((fun _ _ => 0) 0)), (cI κ (rr5 1) ((fun _ => 0) 1) ((fun _ _ => 0) 1)), (cI κ (rr5 2) ((fun _ => 0) 2) ((fun _ _ => 0) 2)), (cI κ (rr5 3) ((fun _ => 0) 3) ((fun _ _ => 0) 3)), (cI κ (rr5 4) ((fun _ => 0) 4) ((fun _ _ => 0) 4)), (cI κ (rr5 5) ((fun _ => 0) 5) ((fun _ _ => 0) 5))] := hD.sub [0, 1, 2, 3, 4, 11, 12, 5, 6, 7, 8, 9, 10] (by decide) rfl
  exact ret _ _ _ _ ((fun i => ([q1, q2, q3, q4, q6, 0, q7] : List Nat).getD i 0), rr5) dX9_init_55 trivial hP hD hS
