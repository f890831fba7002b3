set_option maxHeartbeats 4000000 in
set_option maxRecDepth 100000 in
theorem k_X1_dropOldest (l : Launch) (D : va_G) (κ : Nat → ClassId) (β : Nat) (a1 : Nat) (r1 : Nat → Nat) (v1_done : Int32) (v1_kept : Int32) (f1_sorts : Nat → Int32) (f1_which : Nat → Int32) (f1_was : Nat → Int32) (f1_became : Nat → Int32) (sz : Nat) (i1 : Rg 0 40 v1_done) (i2 : Rg 0 40 v1_kept) (i3 : 1 ≤ v1_done.toInt) : Met l yX1_dropOldest wsX1_dropOldest ({ frames := 1, cells := 0, slots := 0, locals := 64 } : Room) (PcK D κ β [O1 a1 r1 v1_done v1_kept, (cI κ (r1 0) 40 f1_sorts), (cI κ (r1 1) 40 f1_which), (cI κ (r1 2) 40 f1_was), (cI κ (r1 3) 40 f1_became)] sz [.ref a1]) (QvK D (fun (u : Int32 × (Nat → Int32) × (Nat → Int32) × (Nat → Int32) × (Nat → Int32)) => (0 ≤ u.1.toInt ∧ u.1.toInt ≤ 40) ∧ (u.1.toInt = v1_done.toInt - 1)) (fun (u : Int32 × (Nat → Int32) × (Nat → Int32) × (Nat → Int32) × (Nat → Int32)) => [O1 a1 r1 u.1 v1_kept, (cI κ (r1 0) 40 u.2.1), (cI κ (r1 1) 40 u.2.2.1), (cI κ (r1 2) 40 u.2.2.2.1), (cI κ (r1 3) 40 u.2.2.2.2)]) [O1 a1 r1 v1_done v1_kept, (cI κ (r1 0) 40 f1_sorts), (cI κ (r1 1) 40 f1_which), (cI κ (r1 2) 40 f1_was), (cI κ (r1 3) 40 f1_became)] sz) 0 0 (va_A [O1 a1 r1 v1_done v1_kept, (cI κ (r1 0) 40 f1_sorts), (cI κ (r1 1) 40 f1_which), (cI κ (r1 2) 40 f1_was), (cI κ (r1 3) 40 f1_became)] sz) := by
  refine ofK_v (cc := cX1_dropOldest) (maxL := 1) (own := RX1) (by decide) rfl rfl (Nat.le_of_ble_eq_true rfl) ?_
  intro p e s m args below meth c Q A ls hsz hx hb hml hts hown hK hA hAB hP hD hl hname ret
  have hS : va_S A s.heap s.heap [] := va_S.rf
  have hl : lv_has ls 1 [(0, .ref a1)] := hl
  have w0 := hts (.fieldLink RX1 22 "OlderSkin$Changes" "done" "I") (List.mem_of_getElem? (i := 1) rfl)
  have w1 := (fun w h => List.mem_cons_of_mem _ (List.mem_append_right _ h) : ∀ w ∈ u_ws RX1 TX1 6, w ∈ wsX1_dropOldest)
  have w2 := hts (.fieldLink RX1 7 "OlderSkin$Changes" "sorts" "[I") (List.mem_of_getElem? (i := 2) rfl)
  have w3 := hts (.methodLink RX1 32 arraycopyName) (List.mem_of_getElem? (i := 3) rfl)
  have w4 := hts (.native arraycopyName) (List.mem_of_getElem? (i := 4) rfl)
  have w5 := hts (.static arraycopyName) (List.mem_of_getElem? (i := 5) rfl)
  have w6 := hts (.initialized "java/lang/System") (List.mem_of_getElem? (i := 6) rfl)
  have w7 := hts (.fieldLink RX1 13 "OlderSkin$Changes" "which" "[I") (List.mem_of_getElem? (i := 7) rfl)
  have w8 := hts (.fieldLink RX1 16 "OlderSkin$Changes" "was" "[I") (List.mem_of_getElem? (i := 8) rfl)
  have w9 := hts (.fieldLink RX1 19 "OlderSkin$Changes" "became" "[I") (List.mem_of_getElem? (i := 9) rfl)
  have l0 : (1 : Int32).toInt = 1 := by decide
  have l1 : (0 : Int32).toInt = 0 := by decide
  have i1 : 0 ≤ v1_done.toInt ∧ v1_done.toInt ≤ 40 := i1
  refine lv_aload_n hx hb dX1_dropOldest_0 rfl (lv_at hl 0 rfl) ?_
  refine lv_dup hx hb dX1_dropOldest_1 rfl ?_
  refine va_get (D := D) (ci := 1) (v := .int v1_done) (C := RX1) (T := TX1) (N := 6) hx hb hts w1 hown hK.1 hP 0 rfl rfl 4 (by decide) w0 (fun _ h9 => h9) rfl dX1_dropOldest_2 ?_
  refine lv_iconst (v := 1) hx hb dX1_dropOldest_5 (by decide) ?_
  refine lv_isub hx hb dX1_dropOldest_6 ?_
  refine lv_topi (fun x1 e2 => ?_)
  try have h3 : x1.toInt = v1_done.toInt - (1 : Int32).toInt := ci_sub e2 (by omega) (by omega)
  refine va_put (D := D) (ci := 1) (v := .int x1) (ty := .int) (C := RX1) (T := TX1) (N := 6) hx hb hts w1 tyX1 tyX1_ok nmX1 hown hK.1 hP hD hS 0 rfl rfl 4 (by decide) w0 (fun _ h9 => h9) rfl (by decide +kernel) rfl rfl (Nat.le_of_ble_eq_true rfl) dX1_dropOldest_7 (fun H locs hP hD hS => ?_)
  obtain ⟨hP, hD⟩ : PD D A [O1 a1 r1 x1 v1_kept, (cI κ (r1 0) 40 f1_sorts), (cI κ (r1 1) 40 f1_which), (cI κ (r1 2) 40 f1_was), (cI κ (r1 3) 40 f1_became)] H := ⟨hP, hD⟩
  have h4 : 0 ≤ x1.toInt ∧ x1.toInt ≤ 40 := by omega
  refine lv_aload_n hx hb dX1_dropOldest_10 rfl (lv_at hl 0 rfl) ?_
  refine va_get (D := D) (ci := 1) (v := .ref (r1 0)) (C := RX1) (T := TX1) (N := 6) hx hb hts w1 hown hK.1 hP 0 rfl rfl 0 (by decide) w2 (fun _ h9 => h9) rfl dX1_dropOldest_11 ?_
  refine lv_iconst (v := 1) hx hb dX1_dropOldest_14 (by decide) ?_
  refine lv_aload_n hx hb dX1_dropOldest_15 rfl (lv_at hl 0 rfl) ?_
  refine va_get (D := D) (ci := 1) (v := .ref (r1 0)) (C := RX1) (T := TX1) (N := 6) hx hb hts w1 hown hK.1 hP 0 rfl rfl 0 (by decide) w2 (fun _ h9 => h9) rfl dX1_dropOldest_16 ?_
  refine lv_iconst (v := 0) hx hb dX1_dropOldest_19 (by decide) ?_
  refine lv_aload_n hx hb dX1_dropOldest_20 rfl (lv_at hl 0 rfl) ?_
  refine va_get (D := D) (ci := 1) (v := .int x1) (C := RX1) (T := TX1) (N := 6) hx hb hts w1 hown hK.1 hP 0 rfl rfl 4 (by decide) w0 (fun _ h9 => h9) rfl dX1_dropOldest_21 ?_
  have hc1 := ci_clamp (i := 1) (by omega)
  have hc2 := ci_clamp (i := 0) (by omega)
  have hc3 := ci_clamp (i := x1) (by omega)
  refine va_copyi hx hb (hml.trans hl.1.symm) hown w3 w4 w5 w6 hK.1 hP hD hS 1 1 1 1 rfl rfl rfl rfl rfl (sp := 1) (dp := 0) (n := x1) (fun q => by have q := ci_lt q; omega) (fun q => by have q := ci_lt q; omega) (fun q => by have q := ci_lt q; omega) (by omega) (by omega) (fun i hi => rfl) (Nat.le_of_ble_eq_true rfl) (Nat.le_of_ble_eq_true rfl) dX1_dropOldest_24 (fun H locs hP hD hS => ?_)
  obtain ⟨g5, e6⟩ : ∃ y : Nat → Int32, y = va_cpy f1_sorts f1_sorts (1 : Int32).toNatClampNeg (0 : Int32).toNatClampNeg x1.toNatClampNeg := ⟨_, rfl⟩
  rw [← e6] at hP hD
  obtain ⟨hP, hD⟩ : PD D A [O1 a1 r1 x1 v1_kept, (cI κ (r1 0) 40 g5), (cI κ (r1 1) 40 f1_which), (cI κ (r1 2) 40 f1_was), (cI κ (r1 3) 40 f1_became)] H := ⟨hP, hD⟩
  refine lv_aload_n hx hb dX1_dropOldest_27 rfl (lv_at hl 0 rfl) ?_
  refine va_get (D := D) (ci := 1) (v := .ref (r1 1)) (C := RX1) (T := TX1) (N := 6) hx hb hts w1 hown hK.1 hP 0 rfl rfl 1 (by decide) w7 (fun _ h9 => h9) rfl dX1_dropOldest_28 ?_
  refine lv_iconst (v := 1) hx hb dX1_dropOldest_31 (by decide) ?_
  refine lv_aload_n hx hb dX1_dropOldest_32 rfl (lv_at hl 0 rfl) ?_
  refine va_get (D := D) (ci := 1) (v := .ref (r1 1)) (C := RX1) (T := TX1) (N := 6) hx hb hts w1 hown hK.1 hP 0 rfl rfl 1 (by decide) w7 (fun _ h9 => h9) rfl dX1_dropOldest_33 ?_
  refine lv_iconst (v := 0) hx hb dX1_dropOldest_36 (by decide) ?_
  refine lv_aload_n hx hb dX1_dropOldest_37 rfl (lv_at hl 0 rfl) ?_
  refine va_get (D := D) (ci := 1) (v := .int x1) (C := RX1) (T := TX1) (N := 6) hx hb hts w1 hown hK.1 hP 0 rfl rfl 4 (by decide) w0 (fun _ h9 => h9) rfl dX1_dropOldest_38 ?_
  have hc1 := ci_clamp (i := 1) (by omega)
  have hc2 := ci_clamp (i := 0) (by omega)
  have hc3 := ci_clamp (i := x1) (by omega)
  refine va_copyi hx hb (hml.trans hl.1.symm) hown w3 w4 w5 w6 hK.1 hP hD hS 2 2 1 1 rfl rfl rfl rfl rfl (sp := 1) (dp := 0) (n := x1) (fun q => by have q := ci_lt q; omega) (fun q => by have q := ci_lt q; omega) (fun q => by have q := ci_lt q; omega) (by omega) (by omega) (fun i hi => rfl) (Nat.le_of_ble_eq_true rfl) (Nat.le_of_ble_eq_true rfl) dX1_dropOldest_41 (fun H locs hP hD hS => ?_)
  obtain ⟨g7, e8⟩ : ∃ y : Nat → Int32, y = va_cpy f1_which f1_which (1 : Int32).toNatClampNeg (0 : Int32).toNatClampNeg x1.toNatClampNeg := ⟨_, rfl⟩
  rw [← e8] at hP hD
  obtain ⟨hP, hD⟩ : PD D A [O1 a1 r1 x1 v1_kept, (cI κ (r1 0) 40 g5), (cI κ (r1 1) 40 g7), (cI κ (r1 2) 40 f1_was), (cI κ (r1 3) 40 f1_became)] H := ⟨hP, hD⟩
  refine lv_aload_n hx hb dX1_dropOldest_44 rfl (lv_at hl 0 rfl) ?_
  refine va_get (D := D) (ci := 1) (v := .ref (r1 2)) (C := RX1) (T := TX1) (N := 6) hx hb hts w1 hown hK.1 hP 0 rfl rfl 2 (by decide) w8 (fun _ h9 => h9) rfl dX1_dropOldest_45 ?_
  refine lv_iconst (v := 1) hx hb dX1_dropOldest_48 (by decide) ?_
  refine lv_aload_n hx hb dX1_dropOldest_49 rfl (lv_at hl 0 rfl) ?_
  refine va_get (D := D) (ci := 1) (v := .ref (r1 2)) (C := RX1) (T := TX1) (N := 6) hx hb hts w1 hown hK.1 hP 0 rfl rfl 2 (by decide) w8 (fun _ h9 => h9) rfl dX1_dropOldest_50 ?_
  refine lv_iconst (v := 0) hx hb dX1_dropOldest_53 (by decide) ?_
  refine lv_aload_n hx hb dX1_dropOldest_54 rfl (lv_at hl 0 rfl) ?_
  refine va_get (D := D) (ci := 1) (v := .int x1) (C := RX1) (T := TX1) (N := 6) hx hb hts w1 hown hK.1 hP 0 rfl rfl 4 (by decide) w0 (fun _ h9 => h9) rfl dX1_dropOldest_55 ?_
  have hc1 := ci_clamp (i := 1) (by omega)
  have hc2 := ci_clamp (i := 0) (by omega)
  have hc3 := ci_clamp (i := x1) (by omega)
  refine va_copyi hx hb (hml.trans hl.1.symm) hown w3 w4 w5 w6 hK.1 hP hD hS 3 3 1 1 rfl rfl rfl rfl rfl (sp := 1) (dp := 0) (n := x1) (fun q => by have q := ci_lt q; omega) (fun q => by have q := ci_lt q; omega) (fun q => by have q := ci_lt q; omega) (by omega) (by omega) (fun i hi => rfl) (Nat.le_of_ble_eq_true rfl) (Nat.le_of_ble_eq_true rfl) dX1_dropOldest_58 (fun H locs hP hD hS => ?_)
  obtain ⟨g9, e10⟩ : ∃ y : Nat → Int32, y = va_cpy f1_was f1_was (1 : Int32).toNatClampNeg (0 : Int32).toNatClampNeg x1.toNatClampNeg := ⟨_, rfl⟩
  rw [← e10] at hP hD
  obtain ⟨hP, hD⟩ : PD D A [O1 a1 r1 x1 v1_kept, (cI κ (r1 0) 40 g5), (cI κ (r1 1) 40 g7), (cI κ (r1 2) 40 g9), (cI κ (r1 3) 40 f1_became)] H := ⟨hP, hD⟩
  refine lv_aload_n hx hb dX1_dropOldest_61 rfl (lv_at hl 0 rfl) ?_
  refine va_get (D := D) (ci := 1) (v := .ref (r1 3)) (C := RX1) (T := TX1) (N := 6) hx hb hts w1 hown hK.1 hP 0 rfl rfl 3 (by decide) w9 (fun _ h9 => h9) rfl dX1_dropOldest_62 ?_
  refine lv_iconst (v := 1) hx hb dX1_dropOldest_65 (by decide) ?_
  refine lv_aload_n hx hb dX1_dropOldest_66 rfl (lv_at hl 0 rfl) ?_
  refine va_get (D := D) (ci := 1) (v := .ref (r1 3)) (C := RX1) (T := TX1) (N := 6) hx hb hts w1 hown hK.1 hP 0 rfl rfl 3 (by decide) w9 (fun _ h9 => h9) rfl dX1_dropOldest_67 ?_
  refine lv_iconst (v := 0) hx hb dX1_dropOldest_70 (by decide) ?_
  refine lv_aload_n hx hb dX1_dropOldest_71 rfl (lv_at hl 0 rfl) ?_
  refine va_get (D := D) (ci := 1) (v := .int x1) (C := RX1) (T := TX1) (N := 6) hx hb hts w1 hown hK.1 hP 0 rfl rfl 4 (by decide) w0 (fun _ h9 => h9) rfl dX1_dropOldest_72 ?_
  have hc1 := ci_clamp (i := 1) (by omega)
  have hc2 := ci_clamp (i := 0) (by omega)
  have hc3 := ci_clamp (i := x1) (by omega)
  refine va_copyi hx hb (hml.trans hl.1.symm) hown w3 w4 w5 w6 hK.1 hP hD hS 4 4 1 1 rfl rfl rfl rfl rfl (sp := 1) (dp := 0) (n := x1) (fun q => by have q := ci_lt q; omega) (fun q => by have q := ci_lt q; omega) (fun q => by have q := ci_lt q; omega) (by omega) (by omega) (fun i hi => rfl) (Nat.le_of_ble_eq_true rfl) (Nat.le_of_ble_eq_true rfl) dX1_dropOldest_75 (fun H locs hP hD hS => ?_)
  obtain ⟨g11, e12⟩ : ∃ y : Nat → Int32, y = va_cpy f1_became f1_became (1 : Int32).toNatClampNeg (0 : Int32).toNatClampNeg x1.toNatClampNeg := ⟨_, rfl⟩
  rw [← e12] at hP hD
  obtain ⟨hP, hD⟩ : PD D A [O1 a1 r1 x1 v1_kept, (cI κ (r1 0) 40 g5), (cI κ (r1 1) 40 g7), (cI κ (r1 2) 40 g9), (cI κ (r1 3) 40 g11)] H := ⟨hP, hD⟩
  have hpo : (0 ≤ x1.toInt ∧ x1.toInt ≤ 40) ∧ (x1.toInt = v1_done.toInt - 1) := ⟨h4, (by omega)⟩
  exact ret _ _ _ _ (x1, g5, g7, g9, g11) dX1_dropOldest_78 hpo hP hD hS
set_option maxHeartbeats 4000000 in
set_option maxRecDepth 100000 in
theorem k_X1_add (l : Launch) (D : va_G) (κ : Nat → ClassId) (β : Nat) (a1 : Nat) (r1 : Nat → Nat) (v1_done : Int32) (v1_kept : Int32) (f1_sorts : Nat → Int32) (f1_which : Nat → Int32) (f1_was : Nat → Int32) (f1_became : Nat → Int32) (sz : Nat) (p1 : Int32) (p2 : Int32) (p3 : Int32) (p4 : Int32) (i1 : Rg 0 40 v1_done) (i2 : Rg 0 40 v1_kept) : Met l yX1_add wsX1_add ({ frames := 2, cells := 0, slots := 0, locals := 84 } : Room) (PcK D κ β [O1 a1 r1 v1_done v1_kept, (cI κ (r1 0) 40 f1_sorts), (cI κ (r1 1) 40 f1_which), (cI κ (r1 2) 40 f1_was), (cI κ (r1 3) 40 f1_became)] sz [.ref a1, .int p1, .int p2, .int p3, .int p4]) (QvK D (fun (u : Int32 × Int32 × (Nat → Int32) × (Nat → Int32) × (Nat → Int32) × (Nat → Int32)) => (0 ≤ u.1.toInt ∧ u.1.toInt ≤ 40) ∧ (0 ≤ u.2.1.toInt ∧ u.2.1.toInt ≤ 40)) (fun (u : Int32 × Int32 × (Nat → Int32) × (Nat → Int32) × (Nat → Int32) × (Nat → Int32)) => [O1 a1 r1 u.1 u.2.1, (cI κ (r1 0) 40 u.2.2.1), (cI κ (r1 1) 40 u.2.2.2.1), (cI κ (r1 2) 40 u.2.2.2.2.1), (cI κ (r1 3) 40 u.2.2.2.2.2)]) [O1 a1 r1 v1_done v1_kept, (cI κ (r1 0) 40 f1_sorts), (cI κ (r1 1) 40 f1_which), (cI κ (r1 2) 40 f1_was), (cI κ (r1 3) 40 f1_became)] sz) 0 0 (va_A [O1 a1 r1 v1_done v1_kept, (cI κ (r1 0) 40 f1_sorts), (cI κ (r1 1) 40 f1_which), (cI κ (r1 2) 40 f1_was), (cI κ (r1 3) 40 f1_became)] sz) := by
  refine ofK_v (cc := cX1_add) (maxL := 5) (own := RX1) (by decide) rfl rfl (Nat.le_of_ble_eq_true rfl) ?_
  intro p e s m args below meth c Q A ls hsz hx hb hml hts hown hK hA hAB hP hD hl hname ret
  have hS : va_S A s.heap s.heap [] := va_S.rf
  have hl : lv_has ls 5 [(0, .ref a1), (1, .int p1), (2, .int p2), (3, .int p3), (4, .int p4)] := hl
  have w0 := hts (.fieldLink RX1 22 "OlderSkin$Changes" "done" "I") (List.mem_of_getElem? (i := 1) rfl)
  have w1 := (fun w h => List.mem_cons_of_mem _ (List.mem_append_right _ h) : ∀ w ∈ u_ws RX1 TX1 6, w ∈ wsX1_add)
  have w2 := hts (.fieldLink RX1 7 "OlderSkin$Changes" "sorts" "[I") (List.mem_of_getElem? (i := 2) rfl)
  have w3 := hts (.fieldLink RX1 13 "OlderSkin$Changes" "which" "[I") (List.mem_of_getElem? (i := 3) rfl)
  have w4 := hts (.fieldLink RX1 16 "OlderSkin$Changes" "was" "[I") (List.mem_of_getElem? (i := 4) rfl)
  have w5 := hts (.fieldLink RX1 19 "OlderSkin$Changes" "became" "[I") (List.mem_of_getElem? (i := 5) rfl)
  have w6 := hts (.fieldLink RX1 29 "OlderSkin$Changes" "kept" "I") (List.mem_of_getElem? (i := 6) rfl)
  have l0 : (40 : Int32).toInt = 40 := by decide
  have l1 : (0 : Int32).toInt = 0 := by decide
  have l2 : (1 : Int32).toInt = 1 := by decide
  have i1 : 0 ≤ v1_done.toInt ∧ v1_done.toInt ≤ 40 := i1
  have i2 : 0 ≤ v1_kept.toInt ∧ v1_kept.toInt ≤ 40 := i2
  refine lv_aload_n hx hb dX1_add_0 rfl (lv_at hl 0 rfl) ?_
  refine va_get (D := D) (ci := 1) (v := .int v1_done) (C := RX1) (T := TX1) (N := 6) hx hb hts w1 hown hK.1 hP 0 rfl rfl 4 (by decide) w0 (fun _ h9 => h9) rfl dX1_add_1 ?_
  refine lv_aload_n hx hb dX1_add_4 rfl (lv_at hl 0 rfl) ?_
  refine va_get (D := D) (ci := 1) (v := .ref (r1 0)) (C := RX1) (T := TX1) (N := 6) hx hb hts w1 hown hK.1 hP 0 rfl rfl 0 (by decide) w2 (fun _ h9 => h9) rfl dX1_add_5 ?_
  refine va_alen hx hb hK.1 hP 1 1 rfl rfl (v := 40) rfl dX1_add_8 ?_
  refine lv_icmp_ne (tgt := 16) hx hb dX1_add_9 (by decide) (fun c1 => ?_) (fun c1 => ?_)
  · have c1 := ci_ne c1
    refine lv_aload_n hx hb dX1_add_16 rfl (lv_at hl 0 rfl) ?_
    refine va_get (D := D) (ci := 1) (v := .ref (r1 0)) (C := RX1) (T := TX1) (N := 6) hx hb hts w1 hown hK.1 hP 0 rfl rfl 0 (by decide) w2 (fun _ h9 => h9) rfl dX1_add_17 ?_
    refine lv_aload_n hx hb dX1_add_20 rfl (lv_at hl 0 rfl) ?_
    refine va_get (D := D) (ci := 1) (v := .int v1_done) (C := RX1) (T := TX1) (N := 6) hx hb hts w1 hown hK.1 hP 0 rfl rfl 4 (by decide) w0 (fun _ h9 => h9) rfl dX1_add_21 ?_
    refine lv_iload_n hx hb dX1_add_24 rfl (lv_at hl 1 rfl) ?_
    refine va_iast hx hb hK.1 hP hD hS 1 1 rfl rfl (i := v1_done) (ix (by omega) (by omega)) dX1_add_25 (fun H locs hP hD hS => ?_)
    obtain ⟨g2, e3⟩ : ∃ y : Nat → Int32, y = upd f1_sorts v1_done.toNatClampNeg p1 := ⟨_, rfl⟩
    rw [← e3] at hP hD
    obtain ⟨hP, hD⟩ : PD D A [O1 a1 r1 v1_done v1_kept, (cI κ (r1 0) 40 g2), (cI κ (r1 1) 40 f1_which), (cI κ (r1 2) 40 f1_was), (cI κ (r1 3) 40 f1_became)] H := ⟨hP, hD⟩
    refine lv_aload_n hx hb dX1_add_26 rfl (lv_at hl 0 rfl) ?_
    refine va_get (D := D) (ci := 1) (v := .ref (r1 1)) (C := RX1) (T := TX1) (N := 6) hx hb hts w1 hown hK.1 hP 0 rfl rfl 1 (by decide) w3 (fun _ h9 => h9) rfl dX1_add_27 ?_
    refine lv_aload_n hx hb dX1_add_30 rfl (lv_at hl 0 rfl) ?_
    refine va_get (D := D) (ci := 1) (v := .int v1_done) (C := RX1) (T := TX1) (N := 6) hx hb hts w1 hown hK.1 hP 0 rfl rfl 4 (by decide) w0 (fun _ h9 => h9) rfl dX1_add_31 ?_
    refine lv_iload_n hx hb dX1_add_34 rfl (lv_at hl 2 rfl) ?_
    refine va_iast hx hb hK.1 hP hD hS 2 1 rfl rfl (i := v1_done) (ix (by omega) (by omega)) dX1_add_35 (fun H locs hP hD hS => ?_)
    obtain ⟨g4, e5⟩ : ∃ y : Nat → Int32, y = upd f1_which v1_done.toNatClampNeg p2 := ⟨_, rfl⟩
    rw [← e5] at hP hD
    obtain ⟨hP, hD⟩ : PD D A [O1 a1 r1 v1_done v1_kept, (cI κ (r1 0) 40 g2), (cI κ (r1 1) 40 g4), (cI κ (r1 2) 40 f1_was), (cI κ (r1 3) 40 f1_became)] H := ⟨hP, hD⟩
    refine lv_aload_n hx hb dX1_add_36 rfl (lv_at hl 0 rfl) ?_
    refine va_get (D := D) (ci := 1) (v := .ref (r1 2)) (C := RX1) (T := TX1) (N := 6) hx hb hts w1 hown hK.1 hP 0 rfl rfl 2 (by decide) w4 (fun _ h9 => h9) rfl dX1_add_37 ?_
    refine lv_aload_n hx hb dX1_add_40 rfl (lv_at hl 0 rfl) ?_
    refine va_get (D := D) (ci := 1) (v := .int v1_done) (C := RX1) (T := TX1) (N := 6) hx hb hts w1 hown hK.1 hP 0 rfl rfl 4 (by decide) w0 (fun _ h9 => h9) rfl dX1_add_41 ?_
    refine lv_iload_n hx hb dX1_add_44 rfl (lv_at hl 3 rfl) ?_
    refine va_iast hx hb hK.1 hP hD hS 3 1 rfl rfl (i := v1_done) (ix (by omega) (by omega)) dX1_add_45 (fun H locs hP hD hS => ?_)
    obtain ⟨g6, e7⟩ : ∃ y : Nat → Int32, y = upd f1_was v1_done.toNatClampNeg p3 := ⟨_, rfl⟩
    rw [← e7] at hP hD
    obtain ⟨hP, hD⟩ : PD D A [O1 a1 r1 v1_done v1_kept, (cI κ (r1 0) 40 g2), (cI κ (r1 1) 40 g4), (cI κ (r1 2) 40 g6), (cI κ (r1 3) 40 f1_became)] H := ⟨hP, hD⟩
    refine lv_aload_n hx hb dX1_add_46 rfl (lv_at hl 0 rfl) ?_
    refine va_get (D := D) (ci := 1) (v := .ref (r1 3)) (C := RX1) (T := TX1) (N := 6) hx hb hts w1 hown hK.1 hP 0 rfl rfl 3 (by decide) w5 (fun _ h9 => h9) rfl dX1_add_47 ?_
    refine lv_aload_n hx hb dX1_add_50 rfl (lv_at hl 0 rfl) ?_
    refine va_get (D := D) (ci := 1) (v := .int v1_done) (C := RX1) (T := TX1) (N := 6) hx hb hts w1 hown hK.1 hP 0 rfl rfl 4 (by decide) w0 (fun _ h9 => h9) rfl dX1_add_51 ?_
    refine lv_iload hx hb dX1_add_54 (lv_at hl 4 rfl) ?_
    refine va_iast hx hb hK.1 hP hD hS 4 1 rfl rfl (i := v1_done) (ix (by omega) (by omega)) dX1_add_56 (fun H locs hP hD hS => ?_)
    obtain ⟨g8, e9⟩ : ∃ y : Nat → Int32, y = upd f1_became v1_done.toNatClampNeg p4 := ⟨_, rfl⟩
    rw [← e9] at hP hD
    obtain ⟨hP, hD⟩ : PD D A [O1 a1 r1 v1_done v1_kept, (cI κ (r1 0) 40 g2), (cI κ (r1 1) 40 g4), (cI κ (r1 2) 40 g6), (cI κ (r1 3) 40 g8)] H := ⟨hP, hD⟩
    refine lv_aload_n hx hb dX1_add_57 rfl (lv_at hl 0 rfl) ?_
    refine lv_dup hx hb dX1_add_58 rfl ?_
    refine va_get (D := D) (ci := 1) (v := .int v1_done) (C := RX1) (T := TX1) (N := 6) hx hb hts w1 hown hK.1 hP 0 rfl rfl 4 (by decide) w0 (fun _ h9 => h9) rfl dX1_add_59 ?_
    refine lv_iconst (v := 1) hx hb dX1_add_62 (by decide) ?_
    refine lv_iadd hx hb dX1_add_63 ?_
    refine lv_topi (fun x10 e11 => ?_)
    try have h12 : x10.toInt = v1_done.toInt + (1 : Int32).toInt := ci_add e11 (by omega) (by omega)
    refine va_put (D := D) (ci := 1) (v := .int x10) (ty := .int) (C := RX1) (T := TX1) (N := 6) hx hb hts w1 tyX1 tyX1_ok nmX1 hown hK.1 hP hD hS 0 rfl rfl 4 (by decide) w0 (fun _ h9 => h9) rfl (by decide +kernel) rfl rfl (Nat.le_of_ble_eq_true rfl) dX1_add_64 (fun H locs hP hD hS => ?_)
    obtain ⟨hP, hD⟩ : PD D A [O1 a1 r1 x10 v1_kept, (cI κ (r1 0) 40 g2), (cI κ (r1 1) 40 g4), (cI κ (r1 2) 40 g6), (cI κ (r1 3) 40 g8)] H := ⟨hP, hD⟩
    have h13 : 0 ≤ x10.toInt ∧ x10.toInt ≤ 40 := by omega
    refine lv_aload_n hx hb dX1_add_67 rfl (lv_at hl 0 rfl) ?_
    refine lv_aload_n hx hb dX1_add_68 rfl (lv_at hl 0 rfl) ?_
    refine va_get (D := D) (ci := 1) (v := .int x10) (C := RX1) (T := TX1) (N := 6) hx hb hts w1 hown hK.1 hP 0 rfl rfl 4 (by decide) w0 (fun _ h9 => h9) rfl dX1_add_69 ?_
    refine va_put (D := D) (ci := 1) (v := .int x10) (ty := .int) (C := RX1) (T := TX1) (N := 6) hx hb hts w1 tyX1 tyX1_ok nmX1 hown hK.1 hP hD hS 0 rfl rfl 5 (by decide) w6 (fun _ h9 => h9) rfl (by decide +kernel) rfl rfl (Nat.le_of_ble_eq_true rfl) dX1_add_72 (fun H locs hP hD hS => ?_)
    obtain ⟨hP, hD⟩ : PD D A [O1 a1 r1 x10 x10, (cI κ (r1 0) 40 g2), (cI κ (r1 1) 40 g4), (cI κ (r1 2) 40 g6), (cI κ (r1 3) 40 g8)] H := ⟨hP, hD⟩
    have hpo : (0 ≤ x10.toInt ∧ x10.toInt ≤ 40) ∧ (0 ≤ x10.toInt ∧ x10.toInt ≤ 40) := ⟨h13, h13⟩
    exact ret _ _ _ _ (x10, x10, g2, g4, g6, g8) dX1_add_75 hpo hP hD hS
  have c1 := ci_eq c1
  refine lv_aload_n hx hb dX1_add_12 rfl (lv_at hl 0 rfl) ?_
  refine kcm_v hA hAB hP hD hS [true, true, true, true, true] rfl (fun _ => rfl) (fun hPc hDc => va_runV (As := []) (rest := []) ⟨hx, hb, hml, hown, hts⟩ (k_X1_dropOldest l D κ β a1 r1 v1_done v1_kept f1_sorts f1_which f1_was f1_became s.heap.size i1 i2 (by omega)) (cwV 0 hts gX1_add_X1_dropOldest rfl rfl rfl (by decide +kernel) ⟨Nat.le_of_ble_eq_true rfl, Nat.le_of_ble_eq_true rfl⟩) (pk_V hK hS hAB hPc hDc 0 (ci := 1) rfl rfl rfl) rfl rfl hl.1 rfl (lv_room (Nat.le_of_ble_eq_true rfl)) dX1_add_13 ⟨Nat.le_of_ble_eq_true rfl, Nat.le_of_ble_eq_true rfl⟩) (fun u19 H locs hw hPD hS => ?_)
  obtain ⟨x14, g15, g16, g17, g18⟩ := u19
  obtain ⟨h20, h21⟩ : (0 ≤ x14.toInt ∧ x14.toInt ≤ 40) ∧ (x14.toInt = v1_done.toInt - 1) := hw
  obtain ⟨hP, hD⟩ : PD D A [O1 a1 r1 x14 v1_kept, (cI κ (r1 0) 40 g15), (cI κ (r1 1) 40 g16), (cI κ (r1 2) 40 g17), (cI κ (r1 3) 40 g18)] H := hPD
  refine lv_aload_n hx hb dX1_add_16 rfl (lv_at hl 0 rfl) ?_
  refine va_get (D := D) (ci := 1) (v := .ref (r1 0)) (C := RX1) (T := TX1) (N := 6) hx hb hts w1 hown hK.1 hP 0 rfl rfl 0 (by decide) w2 (fun _ h9 => h9) rfl dX1_add_17 ?_
  refine lv_aload_n hx hb dX1_add_20 rfl (lv_at hl 0 rfl) ?_
  refine va_get (D := D) (ci := 1) (v := .int x14) (C := RX1) (T := TX1) (N := 6) hx hb hts w1 hown hK.1 hP 0 rfl rfl 4 (by decide) w0 (fun _ h9 => h9) rfl dX1_add_21 ?_
  refine lv_iload_n hx hb dX1_add_24 rfl (lv_at hl 1 rfl) ?_
  refine va_iast hx hb hK.1 hP hD hS 1 1 rfl rfl (i := x14) (ix (by omega) (by omega)) dX1_add_25 (fun H locs hP hD hS => ?_)
  obtain ⟨g22, e23⟩ : ∃ y : Nat → Int32, y = upd g15 x14.toNatClampNeg p1 := ⟨_, rfl⟩
  rw [← e23] at hP hD
  obtain ⟨hP, hD⟩ : PD D A [O1 a1 r1 x14 v1_kept, (cI κ (r1 0) 40 g22), (cI κ (r1 1) 40 g16), (cI κ (r1 2) 40 g17), (cI κ (r1 3) 40 g18)] H := ⟨hP, hD⟩
  refine lv_aload_n hx hb dX1_add_26 rfl (lv_at hl 0 rfl) ?_
  refine va_get (D := D) (ci := 1) (v := .ref (r1 1)) (C := RX1) (T := TX1) (N := 6) hx hb hts w1 hown hK.1 hP 0 rfl rfl 1 (by decide) w3 (fun _ h9 => h9) rfl dX1_add_27 ?_
  refine lv_aload_n hx hb dX1_add_30 rfl (lv_at hl 0 rfl) ?_
  refine va_get (D := D) (ci := 1) (v := .int x14) (C := RX1) (T := TX1) (N := 6) hx hb hts w1 hown hK.1 hP 0 rfl rfl 4 (by decide) w0 (fun _ h9 => h9) rfl dX1_add_31 ?_
  refine lv_iload_n hx hb dX1_add_34 rfl (lv_at hl 2 rfl) ?_
  refine va_iast hx hb hK.1 hP hD hS 2 1 rfl rfl (i := x14) (ix (by omega) (by omega)) dX1_add_35 (fun H locs hP hD hS => ?_)
  obtain ⟨g24, e25⟩ : ∃ y : Nat → Int32, y = upd g16 x14.toNatClampNeg p2 := ⟨_, rfl⟩
  rw [← e25] at hP hD
  obtain ⟨hP, hD⟩ : PD D A [O1 a1 r1 x14 v1_kept, (cI κ (r1 0) 40 g22), (cI κ (r1 1) 40 g24), (cI κ (r1 2) 40 g17), (cI κ (r1 3) 40 g18)] H := ⟨hP, hD⟩
  refine lv_aload_n hx hb dX1_add_36 rfl (lv_at hl 0 rfl) ?_
  refine va_get (D := D) (ci := 1) (v := .ref (r1 2)) (C := RX1) (T := TX1) (N := 6) hx hb hts w1 hown hK.1 hP 0 rfl rfl 2 (by decide) w4 (fun _ h9 => h9) rfl dX1_add_37 ?_
  refine lv_aload_n hx hb dX1_add_40 rfl (lv_at hl 0 rfl) ?_
  refine va_get (D := D) (ci := 1) (v := .int x14) (C := RX1) (T := TX1) (N := 6) hx hb hts w1 hown hK.1 hP 0 rfl rfl 4 (by decide) w0 (fun _ h9 => h9) rfl dX1_add_41 ?_
  refine lv_iload_n hx hb dX1_add_44 rfl (lv_at hl 3 rfl) ?_
  refine va_iast hx hb hK.1 hP hD hS 3 1 rfl rfl (i := x14) (ix (by omega) (by omega)) dX1_add_45 (fun H locs hP hD hS => ?_)
  obtain ⟨g26, e27⟩ : ∃ y : Nat → Int32, y = upd g17 x14.toNatClampNeg p3 := ⟨_, rfl⟩
  rw [← e27] at hP hD
  obtain ⟨hP, hD⟩ : PD D A [O1 a1 r1 x14 v1_kept, (cI κ (r1 0) 40 g22), (cI κ (r1 1) 40 g24), (cI κ (r1 2) 40 g26), (cI κ (r1 3) 40 g18)] H := ⟨hP, hD⟩
  refine lv_aload_n hx hb dX1_add_46 rfl (lv_at hl 0 rfl) ?_
  refine va_get (D := D) (ci := 1) (v := .ref (r1 3)) (C := RX1) (T := TX1) (N := 6) hx hb hts w1 hown hK.1 hP 0 rfl rfl 3 (by decide) w5 (fun _ h9 => h9) rfl dX1_add_47 ?_
  refine lv_aload_n hx hb dX1_add_50 rfl (lv_at hl 0 rfl) ?_
  refine va_get (D := D) (ci := 1) (v := .int x14) (C := RX1) (T := TX1) (N := 6) hx hb hts w1 hown hK.1 hP 0 rfl rfl 4 (by decide) w0 (fun _ h9 => h9) rfl dX1_add_51 ?_
  refine lv_iload hx hb dX1_add_54 (lv_at hl 4 rfl) ?_
  refine va_iast hx hb hK.1 hP hD hS 4 1 rfl rfl (i := x14) (ix (by omega) (by omega)) dX1_add_56 (fun H locs hP hD hS => ?_)
  obtain ⟨g28, e29⟩ : ∃ y : Nat → Int32, y = upd g18 x14.toNatClampNeg p4 := ⟨_, rfl⟩
  rw [← e29] at hP hD
  obtain ⟨hP, hD⟩ : PD D A [O1 a1 r1 x14 v1_kept, (cI κ (r1 0) 40 g22), (cI κ (r1 1) 40 g24), (cI κ (r1 2) 40 g26), (cI κ (r1 3) 40 g28)] H := ⟨hP, hD⟩
  refine lv_aload_n hx hb dX1_add_57 rfl (lv_at hl 0 rfl) ?_
  refine lv_dup hx hb dX1_add_58 rfl ?_
  refine va_get (D := D) (ci := 1) (v := .int x14) (C := RX1) (T := TX1) (N := 6) hx hb hts w1 hown hK.1 hP 0 rfl rfl 4 (by decide) w0 (fun _ h9 => h9) rfl dX1_add_59 ?_
  refine lv_iconst (v := 1) hx hb dX1_add_62 (by decide) ?_
  refine lv_iadd hx hb dX1_add_63 ?_
  refine lv_topi (fun x30 e31 => ?_)
  try have h32 : x30.toInt = x14.toInt + (1 : Int32).toInt := ci_add e31 (by omega) (by omega)
  refine va_put (D := D) (ci := 1) (v := .int x30) (ty := .int) (C := RX1) (T := TX1) (N := 6) hx hb hts w1 tyX1 tyX1_ok nmX1 hown hK.1 hP hD hS 0 rfl rfl 4 (by decide) w0 (fun _ h9 => h9) rfl (by decide +kernel) rfl rfl (Nat.le_of_ble_eq_true rfl) dX1_add_64 (fun H locs hP hD hS => ?_)
  obtain ⟨hP, hD⟩ : PD D A [O1 a1 r1 x30 v1_kept, (cI κ (r1 0) 40 g22), (cI κ (r1 1) 40 g24), (cI κ (r1 2) 40 g26), (cI κ (r1 3) 40 g28)] H := ⟨hP, hD⟩
  have h33 : 0 ≤ x30.toInt ∧ x30.toInt ≤ 40 := by omega
  refine lv_aload_n hx hb dX1_add_67 rfl (lv_at hl 0 rfl) ?_
  refine lv_aload_n hx hb dX1_add_68 rfl (lv_at hl 0 rfl) ?_
  refine va_get (D := D) (ci := 1) (v := .int x30) (C := RX1) (T := TX1) (N := 6) hx hb hts w1 hown hK.1 hP 0 rfl rfl 4 (by decide) w0 (fun _ h9 => h9) rfl dX1_add_69 ?_
  refine va_put (D := D) (ci := 1) (v := .int x30) (ty := .int) (C := RX1) (T := TX1) (N := 6) hx hb hts w1 tyX1 tyX1_ok nmX1 hown hK.1 hP hD hS 0 rfl rfl 5 (by decide) w6 (fun _ h9 => h9) rfl (by decide +kernel) rfl rfl (Nat.le_of_ble_eq_true rfl) dX1_add_72 (fun H locs hP hD hS => ?_)
  obtain ⟨hP, hD⟩ : PD D A [O1 a1 r1 x30 x30, (cI κ (r1 0) 40 g22), (cI κ (r1 1) 40 g24), (cI κ (r1 2) 40 g26), (cI κ (r1 3) 40 g28)] H := ⟨hP, hD⟩
  have hpo : (0 ≤ x30.toInt ∧ x30.toInt ≤ 40) ∧ (0 ≤ x30.toInt ∧ x30.toInt ≤ 40) := ⟨h33, h33⟩
  exact ret _ _ _ _ (x30, x30, g22, g24, g26, g28) dX1_add_75 hpo hP hD hS
set_option maxHeartbeats 4000000 in
set_option maxRecDepth 100000 in
theorem k_X1_stepBack (l : Launch) (D : va_G) (κ : Nat → ClassId) (β : Nat) (a1 : Nat) (r1 : Nat → Nat) (v1_done : Int32) (v1_kept : Int32) (sz : Nat) (i1 : Rg 0 40 v1_done) (i2 : Rg 0 40 v1_kept) : Met l yX1_stepBack wsX1_stepBack ({ frames := 1, cells := 0, slots := 0, locals := 21 } : Room) (PcK D κ β [O1 a1 r1 v1_done v1_kept] sz [.ref a1]) (QiK D (fun (r : Int32) (u : Int32) => (0 ≤ u.toInt ∧ u.toInt ≤ 40) ∧ (0 ≤ r.toInt ∧ r.toInt ≤ 39)) (fun (u : Int32) => [O1 a1 r1 u v1_kept]) [O1 a1 r1 v1_done v1_kept] sz) 0 0 (va_A [O1 a1 r1 v1_done v1_kept] sz) := by
  refine ofK_i (cc := cX1_stepBack) (maxL := 1) (own := RX1) (by decide) rfl rfl (Nat.le_of_ble_eq_true rfl) ?_
  intro p e s m args below meth c Q A ls hsz hx hb hml hts hown hK hA hAB hP hD hl ret
  have hS : va_S A s.heap s.heap [] := va_S.rf
  have hl : lv_has ls 1 [(0, .ref a1)] := hl
  have w0 := hts (.fieldLink RX1 22 "OlderSkin$Changes" "done" "I") (List.mem_of_getElem? (i := 1) rfl)
  have w1 := (fun w h => List.mem_cons_of_mem _ (List.mem_append_right _ h) : ∀ w ∈ u_ws RX1 TX1 6, w ∈ wsX1_stepBack)
  have w2 := hts (.methodLink RX1 38 Lib.Math.max.name) (List.mem_of_getElem? (i := 2) rfl)
  have w3 := hts (.static Lib.Math.max.name) (List.mem_of_getElem? (i := 3) rfl)
  have w4 := hts (.initialized "java/lang/Math") (List.mem_of_getElem? (i := 4) rfl)
  have w5 := hts (.code Lib.Math.max.name Lib.Math.max.code 2 (some .int)) (List.mem_of_getElem? (i := 5) rfl)
  have l0 : (1 : Int32).toInt = 1 := by decide
  have l1 : (0 : Int32).toInt = 0 := by decide
  have i1 : 0 ≤ v1_done.toInt ∧ v1_done.toInt ≤ 40 := i1
  refine lv_aload_n hx hb dX1_stepBack_0 rfl (lv_at hl 0 rfl) ?_
  refine lv_aload_n hx hb dX1_stepBack_1 rfl (lv_at hl 0 rfl) ?_
  refine va_get (D := D) (ci := 1) (v := .int v1_done) (C := RX1) (T := TX1) (N := 6) hx hb hts w1 hown hK.1 hP 0 rfl rfl 4 (by decide) w0 (fun _ h9 => h9) rfl dX1_stepBack_2 ?_
  refine lv_iconst (v := 1) hx hb dX1_stepBack_5 (by decide) ?_
  refine lv_isub hx hb dX1_stepBack_6 ?_
  refine lv_topi (fun x1 e2 => ?_)
  try have h3 : x1.toInt = v1_done.toInt - (1 : Int32).toInt := ci_sub e2 (by omega) (by omega)
  refine lv_iconst (v := 0) hx hb dX1_stepBack_7 (by decide) ?_
  refine va_mmax hx hb (hml.trans hl.1.symm) hown w2 w3 w4 w5 (Nat.le_of_ble_eq_true rfl) (Nat.le_of_ble_eq_true rfl) (Nat.le_of_ble_eq_true rfl) (Nat.le_of_ble_eq_true rfl) dX1_stepBack_8 ?_
  refine lv_topi (fun x4 e5 => ?_)
  have h6 := ci_max e5
  refine va_put (D := D) (ci := 1) (v := .int x4) (ty := .int) (C := RX1) (T := TX1) (N := 6) hx hb hts w1 tyX1 tyX1_ok nmX1 hown hK.1 hP hD hS 0 rfl rfl 4 (by decide) w0 (fun _ h9 => h9) rfl (by decide +kernel) rfl rfl (Nat.le_of_ble_eq_true rfl) dX1_stepBack_11 (fun H locs hP hD hS => ?_)
  obtain ⟨hP, hD⟩ : PD D A [O1 a1 r1 x4 v1_kept] H := ⟨hP, hD⟩
  have h7 : 0 ≤ x4.toInt ∧ x4.toInt ≤ 40 := by omega
  refine lv_aload_n hx hb dX1_stepBack_14 rfl (lv_at hl 0 rfl) ?_
  refine va_get (D := D) (ci := 1) (v := .int x4) (C := RX1) (T := TX1) (N := 6) hx hb hts w1 hown hK.1 hP 0 rfl rfl 4 (by decide) w0 (fun _ h9 => h9) rfl dX1_stepBack_15 ?_
  have hpo : (0 ≤ x4.toInt ∧ x4.toInt ≤ 40) ∧ (0 ≤ x4.toInt ∧ x4.toInt ≤ 39) := ⟨h7, (by omega)⟩
  exact ret _ _ _ _ x4 x4 dX1_stepBack_18 hpo hP hD hS
set_option maxHeartbeats 4000000 in
set_option maxRecDepth 100000 in
theorem k_X1_stepOn (l : Launch) (D : va_G) (κ : Nat → ClassId) (β : Nat) (a1 : Nat) (r1 : Nat → Nat) (v1_done : Int32) (v1_kept : Int32) (f1_sorts : Nat → Int32) (sz : Nat) (i1 : Rg 0 40 v1_done) (i2 : Rg 0 40 v1_kept) : Met l yX1_stepOn wsX1_stepOn ({ frames := 1, cells := 0, slots := 0, locals := 21 } : Room) (PcK D κ β [O1 a1 r1 v1_done v1_kept, (cI κ (r1 0) 40 f1_sorts)] sz [.ref a1]) (QiK D (fun (r : Int32) (u : Int32) => (0 ≤ u.toInt ∧ u.toInt ≤ 40) ∧ (0 ≤ r.toInt ∧ r.toInt ≤ 39)) (fun (u : Int32) => [O1 a1 r1 u v1_kept, (cI κ (r1 0) 40 f1_sorts)]) [O1 a1 r1 v1_done v1_kept, (cI κ (r1 0) 40 f1_sorts)] sz) 0 0 (va_A [O1 a1 r1 v1_done v1_kept, (cI κ (r1 0) 40 f1_sorts)] sz) := by
  refine ofK_i (cc := cX1_stepOn) (maxL := 2) (own := RX1) (by decide) rfl rfl (Nat.le_of_ble_eq_true rfl) ?_
  intro p e s m args below meth c Q A ls hsz hx hb hml hts hown hK hA hAB hP hD hl ret
  have hS : va_S A s.heap s.heap [] := va_S.rf
  have hl : lv_has ls 2 [(0, .ref a1)] := hl
  have w0 := hts (.fieldLink RX1 22 "OlderSkin$Changes" "done" "I") (List.mem_of_getElem? (i := 1) rfl)
  have w1 := (fun w h => List.mem_cons_of_mem _ (List.mem_append_right _ h) : ∀ w ∈ u_ws RX1 TX1 6, w ∈ wsX1_stepOn)
  have w2 := hts (.fieldLink RX1 7 "OlderSkin$Changes" "sorts" "[I") (List.mem_of_getElem? (i := 2) rfl)
  have w3 := hts (.methodLink RX1 44 Lib.Math.min.name) (List.mem_of_getElem? (i := 3) rfl)
  have w4 := hts (.static Lib.Math.min.name) (List.mem_of_getElem? (i := 4) rfl)
  have w5 := hts (.initialized "java/lang/Math") (List.mem_of_getElem? (i := 5) rfl)
  have w6 := hts (.code Lib.Math.min.name Lib.Math.min.code 2 (some .int)) (List.mem_of_getElem? (i := 6) rfl)
  have l0 : (40 : Int32).toInt = 40 := by decide
  have l1 : (1 : Int32).toInt = 1 := by decide
  have i1 : 0 ≤ v1_done.toInt ∧ v1_done.toInt ≤ 40 := i1
  refine lv_aload_n hx hb dX1_stepOn_0 rfl (lv_at hl 0 rfl) ?_
  refine va_get (D := D) (ci := 1) (v := .int v1_done) (C := RX1) (T := TX1) (N := 6) hx hb hts w1 hown hK.1 hP 0 rfl rfl 4 (by decide) w0 (fun _ h9 => h9) rfl dX1_stepOn_1 ?_
  refine lv_aload_n hx hb dX1_stepOn_4 rfl (lv_at hl 0 rfl) ?_
  refine va_get (D := D) (ci := 1) (v := .ref (r1 0)) (C := RX1) (T := TX1) (N := 6) hx hb hts w1 hown hK.1 hP 0 rfl rfl 0 (by decide) w2 (fun _ h9 => h9) rfl dX1_stepOn_5 ?_
  refine va_alen hx hb hK.1 hP 1 1 rfl rfl (v := 40) rfl dX1_stepOn_8 ?_
  refine lv_iconst (v := 1) hx hb dX1_stepOn_9 (by decide) ?_
  refine lv_isub hx hb dX1_stepOn_10 ?_
  refine lv_topi (fun x1 e2 => ?_)
  try have h3 : x1.toInt = (40 : Int32).toInt - (1 : Int32).toInt := ci_sub e2 (by omega) (by omega)
  refine va_mmin hx hb (hml.trans hl.1.symm) hown w3 w4 w5 w6 (Nat.le_of_ble_eq_true rfl) (Nat.le_of_ble_eq_true rfl) (Nat.le_of_ble_eq_true rfl) (Nat.le_of_ble_eq_true rfl) dX1_stepOn_11 ?_
  refine lv_topi (fun x4 e5 => ?_)
  have h6 := ci_min e5
  refine lv_istore_n (lv' := [(1, .int x4), (0, .ref a1)]) hx hb dX1_stepOn_14 rfl hl (by decide) rfl (fun ls hl => ?_)
  refine lv_aload_n hx hb dX1_stepOn_15 rfl (lv_at hl 1 rfl) ?_
  refine lv_iload_n hx hb dX1_stepOn_16 rfl (lv_at hl 0 rfl) ?_
  refine lv_iconst (v := 1) hx hb dX1_stepOn_17 (by decide) ?_
  refine lv_iadd hx hb dX1_stepOn_18 ?_
  refine lv_topi (fun x7 e8 => ?_)
  try have h9 : x7.toInt = x4.toInt + (1 : Int32).toInt := ci_add e8 (by omega) (by omega)
  refine va_put (D := D) (ci := 1) (v := .int x7) (ty := .int) (C := RX1) (T := TX1) (N := 6) hx hb hts w1 tyX1 tyX1_ok nmX1 hown hK.1 hP hD hS 0 rfl rfl 4 (by decide) w0 (fun _ h9 => h9) rfl (by decide +kernel) rfl rfl (Nat.le_of_ble_eq_true rfl) dX1_stepOn_19 (fun H locs hP hD hS => ?_)
  obtain ⟨hP, hD⟩ : PD D A [O1 a1 r1 x7 v1_kept, (cI κ (r1 0) 40 f1_sorts)] H := ⟨hP, hD⟩
  have h10 : 0 ≤ x7.toInt ∧ x7.toInt ≤ 40 := by omega
  refine lv_iload_n hx hb dX1_stepOn_22 rfl (lv_at hl 0 rfl) ?_
  have hpo : (0 ≤ x7.toInt ∧ x7.toInt ≤ 40) ∧ (0 ≤ x4.toInt ∧ x4.toInt ≤ 39) := ⟨h10, (by omega)⟩
  exact ret _ _ _ _ x4 x7 dX1_stepOn_23 hpo hP hD hS
