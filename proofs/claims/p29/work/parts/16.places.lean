set_option maxHeartbeats 4000000 in
set_option maxRecDepth 100000 in
theorem k_X6_add (l : Launch) (D : va_G) (κ : Nat → ClassId) (β : Nat) (a6 : Nat) (r6 : Nat → Nat) (v6_count : Int32) (f6_known : Nat → Int32) (f6_truly : Nat → Int32) (f6_drawnAt : Nat → Int32) (sz : Nat) (p1 : Int32) (p2 : Int32) (p3 : Int32) (i1 : Rg 0 20 v6_count) : Met l yX6_add wsX6_add ({ frames := 0, cells := 0, slots := 0, locals := 0 } : Room) (PcK D κ β [O6 a6 r6 v6_count, (cI κ (r6 0) 20 f6_known), (cI κ (r6 1) 20 f6_truly), (cI κ (r6 2) 20 f6_drawnAt)] sz [.ref a6, .int p1, .int p2, .int p3]) (QiK D (fun (r : Int32) (u : Int32 × (Nat → Int32) × (Nat → Int32) × (Nat → Int32)) => (0 ≤ u.1.toInt ∧ u.1.toInt ≤ 20) ∧ ((v6_count.toInt = 20 ∧ r.toInt = -3 ∧ u.1.toInt = v6_count.toInt) ∨ (v6_count.toInt < 20 ∧ r.toInt = v6_count.toInt ∧ u.1.toInt = v6_count.toInt + 1))) (fun (u : Int32 × (Nat → Int32) × (Nat → Int32) × (Nat → Int32)) => [O6 a6 r6 u.1, (cI κ (r6 0) 20 u.2.1), (cI κ (r6 1) 20 u.2.2.1), (cI κ (r6 2) 20 u.2.2.2)]) [O6 a6 r6 v6_count, (cI κ (r6 0) 20 f6_known), (cI κ (r6 1) 20 f6_truly), (cI κ (r6 2) 20 f6_drawnAt)] sz) 0 0 (va_A [O6 a6 r6 v6_count, (cI κ (r6 0) 20 f6_known), (cI κ (r6 1) 20 f6_truly), (cI κ (r6 2) 20 f6_drawnAt)] sz) := by
  refine ofK_i (cc := cX6_add) (maxL := 4) (own := RX6) (by decide) rfl rfl (Nat.le_of_ble_eq_true rfl) ?_
  intro p e s m args below meth c Q A ls hsz hx hb hml hts hown hK hA hAB hP hD hl ret
  have hS : va_S A s.heap s.heap [] := va_S.rf
  have hl : lv_has ls 4 [(0, .ref a6), (1, .int p1), (2, .int p2), (3, .int p3)] := hl
  have w0 := hts (.fieldLink RX6 21 "OlderSkin$Places" "count" "I") (List.mem_of_getElem? (i := 1) rfl)
  have w1 := (fun w h => List.mem_cons_of_mem _ (List.mem_append_right _ h) : ∀ w ∈ u_ws RX6 TX6 4, w ∈ wsX6_add)
  have w2 := hts (.fieldLink RX6 9 "OlderSkin$Places" "known" "[I") (List.mem_of_getElem? (i := 2) rfl)
  have w3 := hts (.fieldLink RX6 15 "OlderSkin$Places" "truly" "[I") (List.mem_of_getElem? (i := 3) rfl)
  have w4 := hts (.fieldLink RX6 18 "OlderSkin$Places" "drawnAt" "[I") (List.mem_of_getElem? (i := 4) rfl)
  have l0 : (20 : Int32).toInt = 20 := by decide
  have l1 : (0 : Int32).toInt = 0 := by decide
  have l2 : (1 : Int32).toInt = 1 := by decide
  have l3 : ((-3) : Int32).toInt = -3 := by decide
  have i1 : 0 ≤ v6_count.toInt ∧ v6_count.toInt ≤ 20 := i1
  refine lv_aload_n hx hb dX6_add_0 rfl (lv_at hl 0 rfl) ?_
  refine va_get (D := D) (ci := 6) (v := .int v6_count) (C := RX6) (T := TX6) (N := 4) hx hb hts w1 hown hK.1 hP 0 rfl rfl 3 (by decide) w0 (fun _ h9 => h9) rfl dX6_add_1 ?_
  refine lv_aload_n hx hb dX6_add_4 rfl (lv_at hl 0 rfl) ?_
  refine va_get (D := D) (ci := 6) (v := .ref (r6 0)) (C := RX6) (T := TX6) (N := 4) hx hb hts w1 hown hK.1 hP 0 rfl rfl 0 (by decide) w2 (fun _ h9 => h9) rfl dX6_add_5 ?_
  refine va_alen hx hb hK.1 hP 1 1 rfl rfl (v := 20) rfl dX6_add_8 ?_
  refine lv_icmp_ne (tgt := 15) hx hb dX6_add_9 (by decide) (fun c1 => ?_) (fun c1 => ?_)
  · have c1 := ci_ne c1
    refine lv_aload_n hx hb dX6_add_15 rfl (lv_at hl 0 rfl) ?_
    refine va_get (D := D) (ci := 6) (v := .ref (r6 0)) (C := RX6) (T := TX6) (N := 4) hx hb hts w1 hown hK.1 hP 0 rfl rfl 0 (by decide) w2 (fun _ h9 => h9) rfl dX6_add_16 ?_
    refine lv_aload_n hx hb dX6_add_19 rfl (lv_at hl 0 rfl) ?_
    refine va_get (D := D) (ci := 6) (v := .int v6_count) (C := RX6) (T := TX6) (N := 4) hx hb hts w1 hown hK.1 hP 0 rfl rfl 3 (by decide) w0 (fun _ h9 => h9) rfl dX6_add_20 ?_
    refine lv_iload_n hx hb dX6_add_23 rfl (lv_at hl 1 rfl) ?_
    refine va_iast hx hb hK.1 hP hD hS 1 1 rfl rfl (i := v6_count) (ix (by omega) (by omega)) dX6_add_24 (fun H locs hP hD hS => ?_)
    obtain ⟨g2, e3⟩ : ∃ y : Nat → Int32, y = upd f6_known v6_count.toNatClampNeg p1 := ⟨_, rfl⟩
    rw [← e3] at hP hD
    obtain ⟨hP, hD⟩ : PD D A [O6 a6 r6 v6_count, (cI κ (r6 0) 20 g2), (cI κ (r6 1) 20 f6_truly), (cI κ (r6 2) 20 f6_drawnAt)] H := ⟨hP, hD⟩
    refine lv_aload_n hx hb dX6_add_25 rfl (lv_at hl 0 rfl) ?_
    refine va_get (D := D) (ci := 6) (v := .ref (r6 1)) (C := RX6) (T := TX6) (N := 4) hx hb hts w1 hown hK.1 hP 0 rfl rfl 1 (by decide) w3 (fun _ h9 => h9) rfl dX6_add_26 ?_
    refine lv_aload_n hx hb dX6_add_29 rfl (lv_at hl 0 rfl) ?_
    refine va_get (D := D) (ci := 6) (v := .int v6_count) (C := RX6) (T := TX6) (N := 4) hx hb hts w1 hown hK.1 hP 0 rfl rfl 3 (by decide) w0 (fun _ h9 => h9) rfl dX6_add_30 ?_
    refine lv_iload_n hx hb dX6_add_33 rfl (lv_at hl 2 rfl) ?_
    refine va_iast hx hb hK.1 hP hD hS 2 1 rfl rfl (i := v6_count) (ix (by omega) (by omega)) dX6_add_34 (fun H locs hP hD hS => ?_)
    obtain ⟨g4, e5⟩ : ∃ y : Nat → Int32, y = upd f6_truly v6_count.toNatClampNeg p2 := ⟨_, rfl⟩
    rw [← e5] at hP hD
    obtain ⟨hP, hD⟩ : PD D A [O6 a6 r6 v6_count, (cI κ (r6 0) 20 g2), (cI κ (r6 1) 20 g4), (cI κ (r6 2) 20 f6_drawnAt)] H := ⟨hP, hD⟩
    refine lv_aload_n hx hb dX6_add_35 rfl (lv_at hl 0 rfl) ?_
    refine va_get (D := D) (ci := 6) (v := .ref (r6 2)) (C := RX6) (T := TX6) (N := 4) hx hb hts w1 hown hK.1 hP 0 rfl rfl 2 (by decide) w4 (fun _ h9 => h9) rfl dX6_add_36 ?_
    refine lv_aload_n hx hb dX6_add_39 rfl (lv_at hl 0 rfl) ?_
    refine va_get (D := D) (ci := 6) (v := .int v6_count) (C := RX6) (T := TX6) (N := 4) hx hb hts w1 hown hK.1 hP 0 rfl rfl 3 (by decide) w0 (fun _ h9 => h9) rfl dX6_add_40 ?_
    refine lv_iload_n hx hb dX6_add_43 rfl (lv_at hl 3 rfl) ?_
    refine va_iast hx hb hK.1 hP hD hS 3 1 rfl rfl (i := v6_count) (ix (by omega) (by omega)) dX6_add_44 (fun H locs hP hD hS => ?_)
    obtain ⟨g6, e7⟩ : ∃ y : Nat → Int32, y = upd f6_drawnAt v6_count.toNatClampNeg p3 := ⟨_, rfl⟩
    rw [← e7] at hP hD
    obtain ⟨hP, hD⟩ : PD D A [O6 a6 r6 v6_count, (cI κ (r6 0) 20 g2), (cI κ (r6 1) 20 g4), (cI κ (r6 2) 20 g6)] H := ⟨hP, hD⟩
    refine lv_aload_n hx hb dX6_add_45 rfl (lv_at hl 0 rfl) ?_
    refine lv_dup hx hb dX6_add_46 rfl ?_
    refine va_get (D := D) (ci := 6) (v := .int v6_count) (C := RX6) (T := TX6) (N := 4) hx hb hts w1 hown hK.1 hP 0 rfl rfl 3 (by decide) w0 (fun _ h9 => h9) rfl dX6_add_47 ?_
    refine lv_dup_x1 hx hb dX6_add_50 rfl rfl ?_
    refine lv_iconst (v := 1) hx hb dX6_add_51 (by decide) ?_
    refine lv_iadd hx hb dX6_add_52 ?_
    refine lv_topi (fun x8 e9 => ?_)
    try have h10 : x8.toInt = v6_count.toInt + (1 : Int32).toInt := ci_add e9 (by omega) (by omega)
    refine va_put (D := D) (ci := 6) (v := .int x8) (ty := .int) (C := RX6) (T := TX6) (N := 4) hx hb hts w1 tyX6 tyX6_ok nmX6 hown hK.1 hP hD hS 0 rfl rfl 3 (by decide) w0 (fun _ h9 => h9) rfl (by decide +kernel) rfl rfl (Nat.le_of_ble_eq_true rfl) dX6_add_53 (fun H locs hP hD hS => ?_)
    obtain ⟨hP, hD⟩ : PD D A [O6 a6 r6 x8, (cI κ (r6 0) 20 g2), (cI κ (r6 1) 20 g4), (cI κ (r6 2) 20 g6)] H := ⟨hP, hD⟩
    have h11 : 0 ≤ x8.toInt ∧ x8.toInt ≤ 20 := by omega
    have hpo : (0 ≤ x8.toInt ∧ x8.toInt ≤ 20) ∧ ((v6_count.toInt = 20 ∧ v6_count.toInt = -3 ∧ x8.toInt = v6_count.toInt) ∨ (v6_count.toInt < 20 ∧ v6_count.toInt = v6_count.toInt ∧ x8.toInt = v6_count.toInt + 1)) := ⟨h11, (by omega)⟩
    exact ret _ _ _ _ v6_count (x8, g2, g4, g6) dX6_add_56 hpo hP hD hS
  have c1 := ci_eq c1
  refine lv_bipush (v := (-3)) hx hb dX6_add_12 (by decide) ?_
  have hpo : (0 ≤ v6_count.toInt ∧ v6_count.toInt ≤ 20) ∧ ((v6_count.toInt = 20 ∧ ((-3) : Int32).toInt = -3 ∧ v6_count.toInt = v6_count.toInt) ∨ (v6_count.toInt < 20 ∧ ((-3) : Int32).toInt = v6_count.toInt ∧ v6_count.toInt = v6_count.toInt + 1)) := ⟨i1, (by omega)⟩
  exact ret _ _ _ _ (-3) (v6_count, f6_known, f6_truly, f6_drawnAt) dX6_add_14 hpo hP hD hS
set_option maxHeartbeats 4000000 in
set_option maxRecDepth 100000 in
theorem k_X6_offBy (l : Launch) (D : va_G) (κ : Nat → ClassId) (β : Nat) (a6 : Nat) (r6 : Nat → Nat) (v6_count : Int32) (f6_truly : Nat → Int32) (sz : Nat) (p1 : Int32) (p2 : Int32) (p3 : Int32) (i1 : Rg 0 20 v6_count) (i2 : 0 ≤ p1.toInt ∧ p1.toInt ≤ 19) : Met l yX6_offBy wsX6_offBy ({ frames := 1, cells := 0, slots := 0, locals := 21 } : Room) (PcK D κ β [O6 a6 r6 v6_count, (cI κ (r6 1) 20 f6_truly)] sz [.ref a6, .int p1, .int p2, .int p3]) (QiK D (fun (r : Int32) (u : Unit) => True) (fun (u : Unit) => [O6 a6 r6 v6_count, (cI κ (r6 1) 20 f6_truly)]) [O6 a6 r6 v6_count, (cI κ (r6 1) 20 f6_truly)] sz) 0 0 (va_A [O6 a6 r6 v6_count, (cI κ (r6 1) 20 f6_truly)] sz) := by
  refine ofK_i (cc := cX6_offBy) (maxL := 4) (own := RX6) (by decide) rfl rfl (Nat.le_of_ble_eq_true rfl) ?_
  intro p e s m args below meth c Q A ls hsz hx hb hml hts hown hK hA hAB hP hD hl ret
  have hS : va_S A s.heap s.heap [] := va_S.rf
  have hl : lv_has ls 4 [(0, .ref a6), (1, .int p1), (2, .int p2), (3, .int p3)] := hl
  have w0 := hts (.fieldLink RX6 15 "OlderSkin$Places" "truly" "[I") (List.mem_of_getElem? (i := 1) rfl)
  have w1 := (fun w h => List.mem_cons_of_mem _ (List.mem_append_right _ h) : ∀ w ∈ u_ws RX6 TX6 4, w ∈ wsX6_offBy)
  have w2 := hts (.methodLink RX6 33 Lib.Math.abs.name) (List.mem_of_getElem? (i := 2) rfl)
  have w3 := hts (.static Lib.Math.abs.name) (List.mem_of_getElem? (i := 3) rfl)
  have w4 := hts (.initialized "java/lang/Math") (List.mem_of_getElem? (i := 4) rfl)
  have w5 := hts (.code Lib.Math.abs.name Lib.Math.abs.code 1 (some .int)) (List.mem_of_getElem? (i := 5) rfl)
  have l0 : (100 : Int32).toInt = 100 := by decide
  refine lv_aload_n hx hb dX6_offBy_0 rfl (lv_at hl 0 rfl) ?_
  refine va_get (D := D) (ci := 6) (v := .ref (r6 1)) (C := RX6) (T := TX6) (N := 4) hx hb hts w1 hown hK.1 hP 0 rfl rfl 1 (by decide) w0 (fun _ h9 => h9) rfl dX6_offBy_1 ?_
  refine lv_iload_n hx hb dX6_offBy_4 rfl (lv_at hl 1 rfl) ?_
  refine va_iald hx hb hK.1 hP 1 1 rfl rfl (i := p1) (ix (by omega) (by omega)) dX6_offBy_5 ?_
  refine lv_topi (fun x1 e2 => ?_)
  refine lv_bipush (v := 100) hx hb dX6_offBy_6 (by decide) ?_
  refine lv_idiv hx hb dX6_offBy_8 (by decide) ?_
  refine lv_topi (fun x3 e4 => ?_)
  have h5 := ci_divL (n := 100) (by decide) (by decide) e4
  refine lv_iload_n hx hb dX6_offBy_9 rfl (lv_at hl 2 rfl) ?_
  refine lv_isub hx hb dX6_offBy_10 ?_
  refine lv_topi (fun x6 e7 => ?_)
  try have h8 : x6.toInt = x3.toInt - p2.toInt := ci_sub e7 (by omega) (by omega)
  refine va_mabs hx hb (hml.trans hl.1.symm) hown w2 w3 w4 w5 (Nat.le_of_ble_eq_true rfl) (Nat.le_of_ble_eq_true rfl) (Nat.le_of_ble_eq_true rfl) (Nat.le_of_ble_eq_true rfl) dX6_offBy_11 ?_
  refine lv_topi (fun x9 e10 => ?_)
  refine lv_aload_n hx hb dX6_offBy_14 rfl (lv_at hl 0 rfl) ?_
  refine va_get (D := D) (ci := 6) (v := .ref (r6 1)) (C := RX6) (T := TX6) (N := 4) hx hb hts w1 hown hK.1 hP 0 rfl rfl 1 (by decide) w0 (fun _ h9 => h9) rfl dX6_offBy_15 ?_
  refine lv_iload_n hx hb dX6_offBy_18 rfl (lv_at hl 1 rfl) ?_
  refine va_iald hx hb hK.1 hP 1 1 rfl rfl (i := p1) (ix (by omega) (by omega)) dX6_offBy_19 ?_
  refine lv_topi (fun x11 e12 => ?_)
  refine lv_bipush (v := 100) hx hb dX6_offBy_20 (by decide) ?_
  refine lv_irem hx hb dX6_offBy_22 (by decide) ?_
  refine lv_topi (fun x13 e14 => ?_)
  have h15 := ci_remL (n := 100) (by decide) (by decide) e14
  refine lv_iload_n hx hb dX6_offBy_23 rfl (lv_at hl 3 rfl) ?_
  refine lv_isub hx hb dX6_offBy_24 ?_
  refine lv_topi (fun x16 e17 => ?_)
  try have h18 : x16.toInt = x13.toInt - p3.toInt := ci_sub e17 (by omega) (by omega)
  refine va_mabs hx hb (hml.trans hl.1.symm) hown w2 w3 w4 w5 (Nat.le_of_ble_eq_true rfl) (Nat.le_of_ble_eq_true rfl) (Nat.le_of_ble_eq_true rfl) (Nat.le_of_ble_eq_true rfl) dX6_offBy_25 ?_
  refine lv_topi (fun x19 e20 => ?_)
  refine lv_iadd hx hb dX6_offBy_28 ?_
  refine lv_topi (fun x21 e22 => ?_)
  try have h23 : x21.toInt = x9.toInt + x19.toInt := ci_add e22 (by omega) (by omega)
  exact ret _ _ _ _ x21 () dX6_offBy_29 trivial hP hD hS
set_option maxHeartbeats 4000000 in
set_option maxRecDepth 100000 in
theorem k_X6_lateOnes (l : Launch) (D : va_G) (κ : Nat → ClassId) (β : Nat) (a6 : Nat) (r6 : Nat → Nat) (v6_count : Int32) (f6_known : Nat → Int32) (sz : Nat) (p1 : Int32) (i1 : Rg 0 20 v6_count) : Met l yX6_lateOnes wsX6_lateOnes ({ frames := 1, cells := 0, slots := 0, locals := 20 } : Room) (PcK D κ β [O6 a6 r6 v6_count, (cI κ (r6 0) 20 f6_known)] sz [.ref a6, .int p1]) (QiK D (fun (r : Int32) (u : Unit) => True) (fun (u : Unit) => [O6 a6 r6 v6_count, (cI κ (r6 0) 20 f6_known)]) [O6 a6 r6 v6_count, (cI κ (r6 0) 20 f6_known)] sz) 0 0 (va_A [O6 a6 r6 v6_count, (cI κ (r6 0) 20 f6_known)] sz) := by
  refine ofK_i (cc := cX6_lateOnes) (maxL := 4) (own := RX6) (by decide) rfl rfl (Nat.le_of_ble_eq_true rfl) ?_
  intro p e s m args below meth c Q A ls hsz hx hb hml hts hown hK hA hAB hP hD hl ret
  have hS : va_S A s.heap s.heap [] := va_S.rf
  have hl : lv_has ls 4 [(0, .ref a6), (1, .int p1)] := hl
  have w0 := hts (.fieldLink RX6 21 "OlderSkin$Places" "count" "I") (List.mem_of_getElem? (i := 1) rfl)
  have w1 := (fun w h => List.mem_cons_of_mem _ (List.mem_append_right _ h) : ∀ w ∈ u_ws RX6 TX6 4, w ∈ wsX6_lateOnes)
  have w2 := hts (.fieldLink RX6 9 "OlderSkin$Places" "known" "[I") (List.mem_of_getElem? (i := 2) rfl)
  have w3 := hts (.initialized RX11) (List.mem_of_getElem? (i := 4) rfl)
  have w4 := hts (.static yX11_asBit) (List.mem_of_getElem? (i := 3) rfl)
  have w5 := hK.2.1 ("OlderSkin$Places", 25, ⟨"OlderSkin", "asBit", "(Z)I"⟩, "OlderSkin") (by decide +kernel)
  have l0 : (0 : Int32).toInt = 0 := by decide
  have l1 : (1 : Int32).toInt = 1 := by decide
  have i1 : 0 ≤ v6_count.toInt ∧ v6_count.toInt ≤ 20 := i1
  refine lv_iconst (v := 0) hx hb dX6_lateOnes_0 (by decide) ?_
  refine lv_istore_n (lv' := [(2, .int 0), (0, .ref a6), (1, .int p1)]) hx hb dX6_lateOnes_1 rfl hl (by decide) rfl (fun ls hl => ?_)
  refine lv_iconst (v := 0) hx hb dX6_lateOnes_2 (by decide) ?_
  refine lv_istore_n (lv' := [(3, .int 0), (2, .int 0), (0, .ref a6), (1, .int p1)]) hx hb dX6_lateOnes_3 rfl hl (by decide) rfl (fun ls hl => ?_)
  have lp4 : ∀ (n4 : Nat) (k1 : Int32) (k2 : Int32), (0 ≤ k1.toInt) → (v6_count.toInt - k1.toInt).toNat < n4 → ∀ (H : Heap) (locs : List Loc), va_P D vwCl [O6 a6 r6 v6_count, (cI κ (r6 0) 20 f6_known)] H → va_D A [O6 a6 r6 v6_count, (cI κ (r6 0) 20 f6_known)] → va_S A s.heap H locs → ∀ ls : Array Slot, lv_has ls 4 [(3, .int k1), (2, .int k2), (0, .ref a6), (1, .int p1)] → W p l e ({ frames := 1, cells := 0, slots := 0, locals := 20 } : Room) s m args below meth c H locs 0 0 Q (F0 m 4 ls []) := by
    intro n4
    induction n4 with
    | zero =>
      intro k1 k2 h3 m4
      exact absurd m4 (Nat.not_lt_zero _)
    | succ n4 ih4 =>
      intro k1 k2 h3 m4 H locs hP hD hS ls hl
      refine lv_iload_n hx hb dX6_lateOnes_4 rfl (lv_at hl 0 rfl) ?_
      refine lv_aload_n hx hb dX6_lateOnes_5 rfl (lv_at hl 2 rfl) ?_
      refine va_get (D := D) (ci := 6) (v := .int v6_count) (C := RX6) (T := TX6) (N := 4) hx hb hts w1 hown hK.1 hP 0 rfl rfl 3 (by decide) w0 (fun _ h9 => h9) rfl dX6_lateOnes_6 ?_
      refine lv_icmp_ge (tgt := 39) hx hb dX6_lateOnes_9 (by decide) (fun c5 => ?_) (fun c5 => ?_)
      · have c5 := ci_le c5
        refine lv_iload_n hx hb dX6_lateOnes_39 rfl (lv_at hl 1 rfl) ?_
        exact ret _ _ _ _ k2 () dX6_lateOnes_40 trivial hP hD hS
      have c5 := ci_nle c5
      refine lv_iload_n hx hb dX6_lateOnes_12 rfl (lv_at hl 1 rfl) ?_
      refine lv_aload_n hx hb dX6_lateOnes_13 rfl (lv_at hl 2 rfl) ?_
      refine va_get (D := D) (ci := 6) (v := .ref (r6 0)) (C := RX6) (T := TX6) (N := 4) hx hb hts w1 hown hK.1 hP 0 rfl rfl 0 (by decide) w2 (fun _ h9 => h9) rfl dX6_lateOnes_14 ?_
      refine lv_iload_n hx hb dX6_lateOnes_17 rfl (lv_at hl 0 rfl) ?_
      refine va_iald hx hb hK.1 hP 1 1 rfl rfl (i := k1) (ix (by omega) (by omega)) dX6_lateOnes_18 ?_
      refine lv_topi (fun x6 e7 => ?_)
      refine lv_iload_n hx hb dX6_lateOnes_19 rfl (lv_at hl 3 rfl) ?_
      refine lv_icmp_le (tgt := 27) hx hb dX6_lateOnes_20 (by decide) (fun c8 => ?_) (fun c8 => ?_)
      · have c8 := ci_le c8
        refine lv_iconst (v := 0) hx hb dX6_lateOnes_27 (by decide) ?_
        refine kcm_i hA hAB hP hD hS [false, false] rfl (fun _ => rfl) (fun hPc hDc => va_runSN (As := [.int 0]) (rest := [.int k2]) ⟨hx, hb, hml, hown, hts⟩ (k_X11_asBit l D κ β H.size 0) ⟨va_cnB 1 hts gX6_lateOnes_X11_asBit_n25 rfl rfl rfl w5 w3 (by decide +kernel) ⟨Nat.le_of_ble_eq_true rfl, Nat.le_of_ble_eq_true rfl⟩, w4, trivial⟩ (pk_S hK hS hAB hPc hDc) rfl rfl hl.1 rfl (lv_room (Nat.le_of_ble_eq_true rfl)) dX6_lateOnes_28 ⟨Nat.le_of_ble_eq_true rfl, Nat.le_of_ble_eq_true rfl⟩) (fun x9 u10 H locs hw hPD hS => ?_)
        have h11 : (x9.toInt = 1 ∧ (0 : Int32).toInt ≠ 0) ∨ (x9.toInt = 0 ∧ (0 : Int32).toInt = 0) := hw
        obtain ⟨hP, hD⟩ : PD D A [O6 a6 r6 v6_count, (cI κ (r6 0) 20 f6_known)] H := hPD
        refine lv_iadd hx hb dX6_lateOnes_31 ?_
        refine lv_topi (fun x12 e13 => ?_)
        try have h14 : x12.toInt = k2.toInt + x9.toInt := ci_add e13 (by omega) (by omega)
        refine lv_istore_n (lv' := [(2, .int x12), (3, .int k1), (0, .ref a6), (1, .int p1)]) hx hb dX6_lateOnes_32 rfl hl (by decide) rfl (fun ls hl => ?_)
        obtain ⟨x15, e16⟩ : ∃ y : Int32, y = k1 + 1 := ⟨_, rfl⟩
        refine lv_iinc (v := x15) (lv' := [(3, .int x15), (2, .int x12), (0, .ref a6), (1, .int p1)]) hx hb dX6_lateOnes_33 hl (k := 1) rfl (by rw [e16]; rfl) (by decide) rfl (fun ls hl => ?_)
        try have h17 : x15.toInt = k1.toInt + (1 : Int32).toInt := ci_add e16 (by omega) (by omega)
        refine lv_goto (tgt := 4) hx hb dX6_lateOnes_36 (by decide) ?_
        exact ih4 x15 x12 (by omega) (by omega) _ _ hP hD hS _ hl
      have c8 := ci_nle c8
      refine lv_iconst (v := 1) hx hb dX6_lateOnes_23 (by decide) ?_
      refine lv_goto (tgt := 28) hx hb dX6_lateOnes_24 (by decide) ?_
      refine kcm_i hA hAB hP hD hS [false, false] rfl (fun _ => rfl) (fun hPc hDc => va_runSN (As := [.int 1]) (rest := [.int k2]) ⟨hx, hb, hml, hown, hts⟩ (k_X11_asBit l D κ β H.size 1) ⟨va_cnB 1 hts gX6_lateOnes_X11_asBit_n25 rfl rfl rfl w5 w3 (by decide +kernel) ⟨Nat.le_of_ble_eq_true rfl, Nat.le_of_ble_eq_true rfl⟩, w4, trivial⟩ (pk_S hK hS hAB hPc hDc) rfl rfl hl.1 rfl (lv_room (Nat.le_of_ble_eq_true rfl)) dX6_lateOnes_28 ⟨Nat.le_of_ble_eq_true rfl, Nat.le_of_ble_eq_true rfl⟩) (fun x18 u19 H locs hw hPD hS => ?_)
      have h20 : (x18.toInt = 1 ∧ (1 : Int32).toInt ≠ 0) ∨ (x18.toInt = 0 ∧ (1 : Int32).toInt = 0) := hw
      obtain ⟨hP, hD⟩ : PD D A [O6 a6 r6 v6_count, (cI κ (r6 0) 20 f6_known)] H := hPD
      refine lv_iadd hx hb dX6_lateOnes_31 ?_
      refine lv_topi (fun x21 e22 => ?_)
      try have h23 : x21.toInt = k2.toInt + x18.toInt := ci_add e22 (by omega) (by omega)
      refine lv_istore_n (lv' := [(2, .int x21), (3, .int k1), (0, .ref a6), (1, .int p1)]) hx hb dX6_lateOnes_32 rfl hl (by decide) rfl (fun ls hl => ?_)
      obtain ⟨x24, e25⟩ : ∃ y : Int32, y = k1 + 1 := ⟨_, rfl⟩
      refine lv_iinc (v := x24) (lv' := [(3, .int x24), (2, .int x21), (0, .ref a6), (1, .int p1)]) hx hb dX6_lateOnes_33 hl (k := 1) rfl (by rw [e25]; rfl) (by decide) rfl (fun ls hl => ?_)
      try have h26 : x24.toInt = k1.toInt + (1 : Int32).toInt := ci_add e25 (by omega) (by omega)
      refine lv_goto (tgt := 4) hx hb dX6_lateOnes_36 (by decide) ?_
      exact ih4 x24 x21 (by omega) (by omega) _ _ hP hD hS _ hl
  exact lp4 ((v6_count.toInt - (0 : Int32).toInt).toNat + 1) 0 0 (by omega) (by omega) _ _ hP hD hS _ hl
set_option maxHeartbeats 4000000 in
set_option maxRecDepth 100000 in
theorem k_X6_lateOff (l : Launch) (D : va_G) (κ : Nat → ClassId) (β : Nat) (a6 : Nat) (r6 : Nat → Nat) (v6_count : Int32) (f6_known : Nat → Int32) (f6_truly : Nat → Int32) (f6_drawnAt : Nat → Int32) (sz : Nat) (p1 : Int32) (i1 : Rg 0 20 v6_count) : Met l yX6_lateOff wsX6_lateOff ({ frames := 2, cells := 0, slots := 0, locals := 44 } : Room) (PcK D κ β [O6 a6 r6 v6_count, (cI κ (r6 0) 20 f6_known), (cI κ (r6 1) 20 f6_truly), (cI κ (r6 2) 20 f6_drawnAt)] sz [.ref a6, .int p1]) (QiK D (fun (r : Int32) (u : Unit) => True) (fun (u : Unit) => [O6 a6 r6 v6_count, (cI κ (r6 0) 20 f6_known), (cI κ (r6 1) 20 f6_truly), (cI κ (r6 2) 20 f6_drawnAt)]) [O6 a6 r6 v6_count, (cI κ (r6 0) 20 f6_known), (cI κ (r6 1) 20 f6_truly), (cI κ (r6 2) 20 f6_drawnAt)] sz) 0 0 (va_A [O6 a6 r6 v6_count, (cI κ (r6 0) 20 f6_known), (cI κ (r6 1) 20 f6_truly), (cI κ (r6 2) 20 f6_drawnAt)] sz) := by
  refine ofK_i (cc := cX6_lateOff) (maxL := 4) (own := RX6) (by decide) rfl rfl (Nat.le_of_ble_eq_true rfl) ?_
  intro p e s m args below meth c Q A ls hsz hx hb hml hts hown hK hA hAB hP hD hl ret
  have hS : va_S A s.heap s.heap [] := va_S.rf
  have hl : lv_has ls 4 [(0, .ref a6), (1, .int p1)] := hl
  have w0 := hts (.fieldLink RX6 21 "OlderSkin$Places" "count" "I") (List.mem_of_getElem? (i := 1) rfl)
  have w1 := (fun w h => List.mem_cons_of_mem _ (List.mem_append_right _ h) : ∀ w ∈ u_ws RX6 TX6 4, w ∈ wsX6_lateOff)
  have w2 := hts (.fieldLink RX6 9 "OlderSkin$Places" "known" "[I") (List.mem_of_getElem? (i := 2) rfl)
  have w3 := hts (.fieldLink RX6 18 "OlderSkin$Places" "drawnAt" "[I") (List.mem_of_getElem? (i := 3) rfl)
  have l0 : (0 : Int32).toInt = 0 := by decide
  have l1 : (1 : Int32).toInt = 1 := by decide
  have l2 : (100 : Int32).toInt = 100 := by decide
  have i1 : 0 ≤ v6_count.toInt ∧ v6_count.toInt ≤ 20 := i1
  refine lv_iconst (v := 0) hx hb dX6_lateOff_0 (by decide) ?_
  refine lv_istore_n (lv' := [(2, .int 0), (0, .ref a6), (1, .int p1)]) hx hb dX6_lateOff_1 rfl hl (by decide) rfl (fun ls hl => ?_)
  refine lv_iconst (v := 0) hx hb dX6_lateOff_2 (by decide) ?_
  refine lv_istore_n (lv' := [(3, .int 0), (2, .int 0), (0, .ref a6), (1, .int p1)]) hx hb dX6_lateOff_3 rfl hl (by decide) rfl (fun ls hl => ?_)
  have lp4 : ∀ (n4 : Nat) (k1 : Int32) (k2 : Int32), (0 ≤ k1.toInt) → (v6_count.toInt - k1.toInt).toNat < n4 → ∀ (H : Heap) (locs : List Loc), va_P D vwCl [O6 a6 r6 v6_count, (cI κ (r6 0) 20 f6_known), (cI κ (r6 1) 20 f6_truly), (cI κ (r6 2) 20 f6_drawnAt)] H → va_D A [O6 a6 r6 v6_count, (cI κ (r6 0) 20 f6_known), (cI κ (r6 1) 20 f6_truly), (cI κ (r6 2) 20 f6_drawnAt)] → va_S A s.heap H locs → ∀ ls : Array Slot, lv_has ls 4 [(3, .int k1), (2, .int k2), (0, .ref a6), (1, .int p1)] → W p l e ({ frames := 2, cells := 0, slots := 0, locals := 44 } : Room) s m args below meth c H locs 0 0 Q (F0 m 4 ls []) := by
    intro n4
    induction n4 with
    | zero =>
      intro k1 k2 h3 m4
      exact absurd m4 (Nat.not_lt_zero _)
    | succ n4 ih4 =>
      intro k1 k2 h3 m4 H locs hP hD hS ls hl
      refine lv_iload_n hx hb dX6_lateOff_4 rfl (lv_at hl 0 rfl) ?_
      refine lv_aload_n hx hb dX6_lateOff_5 rfl (lv_at hl 2 rfl) ?_
      refine va_get (D := D) (ci := 6) (v := .int v6_count) (C := RX6) (T := TX6) (N := 4) hx hb hts w1 hown hK.1 hP 0 rfl rfl 3 (by decide) w0 (fun _ h9 => h9) rfl dX6_lateOff_6 ?_
      refine lv_icmp_ge (tgt := 54) hx hb dX6_lateOff_9 (by decide) (fun c5 => ?_) (fun c5 => ?_)
      · have c5 := ci_le c5
        refine lv_iload_n hx hb dX6_lateOff_54 rfl (lv_at hl 1 rfl) ?_
        exact ret _ _ _ _ k2 () dX6_lateOff_55 trivial hP hD hS
      have c5 := ci_nle c5
      refine lv_aload_n hx hb dX6_lateOff_12 rfl (lv_at hl 2 rfl) ?_
      refine va_get (D := D) (ci := 6) (v := .ref (r6 0)) (C := RX6) (T := TX6) (N := 4) hx hb hts w1 hown hK.1 hP 0 rfl rfl 0 (by decide) w2 (fun _ h9 => h9) rfl dX6_lateOff_13 ?_
      refine lv_iload_n hx hb dX6_lateOff_16 rfl (lv_at hl 0 rfl) ?_
      refine va_iald hx hb hK.1 hP 1 1 rfl rfl (i := k1) (ix (by omega) (by omega)) dX6_lateOff_17 ?_
      refine lv_topi (fun x6 e7 => ?_)
      refine lv_iload_n hx hb dX6_lateOff_18 rfl (lv_at hl 3 rfl) ?_
      refine lv_icmp_le (tgt := 48) hx hb dX6_lateOff_19 (by decide) (fun c8 => ?_) (fun c8 => ?_)
      · have c8 := ci_le c8
        obtain ⟨x9, e10⟩ : ∃ y : Int32, y = k1 + 1 := ⟨_, rfl⟩
        refine lv_iinc (v := x9) (lv' := [(3, .int x9), (2, .int k2), (0, .ref a6), (1, .int p1)]) hx hb dX6_lateOff_48 hl (k := 0) rfl (by rw [e10]; rfl) (by decide) rfl (fun ls hl => ?_)
        try have h11 : x9.toInt = k1.toInt + (1 : Int32).toInt := ci_add e10 (by omega) (by omega)
        refine lv_goto (tgt := 4) hx hb dX6_lateOff_51 (by decide) ?_
        exact ih4 x9 k2 (by omega) (by omega) _ _ hP hD hS _ hl
      have c8 := ci_nle c8
      refine lv_iload_n hx hb dX6_lateOff_22 rfl (lv_at hl 1 rfl) ?_
      refine lv_aload_n hx hb dX6_lateOff_23 rfl (lv_at hl 2 rfl) ?_
      refine lv_iload_n hx hb dX6_lateOff_24 rfl (lv_at hl 0 rfl) ?_
      refine lv_aload_n hx hb dX6_lateOff_25 rfl (lv_at hl 2 rfl) ?_
      refine va_get (D := D) (ci := 6) (v := .ref (r6 2)) (C := RX6) (T := TX6) (N := 4) hx hb hts w1 hown hK.1 hP 0 rfl rfl 2 (by decide) w3 (fun _ h9 => h9) rfl dX6_lateOff_26 ?_
      refine lv_iload_n hx hb dX6_lateOff_29 rfl (lv_at hl 0 rfl) ?_
      refine va_iald hx hb hK.1 hP 3 1 rfl rfl (i := k1) (ix (by omega) (by omega)) dX6_lateOff_30 ?_
      refine lv_topi (fun x12 e13 => ?_)
      refine lv_bipush (v := 100) hx hb dX6_lateOff_31 (by decide) ?_
      refine lv_idiv hx hb dX6_lateOff_33 (by decide) ?_
      refine lv_topi (fun x14 e15 => ?_)
      have h16 := ci_divL (n := 100) (by decide) (by decide) e15
      refine lv_aload_n hx hb dX6_lateOff_34 rfl (lv_at hl 2 rfl) ?_
      refine va_get (D := D) (ci := 6) (v := .ref (r6 2)) (C := RX6) (T := TX6) (N := 4) hx hb hts w1 hown hK.1 hP 0 rfl rfl 2 (by decide) w3 (fun _ h9 => h9) rfl dX6_lateOff_35 ?_
      refine lv_iload_n hx hb dX6_lateOff_38 rfl (lv_at hl 0 rfl) ?_
      refine va_iald hx hb hK.1 hP 3 1 rfl rfl (i := k1) (ix (by omega) (by omega)) dX6_lateOff_39 ?_
      refine lv_topi (fun x17 e18 => ?_)
      refine lv_bipush (v := 100) hx hb dX6_lateOff_40 (by decide) ?_
      refine lv_irem hx hb dX6_lateOff_42 (by decide) ?_
      refine lv_topi (fun x19 e20 => ?_)
      have h21 := ci_remL (n := 100) (by decide) (by decide) e20
      refine kcm_i hA hAB hP hD hS [true, false, true, false] rfl (fun _ => rfl) (fun hPc hDc => va_runV (As := [.int k1, .int x14, .int x19]) (rest := [.int k2]) ⟨hx, hb, hml, hown, hts⟩ (k_X6_offBy l D κ β a6 r6 v6_count f6_truly H.size k1 x14 x19 i1 (by omega)) (cwV 3 hts gX6_lateOff_X6_offBy rfl rfl rfl (by decide +kernel) ⟨Nat.le_of_ble_eq_true rfl, Nat.le_of_ble_eq_true rfl⟩) (pk_V hK hS hAB hPc hDc 0 (ci := 6) rfl rfl rfl) rfl rfl hl.1 rfl (lv_room (Nat.le_of_ble_eq_true rfl)) dX6_lateOff_43 ⟨Nat.le_of_ble_eq_true rfl, Nat.le_of_ble_eq_true rfl⟩) (fun x22 u23 H locs hw hPD hS => ?_)
      obtain ⟨hP, hD⟩ : PD D A [O6 a6 r6 v6_count, (cI κ (r6 0) 20 f6_known), (cI κ (r6 1) 20 f6_truly), (cI κ (r6 2) 20 f6_drawnAt)] H := hPD
      refine lv_iadd hx hb dX6_lateOff_46 ?_
      refine lv_topi (fun x24 e25 => ?_)
      try have h26 : x24.toInt = k2.toInt + x22.toInt := ci_add e25 (by omega) (by omega)
      refine lv_istore_n (lv' := [(2, .int x24), (3, .int k1), (0, .ref a6), (1, .int p1)]) hx hb dX6_lateOff_47 rfl hl (by decide) rfl (fun ls hl => ?_)
      obtain ⟨x27, e28⟩ : ∃ y : Int32, y = k1 + 1 := ⟨_, rfl⟩
      refine lv_iinc (v := x27) (lv' := [(3, .int x27), (2, .int x24), (0, .ref a6), (1, .int p1)]) hx hb dX6_lateOff_48 hl (k := 1) rfl (by rw [e28]; rfl) (by decide) rfl (fun ls hl => ?_)
      try have h29 : x27.toInt = k1.toInt + (1 : Int32).toInt := ci_add e28 (by omega) (by omega)
      refine lv_goto (tgt := 4) hx hb dX6_lateOff_51 (by decide) ?_
      exact ih4 x27 x24 (by omega) (by omega) _ _ hP hD hS _ hl
  exact lp4 ((v6_count.toInt - (0 : Int32).toInt).toNat + 1) 0 0 (by omega) (by omega) _ _ hP hD hS _ hl
set_option maxHeartbeats 4000000 in
set_option maxRecDepth 100000 in
theorem k_X6_guessedAsWell (l : Launch) (D : va_G) (κ : Nat → ClassId) (β : Nat) (a6 : Nat) (r6 : Nat → Nat) (v6_count : Int32) (f6_known : Nat → Int32) (f6_truly : Nat → Int32) (f6_drawnAt : Nat → Int32) (sz : Nat) (p1 : Int32) (p2 : Int32) (p3 : Int32) (i1 : Rg 0 20 v6_count) : Met l yX6_guessedAsWell wsX6_guessedAsWell ({ frames := 3, cells := 0, slots := 0, locals := 67 } : Room) (PcK D κ β [O6 a6 r6 v6_count, (cI κ (r6 0) 20 f6_known), (cI κ (r6 1) 20 f6_truly), (cI κ (r6 2) 20 f6_drawnAt)] sz [.ref a6, .int p1, .int p2, .int p3]) (QiK D (fun (r : Int32) (u : Unit) => True) (fun (u : Unit) => [O6 a6 r6 v6_count, (cI κ (r6 0) 20 f6_known), (cI κ (r6 1) 20 f6_truly), (cI κ (r6 2) 20 f6_drawnAt)]) [O6 a6 r6 v6_count, (cI κ (r6 0) 20 f6_known), (cI κ (r6 1) 20 f6_truly), (cI κ (r6 2) 20 f6_drawnAt)] sz) 0 0 (va_A [O6 a6 r6 v6_count, (cI κ (r6 0) 20 f6_known), (cI κ (r6 1) 20 f6_truly), (cI κ (r6 2) 20 f6_drawnAt)] sz) := by
  refine ofK_i (cc := cX6_guessedAsWell) (maxL := 11) (own := RX6) (by decide) rfl rfl (Nat.le_of_ble_eq_true rfl) ?_
  intro p e s m args below meth c Q A ls hsz hx hb hml hts hown hK hA hAB hP hD hl ret
  have hS : va_S A s.heap s.heap [] := va_S.rf
  have hl : lv_has ls 11 [(0, .ref a6), (1, .int p1), (2, .int p2), (3, .int p3)] := hl
  have w0 := hts (.fieldLink RX6 21 "OlderSkin$Places" "count" "I") (List.mem_of_getElem? (i := 1) rfl)
  have w1 := (fun w h => List.mem_cons_of_mem _ (List.mem_append_right _ h) : ∀ w ∈ u_ws RX6 TX6 4, w ∈ wsX6_guessedAsWell)
  have w2 := hts (.initialized RX11) (List.mem_of_getElem? (i := 19) rfl)
  have w3 := hts (.static yX11_asBit) (List.mem_of_getElem? (i := 22) rfl)
  have w4 := hK.2.1 ("OlderSkin$Places", 25, ⟨"OlderSkin", "asBit", "(Z)I"⟩, "OlderSkin") (by decide +kernel)
  have w5 := hts (.fieldLink RX6 9 "OlderSkin$Places" "known" "[I") (List.mem_of_getElem? (i := 2) rfl)
  have w6 := hts (.static yX11_drawn) (List.mem_of_getElem? (i := 18) rfl)
  have w7 := hK.2.1 ("OlderSkin$Places", 42, ⟨"OlderSkin", "drawn", "(I)I"⟩, "OlderSkin") (by decide +kernel)
  have l0 : (0 : Int32).toInt = 0 := by decide
  have l1 : (1 : Int32).toInt = 1 := by decide
  have l2 : (8 : Int32).toInt = 8 := by decide
  have l3 : (100 : Int32).toInt = 100 := by decide
  have i1 : 0 ≤ v6_count.toInt ∧ v6_count.toInt ≤ 20 := i1
  have rg3 := ci_rng p3
  refine lv_aload_n hx hb dX6_guessedAsWell_0 rfl (lv_at hl 0 rfl) ?_
  refine lv_iload_n hx hb dX6_guessedAsWell_1 rfl (lv_at hl 1 rfl) ?_
  refine kcm_i hA hAB hP hD hS [true, true, true, true] rfl (fun _ => rfl) (fun hPc hDc => va_runV (As := [.int p1]) (rest := []) ⟨hx, hb, hml, hown, hts⟩ (k_X6_lateOff l D κ β a6 r6 v6_count f6_known f6_truly f6_drawnAt s.heap.size p1 i1) (cwV 1 hts gX6_guessedAsWell_X6_lateOff rfl rfl rfl (by decide +kernel) ⟨Nat.le_of_ble_eq_true rfl, Nat.le_of_ble_eq_true rfl⟩) (pk_V hK hS hAB hPc hDc 0 (ci := 6) rfl rfl rfl) rfl rfl hl.1 rfl (lv_room (Nat.le_of_ble_eq_true rfl)) dX6_guessedAsWell_2 ⟨Nat.le_of_ble_eq_true rfl, Nat.le_of_ble_eq_true rfl⟩) (fun x1 u2 H locs hw hPD hS => ?_)
  obtain ⟨hP, hD⟩ : PD D A [O6 a6 r6 v6_count, (cI κ (r6 0) 20 f6_known), (cI κ (r6 1) 20 f6_truly), (cI κ (r6 2) 20 f6_drawnAt)] H := hPD
  refine lv_istore (lv' := [(4, .int x1), (0, .ref a6), (1, .int p1), (2, .int p2), (3, .int p3)]) hx hb dX6_guessedAsWell_5 hl (by decide) rfl (fun ls hl => ?_)
  refine lv_iload_n hx hb dX6_guessedAsWell_7 rfl (lv_at hl 3 rfl) ?_
  refine lv_istore (lv' := [(5, .int p2), (4, .int x1), (0, .ref a6), (1, .int p1), (2, .int p2), (3, .int p3)]) hx hb dX6_guessedAsWell_8 hl (by decide) rfl (fun ls hl => ?_)
  refine lv_iconst (v := 0) hx hb dX6_guessedAsWell_10 (by decide) ?_
  refine lv_istore (lv' := [(6, .int 0), (5, .int p2), (4, .int x1), (0, .ref a6), (1, .int p1), (2, .int p2), (3, .int p3)]) hx hb dX6_guessedAsWell_11 hl (by decide) rfl (fun ls hl => ?_)
  refine lv_iconst (v := 0) hx hb dX6_guessedAsWell_13 (by decide) ?_
  refine lv_istore (lv' := [(7, .int 0), (6, .int 0), (5, .int p2), (4, .int x1), (0, .ref a6), (1, .int p1), (2, .int p2), (3, .int p3)]) hx hb dX6_guessedAsWell_14 hl (by decide) rfl (fun ls hl => ?_)
  have lp16 : ∀ (n16 : Nat) (k3 : Int32) (k4 : Int32) (k5 : Int32), (0 ≤ k3.toInt) → (p3.toInt - k3.toInt).toNat < n16 → ∀ (H : Heap) (locs : List Loc), va_P D vwCl [O6 a6 r6 v6_count, (cI κ (r6 0) 20 f6_known), (cI κ (r6 1) 20 f6_truly), (cI κ (r6 2) 20 f6_drawnAt)] H → va_D A [O6 a6 r6 v6_count, (cI κ (r6 0) 20 f6_known), (cI κ (r6 1) 20 f6_truly), (cI κ (r6 2) 20 f6_drawnAt)] → va_S A s.heap H locs → ∀ ls : Array Slot, lv_has ls 11 [(7, .int k3), (6, .int k4), (5, .int k5), (4, .int x1), (0, .ref a6), (1, .int p1), (2, .int p2), (3, .int p3)] → W p l e ({ frames := 3, cells := 0, slots := 0, locals := 67 } : Room) s m args below meth c H locs 0 0 Q (F0 m 16 ls []) := by
    intro n16
    induction n16 with
    | zero =>
      intro k3 k4 k5 h6 m7
      exact absurd m7 (Nat.not_lt_zero _)
    | succ n16 ih16 =>
      intro k3 k4 k5 h6 m7 H locs hP hD hS ls hl
      refine lv_iload hx hb dX6_guessedAsWell_16 (lv_at hl 0 rfl) ?_
      refine lv_iload_n hx hb dX6_guessedAsWell_18 rfl (lv_at hl 7 rfl) ?_
      refine lv_icmp_ge (tgt := 121) hx hb dX6_guessedAsWell_19 (by decide) (fun c8 => ?_) (fun c8 => ?_)
      · have c8 := ci_le c8
        refine lv_iload hx hb dX6_guessedAsWell_121 (lv_at hl 1 rfl) ?_
        exact ret _ _ _ _ k4 () dX6_guessedAsWell_123 trivial hP hD hS
      have c8 := ci_nle c8
      refine lv_iconst (v := 0) hx hb dX6_guessedAsWell_22 (by decide) ?_
      refine lv_istore (lv' := [(8, .int 0), (7, .int k3), (6, .int k4), (5, .int k5), (4, .int x1), (0, .ref a6), (1, .int p1), (2, .int p2), (3, .int p3)]) hx hb dX6_guessedAsWell_23 hl (by decide) rfl (fun ls hl => ?_)
      refine lv_iconst (v := 0) hx hb dX6_guessedAsWell_25 (by decide) ?_
      refine lv_istore (lv' := [(9, .int 0), (8, .int 0), (7, .int k3), (6, .int k4), (5, .int k5), (4, .int x1), (0, .ref a6), (1, .int p1), (2, .int p2), (3, .int p3)]) hx hb dX6_guessedAsWell_26 hl (by decide) rfl (fun ls hl => ?_)
      have lp28 : ∀ (n28 : Nat) (k9 : Int32) (k10 : Int32) (k11 : Int32), (0 ≤ k9.toInt) → (v6_count.toInt - k9.toInt).toNat < n28 → ∀ (H : Heap) (locs : List Loc), va_P D vwCl [O6 a6 r6 v6_count, (cI κ (r6 0) 20 f6_known), (cI κ (r6 1) 20 f6_truly), (cI κ (r6 2) 20 f6_drawnAt)] H → va_D A [O6 a6 r6 v6_count, (cI κ (r6 0) 20 f6_known), (cI κ (r6 1) 20 f6_truly), (cI κ (r6 2) 20 f6_drawnAt)] → va_S A s.heap H locs → ∀ ls : Array Slot, lv_has ls 11 [(9, .int k9), (8, .int k10), (7, .int k3), (6, .int k4), (5, .int k11), (4, .int x1), (0, .ref a6), (1, .int p1), (2, .int p2), (3, .int p3)] → W p l e ({ frames := 3, cells := 0, slots := 0, locals := 67 } : Room) s m args below meth c H locs 0 0 Q (F0 m 28 ls []) := by
        intro n28
        induction n28 with
        | zero =>
          intro k9 k10 k11 h12 m13
          exact absurd m13 (Nat.not_lt_zero _)
        | succ n28 ih28 =>
          intro k9 k10 k11 h12 m13 H locs hP hD hS ls hl
          refine lv_iload hx hb dX6_guessedAsWell_28 (lv_at hl 0 rfl) ?_
          refine lv_aload_n hx hb dX6_guessedAsWell_30 rfl (lv_at hl 6 rfl) ?_
          refine va_get (D := D) (ci := 6) (v := .int v6_count) (C := RX6) (T := TX6) (N := 4) hx hb hts w1 hown hK.1 hP 0 rfl rfl 3 (by decide) w0 (fun _ h9 => h9) rfl dX6_guessedAsWell_31 ?_
          refine lv_icmp_ge (tgt := 95) hx hb dX6_guessedAsWell_34 (by decide) (fun c14 => ?_) (fun c14 => ?_)
          · have c14 := ci_le c14
            refine lv_iload hx hb dX6_guessedAsWell_95 (lv_at hl 3 rfl) ?_
            refine lv_iload hx hb dX6_guessedAsWell_97 (lv_at hl 1 rfl) ?_
            refine lv_iload hx hb dX6_guessedAsWell_99 (lv_at hl 5 rfl) ?_
            refine lv_icmp_gt (tgt := 108) hx hb dX6_guessedAsWell_101 (by decide) (fun c15 => ?_) (fun c15 => ?_)
            · have c15 := ci_lt c15
              refine lv_iconst (v := 0) hx hb dX6_guessedAsWell_108 (by decide) ?_
              refine kcm_i hA hAB hP hD hS [false, false, false, false] rfl (fun _ => rfl) (fun hPc hDc => va_runSN (As := [.int 0]) (rest := [.int k4]) ⟨hx, hb, hml, hown, hts⟩ (k_X11_asBit l D κ β H.size 0) ⟨va_cnB 1 hts gX6_guessedAsWell_X11_asBit_n25 rfl rfl rfl w4 w2 (by decide +kernel) ⟨Nat.le_of_ble_eq_true rfl, Nat.le_of_ble_eq_true rfl⟩, w3, trivial⟩ (pk_S hK hS hAB hPc hDc) rfl rfl hl.1 rfl (lv_room (Nat.le_of_ble_eq_true rfl)) dX6_guessedAsWell_109 ⟨Nat.le_of_ble_eq_true rfl, Nat.le_of_ble_eq_true rfl⟩) (fun x16 u17 H locs hw hPD hS => ?_)
              have h18 : (x16.toInt = 1 ∧ (0 : Int32).toInt ≠ 0) ∨ (x16.toInt = 0 ∧ (0 : Int32).toInt = 0) := hw
              obtain ⟨hP, hD⟩ : PD D A [O6 a6 r6 v6_count, (cI κ (r6 0) 20 f6_known), (cI κ (r6 1) 20 f6_truly), (cI κ (r6 2) 20 f6_drawnAt)] H := hPD
              refine lv_iadd hx hb dX6_guessedAsWell_112 ?_
              refine lv_topi (fun x19 e20 => ?_)
              try have h21 : x19.toInt = k4.toInt + x16.toInt := ci_add e20 (by omega) (by omega)
              refine lv_istore (lv' := [(6, .int x19), (9, .int k9), (8, .int k10), (7, .int k3), (5, .int k11), (4, .int x1), (0, .ref a6), (1, .int p1), (2, .int p2), (3, .int p3)]) hx hb dX6_guessedAsWell_113 hl (by decide) rfl (fun ls hl => ?_)
              obtain ⟨x22, e23⟩ : ∃ y : Int32, y = k3 + 1 := ⟨_, rfl⟩
              refine lv_iinc (v := x22) (lv' := [(7, .int x22), (6, .int x19), (9, .int k9), (8, .int k10), (5, .int k11), (4, .int x1), (0, .ref a6), (1, .int p1), (2, .int p2), (3, .int p3)]) hx hb dX6_guessedAsWell_115 hl (k := 3) rfl (by rw [e23]; rfl) (by decide) rfl (fun ls hl => ?_)
              try have h24 : x22.toInt = k3.toInt + (1 : Int32).toInt := ci_add e23 (by omega) (by omega)
              refine lv_goto (tgt := 16) hx hb dX6_guessedAsWell_118 (by decide) ?_
              exact ih16 x22 x19 k11 (by omega) (by omega) _ _ hP hD hS _ (lv_sub hl [0, 1, 4, 5, 6, 7, 8, 9] rfl)
            have c15 := ci_nlt c15
            refine lv_iconst (v := 1) hx hb dX6_guessedAsWell_104 (by decide) ?_
            refine lv_goto (tgt := 109) hx hb dX6_guessedAsWell_105 (by decide) ?_
            refine kcm_i hA hAB hP hD hS [false, false, false, false] rfl (fun _ => rfl) (fun hPc hDc => va_runSN (As := [.int 1]) (rest := [.int k4]) ⟨hx, hb, hml, hown, hts⟩ (k_X11_asBit l D κ β H.size 1) ⟨va_cnB 1 hts gX6_guessedAsWell_X11_asBit_n25 rfl rfl rfl w4 w2 (by decide +kernel) ⟨Nat.le_of_ble_eq_true rfl, Nat.le_of_ble_eq_true rfl⟩, w3, trivial⟩ (pk_S hK hS hAB hPc hDc) rfl rfl hl.1 rfl (lv_room (Nat.le_of_ble_eq_true rfl)) dX6_guessedAsWell_109 ⟨Nat.le_of_ble_eq_true rfl, Nat.le_of_ble_eq_true rfl⟩) (fun x25 u26 H locs hw hPD hS => ?_)
            have h27 : (x25.toInt = 1 ∧ (1 : Int32).toInt ≠ 0) ∨ (x25.toInt = 0 ∧ (1 : Int32).toInt = 0) := hw
            obtain ⟨hP, hD⟩ : PD D A [O6 a6 r6 v6_count, (cI κ (r6 0) 20 f6_known), (cI κ (r6 1) 20 f6_truly), (cI κ (r6 2) 20 f6_drawnAt)] H := hPD
            refine lv_iadd hx hb dX6_guessedAsWell_112 ?_
            refine lv_topi (fun x28 e29 => ?_)
            try have h30 : x28.toInt = k4.toInt + x25.toInt := ci_add e29 (by omega) (by omega)
            refine lv_istore (lv' := [(6, .int x28), (9, .int k9), (8, .int k10), (7, .int k3), (5, .int k11), (4, .int x1), (0, .ref a6), (1, .int p1), (2, .int p2), (3, .int p3)]) hx hb dX6_guessedAsWell_113 hl (by decide) rfl (fun ls hl => ?_)
            obtain ⟨x31, e32⟩ : ∃ y : Int32, y = k3 + 1 := ⟨_, rfl⟩
            refine lv_iinc (v := x31) (lv' := [(7, .int x31), (6, .int x28), (9, .int k9), (8, .int k10), (5, .int k11), (4, .int x1), (0, .ref a6), (1, .int p1), (2, .int p2), (3, .int p3)]) hx hb dX6_guessedAsWell_115 hl (k := 3) rfl (by rw [e32]; rfl) (by decide) rfl (fun ls hl => ?_)
            try have h33 : x31.toInt = k3.toInt + (1 : Int32).toInt := ci_add e32 (by omega) (by omega)
            refine lv_goto (tgt := 16) hx hb dX6_guessedAsWell_118 (by decide) ?_
            exact ih16 x31 x28 k11 (by omega) (by omega) _ _ hP hD hS _ (lv_sub hl [0, 1, 4, 5, 6, 7, 8, 9] rfl)
          have c14 := ci_nle c14
          refine lv_aload_n hx hb dX6_guessedAsWell_37 rfl (lv_at hl 6 rfl) ?_
          refine va_get (D := D) (ci := 6) (v := .ref (r6 0)) (C := RX6) (T := TX6) (N := 4) hx hb hts w1 hown hK.1 hP 0 rfl rfl 0 (by decide) w5 (fun _ h9 => h9) rfl dX6_guessedAsWell_38 ?_
          refine lv_iload hx hb dX6_guessedAsWell_41 (lv_at hl 0 rfl) ?_
          refine va_iald hx hb hK.1 hP 1 1 rfl rfl (i := k9) (ix (by omega) (by omega)) dX6_guessedAsWell_43 ?_
          refine lv_topi (fun x34 e35 => ?_)
          refine lv_iload_n hx hb dX6_guessedAsWell_44 rfl (lv_at hl 7 rfl) ?_
          refine lv_icmp_le (tgt := 89) hx hb dX6_guessedAsWell_45 (by decide) (fun c36 => ?_) (fun c36 => ?_)
          · have c36 := ci_le c36
            obtain ⟨x37, e38⟩ : ∃ y : Int32, y = k9 + 1 := ⟨_, rfl⟩
            refine lv_iinc (v := x37) (lv' := [(9, .int x37), (8, .int k10), (7, .int k3), (6, .int k4), (5, .int k11), (4, .int x1), (0, .ref a6), (1, .int p1), (2, .int p2), (3, .int p3)]) hx hb dX6_guessedAsWell_89 hl (k := 0) rfl (by rw [e38]; rfl) (by decide) rfl (fun ls hl => ?_)
            try have h39 : x37.toInt = k9.toInt + (1 : Int32).toInt := ci_add e38 (by omega) (by omega)
            refine lv_goto (tgt := 28) hx hb dX6_guessedAsWell_92 (by decide) ?_
            exact ih28 x37 k10 k11 (by omega) (by omega) _ _ hP hD hS _ hl
          have c36 := ci_nle c36
          refine lv_iload hx hb dX6_guessedAsWell_48 (lv_at hl 4 rfl) ?_
          refine kcm_i hA hAB hP hD hS [false, false, false, false] rfl (fun _ => rfl) (fun hPc hDc => va_runSN (As := [.int k11]) (rest := []) ⟨hx, hb, hml, hown, hts⟩ (k_X11_drawn l D κ β H.size k11) ⟨va_cnB 1 hts gX6_guessedAsWell_X11_drawn_n42 rfl rfl rfl w7 w2 (by decide +kernel) ⟨Nat.le_of_ble_eq_true rfl, Nat.le_of_ble_eq_true rfl⟩, w6, trivial⟩ (pk_S hK hS hAB hPc hDc) rfl rfl hl.1 rfl (lv_room (Nat.le_of_ble_eq_true rfl)) dX6_guessedAsWell_50 ⟨Nat.le_of_ble_eq_true rfl, Nat.le_of_ble_eq_true rfl⟩) (fun x40 u41 H locs hw hPD hS => ?_)
          obtain ⟨hP, hD⟩ : PD D A [O6 a6 r6 v6_count, (cI κ (r6 0) 20 f6_known), (cI κ (r6 1) 20 f6_truly), (cI κ (r6 2) 20 f6_drawnAt)] H := hPD
          refine lv_istore (lv' := [(10, .int x40), (9, .int k9), (8, .int k10), (7, .int k3), (6, .int k4), (5, .int k11), (4, .int x1), (0, .ref a6), (1, .int p1), (2, .int p2), (3, .int p3)]) hx hb dX6_guessedAsWell_53 hl (by decide) rfl (fun ls hl => ?_)
          refine lv_iload hx hb dX6_guessedAsWell_55 (lv_at hl 0 rfl) ?_
          refine kcm_i hA hAB hP hD hS [false, false, false, false] rfl (fun _ => rfl) (fun hPc hDc => va_runSN (As := [.int x40]) (rest := []) ⟨hx, hb, hml, hown, hts⟩ (k_X11_drawn l D κ β H.size x40) ⟨va_cnB 1 hts gX6_guessedAsWell_X11_drawn_n42 rfl rfl rfl w7 w2 (by decide +kernel) ⟨Nat.le_of_ble_eq_true rfl, Nat.le_of_ble_eq_true rfl⟩, w6, trivial⟩ (pk_S hK hS hAB hPc hDc) rfl rfl hl.1 rfl (lv_room (Nat.le_of_ble_eq_true rfl)) dX6_guessedAsWell_57 ⟨Nat.le_of_ble_eq_true rfl, Nat.le_of_ble_eq_true rfl⟩) (fun x42 u43 H locs hw hPD hS => ?_)
          obtain ⟨hP, hD⟩ : PD D A [O6 a6 r6 v6_count, (cI κ (r6 0) 20 f6_known), (cI κ (r6 1) 20 f6_truly), (cI κ (r6 2) 20 f6_drawnAt)] H := hPD
          refine lv_istore (lv' := [(5, .int x42), (10, .int x40), (9, .int k9), (8, .int k10), (7, .int k3), (6, .int k4), (4, .int x1), (0, .ref a6), (1, .int p1), (2, .int p2), (3, .int p3)]) hx hb dX6_guessedAsWell_60 hl (by decide) rfl (fun ls hl => ?_)
          refine lv_iload hx hb dX6_guessedAsWell_62 (lv_at hl 3 rfl) ?_
          refine lv_aload_n hx hb dX6_guessedAsWell_64 rfl (lv_at hl 7 rfl) ?_
          refine lv_iload hx hb dX6_guessedAsWell_65 (lv_at hl 2 rfl) ?_
          refine lv_iload hx hb dX6_guessedAsWell_67 (lv_at hl 1 rfl) ?_
          refine lv_bipush (v := 8) hx hb dX6_guessedAsWell_69 (by decide) ?_
          refine lv_iushr hx hb dX6_guessedAsWell_71 rfl ?_
          refine lv_topi (fun x44 e45 => ?_)
          have h46 := ci_ushr8 e45
          refine lv_bipush (v := 100) hx hb dX6_guessedAsWell_72 (by decide) ?_
          refine lv_irem hx hb dX6_guessedAsWell_74 (by decide) ?_
          refine lv_topi (fun x47 e48 => ?_)
          have h49 := ci_remL (n := 100) (by decide) (by decide) e48
          refine lv_iload hx hb dX6_guessedAsWell_75 (lv_at hl 0 rfl) ?_
          refine lv_bipush (v := 8) hx hb dX6_guessedAsWell_77 (by decide) ?_
          refine lv_iushr hx hb dX6_guessedAsWell_79 rfl ?_
          refine lv_topi (fun x50 e51 => ?_)
          have h52 := ci_ushr8 e51
          refine lv_bipush (v := 100) hx hb dX6_guessedAsWell_80 (by decide) ?_
          refine lv_irem hx hb dX6_guessedAsWell_82 (by decide) ?_
          refine lv_topi (fun x53 e54 => ?_)
          have h55 := ci_remL (n := 100) (by decide) (by decide) e54
          refine kcm_i hA hAB hP hD hS [true, false, true, false] rfl (fun _ => rfl) (fun hPc hDc => va_runV (As := [.int k9, .int x47, .int x53]) (rest := [.int k10]) ⟨hx, hb, hml, hown, hts⟩ (k_X6_offBy l D κ β a6 r6 v6_count f6_truly H.size k9 x47 x53 i1 (by omega)) (cwV 3 hts gX6_guessedAsWell_X6_offBy rfl rfl rfl (by decide +kernel) ⟨Nat.le_of_ble_eq_true rfl, Nat.le_of_ble_eq_true rfl⟩) (pk_V hK hS hAB hPc hDc 0 (ci := 6) rfl rfl rfl) rfl rfl hl.1 rfl (lv_room (Nat.le_of_ble_eq_true rfl)) dX6_guessedAsWell_83 ⟨Nat.le_of_ble_eq_true rfl, Nat.le_of_ble_eq_true rfl⟩) (fun x56 u57 H locs hw hPD hS => ?_)
          obtain ⟨hP, hD⟩ : PD D A [O6 a6 r6 v6_count, (cI κ (r6 0) 20 f6_known), (cI κ (r6 1) 20 f6_truly), (cI κ (r6 2) 20 f6_drawnAt)] H := hPD
          refine lv_iadd hx hb dX6_guessedAsWell_86 ?_
          refine lv_topi (fun x58 e59 => ?_)
          try have h60 : x58.toInt = k10.toInt + x56.toInt := ci_add e59 (by omega) (by omega)
          refine lv_istore (lv' := [(8, .int x58), (5, .int x42), (10, .int x40), (9, .int k9), (7, .int k3), (6, .int k4), (4, .int x1), (0, .ref a6), (1, .int p1), (2, .int p2), (3, .int p3)]) hx hb dX6_guessedAsWell_87 hl (by decide) rfl (fun ls hl => ?_)
          obtain ⟨x61, e62⟩ : ∃ y : Int32, y = k9 + 1 := ⟨_, rfl⟩
          refine lv_iinc (v := x61) (lv' := [(9, .int x61), (8, .int x58), (5, .int x42), (10, .int x40), (7, .int k3), (6, .int k4), (4, .int x1), (0, .ref a6), (1, .int p1), (2, .int p2), (3, .int p3)]) hx hb dX6_guessedAsWell_89 hl (k := 3) rfl (by rw [e62]; rfl) (by decide) rfl (fun ls hl => ?_)
          try have h63 : x61.toInt = k9.toInt + (1 : Int32).toInt := ci_add e62 (by omega) (by omega)
          refine lv_goto (tgt := 28) hx hb dX6_guessedAsWell_92 (by decide) ?_
          exact ih28 x61 x58 x42 (by omega) (by omega) _ _ hP hD hS _ (lv_sub hl [0, 1, 4, 5, 2, 6, 7, 8, 9, 10] rfl)
      exact lp28 ((v6_count.toInt - (0 : Int32).toInt).toNat + 1) 0 0 k5 (by omega) (by omega) _ _ hP hD hS _ hl
  exact lp16 ((p3.toInt - (0 : Int32).toInt).toNat + 1) 0 0 p2 (by omega) (by omega) _ _ hP hD hS _ hl
