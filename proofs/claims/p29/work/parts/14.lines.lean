set_option maxHeartbeats 4000000 in
set_option maxRecDepth 100000 in
theorem k_X3_isLine (l : Launch) (D : va_G) (κ : Nat → ClassId) (β : Nat) (a3 : Nat) (r3 : Nat → Nat) (v3_count : Int32) (v3_marks : Int32) (sz : Nat) (p1 : Int32) (i1 : Rg 0 20 v3_count) (i2 : Rg 0 60 v3_marks) : Met l yX3_isLine wsX3_isLine ({ frames := 1, cells := 0, slots := 0, locals := 22 } : Room) (PcK D κ β [O3 a3 r3 v3_count v3_marks] sz [.ref a3, .int p1]) (QiK D (fun (r : Int32) (u : Unit) => (r.toInt = 1 ∧ 0 ≤ p1.toInt ∧ p1.toInt < v3_count.toInt) ∨ (r.toInt = 0 ∧ (p1.toInt < 0 ∨ v3_count.toInt ≤ p1.toInt))) (fun (u : Unit) => [O3 a3 r3 v3_count v3_marks]) [O3 a3 r3 v3_count v3_marks] sz) 0 0 (va_A [O3 a3 r3 v3_count v3_marks] sz) := by
  refine ofK_z (cc := cX3_isLine) (maxL := 2) (own := RX3) (by decide) rfl rfl (Nat.le_of_ble_eq_true rfl) ?_
  intro p e s m args below meth c Q A ls hsz hx hb hml hts hown hK hA hAB hP hD hl ret
  have hS : va_S A s.heap s.heap [] := va_S.rf
  have hl : lv_has ls 2 [(0, .ref a3), (1, .int p1)] := hl
  have w0 := hts (.fieldLink RX3 36 "OlderSkin$Lines" "count" "I") (List.mem_of_getElem? (i := 1) rfl)
  have w1 := (fun w h => List.mem_cons_of_mem _ (List.mem_append_right _ h) : ∀ w ∈ u_ws RX3 TX3 10, w ∈ wsX3_isLine)
  have w2 := hts (.initialized RX11) (List.mem_of_getElem? (i := 3) rfl)
  have w3 := hts (.static yX11_within) (List.mem_of_getElem? (i := 2) rfl)
  have w4 := hK.2.1 ("OlderSkin$Lines", 40, ⟨"OlderSkin", "within", "(III)Z"⟩, "OlderSkin") (by decide +kernel)
  have l0 : (0 : Int32).toInt = 0 := by decide
  have l1 : (1 : Int32).toInt = 1 := by decide
  have i1 : 0 ≤ v3_count.toInt ∧ v3_count.toInt ≤ 20 := i1
  refine lv_iload_n hx hb dX3_isLine_0 rfl (lv_at hl 1 rfl) ?_
  refine lv_iconst (v := 0) hx hb dX3_isLine_1 (by decide) ?_
  refine lv_aload_n hx hb dX3_isLine_2 rfl (lv_at hl 0 rfl) ?_
  refine va_get (D := D) (ci := 3) (v := .int v3_count) (C := RX3) (T := TX3) (N := 10) hx hb hts w1 hown hK.1 hP 0 rfl rfl 2 (by decide) w0 (fun _ h9 => h9) rfl dX3_isLine_3 ?_
  refine lv_iconst (v := 1) hx hb dX3_isLine_6 (by decide) ?_
  refine lv_isub hx hb dX3_isLine_7 ?_
  refine lv_topi (fun x1 e2 => ?_)
  try have h3 : x1.toInt = v3_count.toInt - (1 : Int32).toInt := ci_sub e2 (by omega) (by omega)
  refine kcm_i hA hAB hP hD hS [false] rfl (fun _ => rfl) (fun hPc hDc => va_runSN (As := [.int p1, .int 0, .int x1]) (rest := []) ⟨hx, hb, hml, hown, hts⟩ (k_X11_within l D κ β s.heap.size p1 0 x1) ⟨va_cnB 3 hts gX3_isLine_X11_within_n40 rfl rfl rfl w4 w2 (by decide +kernel) ⟨Nat.le_of_ble_eq_true rfl, Nat.le_of_ble_eq_true rfl⟩, w3, trivial⟩ (pk_S hK hS hAB hPc hDc) rfl rfl hl.1 rfl (lv_room (Nat.le_of_ble_eq_true rfl)) dX3_isLine_8 ⟨Nat.le_of_ble_eq_true rfl, Nat.le_of_ble_eq_true rfl⟩) (fun x4 u5 H locs hw hPD hS => ?_)
  have h6 : (x4.toInt = 1 ∧ (0 : Int32).toInt ≤ p1.toInt ∧ p1.toInt ≤ x1.toInt) ∨ (x4.toInt = 0 ∧ (p1.toInt < (0 : Int32).toInt ∨ x1.toInt < p1.toInt)) := hw
  obtain ⟨hP, hD⟩ : PD D A [O3 a3 r3 v3_count v3_marks] H := hPD
  have hpo : (x4.toInt = 1 ∧ 0 ≤ p1.toInt ∧ p1.toInt < v3_count.toInt) ∨ (x4.toInt = 0 ∧ (p1.toInt < 0 ∨ v3_count.toInt ≤ p1.toInt)) := (by omega)
  exact ret _ _ _ _ x4 () dX3_isLine_11 (by omega) hpo hP hD hS
set_option maxHeartbeats 4000000 in
set_option maxRecDepth 100000 in
theorem k_X3_add (l : Launch) (D : va_G) (κ : Nat → ClassId) (β : Nat) (a3 : Nat) (r3 : Nat → Nat) (v3_count : Int32) (v3_marks : Int32) (f3_sheetOf : Nat → Int32) (f3_inkOf : Nat → Int32) (sz : Nat) (p1 : Int32) (p2 : Int32) (i1 : Rg 0 20 v3_count) (i2 : Rg 0 60 v3_marks) : Met l yX3_add wsX3_add ({ frames := 0, cells := 0, slots := 0, locals := 0 } : Room) (PcK D κ β [O3 a3 r3 v3_count v3_marks, (cI κ (r3 0) 20 f3_sheetOf), (cI κ (r3 1) 20 f3_inkOf)] sz [.ref a3, .int p1, .int p2]) (QiK D (fun (r : Int32) (u : Int32 × (Nat → Int32) × (Nat → Int32)) => (0 ≤ u.1.toInt ∧ u.1.toInt ≤ 20) ∧ ((v3_count.toInt = 20 ∧ r.toInt = -3 ∧ u.1.toInt = v3_count.toInt) ∨ (v3_count.toInt < 20 ∧ r.toInt = v3_count.toInt ∧ u.1.toInt = v3_count.toInt + 1))) (fun (u : Int32 × (Nat → Int32) × (Nat → Int32)) => [O3 a3 r3 u.1 v3_marks, (cI κ (r3 0) 20 u.2.1), (cI κ (r3 1) 20 u.2.2)]) [O3 a3 r3 v3_count v3_marks, (cI κ (r3 0) 20 f3_sheetOf), (cI κ (r3 1) 20 f3_inkOf)] sz) 0 0 (va_A [O3 a3 r3 v3_count v3_marks, (cI κ (r3 0) 20 f3_sheetOf), (cI κ (r3 1) 20 f3_inkOf)] sz) := by
  refine ofK_i (cc := cX3_add) (maxL := 3) (own := RX3) (by decide) rfl rfl (Nat.le_of_ble_eq_true rfl) ?_
  intro p e s m args below meth c Q A ls hsz hx hb hml hts hown hK hA hAB hP hD hl ret
  have hS : va_S A s.heap s.heap [] := va_S.rf
  have hl : lv_has ls 3 [(0, .ref a3), (1, .int p1), (2, .int p2)] := hl
  have w0 := hts (.fieldLink RX3 36 "OlderSkin$Lines" "count" "I") (List.mem_of_getElem? (i := 1) rfl)
  have w1 := (fun w h => List.mem_cons_of_mem _ (List.mem_append_right _ h) : ∀ w ∈ u_ws RX3 TX3 10, w ∈ wsX3_add)
  have w2 := hts (.fieldLink RX3 9 "OlderSkin$Lines" "sheetOf" "[I") (List.mem_of_getElem? (i := 2) rfl)
  have w3 := hts (.fieldLink RX3 15 "OlderSkin$Lines" "inkOf" "[I") (List.mem_of_getElem? (i := 3) rfl)
  have l0 : (20 : Int32).toInt = 20 := by decide
  have l1 : (0 : Int32).toInt = 0 := by decide
  have l2 : (1 : Int32).toInt = 1 := by decide
  have l3 : ((-3) : Int32).toInt = -3 := by decide
  have i1 : 0 ≤ v3_count.toInt ∧ v3_count.toInt ≤ 20 := i1
  refine lv_aload_n hx hb dX3_add_0 rfl (lv_at hl 0 rfl) ?_
  refine va_get (D := D) (ci := 3) (v := .int v3_count) (C := RX3) (T := TX3) (N := 10) hx hb hts w1 hown hK.1 hP 0 rfl rfl 2 (by decide) w0 (fun _ h9 => h9) rfl dX3_add_1 ?_
  refine lv_aload_n hx hb dX3_add_4 rfl (lv_at hl 0 rfl) ?_
  refine va_get (D := D) (ci := 3) (v := .ref (r3 0)) (C := RX3) (T := TX3) (N := 10) hx hb hts w1 hown hK.1 hP 0 rfl rfl 0 (by decide) w2 (fun _ h9 => h9) rfl dX3_add_5 ?_
  refine va_alen hx hb hK.1 hP 1 1 rfl rfl (v := 20) rfl dX3_add_8 ?_
  refine lv_icmp_ne (tgt := 15) hx hb dX3_add_9 (by decide) (fun c1 => ?_) (fun c1 => ?_)
  · have c1 := ci_ne c1
    refine lv_aload_n hx hb dX3_add_15 rfl (lv_at hl 0 rfl) ?_
    refine va_get (D := D) (ci := 3) (v := .ref (r3 0)) (C := RX3) (T := TX3) (N := 10) hx hb hts w1 hown hK.1 hP 0 rfl rfl 0 (by decide) w2 (fun _ h9 => h9) rfl dX3_add_16 ?_
    refine lv_aload_n hx hb dX3_add_19 rfl (lv_at hl 0 rfl) ?_
    refine va_get (D := D) (ci := 3) (v := .int v3_count) (C := RX3) (T := TX3) (N := 10) hx hb hts w1 hown hK.1 hP 0 rfl rfl 2 (by decide) w0 (fun _ h9 => h9) rfl dX3_add_20 ?_
    refine lv_iload_n hx hb dX3_add_23 rfl (lv_at hl 1 rfl) ?_
    refine va_iast hx hb hK.1 hP hD hS 1 1 rfl rfl (i := v3_count) (ix (by omega) (by omega)) dX3_add_24 (fun H locs hP hD hS => ?_)
    obtain ⟨g2, e3⟩ : ∃ y : Nat → Int32, y = upd f3_sheetOf v3_count.toNatClampNeg p1 := ⟨_, rfl⟩
    rw [← e3] at hP hD
    obtain ⟨hP, hD⟩ : PD D A [O3 a3 r3 v3_count v3_marks, (cI κ (r3 0) 20 g2), (cI κ (r3 1) 20 f3_inkOf)] H := ⟨hP, hD⟩
    refine lv_aload_n hx hb dX3_add_25 rfl (lv_at hl 0 rfl) ?_
    refine va_get (D := D) (ci := 3) (v := .ref (r3 1)) (C := RX3) (T := TX3) (N := 10) hx hb hts w1 hown hK.1 hP 0 rfl rfl 1 (by decide) w3 (fun _ h9 => h9) rfl dX3_add_26 ?_
    refine lv_aload_n hx hb dX3_add_29 rfl (lv_at hl 0 rfl) ?_
    refine va_get (D := D) (ci := 3) (v := .int v3_count) (C := RX3) (T := TX3) (N := 10) hx hb hts w1 hown hK.1 hP 0 rfl rfl 2 (by decide) w0 (fun _ h9 => h9) rfl dX3_add_30 ?_
    refine lv_iload_n hx hb dX3_add_33 rfl (lv_at hl 2 rfl) ?_
    refine va_iast hx hb hK.1 hP hD hS 2 1 rfl rfl (i := v3_count) (ix (by omega) (by omega)) dX3_add_34 (fun H locs hP hD hS => ?_)
    obtain ⟨g4, e5⟩ : ∃ y : Nat → Int32, y = upd f3_inkOf v3_count.toNatClampNeg p2 := ⟨_, rfl⟩
    rw [← e5] at hP hD
    obtain ⟨hP, hD⟩ : PD D A [O3 a3 r3 v3_count v3_marks, (cI κ (r3 0) 20 g2), (cI κ (r3 1) 20 g4)] H := ⟨hP, hD⟩
    refine lv_aload_n hx hb dX3_add_35 rfl (lv_at hl 0 rfl) ?_
    refine lv_dup hx hb dX3_add_36 rfl ?_
    refine va_get (D := D) (ci := 3) (v := .int v3_count) (C := RX3) (T := TX3) (N := 10) hx hb hts w1 hown hK.1 hP 0 rfl rfl 2 (by decide) w0 (fun _ h9 => h9) rfl dX3_add_37 ?_
    refine lv_dup_x1 hx hb dX3_add_40 rfl rfl ?_
    refine lv_iconst (v := 1) hx hb dX3_add_41 (by decide) ?_
    refine lv_iadd hx hb dX3_add_42 ?_
    refine lv_topi (fun x6 e7 => ?_)
    try have h8 : x6.toInt = v3_count.toInt + (1 : Int32).toInt := ci_add e7 (by omega) (by omega)
    refine va_put (D := D) (ci := 3) (v := .int x6) (ty := .int) (C := RX3) (T := TX3) (N := 10) hx hb hts w1 tyX3 tyX3_ok nmX3 hown hK.1 hP hD hS 0 rfl rfl 2 (by decide) w0 (fun _ h9 => h9) rfl (by decide +kernel) rfl rfl (Nat.le_of_ble_eq_true rfl) dX3_add_43 (fun H locs hP hD hS => ?_)
    obtain ⟨hP, hD⟩ : PD D A [O3 a3 r3 x6 v3_marks, (cI κ (r3 0) 20 g2), (cI κ (r3 1) 20 g4)] H := ⟨hP, hD⟩
    have h9 : 0 ≤ x6.toInt ∧ x6.toInt ≤ 20 := by omega
    have hpo : (0 ≤ x6.toInt ∧ x6.toInt ≤ 20) ∧ ((v3_count.toInt = 20 ∧ v3_count.toInt = -3 ∧ x6.toInt = v3_count.toInt) ∨ (v3_count.toInt < 20 ∧ v3_count.toInt = v3_count.toInt ∧ x6.toInt = v3_count.toInt + 1)) := ⟨h9, (by omega)⟩
    exact ret _ _ _ _ v3_count (x6, g2, g4) dX3_add_46 hpo hP hD hS
  have c1 := ci_eq c1
  refine lv_bipush (v := (-3)) hx hb dX3_add_12 (by decide) ?_
  have hpo : (0 ≤ v3_count.toInt ∧ v3_count.toInt ≤ 20) ∧ ((v3_count.toInt = 20 ∧ ((-3) : Int32).toInt = -3 ∧ v3_count.toInt = v3_count.toInt) ∨ (v3_count.toInt < 20 ∧ ((-3) : Int32).toInt = v3_count.toInt ∧ v3_count.toInt = v3_count.toInt + 1)) := ⟨i1, (by omega)⟩
  exact ret _ _ _ _ (-3) (v3_count, f3_sheetOf, f3_inkOf) dX3_add_14 hpo hP hD hS
set_option maxHeartbeats 4000000 in
set_option maxRecDepth 100000 in
theorem k_X3_tellMark (l : Launch) (D : va_G) (κ : Nat → ClassId) (β : Nat) (a3 : Nat) (r3 : Nat → Nat) (v3_count : Int32) (v3_marks : Int32) (f3_markLine : Nat → Int32) (f3_markHole : Nat → Int32) (f3_markOver : Nat → Int32) (sz : Nat) (p1 : Int32) (p2 : Int32) (p3 : Int32) (i1 : Rg 0 20 v3_count) (i2 : Rg 0 60 v3_marks) (hf3_markLine : ∀ j : Nat, 0 ≤ (f3_markLine j).toInt ∧ (f3_markLine j).toInt ≤ 19) (hf3_markHole : ∀ j : Nat, 0 ≤ (f3_markHole j).toInt ∧ (f3_markHole j).toInt ≤ 39) (i3 : 0 ≤ p1.toInt ∧ p1.toInt ≤ 19) (i4 : 0 ≤ p2.toInt ∧ p2.toInt ≤ 39) : Met l yX3_tellMark wsX3_tellMark ({ frames := 1, cells := 0, slots := 0, locals := 21 } : Room) (PcK D κ β [O3 a3 r3 v3_count v3_marks, (cI κ (r3 3) 60 f3_markLine), (cI κ (r3 4) 60 f3_markHole), (cI κ (r3 5) 60 f3_markOver)] sz [.ref a3, .int p1, .int p2, .int p3]) (QiK D (fun (r : Int32) (u : Int32 × (Nat → Int32) × (Nat → Int32) × (Nat → Int32)) => (0 ≤ u.1.toInt ∧ u.1.toInt ≤ 60) ∧ (∀ j : Nat, 0 ≤ (u.2.1 j).toInt ∧ (u.2.1 j).toInt ≤ 19) ∧ (∀ j : Nat, 0 ≤ (u.2.2.1 j).toInt ∧ (u.2.2.1 j).toInt ≤ 39)) (fun (u : Int32 × (Nat → Int32) × (Nat → Int32) × (Nat → Int32)) => [O3 a3 r3 v3_count u.1, (cI κ (r3 3) 60 u.2.1), (cI κ (r3 4) 60 u.2.2.1), (cI κ (r3 5) 60 u.2.2.2)]) [O3 a3 r3 v3_count v3_marks, (cI κ (r3 3) 60 f3_markLine), (cI κ (r3 4) 60 f3_markHole), (cI κ (r3 5) 60 f3_markOver)] sz) 0 0 (va_A [O3 a3 r3 v3_count v3_marks, (cI κ (r3 3) 60 f3_markLine), (cI κ (r3 4) 60 f3_markHole), (cI κ (r3 5) 60 f3_markOver)] sz) := by
  refine ofK_i (cc := cX3_tellMark) (maxL := 5) (own := RX3) (by decide) rfl rfl (Nat.le_of_ble_eq_true rfl) ?_
  intro p e s m args below meth c Q A ls hsz hx hb hml hts hown hK hA hAB hP hD hl ret
  have hS : va_S A s.heap s.heap [] := va_S.rf
  have hl : lv_has ls 5 [(0, .ref a3), (1, .int p1), (2, .int p2), (3, .int p3)] := hl
  have w0 := hts (.fieldLink RX3 44 "OlderSkin$Lines" "marks" "I") (List.mem_of_getElem? (i := 1) rfl)
  have w1 := (fun w h => List.mem_cons_of_mem _ (List.mem_append_right _ h) : ∀ w ∈ u_ws RX3 TX3 10, w ∈ wsX3_tellMark)
  have w2 := hts (.fieldLink RX3 18 "OlderSkin$Lines" "markLine" "[I") (List.mem_of_getElem? (i := 2) rfl)
  have w3 := hts (.fieldLink RX3 21 "OlderSkin$Lines" "markHole" "[I") (List.mem_of_getElem? (i := 3) rfl)
  have w4 := hts (.fieldLink RX3 24 "OlderSkin$Lines" "markOver" "[I") (List.mem_of_getElem? (i := 4) rfl)
  have w5 := hts (.methodLink RX3 47 Lib.Math.max.name) (List.mem_of_getElem? (i := 5) rfl)
  have w6 := hts (.static Lib.Math.max.name) (List.mem_of_getElem? (i := 6) rfl)
  have w7 := hts (.initialized "java/lang/Math") (List.mem_of_getElem? (i := 7) rfl)
  have w8 := hts (.code Lib.Math.max.name Lib.Math.max.code 2 (some .int)) (List.mem_of_getElem? (i := 8) rfl)
  have l0 : (0 : Int32).toInt = 0 := by decide
  have l1 : (60 : Int32).toInt = 60 := by decide
  have l2 : (1 : Int32).toInt = 1 := by decide
  have l3 : ((-3) : Int32).toInt = -3 := by decide
  have i2 : 0 ≤ v3_marks.toInt ∧ v3_marks.toInt ≤ 60 := i2
  refine lv_iconst (v := 0) hx hb dX3_tellMark_0 (by decide) ?_
  refine lv_istore (lv' := [(4, .int 0), (0, .ref a3), (1, .int p1), (2, .int p2), (3, .int p3)]) hx hb dX3_tellMark_1 hl (by decide) rfl (fun ls hl => ?_)
  have lp3 : ∀ (n3 : Nat) (k1 : Int32), (k1.toInt ≤ v3_marks.toInt) → (0 ≤ k1.toInt) → (v3_marks.toInt - k1.toInt).toNat < n3 → ∀ (H : Heap) (locs : List Loc), va_P D vwCl [O3 a3 r3 v3_count v3_marks, (cI κ (r3 3) 60 f3_markLine), (cI κ (r3 4) 60 f3_markHole), (cI κ (r3 5) 60 f3_markOver)] H → va_D A [O3 a3 r3 v3_count v3_marks, (cI κ (r3 3) 60 f3_markLine), (cI κ (r3 4) 60 f3_markHole), (cI κ (r3 5) 60 f3_markOver)] → va_S A s.heap H locs → ∀ ls : Array Slot, lv_has ls 5 [(4, .int k1), (0, .ref a3), (1, .int p1), (2, .int p2), (3, .int p3)] → W p l e ({ frames := 1, cells := 0, slots := 0, locals := 21 } : Room) s m args below meth c H locs 0 0 Q (F0 m 3 ls []) := by
    intro n3
    induction n3 with
    | zero =>
      intro k1 h2 h3 m4
      exact absurd m4 (Nat.not_lt_zero _)
    | succ n3 ih3 =>
      intro k1 h2 h3 m4 H locs hP hD hS ls hl
      refine lv_iload hx hb dX3_tellMark_3 (lv_at hl 0 rfl) ?_
      refine lv_aload_n hx hb dX3_tellMark_5 rfl (lv_at hl 1 rfl) ?_
      refine va_get (D := D) (ci := 3) (v := .int v3_marks) (C := RX3) (T := TX3) (N := 10) hx hb hts w1 hown hK.1 hP 0 rfl rfl 6 (by decide) w0 (fun _ h9 => h9) rfl dX3_tellMark_6 ?_
      refine lv_icmp_ge (tgt := 40) hx hb dX3_tellMark_9 (by decide) (fun c5 => ?_) (fun c5 => ?_)
      · have c5 := ci_le c5
        refine lv_iload hx hb dX3_tellMark_40 (lv_at hl 0 rfl) ?_
        refine lv_aload_n hx hb dX3_tellMark_42 rfl (lv_at hl 1 rfl) ?_
        refine va_get (D := D) (ci := 3) (v := .ref (r3 3)) (C := RX3) (T := TX3) (N := 10) hx hb hts w1 hown hK.1 hP 0 rfl rfl 3 (by decide) w2 (fun _ h9 => h9) rfl dX3_tellMark_43 ?_
        refine va_alen hx hb hK.1 hP 1 1 rfl rfl (v := 60) rfl dX3_tellMark_46 ?_
        refine lv_icmp_ne (tgt := 53) hx hb dX3_tellMark_47 (by decide) (fun c6 => ?_) (fun c6 => ?_)
        · have c6 := ci_ne c6
          refine lv_aload_n hx hb dX3_tellMark_53 rfl (lv_at hl 1 rfl) ?_
          refine va_get (D := D) (ci := 3) (v := .ref (r3 3)) (C := RX3) (T := TX3) (N := 10) hx hb hts w1 hown hK.1 hP 0 rfl rfl 3 (by decide) w2 (fun _ h9 => h9) rfl dX3_tellMark_54 ?_
          refine lv_iload hx hb dX3_tellMark_57 (lv_at hl 0 rfl) ?_
          refine lv_iload_n hx hb dX3_tellMark_59 rfl (lv_at hl 2 rfl) ?_
          refine va_iast hx hb hK.1 hP hD hS 1 1 rfl rfl (i := k1) (ix (by omega) (by omega)) dX3_tellMark_60 (fun H locs hP hD hS => ?_)
          obtain ⟨g7, e8⟩ : ∃ y : Nat → Int32, y = upd f3_markLine k1.toNatClampNeg p1 := ⟨_, rfl⟩
          rw [← e8] at hP hD
          obtain ⟨hP, hD⟩ : PD D A [O3 a3 r3 v3_count v3_marks, (cI κ (r3 3) 60 g7), (cI κ (r3 4) 60 f3_markHole), (cI κ (r3 5) 60 f3_markOver)] H := ⟨hP, hD⟩
          have h9 : ∀ j : Nat, 0 ≤ (g7 j).toInt ∧ (g7 j).toInt ≤ 19 := by rw [e8]; exact all_upd (P := fun z => 0 ≤ z.toInt ∧ z.toInt ≤ 19) hf3_markLine (by omega)
          refine lv_aload_n hx hb dX3_tellMark_61 rfl (lv_at hl 1 rfl) ?_
          refine va_get (D := D) (ci := 3) (v := .ref (r3 4)) (C := RX3) (T := TX3) (N := 10) hx hb hts w1 hown hK.1 hP 0 rfl rfl 4 (by decide) w3 (fun _ h9 => h9) rfl dX3_tellMark_62 ?_
          refine lv_iload hx hb dX3_tellMark_65 (lv_at hl 0 rfl) ?_
          refine lv_iload_n hx hb dX3_tellMark_67 rfl (lv_at hl 3 rfl) ?_
          refine va_iast hx hb hK.1 hP hD hS 2 1 rfl rfl (i := k1) (ix (by omega) (by omega)) dX3_tellMark_68 (fun H locs hP hD hS => ?_)
          obtain ⟨g10, e11⟩ : ∃ y : Nat → Int32, y = upd f3_markHole k1.toNatClampNeg p2 := ⟨_, rfl⟩
          rw [← e11] at hP hD
          obtain ⟨hP, hD⟩ : PD D A [O3 a3 r3 v3_count v3_marks, (cI κ (r3 3) 60 g7), (cI κ (r3 4) 60 g10), (cI κ (r3 5) 60 f3_markOver)] H := ⟨hP, hD⟩
          have h12 : ∀ j : Nat, 0 ≤ (g10 j).toInt ∧ (g10 j).toInt ≤ 39 := by rw [e11]; exact all_upd (P := fun z => 0 ≤ z.toInt ∧ z.toInt ≤ 39) hf3_markHole (by omega)
          refine lv_aload_n hx hb dX3_tellMark_69 rfl (lv_at hl 1 rfl) ?_
          refine va_get (D := D) (ci := 3) (v := .ref (r3 5)) (C := RX3) (T := TX3) (N := 10) hx hb hts w1 hown hK.1 hP 0 rfl rfl 5 (by decide) w4 (fun _ h9 => h9) rfl dX3_tellMark_70 ?_
          refine lv_iload hx hb dX3_tellMark_73 (lv_at hl 0 rfl) ?_
          refine lv_iload_n hx hb dX3_tellMark_75 rfl (lv_at hl 4 rfl) ?_
          refine va_iast hx hb hK.1 hP hD hS 3 1 rfl rfl (i := k1) (ix (by omega) (by omega)) dX3_tellMark_76 (fun H locs hP hD hS => ?_)
          obtain ⟨g13, e14⟩ : ∃ y : Nat → Int32, y = upd f3_markOver k1.toNatClampNeg p3 := ⟨_, rfl⟩
          rw [← e14] at hP hD
          obtain ⟨hP, hD⟩ : PD D A [O3 a3 r3 v3_count v3_marks, (cI κ (r3 3) 60 g7), (cI κ (r3 4) 60 g10), (cI κ (r3 5) 60 g13)] H := ⟨hP, hD⟩
          refine lv_aload_n hx hb dX3_tellMark_77 rfl (lv_at hl 1 rfl) ?_
          refine lv_aload_n hx hb dX3_tellMark_78 rfl (lv_at hl 1 rfl) ?_
          refine va_get (D := D) (ci := 3) (v := .int v3_marks) (C := RX3) (T := TX3) (N := 10) hx hb hts w1 hown hK.1 hP 0 rfl rfl 6 (by decide) w0 (fun _ h9 => h9) rfl dX3_tellMark_79 ?_
          refine lv_iload hx hb dX3_tellMark_82 (lv_at hl 0 rfl) ?_
          refine lv_iconst (v := 1) hx hb dX3_tellMark_84 (by decide) ?_
          refine lv_iadd hx hb dX3_tellMark_85 ?_
          refine lv_topi (fun x15 e16 => ?_)
          try have h17 : x15.toInt = k1.toInt + (1 : Int32).toInt := ci_add e16 (by omega) (by omega)
          refine va_mmax hx hb (hml.trans hl.1.symm) hown w5 w6 w7 w8 (Nat.le_of_ble_eq_true rfl) (Nat.le_of_ble_eq_true rfl) (Nat.le_of_ble_eq_true rfl) (Nat.le_of_ble_eq_true rfl) dX3_tellMark_86 ?_
          refine lv_topi (fun x18 e19 => ?_)
          have h20 := ci_max e19
          refine va_put (D := D) (ci := 3) (v := .int x18) (ty := .int) (C := RX3) (T := TX3) (N := 10) hx hb hts w1 tyX3 tyX3_ok nmX3 hown hK.1 hP hD hS 0 rfl rfl 6 (by decide) w0 (fun _ h9 => h9) rfl (by decide +kernel) rfl rfl (Nat.le_of_ble_eq_true rfl) dX3_tellMark_89 (fun H locs hP hD hS => ?_)
          obtain ⟨hP, hD⟩ : PD D A [O3 a3 r3 v3_count x18, (cI κ (r3 3) 60 g7), (cI κ (r3 4) 60 g10), (cI κ (r3 5) 60 g13)] H := ⟨hP, hD⟩
          have h21 : 0 ≤ x18.toInt ∧ x18.toInt ≤ 60 := by omega
          refine lv_aload_n hx hb dX3_tellMark_92 rfl (lv_at hl 1 rfl) ?_
          refine va_get (D := D) (ci := 3) (v := .int x18) (C := RX3) (T := TX3) (N := 10) hx hb hts w1 hown hK.1 hP 0 rfl rfl 6 (by decide) w0 (fun _ h9 => h9) rfl dX3_tellMark_93 ?_
          have hpo : (0 ≤ x18.toInt ∧ x18.toInt ≤ 60) ∧ (∀ j : Nat, 0 ≤ (g7 j).toInt ∧ (g7 j).toInt ≤ 19) ∧ (∀ j : Nat, 0 ≤ (g10 j).toInt ∧ (g10 j).toInt ≤ 39) := ⟨h21, h9, h12⟩
          exact ret _ _ _ _ x18 (x18, g7, g10, g13) dX3_tellMark_96 hpo hP hD hS
        have c6 := ci_eq c6
        refine lv_bipush (v := (-3)) hx hb dX3_tellMark_50 (by decide) ?_
        have hpo : (0 ≤ v3_marks.toInt ∧ v3_marks.toInt ≤ 60) ∧ (∀ j : Nat, 0 ≤ (f3_markLine j).toInt ∧ (f3_markLine j).toInt ≤ 19) ∧ (∀ j : Nat, 0 ≤ (f3_markHole j).toInt ∧ (f3_markHole j).toInt ≤ 39) := ⟨i2, hf3_markLine, hf3_markHole⟩
        exact ret _ _ _ _ (-3) (v3_marks, f3_markLine, f3_markHole, f3_markOver) dX3_tellMark_52 hpo hP hD hS
      have c5 := ci_nle c5
      refine lv_aload_n hx hb dX3_tellMark_12 rfl (lv_at hl 1 rfl) ?_
      refine va_get (D := D) (ci := 3) (v := .ref (r3 3)) (C := RX3) (T := TX3) (N := 10) hx hb hts w1 hown hK.1 hP 0 rfl rfl 3 (by decide) w2 (fun _ h9 => h9) rfl dX3_tellMark_13 ?_
      refine lv_iload hx hb dX3_tellMark_16 (lv_at hl 0 rfl) ?_
      refine va_iald hx hb hK.1 hP 1 1 rfl rfl (i := k1) (ix (by omega) (by omega)) dX3_tellMark_18 ?_
      refine lv_topi (fun x22 e23 => ?_)
      have h24 : 0 ≤ x22.toInt ∧ x22.toInt ≤ 19 := by rw [e23]; exact hf3_markLine _
      refine lv_iload_n hx hb dX3_tellMark_19 rfl (lv_at hl 2 rfl) ?_
      refine lv_icmp_ne (tgt := 34) hx hb dX3_tellMark_20 (by decide) (fun c25 => ?_) (fun c25 => ?_)
      · have c25 := ci_ne c25
        obtain ⟨x26, e27⟩ : ∃ y : Int32, y = k1 + 1 := ⟨_, rfl⟩
        refine lv_iinc (v := x26) (lv' := [(4, .int x26), (0, .ref a3), (1, .int p1), (2, .int p2), (3, .int p3)]) hx hb dX3_tellMark_34 hl (k := 0) rfl (by rw [e27]; rfl) (by decide) rfl (fun ls hl => ?_)
        try have h28 : x26.toInt = k1.toInt + (1 : Int32).toInt := ci_add e27 (by omega) (by omega)
        refine lv_goto (tgt := 3) hx hb dX3_tellMark_37 (by decide) ?_
        exact ih3 x26 (by omega) (by omega) (by omega) _ _ hP hD hS _ hl
      have c25 := ci_eq c25
      refine lv_aload_n hx hb dX3_tellMark_23 rfl (lv_at hl 1 rfl) ?_
      refine va_get (D := D) (ci := 3) (v := .ref (r3 4)) (C := RX3) (T := TX3) (N := 10) hx hb hts w1 hown hK.1 hP 0 rfl rfl 4 (by decide) w3 (fun _ h9 => h9) rfl dX3_tellMark_24 ?_
      refine lv_iload hx hb dX3_tellMark_27 (lv_at hl 0 rfl) ?_
      refine va_iald hx hb hK.1 hP 2 1 rfl rfl (i := k1) (ix (by omega) (by omega)) dX3_tellMark_29 ?_
      refine lv_topi (fun x29 e30 => ?_)
      have h31 : 0 ≤ x29.toInt ∧ x29.toInt ≤ 39 := by rw [e30]; exact hf3_markHole _
      refine lv_iload_n hx hb dX3_tellMark_30 rfl (lv_at hl 3 rfl) ?_
      refine lv_icmp_eq (tgt := 40) hx hb dX3_tellMark_31 (by decide) (fun c32 => ?_) (fun c32 => ?_)
      · have c32 := ci_eq c32
        refine lv_iload hx hb dX3_tellMark_40 (lv_at hl 0 rfl) ?_
        refine lv_aload_n hx hb dX3_tellMark_42 rfl (lv_at hl 1 rfl) ?_
        refine va_get (D := D) (ci := 3) (v := .ref (r3 3)) (C := RX3) (T := TX3) (N := 10) hx hb hts w1 hown hK.1 hP 0 rfl rfl 3 (by decide) w2 (fun _ h9 => h9) rfl dX3_tellMark_43 ?_
        refine va_alen hx hb hK.1 hP 1 1 rfl rfl (v := 60) rfl dX3_tellMark_46 ?_
        refine lv_icmp_ne (tgt := 53) hx hb dX3_tellMark_47 (by decide) (fun c33 => ?_) (fun c33 => ?_)
        · have c33 := ci_ne c33
          refine lv_aload_n hx hb dX3_tellMark_53 rfl (lv_at hl 1 rfl) ?_
          refine va_get (D := D) (ci := 3) (v := .ref (r3 3)) (C := RX3) (T := TX3) (N := 10) hx hb hts w1 hown hK.1 hP 0 rfl rfl 3 (by decide) w2 (fun _ h9 => h9) rfl dX3_tellMark_54 ?_
          refine lv_iload hx hb dX3_tellMark_57 (lv_at hl 0 rfl) ?_
          refine lv_iload_n hx hb dX3_tellMark_59 rfl (lv_at hl 2 rfl) ?_
          refine va_iast hx hb hK.1 hP hD hS 1 1 rfl rfl (i := k1) (ix (by omega) (by omega)) dX3_tellMark_60 (fun H locs hP hD hS => ?_)
          obtain ⟨g34, e35⟩ : ∃ y : Nat → Int32, y = upd f3_markLine k1.toNatClampNeg p1 := ⟨_, rfl⟩
          rw [← e35] at hP hD
          obtain ⟨hP, hD⟩ : PD D A [O3 a3 r3 v3_count v3_marks, (cI κ (r3 3) 60 g34), (cI κ (r3 4) 60 f3_markHole), (cI κ (r3 5) 60 f3_markOver)] H := ⟨hP, hD⟩
          have h36 : ∀ j : Nat, 0 ≤ (g34 j).toInt ∧ (g34 j).toInt ≤ 19 := by rw [e35]; exact all_upd (P := fun z => 0 ≤ z.toInt ∧ z.toInt ≤ 19) hf3_markLine (by omega)
          refine lv_aload_n hx hb dX3_tellMark_61 rfl (lv_at hl 1 rfl) ?_
          refine va_get (D := D) (ci := 3) (v := .ref (r3 4)) (C := RX3) (T := TX3) (N := 10) hx hb hts w1 hown hK.1 hP 0 rfl rfl 4 (by decide) w3 (fun _ h9 => h9) rfl dX3_tellMark_62 ?_
          refine lv_iload hx hb dX3_tellMark_65 (lv_at hl 0 rfl) ?_
          refine lv_iload_n hx hb dX3_tellMark_67 rfl (lv_at hl 3 rfl) ?_
          refine va_iast hx hb hK.1 hP hD hS 2 1 rfl rfl (i := k1) (ix (by omega) (by omega)) dX3_tellMark_68 (fun H locs hP hD hS => ?_)
          obtain ⟨g37, e38⟩ : ∃ y : Nat → Int32, y = upd f3_markHole k1.toNatClampNeg p2 := ⟨_, rfl⟩
          rw [← e38] at hP hD
          obtain ⟨hP, hD⟩ : PD D A [O3 a3 r3 v3_count v3_marks, (cI κ (r3 3) 60 g34), (cI κ (r3 4) 60 g37), (cI κ (r3 5) 60 f3_markOver)] H := ⟨hP, hD⟩
          have h39 : ∀ j : Nat, 0 ≤ (g37 j).toInt ∧ (g37 j).toInt ≤ 39 := by rw [e38]; exact all_upd (P := fun z => 0 ≤ z.toInt ∧ z.toInt ≤ 39) hf3_markHole (by omega)
          refine lv_aload_n hx hb dX3_tellMark_69 rfl (lv_at hl 1 rfl) ?_
          refine va_get (D := D) (ci := 3) (v := .ref (r3 5)) (C := RX3) (T := TX3) (N := 10) hx hb hts w1 hown hK.1 hP 0 rfl rfl 5 (by decide) w4 (fun _ h9 => h9) rfl dX3_tellMark_70 ?_
          refine lv_iload hx hb dX3_tellMark_73 (lv_at hl 0 rfl) ?_
          refine lv_iload_n hx hb dX3_tellMark_75 rfl (lv_at hl 4 rfl) ?_
          refine va_iast hx hb hK.1 hP hD hS 3 1 rfl rfl (i := k1) (ix (by omega) (by omega)) dX3_tellMark_76 (fun H locs hP hD hS => ?_)
          obtain ⟨g40, e41⟩ : ∃ y : Nat → Int32, y = upd f3_markOver k1.toNatClampNeg p3 := ⟨_, rfl⟩
          rw [← e41] at hP hD
          obtain ⟨hP, hD⟩ : PD D A [O3 a3 r3 v3_count v3_marks, (cI κ (r3 3) 60 g34), (cI κ (r3 4) 60 g37), (cI κ (r3 5) 60 g40)] H := ⟨hP, hD⟩
          refine lv_aload_n hx hb dX3_tellMark_77 rfl (lv_at hl 1 rfl) ?_
          refine lv_aload_n hx hb dX3_tellMark_78 rfl (lv_at hl 1 rfl) ?_
          refine va_get (D := D) (ci := 3) (v := .int v3_marks) (C := RX3) (T := TX3) (N := 10) hx hb hts w1 hown hK.1 hP 0 rfl rfl 6 (by decide) w0 (fun _ h9 => h9) rfl dX3_tellMark_79 ?_
          refine lv_iload hx hb dX3_tellMark_82 (lv_at hl 0 rfl) ?_
          refine lv_iconst (v := 1) hx hb dX3_tellMark_84 (by decide) ?_
          refine lv_iadd hx hb dX3_tellMark_85 ?_
          refine lv_topi (fun x42 e43 => ?_)
          try have h44 : x42.toInt = k1.toInt + (1 : Int32).toInt := ci_add e43 (by omega) (by omega)
          refine va_mmax hx hb (hml.trans hl.1.symm) hown w5 w6 w7 w8 (Nat.le_of_ble_eq_true rfl) (Nat.le_of_ble_eq_true rfl) (Nat.le_of_ble_eq_true rfl) (Nat.le_of_ble_eq_true rfl) dX3_tellMark_86 ?_
          refine lv_topi (fun x45 e46 => ?_)
          have h47 := ci_max e46
          refine va_put (D := D) (ci := 3) (v := .int x45) (ty := .int) (C := RX3) (T := TX3) (N := 10) hx hb hts w1 tyX3 tyX3_ok nmX3 hown hK.1 hP hD hS 0 rfl rfl 6 (by decide) w0 (fun _ h9 => h9) rfl (by decide +kernel) rfl rfl (Nat.le_of_ble_eq_true rfl) dX3_tellMark_89 (fun H locs hP hD hS => ?_)
          obtain ⟨hP, hD⟩ : PD D A [O3 a3 r3 v3_count x45, (cI κ (r3 3) 60 g34), (cI κ (r3 4) 60 g37), (cI κ (r3 5) 60 g40)] H := ⟨hP, hD⟩
          have h48 : 0 ≤ x45.toInt ∧ x45.toInt ≤ 60 := by omega
          refine lv_aload_n hx hb dX3_tellMark_92 rfl (lv_at hl 1 rfl) ?_
          refine va_get (D := D) (ci := 3) (v := .int x45) (C := RX3) (T := TX3) (N := 10) hx hb hts w1 hown hK.1 hP 0 rfl rfl 6 (by decide) w0 (fun _ h9 => h9) rfl dX3_tellMark_93 ?_
          have hpo : (0 ≤ x45.toInt ∧ x45.toInt ≤ 60) ∧ (∀ j : Nat, 0 ≤ (g34 j).toInt ∧ (g34 j).toInt ≤ 19) ∧ (∀ j : Nat, 0 ≤ (g37 j).toInt ∧ (g37 j).toInt ≤ 39) := ⟨h48, h36, h39⟩
          exact ret _ _ _ _ x45 (x45, g34, g37, g40) dX3_tellMark_96 hpo hP hD hS
        have c33 := ci_eq c33
        refine lv_bipush (v := (-3)) hx hb dX3_tellMark_50 (by decide) ?_
        have hpo : (0 ≤ v3_marks.toInt ∧ v3_marks.toInt ≤ 60) ∧ (∀ j : Nat, 0 ≤ (f3_markLine j).toInt ∧ (f3_markLine j).toInt ≤ 19) ∧ (∀ j : Nat, 0 ≤ (f3_markHole j).toInt ∧ (f3_markHole j).toInt ≤ 39) := ⟨i2, hf3_markLine, hf3_markHole⟩
        exact ret _ _ _ _ (-3) (v3_marks, f3_markLine, f3_markHole, f3_markOver) dX3_tellMark_52 hpo hP hD hS
      have c32 := ci_ne c32
      obtain ⟨x49, e50⟩ : ∃ y : Int32, y = k1 + 1 := ⟨_, rfl⟩
      refine lv_iinc (v := x49) (lv' := [(4, .int x49), (0, .ref a3), (1, .int p1), (2, .int p2), (3, .int p3)]) hx hb dX3_tellMark_34 hl (k := 0) rfl (by rw [e50]; rfl) (by decide) rfl (fun ls hl => ?_)
      try have h51 : x49.toInt = k1.toInt + (1 : Int32).toInt := ci_add e50 (by omega) (by omega)
      refine lv_goto (tgt := 3) hx hb dX3_tellMark_37 (by decide) ?_
      exact ih3 x49 (by omega) (by omega) (by omega) _ _ hP hD hS _ hl
  exact lp3 ((v3_marks.toInt - (0 : Int32).toInt).toNat + 1) 0 (by omega) (by omega) (by omega) _ _ hP hD hS _ hl
set_option maxHeartbeats 4000000 in
set_option maxRecDepth 100000 in
theorem k_X3_marksThatAre (l : Launch) (D : va_G) (κ : Nat → ClassId) (β : Nat) (a3 : Nat) (r3 : Nat → Nat) (v3_count : Int32) (v3_marks : Int32) (f3_markOver : Nat → Int32) (sz : Nat) (p1 : Int32) (i1 : Rg 0 20 v3_count) (i2 : Rg 0 60 v3_marks) : Met l yX3_marksThatAre wsX3_marksThatAre ({ frames := 1, cells := 0, slots := 0, locals := 20 } : Room) (PcK D κ β [O3 a3 r3 v3_count v3_marks, (cI κ (r3 5) 60 f3_markOver)] sz [.ref a3, .int p1]) (QiK D (fun (r : Int32) (u : Unit) => True) (fun (u : Unit) => [O3 a3 r3 v3_count v3_marks, (cI κ (r3 5) 60 f3_markOver)]) [O3 a3 r3 v3_count v3_marks, (cI κ (r3 5) 60 f3_markOver)] sz) 0 0 (va_A [O3 a3 r3 v3_count v3_marks, (cI κ (r3 5) 60 f3_markOver)] sz) := by
  refine ofK_i (cc := cX3_marksThatAre) (maxL := 4) (own := RX3) (by decide) rfl rfl (Nat.le_of_ble_eq_true rfl) ?_
  intro p e s m args below meth c Q A ls hsz hx hb hml hts hown hK hA hAB hP hD hl ret
  have hS : va_S A s.heap s.heap [] := va_S.rf
  have hl : lv_has ls 4 [(0, .ref a3), (1, .int p1)] := hl
  have w0 := hts (.fieldLink RX3 44 "OlderSkin$Lines" "marks" "I") (List.mem_of_getElem? (i := 1) rfl)
  have w1 := (fun w h => List.mem_cons_of_mem _ (List.mem_append_right _ h) : ∀ w ∈ u_ws RX3 TX3 10, w ∈ wsX3_marksThatAre)
  have w2 := hts (.fieldLink RX3 24 "OlderSkin$Lines" "markOver" "[I") (List.mem_of_getElem? (i := 2) rfl)
  have w3 := hts (.initialized RX11) (List.mem_of_getElem? (i := 4) rfl)
  have w4 := hts (.static yX11_asBit) (List.mem_of_getElem? (i := 3) rfl)
  have w5 := hK.2.1 ("OlderSkin$Lines", 53, ⟨"OlderSkin", "asBit", "(Z)I"⟩, "OlderSkin") (by decide +kernel)
  have l0 : (0 : Int32).toInt = 0 := by decide
  have l1 : (1 : Int32).toInt = 1 := by decide
  have i2 : 0 ≤ v3_marks.toInt ∧ v3_marks.toInt ≤ 60 := i2
  refine lv_iconst (v := 0) hx hb dX3_marksThatAre_0 (by decide) ?_
  refine lv_istore_n (lv' := [(2, .int 0), (0, .ref a3), (1, .int p1)]) hx hb dX3_marksThatAre_1 rfl hl (by decide) rfl (fun ls hl => ?_)
  refine lv_iconst (v := 0) hx hb dX3_marksThatAre_2 (by decide) ?_
  refine lv_istore_n (lv' := [(3, .int 0), (2, .int 0), (0, .ref a3), (1, .int p1)]) hx hb dX3_marksThatAre_3 rfl hl (by decide) rfl (fun ls hl => ?_)
  have lp4 : ∀ (n4 : Nat) (k1 : Int32) (k2 : Int32), (0 ≤ k1.toInt) → (v3_marks.toInt - k1.toInt).toNat < n4 → ∀ (H : Heap) (locs : List Loc), va_P D vwCl [O3 a3 r3 v3_count v3_marks, (cI κ (r3 5) 60 f3_markOver)] H → va_D A [O3 a3 r3 v3_count v3_marks, (cI κ (r3 5) 60 f3_markOver)] → va_S A s.heap H locs → ∀ ls : Array Slot, lv_has ls 4 [(3, .int k1), (2, .int k2), (0, .ref a3), (1, .int p1)] → W p l e ({ frames := 1, cells := 0, slots := 0, locals := 20 } : Room) s m args below meth c H locs 0 0 Q (F0 m 4 ls []) := by
    intro n4
    induction n4 with
    | zero =>
      intro k1 k2 h3 m4
      exact absurd m4 (Nat.not_lt_zero _)
    | succ n4 ih4 =>
      intro k1 k2 h3 m4 H locs hP hD hS ls hl
      refine lv_iload_n hx hb dX3_marksThatAre_4 rfl (lv_at hl 0 rfl) ?_
      refine lv_aload_n hx hb dX3_marksThatAre_5 rfl (lv_at hl 2 rfl) ?_
      refine va_get (D := D) (ci := 3) (v := .int v3_marks) (C := RX3) (T := TX3) (N := 10) hx hb hts w1 hown hK.1 hP 0 rfl rfl 6 (by decide) w0 (fun _ h9 => h9) rfl dX3_marksThatAre_6 ?_
      refine lv_icmp_ge (tgt := 39) hx hb dX3_marksThatAre_9 (by decide) (fun c5 => ?_) (fun c5 => ?_)
      · have c5 := ci_le c5
        refine lv_iload_n hx hb dX3_marksThatAre_39 rfl (lv_at hl 1 rfl) ?_
        exact ret _ _ _ _ k2 () dX3_marksThatAre_40 trivial hP hD hS
      have c5 := ci_nle c5
      refine lv_iload_n hx hb dX3_marksThatAre_12 rfl (lv_at hl 1 rfl) ?_
      refine lv_aload_n hx hb dX3_marksThatAre_13 rfl (lv_at hl 2 rfl) ?_
      refine va_get (D := D) (ci := 3) (v := .ref (r3 5)) (C := RX3) (T := TX3) (N := 10) hx hb hts w1 hown hK.1 hP 0 rfl rfl 5 (by decide) w2 (fun _ h9 => h9) rfl dX3_marksThatAre_14 ?_
      refine lv_iload_n hx hb dX3_marksThatAre_17 rfl (lv_at hl 0 rfl) ?_
      refine va_iald hx hb hK.1 hP 1 1 rfl rfl (i := k1) (ix (by omega) (by omega)) dX3_marksThatAre_18 ?_
      refine lv_topi (fun x6 e7 => ?_)
      refine lv_iload_n hx hb dX3_marksThatAre_19 rfl (lv_at hl 3 rfl) ?_
      refine lv_icmp_ne (tgt := 27) hx hb dX3_marksThatAre_20 (by decide) (fun c8 => ?_) (fun c8 => ?_)
      · have c8 := ci_ne c8
        refine lv_iconst (v := 0) hx hb dX3_marksThatAre_27 (by decide) ?_
        refine kcm_i hA hAB hP hD hS [false, false] rfl (fun _ => rfl) (fun hPc hDc => va_runSN (As := [.int 0]) (rest := [.int k2]) ⟨hx, hb, hml, hown, hts⟩ (k_X11_asBit l D κ β H.size 0) ⟨va_cnB 1 hts gX3_marksThatAre_X11_asBit_n53 rfl rfl rfl w5 w3 (by decide +kernel) ⟨Nat.le_of_ble_eq_true rfl, Nat.le_of_ble_eq_true rfl⟩, w4, trivial⟩ (pk_S hK hS hAB hPc hDc) rfl rfl hl.1 rfl (lv_room (Nat.le_of_ble_eq_true rfl)) dX3_marksThatAre_28 ⟨Nat.le_of_ble_eq_true rfl, Nat.le_of_ble_eq_true rfl⟩) (fun x9 u10 H locs hw hPD hS => ?_)
        have h11 : (x9.toInt = 1 ∧ (0 : Int32).toInt ≠ 0) ∨ (x9.toInt = 0 ∧ (0 : Int32).toInt = 0) := hw
        obtain ⟨hP, hD⟩ : PD D A [O3 a3 r3 v3_count v3_marks, (cI κ (r3 5) 60 f3_markOver)] H := hPD
        refine lv_iadd hx hb dX3_marksThatAre_31 ?_
        refine lv_topi (fun x12 e13 => ?_)
        try have h14 : x12.toInt = k2.toInt + x9.toInt := ci_add e13 (by omega) (by omega)
        refine lv_istore_n (lv' := [(2, .int x12), (3, .int k1), (0, .ref a3), (1, .int p1)]) hx hb dX3_marksThatAre_32 rfl hl (by decide) rfl (fun ls hl => ?_)
        obtain ⟨x15, e16⟩ : ∃ y : Int32, y = k1 + 1 := ⟨_, rfl⟩
        refine lv_iinc (v := x15) (lv' := [(3, .int x15), (2, .int x12), (0, .ref a3), (1, .int p1)]) hx hb dX3_marksThatAre_33 hl (k := 1) rfl (by rw [e16]; rfl) (by decide) rfl (fun ls hl => ?_)
        try have h17 : x15.toInt = k1.toInt + (1 : Int32).toInt := ci_add e16 (by omega) (by omega)
        refine lv_goto (tgt := 4) hx hb dX3_marksThatAre_36 (by decide) ?_
        exact ih4 x15 x12 (by omega) (by omega) _ _ hP hD hS _ hl
      have c8 := ci_eq c8
      refine lv_iconst (v := 1) hx hb dX3_marksThatAre_23 (by decide) ?_
      refine lv_goto (tgt := 28) hx hb dX3_marksThatAre_24 (by decide) ?_
      refine kcm_i hA hAB hP hD hS [false, false] rfl (fun _ => rfl) (fun hPc hDc => va_runSN (As := [.int 1]) (rest := [.int k2]) ⟨hx, hb, hml, hown, hts⟩ (k_X11_asBit l D κ β H.size 1) ⟨va_cnB 1 hts gX3_marksThatAre_X11_asBit_n53 rfl rfl rfl w5 w3 (by decide +kernel) ⟨Nat.le_of_ble_eq_true rfl, Nat.le_of_ble_eq_true rfl⟩, w4, trivial⟩ (pk_S hK hS hAB hPc hDc) rfl rfl hl.1 rfl (lv_room (Nat.le_of_ble_eq_true rfl)) dX3_marksThatAre_28 ⟨Nat.le_of_ble_eq_true rfl, Nat.le_of_ble_eq_true rfl⟩) (fun x18 u19 H locs hw hPD hS => ?_)
      have h20 : (x18.toInt = 1 ∧ (1 : Int32).toInt ≠ 0) ∨ (x18.toInt = 0 ∧ (1 : Int32).toInt = 0) := hw
      obtain ⟨hP, hD⟩ : PD D A [O3 a3 r3 v3_count v3_marks, (cI κ (r3 5) 60 f3_markOver)] H := hPD
      refine lv_iadd hx hb dX3_marksThatAre_31 ?_
      refine lv_topi (fun x21 e22 => ?_)
      try have h23 : x21.toInt = k2.toInt + x18.toInt := ci_add e22 (by omega) (by omega)
      refine lv_istore_n (lv' := [(2, .int x21), (3, .int k1), (0, .ref a3), (1, .int p1)]) hx hb dX3_marksThatAre_32 rfl hl (by decide) rfl (fun ls hl => ?_)
      obtain ⟨x24, e25⟩ : ∃ y : Int32, y = k1 + 1 := ⟨_, rfl⟩
      refine lv_iinc (v := x24) (lv' := [(3, .int x24), (2, .int x21), (0, .ref a3), (1, .int p1)]) hx hb dX3_marksThatAre_33 hl (k := 1) rfl (by rw [e25]; rfl) (by decide) rfl (fun ls hl => ?_)
      try have h26 : x24.toInt = k1.toInt + (1 : Int32).toInt := ci_add e25 (by omega) (by omega)
      refine lv_goto (tgt := 4) hx hb dX3_marksThatAre_36 (by decide) ?_
      exact ih4 x24 x21 (by omega) (by omega) _ _ hP hD hS _ hl
  exact lp4 ((v3_marks.toInt - (0 : Int32).toInt).toNat + 1) 0 0 (by omega) (by omega) _ _ hP hD hS _ hl
set_option maxHeartbeats 4000000 in
set_option maxRecDepth 100000 in
theorem k_X3_findInks (l : Launch) (D : va_G) (κ : Nat → ClassId) (β : Nat) (a3 : Nat) (r3 : Nat → Nat) (v3_count : Int32) (v3_marks : Int32) (f3_inkOf : Nat → Int32) (f3_markLine : Nat → Int32) (f3_markHole : Nat → Int32) (f3_markOver : Nat → Int32) (f3_inksOver : Nat → Int32) (f3_inksRound : Nat → Int32) (f3_inksAhead : Nat → Int32) (fq1 : Nat → Int32) (sz : Nat) (q1 : Nat) (p2 : Int32) (i1 : Rg 0 20 v3_count) (i2 : Rg 0 60 v3_marks) (hf3_markLine : ∀ j : Nat, 0 ≤ (f3_markLine j).toInt ∧ (f3_markLine j).toInt ≤ 19) (hf3_markHole : ∀ j : Nat, 0 ≤ (f3_markHole j).toInt ∧ (f3_markHole j).toInt ≤ 39) (hfq1 : ∀ j : Nat, 0 ≤ (fq1 j).toInt ∧ (fq1 j).toInt ≤ 39) (i3 : p2.toInt ≤ 40) : Met l yX3_findInks wsX3_findInks ({ frames := 1, cells := 0, slots := 0, locals := 23 } : Room) (PcK D κ β [O3 a3 r3 v3_count v3_marks, (cI κ (r3 1) 20 f3_inkOf), (cI κ (r3 3) 60 f3_markLine), (cI κ (r3 4) 60 f3_markHole), (cI κ (r3 5) 60 f3_markOver), (cI κ (r3 7) 40 f3_inksOver), (cI κ (r3 8) 40 f3_inksRound), (cI κ (r3 9) 6 f3_inksAhead), (cI κ q1 40 fq1)] sz [.ref a3, .ref q1, .int p2]) (QvK D (fun (u : (Nat → Int32) × (Nat → Int32) × (Nat → Int32)) => True) (fun (u : (Nat → Int32) × (Nat → Int32) × (Nat → Int32)) => [O3 a3 r3 v3_count v3_marks, (cI κ (r3 1) 20 f3_inkOf), (cI κ (r3 3) 60 f3_markLine), (cI κ (r3 4) 60 f3_markHole), (cI κ (r3 5) 60 f3_markOver), (cI κ (r3 7) 40 u.1), (cI κ (r3 8) 40 u.2.1), (cI κ (r3 9) 6 u.2.2), (cI κ q1 40 fq1)]) [O3 a3 r3 v3_count v3_marks, (cI κ (r3 1) 20 f3_inkOf), (cI κ (r3 3) 60 f3_markLine), (cI κ (r3 4) 60 f3_markHole), (cI κ (r3 5) 60 f3_markOver), (cI κ (r3 7) 40 f3_inksOver), (cI κ (r3 8) 40 f3_inksRound), (cI κ (r3 9) 6 f3_inksAhead), (cI κ q1 40 fq1)] sz) 0 0 (va_A [O3 a3 r3 v3_count v3_marks, (cI κ (r3 1) 20 f3_inkOf), (cI κ (r3 3) 60 f3_markLine), (cI κ (r3 4) 60 f3_markHole), (cI κ (r3 5) 60 f3_markOver), (cI κ (r3 7) 40 f3_inksOver), (cI κ (r3 8) 40 f3_inksRound), (cI κ (r3 9) 6 f3_inksAhead), (cI κ q1 40 fq1)] sz) := by
  refine ofK_v (cc := cX3_findInks) (maxL := 6) (own := RX3) (by decide) rfl rfl (Nat.le_of_ble_eq_true rfl) ?_
  intro p e s m args below meth c Q A ls hsz hx hb hml hts hown hK hA hAB hP hD hl hname ret
  have hS : va_S A s.heap s.heap [] := va_S.rf
  have hl : lv_has ls 6 [(0, .ref a3), (1, .ref q1), (2, .int p2)] := hl
  have w0 := hts (.fieldLink RX3 27 "OlderSkin$Lines" "inksOver" "[I") (List.mem_of_getElem? (i := 1) rfl)
  have w1 := (fun w h => List.mem_cons_of_mem _ (List.mem_append_right _ h) : ∀ w ∈ u_ws RX3 TX3 10, w ∈ wsX3_findInks)
  have w2 := hts (.fieldLink RX3 30 "OlderSkin$Lines" "inksRound" "[I") (List.mem_of_getElem? (i := 2) rfl)
  have w3 := hts (.fieldLink RX3 33 "OlderSkin$Lines" "inksAhead" "[I") (List.mem_of_getElem? (i := 3) rfl)
  have w4 := hts (.fieldLink RX3 44 "OlderSkin$Lines" "marks" "I") (List.mem_of_getElem? (i := 4) rfl)
  have w5 := hts (.initialized RX11) (List.mem_of_getElem? (i := 14) rfl)
  have w6 := hts (.static yX11_hasBit) (List.mem_of_getElem? (i := 13) rfl)
  have w7 := hK.2.1 ("OlderSkin$Lines", 63, ⟨"OlderSkin", "hasBit", "(II)Z"⟩, "OlderSkin") (by decide +kernel)
  have w8 := hts (.fieldLink RX3 21 "OlderSkin$Lines" "markHole" "[I") (List.mem_of_getElem? (i := 5) rfl)
  have w9 := hts (.fieldLink RX3 15 "OlderSkin$Lines" "inkOf" "[I") (List.mem_of_getElem? (i := 6) rfl)
  have w10 := hts (.fieldLink RX3 18 "OlderSkin$Lines" "markLine" "[I") (List.mem_of_getElem? (i := 7) rfl)
  have w11 := hts (.fieldLink RX3 24 "OlderSkin$Lines" "markOver" "[I") (List.mem_of_getElem? (i := 8) rfl)
  have l0 : (0 : Int32).toInt = 0 := by decide
  have l1 : (6 : Int32).toInt = 6 := by decide
  have l2 : (1 : Int32).toInt = 1 := by decide
  have l3 : ((-1) : Int32).toInt = -1 := by decide
  have i2 : 0 ≤ v3_marks.toInt ∧ v3_marks.toInt ≤ 60 := i2
  refine lv_aload_n hx hb dX3_findInks_0 rfl (lv_at hl 0 rfl) ?_
  refine va_get (D := D) (ci := 3) (v := .ref (r3 7)) (C := RX3) (T := TX3) (N := 10) hx hb hts w1 hown hK.1 hP 0 rfl rfl 7 (by decide) w0 (fun _ h9 => h9) rfl dX3_findInks_1 ?_
  refine lv_iconst (v := 0) hx hb dX3_findInks_4 (by decide) ?_
  refine kcm_v hA hAB hP hD hS [false, false, false, false, false, true, false, false, false] rfl (fun _ => rfl) (fun hPc hDc => va_runS (As := [.ref (r3 7), .int 0]) (rest := []) ⟨hx, hb, hml, hown, hts⟩ (k_J7_fill_53178 l D κ β 40 f3_inksOver s.heap.size (r3 7) 0 (by omega)) (va_cwS 2 hts gX3_findInks_J7_fill_53178 rfl rfl rfl (by decide +kernel) ⟨Nat.le_of_ble_eq_true rfl, Nat.le_of_ble_eq_true rfl⟩) (pk_S hK hS hAB hPc hDc) rfl rfl hl.1 rfl (lv_room (Nat.le_of_ble_eq_true rfl)) dX3_findInks_5 ⟨Nat.le_of_ble_eq_true rfl, Nat.le_of_ble_eq_true rfl⟩) (fun g1 H locs hw hPD hS => ?_)
  obtain ⟨hP, hD⟩ : PD D A [O3 a3 r3 v3_count v3_marks, (cI κ (r3 1) 20 f3_inkOf), (cI κ (r3 3) 60 f3_markLine), (cI κ (r3 4) 60 f3_markHole), (cI κ (r3 5) 60 f3_markOver), (cI κ (r3 7) 40 g1), (cI κ (r3 8) 40 f3_inksRound), (cI κ (r3 9) 6 f3_inksAhead), (cI κ q1 40 fq1)] H := hPD
  refine lv_aload_n hx hb dX3_findInks_8 rfl (lv_at hl 0 rfl) ?_
  refine va_get (D := D) (ci := 3) (v := .ref (r3 8)) (C := RX3) (T := TX3) (N := 10) hx hb hts w1 hown hK.1 hP 0 rfl rfl 8 (by decide) w2 (fun _ h9 => h9) rfl dX3_findInks_9 ?_
  refine lv_iconst (v := 0) hx hb dX3_findInks_12 (by decide) ?_
  refine kcm_v hA hAB hP hD hS [false, false, false, false, false, false, true, false, false] rfl (fun _ => rfl) (fun hPc hDc => va_runS (As := [.ref (r3 8), .int 0]) (rest := []) ⟨hx, hb, hml, hown, hts⟩ (k_J7_fill_53178 l D κ β 40 f3_inksRound H.size (r3 8) 0 (by omega)) (va_cwS 2 hts gX3_findInks_J7_fill_53178 rfl rfl rfl (by decide +kernel) ⟨Nat.le_of_ble_eq_true rfl, Nat.le_of_ble_eq_true rfl⟩) (pk_S hK hS hAB hPc hDc) rfl rfl hl.1 rfl (lv_room (Nat.le_of_ble_eq_true rfl)) dX3_findInks_13 ⟨Nat.le_of_ble_eq_true rfl, Nat.le_of_ble_eq_true rfl⟩) (fun g2 H locs hw hPD hS => ?_)
  obtain ⟨hP, hD⟩ : PD D A [O3 a3 r3 v3_count v3_marks, (cI κ (r3 1) 20 f3_inkOf), (cI κ (r3 3) 60 f3_markLine), (cI κ (r3 4) 60 f3_markHole), (cI κ (r3 5) 60 f3_markOver), (cI κ (r3 7) 40 g1), (cI κ (r3 8) 40 g2), (cI κ (r3 9) 6 f3_inksAhead), (cI κ q1 40 fq1)] H := hPD
  refine lv_aload_n hx hb dX3_findInks_16 rfl (lv_at hl 0 rfl) ?_
  refine va_get (D := D) (ci := 3) (v := .ref (r3 9)) (C := RX3) (T := TX3) (N := 10) hx hb hts w1 hown hK.1 hP 0 rfl rfl 9 (by decide) w3 (fun _ h9 => h9) rfl dX3_findInks_17 ?_
  refine lv_iconst (v := 0) hx hb dX3_findInks_20 (by decide) ?_
  refine kcm_v hA hAB hP hD hS [false, false, false, false, false, false, false, true, false] rfl (fun _ => rfl) (fun hPc hDc => va_runS (As := [.ref (r3 9), .int 0]) (rest := []) ⟨hx, hb, hml, hown, hts⟩ (k_J7_fill_53178 l D κ β 6 f3_inksAhead H.size (r3 9) 0 (by omega)) (va_cwS 2 hts gX3_findInks_J7_fill_53178 rfl rfl rfl (by decide +kernel) ⟨Nat.le_of_ble_eq_true rfl, Nat.le_of_ble_eq_true rfl⟩) (pk_S hK hS hAB hPc hDc) rfl rfl hl.1 rfl (lv_room (Nat.le_of_ble_eq_true rfl)) dX3_findInks_21 ⟨Nat.le_of_ble_eq_true rfl, Nat.le_of_ble_eq_true rfl⟩) (fun g3 H locs hw hPD hS => ?_)
  obtain ⟨hP, hD⟩ : PD D A [O3 a3 r3 v3_count v3_marks, (cI κ (r3 1) 20 f3_inkOf), (cI κ (r3 3) 60 f3_markLine), (cI κ (r3 4) 60 f3_markHole), (cI κ (r3 5) 60 f3_markOver), (cI κ (r3 7) 40 g1), (cI κ (r3 8) 40 g2), (cI κ (r3 9) 6 g3), (cI κ q1 40 fq1)] H := hPD
  refine lv_iconst (v := 0) hx hb dX3_findInks_24 (by decide) ?_
  refine lv_istore_n (lv' := [(3, .int 0), (0, .ref a3), (1, .ref q1), (2, .int p2)]) hx hb dX3_findInks_25 rfl hl (by decide) rfl (fun ls hl => ?_)
  have lp26 : ∀ (n26 : Nat) (k4 : Int32) (g5 : Nat → Int32) (g6 : Nat → Int32), (0 ≤ k4.toInt) → (v3_marks.toInt - k4.toInt).toNat < n26 → ∀ (H : Heap) (locs : List Loc), va_P D vwCl [O3 a3 r3 v3_count v3_marks, (cI κ (r3 1) 20 f3_inkOf), (cI κ (r3 3) 60 f3_markLine), (cI κ (r3 4) 60 f3_markHole), (cI κ (r3 5) 60 f3_markOver), (cI κ (r3 7) 40 g5), (cI κ (r3 8) 40 g6), (cI κ (r3 9) 6 g3), (cI κ q1 40 fq1)] H → va_D A [O3 a3 r3 v3_count v3_marks, (cI κ (r3 1) 20 f3_inkOf), (cI κ (r3 3) 60 f3_markLine), (cI κ (r3 4) 60 f3_markHole), (cI κ (r3 5) 60 f3_markOver), (cI κ (r3 7) 40 g5), (cI κ (r3 8) 40 g6), (cI κ (r3 9) 6 g3), (cI κ q1 40 fq1)] → va_S A s.heap H locs → ∀ ls : Array Slot, lv_has ls 6 [(3, .int k4), (0, .ref a3), (1, .ref q1), (2, .int p2)] → W p l e ({ frames := 1, cells := 0, slots := 0, locals := 23 } : Room) s m args below meth c H locs 0 0 Q (F0 m 26 ls []) := by
    intro n26
    induction n26 with
    | zero =>
      intro k4 g5 g6 h7 m8
      exact absurd m8 (Nat.not_lt_zero _)
    | succ n26 ih26 =>
      intro k4 g5 g6 h7 m8 H locs hP hD hS ls hl
      refine lv_iload_n hx hb dX3_findInks_26 rfl (lv_at hl 0 rfl) ?_
      refine lv_aload_n hx hb dX3_findInks_27 rfl (lv_at hl 1 rfl) ?_
      refine va_get (D := D) (ci := 3) (v := .int v3_marks) (C := RX3) (T := TX3) (N := 10) hx hb hts w1 hown hK.1 hP 0 rfl rfl 6 (by decide) w4 (fun _ h9 => h9) rfl dX3_findInks_28 ?_
      refine lv_icmp_ge (tgt := 102) hx hb dX3_findInks_31 (by decide) (fun c9 => ?_) (fun c9 => ?_)
      · have c9 := ci_le c9
        refine lv_iconst (v := 0) hx hb dX3_findInks_102 (by decide) ?_
        refine lv_istore_n (lv' := [(3, .int 0), (0, .ref a3), (1, .ref q1), (2, .int p2)]) hx hb dX3_findInks_103 rfl hl (by decide) rfl (fun ls hl => ?_)
        have lp104 : ∀ (n104 : Nat) (k10 : Int32) (g11 : Nat → Int32), (0 ≤ k10.toInt) → (p2.toInt - k10.toInt).toNat < n104 → ∀ (H : Heap) (locs : List Loc), va_P D vwCl [O3 a3 r3 v3_count v3_marks, (cI κ (r3 1) 20 f3_inkOf), (cI κ (r3 3) 60 f3_markLine), (cI κ (r3 4) 60 f3_markHole), (cI κ (r3 5) 60 f3_markOver), (cI κ (r3 7) 40 g5), (cI κ (r3 8) 40 g6), (cI κ (r3 9) 6 g11), (cI κ q1 40 fq1)] H → va_D A [O3 a3 r3 v3_count v3_marks, (cI κ (r3 1) 20 f3_inkOf), (cI κ (r3 3) 60 f3_markLine), (cI κ (r3 4) 60 f3_markHole), (cI κ (r3 5) 60 f3_markOver), (cI κ (r3 7) 40 g5), (cI κ (r3 8) 40 g6), (cI κ (r3 9) 6 g11), (cI κ q1 40 fq1)] → va_S A s.heap H locs → ∀ ls : Array Slot, lv_has ls 6 [(3, .int k10), (0, .ref a3), (1, .ref q1), (2, .int p2)] → W p l e ({ frames := 1, cells := 0, slots := 0, locals := 23 } : Room) s m args below meth c H locs 0 0 Q (F0 m 104 ls []) := by
          intro n104
          induction n104 with
          | zero =>
            intro k10 g11 h12 m13
            exact absurd m13 (Nat.not_lt_zero _)
          | succ n104 ih104 =>
            intro k10 g11 h12 m13 H locs hP hD hS ls hl
            refine lv_iload_n hx hb dX3_findInks_104 rfl (lv_at hl 0 rfl) ?_
            refine lv_iload_n hx hb dX3_findInks_105 rfl (lv_at hl 3 rfl) ?_
            refine lv_icmp_ge (tgt := 168) hx hb dX3_findInks_106 (by decide) (fun c14 => ?_) (fun c14 => ?_)
            · have c14 := ci_le c14
              exact ret _ _ _ _ (g5, g6, g11) dX3_findInks_168 trivial hP hD hS
            have c14 := ci_nle c14
            refine lv_iconst (v := 0) hx hb dX3_findInks_109 (by decide) ?_
            refine lv_istore (lv' := [(4, .int 0), (3, .int k10), (0, .ref a3), (1, .ref q1), (2, .int p2)]) hx hb dX3_findInks_110 hl (by decide) rfl (fun ls hl => ?_)
            have lp112 : ∀ (n112 : Nat) (k15 : Int32) (g16 : Nat → Int32), (0 ≤ k15.toInt) → (6 - k15.toInt).toNat < n112 → ∀ (H : Heap) (locs : List Loc), va_P D vwCl [O3 a3 r3 v3_count v3_marks, (cI κ (r3 1) 20 f3_inkOf), (cI κ (r3 3) 60 f3_markLine), (cI κ (r3 4) 60 f3_markHole), (cI κ (r3 5) 60 f3_markOver), (cI κ (r3 7) 40 g5), (cI κ (r3 8) 40 g6), (cI κ (r3 9) 6 g16), (cI κ q1 40 fq1)] H → va_D A [O3 a3 r3 v3_count v3_marks, (cI κ (r3 1) 20 f3_inkOf), (cI κ (r3 3) 60 f3_markLine), (cI κ (r3 4) 60 f3_markHole), (cI κ (r3 5) 60 f3_markOver), (cI κ (r3 7) 40 g5), (cI κ (r3 8) 40 g6), (cI κ (r3 9) 6 g16), (cI κ q1 40 fq1)] → va_S A s.heap H locs → ∀ ls : Array Slot, lv_has ls 6 [(4, .int k15), (3, .int k10), (0, .ref a3), (1, .ref q1), (2, .int p2)] → W p l e ({ frames := 1, cells := 0, slots := 0, locals := 23 } : Room) s m args below meth c H locs 0 0 Q (F0 m 112 ls []) := by
              intro n112
              induction n112 with
              | zero =>
                intro k15 g16 h17 m18
                exact absurd m18 (Nat.not_lt_zero _)
              | succ n112 ih112 =>
                intro k15 g16 h17 m18 H locs hP hD hS ls hl
                refine lv_iload hx hb dX3_findInks_112 (lv_at hl 0 rfl) ?_
                refine lv_bipush (v := 6) hx hb dX3_findInks_114 (by decide) ?_
                refine lv_icmp_ge (tgt := 162) hx hb dX3_findInks_116 (by decide) (fun c19 => ?_) (fun c19 => ?_)
                · have c19 := ci_le c19
                  obtain ⟨x20, e21⟩ : ∃ y : Int32, y = k10 + 1 := ⟨_, rfl⟩
                  refine lv_iinc (v := x20) (lv' := [(3, .int x20), (4, .int k15), (0, .ref a3), (1, .ref q1), (2, .int p2)]) hx hb dX3_findInks_162 hl (k := 1) rfl (by rw [e21]; rfl) (by decide) rfl (fun ls hl => ?_)
                  try have h22 : x20.toInt = k10.toInt + (1 : Int32).toInt := ci_add e21 (by omega) (by omega)
                  refine lv_goto (tgt := 104) hx hb dX3_findInks_165 (by decide) ?_
                  exact ih104 x20 g16 (by omega) (by omega) _ _ hP hD hS _ (lv_sub hl [0, 2, 3, 4] rfl)
                have c19 := ci_nle c19
                refine lv_aload_n hx hb dX3_findInks_119 rfl (lv_at hl 2 rfl) ?_
                refine va_get (D := D) (ci := 3) (v := .ref (r3 8)) (C := RX3) (T := TX3) (N := 10) hx hb hts w1 hown hK.1 hP 0 rfl rfl 8 (by decide) w2 (fun _ h9 => h9) rfl dX3_findInks_120 ?_
                refine lv_iload_n hx hb dX3_findInks_123 rfl (lv_at hl 1 rfl) ?_
                refine va_iald hx hb hK.1 hP 6 1 rfl rfl (i := k10) (ix (by omega) (by omega)) dX3_findInks_124 ?_
                refine lv_topi (fun x23 e24 => ?_)
                refine lv_iload hx hb dX3_findInks_125 (lv_at hl 0 rfl) ?_
                refine kcm_i hA hAB hP hD hS [false, false, false, false, false, false, false, false, false] rfl (fun _ => rfl) (fun hPc hDc => va_runSN (As := [.int x23, .int k15]) (rest := []) ⟨hx, hb, hml, hown, hts⟩ (k_X11_hasBit l D κ β H.size x23 k15) ⟨va_cnB 2 hts gX3_findInks_X11_hasBit_n63 rfl rfl rfl w7 w5 (by decide +kernel) ⟨Nat.le_of_ble_eq_true rfl, Nat.le_of_ble_eq_true rfl⟩, w6, trivial⟩ (pk_S hK hS hAB hPc hDc) rfl rfl hl.1 rfl (lv_room (Nat.le_of_ble_eq_true rfl)) dX3_findInks_127 ⟨Nat.le_of_ble_eq_true rfl, Nat.le_of_ble_eq_true rfl⟩) (fun x25 u26 H locs hw hPD hS => ?_)
                have h27 : x25.toInt = 0 ∨ x25.toInt = 1 := hw
                obtain ⟨hP, hD⟩ : PD D A [O3 a3 r3 v3_count v3_marks, (cI κ (r3 1) 20 f3_inkOf), (cI κ (r3 3) 60 f3_markLine), (cI κ (r3 4) 60 f3_markHole), (cI κ (r3 5) 60 f3_markOver), (cI κ (r3 7) 40 g5), (cI κ (r3 8) 40 g6), (cI κ (r3 9) 6 g16), (cI κ q1 40 fq1)] H := hPD
                refine lv_if_eq (tgt := 156) hx hb dX3_findInks_130 (by decide) (fun c28 => ?_) (fun c28 => ?_)
                · have c28 := ci_eq c28
                  obtain ⟨x29, e30⟩ : ∃ y : Int32, y = k15 + 1 := ⟨_, rfl⟩
                  refine lv_iinc (v := x29) (lv' := [(4, .int x29), (3, .int k10), (0, .ref a3), (1, .ref q1), (2, .int p2)]) hx hb dX3_findInks_156 hl (k := 0) rfl (by rw [e30]; rfl) (by decide) rfl (fun ls hl => ?_)
                  try have h31 : x29.toInt = k15.toInt + (1 : Int32).toInt := ci_add e30 (by omega) (by omega)
                  refine lv_goto (tgt := 112) hx hb dX3_findInks_159 (by decide) ?_
                  exact ih112 x29 g16 (by omega) (by omega) _ _ hP hD hS _ hl
                have c28 := ci_ne c28
                refine lv_aload_n hx hb dX3_findInks_133 rfl (lv_at hl 2 rfl) ?_
                refine va_get (D := D) (ci := 3) (v := .ref (r3 9)) (C := RX3) (T := TX3) (N := 10) hx hb hts w1 hown hK.1 hP 0 rfl rfl 9 (by decide) w3 (fun _ h9 => h9) rfl dX3_findInks_134 ?_
                refine lv_iload hx hb dX3_findInks_137 (lv_at hl 0 rfl) ?_
                refine lv_dup2_11 hx hb dX3_findInks_139 rfl rfl ?_
                refine va_iald hx hb hK.1 hP 7 1 rfl rfl (i := k15) (ix (by omega) (by omega)) dX3_findInks_140 ?_
                refine lv_topi (fun x32 e33 => ?_)
                refine lv_aload_n hx hb dX3_findInks_141 rfl (lv_at hl 2 rfl) ?_
                refine va_get (D := D) (ci := 3) (v := .ref (r3 7)) (C := RX3) (T := TX3) (N := 10) hx hb hts w1 hown hK.1 hP 0 rfl rfl 7 (by decide) w0 (fun _ h9 => h9) rfl dX3_findInks_142 ?_
                refine lv_iload_n hx hb dX3_findInks_145 rfl (lv_at hl 1 rfl) ?_
                refine va_iald hx hb hK.1 hP 5 1 rfl rfl (i := k10) (ix (by omega) (by omega)) dX3_findInks_146 ?_
                refine lv_topi (fun x34 e35 => ?_)
                refine lv_iconst (v := 1) hx hb dX3_findInks_147 (by decide) ?_
                refine lv_iload hx hb dX3_findInks_148 (lv_at hl 0 rfl) ?_
                refine lv_ishl hx hb dX3_findInks_150 ?_
                refine lv_topi (fun x36 e37 => ?_)
                refine lv_iconst (v := (-1)) hx hb dX3_findInks_151 (by decide) ?_
                refine lv_ixor hx hb dX3_findInks_152 ?_
                refine lv_topi (fun x38 e39 => ?_)
                refine lv_iand hx hb dX3_findInks_153 ?_
                refine lv_topi (fun x40 e41 => ?_)
                refine lv_ior hx hb dX3_findInks_154 ?_
                refine lv_topi (fun x42 e43 => ?_)
                refine va_iast hx hb hK.1 hP hD hS 7 1 rfl rfl (i := k15) (ix (by omega) (by omega)) dX3_findInks_155 (fun H locs hP hD hS => ?_)
                obtain ⟨g44, e45⟩ : ∃ y : Nat → Int32, y = upd g16 k15.toNatClampNeg x42 := ⟨_, rfl⟩
                rw [← e45] at hP hD
                obtain ⟨hP, hD⟩ : PD D A [O3 a3 r3 v3_count v3_marks, (cI κ (r3 1) 20 f3_inkOf), (cI κ (r3 3) 60 f3_markLine), (cI κ (r3 4) 60 f3_markHole), (cI κ (r3 5) 60 f3_markOver), (cI κ (r3 7) 40 g5), (cI κ (r3 8) 40 g6), (cI κ (r3 9) 6 g44), (cI κ q1 40 fq1)] H := ⟨hP, hD⟩
                obtain ⟨x46, e47⟩ : ∃ y : Int32, y = k15 + 1 := ⟨_, rfl⟩
                refine lv_iinc (v := x46) (lv' := [(4, .int x46), (3, .int k10), (0, .ref a3), (1, .ref q1), (2, .int p2)]) hx hb dX3_findInks_156 hl (k := 0) rfl (by rw [e47]; rfl) (by decide) rfl (fun ls hl => ?_)
                try have h48 : x46.toInt = k15.toInt + (1 : Int32).toInt := ci_add e47 (by omega) (by omega)
                refine lv_goto (tgt := 112) hx hb dX3_findInks_159 (by decide) ?_
                exact ih112 x46 g44 (by omega) (by omega) _ _ hP hD hS _ hl
            exact lp112 ((6 - (0 : Int32).toInt).toNat + 1) 0 g11 (by omega) (by omega) _ _ hP hD hS _ hl
        exact lp104 ((p2.toInt - (0 : Int32).toInt).toNat + 1) 0 g3 (by omega) (by omega) _ _ hP hD hS _ hl
      have c9 := ci_nle c9
      refine lv_aload_n hx hb dX3_findInks_34 rfl (lv_at hl 2 rfl) ?_
      refine lv_aload_n hx hb dX3_findInks_35 rfl (lv_at hl 1 rfl) ?_
      refine va_get (D := D) (ci := 3) (v := .ref (r3 4)) (C := RX3) (T := TX3) (N := 10) hx hb hts w1 hown hK.1 hP 0 rfl rfl 4 (by decide) w8 (fun _ h9 => h9) rfl dX3_findInks_36 ?_
      refine lv_iload_n hx hb dX3_findInks_39 rfl (lv_at hl 0 rfl) ?_
      refine va_iald hx hb hK.1 hP 3 1 rfl rfl (i := k4) (ix (by omega) (by omega)) dX3_findInks_40 ?_
      refine lv_topi (fun x49 e50 => ?_)
      have h51 : 0 ≤ x49.toInt ∧ x49.toInt ≤ 39 := by rw [e50]; exact hf3_markHole _
      refine va_iald hx hb hK.1 hP 8 1 rfl rfl (i := x49) (ix (by omega) (by omega)) dX3_findInks_41 ?_
      refine lv_topi (fun x52 e53 => ?_)
      have h54 : 0 ≤ x52.toInt ∧ x52.toInt ≤ 39 := by rw [e53]; exact hfq1 _
      refine lv_istore (lv' := [(4, .int x52), (3, .int k4), (0, .ref a3), (1, .ref q1), (2, .int p2)]) hx hb dX3_findInks_42 hl (by decide) rfl (fun ls hl => ?_)
      refine lv_iconst (v := 1) hx hb dX3_findInks_44 (by decide) ?_
      refine lv_aload_n hx hb dX3_findInks_45 rfl (lv_at hl 2 rfl) ?_
      refine va_get (D := D) (ci := 3) (v := .ref (r3 1)) (C := RX3) (T := TX3) (N := 10) hx hb hts w1 hown hK.1 hP 0 rfl rfl 1 (by decide) w9 (fun _ h9 => h9) rfl dX3_findInks_46 ?_
      refine lv_aload_n hx hb dX3_findInks_49 rfl (lv_at hl 2 rfl) ?_
      refine va_get (D := D) (ci := 3) (v := .ref (r3 3)) (C := RX3) (T := TX3) (N := 10) hx hb hts w1 hown hK.1 hP 0 rfl rfl 3 (by decide) w10 (fun _ h9 => h9) rfl dX3_findInks_50 ?_
      refine lv_iload_n hx hb dX3_findInks_53 rfl (lv_at hl 1 rfl) ?_
      refine va_iald hx hb hK.1 hP 2 1 rfl rfl (i := k4) (ix (by omega) (by omega)) dX3_findInks_54 ?_
      refine lv_topi (fun x55 e56 => ?_)
      have h57 : 0 ≤ x55.toInt ∧ x55.toInt ≤ 19 := by rw [e56]; exact hf3_markLine _
      refine va_iald hx hb hK.1 hP 1 1 rfl rfl (i := x55) (ix (by omega) (by omega)) dX3_findInks_55 ?_
      refine lv_topi (fun x58 e59 => ?_)
      refine lv_ishl hx hb dX3_findInks_56 ?_
      refine lv_topi (fun x60 e61 => ?_)
      refine lv_istore (lv' := [(5, .int x60), (4, .int x52), (3, .int k4), (0, .ref a3), (1, .ref q1), (2, .int p2)]) hx hb dX3_findInks_57 hl (by decide) rfl (fun ls hl => ?_)
      refine lv_aload_n hx hb dX3_findInks_59 rfl (lv_at hl 3 rfl) ?_
      refine va_get (D := D) (ci := 3) (v := .ref (r3 5)) (C := RX3) (T := TX3) (N := 10) hx hb hts w1 hown hK.1 hP 0 rfl rfl 5 (by decide) w11 (fun _ h9 => h9) rfl dX3_findInks_60 ?_
      refine lv_iload_n hx hb dX3_findInks_63 rfl (lv_at hl 2 rfl) ?_
      refine va_iald hx hb hK.1 hP 4 1 rfl rfl (i := k4) (ix (by omega) (by omega)) dX3_findInks_64 ?_
      refine lv_topi (fun x62 e63 => ?_)
      refine lv_iconst (v := 1) hx hb dX3_findInks_65 (by decide) ?_
      refine lv_icmp_ne (tgt := 84) hx hb dX3_findInks_66 (by decide) (fun c64 => ?_) (fun c64 => ?_)
      · have c64 := ci_ne c64
        refine lv_aload_n hx hb dX3_findInks_84 rfl (lv_at hl 3 rfl) ?_
        refine va_get (D := D) (ci := 3) (v := .ref (r3 8)) (C := RX3) (T := TX3) (N := 10) hx hb hts w1 hown hK.1 hP 0 rfl rfl 8 (by decide) w2 (fun _ h9 => h9) rfl dX3_findInks_85 ?_
        refine lv_iload hx hb dX3_findInks_88 (lv_at hl 1 rfl) ?_
        refine lv_dup2_11 hx hb dX3_findInks_90 rfl rfl ?_
        refine va_iald hx hb hK.1 hP 6 1 rfl rfl (i := x52) (ix (by omega) (by omega)) dX3_findInks_91 ?_
        refine lv_topi (fun x65 e66 => ?_)
        refine lv_iload hx hb dX3_findInks_92 (lv_at hl 0 rfl) ?_
        refine lv_ior hx hb dX3_findInks_94 ?_
        refine lv_topi (fun x67 e68 => ?_)
        refine va_iast hx hb hK.1 hP hD hS 6 1 rfl rfl (i := x52) (ix (by omega) (by omega)) dX3_findInks_95 (fun H locs hP hD hS => ?_)
        obtain ⟨g69, e70⟩ : ∃ y : Nat → Int32, y = upd g6 x52.toNatClampNeg x67 := ⟨_, rfl⟩
        rw [← e70] at hP hD
        obtain ⟨hP, hD⟩ : PD D A [O3 a3 r3 v3_count v3_marks, (cI κ (r3 1) 20 f3_inkOf), (cI κ (r3 3) 60 f3_markLine), (cI κ (r3 4) 60 f3_markHole), (cI κ (r3 5) 60 f3_markOver), (cI κ (r3 7) 40 g5), (cI κ (r3 8) 40 g69), (cI κ (r3 9) 6 g3), (cI κ q1 40 fq1)] H := ⟨hP, hD⟩
        obtain ⟨x71, e72⟩ : ∃ y : Int32, y = k4 + 1 := ⟨_, rfl⟩
        refine lv_iinc (v := x71) (lv' := [(3, .int x71), (5, .int x60), (4, .int x52), (0, .ref a3), (1, .ref q1), (2, .int p2)]) hx hb dX3_findInks_96 hl (k := 2) rfl (by rw [e72]; rfl) (by decide) rfl (fun ls hl => ?_)
        try have h73 : x71.toInt = k4.toInt + (1 : Int32).toInt := ci_add e72 (by omega) (by omega)
        refine lv_goto (tgt := 26) hx hb dX3_findInks_99 (by decide) ?_
        exact ih26 x71 g5 g69 (by omega) (by omega) _ _ hP hD hS _ (lv_sub hl [0, 3, 4, 5] rfl)
      have c64 := ci_eq c64
      refine lv_aload_n hx hb dX3_findInks_69 rfl (lv_at hl 3 rfl) ?_
      refine va_get (D := D) (ci := 3) (v := .ref (r3 7)) (C := RX3) (T := TX3) (N := 10) hx hb hts w1 hown hK.1 hP 0 rfl rfl 7 (by decide) w0 (fun _ h9 => h9) rfl dX3_findInks_70 ?_
      refine lv_iload hx hb dX3_findInks_73 (lv_at hl 1 rfl) ?_
      refine lv_dup2_11 hx hb dX3_findInks_75 rfl rfl ?_
      refine va_iald hx hb hK.1 hP 5 1 rfl rfl (i := x52) (ix (by omega) (by omega)) dX3_findInks_76 ?_
      refine lv_topi (fun x74 e75 => ?_)
      refine lv_iload hx hb dX3_findInks_77 (lv_at hl 0 rfl) ?_
      refine lv_ior hx hb dX3_findInks_79 ?_
      refine lv_topi (fun x76 e77 => ?_)
      refine va_iast hx hb hK.1 hP hD hS 5 1 rfl rfl (i := x52) (ix (by omega) (by omega)) dX3_findInks_80 (fun H locs hP hD hS => ?_)
      obtain ⟨g78, e79⟩ : ∃ y : Nat → Int32, y = upd g5 x52.toNatClampNeg x76 := ⟨_, rfl⟩
      rw [← e79] at hP hD
      obtain ⟨hP, hD⟩ : PD D A [O3 a3 r3 v3_count v3_marks, (cI κ (r3 1) 20 f3_inkOf), (cI κ (r3 3) 60 f3_markLine), (cI κ (r3 4) 60 f3_markHole), (cI κ (r3 5) 60 f3_markOver), (cI κ (r3 7) 40 g78), (cI κ (r3 8) 40 g6), (cI κ (r3 9) 6 g3), (cI κ q1 40 fq1)] H := ⟨hP, hD⟩
      refine lv_goto (tgt := 96) hx hb dX3_findInks_81 (by decide) ?_
      obtain ⟨x80, e81⟩ : ∃ y : Int32, y = k4 + 1 := ⟨_, rfl⟩
      refine lv_iinc (v := x80) (lv' := [(3, .int x80), (5, .int x60), (4, .int x52), (0, .ref a3), (1, .ref q1), (2, .int p2)]) hx hb dX3_findInks_96 hl (k := 2) rfl (by rw [e81]; rfl) (by decide) rfl (fun ls hl => ?_)
      try have h82 : x80.toInt = k4.toInt + (1 : Int32).toInt := ci_add e81 (by omega) (by omega)
      refine lv_goto (tgt := 26) hx hb dX3_findInks_99 (by decide) ?_
      exact ih26 x80 g78 g6 (by omega) (by omega) _ _ hP hD hS _ (lv_sub hl [0, 3, 4, 5] rfl)
  exact lp26 ((v3_marks.toInt - (0 : Int32).toInt).toNat + 1) 0 g1 g2 (by omega) (by omega) _ _ hP hD hS _ hl
set_option maxHeartbeats 4000000 in
set_option maxRecDepth 100000 in
theorem k_X3_cameAhead (l : Launch) (D : va_G) (κ : Nat → ClassId) (β : Nat) (a3 : Nat) (r3 : Nat → Nat) (v3_count : Int32) (v3_marks : Int32) (f3_inksAhead : Nat → Int32) (sz : Nat) (p1 : Int32) (p2 : Int32) (i1 : Rg 0 20 v3_count) (i2 : Rg 0 60 v3_marks) (i3 : 0 ≤ p2.toInt ∧ p2.toInt ≤ 5) : Met l yX3_cameAhead wsX3_cameAhead ({ frames := 1, cells := 0, slots := 0, locals := 21 } : Room) (PcK D κ β [O3 a3 r3 v3_count v3_marks, (cI κ (r3 9) 6 f3_inksAhead)] sz [.ref a3, .int p1, .int p2]) (QiK D (fun (r : Int32) (u : Unit) => r.toInt = 0 ∨ r.toInt = 1) (fun (u : Unit) => [O3 a3 r3 v3_count v3_marks, (cI κ (r3 9) 6 f3_inksAhead)]) [O3 a3 r3 v3_count v3_marks, (cI κ (r3 9) 6 f3_inksAhead)] sz) 0 0 (va_A [O3 a3 r3 v3_count v3_marks, (cI κ (r3 9) 6 f3_inksAhead)] sz) := by
  refine ofK_z (cc := cX3_cameAhead) (maxL := 3) (own := RX3) (by decide) rfl rfl (Nat.le_of_ble_eq_true rfl) ?_
  intro p e s m args below meth c Q A ls hsz hx hb hml hts hown hK hA hAB hP hD hl ret
  have hS : va_S A s.heap s.heap [] := va_S.rf
  have hl : lv_has ls 3 [(0, .ref a3), (1, .int p1), (2, .int p2)] := hl
  have w0 := hts (.fieldLink RX3 33 "OlderSkin$Lines" "inksAhead" "[I") (List.mem_of_getElem? (i := 1) rfl)
  have w1 := (fun w h => List.mem_cons_of_mem _ (List.mem_append_right _ h) : ∀ w ∈ u_ws RX3 TX3 10, w ∈ wsX3_cameAhead)
  have w2 := hts (.initialized RX11) (List.mem_of_getElem? (i := 3) rfl)
  have w3 := hts (.static yX11_hasBit) (List.mem_of_getElem? (i := 2) rfl)
  have w4 := hK.2.1 ("OlderSkin$Lines", 63, ⟨"OlderSkin", "hasBit", "(II)Z"⟩, "OlderSkin") (by decide +kernel)
  refine lv_aload_n hx hb dX3_cameAhead_0 rfl (lv_at hl 0 rfl) ?_
  refine va_get (D := D) (ci := 3) (v := .ref (r3 9)) (C := RX3) (T := TX3) (N := 10) hx hb hts w1 hown hK.1 hP 0 rfl rfl 9 (by decide) w0 (fun _ h9 => h9) rfl dX3_cameAhead_1 ?_
  refine lv_iload_n hx hb dX3_cameAhead_4 rfl (lv_at hl 2 rfl) ?_
  refine va_iald hx hb hK.1 hP 1 1 rfl rfl (i := p2) (ix (by omega) (by omega)) dX3_cameAhead_5 ?_
  refine lv_topi (fun x1 e2 => ?_)
  refine lv_iload_n hx hb dX3_cameAhead_6 rfl (lv_at hl 1 rfl) ?_
  refine kcm_i hA hAB hP hD hS [false, false] rfl (fun _ => rfl) (fun hPc hDc => va_runSN (As := [.int x1, .int p1]) (rest := []) ⟨hx, hb, hml, hown, hts⟩ (k_X11_hasBit l D κ β s.heap.size x1 p1) ⟨va_cnB 2 hts gX3_cameAhead_X11_hasBit_n63 rfl rfl rfl w4 w2 (by decide +kernel) ⟨Nat.le_of_ble_eq_true rfl, Nat.le_of_ble_eq_true rfl⟩, w3, trivial⟩ (pk_S hK hS hAB hPc hDc) rfl rfl hl.1 rfl (lv_room (Nat.le_of_ble_eq_true rfl)) dX3_cameAhead_7 ⟨Nat.le_of_ble_eq_true rfl, Nat.le_of_ble_eq_true rfl⟩) (fun x3 u4 H locs hw hPD hS => ?_)
  have h5 : x3.toInt = 0 ∨ x3.toInt = 1 := hw
  obtain ⟨hP, hD⟩ : PD D A [O3 a3 r3 v3_count v3_marks, (cI κ (r3 9) 6 f3_inksAhead)] H := hPD
  have hpo : x3.toInt = 0 ∨ x3.toInt = 1 := (by omega)
  exact ret _ _ _ _ x3 () dX3_cameAhead_10 (by omega) hpo hP hD hS
set_option maxHeartbeats 4000000 in
set_option maxRecDepth 100000 in
theorem k_X3_someLineHas (l : Launch) (D : va_G) (κ : Nat → ClassId) (β : Nat) (a3 : Nat) (r3 : Nat → Nat) (v3_count : Int32) (v3_marks : Int32) (f3_inkOf : Nat → Int32) (sz : Nat) (p1 : Int32) (i1 : Rg 0 20 v3_count) (i2 : Rg 0 60 v3_marks) : Met l yX3_someLineHas wsX3_someLineHas ({ frames := 0, cells := 0, slots := 0, locals := 0 } : Room) (PcK D κ β [O3 a3 r3 v3_count v3_marks, (cI κ (r3 1) 20 f3_inkOf)] sz [.ref a3, .int p1]) (QiK D (fun (r : Int32) (u : Unit) => r.toInt = 0 ∨ r.toInt = 1) (fun (u : Unit) => [O3 a3 r3 v3_count v3_marks, (cI κ (r3 1) 20 f3_inkOf)]) [O3 a3 r3 v3_count v3_marks, (cI κ (r3 1) 20 f3_inkOf)] sz) 0 0 (va_A [O3 a3 r3 v3_count v3_marks, (cI κ (r3 1) 20 f3_inkOf)] sz) := by
  refine ofK_z (cc := cX3_someLineHas) (maxL := 3) (own := RX3) (by decide) rfl rfl (Nat.le_of_ble_eq_true rfl) ?_
  intro p e s m args below meth c Q A ls hsz hx hb hml hts hown hK hA hAB hP hD hl ret
  have hS : va_S A s.heap s.heap [] := va_S.rf
  have hl : lv_has ls 3 [(0, .ref a3), (1, .int p1)] := hl
  have w0 := hts (.fieldLink RX3 36 "OlderSkin$Lines" "count" "I") (List.mem_of_getElem? (i := 1) rfl)
  have w1 := (fun w h => List.mem_cons_of_mem _ (List.mem_append_right _ h) : ∀ w ∈ u_ws RX3 TX3 10, w ∈ wsX3_someLineHas)
  have w2 := hts (.fieldLink RX3 15 "OlderSkin$Lines" "inkOf" "[I") (List.mem_of_getElem? (i := 2) rfl)
  have l0 : (0 : Int32).toInt = 0 := by decide
  have l1 : (1 : Int32).toInt = 1 := by decide
  have i1 : 0 ≤ v3_count.toInt ∧ v3_count.toInt ≤ 20 := i1
  refine lv_iconst (v := 0) hx hb dX3_someLineHas_0 (by decide) ?_
  refine lv_istore_n (lv' := [(2, .int 0), (0, .ref a3), (1, .int p1)]) hx hb dX3_someLineHas_1 rfl hl (by decide) rfl (fun ls hl => ?_)
  have lp2 : ∀ (n2 : Nat) (k1 : Int32), (0 ≤ k1.toInt) → (v3_count.toInt - k1.toInt).toNat < n2 → ∀ (H : Heap) (locs : List Loc), va_P D vwCl [O3 a3 r3 v3_count v3_marks, (cI κ (r3 1) 20 f3_inkOf)] H → va_D A [O3 a3 r3 v3_count v3_marks, (cI κ (r3 1) 20 f3_inkOf)] → va_S A s.heap H locs → ∀ ls : Array Slot, lv_has ls 3 [(2, .int k1), (0, .ref a3), (1, .int p1)] → W p l e ({ frames := 0, cells := 0, slots := 0, locals := 0 } : Room) s m args below meth c H locs 0 0 Q (F0 m 2 ls []) := by
    intro n2
    induction n2 with
    | zero =>
      intro k1 h2 m3
      exact absurd m3 (Nat.not_lt_zero _)
    | succ n2 ih2 =>
      intro k1 h2 m3 H locs hP hD hS ls hl
      refine lv_iload_n hx hb dX3_someLineHas_2 rfl (lv_at hl 0 rfl) ?_
      refine lv_aload_n hx hb dX3_someLineHas_3 rfl (lv_at hl 1 rfl) ?_
      refine va_get (D := D) (ci := 3) (v := .int v3_count) (C := RX3) (T := TX3) (N := 10) hx hb hts w1 hown hK.1 hP 0 rfl rfl 2 (by decide) w0 (fun _ h9 => h9) rfl dX3_someLineHas_4 ?_
      refine lv_icmp_ge (tgt := 28) hx hb dX3_someLineHas_7 (by decide) (fun c4 => ?_) (fun c4 => ?_)
      · have c4 := ci_le c4
        refine lv_iconst (v := 0) hx hb dX3_someLineHas_28 (by decide) ?_
        have hpo : (0 : Int32).toInt = 0 ∨ (0 : Int32).toInt = 1 := (by omega)
        exact ret _ _ _ _ 0 () dX3_someLineHas_29 (by omega) hpo hP hD hS
      have c4 := ci_nle c4
      refine lv_aload_n hx hb dX3_someLineHas_10 rfl (lv_at hl 1 rfl) ?_
      refine va_get (D := D) (ci := 3) (v := .ref (r3 1)) (C := RX3) (T := TX3) (N := 10) hx hb hts w1 hown hK.1 hP 0 rfl rfl 1 (by decide) w2 (fun _ h9 => h9) rfl dX3_someLineHas_11 ?_
      refine lv_iload_n hx hb dX3_someLineHas_14 rfl (lv_at hl 0 rfl) ?_
      refine va_iald hx hb hK.1 hP 1 1 rfl rfl (i := k1) (ix (by omega) (by omega)) dX3_someLineHas_15 ?_
      refine lv_topi (fun x5 e6 => ?_)
      refine lv_iload_n hx hb dX3_someLineHas_16 rfl (lv_at hl 2 rfl) ?_
      refine lv_icmp_ne (tgt := 22) hx hb dX3_someLineHas_17 (by decide) (fun c7 => ?_) (fun c7 => ?_)
      · have c7 := ci_ne c7
        obtain ⟨x8, e9⟩ : ∃ y : Int32, y = k1 + 1 := ⟨_, rfl⟩
        refine lv_iinc (v := x8) (lv' := [(2, .int x8), (0, .ref a3), (1, .int p1)]) hx hb dX3_someLineHas_22 hl (k := 0) rfl (by rw [e9]; rfl) (by decide) rfl (fun ls hl => ?_)
        try have h10 : x8.toInt = k1.toInt + (1 : Int32).toInt := ci_add e9 (by omega) (by omega)
        refine lv_goto (tgt := 2) hx hb dX3_someLineHas_25 (by decide) ?_
        exact ih2 x8 (by omega) (by omega) _ _ hP hD hS _ hl
      have c7 := ci_eq c7
      refine lv_iconst (v := 1) hx hb dX3_someLineHas_20 (by decide) ?_
      have hpo : (1 : Int32).toInt = 0 ∨ (1 : Int32).toInt = 1 := (by omega)
      exact ret _ _ _ _ 1 () dX3_someLineHas_21 (by omega) hpo hP hD hS
  exact lp2 ((v3_count.toInt - (0 : Int32).toInt).toNat + 1) 0 (by omega) (by omega) _ _ hP hD hS _ hl
set_option maxHeartbeats 4000000 in
set_option maxRecDepth 100000 in
theorem k_X3_firstInk (l : Launch) (D : va_G) (κ : Nat → ClassId) (β : Nat) (a3 : Nat) (r3 : Nat → Nat) (v3_count : Int32) (v3_marks : Int32) (f3_inkOf : Nat → Int32) (f3_inksAhead : Nat → Int32) (sz : Nat) (i1 : Rg 0 20 v3_count) (i2 : Rg 0 60 v3_marks) : Met l yX3_firstInk wsX3_firstInk ({ frames := 1, cells := 0, slots := 0, locals := 22 } : Room) (PcK D κ β [O3 a3 r3 v3_count v3_marks, (cI κ (r3 1) 20 f3_inkOf), (cI κ (r3 9) 6 f3_inksAhead)] sz [.ref a3]) (QiK D (fun (r : Int32) (u : Unit) => True) (fun (u : Unit) => [O3 a3 r3 v3_count v3_marks, (cI κ (r3 1) 20 f3_inkOf), (cI κ (r3 9) 6 f3_inksAhead)]) [O3 a3 r3 v3_count v3_marks, (cI κ (r3 1) 20 f3_inkOf), (cI κ (r3 9) 6 f3_inksAhead)] sz) 0 0 (va_A [O3 a3 r3 v3_count v3_marks, (cI κ (r3 1) 20 f3_inkOf), (cI κ (r3 9) 6 f3_inksAhead)] sz) := by
  refine ofK_i (cc := cX3_firstInk) (maxL := 2) (own := RX3) (by decide) rfl rfl (Nat.le_of_ble_eq_true rfl) ?_
  intro p e s m args below meth c Q A ls hsz hx hb hml hts hown hK hA hAB hP hD hl ret
  have hS : va_S A s.heap s.heap [] := va_S.rf
  have hl : lv_has ls 2 [(0, .ref a3)] := hl
  have w0 := hts (.fieldLink RX3 33 "OlderSkin$Lines" "inksAhead" "[I") (List.mem_of_getElem? (i := 1) rfl)
  have w1 := (fun w h => List.mem_cons_of_mem _ (List.mem_append_right _ h) : ∀ w ∈ u_ws RX3 TX3 10, w ∈ wsX3_firstInk)
  have l0 : (0 : Int32).toInt = 0 := by decide
  have l1 : (6 : Int32).toInt = 6 := by decide
  have l2 : ((-2) : Int32).toInt = -2 := by decide
  have l3 : (1 : Int32).toInt = 1 := by decide
  refine lv_iconst (v := 0) hx hb dX3_firstInk_0 (by decide) ?_
  refine lv_istore_n (lv' := [(1, .int 0), (0, .ref a3)]) hx hb dX3_firstInk_1 rfl hl (by decide) rfl (fun ls hl => ?_)
  have lp2 : ∀ (n2 : Nat) (k1 : Int32), (0 ≤ k1.toInt) → (6 - k1.toInt).toNat < n2 → ∀ (H : Heap) (locs : List Loc), va_P D vwCl [O3 a3 r3 v3_count v3_marks, (cI κ (r3 1) 20 f3_inkOf), (cI κ (r3 9) 6 f3_inksAhead)] H → va_D A [O3 a3 r3 v3_count v3_marks, (cI κ (r3 1) 20 f3_inkOf), (cI κ (r3 9) 6 f3_inksAhead)] → va_S A s.heap H locs → ∀ ls : Array Slot, lv_has ls 2 [(1, .int k1), (0, .ref a3)] → W p l e ({ frames := 1, cells := 0, slots := 0, locals := 22 } : Room) s m args below meth c H locs 0 0 Q (F0 m 2 ls []) := by
    intro n2
    induction n2 with
    | zero =>
      intro k1 h2 m3
      exact absurd m3 (Nat.not_lt_zero _)
    | succ n2 ih2 =>
      intro k1 h2 m3 H locs hP hD hS ls hl
      refine lv_iload_n hx hb dX3_firstInk_2 rfl (lv_at hl 0 rfl) ?_
      refine lv_bipush (v := 6) hx hb dX3_firstInk_3 (by decide) ?_
      refine lv_icmp_ge (tgt := 33) hx hb dX3_firstInk_5 (by decide) (fun c4 => ?_) (fun c4 => ?_)
      · have c4 := ci_le c4
        refine lv_bipush (v := (-2)) hx hb dX3_firstInk_33 (by decide) ?_
        exact ret _ _ _ _ (-2) () dX3_firstInk_35 trivial hP hD hS
      have c4 := ci_nle c4
      refine lv_aload_n hx hb dX3_firstInk_8 rfl (lv_at hl 1 rfl) ?_
      refine va_get (D := D) (ci := 3) (v := .ref (r3 9)) (C := RX3) (T := TX3) (N := 10) hx hb hts w1 hown hK.1 hP 0 rfl rfl 9 (by decide) w0 (fun _ h9 => h9) rfl dX3_firstInk_9 ?_
      refine lv_iload_n hx hb dX3_firstInk_12 rfl (lv_at hl 0 rfl) ?_
      refine va_iald hx hb hK.1 hP 2 1 rfl rfl (i := k1) (ix (by omega) (by omega)) dX3_firstInk_13 ?_
      refine lv_topi (fun x5 e6 => ?_)
      refine lv_if_ne (tgt := 27) hx hb dX3_firstInk_14 (by decide) (fun c7 => ?_) (fun c7 => ?_)
      · have c7 := ci_ne c7
        obtain ⟨x8, e9⟩ : ∃ y : Int32, y = k1 + 1 := ⟨_, rfl⟩
        refine lv_iinc (v := x8) (lv' := [(1, .int x8), (0, .ref a3)]) hx hb dX3_firstInk_27 hl (k := 0) rfl (by rw [e9]; rfl) (by decide) rfl (fun ls hl => ?_)
        try have h10 : x8.toInt = k1.toInt + (1 : Int32).toInt := ci_add e9 (by omega) (by omega)
        refine lv_goto (tgt := 2) hx hb dX3_firstInk_30 (by decide) ?_
        exact ih2 x8 (by omega) (by omega) _ _ hP hD hS _ hl
      have c7 := ci_eq c7
      refine lv_aload_n hx hb dX3_firstInk_17 rfl (lv_at hl 1 rfl) ?_
      refine lv_iload_n hx hb dX3_firstInk_18 rfl (lv_at hl 0 rfl) ?_
      refine kcm_i hA hAB hP hD hS [true, true, false] rfl (fun _ => rfl) (fun hPc hDc => va_runV (As := [.int k1]) (rest := []) ⟨hx, hb, hml, hown, hts⟩ (k_X3_someLineHas l D κ β a3 r3 v3_count v3_marks f3_inkOf H.size k1 i1 i2) (cwV 1 hts gX3_firstInk_X3_someLineHas rfl rfl rfl (by decide +kernel) ⟨Nat.le_of_ble_eq_true rfl, Nat.le_of_ble_eq_true rfl⟩) (pk_V hK hS hAB hPc hDc 0 (ci := 3) rfl rfl rfl) rfl rfl hl.1 rfl (lv_room (Nat.le_of_ble_eq_true rfl)) dX3_firstInk_19 ⟨Nat.le_of_ble_eq_true rfl, Nat.le_of_ble_eq_true rfl⟩) (fun x11 u12 H locs hw hPD hS => ?_)
      have h13 : x11.toInt = 0 ∨ x11.toInt = 1 := hw
      obtain ⟨hP, hD⟩ : PD D A [O3 a3 r3 v3_count v3_marks, (cI κ (r3 1) 20 f3_inkOf), (cI κ (r3 9) 6 f3_inksAhead)] H := hPD
      refine lv_if_eq (tgt := 27) hx hb dX3_firstInk_22 (by decide) (fun c14 => ?_) (fun c14 => ?_)
      · have c14 := ci_eq c14
        obtain ⟨x15, e16⟩ : ∃ y : Int32, y = k1 + 1 := ⟨_, rfl⟩
        refine lv_iinc (v := x15) (lv' := [(1, .int x15), (0, .ref a3)]) hx hb dX3_firstInk_27 hl (k := 0) rfl (by rw [e16]; rfl) (by decide) rfl (fun ls hl => ?_)
        try have h17 : x15.toInt = k1.toInt + (1 : Int32).toInt := ci_add e16 (by omega) (by omega)
        refine lv_goto (tgt := 2) hx hb dX3_firstInk_30 (by decide) ?_
        exact ih2 x15 (by omega) (by omega) _ _ hP hD hS _ hl
      have c14 := ci_ne c14
      refine lv_iload_n hx hb dX3_firstInk_25 rfl (lv_at hl 0 rfl) ?_
      exact ret _ _ _ _ k1 () dX3_firstInk_26 trivial hP hD hS
  exact lp2 ((6 - (0 : Int32).toInt).toNat + 1) 0 (by omega) (by omega) _ _ hP hD hS _ hl
set_option maxHeartbeats 4000000 in
set_option maxRecDepth 100000 in
theorem k_X3_leastRing (l : Launch) (D : va_G) (κ : Nat → ClassId) (β : Nat) (a3 : Nat) (r3 : Nat → Nat) (v3_count : Int32) (v3_marks : Int32) (f3_inksAhead : Nat → Int32) (sz : Nat) (i1 : Rg 0 20 v3_count) (i2 : Rg 0 60 v3_marks) : Met l yX3_leastRing wsX3_leastRing ({ frames := 2, cells := 0, slots := 0, locals := 43 } : Room) (PcK D κ β [O3 a3 r3 v3_count v3_marks, (cI κ (r3 9) 6 f3_inksAhead)] sz [.ref a3]) (QiK D (fun (r : Int32) (u : Unit) => True) (fun (u : Unit) => [O3 a3 r3 v3_count v3_marks, (cI κ (r3 9) 6 f3_inksAhead)]) [O3 a3 r3 v3_count v3_marks, (cI κ (r3 9) 6 f3_inksAhead)] sz) 0 0 (va_A [O3 a3 r3 v3_count v3_marks, (cI κ (r3 9) 6 f3_inksAhead)] sz) := by
  refine ofK_i (cc := cX3_leastRing) (maxL := 3) (own := RX3) (by decide) rfl rfl (Nat.le_of_ble_eq_true rfl) ?_
  intro p e s m args below meth c Q A ls hsz hx hb hml hts hown hK hA hAB hP hD hl ret
  have hS : va_S A s.heap s.heap [] := va_S.rf
  have hl : lv_has ls 3 [(0, .ref a3)] := hl
  have l0 : (0 : Int32).toInt = 0 := by decide
  have l1 : (6 : Int32).toInt = 6 := by decide
  have l2 : ((-2) : Int32).toInt = -2 := by decide
  have l3 : (1 : Int32).toInt = 1 := by decide
  have l4 : (10 : Int32).toInt = 10 := by decide
  refine lv_iconst (v := 0) hx hb dX3_leastRing_0 (by decide) ?_
  refine lv_istore_n (lv' := [(1, .int 0), (0, .ref a3)]) hx hb dX3_leastRing_1 rfl hl (by decide) rfl (fun ls hl => ?_)
  have lp2 : ∀ (n2 : Nat) (k1 : Int32), (0 ≤ k1.toInt) → (6 - k1.toInt).toNat < n2 → ∀ (H : Heap) (locs : List Loc), va_P D vwCl [O3 a3 r3 v3_count v3_marks, (cI κ (r3 9) 6 f3_inksAhead)] H → va_D A [O3 a3 r3 v3_count v3_marks, (cI κ (r3 9) 6 f3_inksAhead)] → va_S A s.heap H locs → ∀ ls : Array Slot, lv_has ls 3 [(1, .int k1), (0, .ref a3)] → W p l e ({ frames := 2, cells := 0, slots := 0, locals := 43 } : Room) s m args below meth c H locs 0 0 Q (F0 m 2 ls []) := by
    intro n2
    induction n2 with
    | zero =>
      intro k1 h2 m3
      exact absurd m3 (Nat.not_lt_zero _)
    | succ n2 ih2 =>
      intro k1 h2 m3 H locs hP hD hS ls hl
      refine lv_iload_n hx hb dX3_leastRing_2 rfl (lv_at hl 0 rfl) ?_
      refine lv_bipush (v := 6) hx hb dX3_leastRing_3 (by decide) ?_
      refine lv_icmp_ge (tgt := 55) hx hb dX3_leastRing_5 (by decide) (fun c4 => ?_) (fun c4 => ?_)
      · have c4 := ci_le c4
        refine lv_bipush (v := (-2)) hx hb dX3_leastRing_55 (by decide) ?_
        exact ret _ _ _ _ (-2) () dX3_leastRing_57 trivial hP hD hS
      have c4 := ci_nle c4
      refine lv_iload_n hx hb dX3_leastRing_8 rfl (lv_at hl 0 rfl) ?_
      refine lv_iconst (v := 1) hx hb dX3_leastRing_9 (by decide) ?_
      refine lv_iadd hx hb dX3_leastRing_10 ?_
      refine lv_topi (fun x5 e6 => ?_)
      try have h7 : x5.toInt = k1.toInt + (1 : Int32).toInt := ci_add e6 (by omega) (by omega)
      refine lv_istore_n (lv' := [(2, .int x5), (1, .int k1), (0, .ref a3)]) hx hb dX3_leastRing_11 rfl hl (by decide) rfl (fun ls hl => ?_)
      have lp12 : ∀ (n12 : Nat) (k8 : Int32), (0 ≤ k8.toInt) → (6 - k8.toInt).toNat < n12 → ∀ (H : Heap) (locs : List Loc), va_P D vwCl [O3 a3 r3 v3_count v3_marks, (cI κ (r3 9) 6 f3_inksAhead)] H → va_D A [O3 a3 r3 v3_count v3_marks, (cI κ (r3 9) 6 f3_inksAhead)] → va_S A s.heap H locs → ∀ ls : Array Slot, lv_has ls 3 [(2, .int k8), (1, .int k1), (0, .ref a3)] → W p l e ({ frames := 2, cells := 0, slots := 0, locals := 43 } : Room) s m args below meth c H locs 0 0 Q (F0 m 12 ls []) := by
        intro n12
        induction n12 with
        | zero =>
          intro k8 h9 m10
          exact absurd m10 (Nat.not_lt_zero _)
        | succ n12 ih12 =>
          intro k8 h9 m10 H locs hP hD hS ls hl
          refine lv_iload_n hx hb dX3_leastRing_12 rfl (lv_at hl 0 rfl) ?_
          refine lv_bipush (v := 6) hx hb dX3_leastRing_13 (by decide) ?_
          refine lv_icmp_ge (tgt := 49) hx hb dX3_leastRing_15 (by decide) (fun c11 => ?_) (fun c11 => ?_)
          · have c11 := ci_le c11
            obtain ⟨x12, e13⟩ : ∃ y : Int32, y = k1 + 1 := ⟨_, rfl⟩
            refine lv_iinc (v := x12) (lv' := [(1, .int x12), (2, .int k8), (0, .ref a3)]) hx hb dX3_leastRing_49 hl (k := 1) rfl (by rw [e13]; rfl) (by decide) rfl (fun ls hl => ?_)
            try have h14 : x12.toInt = k1.toInt + (1 : Int32).toInt := ci_add e13 (by omega) (by omega)
            refine lv_goto (tgt := 2) hx hb dX3_leastRing_52 (by decide) ?_
            exact ih2 x12 (by omega) (by omega) _ _ hP hD hS _ (lv_sub hl [0, 2] rfl)
          have c11 := ci_nle c11
          refine lv_aload_n hx hb dX3_leastRing_18 rfl (lv_at hl 2 rfl) ?_
          refine lv_iload_n hx hb dX3_leastRing_19 rfl (lv_at hl 1 rfl) ?_
          refine lv_iload_n hx hb dX3_leastRing_20 rfl (lv_at hl 0 rfl) ?_
          refine kcm_i hA hAB hP hD hS [true, true] rfl (fun _ => rfl) (fun hPc hDc => va_runV (As := [.int k1, .int k8]) (rest := []) ⟨hx, hb, hml, hown, hts⟩ (k_X3_cameAhead l D κ β a3 r3 v3_count v3_marks f3_inksAhead H.size k1 k8 i1 i2 (by omega)) (cwV 2 hts gX3_leastRing_X3_cameAhead rfl rfl rfl (by decide +kernel) ⟨Nat.le_of_ble_eq_true rfl, Nat.le_of_ble_eq_true rfl⟩) (pk_V hK hS hAB hPc hDc 0 (ci := 3) rfl rfl rfl) rfl rfl hl.1 rfl (lv_room (Nat.le_of_ble_eq_true rfl)) dX3_leastRing_21 ⟨Nat.le_of_ble_eq_true rfl, Nat.le_of_ble_eq_true rfl⟩) (fun x15 u16 H locs hw hPD hS => ?_)
          have h17 : x15.toInt = 0 ∨ x15.toInt = 1 := hw
          obtain ⟨hP, hD⟩ : PD D A [O3 a3 r3 v3_count v3_marks, (cI κ (r3 9) 6 f3_inksAhead)] H := hPD
          refine lv_if_eq (tgt := 43) hx hb dX3_leastRing_24 (by decide) (fun c18 => ?_) (fun c18 => ?_)
          · have c18 := ci_eq c18
            obtain ⟨x19, e20⟩ : ∃ y : Int32, y = k8 + 1 := ⟨_, rfl⟩
            refine lv_iinc (v := x19) (lv' := [(2, .int x19), (1, .int k1), (0, .ref a3)]) hx hb dX3_leastRing_43 hl (k := 0) rfl (by rw [e20]; rfl) (by decide) rfl (fun ls hl => ?_)
            try have h21 : x19.toInt = k8.toInt + (1 : Int32).toInt := ci_add e20 (by omega) (by omega)
            refine lv_goto (tgt := 12) hx hb dX3_leastRing_46 (by decide) ?_
            exact ih12 x19 (by omega) (by omega) _ _ hP hD hS _ hl
          have c18 := ci_ne c18
          refine lv_aload_n hx hb dX3_leastRing_27 rfl (lv_at hl 2 rfl) ?_
          refine lv_iload_n hx hb dX3_leastRing_28 rfl (lv_at hl 0 rfl) ?_
          refine lv_iload_n hx hb dX3_leastRing_29 rfl (lv_at hl 1 rfl) ?_
          refine kcm_i hA hAB hP hD hS [true, true] rfl (fun _ => rfl) (fun hPc hDc => va_runV (As := [.int k8, .int k1]) (rest := []) ⟨hx, hb, hml, hown, hts⟩ (k_X3_cameAhead l D κ β a3 r3 v3_count v3_marks f3_inksAhead H.size k8 k1 i1 i2 (by omega)) (cwV 2 hts gX3_leastRing_X3_cameAhead rfl rfl rfl (by decide +kernel) ⟨Nat.le_of_ble_eq_true rfl, Nat.le_of_ble_eq_true rfl⟩) (pk_V hK hS hAB hPc hDc 0 (ci := 3) rfl rfl rfl) rfl rfl hl.1 rfl (lv_room (Nat.le_of_ble_eq_true rfl)) dX3_leastRing_30 ⟨Nat.le_of_ble_eq_true rfl, Nat.le_of_ble_eq_true rfl⟩) (fun x22 u23 H locs hw hPD hS => ?_)
          have h24 : x22.toInt = 0 ∨ x22.toInt = 1 := hw
          obtain ⟨hP, hD⟩ : PD D A [O3 a3 r3 v3_count v3_marks, (cI κ (r3 9) 6 f3_inksAhead)] H := hPD
          refine lv_if_eq (tgt := 43) hx hb dX3_leastRing_33 (by decide) (fun c25 => ?_) (fun c25 => ?_)
          · have c25 := ci_eq c25
            obtain ⟨x26, e27⟩ : ∃ y : Int32, y = k8 + 1 := ⟨_, rfl⟩
            refine lv_iinc (v := x26) (lv' := [(2, .int x26), (1, .int k1), (0, .ref a3)]) hx hb dX3_leastRing_43 hl (k := 0) rfl (by rw [e27]; rfl) (by decide) rfl (fun ls hl => ?_)
            try have h28 : x26.toInt = k8.toInt + (1 : Int32).toInt := ci_add e27 (by omega) (by omega)
            refine lv_goto (tgt := 12) hx hb dX3_leastRing_46 (by decide) ?_
            exact ih12 x26 (by omega) (by omega) _ _ hP hD hS _ hl
          have c25 := ci_ne c25
          refine lv_bipush (v := 10) hx hb dX3_leastRing_36 (by decide) ?_
          refine lv_iload_n hx hb dX3_leastRing_38 rfl (lv_at hl 1 rfl) ?_
          refine lv_imul hx hb dX3_leastRing_39 ?_
          refine lv_topi (fun x29 e30 => ?_)
          try have h31 : x29.toInt = 10 * k1.toInt := ci_mulL (n := 10) (by decide) e30 (by omega) (by omega)
          refine lv_iload_n hx hb dX3_leastRing_40 rfl (lv_at hl 0 rfl) ?_
          refine lv_iadd hx hb dX3_leastRing_41 ?_
          refine lv_topi (fun x32 e33 => ?_)
          try have h34 : x32.toInt = x29.toInt + k8.toInt := ci_add e33 (by omega) (by omega)
          exact ret _ _ _ _ x32 () dX3_leastRing_42 trivial hP hD hS
      exact lp12 ((6 - x5.toInt).toNat + 1) x5 (by omega) (by omega) _ _ hP hD hS _ hl
  exact lp2 ((6 - (0 : Int32).toInt).toNat + 1) 0 (by omega) (by omega) _ _ hP hD hS _ hl
set_option maxHeartbeats 4000000 in
set_option maxRecDepth 100000 in
theorem k_X3_foughtWorm (l : Launch) (D : va_G) (κ : Nat → ClassId) (β : Nat) (a3 : Nat) (r3 : Nat → Nat) (v3_count : Int32) (v3_marks : Int32) (f3_inkOf : Nat → Int32) (f3_markLine : Nat → Int32) (f3_markHole : Nat → Int32) (f3_markOver : Nat → Int32) (f3_inksRound : Nat → Int32) (fq2 : Nat → Int32) (sz : Nat) (p1 : Int32) (q2 : Nat) (i1 : Rg 0 20 v3_count) (i2 : Rg 0 60 v3_marks) (hf3_markLine : ∀ j : Nat, 0 ≤ (f3_markLine j).toInt ∧ (f3_markLine j).toInt ≤ 19) (hf3_markHole : ∀ j : Nat, 0 ≤ (f3_markHole j).toInt ∧ (f3_markHole j).toInt ≤ 39) (hfq2 : ∀ j : Nat, 0 ≤ (fq2 j).toInt ∧ (fq2 j).toInt ≤ 39) (i3 : 0 ≤ p1.toInt ∧ p1.toInt ≤ 19) : Met l yX3_foughtWorm wsX3_foughtWorm ({ frames := 1, cells := 0, slots := 0, locals := 21 } : Room) (PcK D κ β [O3 a3 r3 v3_count v3_marks, (cI κ (r3 1) 20 f3_inkOf), (cI κ (r3 3) 60 f3_markLine), (cI κ (r3 4) 60 f3_markHole), (cI κ (r3 5) 60 f3_markOver), (cI κ (r3 8) 40 f3_inksRound), (cI κ q2 40 fq2)] sz [.ref a3, .int p1, .ref q2]) (QiK D (fun (r : Int32) (u : Unit) => True) (fun (u : Unit) => [O3 a3 r3 v3_count v3_marks, (cI κ (r3 1) 20 f3_inkOf), (cI κ (r3 3) 60 f3_markLine), (cI κ (r3 4) 60 f3_markHole), (cI κ (r3 5) 60 f3_markOver), (cI κ (r3 8) 40 f3_inksRound), (cI κ q2 40 fq2)]) [O3 a3 r3 v3_count v3_marks, (cI κ (r3 1) 20 f3_inkOf), (cI κ (r3 3) 60 f3_markLine), (cI κ (r3 4) 60 f3_markHole), (cI κ (r3 5) 60 f3_markOver), (cI κ (r3 8) 40 f3_inksRound), (cI κ q2 40 fq2)] sz) 0 0 (va_A [O3 a3 r3 v3_count v3_marks, (cI κ (r3 1) 20 f3_inkOf), (cI κ (r3 3) 60 f3_markLine), (cI κ (r3 4) 60 f3_markHole), (cI κ (r3 5) 60 f3_markOver), (cI κ (r3 8) 40 f3_inksRound), (cI κ q2 40 fq2)] sz) := by
  refine ofK_i (cc := cX3_foughtWorm) (maxL := 6) (own := RX3) (by decide) rfl rfl (Nat.le_of_ble_eq_true rfl) ?_
  intro p e s m args below meth c Q A ls hsz hx hb hml hts hown hK hA hAB hP hD hl ret
  have hS : va_S A s.heap s.heap [] := va_S.rf
  have hl : lv_has ls 6 [(0, .ref a3), (1, .int p1), (2, .ref q2)] := hl
  have w0 := hts (.fieldLink RX3 44 "OlderSkin$Lines" "marks" "I") (List.mem_of_getElem? (i := 1) rfl)
  have w1 := (fun w h => List.mem_cons_of_mem _ (List.mem_append_right _ h) : ∀ w ∈ u_ws RX3 TX3 10, w ∈ wsX3_foughtWorm)
  have w2 := hts (.fieldLink RX3 18 "OlderSkin$Lines" "markLine" "[I") (List.mem_of_getElem? (i := 2) rfl)
  have w3 := hts (.fieldLink RX3 24 "OlderSkin$Lines" "markOver" "[I") (List.mem_of_getElem? (i := 3) rfl)
  have w4 := hts (.fieldLink RX3 21 "OlderSkin$Lines" "markHole" "[I") (List.mem_of_getElem? (i := 4) rfl)
  have w5 := hts (.fieldLink RX3 30 "OlderSkin$Lines" "inksRound" "[I") (List.mem_of_getElem? (i := 5) rfl)
  have w6 := hts (.fieldLink RX3 15 "OlderSkin$Lines" "inkOf" "[I") (List.mem_of_getElem? (i := 6) rfl)
  have w7 := hts (.initialized RX11) (List.mem_of_getElem? (i := 8) rfl)
  have w8 := hts (.static yX11_hasBit) (List.mem_of_getElem? (i := 7) rfl)
  have w9 := hK.2.1 ("OlderSkin$Lines", 63, ⟨"OlderSkin", "hasBit", "(II)Z"⟩, "OlderSkin") (by decide +kernel)
  have l0 : ((-1) : Int32).toInt = -1 := by decide
  have l1 : (0 : Int32).toInt = 0 := by decide
  have l2 : (1 : Int32).toInt = 1 := by decide
  have i2 : 0 ≤ v3_marks.toInt ∧ v3_marks.toInt ≤ 60 := i2
  refine lv_iconst (v := (-1)) hx hb dX3_foughtWorm_0 (by decide) ?_
  refine lv_istore_n (lv' := [(3, .int (-1)), (0, .ref a3), (1, .int p1), (2, .ref q2)]) hx hb dX3_foughtWorm_1 rfl hl (by decide) rfl (fun ls hl => ?_)
  refine lv_iconst (v := 0) hx hb dX3_foughtWorm_2 (by decide) ?_
  refine lv_istore (lv' := [(4, .int 0), (3, .int (-1)), (0, .ref a3), (1, .int p1), (2, .ref q2)]) hx hb dX3_foughtWorm_3 hl (by decide) rfl (fun ls hl => ?_)
  have lp5 : ∀ (n5 : Nat) (k1 : Int32) (k2 : Int32), (0 ≤ k1.toInt) → (v3_marks.toInt - k1.toInt).toNat < n5 → ∀ (H : Heap) (locs : List Loc), va_P D vwCl [O3 a3 r3 v3_count v3_marks, (cI κ (r3 1) 20 f3_inkOf), (cI κ (r3 3) 60 f3_markLine), (cI κ (r3 4) 60 f3_markHole), (cI κ (r3 5) 60 f3_markOver), (cI κ (r3 8) 40 f3_inksRound), (cI κ q2 40 fq2)] H → va_D A [O3 a3 r3 v3_count v3_marks, (cI κ (r3 1) 20 f3_inkOf), (cI κ (r3 3) 60 f3_markLine), (cI κ (r3 4) 60 f3_markHole), (cI κ (r3 5) 60 f3_markOver), (cI κ (r3 8) 40 f3_inksRound), (cI κ q2 40 fq2)] → va_S A s.heap H locs → ∀ ls : Array Slot, lv_has ls 6 [(4, .int k1), (3, .int k2), (0, .ref a3), (1, .int p1), (2, .ref q2)] → W p l e ({ frames := 1, cells := 0, slots := 0, locals := 21 } : Room) s m args below meth c H locs 0 0 Q (F0 m 5 ls []) := by
    intro n5
    induction n5 with
    | zero =>
      intro k1 k2 h3 m4
      exact absurd m4 (Nat.not_lt_zero _)
    | succ n5 ih5 =>
      intro k1 k2 h3 m4 H locs hP hD hS ls hl
      refine lv_iload hx hb dX3_foughtWorm_5 (lv_at hl 0 rfl) ?_
      refine lv_aload_n hx hb dX3_foughtWorm_7 rfl (lv_at hl 2 rfl) ?_
      refine va_get (D := D) (ci := 3) (v := .int v3_marks) (C := RX3) (T := TX3) (N := 10) hx hb hts w1 hown hK.1 hP 0 rfl rfl 6 (by decide) w0 (fun _ h9 => h9) rfl dX3_foughtWorm_8 ?_
      refine lv_icmp_ge (tgt := 85) hx hb dX3_foughtWorm_11 (by decide) (fun c5 => ?_) (fun c5 => ?_)
      · have c5 := ci_le c5
        refine lv_iload_n hx hb dX3_foughtWorm_85 rfl (lv_at hl 1 rfl) ?_
        exact ret _ _ _ _ k2 () dX3_foughtWorm_86 trivial hP hD hS
      have c5 := ci_nle c5
      refine lv_aload_n hx hb dX3_foughtWorm_14 rfl (lv_at hl 2 rfl) ?_
      refine va_get (D := D) (ci := 3) (v := .ref (r3 3)) (C := RX3) (T := TX3) (N := 10) hx hb hts w1 hown hK.1 hP 0 rfl rfl 3 (by decide) w2 (fun _ h9 => h9) rfl dX3_foughtWorm_15 ?_
      refine lv_iload hx hb dX3_foughtWorm_18 (lv_at hl 0 rfl) ?_
      refine va_iald hx hb hK.1 hP 2 1 rfl rfl (i := k1) (ix (by omega) (by omega)) dX3_foughtWorm_20 ?_
      refine lv_topi (fun x6 e7 => ?_)
      have h8 : 0 ≤ x6.toInt ∧ x6.toInt ≤ 19 := by rw [e7]; exact hf3_markLine _
      refine lv_iload_n hx hb dX3_foughtWorm_21 rfl (lv_at hl 3 rfl) ?_
      refine lv_icmp_ne (tgt := 79) hx hb dX3_foughtWorm_22 (by decide) (fun c9 => ?_) (fun c9 => ?_)
      · have c9 := ci_ne c9
        obtain ⟨x10, e11⟩ : ∃ y : Int32, y = k1 + 1 := ⟨_, rfl⟩
        refine lv_iinc (v := x10) (lv' := [(4, .int x10), (3, .int k2), (0, .ref a3), (1, .int p1), (2, .ref q2)]) hx hb dX3_foughtWorm_79 hl (k := 0) rfl (by rw [e11]; rfl) (by decide) rfl (fun ls hl => ?_)
        try have h12 : x10.toInt = k1.toInt + (1 : Int32).toInt := ci_add e11 (by omega) (by omega)
        refine lv_goto (tgt := 5) hx hb dX3_foughtWorm_82 (by decide) ?_
        exact ih5 x10 k2 (by omega) (by omega) _ _ hP hD hS _ hl
      have c9 := ci_eq c9
      refine lv_aload_n hx hb dX3_foughtWorm_25 rfl (lv_at hl 2 rfl) ?_
      refine va_get (D := D) (ci := 3) (v := .ref (r3 5)) (C := RX3) (T := TX3) (N := 10) hx hb hts w1 hown hK.1 hP 0 rfl rfl 5 (by decide) w3 (fun _ h9 => h9) rfl dX3_foughtWorm_26 ?_
      refine lv_iload hx hb dX3_foughtWorm_29 (lv_at hl 0 rfl) ?_
      refine va_iald hx hb hK.1 hP 4 1 rfl rfl (i := k1) (ix (by omega) (by omega)) dX3_foughtWorm_31 ?_
      refine lv_topi (fun x13 e14 => ?_)
      refine lv_iconst (v := 1) hx hb dX3_foughtWorm_32 (by decide) ?_
      refine lv_icmp_ne (tgt := 79) hx hb dX3_foughtWorm_33 (by decide) (fun c15 => ?_) (fun c15 => ?_)
      · have c15 := ci_ne c15
        obtain ⟨x16, e17⟩ : ∃ y : Int32, y = k1 + 1 := ⟨_, rfl⟩
        refine lv_iinc (v := x16) (lv' := [(4, .int x16), (3, .int k2), (0, .ref a3), (1, .int p1), (2, .ref q2)]) hx hb dX3_foughtWorm_79 hl (k := 0) rfl (by rw [e17]; rfl) (by decide) rfl (fun ls hl => ?_)
        try have h18 : x16.toInt = k1.toInt + (1 : Int32).toInt := ci_add e17 (by omega) (by omega)
        refine lv_goto (tgt := 5) hx hb dX3_foughtWorm_82 (by decide) ?_
        exact ih5 x16 k2 (by omega) (by omega) _ _ hP hD hS _ hl
      have c15 := ci_eq c15
      refine lv_aload_n hx hb dX3_foughtWorm_36 rfl (lv_at hl 4 rfl) ?_
      refine lv_aload_n hx hb dX3_foughtWorm_37 rfl (lv_at hl 2 rfl) ?_
      refine va_get (D := D) (ci := 3) (v := .ref (r3 4)) (C := RX3) (T := TX3) (N := 10) hx hb hts w1 hown hK.1 hP 0 rfl rfl 4 (by decide) w4 (fun _ h9 => h9) rfl dX3_foughtWorm_38 ?_
      refine lv_iload hx hb dX3_foughtWorm_41 (lv_at hl 0 rfl) ?_
      refine va_iald hx hb hK.1 hP 3 1 rfl rfl (i := k1) (ix (by omega) (by omega)) dX3_foughtWorm_43 ?_
      refine lv_topi (fun x19 e20 => ?_)
      have h21 : 0 ≤ x19.toInt ∧ x19.toInt ≤ 39 := by rw [e20]; exact hf3_markHole _
      refine va_iald hx hb hK.1 hP 6 1 rfl rfl (i := x19) (ix (by omega) (by omega)) dX3_foughtWorm_44 ?_
      refine lv_topi (fun x22 e23 => ?_)
      have h24 : 0 ≤ x22.toInt ∧ x22.toInt ≤ 39 := by rw [e23]; exact hfq2 _
      refine lv_istore (lv' := [(5, .int x22), (4, .int k1), (3, .int k2), (0, .ref a3), (1, .int p1), (2, .ref q2)]) hx hb dX3_foughtWorm_45 hl (by decide) rfl (fun ls hl => ?_)
      refine lv_aload_n hx hb dX3_foughtWorm_47 rfl (lv_at hl 3 rfl) ?_
      refine va_get (D := D) (ci := 3) (v := .ref (r3 8)) (C := RX3) (T := TX3) (N := 10) hx hb hts w1 hown hK.1 hP 0 rfl rfl 8 (by decide) w5 (fun _ h9 => h9) rfl dX3_foughtWorm_48 ?_
      refine lv_iload hx hb dX3_foughtWorm_51 (lv_at hl 0 rfl) ?_
      refine va_iald hx hb hK.1 hP 5 1 rfl rfl (i := x22) (ix (by omega) (by omega)) dX3_foughtWorm_53 ?_
      refine lv_topi (fun x25 e26 => ?_)
      refine lv_aload_n hx hb dX3_foughtWorm_54 rfl (lv_at hl 3 rfl) ?_
      refine va_get (D := D) (ci := 3) (v := .ref (r3 1)) (C := RX3) (T := TX3) (N := 10) hx hb hts w1 hown hK.1 hP 0 rfl rfl 1 (by decide) w6 (fun _ h9 => h9) rfl dX3_foughtWorm_55 ?_
      refine lv_iload_n hx hb dX3_foughtWorm_58 rfl (lv_at hl 4 rfl) ?_
      refine va_iald hx hb hK.1 hP 1 1 rfl rfl (i := p1) (ix (by omega) (by omega)) dX3_foughtWorm_59 ?_
      refine lv_topi (fun x27 e28 => ?_)
      refine kcm_i hA hAB hP hD hS [false, false, false, false, false, false, false] rfl (fun _ => rfl) (fun hPc hDc => va_runSN (As := [.int x25, .int x27]) (rest := []) ⟨hx, hb, hml, hown, hts⟩ (k_X11_hasBit l D κ β H.size x25 x27) ⟨va_cnB 2 hts gX3_foughtWorm_X11_hasBit_n63 rfl rfl rfl w9 w7 (by decide +kernel) ⟨Nat.le_of_ble_eq_true rfl, Nat.le_of_ble_eq_true rfl⟩, w8, trivial⟩ (pk_S hK hS hAB hPc hDc) rfl rfl hl.1 rfl (lv_room (Nat.le_of_ble_eq_true rfl)) dX3_foughtWorm_60 ⟨Nat.le_of_ble_eq_true rfl, Nat.le_of_ble_eq_true rfl⟩) (fun x29 u30 H locs hw hPD hS => ?_)
      have h31 : x29.toInt = 0 ∨ x29.toInt = 1 := hw
      obtain ⟨hP, hD⟩ : PD D A [O3 a3 r3 v3_count v3_marks, (cI κ (r3 1) 20 f3_inkOf), (cI κ (r3 3) 60 f3_markLine), (cI κ (r3 4) 60 f3_markHole), (cI κ (r3 5) 60 f3_markOver), (cI κ (r3 8) 40 f3_inksRound), (cI κ q2 40 fq2)] H := hPD
      refine lv_if_eq (tgt := 79) hx hb dX3_foughtWorm_63 (by decide) (fun c32 => ?_) (fun c32 => ?_)
      · have c32 := ci_eq c32
        obtain ⟨x33, e34⟩ : ∃ y : Int32, y = k1 + 1 := ⟨_, rfl⟩
        refine lv_iinc (v := x33) (lv' := [(4, .int x33), (5, .int x22), (3, .int k2), (0, .ref a3), (1, .int p1), (2, .ref q2)]) hx hb dX3_foughtWorm_79 hl (k := 1) rfl (by rw [e34]; rfl) (by decide) rfl (fun ls hl => ?_)
        try have h35 : x33.toInt = k1.toInt + (1 : Int32).toInt := ci_add e34 (by omega) (by omega)
        refine lv_goto (tgt := 5) hx hb dX3_foughtWorm_82 (by decide) ?_
        exact ih5 x33 k2 (by omega) (by omega) _ _ hP hD hS _ (lv_sub hl [0, 2, 3, 4, 5] rfl)
      have c32 := ci_ne c32
      refine lv_iload_n hx hb dX3_foughtWorm_66 rfl (lv_at hl 2 rfl) ?_
      refine lv_if_lt (tgt := 76) hx hb dX3_foughtWorm_67 (by decide) (fun c36 => ?_) (fun c36 => ?_)
      · have c36 := ci_lt c36
        refine lv_iload hx hb dX3_foughtWorm_76 (lv_at hl 0 rfl) ?_
        refine lv_istore_n (lv' := [(3, .int x22), (5, .int x22), (4, .int k1), (0, .ref a3), (1, .int p1), (2, .ref q2)]) hx hb dX3_foughtWorm_78 rfl hl (by decide) rfl (fun ls hl => ?_)
        obtain ⟨x37, e38⟩ : ∃ y : Int32, y = k1 + 1 := ⟨_, rfl⟩
        refine lv_iinc (v := x37) (lv' := [(4, .int x37), (3, .int x22), (5, .int x22), (0, .ref a3), (1, .int p1), (2, .ref q2)]) hx hb dX3_foughtWorm_79 hl (k := 2) rfl (by rw [e38]; rfl) (by decide) rfl (fun ls hl => ?_)
        try have h39 : x37.toInt = k1.toInt + (1 : Int32).toInt := ci_add e38 (by omega) (by omega)
        refine lv_goto (tgt := 5) hx hb dX3_foughtWorm_82 (by decide) ?_
        exact ih5 x37 x22 (by omega) (by omega) _ _ hP hD hS _ (lv_sub hl [0, 1, 3, 4, 5] rfl)
      have c36 := ci_nlt c36
      refine lv_iload hx hb dX3_foughtWorm_70 (lv_at hl 0 rfl) ?_
      refine lv_iload_n hx hb dX3_foughtWorm_72 rfl (lv_at hl 2 rfl) ?_
      refine lv_icmp_ge (tgt := 79) hx hb dX3_foughtWorm_73 (by decide) (fun c40 => ?_) (fun c40 => ?_)
      · have c40 := ci_le c40
        obtain ⟨x41, e42⟩ : ∃ y : Int32, y = k1 + 1 := ⟨_, rfl⟩
        refine lv_iinc (v := x41) (lv' := [(4, .int x41), (5, .int x22), (3, .int k2), (0, .ref a3), (1, .int p1), (2, .ref q2)]) hx hb dX3_foughtWorm_79 hl (k := 1) rfl (by rw [e42]; rfl) (by decide) rfl (fun ls hl => ?_)
        try have h43 : x41.toInt = k1.toInt + (1 : Int32).toInt := ci_add e42 (by omega) (by omega)
        refine lv_goto (tgt := 5) hx hb dX3_foughtWorm_82 (by decide) ?_
        exact ih5 x41 k2 (by omega) (by omega) _ _ hP hD hS _ (lv_sub hl [0, 2, 3, 4, 5] rfl)
      have c40 := ci_nle c40
      refine lv_iload hx hb dX3_foughtWorm_76 (lv_at hl 0 rfl) ?_
      refine lv_istore_n (lv' := [(3, .int x22), (5, .int x22), (4, .int k1), (0, .ref a3), (1, .int p1), (2, .ref q2)]) hx hb dX3_foughtWorm_78 rfl hl (by decide) rfl (fun ls hl => ?_)
      obtain ⟨x44, e45⟩ : ∃ y : Int32, y = k1 + 1 := ⟨_, rfl⟩
      refine lv_iinc (v := x44) (lv' := [(4, .int x44), (3, .int x22), (5, .int x22), (0, .ref a3), (1, .int p1), (2, .ref q2)]) hx hb dX3_foughtWorm_79 hl (k := 2) rfl (by rw [e45]; rfl) (by decide) rfl (fun ls hl => ?_)
      try have h46 : x44.toInt = k1.toInt + (1 : Int32).toInt := ci_add e45 (by omega) (by omega)
      refine lv_goto (tgt := 5) hx hb dX3_foughtWorm_82 (by decide) ?_
      exact ih5 x44 x22 (by omega) (by omega) _ _ hP hD hS _ (lv_sub hl [0, 1, 3, 4, 5] rfl)
  exact lp5 ((v3_marks.toInt - (0 : Int32).toInt).toNat + 1) 0 (-1) (by omega) (by omega) _ _ hP hD hS _ hl
set_option maxHeartbeats 4000000 in
set_option maxRecDepth 100000 in
theorem k_X3_firstFighting (l : Launch) (D : va_G) (κ : Nat → ClassId) (β : Nat) (a3 : Nat) (r3 : Nat → Nat) (v3_count : Int32) (v3_marks : Int32) (f3_inkOf : Nat → Int32) (f3_markLine : Nat → Int32) (f3_markHole : Nat → Int32) (f3_markOver : Nat → Int32) (f3_inksRound : Nat → Int32) (fq1 : Nat → Int32) (sz : Nat) (q1 : Nat) (i1 : Rg 0 20 v3_count) (i2 : Rg 0 60 v3_marks) (hf3_markLine : ∀ j : Nat, 0 ≤ (f3_markLine j).toInt ∧ (f3_markLine j).toInt ≤ 19) (hf3_markHole : ∀ j : Nat, 0 ≤ (f3_markHole j).toInt ∧ (f3_markHole j).toInt ≤ 39) (hfq1 : ∀ j : Nat, 0 ≤ (fq1 j).toInt ∧ (fq1 j).toInt ≤ 39) : Met l yX3_firstFighting wsX3_firstFighting ({ frames := 2, cells := 0, slots := 0, locals := 46 } : Room) (PcK D κ β [O3 a3 r3 v3_count v3_marks, (cI κ (r3 1) 20 f3_inkOf), (cI κ (r3 3) 60 f3_markLine), (cI κ (r3 4) 60 f3_markHole), (cI κ (r3 5) 60 f3_markOver), (cI κ (r3 8) 40 f3_inksRound), (cI κ q1 40 fq1)] sz [.ref a3, .ref q1]) (QiK D (fun (r : Int32) (u : Unit) => -1 ≤ r.toInt ∧ r.toInt < v3_count.toInt) (fun (u : Unit) => [O3 a3 r3 v3_count v3_marks, (cI κ (r3 1) 20 f3_inkOf), (cI κ (r3 3) 60 f3_markLine), (cI κ (r3 4) 60 f3_markHole), (cI κ (r3 5) 60 f3_markOver), (cI κ (r3 8) 40 f3_inksRound), (cI κ q1 40 fq1)]) [O3 a3 r3 v3_count v3_marks, (cI κ (r3 1) 20 f3_inkOf), (cI κ (r3 3) 60 f3_markLine), (cI κ (r3 4) 60 f3_markHole), (cI κ (r3 5) 60 f3_markOver), (cI κ (r3 8) 40 f3_inksRound), (cI κ q1 40 fq1)] sz) 0 0 (va_A [O3 a3 r3 v3_count v3_marks, (cI κ (r3 1) 20 f3_inkOf), (cI κ (r3 3) 60 f3_markLine), (cI κ (r3 4) 60 f3_markHole), (cI κ (r3 5) 60 f3_markOver), (cI κ (r3 8) 40 f3_inksRound), (cI κ q1 40 fq1)] sz) := by
  refine ofK_i (cc := cX3_firstFighting) (maxL := 3) (own := RX3) (by decide) rfl rfl (Nat.le_of_ble_eq_true rfl) ?_
  intro p e s m args below meth c Q A ls hsz hx hb hml hts hown hK hA hAB hP hD hl ret
  have hS : va_S A s.heap s.heap [] := va_S.rf
  have hl : lv_has ls 3 [(0, .ref a3), (1, .ref q1)] := hl
  have w0 := hts (.fieldLink RX3 36 "OlderSkin$Lines" "count" "I") (List.mem_of_getElem? (i := 1) rfl)
  have w1 := (fun w h => List.mem_cons_of_mem _ (List.mem_append_right _ h) : ∀ w ∈ u_ws RX3 TX3 10, w ∈ wsX3_firstFighting)
  have l0 : (0 : Int32).toInt = 0 := by decide
  have l1 : ((-1) : Int32).toInt = -1 := by decide
  have l2 : (1 : Int32).toInt = 1 := by decide
  have i1 : 0 ≤ v3_count.toInt ∧ v3_count.toInt ≤ 20 := i1
  refine lv_iconst (v := 0) hx hb dX3_firstFighting_0 (by decide) ?_
  refine lv_istore_n (lv' := [(2, .int 0), (0, .ref a3), (1, .ref q1)]) hx hb dX3_firstFighting_1 rfl hl (by decide) rfl (fun ls hl => ?_)
  have lp2 : ∀ (n2 : Nat) (k1 : Int32), (0 ≤ k1.toInt) → (v3_count.toInt - k1.toInt).toNat < n2 → ∀ (H : Heap) (locs : List Loc), va_P D vwCl [O3 a3 r3 v3_count v3_marks, (cI κ (r3 1) 20 f3_inkOf), (cI κ (r3 3) 60 f3_markLine), (cI κ (r3 4) 60 f3_markHole), (cI κ (r3 5) 60 f3_markOver), (cI κ (r3 8) 40 f3_inksRound), (cI κ q1 40 fq1)] H → va_D A [O3 a3 r3 v3_count v3_marks, (cI κ (r3 1) 20 f3_inkOf), (cI κ (r3 3) 60 f3_markLine), (cI κ (r3 4) 60 f3_markHole), (cI κ (r3 5) 60 f3_markOver), (cI κ (r3 8) 40 f3_inksRound), (cI κ q1 40 fq1)] → va_S A s.heap H locs → ∀ ls : Array Slot, lv_has ls 3 [(2, .int k1), (0, .ref a3), (1, .ref q1)] → W p l e ({ frames := 2, cells := 0, slots := 0, locals := 46 } : Room) s m args below meth c H locs 0 0 Q (F0 m 2 ls []) := by
    intro n2
    induction n2 with
    | zero =>
      intro k1 h2 m3
      exact absurd m3 (Nat.not_lt_zero _)
    | succ n2 ih2 =>
      intro k1 h2 m3 H locs hP hD hS ls hl
      refine lv_iload_n hx hb dX3_firstFighting_2 rfl (lv_at hl 0 rfl) ?_
      refine lv_aload_n hx hb dX3_firstFighting_3 rfl (lv_at hl 1 rfl) ?_
      refine va_get (D := D) (ci := 3) (v := .int v3_count) (C := RX3) (T := TX3) (N := 10) hx hb hts w1 hown hK.1 hP 0 rfl rfl 2 (by decide) w0 (fun _ h9 => h9) rfl dX3_firstFighting_4 ?_
      refine lv_icmp_ge (tgt := 27) hx hb dX3_firstFighting_7 (by decide) (fun c4 => ?_) (fun c4 => ?_)
      · have c4 := ci_le c4
        refine lv_iconst (v := (-1)) hx hb dX3_firstFighting_27 (by decide) ?_
        have hpo : -1 ≤ ((-1) : Int32).toInt ∧ ((-1) : Int32).toInt < v3_count.toInt := (by omega)
        exact ret _ _ _ _ (-1) () dX3_firstFighting_28 hpo hP hD hS
      have c4 := ci_nle c4
      refine lv_aload_n hx hb dX3_firstFighting_10 rfl (lv_at hl 1 rfl) ?_
      refine lv_iload_n hx hb dX3_firstFighting_11 rfl (lv_at hl 0 rfl) ?_
      refine lv_aload_n hx hb dX3_firstFighting_12 rfl (lv_at hl 2 rfl) ?_
      refine kcm_i hA hAB hP hD hS [true, true, true, true, true, true, true] rfl (fun _ => rfl) (fun hPc hDc => va_runV (As := [.int k1, .ref q1]) (rest := []) ⟨hx, hb, hml, hown, hts⟩ (k_X3_foughtWorm l D κ β a3 r3 v3_count v3_marks f3_inkOf f3_markLine f3_markHole f3_markOver f3_inksRound fq1 H.size k1 q1 i1 i2 hf3_markLine hf3_markHole hfq1 (by omega)) (cwV 2 hts gX3_firstFighting_X3_foughtWorm rfl rfl rfl (by decide +kernel) ⟨Nat.le_of_ble_eq_true rfl, Nat.le_of_ble_eq_true rfl⟩) (pk_V hK hS hAB hPc hDc 0 (ci := 3) rfl rfl rfl) rfl rfl hl.1 rfl (lv_room (Nat.le_of_ble_eq_true rfl)) dX3_firstFighting_13 ⟨Nat.le_of_ble_eq_true rfl, Nat.le_of_ble_eq_true rfl⟩) (fun x5 u6 H locs hw hPD hS => ?_)
      obtain ⟨hP, hD⟩ : PD D A [O3 a3 r3 v3_count v3_marks, (cI κ (r3 1) 20 f3_inkOf), (cI κ (r3 3) 60 f3_markLine), (cI κ (r3 4) 60 f3_markHole), (cI κ (r3 5) 60 f3_markOver), (cI κ (r3 8) 40 f3_inksRound), (cI κ q1 40 fq1)] H := hPD
      refine lv_if_lt (tgt := 21) hx hb dX3_firstFighting_16 (by decide) (fun c7 => ?_) (fun c7 => ?_)
      · have c7 := ci_lt c7
        obtain ⟨x8, e9⟩ : ∃ y : Int32, y = k1 + 1 := ⟨_, rfl⟩
        refine lv_iinc (v := x8) (lv' := [(2, .int x8), (0, .ref a3), (1, .ref q1)]) hx hb dX3_firstFighting_21 hl (k := 0) rfl (by rw [e9]; rfl) (by decide) rfl (fun ls hl => ?_)
        try have h10 : x8.toInt = k1.toInt + (1 : Int32).toInt := ci_add e9 (by omega) (by omega)
        refine lv_goto (tgt := 2) hx hb dX3_firstFighting_24 (by decide) ?_
        exact ih2 x8 (by omega) (by omega) _ _ hP hD hS _ hl
      have c7 := ci_nlt c7
      refine lv_iload_n hx hb dX3_firstFighting_19 rfl (lv_at hl 0 rfl) ?_
      have hpo : -1 ≤ k1.toInt ∧ k1.toInt < v3_count.toInt := (by omega)
      exact ret _ _ _ _ k1 () dX3_firstFighting_20 hpo hP hD hS
  exact lp2 ((v3_count.toInt - (0 : Int32).toInt).toNat + 1) 0 (by omega) (by omega) _ _ hP hD hS _ hl
