set_option maxHeartbeats 4000000 in
set_option maxRecDepth 100000 in
theorem k_X6_add (l : Launch) (D : va_G) (κ : Nat → ClassId) (β : Nat) (a6 : Nat) (r6 : Nat → Nat) (v6_count : Int32) (f6_known : Nat → Int32) (f6_truly : Nat → Int32) (f6_drawnAt : Nat → Int32) (sz : Nat) (p1 : Int32) (p2 : Int32) (p3 : Int32) (i1 : Rg 0 20 v6_count) (i2 : v6_count.toInt = 0) : Met l yX6_add wsX6_add ({ frames := 0, cells := 0, slots := 0, locals := 0 } : Room) (PcK D κ β [O6 a6 r6 v6_count, (cI κ (r6 0) 20 f6_known), (cI κ (r6 1) 20 f6_truly), (cI κ (r6 2) 20 f6_drawnAt)] sz [.ref a6, .int p1, .int p2, .int p3]) (QiK D (fun (r : Int32) (u : Int32 × (Nat → Int32) × (Nat → Int32) × (Nat → Int32)) => (0 ≤ u.1.toInt ∧ u.1.toInt ≤ 20) ∧ ((v6_count.toInt = 20 ∧ r.toInt = -3 ∧ u.1.toInt = v6_count.toInt) ∨ (v6_count.toInt < 20 ∧ r.toInt = v6_count.toInt ∧ u.1.toInt = v6_count.toInt + 1))) (fun (u : Int32 × (Nat → Int32) × (Nat → Int32) × (Nat → Int32)) => [O6 a6 r6 u.1, (cI κ (r6 0) 20 u.2.1), (cI κ (r6 1) 20 u.2.2.1), (cI κ (r6 2) 20 u.2.2.2)]) [O6 a6 r6 v6_count, (cI κ (r6 0) 20 f6_known), (cI κ (r6 1) 20 f6_truly), (cI κ (r6 2) 20 f6_drawnAt)] sz) 0 0 (va_A [O6 a6 r6 v6_count, (cI κ (r6 0) 20 f6_known), (cI κ (r6 1) 20 f6_truly), (cI κ (r6 2) 20 f6_drawnAt)] sz) := by
  refine ofK_i (cc := cX6_add) (maxL := 4) (own := RX6) (by decide) rfl rfl (Nat.le_of_ble_eq_true rfl) ?_
  intro p e s m args below meth c Q A ls hsz hx hb hml hts hown hK hA hAB hP hD hl ret
  have hS : va_S A s.heap s.heap [] := va_S.rf
  have hl : lv_has ls 4 [(0, .ref a6), (1, .int p1), (2, .int p2), (3, .int p3)] := hl
  have w0 := hts (.fieldLink RX6 21 "OlderSkin$Places" "count" "I") (List.mem_of_getElem? (i := 1) rfl)
  have w1 := (fun w h => List.mem_cons_of_mem _ (List.mem_append_right _ h) : ∀ w ∈ u_ws RX6 TX6 4, w ∈ wsX6_add)
  have w2 := hts (.fieldLink RX6 9 "OlderSkin$Places" "known" "[I") (List.mem_of_getElem? (i := 2) rfl)
  have w3 := hts (.fieldLink RX6 15 "OlderSkin$Places" "truly" "[I") (List.mem_of_getElem? (i := 3) rfl)
  have w4 := hts (.fieldLink RX6 18 "OlderSkin$Places" "drawnAt" "[I") (List.mem_of_getElem? (i := 4) rfl)
  have l0 : (20 : Int32).toInt = 20 := by decide
  have l1 : (0 : Int32).toInt = 0 := by decide
  have l2 : (1 : Int32).toInt = 1 := by decide
  have l3 : ((-3) : Int32).toInt = -3 := by decide
  have i1 : 0 ≤ v6_count.toInt ∧ v6_count.toInt ≤ 20 := i1
  refine lv_aload_n hx hb dX6_add_0 rfl (lv_at hl 0 rfl) ?_
  refine va_get (D := D) (ci := 6) (v := .int v6_count) (C := RX6) (T := TX6) (N := 4) hx hb hts w1 hown hK.1 hP 0 rfl rfl 3 (by decide) w0 (fun _ h9 => h9) rfl dX6_add_1 ?_
  refine lv_aload_n hx hb dX6_add_4 rfl (lv_at hl 0 rfl) ?_
  refine va_get (D := D) (ci := 6) (v := .ref (r6 0)) (C := RX6) (T := TX6) (N := 4) hx hb hts w1 hown hK.1 hP 0 rfl rfl 0 (by decide) w2 (fun _ h9 => h9) rfl dX6_add_5 ?_
  refine va_alen hx hb hK.1 hP 1 1 rfl rfl (v := 20) rfl dX6_add_8 ?_
  refine lv_icmp_ne (tgt := 15) hx hb dX6_add_9 (by decide) (fun c1 => ?_) (fun c1 => ?_)
  · have c1 := ci_ne c1
    refine lv_aload_n hx hb dX6_add_15 rfl (lv_at hl 0 rfl) ?_
    refine va_get (D := D) (ci := 6) (v := .ref (r6 0)) (C := RX6) (T := TX6) (N := 4) hx hb hts w1 hown hK.1 hP 0 rfl rfl 0 (by decide) w2 (fun _ h9 => h9) rfl dX6_add_16 ?_
    refine lv_aload_n hx hb dX6_add_19 rfl (lv_at hl 0 rfl) ?_
    refine va_get (D := D) (ci := 6) (v := .int v6_count) (C := RX6) (T := TX6) (N := 4) hx hb hts w1 hown hK.1 hP 0 rfl rfl 3 (by decide) w0 (fun _ h9 => h9) rfl dX6_add_20 ?_
    refine lv_iload_n hx hb dX6_add_23 rfl (lv_at hl 1 rfl) ?_
    refine va_iast hx hb hK.1 hP hD hS 1 1 rfl rfl (i := v6_count) (ix (by omega) (by omega)) dX6_add_24 (fun H locs hP hD hS => ?_)
    obtain ⟨g2, e3⟩ : ∃ y : Nat → Int32, y = upd f6_known v6_count.toNatClampNeg p1 := ⟨_, rfl⟩
    rw [← e3] at hP hD
    obtain ⟨hP, hD⟩ : PD D A [O6 a6 r6 v6_count, (cI κ (r6 0) 20 g2), (cI κ (r6 1) 20 f6_truly), (cI κ (r6 2) 20 f6_drawnAt)] H := ⟨hP, hD⟩
    refine lv_aload_n hx hb dX6_add_25 rfl (lv_at hl 0 rfl) ?_
    refine va_get (D := D) (ci := 6) (v := .ref (r6 1)) (C := RX6) (T := TX6) (N := 4) hx hb hts w1 hown hK.1 hP 0 rfl rfl 1 (by decide) w3 (fun _ h9 => h9) rfl dX6_add_26 ?_
    refine lv_aload_n hx hb dX6_add_29 rfl (lv_at hl 0 rfl) ?_
    refine va_get (D := D) (ci := 6) (v := .int v6_count) (C := RX6) (T := TX6) (N := 4) hx hb hts w1 hown hK.1 hP 0 rfl rfl 3 (by decide) w0 (fun _ h9 => h9) rfl dX6_add_30 ?_
    refine lv_iload_n hx hb dX6_add_33 rfl (lv_at hl 2 rfl) ?_
    refine va_iast hx hb hK.1 hP hD hS 2 1 rfl rfl (i := v6_count) (ix (by omega) (by omega)) dX6_add_34 (fun H locs hP hD hS => ?_)
    obtain ⟨g4, e5⟩ : ∃ y : Nat → Int32, y = upd f6_truly v6_count.toNatClampNeg p2 := ⟨_, rfl⟩
    rw [← e5] at hP hD
    obtain ⟨hP, hD⟩ : PD D A [O6 a6 r6 v6_count, (cI κ (r6 0) 20 g2), (cI κ (r6 1) 20 g4), (cI κ (r6 2) 20 f6_drawnAt)] H := ⟨hP, hD⟩
    refine lv_aload_n hx hb dX6_add_35 rfl (lv_at hl 0 rfl) ?_
    refine va_get (D := D) (ci := 6) (v := .ref (r6 2)) (C := RX6) (T := TX6) (N := 4) hx hb hts w1 hown hK.1 hP 0 rfl rfl 2 (by decide) w4 (fun _ h9 => h9) rfl dX6_add_36 ?_
    refine lv_aload_n hx hb dX6_add_39 rfl (lv_at hl 0 rfl) ?_
    refine va_get (D := D) (ci := 6) (v := .int v6_count) (C := RX6) (T := TX6) (N := 4) hx hb hts w1 hown hK.1 hP 0 rfl rfl 3 (by decide) w0 (fun _ h9 => h9) rfl dX6_add_40 ?_
    refine lv_iload_n hx hb dX6_add_43 rfl (lv_at hl 3 rfl) ?_
    refine va_iast hx hb hK.1 hP hD hS 3 1 rfl rfl (i := v6_count) (ix (by omega) (by omega)) dX6_add_44 (fun H locs hP hD hS => ?_)
    obtain ⟨g6, e7⟩ : ∃ y : Nat → Int32, y = upd f6_drawnAt v6_count.toNatClampNeg p3 := ⟨_, rfl⟩
    rw [← e7] at hP hD
    obtain ⟨hP, hD⟩ : PD D A [O6 a6 r6 v6_count, (cI κ (r6 0) 20 g2), (cI κ (r6 1) 20 g4), (cI κ (r6 2) 20 g6)] H := ⟨hP, hD⟩
    refine lv_aload_n hx hb dX6_add_45 rfl (lv_at hl 0 rfl) ?_
    refine lv_dup hx hb dX6_add_46 rfl ?_
    refine va_get (D := D) (ci := 6) (v := .int v6_count) (C := RX6) (T := TX6) (N := 4) hx hb hts w1 hown hK.1 hP 0 rfl rfl 3 (by decide) w0 (fun _ h9 => h9) rfl dX6_add_47 ?_
    refine lv_dup_x1 hx hb dX6_add_50 rfl rfl ?_
    refine lv_iconst (v := 1) hx hb dX6_add_51 (by decide) ?_
    refine lv_iadd hx hb dX6_add_52 ?_
    refine lv_topi (fun x8 e9 => ?_)
    try have h10 : x8.toInt = v6_count.toInt + (1 : Int32).toInt := ci_add e9 (by omega) (by omega)
    refine va_put (D := D) (ci := 6) (v := .int x8) (ty := .int) (C := RX6) (T := TX6) (N := 4) hx hb hts w1 tyX6 tyX6_ok nmX6 hown hK.1 hP hD hS 0 rfl rfl 3 (by decide) w0 (fun _ h9 => h9) rfl (by decide +kernel) rfl rfl (Nat.le_of_ble_eq_true rfl) dX6_add_53 (fun H locs hP hD hS => ?_)
    obtain ⟨hP, hD⟩ : PD D A [O6 a6 r6 x8, (cI κ (r6 0) 20 g2), (cI κ (r6 1) 20 g4), (cI κ (r6 2) 20 g6)] H := ⟨hP, hD⟩
    have h11 : 0 ≤ x8.toInt ∧ x8.toInt ≤ 20 := by omega
    have hpo : (0 ≤ x8.toInt ∧ x8.toInt ≤ 20) ∧ ((v6_count.toInt = 20 ∧ v6_count.toInt = -3 ∧ x8.toInt = v6_count.toInt) ∨ (v6_count.toInt < 20 ∧ v6_count.toInt = v6_count.toInt ∧ x8.toInt = v6_count.toInt + 1)) := ⟨h11, (by omega)⟩
    exact ret _ _ _ _ v6_count (x8, g2, g4, g6) dX6_add_56 hpo hP hD hS
  have c1 := ci_eq c1
  refine lv_bipush (v := (-3)) hx hb dX6_add_12 (by decide) ?_
  have hpo : (0 ≤ v6_count.toInt ∧ v6_count.toInt ≤ 20) ∧ ((v6_count.toInt = 20 ∧ ((-3) : Int32).toInt = -3 ∧ v6_count.toInt = v6_count.toInt) ∨ (v6_count.toInt < 20 ∧ ((-3) : Int32).toInt = v6_count.toInt ∧ v6_count.toInt = v6_count.toInt + 1)) := ⟨i1, (by omega)⟩
  exact ret _ _ _ _ (-3) (v6_count, f6_known, f6_truly, f6_drawnAt) dX6_add_14 hpo hP hD hS
set_option maxHeartbeats 4000000 in
set_option maxRecDepth 100000 in
theorem k_X6_offBy (l : Launch) (D : va_G) (κ : Nat → ClassId) (β : Nat) (a6 : Nat) (r6 : Nat → Nat) (v6_count : Int32) (sz : Nat) (p1 : Int32) (p2 : Int32) (p3 : Int32) (i1 : Rg 0 20 v6_count) (i2 : (1 : Int) ≤ 0) : Met l yX6_offBy wsX6_offBy ({ frames := 1, cells := 0, slots := 0, locals := 30 } : Room) (PcK D κ β [O6 a6 r6 v6_count] sz [.ref a6, .int p1, .int p2, .int p3]) (QiK D (fun (r : Int32) (u : Unit) => True) (fun (u : Unit) => [O6 a6 r6 v6_count]) [O6 a6 r6 v6_count] sz) 0 0 (va_A [O6 a6 r6 v6_count] sz) := by
  refine ofK_i (cc := cX6_offBy) (maxL := 4) (own := RX6) (by decide) rfl rfl (Nat.le_of_ble_eq_true rfl) ?_
  intro p e s m args below meth c Q A ls hsz hx hb hml hts hown hK hA hAB hP hD hl ret
  have hS : va_S A s.heap s.heap [] := va_S.rf
  have hl : lv_has ls 4 [(0, .ref a6), (1, .int p1), (2, .int p2), (3, .int p3)] := hl
  exfalso
  omega
set_option maxHeartbeats 4000000 in
set_option maxRecDepth 100000 in
theorem k_X6_lateOnes (l : Launch) (D : va_G) (κ : Nat → ClassId) (β : Nat) (a6 : Nat) (r6 : Nat → Nat) (v6_count : Int32) (sz : Nat) (p1 : Int32) (i1 : Rg 0 20 v6_count) (i2 : v6_count.toInt = 0) : Met l yX6_lateOnes wsX6_lateOnes ({ frames := 0, cells := 0, slots := 0, locals := 0 } : Room) (PcK D κ β [O6 a6 r6 v6_count] sz [.ref a6, .int p1]) (QiK D (fun (r : Int32) (u : Unit) => r.toInt = 0) (fun (u : Unit) => [O6 a6 r6 v6_count]) [O6 a6 r6 v6_count] sz) 0 0 (va_A [O6 a6 r6 v6_count] sz) := by
  refine ofK_i (cc := cX6_lateOnes) (maxL := 4) (own := RX6) (by decide) rfl rfl (Nat.le_of_ble_eq_true rfl) ?_
  intro p e s m args below meth c Q A ls hsz hx hb hml hts hown hK hA hAB hP hD hl ret
  have hS : va_S A s.heap s.heap [] := va_S.rf
  have hl : lv_has ls 4 [(0, .ref a6), (1, .int p1)] := hl
  have w0 := hts (.fieldLink RX6 21 "OlderSkin$Places" "count" "I") (List.mem_of_getElem? (i := 1) rfl)
  have w1 := (fun w h => List.mem_cons_of_mem _ (List.mem_append_right _ h) : ∀ w ∈ u_ws RX6 TX6 4, w ∈ wsX6_lateOnes)
  have l0 : (0 : Int32).toInt = 0 := by decide
  have i1 : 0 ≤ v6_count.toInt ∧ v6_count.toInt ≤ 20 := i1
  refine lv_iconst (v := 0) hx hb dX6_lateOnes_0 (by decide) ?_
  refine lv_istore_n (lv' := [(2, .int 0), (0, .ref a6), (1, .int p1)]) hx hb dX6_lateOnes_1 rfl hl (by decide) rfl (fun ls hl => ?_)
  refine lv_iconst (v := 0) hx hb dX6_lateOnes_2 (by decide) ?_
  refine lv_istore_n (lv' := [(3, .int 0), (2, .int 0), (0, .ref a6), (1, .int p1)]) hx hb dX6_lateOnes_3 rfl hl (by decide) rfl (fun ls hl => ?_)
  have lp4 : ∀ (n4 : Nat), (0 ≤ (0 : Int32).toInt) → (v6_count.toInt - (0 : Int32).toInt).toNat < n4 → ∀ (H : Heap) (locs : List Loc), va_P D vwCl [O6 a6 r6 v6_count] H → va_D A [O6 a6 r6 v6_count] → va_S A s.heap H locs → ∀ ls : Array Slot, lv_has ls 4 [(3, .int 0), (2, .int 0), (0, .ref a6), (1, .int p1)] → W p l e ({ frames := 0, cells := 0, slots := 0, locals := 0 } : Room) s m args below meth c H locs 0 0 Q (F0 m 4 ls []) := by
    intro n4
    induction n4 with
    | zero =>
      intro h1 m2
      exact absurd m2 (Nat.not_lt_zero _)
    | succ n4 ih4 =>
      intro h1 m2 H locs hP hD hS ls hl
      refine lv_iload_n hx hb dX6_lateOnes_4 rfl (lv_at hl 0 rfl) ?_
      refine lv_aload_n hx hb dX6_lateOnes_5 rfl (lv_at hl 2 rfl) ?_
      refine va_get (D := D) (ci := 6) (v := .int v6_count) (C := RX6) (T := TX6) (N := 4) hx hb hts w1 hown hK.1 hP 0 rfl rfl 3 (by decide) w0 (fun _ h9 => h9) rfl dX6_lateOnes_6 ?_
      refine lv_icmp_ge (tgt := 39) hx hb dX6_lateOnes_9 (by decide) (fun c3 => ?_) (fun c3 => ?_)
      · have c3 := ci_le c3
        refine lv_iload_n hx hb dX6_lateOnes_39 rfl (lv_at hl 1 rfl) ?_
        have hpo : (0 : Int32).toInt = 0 := (by omega)
        exact ret _ _ _ _ 0 () dX6_lateOnes_40 hpo hP hD hS
      have c3 := ci_nle c3
      exfalso
      omega
  exact lp4 ((v6_count.toInt - (0 : Int32).toInt).toNat + 1) (by omega) (by omega) _ _ hP hD hS _ hl
set_option maxHeartbeats 4000000 in
set_option maxRecDepth 100000 in
theorem k_X6_lateOff (l : Launch) (D : va_G) (κ : Nat → ClassId) (β : Nat) (a6 : Nat) (r6 : Nat → Nat) (v6_count : Int32) (sz : Nat) (p1 : Int32) (i1 : Rg 0 20 v6_count) (i2 : v6_count.toInt = 0) : Met l yX6_lateOff wsX6_lateOff ({ frames := 0, cells := 0, slots := 0, locals := 0 } : Room) (PcK D κ β [O6 a6 r6 v6_count] sz [.ref a6, .int p1]) (QiK D (fun (r : Int32) (u : Unit) => r.toInt = 0) (fun (u : Unit) => [O6 a6 r6 v6_count]) [O6 a6 r6 v6_count] sz) 0 0 (va_A [O6 a6 r6 v6_count] sz) := by
  refine ofK_i (cc := cX6_lateOff) (maxL := 4) (own := RX6) (by decide) rfl rfl (Nat.le_of_ble_eq_true rfl) ?_
  intro p e s m args below meth c Q A ls hsz hx hb hml hts hown hK hA hAB hP hD hl ret
  have hS : va_S A s.heap s.heap [] := va_S.rf
  have hl : lv_has ls 4 [(0, .ref a6), (1, .int p1)] := hl
  have w0 := hts (.fieldLink RX6 21 "OlderSkin$Places" "count" "I") (List.mem_of_getElem? (i := 1) rfl)
  have w1 := (fun w h => List.mem_cons_of_mem _ (List.mem_append_right _ h) : ∀ w ∈ u_ws RX6 TX6 4, w ∈ wsX6_lateOff)
  have l0 : (0 : Int32).toInt = 0 := by decide
  have i1 : 0 ≤ v6_count.toInt ∧ v6_count.toInt ≤ 20 := i1
  refine lv_iconst (v := 0) hx hb dX6_lateOff_0 (by decide) ?_
  refine lv_istore_n (lv' := [(2, .int 0), (0, .ref a6), (1, .int p1)]) hx hb dX6_lateOff_1 rfl hl (by decide) rfl (fun ls hl => ?_)
  refine lv_iconst (v := 0) hx hb dX6_lateOff_2 (by decide) ?_
  refine lv_istore_n (lv' := [(3, .int 0), (2, .int 0), (0, .ref a6), (1, .int p1)]) hx hb dX6_lateOff_3 rfl hl (by decide) rfl (fun ls hl => ?_)
  have lp4 : ∀ (n4 : Nat), (0 ≤ (0 : Int32).toInt) → (v6_count.toInt - (0 : Int32).toInt).toNat < n4 → ∀ (H : Heap) (locs : List Loc), va_P D vwCl [O6 a6 r6 v6_count] H → va_D A [O6 a6 r6 v6_count] → va_S A s.heap H locs → ∀ ls : Array Slot, lv_has ls 4 [(3, .int 0), (2, .int 0), (0, .ref a6), (1, .int p1)] → W p l e ({ frames := 0, cells := 0, slots := 0, locals := 0 } : Room) s m args below meth c H locs 0 0 Q (F0 m 4 ls []) := by
    intro n4
    induction n4 with
    | zero =>
      intro h1 m2
      exact absurd m2 (Nat.not_lt_zero _)
    | succ n4 ih4 =>
      intro h1 m2 H locs hP hD hS ls hl
      refine lv_iload_n hx hb dX6_lateOff_4 rfl (lv_at hl 0 rfl) ?_
      refine lv_aload_n hx hb dX6_lateOff_5 rfl (lv_at hl 2 rfl) ?_
      refine va_get (D := D) (ci := 6) (v := .int v6_count) (C := RX6) (T := TX6) (N := 4) hx hb hts w1 hown hK.1 hP 0 rfl rfl 3 (by decide) w0 (fun _ h9 => h9) rfl dX6_lateOff_6 ?_
      refine lv_icmp_ge (tgt := 54) hx hb dX6_lateOff_9 (by decide) (fun c3 => ?_) (fun c3 => ?_)
      · have c3 := ci_le c3
        refine lv_iload_n hx hb dX6_lateOff_54 rfl (lv_at hl 1 rfl) ?_
        have hpo : (0 : Int32).toInt = 0 := (by omega)
        exact ret _ _ _ _ 0 () dX6_lateOff_55 hpo hP hD hS
      have c3 := ci_nle c3
      exfalso
      omega
  exact lp4 ((v6_count.toInt - (0 : Int32).toInt).toNat + 1) (by omega) (by omega) _ _ hP hD hS _ hl
set_option maxHeartbeats 4000000 in
set_option maxRecDepth 100000 in
theorem k_X6_guessedAsWell (l : Launch) (D : va_G) (κ : Nat → ClassId) (β : Nat) (a6 : Nat) (r6 : Nat → Nat) (v6_count : Int32) (sz : Nat) (p1 : Int32) (p2 : Int32) (p3 : Int32) (i1 : Rg 0 20 v6_count) (i2 : (1 : Int) ≤ 0) : Met l yX6_guessedAsWell wsX6_guessedAsWell ({ frames := 1, cells := 0, slots := 0, locals := 30 } : Room) (PcK D κ β [O6 a6 r6 v6_count] sz [.ref a6, .int p1, .int p2, .int p3]) (QiK D (fun (r : Int32) (u : Unit) => True) (fun (u : Unit) => [O6 a6 r6 v6_count]) [O6 a6 r6 v6_count] sz) 0 0 (va_A [O6 a6 r6 v6_count] sz) := by
  refine ofK_i (cc := cX6_guessedAsWell) (maxL := 11) (own := RX6) (by decide) rfl rfl (Nat.le_of_ble_eq_true rfl) ?_
  intro p e s m args below meth c Q A ls hsz hx hb hml hts hown hK hA hAB hP hD hl ret
  have hS : va_S A s.heap s.heap [] := va_S.rf
  have hl : lv_has ls 11 [(0, .ref a6), (1, .int p1), (2, .int p2), (3, .int p3)] := hl
  have i1 : 0 ≤ v6_count.toInt ∧ v6_count.toInt ≤ 20 := i1
  exfalso
  omega
