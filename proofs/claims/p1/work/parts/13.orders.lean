set_option maxHeartbeats 4000000 in
set_option maxRecDepth 100000 in
theorem k_X5_thoseThatMayFollow (l : Launch) (D : va_G) (κ : Nat → ClassId) (β : Nat) (a5 : Nat) (r5 : Nat → Nat) (v5_all : Int32) (fq2 : Nat → Int32) (sz : Nat) (p1 : Int32) (q2 : Nat) (p3 : Int32) (i1 : Rg 0 255 v5_all) (i2 : p3.toInt ≤ 40) (i3 : v5_all.toInt = 0) (i4 : p1.toInt = 0) (i5 : p3.toInt = 0) : Met l yX5_thoseThatMayFollow wsX5_thoseThatMayFollow ({ frames := 0, cells := 0, slots := 0, locals := 0 } : Room) (PcK D κ β [O5 a5 r5 v5_all, (cI κ q2 40 fq2)] sz [.ref a5, .int p1, .ref q2, .int p3]) (QiK D (fun (r : Int32) (u : Unit) => r.toInt = 0) (fun (u : Unit) => [O5 a5 r5 v5_all, (cI κ q2 40 fq2)]) [O5 a5 r5 v5_all, (cI κ q2 40 fq2)] sz) 0 0 (va_A [O5 a5 r5 v5_all, (cI κ q2 40 fq2)] sz) := by
  refine ofK_i (cc := cX5_thoseThatMayFollow) (maxL := 6) (own := RX5) (by decide) rfl rfl (Nat.le_of_ble_eq_true rfl) ?_
  intro p e s m args below meth c Q A ls hsz hx hb hml hts hown hK hA hAB hP hD hl ret
  have hS : va_S A s.heap s.heap [] := va_S.rf
  have hl : lv_has ls 6 [(0, .ref a5), (1, .int p1), (2, .ref q2), (3, .int p3)] := hl
  have w0 := hts (.fieldLink RX5 21 "OlderSkin$Orders" "all" "I") (List.mem_of_getElem? (i := 1) rfl)
  have w1 := (fun w h => List.mem_cons_of_mem _ (List.mem_append_right _ h) : ∀ w ∈ u_ws RX5 TX5 4, w ∈ wsX5_thoseThatMayFollow)
  have l0 : ((-1) : Int32).toInt = -1 := by decide
  have l1 : (0 : Int32).toInt = 0 := by decide
  have i1 : 0 ≤ v5_all.toInt ∧ v5_all.toInt ≤ 255 := i1
  refine lv_iload_n hx hb dX5_thoseThatMayFollow_0 rfl (lv_at hl 1 rfl) ?_
  refine lv_aload_n hx hb dX5_thoseThatMayFollow_1 rfl (lv_at hl 0 rfl) ?_
  refine va_get (D := D) (ci := 5) (v := .int v5_all) (C := RX5) (T := TX5) (N := 4) hx hb hts w1 hown hK.1 hP 0 rfl rfl 0 (by decide) w0 (fun _ h9 => h9) rfl dX5_thoseThatMayFollow_2 ?_
  refine lv_iconst (v := (-1)) hx hb dX5_thoseThatMayFollow_5 (by decide) ?_
  refine lv_ixor hx hb dX5_thoseThatMayFollow_6 ?_
  refine lv_topi (fun x1 e2 => ?_)
  refine lv_iand hx hb dX5_thoseThatMayFollow_7 ?_
  refine lv_topi (fun x3 e4 => ?_)
  refine lv_if_eq (tgt := 13) hx hb dX5_thoseThatMayFollow_8 (by decide) (fun c5 => ?_) (fun c5 => ?_)
  · have c5 := ci_eq c5
    refine lv_aload_n hx hb dX5_thoseThatMayFollow_13 rfl (lv_at hl 0 rfl) ?_
    refine va_get (D := D) (ci := 5) (v := .int v5_all) (C := RX5) (T := TX5) (N := 4) hx hb hts w1 hown hK.1 hP 0 rfl rfl 0 (by decide) w0 (fun _ h9 => h9) rfl dX5_thoseThatMayFollow_14 ?_
    refine lv_iload_n hx hb dX5_thoseThatMayFollow_17 rfl (lv_at hl 1 rfl) ?_
    refine lv_iconst (v := (-1)) hx hb dX5_thoseThatMayFollow_18 (by decide) ?_
    refine lv_ixor hx hb dX5_thoseThatMayFollow_19 ?_
    refine lv_topi (fun x6 e7 => ?_)
    refine lv_iand hx hb dX5_thoseThatMayFollow_20 ?_
    refine lv_topi (fun x8 e9 => ?_)
    have hz0 := fr_and e9
    refine lv_istore (lv' := [(4, .int x8), (0, .ref a5), (1, .int p1), (2, .ref q2), (3, .int p3)]) hx hb dX5_thoseThatMayFollow_21 hl (by decide) rfl (fun ls hl => ?_)
    refine lv_iconst (v := 0) hx hb dX5_thoseThatMayFollow_23 (by decide) ?_
    refine lv_istore (lv' := [(5, .int 0), (4, .int x8), (0, .ref a5), (1, .int p1), (2, .ref q2), (3, .int p3)]) hx hb dX5_thoseThatMayFollow_24 hl (by decide) rfl (fun ls hl => ?_)
    have lp26 : ∀ (n26 : Nat), (0 ≤ (0 : Int32).toInt) → (p3.toInt - (0 : Int32).toInt).toNat < n26 → ∀ (H : Heap) (locs : List Loc), va_P D vwCl [O5 a5 r5 v5_all, (cI κ q2 40 fq2)] H → va_D A [O5 a5 r5 v5_all, (cI κ q2 40 fq2)] → va_S A s.heap H locs → ∀ ls : Array Slot, lv_has ls 6 [(5, .int 0), (4, .int x8), (0, .ref a5), (1, .int p1), (2, .ref q2), (3, .int p3)] → W p l e ({ frames := 0, cells := 0, slots := 0, locals := 0 } : Room) s m args below meth c H locs 0 0 Q (F0 m 26 ls []) := by
      intro n26
      induction n26 with
      | zero =>
        intro h10 m11
        exact absurd m11 (Nat.not_lt_zero _)
      | succ n26 ih26 =>
        intro h10 m11 H locs hP hD hS ls hl
        refine lv_iload hx hb dX5_thoseThatMayFollow_26 (lv_at hl 0 rfl) ?_
        refine lv_iload_n hx hb dX5_thoseThatMayFollow_28 rfl (lv_at hl 5 rfl) ?_
        refine lv_icmp_ge (tgt := 67) hx hb dX5_thoseThatMayFollow_29 (by decide) (fun c12 => ?_) (fun c12 => ?_)
        · have c12 := ci_le c12
          refine lv_iload hx hb dX5_thoseThatMayFollow_67 (lv_at hl 1 rfl) ?_
          have hpo : x8.toInt = 0 := (by omega)
          exact ret _ _ _ _ x8 () dX5_thoseThatMayFollow_69 hpo hP hD hS
        have c12 := ci_nle c12
        exfalso
        omega
    exact lp26 ((p3.toInt - (0 : Int32).toInt).toNat + 1) (by omega) (by omega) _ _ hP hD hS _ hl
  have c5 := ci_ne c5
  refine lv_iconst (v := 0) hx hb dX5_thoseThatMayFollow_11 (by decide) ?_
  have hpo : (0 : Int32).toInt = 0 := (by omega)
  exact ret _ _ _ _ 0 () dX5_thoseThatMayFollow_12 hpo hP hD hS
set_option maxHeartbeats 4000000 in
set_option maxRecDepth 100000 in
theorem k_X5_countWaysTo (l : Launch) (D : va_G) (κ : Nat → ClassId) (β : Nat) (a5 : Nat) (r5 : Nat → Nat) (v5_all : Int32) (f5_mayFollow : Nat → Int32) (f5_waysTo : Nat → Int32) (sz : Nat) (i1 : Rg 0 255 v5_all) (hf5_mayFollow : ∀ j : Nat, (f5_mayFollow j).toInt = 0) (i2 : v5_all.toInt = 0) : Met l yX5_countWaysTo wsX5_countWaysTo ({ frames := 1, cells := 0, slots := 0, locals := 23 } : Room) (PcK D κ β [O5 a5 r5 v5_all, (cI κ (r5 1) 256 f5_mayFollow), (cI κ (r5 2) 256 f5_waysTo)] sz [.ref a5]) (QvK D (fun (u : (Nat → Int32)) => True) (fun (u : (Nat → Int32)) => [O5 a5 r5 v5_all, (cI κ (r5 1) 256 f5_mayFollow), (cI κ (r5 2) 256 u)]) [O5 a5 r5 v5_all, (cI κ (r5 1) 256 f5_mayFollow), (cI κ (r5 2) 256 f5_waysTo)] sz) 0 0 (va_A [O5 a5 r5 v5_all, (cI κ (r5 1) 256 f5_mayFollow), (cI κ (r5 2) 256 f5_waysTo)] sz) := by
  refine ofK_v (cc := cX5_countWaysTo) (maxL := 3) (own := RX5) (by decide) rfl rfl (Nat.le_of_ble_eq_true rfl) ?_
  intro p e s m args below meth c Q A ls hsz hx hb hml hts hown hK hA hAB hP hD hl hname ret
  have hS : va_S A s.heap s.heap [] := va_S.rf
  have hl : lv_has ls 3 [(0, .ref a5)] := hl
  have w0 := hts (.fieldLink RX5 15 "OlderSkin$Orders" "waysTo" "[I") (List.mem_of_getElem? (i := 1) rfl)
  have w1 := (fun w h => List.mem_cons_of_mem _ (List.mem_append_right _ h) : ∀ w ∈ u_ws RX5 TX5 4, w ∈ wsX5_countWaysTo)
  have w2 := hts (.fieldLink RX5 21 "OlderSkin$Orders" "all" "I") (List.mem_of_getElem? (i := 2) rfl)
  have w3 := hts (.fieldLink RX5 9 "OlderSkin$Orders" "mayFollow" "[I") (List.mem_of_getElem? (i := 3) rfl)
  have w4 := hts (.initialized RX11) (List.mem_of_getElem? (i := 9) rfl)
  have w5 := hts (.static yX11_hasBit) (List.mem_of_getElem? (i := 8) rfl)
  have w6 := hK.2.1 ("OlderSkin$Orders", 41, ⟨"OlderSkin", "hasBit", "(II)Z"⟩, "OlderSkin") (by decide +kernel)
  have l0 : (0 : Int32).toInt = 0 := by decide
  have l1 : (1 : Int32).toInt = 1 := by decide
  have l2 : (8 : Int32).toInt = 8 := by decide
  have i1 : 0 ≤ v5_all.toInt ∧ v5_all.toInt ≤ 255 := i1
  refine lv_aload_n hx hb dX5_countWaysTo_0 rfl (lv_at hl 0 rfl) ?_
  refine va_get (D := D) (ci := 5) (v := .ref (r5 2)) (C := RX5) (T := TX5) (N := 4) hx hb hts w1 hown hK.1 hP 0 rfl rfl 2 (by decide) w0 (fun _ h9 => h9) rfl dX5_countWaysTo_1 ?_
  refine lv_iconst (v := 0) hx hb dX5_countWaysTo_4 (by decide) ?_
  refine kcm_v hA hAB hP hD hS [false, false, true] rfl (fun _ => rfl) (fun hPc hDc => va_runS (As := [.ref (r5 2), .int 0]) (rest := []) ⟨hx, hb, hml, hown, hts⟩ (k_J7_fill_53178 l D κ β 256 f5_waysTo s.heap.size (r5 2) 0 (by omega)) (va_cwS 2 hts gX5_countWaysTo_J7_fill_53178 rfl rfl rfl (by decide +kernel) ⟨Nat.le_of_ble_eq_true rfl, Nat.le_of_ble_eq_true rfl⟩) (pk_S hK hS hAB hPc hDc) rfl rfl hl.1 rfl (lv_room (Nat.le_of_ble_eq_true rfl)) dX5_countWaysTo_5 ⟨Nat.le_of_ble_eq_true rfl, Nat.le_of_ble_eq_true rfl⟩) (fun g1 H locs hw hPD hS => ?_)
  obtain ⟨hP, hD⟩ : PD D A [O5 a5 r5 v5_all, (cI κ (r5 1) 256 f5_mayFollow), (cI κ (r5 2) 256 g1)] H := hPD
  refine lv_aload_n hx hb dX5_countWaysTo_8 rfl (lv_at hl 0 rfl) ?_
  refine va_get (D := D) (ci := 5) (v := .ref (r5 2)) (C := RX5) (T := TX5) (N := 4) hx hb hts w1 hown hK.1 hP 0 rfl rfl 2 (by decide) w0 (fun _ h9 => h9) rfl dX5_countWaysTo_9 ?_
  refine lv_iconst (v := 0) hx hb dX5_countWaysTo_12 (by decide) ?_
  refine lv_iconst (v := 1) hx hb dX5_countWaysTo_13 (by decide) ?_
  refine va_iast hx hb hK.1 hP hD hS 2 1 rfl rfl (i := 0) (ix (by omega) (by omega)) dX5_countWaysTo_14 (fun H locs hP hD hS => ?_)
  obtain ⟨g2, e3⟩ : ∃ y : Nat → Int32, y = upd g1 (0 : Int32).toNatClampNeg 1 := ⟨_, rfl⟩
  rw [← e3] at hP hD
  obtain ⟨hP, hD⟩ : PD D A [O5 a5 r5 v5_all, (cI κ (r5 1) 256 f5_mayFollow), (cI κ (r5 2) 256 g2)] H := ⟨hP, hD⟩
  refine lv_iconst (v := 0) hx hb dX5_countWaysTo_15 (by decide) ?_
  refine lv_istore_n (lv' := [(1, .int 0), (0, .ref a5)]) hx hb dX5_countWaysTo_16 rfl hl (by decide) rfl (fun ls hl => ?_)
  have lp17 : ∀ (n17 : Nat) (k4 : Int32), (0 ≤ k4.toInt) → (v5_all.toInt + 1 - k4.toInt).toNat < n17 → ∀ (H : Heap) (locs : List Loc), va_P D vwCl [O5 a5 r5 v5_all, (cI κ (r5 1) 256 f5_mayFollow), (cI κ (r5 2) 256 g2)] H → va_D A [O5 a5 r5 v5_all, (cI κ (r5 1) 256 f5_mayFollow), (cI κ (r5 2) 256 g2)] → va_S A s.heap H locs → ∀ ls : Array Slot, lv_has ls 3 [(1, .int k4), (0, .ref a5)] → W p l e ({ frames := 1, cells := 0, slots := 0, locals := 23 } : Room) s m args below meth c H locs 0 0 Q (F0 m 17 ls []) := by
    intro n17
    induction n17 with
    | zero =>
      intro k4 h5 m6
      exact absurd m6 (Nat.not_lt_zero _)
    | succ n17 ih17 =>
      intro k4 h5 m6 H locs hP hD hS ls hl
      refine lv_iload_n hx hb dX5_countWaysTo_17 rfl (lv_at hl 0 rfl) ?_
      refine lv_aload_n hx hb dX5_countWaysTo_18 rfl (lv_at hl 1 rfl) ?_
      refine va_get (D := D) (ci := 5) (v := .int v5_all) (C := RX5) (T := TX5) (N := 4) hx hb hts w1 hown hK.1 hP 0 rfl rfl 0 (by decide) w2 (fun _ h9 => h9) rfl dX5_countWaysTo_19 ?_
      refine lv_icmp_gt (tgt := 77) hx hb dX5_countWaysTo_22 (by decide) (fun c7 => ?_) (fun c7 => ?_)
      · have c7 := ci_lt c7
        exact ret _ _ _ _ g2 dX5_countWaysTo_77 trivial hP hD hS
      have c7 := ci_nlt c7
      refine lv_iconst (v := 0) hx hb dX5_countWaysTo_25 (by decide) ?_
      refine lv_istore_n (lv' := [(2, .int 0), (1, .int k4), (0, .ref a5)]) hx hb dX5_countWaysTo_26 rfl hl (by decide) rfl (fun ls hl => ?_)
      have lp27 : ∀ (n27 : Nat) (k8 : Int32), (0 ≤ k8.toInt) → (8 - k8.toInt).toNat < n27 → ∀ (H : Heap) (locs : List Loc), va_P D vwCl [O5 a5 r5 v5_all, (cI κ (r5 1) 256 f5_mayFollow), (cI κ (r5 2) 256 g2)] H → va_D A [O5 a5 r5 v5_all, (cI κ (r5 1) 256 f5_mayFollow), (cI κ (r5 2) 256 g2)] → va_S A s.heap H locs → ∀ ls : Array Slot, lv_has ls 3 [(2, .int k8), (1, .int k4), (0, .ref a5)] → W p l e ({ frames := 1, cells := 0, slots := 0, locals := 23 } : Room) s m args below meth c H locs 0 0 Q (F0 m 27 ls []) := by
        intro n27
        induction n27 with
        | zero =>
          intro k8 h9 m10
          exact absurd m10 (Nat.not_lt_zero _)
        | succ n27 ih27 =>
          intro k8 h9 m10 H locs hP hD hS ls hl
          refine lv_iload_n hx hb dX5_countWaysTo_27 rfl (lv_at hl 0 rfl) ?_
          refine lv_bipush (v := 8) hx hb dX5_countWaysTo_28 (by decide) ?_
          refine lv_icmp_ge (tgt := 71) hx hb dX5_countWaysTo_30 (by decide) (fun c11 => ?_) (fun c11 => ?_)
          · have c11 := ci_le c11
            obtain ⟨x12, e13⟩ : ∃ y : Int32, y = k4 + 1 := ⟨_, rfl⟩
            refine lv_iinc (v := x12) (lv' := [(1, .int x12), (2, .int k8), (0, .ref a5)]) hx hb dX5_countWaysTo_71 hl (k := 1) rfl (by rw [e13]; rfl) (by decide) rfl (fun ls hl => ?_)
            try have h14 : x12.toInt = k4.toInt + (1 : Int32).toInt := ci_add e13 (by omega) (by omega)
            refine lv_goto (tgt := 17) hx hb dX5_countWaysTo_74 (by decide) ?_
            exact ih17 x12 (by omega) (by omega) _ _ hP hD hS _ (lv_sub hl [0, 2] rfl)
          have c11 := ci_nle c11
          refine lv_aload_n hx hb dX5_countWaysTo_33 rfl (lv_at hl 2 rfl) ?_
          refine va_get (D := D) (ci := 5) (v := .ref (r5 1)) (C := RX5) (T := TX5) (N := 4) hx hb hts w1 hown hK.1 hP 0 rfl rfl 1 (by decide) w3 (fun _ h9 => h9) rfl dX5_countWaysTo_34 ?_
          refine lv_iload_n hx hb dX5_countWaysTo_37 rfl (lv_at hl 1 rfl) ?_
          refine va_iald hx hb hK.1 hP 1 1 rfl rfl (i := k4) (ix (by omega) (by omega)) dX5_countWaysTo_38 ?_
          refine lv_topi (fun x15 e16 => ?_)
          have h17 : x15.toInt = 0 := by rw [e16]; exact hf5_mayFollow _
          refine lv_iload_n hx hb dX5_countWaysTo_39 rfl (lv_at hl 0 rfl) ?_
          refine kcm_i hA hAB hP hD hS [false, false, false] rfl (fun _ => rfl) (fun hPc hDc => va_runSN (As := [.int x15, .int k8]) (rest := []) ⟨hx, hb, hml, hown, hts⟩ (k_X11_hasBit l D κ β H.size x15 k8) ⟨va_cnB 2 hts gX5_countWaysTo_X11_hasBit_n41 rfl rfl rfl w6 w4 (by decide +kernel) ⟨Nat.le_of_ble_eq_true rfl, Nat.le_of_ble_eq_true rfl⟩, w5, trivial⟩ (pk_S hK hS hAB hPc hDc) rfl rfl hl.1 rfl (lv_room (Nat.le_of_ble_eq_true rfl)) dX5_countWaysTo_40 ⟨Nat.le_of_ble_eq_true rfl, Nat.le_of_ble_eq_true rfl⟩) (fun x18 u19 H locs hw hPD hS => ?_)
          obtain ⟨h20, h21⟩ : (x15.toInt ≠ 0 ∨ x18.toInt = 0) ∧ (x18.toInt = 0 ∨ x18.toInt = 1) := hw
          obtain ⟨hP, hD⟩ : PD D A [O5 a5 r5 v5_all, (cI κ (r5 1) 256 f5_mayFollow), (cI κ (r5 2) 256 g2)] H := hPD
          refine lv_if_eq (tgt := 65) hx hb dX5_countWaysTo_43 (by decide) (fun c22 => ?_) (fun c22 => ?_)
          · have c22 := ci_eq c22
            obtain ⟨x23, e24⟩ : ∃ y : Int32, y = k8 + 1 := ⟨_, rfl⟩
            refine lv_iinc (v := x23) (lv' := [(2, .int x23), (1, .int k4), (0, .ref a5)]) hx hb dX5_countWaysTo_65 hl (k := 0) rfl (by rw [e24]; rfl) (by decide) rfl (fun ls hl => ?_)
            try have h25 : x23.toInt = k8.toInt + (1 : Int32).toInt := ci_add e24 (by omega) (by omega)
            refine lv_goto (tgt := 27) hx hb dX5_countWaysTo_68 (by decide) ?_
            exact ih27 x23 (by omega) (by omega) _ _ hP hD hS _ hl
          have c22 := ci_ne c22
          exfalso
          omega
      exact lp27 ((8 - (0 : Int32).toInt).toNat + 1) 0 (by omega) (by omega) _ _ hP hD hS _ hl
  exact lp17 ((v5_all.toInt + 1 - (0 : Int32).toInt).toNat + 1) 0 (by omega) (by omega) _ _ hP hD hS _ hl
set_option maxHeartbeats 4000000 in
set_option maxRecDepth 100000 in
theorem k_X5_countWaysOn (l : Launch) (D : va_G) (κ : Nat → ClassId) (β : Nat) (a5 : Nat) (r5 : Nat → Nat) (v5_all : Int32) (f5_mayFollow : Nat → Int32) (f5_waysOn : Nat → Int32) (sz : Nat) (i1 : Rg 0 255 v5_all) (hf5_mayFollow : ∀ j : Nat, (f5_mayFollow j).toInt = 0) (i2 : v5_all.toInt = 0) : Met l yX5_countWaysOn wsX5_countWaysOn ({ frames := 1, cells := 0, slots := 0, locals := 23 } : Room) (PcK D κ β [O5 a5 r5 v5_all, (cI κ (r5 1) 256 f5_mayFollow), (cI κ (r5 3) 256 f5_waysOn)] sz [.ref a5]) (QvK D (fun (u : (Nat → Int32)) => (u 0).toInt = 1) (fun (u : (Nat → Int32)) => [O5 a5 r5 v5_all, (cI κ (r5 1) 256 f5_mayFollow), (cI κ (r5 3) 256 u)]) [O5 a5 r5 v5_all, (cI κ (r5 1) 256 f5_mayFollow), (cI κ (r5 3) 256 f5_waysOn)] sz) 0 0 (va_A [O5 a5 r5 v5_all, (cI κ (r5 1) 256 f5_mayFollow), (cI κ (r5 3) 256 f5_waysOn)] sz) := by
  refine ofK_v (cc := cX5_countWaysOn) (maxL := 3) (own := RX5) (by decide) rfl rfl (Nat.le_of_ble_eq_true rfl) ?_
  intro p e s m args below meth c Q A ls hsz hx hb hml hts hown hK hA hAB hP hD hl hname ret
  have hS : va_S A s.heap s.heap [] := va_S.rf
  have hl : lv_has ls 3 [(0, .ref a5)] := hl
  have w0 := hts (.fieldLink RX5 18 "OlderSkin$Orders" "waysOn" "[I") (List.mem_of_getElem? (i := 1) rfl)
  have w1 := (fun w h => List.mem_cons_of_mem _ (List.mem_append_right _ h) : ∀ w ∈ u_ws RX5 TX5 4, w ∈ wsX5_countWaysOn)
  have w2 := hts (.fieldLink RX5 21 "OlderSkin$Orders" "all" "I") (List.mem_of_getElem? (i := 2) rfl)
  have w3 := hts (.fieldLink RX5 9 "OlderSkin$Orders" "mayFollow" "[I") (List.mem_of_getElem? (i := 3) rfl)
  have w4 := hts (.initialized RX11) (List.mem_of_getElem? (i := 9) rfl)
  have w5 := hts (.static yX11_hasBit) (List.mem_of_getElem? (i := 8) rfl)
  have w6 := hK.2.1 ("OlderSkin$Orders", 41, ⟨"OlderSkin", "hasBit", "(II)Z"⟩, "OlderSkin") (by decide +kernel)
  have l0 : (0 : Int32).toInt = 0 := by decide
  have l1 : (1 : Int32).toInt = 1 := by decide
  have l2 : (8 : Int32).toInt = 8 := by decide
  have l3 : ((-1) : Int32).toInt = -1 := by decide
  have i1 : 0 ≤ v5_all.toInt ∧ v5_all.toInt ≤ 255 := i1
  refine lv_aload_n hx hb dX5_countWaysOn_0 rfl (lv_at hl 0 rfl) ?_
  refine va_get (D := D) (ci := 5) (v := .ref (r5 3)) (C := RX5) (T := TX5) (N := 4) hx hb hts w1 hown hK.1 hP 0 rfl rfl 3 (by decide) w0 (fun _ h9 => h9) rfl dX5_countWaysOn_1 ?_
  refine lv_iconst (v := 0) hx hb dX5_countWaysOn_4 (by decide) ?_
  refine kcm_v hA hAB hP hD hS [false, false, true] rfl (fun _ => rfl) (fun hPc hDc => va_runS (As := [.ref (r5 3), .int 0]) (rest := []) ⟨hx, hb, hml, hown, hts⟩ (k_J7_fill_53178 l D κ β 256 f5_waysOn s.heap.size (r5 3) 0 (by omega)) (va_cwS 2 hts gX5_countWaysOn_J7_fill_53178 rfl rfl rfl (by decide +kernel) ⟨Nat.le_of_ble_eq_true rfl, Nat.le_of_ble_eq_true rfl⟩) (pk_S hK hS hAB hPc hDc) rfl rfl hl.1 rfl (lv_room (Nat.le_of_ble_eq_true rfl)) dX5_countWaysOn_5 ⟨Nat.le_of_ble_eq_true rfl, Nat.le_of_ble_eq_true rfl⟩) (fun g1 H locs hw hPD hS => ?_)
  obtain ⟨hP, hD⟩ : PD D A [O5 a5 r5 v5_all, (cI κ (r5 1) 256 f5_mayFollow), (cI κ (r5 3) 256 g1)] H := hPD
  refine lv_aload_n hx hb dX5_countWaysOn_8 rfl (lv_at hl 0 rfl) ?_
  refine va_get (D := D) (ci := 5) (v := .ref (r5 3)) (C := RX5) (T := TX5) (N := 4) hx hb hts w1 hown hK.1 hP 0 rfl rfl 3 (by decide) w0 (fun _ h9 => h9) rfl dX5_countWaysOn_9 ?_
  refine lv_aload_n hx hb dX5_countWaysOn_12 rfl (lv_at hl 0 rfl) ?_
  refine va_get (D := D) (ci := 5) (v := .int v5_all) (C := RX5) (T := TX5) (N := 4) hx hb hts w1 hown hK.1 hP 0 rfl rfl 0 (by decide) w2 (fun _ h9 => h9) rfl dX5_countWaysOn_13 ?_
  refine lv_iconst (v := 1) hx hb dX5_countWaysOn_16 (by decide) ?_
  refine va_iast hx hb hK.1 hP hD hS 2 1 rfl rfl (i := v5_all) (ix (by omega) (by omega)) dX5_countWaysOn_17 (fun H locs hP hD hS => ?_)
  obtain ⟨g2, e3⟩ : ∃ y : Nat → Int32, y = upd g1 v5_all.toNatClampNeg 1 := ⟨_, rfl⟩
  rw [← e3] at hP hD
  obtain ⟨hP, hD⟩ : PD D A [O5 a5 r5 v5_all, (cI κ (r5 1) 256 f5_mayFollow), (cI κ (r5 3) 256 g2)] H := ⟨hP, hD⟩
  have hq0 := fr_hit (j := 0) e3 (by have h9 := ci_clamp (i := v5_all) (by omega); omega)
  refine lv_aload_n hx hb dX5_countWaysOn_18 rfl (lv_at hl 0 rfl) ?_
  refine va_get (D := D) (ci := 5) (v := .int v5_all) (C := RX5) (T := TX5) (N := 4) hx hb hts w1 hown hK.1 hP 0 rfl rfl 0 (by decide) w2 (fun _ h9 => h9) rfl dX5_countWaysOn_19 ?_
  refine lv_istore_n (lv' := [(1, .int v5_all), (0, .ref a5)]) hx hb dX5_countWaysOn_22 rfl hl (by decide) rfl (fun ls hl => ?_)
  have lp23 : ∀ (n23 : Nat) (k4 : Int32), (-1 ≤ k4.toInt ∧ k4.toInt ≤ 255) → (k4.toInt + 1).toNat < n23 → ∀ (H : Heap) (locs : List Loc), va_P D vwCl [O5 a5 r5 v5_all, (cI κ (r5 1) 256 f5_mayFollow), (cI κ (r5 3) 256 g2)] H → va_D A [O5 a5 r5 v5_all, (cI κ (r5 1) 256 f5_mayFollow), (cI κ (r5 3) 256 g2)] → va_S A s.heap H locs → ∀ ls : Array Slot, lv_has ls 3 [(1, .int k4), (0, .ref a5)] → W p l e ({ frames := 1, cells := 0, slots := 0, locals := 23 } : Room) s m args below meth c H locs 0 0 Q (F0 m 23 ls []) := by
    intro n23
    induction n23 with
    | zero =>
      intro k4 h5 m6
      exact absurd m6 (Nat.not_lt_zero _)
    | succ n23 ih23 =>
      intro k4 h5 m6 H locs hP hD hS ls hl
      refine lv_iload_n hx hb dX5_countWaysOn_23 rfl (lv_at hl 0 rfl) ?_
      refine lv_if_lt (tgt := 79) hx hb dX5_countWaysOn_24 (by decide) (fun c7 => ?_) (fun c7 => ?_)
      · have c7 := ci_lt c7
        have hpo : (g2 0).toInt = 1 := (by omega)
        exact ret _ _ _ _ g2 dX5_countWaysOn_79 hpo hP hD hS
      have c7 := ci_nlt c7
      refine lv_iconst (v := 0) hx hb dX5_countWaysOn_27 (by decide) ?_
      refine lv_istore_n (lv' := [(2, .int 0), (1, .int k4), (0, .ref a5)]) hx hb dX5_countWaysOn_28 rfl hl (by decide) rfl (fun ls hl => ?_)
      have lp29 : ∀ (n29 : Nat) (k8 : Int32), (0 ≤ k8.toInt) → (8 - k8.toInt).toNat < n29 → ∀ (H : Heap) (locs : List Loc), va_P D vwCl [O5 a5 r5 v5_all, (cI κ (r5 1) 256 f5_mayFollow), (cI κ (r5 3) 256 g2)] H → va_D A [O5 a5 r5 v5_all, (cI κ (r5 1) 256 f5_mayFollow), (cI κ (r5 3) 256 g2)] → va_S A s.heap H locs → ∀ ls : Array Slot, lv_has ls 3 [(2, .int k8), (1, .int k4), (0, .ref a5)] → W p l e ({ frames := 1, cells := 0, slots := 0, locals := 23 } : Room) s m args below meth c H locs 0 0 Q (F0 m 29 ls []) := by
        intro n29
        induction n29 with
        | zero =>
          intro k8 h9 m10
          exact absurd m10 (Nat.not_lt_zero _)
        | succ n29 ih29 =>
          intro k8 h9 m10 H locs hP hD hS ls hl
          refine lv_iload_n hx hb dX5_countWaysOn_29 rfl (lv_at hl 0 rfl) ?_
          refine lv_bipush (v := 8) hx hb dX5_countWaysOn_30 (by decide) ?_
          refine lv_icmp_ge (tgt := 73) hx hb dX5_countWaysOn_32 (by decide) (fun c11 => ?_) (fun c11 => ?_)
          · have c11 := ci_le c11
            obtain ⟨x12, e13⟩ : ∃ y : Int32, y = k4 + (-1) := ⟨_, rfl⟩
            refine lv_iinc (v := x12) (lv' := [(1, .int x12), (2, .int k8), (0, .ref a5)]) hx hb dX5_countWaysOn_73 hl (k := 1) rfl (by rw [e13]; rfl) (by decide) rfl (fun ls hl => ?_)
            try have h14 : x12.toInt = k4.toInt + ((-1) : Int32).toInt := ci_add e13 (by omega) (by omega)
            refine lv_goto (tgt := 23) hx hb dX5_countWaysOn_76 (by decide) ?_
            exact ih23 x12 (by omega) (by omega) _ _ hP hD hS _ (lv_sub hl [0, 2] rfl)
          have c11 := ci_nle c11
          refine lv_aload_n hx hb dX5_countWaysOn_35 rfl (lv_at hl 2 rfl) ?_
          refine va_get (D := D) (ci := 5) (v := .ref (r5 1)) (C := RX5) (T := TX5) (N := 4) hx hb hts w1 hown hK.1 hP 0 rfl rfl 1 (by decide) w3 (fun _ h9 => h9) rfl dX5_countWaysOn_36 ?_
          refine lv_iload_n hx hb dX5_countWaysOn_39 rfl (lv_at hl 1 rfl) ?_
          refine va_iald hx hb hK.1 hP 1 1 rfl rfl (i := k4) (ix (by omega) (by omega)) dX5_countWaysOn_40 ?_
          refine lv_topi (fun x15 e16 => ?_)
          have h17 : x15.toInt = 0 := by rw [e16]; exact hf5_mayFollow _
          refine lv_iload_n hx hb dX5_countWaysOn_41 rfl (lv_at hl 0 rfl) ?_
          refine kcm_i hA hAB hP hD hS [false, false, false] rfl (fun _ => rfl) (fun hPc hDc => va_runSN (As := [.int x15, .int k8]) (rest := []) ⟨hx, hb, hml, hown, hts⟩ (k_X11_hasBit l D κ β H.size x15 k8) ⟨va_cnB 2 hts gX5_countWaysOn_X11_hasBit_n41 rfl rfl rfl w6 w4 (by decide +kernel) ⟨Nat.le_of_ble_eq_true rfl, Nat.le_of_ble_eq_true rfl⟩, w5, trivial⟩ (pk_S hK hS hAB hPc hDc) rfl rfl hl.1 rfl (lv_room (Nat.le_of_ble_eq_true rfl)) dX5_countWaysOn_42 ⟨Nat.le_of_ble_eq_true rfl, Nat.le_of_ble_eq_true rfl⟩) (fun x18 u19 H locs hw hPD hS => ?_)
          obtain ⟨h20, h21⟩ : (x15.toInt ≠ 0 ∨ x18.toInt = 0) ∧ (x18.toInt = 0 ∨ x18.toInt = 1) := hw
          obtain ⟨hP, hD⟩ : PD D A [O5 a5 r5 v5_all, (cI κ (r5 1) 256 f5_mayFollow), (cI κ (r5 3) 256 g2)] H := hPD
          refine lv_if_eq (tgt := 67) hx hb dX5_countWaysOn_45 (by decide) (fun c22 => ?_) (fun c22 => ?_)
          · have c22 := ci_eq c22
            obtain ⟨x23, e24⟩ : ∃ y : Int32, y = k8 + 1 := ⟨_, rfl⟩
            refine lv_iinc (v := x23) (lv' := [(2, .int x23), (1, .int k4), (0, .ref a5)]) hx hb dX5_countWaysOn_67 hl (k := 0) rfl (by rw [e24]; rfl) (by decide) rfl (fun ls hl => ?_)
            try have h25 : x23.toInt = k8.toInt + (1 : Int32).toInt := ci_add e24 (by omega) (by omega)
            refine lv_goto (tgt := 29) hx hb dX5_countWaysOn_70 (by decide) ?_
            exact ih29 x23 (by omega) (by omega) _ _ hP hD hS _ hl
          have c22 := ci_ne c22
          exfalso
          omega
      exact lp29 ((8 - (0 : Int32).toInt).toNat + 1) 0 (by omega) (by omega) _ _ hP hD hS _ hl
  exact lp23 ((v5_all.toInt + 1).toNat + 1) v5_all (by omega) (by omega) _ _ hP hD hS _ hl
set_option maxHeartbeats 4000000 in
set_option maxRecDepth 100000 in
theorem k_X5_lay (l : Launch) (D : va_G) (κ : Nat → ClassId) (β : Nat) (a5 : Nat) (r5 : Nat → Nat) (v5_all : Int32) (f5_mayFollow : Nat → Int32) (f5_waysTo : Nat → Int32) (f5_waysOn : Nat → Int32) (fq2 : Nat → Int32) (sz : Nat) (p1 : Int32) (q2 : Nat) (p3 : Int32) (i1 : Rg 0 255 v5_all) (hf5_mayFollow : ∀ j : Nat, (f5_mayFollow j).toInt = 0) (i2 : 0 ≤ p1.toInt ∧ p1.toInt ≤ 255) (i3 : p3.toInt ≤ 40) (i4 : p1.toInt = 0) (i5 : p3.toInt = 0) : Met l yX5_lay wsX5_lay ({ frames := 2, cells := 0, slots := 0, locals := 45 } : Room) (PcK D κ β [O5 a5 r5 v5_all, (cI κ (r5 1) 256 f5_mayFollow), (cI κ (r5 2) 256 f5_waysTo), (cI κ (r5 3) 256 f5_waysOn), (cI κ q2 40 fq2)] sz [.ref a5, .int p1, .ref q2, .int p3]) (QvK D (fun (u : Int32 × (Nat → Int32) × (Nat → Int32) × (Nat → Int32)) => (0 ≤ u.1.toInt ∧ u.1.toInt ≤ 255) ∧ (∀ j : Nat, (u.2.1 j).toInt = 0) ∧ ((u.2.2.2 0).toInt = 1) ∧ (u.1.toInt = 0)) (fun (u : Int32 × (Nat → Int32) × (Nat → Int32) × (Nat → Int32)) => [O5 a5 r5 u.1, (cI κ (r5 1) 256 u.2.1), (cI κ (r5 2) 256 u.2.2.1), (cI κ (r5 3) 256 u.2.2.2), (cI κ q2 40 fq2)]) [O5 a5 r5 v5_all, (cI κ (r5 1) 256 f5_mayFollow), (cI κ (r5 2) 256 f5_waysTo), (cI κ (r5 3) 256 f5_waysOn), (cI κ q2 40 fq2)] sz) 0 0 (va_A [O5 a5 r5 v5_all, (cI κ (r5 1) 256 f5_mayFollow), (cI κ (r5 2) 256 f5_waysTo), (cI κ (r5 3) 256 f5_waysOn), (cI κ q2 40 fq2)] sz) := by
  refine ofK_v (cc := cX5_lay) (maxL := 5) (own := RX5) (by decide) rfl rfl (Nat.le_of_ble_eq_true rfl) ?_
  intro p e s m args below meth c Q A ls hsz hx hb hml hts hown hK hA hAB hP hD hl hname ret
  have hS : va_S A s.heap s.heap [] := va_S.rf
  have hl : lv_has ls 5 [(0, .ref a5), (1, .int p1), (2, .ref q2), (3, .int p3)] := hl
  have w0 := hts (.fieldLink RX5 21 "OlderSkin$Orders" "all" "I") (List.mem_of_getElem? (i := 1) rfl)
  have w1 := (fun w h => List.mem_cons_of_mem _ (List.mem_append_right _ h) : ∀ w ∈ u_ws RX5 TX5 4, w ∈ wsX5_lay)
  have w2 := hts (.fieldLink RX5 9 "OlderSkin$Orders" "mayFollow" "[I") (List.mem_of_getElem? (i := 2) rfl)
  have l0 : (0 : Int32).toInt = 0 := by decide
  have l1 : (1 : Int32).toInt = 1 := by decide
  have i1 : 0 ≤ v5_all.toInt ∧ v5_all.toInt ≤ 255 := i1
  refine lv_aload_n hx hb dX5_lay_0 rfl (lv_at hl 0 rfl) ?_
  refine lv_iload_n hx hb dX5_lay_1 rfl (lv_at hl 1 rfl) ?_
  refine va_put (D := D) (ci := 5) (v := .int p1) (ty := .int) (C := RX5) (T := TX5) (N := 4) hx hb hts w1 tyX5 tyX5_ok nmX5 hown hK.1 hP hD hS 0 rfl rfl 0 (by decide) w0 (fun _ h9 => h9) rfl (by decide +kernel) rfl rfl (Nat.le_of_ble_eq_true rfl) dX5_lay_2 (fun H locs hP hD hS => ?_)
  obtain ⟨hP, hD⟩ : PD D A [O5 a5 r5 p1, (cI κ (r5 1) 256 f5_mayFollow), (cI κ (r5 2) 256 f5_waysTo), (cI κ (r5 3) 256 f5_waysOn), (cI κ q2 40 fq2)] H := ⟨hP, hD⟩
  have h1 : 0 ≤ p1.toInt ∧ p1.toInt ≤ 255 := by omega
  refine lv_iconst (v := 0) hx hb dX5_lay_5 (by decide) ?_
  refine lv_istore (lv' := [(4, .int 0), (0, .ref a5), (1, .int p1), (2, .ref q2), (3, .int p3)]) hx hb dX5_lay_6 hl (by decide) rfl (fun ls hl => ?_)
  have lp8 : ∀ (n8 : Nat) (k2 : Int32) (g3 : Nat → Int32), (∀ j : Nat, (g3 j).toInt = 0) → (0 ≤ k2.toInt) → (p1.toInt + 1 - k2.toInt).toNat < n8 → ∀ (H : Heap) (locs : List Loc), va_P D vwCl [O5 a5 r5 p1, (cI κ (r5 1) 256 g3), (cI κ (r5 2) 256 f5_waysTo), (cI κ (r5 3) 256 f5_waysOn), (cI κ q2 40 fq2)] H → va_D A [O5 a5 r5 p1, (cI κ (r5 1) 256 g3), (cI κ (r5 2) 256 f5_waysTo), (cI κ (r5 3) 256 f5_waysOn), (cI κ q2 40 fq2)] → va_S A s.heap H locs → ∀ ls : Array Slot, lv_has ls 5 [(4, .int k2), (0, .ref a5), (1, .int p1), (2, .ref q2), (3, .int p3)] → W p l e ({ frames := 2, cells := 0, slots := 0, locals := 45 } : Room) s m args below meth c H locs 0 0 Q (F0 m 8 ls []) := by
    intro n8
    induction n8 with
    | zero =>
      intro k2 g3 h4 h5 m6
      exact absurd m6 (Nat.not_lt_zero _)
    | succ n8 ih8 =>
      intro k2 g3 h4 h5 m6 H locs hP hD hS ls hl
      refine lv_iload hx hb dX5_lay_8 (lv_at hl 0 rfl) ?_
      refine lv_aload_n hx hb dX5_lay_10 rfl (lv_at hl 1 rfl) ?_
      refine va_get (D := D) (ci := 5) (v := .int p1) (C := RX5) (T := TX5) (N := 4) hx hb hts w1 hown hK.1 hP 0 rfl rfl 0 (by decide) w0 (fun _ h9 => h9) rfl dX5_lay_11 ?_
      refine lv_icmp_gt (tgt := 38) hx hb dX5_lay_14 (by decide) (fun c7 => ?_) (fun c7 => ?_)
      · have c7 := ci_lt c7
        refine lv_aload_n hx hb dX5_lay_38 rfl (lv_at hl 1 rfl) ?_
        refine kcm_v hA hAB hP hD hS [true, true, true, false, false] rfl (fun _ => rfl) (fun hPc hDc => va_runV (As := []) (rest := []) ⟨hx, hb, hml, hown, hts⟩ (k_X5_countWaysTo l D κ β a5 r5 p1 g3 f5_waysTo H.size h1 h4 (by omega)) (cwV 0 hts gX5_lay_X5_countWaysTo rfl rfl rfl (by decide +kernel) ⟨Nat.le_of_ble_eq_true rfl, Nat.le_of_ble_eq_true rfl⟩) (pk_V hK hS hAB hPc hDc 0 (ci := 5) rfl rfl rfl) rfl rfl hl.1 rfl (lv_room (Nat.le_of_ble_eq_true rfl)) dX5_lay_39 ⟨Nat.le_of_ble_eq_true rfl, Nat.le_of_ble_eq_true rfl⟩) (fun g8 H locs hw hPD hS => ?_)
        obtain ⟨hP, hD⟩ : PD D A [O5 a5 r5 p1, (cI κ (r5 1) 256 g3), (cI κ (r5 2) 256 g8), (cI κ (r5 3) 256 f5_waysOn), (cI κ q2 40 fq2)] H := hPD
        refine lv_aload_n hx hb dX5_lay_42 rfl (lv_at hl 1 rfl) ?_
        refine kcm_v hA hAB hP hD hS [true, true, false, true, false] rfl (fun _ => rfl) (fun hPc hDc => va_runV (As := []) (rest := []) ⟨hx, hb, hml, hown, hts⟩ (k_X5_countWaysOn l D κ β a5 r5 p1 g3 f5_waysOn H.size h1 h4 (by omega)) (cwV 0 hts gX5_lay_X5_countWaysOn rfl rfl rfl (by decide +kernel) ⟨Nat.le_of_ble_eq_true rfl, Nat.le_of_ble_eq_true rfl⟩) (pk_V hK hS hAB hPc hDc 0 (ci := 5) rfl rfl rfl) rfl rfl hl.1 rfl (lv_room (Nat.le_of_ble_eq_true rfl)) dX5_lay_43 ⟨Nat.le_of_ble_eq_true rfl, Nat.le_of_ble_eq_true rfl⟩) (fun g9 H locs hw hPD hS => ?_)
        have h10 : (g9 0).toInt = 1 := hw
        obtain ⟨hP, hD⟩ : PD D A [O5 a5 r5 p1, (cI κ (r5 1) 256 g3), (cI κ (r5 2) 256 g8), (cI κ (r5 3) 256 g9), (cI κ q2 40 fq2)] H := hPD
        have hpo : (0 ≤ p1.toInt ∧ p1.toInt ≤ 255) ∧ (∀ j : Nat, (g3 j).toInt = 0) ∧ ((g9 0).toInt = 1) ∧ (p1.toInt = 0) := ⟨h1, h4, (by omega), (by omega)⟩
        exact ret _ _ _ _ (p1, g3, g8, g9) dX5_lay_46 hpo hP hD hS
      have c7 := ci_nlt c7
      refine lv_aload_n hx hb dX5_lay_17 rfl (lv_at hl 1 rfl) ?_
      refine va_get (D := D) (ci := 5) (v := .ref (r5 1)) (C := RX5) (T := TX5) (N := 4) hx hb hts w1 hown hK.1 hP 0 rfl rfl 1 (by decide) w2 (fun _ h9 => h9) rfl dX5_lay_18 ?_
      refine lv_iload hx hb dX5_lay_21 (lv_at hl 0 rfl) ?_
      refine lv_aload_n hx hb dX5_lay_23 rfl (lv_at hl 1 rfl) ?_
      refine lv_iload hx hb dX5_lay_24 (lv_at hl 0 rfl) ?_
      refine lv_aload_n hx hb dX5_lay_26 rfl (lv_at hl 3 rfl) ?_
      refine lv_iload_n hx hb dX5_lay_27 rfl (lv_at hl 4 rfl) ?_
      refine kcm_i hA hAB hP hD hS [true, false, false, false, true] rfl (fun _ => rfl) (fun hPc hDc => va_runV (As := [.int k2, .ref q2, .int p3]) (rest := [.int k2, .ref (r5 1)]) ⟨hx, hb, hml, hown, hts⟩ (k_X5_thoseThatMayFollow l D κ β a5 r5 p1 fq2 H.size k2 q2 p3 h1 (by omega) (by omega) (by omega) (by omega)) (cwV 3 hts gX5_lay_X5_thoseThatMayFollow rfl rfl rfl (by decide +kernel) ⟨Nat.le_of_ble_eq_true rfl, Nat.le_of_ble_eq_true rfl⟩) (pk_V hK hS hAB hPc hDc 0 (ci := 5) rfl rfl rfl) rfl rfl hl.1 rfl (lv_room (Nat.le_of_ble_eq_true rfl)) dX5_lay_28 ⟨Nat.le_of_ble_eq_true rfl, Nat.le_of_ble_eq_true rfl⟩) (fun x11 u12 H locs hw hPD hS => ?_)
      have h13 : x11.toInt = 0 := hw
      obtain ⟨hP, hD⟩ : PD D A [O5 a5 r5 p1, (cI κ (r5 1) 256 g3), (cI κ (r5 2) 256 f5_waysTo), (cI κ (r5 3) 256 f5_waysOn), (cI κ q2 40 fq2)] H := hPD
      refine va_iast hx hb hK.1 hP hD hS 1 1 rfl rfl (i := k2) (ix (by omega) (by omega)) dX5_lay_31 (fun H locs hP hD hS => ?_)
      obtain ⟨g14, e15⟩ : ∃ y : Nat → Int32, y = upd g3 k2.toNatClampNeg x11 := ⟨_, rfl⟩
      rw [← e15] at hP hD
      obtain ⟨hP, hD⟩ : PD D A [O5 a5 r5 p1, (cI κ (r5 1) 256 g14), (cI κ (r5 2) 256 f5_waysTo), (cI κ (r5 3) 256 f5_waysOn), (cI κ q2 40 fq2)] H := ⟨hP, hD⟩
      have h16 : ∀ j : Nat, (g14 j).toInt = 0 := by rw [e15]; exact all_upd (P := fun z => z.toInt = 0) h4 (by omega)
      obtain ⟨x17, e18⟩ : ∃ y : Int32, y = k2 + 1 := ⟨_, rfl⟩
      refine lv_iinc (v := x17) (lv' := [(4, .int x17), (0, .ref a5), (1, .int p1), (2, .ref q2), (3, .int p3)]) hx hb dX5_lay_32 hl (k := 0) rfl (by rw [e18]; rfl) (by decide) rfl (fun ls hl => ?_)
      try have h19 : x17.toInt = k2.toInt + (1 : Int32).toInt := ci_add e18 (by omega) (by omega)
      refine lv_goto (tgt := 8) hx hb dX5_lay_35 (by decide) ?_
      exact ih8 x17 g14 h16 (by omega) (by omega) _ _ hP hD hS _ hl
  exact lp8 ((p1.toInt + 1 - (0 : Int32).toInt).toNat + 1) 0 f5_mayFollow hf5_mayFollow (by omega) (by omega) _ _ hP hD hS _ hl
set_option maxHeartbeats 4000000 in
set_option maxRecDepth 100000 in
theorem k_X5_howMany (l : Launch) (D : va_G) (κ : Nat → ClassId) (β : Nat) (a5 : Nat) (r5 : Nat → Nat) (v5_all : Int32) (f5_waysOn : Nat → Int32) (sz : Nat) (i1 : Rg 0 255 v5_all) (i2 : (f5_waysOn 0).toInt = 1) : Met l yX5_howMany wsX5_howMany ({ frames := 0, cells := 0, slots := 0, locals := 0 } : Room) (PcK D κ β [O5 a5 r5 v5_all, (cI κ (r5 3) 256 f5_waysOn)] sz [.ref a5]) (QiK D (fun (r : Int32) (u : Unit) => r.toInt = 1) (fun (u : Unit) => [O5 a5 r5 v5_all, (cI κ (r5 3) 256 f5_waysOn)]) [O5 a5 r5 v5_all, (cI κ (r5 3) 256 f5_waysOn)] sz) 0 0 (va_A [O5 a5 r5 v5_all, (cI κ (r5 3) 256 f5_waysOn)] sz) := by
  refine ofK_i (cc := cX5_howMany) (maxL := 1) (own := RX5) (by decide) rfl rfl (Nat.le_of_ble_eq_true rfl) ?_
  intro p e s m args below meth c Q A ls hsz hx hb hml hts hown hK hA hAB hP hD hl ret
  have hS : va_S A s.heap s.heap [] := va_S.rf
  have hl : lv_has ls 1 [(0, .ref a5)] := hl
  have w0 := hts (.fieldLink RX5 18 "OlderSkin$Orders" "waysOn" "[I") (List.mem_of_getElem? (i := 1) rfl)
  have w1 := (fun w h => List.mem_cons_of_mem _ (List.mem_append_right _ h) : ∀ w ∈ u_ws RX5 TX5 4, w ∈ wsX5_howMany)
  have l0 : (0 : Int32).toInt = 0 := by decide
  refine lv_aload_n hx hb dX5_howMany_0 rfl (lv_at hl 0 rfl) ?_
  refine va_get (D := D) (ci := 5) (v := .ref (r5 3)) (C := RX5) (T := TX5) (N := 4) hx hb hts w1 hown hK.1 hP 0 rfl rfl 3 (by decide) w0 (fun _ h9 => h9) rfl dX5_howMany_1 ?_
  refine lv_iconst (v := 0) hx hb dX5_howMany_4 (by decide) ?_
  refine va_iald hx hb hK.1 hP 1 1 rfl rfl (i := 0) (ix (by omega) (by omega)) dX5_howMany_5 ?_
  refine lv_topi (fun x1 e2 => ?_)
  have hq0 : x1.toInt = (f5_waysOn 0).toInt := congrArg Int32.toInt e2
  have hpo : x1.toInt = 1 := (by omega)
  exact ret _ _ _ _ x1 () dX5_howMany_6 hpo hP hD hS
set_option maxHeartbeats 4000000 in
set_option maxRecDepth 100000 in
theorem k_X5_leastThatGoesOn (l : Launch) (D : va_G) (κ : Nat → ClassId) (β : Nat) (a5 : Nat) (r5 : Nat → Nat) (v5_all : Int32) (sz : Nat) (p1 : Int32) (i1 : Rg 0 255 v5_all) (i2 : (1 : Int) ≤ 0) : Met l yX5_leastThatGoesOn wsX5_leastThatGoesOn ({ frames := 1, cells := 0, slots := 0, locals := 30 } : Room) (PcK D κ β [O5 a5 r5 v5_all] sz [.ref a5, .int p1]) (QiK D (fun (r : Int32) (u : Unit) => True) (fun (u : Unit) => [O5 a5 r5 v5_all]) [O5 a5 r5 v5_all] sz) 0 0 (va_A [O5 a5 r5 v5_all] sz) := by
  refine ofK_i (cc := cX5_leastThatGoesOn) (maxL := 3) (own := RX5) (by decide) rfl rfl (Nat.le_of_ble_eq_true rfl) ?_
  intro p e s m args below meth c Q A ls hsz hx hb hml hts hown hK hA hAB hP hD hl ret
  have hS : va_S A s.heap s.heap [] := va_S.rf
  have hl : lv_has ls 3 [(0, .ref a5), (1, .int p1)] := hl
  exfalso
  omega
set_option maxHeartbeats 4000000 in
set_option maxRecDepth 100000 in
theorem k_X5_firstAsDigits (l : Launch) (D : va_G) (κ : Nat → ClassId) (β : Nat) (a5 : Nat) (r5 : Nat → Nat) (v5_all : Int32) (f5_waysOn : Nat → Int32) (sz : Nat) (i1 : Rg 0 255 v5_all) (i2 : (f5_waysOn 0).toInt = 1) (i3 : v5_all.toInt = 0) : Met l yX5_firstAsDigits wsX5_firstAsDigits ({ frames := 0, cells := 0, slots := 0, locals := 0 } : Room) (PcK D κ β [O5 a5 r5 v5_all, (cI κ (r5 3) 256 f5_waysOn)] sz [.ref a5]) (QiK D (fun (r : Int32) (u : Unit) => r.toInt = 0) (fun (u : Unit) => [O5 a5 r5 v5_all, (cI κ (r5 3) 256 f5_waysOn)]) [O5 a5 r5 v5_all, (cI κ (r5 3) 256 f5_waysOn)] sz) 0 0 (va_A [O5 a5 r5 v5_all, (cI κ (r5 3) 256 f5_waysOn)] sz) := by
  refine ofK_i (cc := cX5_firstAsDigits) (maxL := 5) (own := RX5) (by decide) rfl rfl (Nat.le_of_ble_eq_true rfl) ?_
  intro p e s m args below meth c Q A ls hsz hx hb hml hts hown hK hA hAB hP hD hl ret
  have hS : va_S A s.heap s.heap [] := va_S.rf
  have hl : lv_has ls 5 [(0, .ref a5)] := hl
  have w0 := hts (.fieldLink RX5 18 "OlderSkin$Orders" "waysOn" "[I") (List.mem_of_getElem? (i := 1) rfl)
  have w1 := (fun w h => List.mem_cons_of_mem _ (List.mem_append_right _ h) : ∀ w ∈ u_ws RX5 TX5 4, w ∈ wsX5_firstAsDigits)
  have w2 := hts (.fieldLink RX5 21 "OlderSkin$Orders" "all" "I") (List.mem_of_getElem? (i := 2) rfl)
  have l0 : (0 : Int32).toInt = 0 := by decide
  have l1 : (8 : Int32).toInt = 8 := by decide
  have i1 : 0 ≤ v5_all.toInt ∧ v5_all.toInt ≤ 255 := i1
  refine lv_aload_n hx hb dX5_firstAsDigits_0 rfl (lv_at hl 0 rfl) ?_
  refine va_get (D := D) (ci := 5) (v := .ref (r5 3)) (C := RX5) (T := TX5) (N := 4) hx hb hts w1 hown hK.1 hP 0 rfl rfl 3 (by decide) w0 (fun _ h9 => h9) rfl dX5_firstAsDigits_1 ?_
  refine lv_iconst (v := 0) hx hb dX5_firstAsDigits_4 (by decide) ?_
  refine va_iald hx hb hK.1 hP 1 1 rfl rfl (i := 0) (ix (by omega) (by omega)) dX5_firstAsDigits_5 ?_
  refine lv_topi (fun x1 e2 => ?_)
  have hq0 : x1.toInt = (f5_waysOn 0).toInt := congrArg Int32.toInt e2
  refine lv_if_ne (tgt := 12) hx hb dX5_firstAsDigits_6 (by decide) (fun c3 => ?_) (fun c3 => ?_)
  · have c3 := ci_ne c3
    refine lv_iconst (v := 0) hx hb dX5_firstAsDigits_12 (by decide) ?_
    refine lv_istore_n (lv' := [(1, .int 0), (0, .ref a5)]) hx hb dX5_firstAsDigits_13 rfl hl (by decide) rfl (fun ls hl => ?_)
    refine lv_iconst (v := 0) hx hb dX5_firstAsDigits_14 (by decide) ?_
    refine lv_istore_n (lv' := [(2, .int 0), (1, .int 0), (0, .ref a5)]) hx hb dX5_firstAsDigits_15 rfl hl (by decide) rfl (fun ls hl => ?_)
    refine lv_iconst (v := 0) hx hb dX5_firstAsDigits_16 (by decide) ?_
    refine lv_istore_n (lv' := [(3, .int 0), (2, .int 0), (1, .int 0), (0, .ref a5)]) hx hb dX5_firstAsDigits_17 rfl hl (by decide) rfl (fun ls hl => ?_)
    have lp18 : ∀ (n18 : Nat), (0 ≤ (0 : Int32).toInt ∧ (0 : Int32).toInt ≤ 255) → (0 ≤ (0 : Int32).toInt) → (8 - (0 : Int32).toInt).toNat < n18 → ∀ (H : Heap) (locs : List Loc), va_P D vwCl [O5 a5 r5 v5_all, (cI κ (r5 3) 256 f5_waysOn)] H → va_D A [O5 a5 r5 v5_all, (cI κ (r5 3) 256 f5_waysOn)] → va_S A s.heap H locs → ∀ ls : Array Slot, lv_has ls 5 [(3, .int 0), (2, .int 0), (1, .int 0), (0, .ref a5)] → W p l e ({ frames := 0, cells := 0, slots := 0, locals := 0 } : Room) s m args below meth c H locs 0 0 Q (F0 m 18 ls []) := by
      intro n18
      induction n18 with
      | zero =>
        intro h4 h5 m6
        exact absurd m6 (Nat.not_lt_zero _)
      | succ n18 ih18 =>
        intro h4 h5 m6 H locs hP hD hS ls hl
        refine lv_iload_n hx hb dX5_firstAsDigits_18 rfl (lv_at hl 0 rfl) ?_
        refine lv_bipush (v := 8) hx hb dX5_firstAsDigits_19 (by decide) ?_
        refine lv_icmp_ge (tgt := 62) hx hb dX5_firstAsDigits_21 (by decide) (fun c7 => ?_) (fun c7 => ?_)
        · have c7 := ci_le c7
          refine lv_iload_n hx hb dX5_firstAsDigits_62 rfl (lv_at hl 1 rfl) ?_
          have hpo : (0 : Int32).toInt = 0 := (by omega)
          exact ret _ _ _ _ 0 () dX5_firstAsDigits_63 hpo hP hD hS
        have c7 := ci_nle c7
        refine lv_iload_n hx hb dX5_firstAsDigits_24 rfl (lv_at hl 2 rfl) ?_
        refine lv_aload_n hx hb dX5_firstAsDigits_25 rfl (lv_at hl 3 rfl) ?_
        refine va_get (D := D) (ci := 5) (v := .int v5_all) (C := RX5) (T := TX5) (N := 4) hx hb hts w1 hown hK.1 hP 0 rfl rfl 0 (by decide) w2 (fun _ h9 => h9) rfl dX5_firstAsDigits_26 ?_
        refine lv_icmp_eq (tgt := 62) hx hb dX5_firstAsDigits_29 (by decide) (fun c8 => ?_) (fun c8 => ?_)
        · have c8 := ci_eq c8
          refine lv_iload_n hx hb dX5_firstAsDigits_62 rfl (lv_at hl 1 rfl) ?_
          have hpo : (0 : Int32).toInt = 0 := (by omega)
          exact ret _ _ _ _ 0 () dX5_firstAsDigits_63 hpo hP hD hS
        have c8 := ci_ne c8
        exfalso
        omega
    exact lp18 ((8 - (0 : Int32).toInt).toNat + 1) (by omega) (by omega) (by omega) _ _ hP hD hS _ hl
  have c3 := ci_eq c3
  exfalso
  omega
set_option maxHeartbeats 4000000 in
set_option maxRecDepth 100000 in
theorem k_X5_oneThenOther (l : Launch) (D : va_G) (κ : Nat → ClassId) (β : Nat) (a5 : Nat) (r5 : Nat → Nat) (v5_all : Int32) (sz : Nat) (p1 : Int32) (p2 : Int32) (i1 : Rg 0 255 v5_all) (i2 : (1 : Int) ≤ 0) : Met l yX5_oneThenOther wsX5_oneThenOther ({ frames := 1, cells := 0, slots := 0, locals := 30 } : Room) (PcK D κ β [O5 a5 r5 v5_all] sz [.ref a5, .int p1, .int p2]) (QiK D (fun (r : Int32) (u : Unit) => True) (fun (u : Unit) => [O5 a5 r5 v5_all]) [O5 a5 r5 v5_all] sz) 0 0 (va_A [O5 a5 r5 v5_all] sz) := by
  refine ofK_i (cc := cX5_oneThenOther) (maxL := 6) (own := RX5) (by decide) rfl rfl (Nat.le_of_ble_eq_true rfl) ?_
  intro p e s m args below meth c Q A ls hsz hx hb hml hts hown hK hA hAB hP hD hl ret
  have hS : va_S A s.heap s.heap [] := va_S.rf
  have hl : lv_has ls 6 [(0, .ref a5), (1, .int p1), (2, .int p2)] := hl
  have i1 : 0 ≤ v5_all.toInt ∧ v5_all.toInt ≤ 255 := i1
  exfalso
  omega
set_option maxHeartbeats 4000000 in
set_option maxRecDepth 100000 in
theorem k_X5_sideBySide (l : Launch) (D : va_G) (κ : Nat → ClassId) (β : Nat) (a5 : Nat) (r5 : Nat → Nat) (v5_all : Int32) (sz : Nat) (p1 : Int32) (p2 : Int32) (i1 : Rg 0 255 v5_all) (i2 : (1 : Int) ≤ 0) : Met l yX5_sideBySide wsX5_sideBySide ({ frames := 1, cells := 0, slots := 0, locals := 30 } : Room) (PcK D κ β [O5 a5 r5 v5_all] sz [.ref a5, .int p1, .int p2]) (QiK D (fun (r : Int32) (u : Unit) => True) (fun (u : Unit) => [O5 a5 r5 v5_all]) [O5 a5 r5 v5_all] sz) 0 0 (va_A [O5 a5 r5 v5_all] sz) := by
  refine ofK_i (cc := cX5_sideBySide) (maxL := 3) (own := RX5) (by decide) rfl rfl (Nat.le_of_ble_eq_true rfl) ?_
  intro p e s m args below meth c Q A ls hsz hx hb hml hts hown hK hA hAB hP hD hl ret
  have hS : va_S A s.heap s.heap [] := va_S.rf
  have hl : lv_has ls 3 [(0, .ref a5), (1, .int p1), (2, .int p2)] := hl
  exfalso
  omega
