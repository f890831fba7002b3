set_option maxHeartbeats 4000000 in
set_option maxRecDepth 100000 in
theorem k_X5_thoseThatMayFollow (l : Launch) (D : va_G) (κ : Nat → ClassId) (β : Nat) (a5 : Nat) (r5 : Nat → Nat) (v5_all : Int32) (fq2 : Nat → Int32) (sz : Nat) (p1 : Int32) (q2 : Nat) (p3 : Int32) (i1 : Rg 0 255 v5_all) (i2 : p3.toInt ≤ 40) : Met l yX5_thoseThatMayFollow wsX5_thoseThatMayFollow ({ frames := 0, cells := 0, slots := 0, locals := 0 } : Room) (PcK D κ β [O5 a5 r5 v5_all, (cI κ q2 40 fq2)] sz [.ref a5, .int p1, .ref q2, .int p3]) (QiK D (fun (r : Int32) (u : Unit) => True) (fun (u : Unit) => [O5 a5 r5 v5_all, (cI κ q2 40 fq2)]) [O5 a5 r5 v5_all, (cI κ q2 40 fq2)] sz) 0 0 (va_A [O5 a5 r5 v5_all, (cI κ q2 40 fq2)] sz) := by
  refine ofK_i (cc := cX5_thoseThatMayFollow) (maxL := 6) (own := RX5) (by decide) rfl rfl (Nat.le_of_ble_eq_true rfl) ?_
  intro p e s m args below meth c Q A ls hsz hx hb hml hts hown hK hA hAB hP hD hl ret
  have hS : va_S A s.heap s.heap [] := va_S.rf
  have hl : lv_has ls 6 [(0, .ref a5), (1, .int p1), (2, .ref q2), (3, .int p3)] := hl
  have w0 := hts (.fieldLink RX5 21 "OlderSkin$Orders" "all" "I") (List.mem_of_getElem? (i := 1) rfl)
  have w1 := (fun w h => List.mem_cons_of_mem _ (List.mem_append_right _ h) : ∀ w ∈ u_ws RX5 TX5 4, w ∈ wsX5_thoseThatMayFollow)
  have l0 : ((-1) : Int32).toInt = -1 := by decide
  have l1 : (0 : Int32).toInt = 0 := by decide
  have l2 : (1 : Int32).toInt = 1 := by decide
  have i1 : 0 ≤ v5_all.toInt ∧ v5_all.toInt ≤ 255 := i1
  refine lv_iload_n hx hb dX5_thoseThatMayFollow_0 rfl (lv_at hl 1 rfl) ?_
  refine lv_aload_n hx hb dX5_thoseThatMayFollow_1 rfl (lv_at hl 0 rfl) ?_
  refine va_get (D := D) (ci := 5) (v := .int v5_all) (C := RX5) (T := TX5) (N := 4) hx hb hts w1 hown hK.1 hP 0 rfl rfl 0 (by decide) w0 (fun _ h9 => h9) rfl dX5_thoseThatMayFollow_2 ?_
  refine lv_iconst (v := (-1)) hx hb dX5_thoseThatMayFollow_5 (by decide) ?_
  refine lv_ixor hx hb dX5_thoseThatMayFollow_6 ?_
  refine lv_topi (fun x1 e2 => ?_)
  refine lv_iand hx hb dX5_thoseThatMayFollow_7 ?_
  refine lv_topi (fun x3 e4 => ?_)
  refine lv_if_eq (tgt := 13) hx hb dX5_thoseThatMayFollow_8 (by decide) (fun c5 => ?_) (fun c5 => ?_)
  · have c5 := ci_eq c5
    refine lv_aload_n hx hb dX5_thoseThatMayFollow_13 rfl (lv_at hl 0 rfl) ?_
    refine va_get (D := D) (ci := 5) (v := .int v5_all) (C := RX5) (T := TX5) (N := 4) hx hb hts w1 hown hK.1 hP 0 rfl rfl 0 (by decide) w0 (fun _ h9 => h9) rfl dX5_thoseThatMayFollow_14 ?_
    refine lv_iload_n hx hb dX5_thoseThatMayFollow_17 rfl (lv_at hl 1 rfl) ?_
    refine lv_iconst (v := (-1)) hx hb dX5_thoseThatMayFollow_18 (by decide) ?_
    refine lv_ixor hx hb dX5_thoseThatMayFollow_19 ?_
    refine lv_topi (fun x6 e7 => ?_)
    refine lv_iand hx hb dX5_thoseThatMayFollow_20 ?_
    refine lv_topi (fun x8 e9 => ?_)
    refine lv_istore (lv' := [(4, .int x8), (0, .ref a5), (1, .int p1), (2, .ref q2), (3, .int p3)]) hx hb dX5_thoseThatMayFollow_21 hl (by decide) rfl (fun ls hl => ?_)
    refine lv_iconst (v := 0) hx hb dX5_thoseThatMayFollow_23 (by decide) ?_
    refine lv_istore (lv' := [(5, .int 0), (4, .int x8), (0, .ref a5), (1, .int p1), (2, .ref q2), (3, .int p3)]) hx hb dX5_thoseThatMayFollow_24 hl (by decide) rfl (fun ls hl => ?_)
    have lp26 : ∀ (n26 : Nat) (k10 : Int32) (k11 : Int32), (0 ≤ k10.toInt) → (p3.toInt - k10.toInt).toNat < n26 → ∀ (H : Heap) (locs : List Loc), va_P D vwCl [O5 a5 r5 v5_all, (cI κ q2 40 fq2)] H → va_D A [O5 a5 r5 v5_all, (cI κ q2 40 fq2)] → va_S A s.heap H locs → ∀ ls : Array Slot, lv_has ls 6 [(5, .int k10), (4, .int k11), (0, .ref a5), (1, .int p1), (2, .ref q2), (3, .int p3)] → W p l e ({ frames := 0, cells := 0, slots := 0, locals := 0 } : Room) s m args below meth c H locs 0 0 Q (F0 m 26 ls []) := by
      intro n26
      induction n26 with
      | zero =>
        intro k10 k11 h12 m13
        exact absurd m13 (Nat.not_lt_zero _)
      | succ n26 ih26 =>
        intro k10 k11 h12 m13 H locs hP hD hS ls hl
        refine lv_iload hx hb dX5_thoseThatMayFollow_26 (lv_at hl 0 rfl) ?_
        refine lv_iload_n hx hb dX5_thoseThatMayFollow_28 rfl (lv_at hl 5 rfl) ?_
        refine lv_icmp_ge (tgt := 67) hx hb dX5_thoseThatMayFollow_29 (by decide) (fun c14 => ?_) (fun c14 => ?_)
        · have c14 := ci_le c14
          refine lv_iload hx hb dX5_thoseThatMayFollow_67 (lv_at hl 1 rfl) ?_
          exact ret _ _ _ _ k11 () dX5_thoseThatMayFollow_69 trivial hP hD hS
        have c14 := ci_nle c14
        refine lv_aload_n hx hb dX5_thoseThatMayFollow_32 rfl (lv_at hl 4 rfl) ?_
        refine lv_iload hx hb dX5_thoseThatMayFollow_33 (lv_at hl 0 rfl) ?_
        refine va_iald hx hb hK.1 hP 1 1 rfl rfl (i := k10) (ix (by omega) (by omega)) dX5_thoseThatMayFollow_35 ?_
        refine lv_topi (fun x15 e16 => ?_)
        refine lv_iload_n hx hb dX5_thoseThatMayFollow_36 rfl (lv_at hl 3 rfl) ?_
        refine lv_iand hx hb dX5_thoseThatMayFollow_37 ?_
        refine lv_topi (fun x17 e18 => ?_)
        refine lv_if_eq (tgt := 61) hx hb dX5_thoseThatMayFollow_38 (by decide) (fun c19 => ?_) (fun c19 => ?_)
        · have c19 := ci_eq c19
          obtain ⟨x20, e21⟩ : ∃ y : Int32, y = k10 + 1 := ⟨_, rfl⟩
          refine lv_iinc (v := x20) (lv' := [(5, .int x20), (4, .int k11), (0, .ref a5), (1, .int p1), (2, .ref q2), (3, .int p3)]) hx hb dX5_thoseThatMayFollow_61 hl (k := 0) rfl (by rw [e21]; rfl) (by decide) rfl (fun ls hl => ?_)
          try have h22 : x20.toInt = k10.toInt + (1 : Int32).toInt := ci_add e21 (by omega) (by omega)
          refine lv_goto (tgt := 26) hx hb dX5_thoseThatMayFollow_64 (by decide) ?_
          exact ih26 x20 k11 (by omega) (by omega) _ _ hP hD hS _ hl
        have c19 := ci_ne c19
        refine lv_aload_n hx hb dX5_thoseThatMayFollow_41 rfl (lv_at hl 4 rfl) ?_
        refine lv_iload hx hb dX5_thoseThatMayFollow_42 (lv_at hl 0 rfl) ?_
        refine va_iald hx hb hK.1 hP 1 1 rfl rfl (i := k10) (ix (by omega) (by omega)) dX5_thoseThatMayFollow_44 ?_
        refine lv_topi (fun x23 e24 => ?_)
        refine lv_iload_n hx hb dX5_thoseThatMayFollow_45 rfl (lv_at hl 3 rfl) ?_
        refine lv_iconst (v := (-1)) hx hb dX5_thoseThatMayFollow_46 (by decide) ?_
        refine lv_ixor hx hb dX5_thoseThatMayFollow_47 ?_
        refine lv_topi (fun x25 e26 => ?_)
        refine lv_iand hx hb dX5_thoseThatMayFollow_48 ?_
        refine lv_topi (fun x27 e28 => ?_)
        refine lv_if_eq (tgt := 61) hx hb dX5_thoseThatMayFollow_49 (by decide) (fun c29 => ?_) (fun c29 => ?_)
        · have c29 := ci_eq c29
          obtain ⟨x30, e31⟩ : ∃ y : Int32, y = k10 + 1 := ⟨_, rfl⟩
          refine lv_iinc (v := x30) (lv' := [(5, .int x30), (4, .int k11), (0, .ref a5), (1, .int p1), (2, .ref q2), (3, .int p3)]) hx hb dX5_thoseThatMayFollow_61 hl (k := 0) rfl (by rw [e31]; rfl) (by decide) rfl (fun ls hl => ?_)
          try have h32 : x30.toInt = k10.toInt + (1 : Int32).toInt := ci_add e31 (by omega) (by omega)
          refine lv_goto (tgt := 26) hx hb dX5_thoseThatMayFollow_64 (by decide) ?_
          exact ih26 x30 k11 (by omega) (by omega) _ _ hP hD hS _ hl
        have c29 := ci_ne c29
        refine lv_iload hx hb dX5_thoseThatMayFollow_52 (lv_at hl 1 rfl) ?_
        refine lv_aload_n hx hb dX5_thoseThatMayFollow_54 rfl (lv_at hl 4 rfl) ?_
        refine lv_iload hx hb dX5_thoseThatMayFollow_55 (lv_at hl 0 rfl) ?_
        refine va_iald hx hb hK.1 hP 1 1 rfl rfl (i := k10) (ix (by omega) (by omega)) dX5_thoseThatMayFollow_57 ?_
        refine lv_topi (fun x33 e34 => ?_)
        refine lv_iand hx hb dX5_thoseThatMayFollow_58 ?_
        refine lv_topi (fun x35 e36 => ?_)
        refine lv_istore (lv' := [(4, .int x35), (5, .int k10), (0, .ref a5), (1, .int p1), (2, .ref q2), (3, .int p3)]) hx hb dX5_thoseThatMayFollow_59 hl (by decide) rfl (fun ls hl => ?_)
        obtain ⟨x37, e38⟩ : ∃ y : Int32, y = k10 + 1 := ⟨_, rfl⟩
        refine lv_iinc (v := x37) (lv' := [(5, .int x37), (4, .int x35), (0, .ref a5), (1, .int p1), (2, .ref q2), (3, .int p3)]) hx hb dX5_thoseThatMayFollow_61 hl (k := 1) rfl (by rw [e38]; rfl) (by decide) rfl (fun ls hl => ?_)
        try have h39 : x37.toInt = k10.toInt + (1 : Int32).toInt := ci_add e38 (by omega) (by omega)
        refine lv_goto (tgt := 26) hx hb dX5_thoseThatMayFollow_64 (by decide) ?_
        exact ih26 x37 x35 (by omega) (by omega) _ _ hP hD hS _ hl
    exact lp26 ((p3.toInt - (0 : Int32).toInt).toNat + 1) 0 x8 (by omega) (by omega) _ _ hP hD hS _ hl
  have c5 := ci_ne c5
  refine lv_iconst (v := 0) hx hb dX5_thoseThatMayFollow_11 (by decide) ?_
  exact ret _ _ _ _ 0 () dX5_thoseThatMayFollow_12 trivial hP hD hS
set_option maxHeartbeats 4000000 in
set_option maxRecDepth 100000 in
theorem k_X5_countWaysTo (l : Launch) (D : va_G) (κ : Nat → ClassId) (β : Nat) (a5 : Nat) (r5 : Nat → Nat) (v5_all : Int32) (f5_mayFollow : Nat → Int32) (f5_waysTo : Nat → Int32) (sz : Nat) (i1 : Rg 0 255 v5_all) : Met l yX5_countWaysTo wsX5_countWaysTo ({ frames := 1, cells := 0, slots := 0, locals := 23 } : Room) (PcK D κ β [O5 a5 r5 v5_all, (cI κ (r5 1) 256 f5_mayFollow), (cI κ (r5 2) 256 f5_waysTo)] sz [.ref a5]) (QvK D (fun (u : (Nat → Int32)) => True) (fun (u : (Nat → Int32)) => [O5 a5 r5 v5_all, (cI κ (r5 1) 256 f5_mayFollow), (cI κ (r5 2) 256 u)]) [O5 a5 r5 v5_all, (cI κ (r5 1) 256 f5_mayFollow), (cI κ (r5 2) 256 f5_waysTo)] sz) 0 0 (va_A [O5 a5 r5 v5_all, (cI κ (r5 1) 256 f5_mayFollow), (cI κ (r5 2) 256 f5_waysTo)] sz) := by
  refine ofK_v (cc := cX5_countWaysTo) (maxL := 3) (own := RX5) (by decide) rfl rfl (Nat.le_of_ble_eq_true rfl) ?_
  intro p e s m args below meth c Q A ls hsz hx hb hml hts hown hK hA hAB hP hD hl hname ret
  have hS : va_S A s.heap s.heap [] := va_S.rf
  have hl : lv_has ls 3 [(0, .ref a5)] := hl
  have w0 := hts (.fieldLink RX5 15 "OlderSkin$Orders" "waysTo" "[I") (List.mem_of_getElem? (i := 1) rfl)
  have w1 := (fun w h => List.mem_cons_of_mem _ (List.mem_append_right _ h) : ∀ w ∈ u_ws RX5 TX5 4, w ∈ wsX5_countWaysTo)
  have w2 := hts (.fieldLink RX5 21 "OlderSkin$Orders" "all" "I") (List.mem_of_getElem? (i := 2) rfl)
  have w3 := hts (.fieldLink RX5 9 "OlderSkin$Orders" "mayFollow" "[I") (List.mem_of_getElem? (i := 3) rfl)
  have w4 := hts (.initialized RX11) (List.mem_of_getElem? (i := 9) rfl)
  have w5 := hts (.static yX11_hasBit) (List.mem_of_getElem? (i := 8) rfl)
  have w6 := hK.2.1 ("OlderSkin$Orders", 41, ⟨"OlderSkin", "hasBit", "(II)Z"⟩, "OlderSkin") (by decide +kernel)
  have l0 : (0 : Int32).toInt = 0 := by decide
  have l1 : (1 : Int32).toInt = 1 := by decide
  have l2 : (8 : Int32).toInt = 8 := by decide
  have i1 : 0 ≤ v5_all.toInt ∧ v5_all.toInt ≤ 255 := i1
  refine lv_aload_n hx hb dX5_countWaysTo_0 rfl (lv_at hl 0 rfl) ?_
  refine va_get (D := D) (ci := 5) (v := .ref (r5 2)) (C := RX5) (T := TX5) (N := 4) hx hb hts w1 hown hK.1 hP 0 rfl rfl 2 (by decide) w0 (fun _ h9 => h9) rfl dX5_countWaysTo_1 ?_
  refine lv_iconst (v := 0) hx hb dX5_countWaysTo_4 (by decide) ?_
  refine kcm_v hA hAB hP hD hS [false, false, true] rfl (fun _ => rfl) (fun hPc hDc => va_runS (As := [.ref (r5 2), .int 0]) (rest := []) ⟨hx, hb, hml, hown, hts⟩ (k_J7_fill_53178 l D κ β 256 f5_waysTo s.heap.size (r5 2) 0 (by omega)) (va_cwS 2 hts gX5_countWaysTo_J7_fill_53178 rfl rfl rfl (by decide +kernel) ⟨Nat.le_of_ble_eq_true rfl, Nat.le_of_ble_eq_true rfl⟩) (pk_S hK hS hAB hPc hDc) rfl rfl hl.1 rfl (lv_room (Nat.le_of_ble_eq_true rfl)) dX5_countWaysTo_5 ⟨Nat.le_of_ble_eq_true rfl, Nat.le_of_ble_eq_true rfl⟩) (fun g1 H locs hw hPD hS => ?_)
  obtain ⟨hP, hD⟩ : PD D A [O5 a5 r5 v5_all, (cI κ (r5 1) 256 f5_mayFollow), (cI κ (r5 2) 256 g1)] H := hPD
  refine lv_aload_n hx hb dX5_countWaysTo_8 rfl (lv_at hl 0 rfl) ?_
  refine va_get (D := D) (ci := 5) (v := .ref (r5 2)) (C := RX5) (T := TX5) (N := 4) hx hb hts w1 hown hK.1 hP 0 rfl rfl 2 (by decide) w0 (fun _ h9 => h9) rfl dX5_countWaysTo_9 ?_
  refine lv_iconst (v := 0) hx hb dX5_countWaysTo_12 (by decide) ?_
  refine lv_iconst (v := 1) hx hb dX5_countWaysTo_13 (by decide) ?_
  refine va_iast hx hb hK.1 hP hD hS 2 1 rfl rfl (i := 0) (ix (by omega) (by omega)) dX5_countWaysTo_14 (fun H locs hP hD hS => ?_)
  obtain ⟨g2, e3⟩ : ∃ y : Nat → Int32, y = upd g1 (0 : Int32).toNatClampNeg 1 := ⟨_, rfl⟩
  rw [← e3] at hP hD
  obtain ⟨hP, hD⟩ : PD D A [O5 a5 r5 v5_all, (cI κ (r5 1) 256 f5_mayFollow), (cI κ (r5 2) 256 g2)] H := ⟨hP, hD⟩
  refine lv_iconst (v := 0) hx hb dX5_countWaysTo_15 (by decide) ?_
  refine lv_istore_n (lv' := [(1, .int 0), (0, .ref a5)]) hx hb dX5_countWaysTo_16 rfl hl (by decide) rfl (fun ls hl => ?_)
  have lp17 : ∀ (n17 : Nat) (k4 : Int32) (g5 : Nat → Int32), (0 ≤ k4.toInt) → (v5_all.toInt + 1 - k4.toInt).toNat < n17 → ∀ (H : Heap) (locs : List Loc), va_P D vwCl [O5 a5 r5 v5_all, (cI κ (r5 1) 256 f5_mayFollow), (cI κ (r5 2) 256 g5)] H → va_D A [O5 a5 r5 v5_all, (cI κ (r5 1) 256 f5_mayFollow), (cI κ (r5 2) 256 g5)] → va_S A s.heap H locs → ∀ ls : Array Slot, lv_has ls 3 [(1, .int k4), (0, .ref a5)] → W p l e ({ frames := 1, cells := 0, slots := 0, locals := 23 } : Room) s m args below meth c H locs 0 0 Q (F0 m 17 ls []) := by
    intro n17
    induction n17 with
    | zero =>
      intro k4 g5 h6 m7
      exact absurd m7 (Nat.not_lt_zero _)
    | succ n17 ih17 =>
      intro k4 g5 h6 m7 H locs hP hD hS ls hl
      refine lv_iload_n hx hb dX5_countWaysTo_17 rfl (lv_at hl 0 rfl) ?_
      refine lv_aload_n hx hb dX5_countWaysTo_18 rfl (lv_at hl 1 rfl) ?_
      refine va_get (D := D) (ci := 5) (v := .int v5_all) (C := RX5) (T := TX5) (N := 4) hx hb hts w1 hown hK.1 hP 0 rfl rfl 0 (by decide) w2 (fun _ h9 => h9) rfl dX5_countWaysTo_19 ?_
      refine lv_icmp_gt (tgt := 77) hx hb dX5_countWaysTo_22 (by decide) (fun c8 => ?_) (fun c8 => ?_)
      · have c8 := ci_lt c8
        exact ret _ _ _ _ g5 dX5_countWaysTo_77 trivial hP hD hS
      have c8 := ci_nlt c8
      refine lv_iconst (v := 0) hx hb dX5_countWaysTo_25 (by decide) ?_
      refine lv_istore_n (lv' := [(2, .int 0), (1, .int k4), (0, .ref a5)]) hx hb dX5_countWaysTo_26 rfl hl (by decide) rfl (fun ls hl => ?_)
      have lp27 : ∀ (n27 : Nat) (k9 : Int32) (g10 : Nat → Int32), (0 ≤ k9.toInt) → (8 - k9.toInt).toNat < n27 → ∀ (H : Heap) (locs : List Loc), va_P D vwCl [O5 a5 r5 v5_all, (cI κ (r5 1) 256 f5_mayFollow), (cI κ (r5 2) 256 g10)] H → va_D A [O5 a5 r5 v5_all, (cI κ (r5 1) 256 f5_mayFollow), (cI κ (r5 2) 256 g10)] → va_S A s.heap H locs → ∀ ls : Array Slot, lv_has ls 3 [(2, .int k9), (1, .int k4), (0, .ref a5)] → W p l e ({ frames := 1, cells := 0, slots := 0, locals := 23 } : Room) s m args below meth c H locs 0 0 Q (F0 m 27 ls []) := by
        intro n27
        induction n27 with
        | zero =>
          intro k9 g10 h11 m12
          exact absurd m12 (Nat.not_lt_zero _)
        | succ n27 ih27 =>
          intro k9 g10 h11 m12 H locs hP hD hS ls hl
          refine lv_iload_n hx hb dX5_countWaysTo_27 rfl (lv_at hl 0 rfl) ?_
          refine lv_bipush (v := 8) hx hb dX5_countWaysTo_28 (by decide) ?_
          refine lv_icmp_ge (tgt := 71) hx hb dX5_countWaysTo_30 (by decide) (fun c13 => ?_) (fun c13 => ?_)
          · have c13 := ci_le c13
            obtain ⟨x14, e15⟩ : ∃ y : Int32, y = k4 + 1 := ⟨_, rfl⟩
            refine lv_iinc (v := x14) (lv' := [(1, .int x14), (2, .int k9), (0, .ref a5)]) hx hb dX5_countWaysTo_71 hl (k := 1) rfl (by rw [e15]; rfl) (by decide) rfl (fun ls hl => ?_)
            try have h16 : x14.toInt = k4.toInt + (1 : Int32).toInt := ci_add e15 (by omega) (by omega)
            refine lv_goto (tgt := 17) hx hb dX5_countWaysTo_74 (by decide) ?_
            exact ih17 x14 g10 (by omega) (by omega) _ _ hP hD hS _ (lv_sub hl [0, 2] rfl)
          have c13 := ci_nle c13
          refine lv_aload_n hx hb dX5_countWaysTo_33 rfl (lv_at hl 2 rfl) ?_
          refine va_get (D := D) (ci := 5) (v := .ref (r5 1)) (C := RX5) (T := TX5) (N := 4) hx hb hts w1 hown hK.1 hP 0 rfl rfl 1 (by decide) w3 (fun _ h9 => h9) rfl dX5_countWaysTo_34 ?_
          refine lv_iload_n hx hb dX5_countWaysTo_37 rfl (lv_at hl 1 rfl) ?_
          refine va_iald hx hb hK.1 hP 1 1 rfl rfl (i := k4) (ix (by omega) (by omega)) dX5_countWaysTo_38 ?_
          refine lv_topi (fun x17 e18 => ?_)
          refine lv_iload_n hx hb dX5_countWaysTo_39 rfl (lv_at hl 0 rfl) ?_
          refine kcm_i hA hAB hP hD hS [false, false, false] rfl (fun _ => rfl) (fun hPc hDc => va_runSN (As := [.int x17, .int k9]) (rest := []) ⟨hx, hb, hml, hown, hts⟩ (k_X11_hasBit l D κ β H.size x17 k9) ⟨va_cnB 2 hts gX5_countWaysTo_X11_hasBit_n41 rfl rfl rfl w6 w4 (by decide +kernel) ⟨Nat.le_of_ble_eq_true rfl, Nat.le_of_ble_eq_true rfl⟩, w5, trivial⟩ (pk_S hK hS hAB hPc hDc) rfl rfl hl.1 rfl (lv_room (Nat.le_of_ble_eq_true rfl)) dX5_countWaysTo_40 ⟨Nat.le_of_ble_eq_true rfl, Nat.le_of_ble_eq_true rfl⟩) (fun x19 u20 H locs hw hPD hS => ?_)
          have h21 : x19.toInt = 0 ∨ x19.toInt = 1 := hw
          obtain ⟨hP, hD⟩ : PD D A [O5 a5 r5 v5_all, (cI κ (r5 1) 256 f5_mayFollow), (cI κ (r5 2) 256 g10)] H := hPD
          refine lv_if_eq (tgt := 65) hx hb dX5_countWaysTo_43 (by decide) (fun c22 => ?_) (fun c22 => ?_)
          · have c22 := ci_eq c22
            obtain ⟨x23, e24⟩ : ∃ y : Int32, y = k9 + 1 := ⟨_, rfl⟩
            refine lv_iinc (v := x23) (lv' := [(2, .int x23), (1, .int k4), (0, .ref a5)]) hx hb dX5_countWaysTo_65 hl (k := 0) rfl (by rw [e24]; rfl) (by decide) rfl (fun ls hl => ?_)
            try have h25 : x23.toInt = k9.toInt + (1 : Int32).toInt := ci_add e24 (by omega) (by omega)
            refine lv_goto (tgt := 27) hx hb dX5_countWaysTo_68 (by decide) ?_
            exact ih27 x23 g10 (by omega) (by omega) _ _ hP hD hS _ hl
          have c22 := ci_ne c22
          refine lv_aload_n hx hb dX5_countWaysTo_46 rfl (lv_at hl 2 rfl) ?_
          refine va_get (D := D) (ci := 5) (v := .ref (r5 2)) (C := RX5) (T := TX5) (N := 4) hx hb hts w1 hown hK.1 hP 0 rfl rfl 2 (by decide) w0 (fun _ h9 => h9) rfl dX5_countWaysTo_47 ?_
          refine lv_iload_n hx hb dX5_countWaysTo_50 rfl (lv_at hl 1 rfl) ?_
          refine lv_iconst (v := 1) hx hb dX5_countWaysTo_51 (by decide) ?_
          refine lv_iload_n hx hb dX5_countWaysTo_52 rfl (lv_at hl 0 rfl) ?_
          refine lv_ishl hx hb dX5_countWaysTo_53 ?_
          refine lv_topi (fun x26 e27 => ?_)
          try have h28 := shl_rng7 e27 (by omega) (by omega)
          refine lv_ior hx hb dX5_countWaysTo_54 ?_
          refine lv_topi (fun x29 e30 => ?_)
          try have h31 := or_rng e30 (by omega) (by omega) (by omega) (by omega)
          refine lv_dup2_11 hx hb dX5_countWaysTo_55 rfl rfl ?_
          refine va_iald hx hb hK.1 hP 2 1 rfl rfl (i := x29) (ix (by omega) (by omega)) dX5_countWaysTo_56 ?_
          refine lv_topi (fun x32 e33 => ?_)
          refine lv_aload_n hx hb dX5_countWaysTo_57 rfl (lv_at hl 2 rfl) ?_
          refine va_get (D := D) (ci := 5) (v := .ref (r5 2)) (C := RX5) (T := TX5) (N := 4) hx hb hts w1 hown hK.1 hP 0 rfl rfl 2 (by decide) w0 (fun _ h9 => h9) rfl dX5_countWaysTo_58 ?_
          refine lv_iload_n hx hb dX5_countWaysTo_61 rfl (lv_at hl 1 rfl) ?_
          refine va_iald hx hb hK.1 hP 2 1 rfl rfl (i := k4) (ix (by omega) (by omega)) dX5_countWaysTo_62 ?_
          refine lv_topi (fun x34 e35 => ?_)
          refine lv_iadd hx hb dX5_countWaysTo_63 ?_
          refine lv_topi (fun x36 e37 => ?_)
          try have h38 : x36.toInt = x32.toInt + x34.toInt := ci_add e37 (by omega) (by omega)
          refine va_iast hx hb hK.1 hP hD hS 2 1 rfl rfl (i := x29) (ix (by omega) (by omega)) dX5_countWaysTo_64 (fun H locs hP hD hS => ?_)
          obtain ⟨g39, e40⟩ : ∃ y : Nat → Int32, y = upd g10 x29.toNatClampNeg x36 := ⟨_, rfl⟩
          rw [← e40] at hP hD
          obtain ⟨hP, hD⟩ : PD D A [O5 a5 r5 v5_all, (cI κ (r5 1) 256 f5_mayFollow), (cI κ (r5 2) 256 g39)] H := ⟨hP, hD⟩
          obtain ⟨x41, e42⟩ : ∃ y : Int32, y = k9 + 1 := ⟨_, rfl⟩
          refine lv_iinc (v := x41) (lv' := [(2, .int x41), (1, .int k4), (0, .ref a5)]) hx hb dX5_countWaysTo_65 hl (k := 0) rfl (by rw [e42]; rfl) (by decide) rfl (fun ls hl => ?_)
          try have h43 : x41.toInt = k9.toInt + (1 : Int32).toInt := ci_add e42 (by omega) (by omega)
          refine lv_goto (tgt := 27) hx hb dX5_countWaysTo_68 (by decide) ?_
          exact ih27 x41 g39 (by omega) (by omega) _ _ hP hD hS _ hl
      exact lp27 ((8 - (0 : Int32).toInt).toNat + 1) 0 g5 (by omega) (by omega) _ _ hP hD hS _ hl
  exact lp17 ((v5_all.toInt + 1 - (0 : Int32).toInt).toNat + 1) 0 g2 (by omega) (by omega) _ _ hP hD hS _ hl
set_option maxHeartbeats 4000000 in
set_option maxRecDepth 100000 in
theorem k_X5_countWaysOn (l : Launch) (D : va_G) (κ : Nat → ClassId) (β : Nat) (a5 : Nat) (r5 : Nat → Nat) (v5_all : Int32) (f5_mayFollow : Nat → Int32) (f5_waysOn : Nat → Int32) (sz : Nat) (i1 : Rg 0 255 v5_all) : Met l yX5_countWaysOn wsX5_countWaysOn ({ frames := 1, cells := 0, slots := 0, locals := 23 } : Room) (PcK D κ β [O5 a5 r5 v5_all, (cI κ (r5 1) 256 f5_mayFollow), (cI κ (r5 3) 256 f5_waysOn)] sz [.ref a5]) (QvK D (fun (u : (Nat → Int32)) => True) (fun (u : (Nat → Int32)) => [O5 a5 r5 v5_all, (cI κ (r5 1) 256 f5_mayFollow), (cI κ (r5 3) 256 u)]) [O5 a5 r5 v5_all, (cI κ (r5 1) 256 f5_mayFollow), (cI κ (r5 3) 256 f5_waysOn)] sz) 0 0 (va_A [O5 a5 r5 v5_all, (cI κ (r5 1) 256 f5_mayFollow), (cI κ (r5 3) 256 f5_waysOn)] sz) := by
  refine ofK_v (cc := cX5_countWaysOn) (maxL := 3) (own := RX5) (by decide) rfl rfl (Nat.le_of_ble_eq_true rfl) ?_
  intro p e s m args below meth c Q A ls hsz hx hb hml hts hown hK hA hAB hP hD hl hname ret
  have hS : va_S A s.heap s.heap [] := va_S.rf
  have hl : lv_has ls 3 [(0, .ref a5)] := hl
  have w0 := hts (.fieldLink RX5 18 "OlderSkin$Orders" "waysOn" "[I") (List.mem_of_getElem? (i := 1) rfl)
  have w1 := (fun w h => List.mem_cons_of_mem _ (List.mem_append_right _ h) : ∀ w ∈ u_ws RX5 TX5 4, w ∈ wsX5_countWaysOn)
  have w2 := hts (.fieldLink RX5 21 "OlderSkin$Orders" "all" "I") (List.mem_of_getElem? (i := 2) rfl)
  have w3 := hts (.fieldLink RX5 9 "OlderSkin$Orders" "mayFollow" "[I") (List.mem_of_getElem? (i := 3) rfl)
  have w4 := hts (.initialized RX11) (List.mem_of_getElem? (i := 9) rfl)
  have w5 := hts (.static yX11_hasBit) (List.mem_of_getElem? (i := 8) rfl)
  have w6 := hK.2.1 ("OlderSkin$Orders", 41, ⟨"OlderSkin", "hasBit", "(II)Z"⟩, "OlderSkin") (by decide +kernel)
  have l0 : (0 : Int32).toInt = 0 := by decide
  have l1 : (1 : Int32).toInt = 1 := by decide
  have l2 : (8 : Int32).toInt = 8 := by decide
  have l3 : ((-1) : Int32).toInt = -1 := by decide
  have i1 : 0 ≤ v5_all.toInt ∧ v5_all.toInt ≤ 255 := i1
  refine lv_aload_n hx hb dX5_countWaysOn_0 rfl (lv_at hl 0 rfl) ?_
  refine va_get (D := D) (ci := 5) (v := .ref (r5 3)) (C := RX5) (T := TX5) (N := 4) hx hb hts w1 hown hK.1 hP 0 rfl rfl 3 (by decide) w0 (fun _ h9 => h9) rfl dX5_countWaysOn_1 ?_
  refine lv_iconst (v := 0) hx hb dX5_countWaysOn_4 (by decide) ?_
  refine kcm_v hA hAB hP hD hS [false, false, true] rfl (fun _ => rfl) (fun hPc hDc => va_runS (As := [.ref (r5 3), .int 0]) (rest := []) ⟨hx, hb, hml, hown, hts⟩ (k_J7_fill_53178 l D κ β 256 f5_waysOn s.heap.size (r5 3) 0 (by omega)) (va_cwS 2 hts gX5_countWaysOn_J7_fill_53178 rfl rfl rfl (by decide +kernel) ⟨Nat.le_of_ble_eq_true rfl, Nat.le_of_ble_eq_true rfl⟩) (pk_S hK hS hAB hPc hDc) rfl rfl hl.1 rfl (lv_room (Nat.le_of_ble_eq_true rfl)) dX5_countWaysOn_5 ⟨Nat.le_of_ble_eq_true rfl, Nat.le_of_ble_eq_true rfl⟩) (fun g1 H locs hw hPD hS => ?_)
  obtain ⟨hP, hD⟩ : PD D A [O5 a5 r5 v5_all, (cI κ (r5 1) 256 f5_mayFollow), (cI κ (r5 3) 256 g1)] H := hPD
  refine lv_aload_n hx hb dX5_countWaysOn_8 rfl (lv_at hl 0 rfl) ?_
  refine va_get (D := D) (ci := 5) (v := .ref (r5 3)) (C := RX5) (T := TX5) (N := 4) hx hb hts w1 hown hK.1 hP 0 rfl rfl 3 (by decide) w0 (fun _ h9 => h9) rfl dX5_countWaysOn_9 ?_
  refine lv_aload_n hx hb dX5_countWaysOn_12 rfl (lv_at hl 0 rfl) ?_
  refine va_get (D := D) (ci := 5) (v := .int v5_all) (C := RX5) (T := TX5) (N := 4) hx hb hts w1 hown hK.1 hP 0 rfl rfl 0 (by decide) w2 (fun _ h9 => h9) rfl dX5_countWaysOn_13 ?_
  refine lv_iconst (v := 1) hx hb dX5_countWaysOn_16 (by decide) ?_
  refine va_iast hx hb hK.1 hP hD hS 2 1 rfl rfl (i := v5_all) (ix (by omega) (by omega)) dX5_countWaysOn_17 (fun H locs hP hD hS => ?_)
  obtain ⟨g2, e3⟩ : ∃ y : Nat → Int32, y = upd g1 v5_all.toNatClampNeg 1 := ⟨_, rfl⟩
  rw [← e3] at hP hD
  obtain ⟨hP, hD⟩ : PD D A [O5 a5 r5 v5_all, (cI κ (r5 1) 256 f5_mayFollow), (cI κ (r5 3) 256 g2)] H := ⟨hP, hD⟩
  refine lv_aload_n hx hb dX5_countWaysOn_18 rfl (lv_at hl 0 rfl) ?_
  refine va_get (D := D) (ci := 5) (v := .int v5_all) (C := RX5) (T := TX5) (N := 4) hx hb hts w1 hown hK.1 hP 0 rfl rfl 0 (by decide) w2 (fun _ h9 => h9) rfl dX5_countWaysOn_19 ?_
  refine lv_istore_n (lv' := [(1, .int v5_all), (0, .ref a5)]) hx hb dX5_countWaysOn_22 rfl hl (by decide) rfl (fun ls hl => ?_)
  have lp23 : ∀ (n23 : Nat) (k4 : Int32) (g5 : Nat → Int32), (-1 ≤ k4.toInt ∧ k4.toInt ≤ 255) → (k4.toInt + 1).toNat < n23 → ∀ (H : Heap) (locs : List Loc), va_P D vwCl [O5 a5 r5 v5_all, (cI κ (r5 1) 256 f5_mayFollow), (cI κ (r5 3) 256 g5)] H → va_D A [O5 a5 r5 v5_all, (cI κ (r5 1) 256 f5_mayFollow), (cI κ (r5 3) 256 g5)] → va_S A s.heap H locs → ∀ ls : Array Slot, lv_has ls 3 [(1, .int k4), (0, .ref a5)] → W p l e ({ frames := 1, cells := 0, slots := 0, locals := 23 } : Room) s m args below meth c H locs 0 0 Q (F0 m 23 ls []) := by
    intro n23
    induction n23 with
    | zero =>
      intro k4 g5 h6 m7
      exact absurd m7 (Nat.not_lt_zero _)
    | succ n23 ih23 =>
      intro k4 g5 h6 m7 H locs hP hD hS ls hl
      refine lv_iload_n hx hb dX5_countWaysOn_23 rfl (lv_at hl 0 rfl) ?_
      refine lv_if_lt (tgt := 79) hx hb dX5_countWaysOn_24 (by decide) (fun c8 => ?_) (fun c8 => ?_)
      · have c8 := ci_lt c8
        exact ret _ _ _ _ g5 dX5_countWaysOn_79 trivial hP hD hS
      have c8 := ci_nlt c8
      refine lv_iconst (v := 0) hx hb dX5_countWaysOn_27 (by decide) ?_
      refine lv_istore_n (lv' := [(2, .int 0), (1, .int k4), (0, .ref a5)]) hx hb dX5_countWaysOn_28 rfl hl (by decide) rfl (fun ls hl => ?_)
      have lp29 : ∀ (n29 : Nat) (k9 : Int32) (g10 : Nat → Int32), (0 ≤ k9.toInt) → (8 - k9.toInt).toNat < n29 → ∀ (H : Heap) (locs : List Loc), va_P D vwCl [O5 a5 r5 v5_all, (cI κ (r5 1) 256 f5_mayFollow), (cI κ (r5 3) 256 g10)] H → va_D A [O5 a5 r5 v5_all, (cI κ (r5 1) 256 f5_mayFollow), (cI κ (r5 3) 256 g10)] → va_S A s.heap H locs → ∀ ls : Array Slot, lv_has ls 3 [(2, .int k9), (1, .int k4), (0, .ref a5)] → W p l e ({ frames := 1, cells := 0, slots := 0, locals := 23 } : Room) s m args below meth c H locs 0 0 Q (F0 m 29 ls []) := by
        intro n29
        induction n29 with
        | zero =>
          intro k9 g10 h11 m12
          exact absurd m12 (Nat.not_lt_zero _)
        | succ n29 ih29 =>
          intro k9 g10 h11 m12 H locs hP hD hS ls hl
          refine lv_iload_n hx hb dX5_countWaysOn_29 rfl (lv_at hl 0 rfl) ?_
          refine lv_bipush (v := 8) hx hb dX5_countWaysOn_30 (by decide) ?_
          refine lv_icmp_ge (tgt := 73) hx hb dX5_countWaysOn_32 (by decide) (fun c13 => ?_) (fun c13 => ?_)
          · have c13 := ci_le c13
            obtain ⟨x14, e15⟩ : ∃ y : Int32, y = k4 + (-1) := ⟨_, rfl⟩
            refine lv_iinc (v := x14) (lv' := [(1, .int x14), (2, .int k9), (0, .ref a5)]) hx hb dX5_countWaysOn_73 hl (k := 1) rfl (by rw [e15]; rfl) (by decide) rfl (fun ls hl => ?_)
            try have h16 : x14.toInt = k4.toInt + ((-1) : Int32).toInt := ci_add e15 (by omega) (by omega)
            refine lv_goto (tgt := 23) hx hb dX5_countWaysOn_76 (by decide) ?_
            exact ih23 x14 g10 (by omega) (by omega) _ _ hP hD hS _ (lv_sub hl [0, 2] rfl)
          have c13 := ci_nle c13
          refine lv_aload_n hx hb dX5_countWaysOn_35 rfl (lv_at hl 2 rfl) ?_
          refine va_get (D := D) (ci := 5) (v := .ref (r5 1)) (C := RX5) (T := TX5) (N := 4) hx hb hts w1 hown hK.1 hP 0 rfl rfl 1 (by decide) w3 (fun _ h9 => h9) rfl dX5_countWaysOn_36 ?_
          refine lv_iload_n hx hb dX5_countWaysOn_39 rfl (lv_at hl 1 rfl) ?_
          refine va_iald hx hb hK.1 hP 1 1 rfl rfl (i := k4) (ix (by omega) (by omega)) dX5_countWaysOn_40 ?_
          refine lv_topi (fun x17 e18 => ?_)
          refine lv_iload_n hx hb dX5_countWaysOn_41 rfl (lv_at hl 0 rfl) ?_
          refine kcm_i hA hAB hP hD hS [false, false, false] rfl (fun _ => rfl) (fun hPc hDc => va_runSN (As := [.int x17, .int k9]) (rest := []) ⟨hx, hb, hml, hown, hts⟩ (k_X11_hasBit l D κ β H.size x17 k9) ⟨va_cnB 2 hts gX5_countWaysOn_X11_hasBit_n41 rfl rfl rfl w6 w4 (by decide +kernel) ⟨Nat.le_of_ble_eq_true rfl, Nat.le_of_ble_eq_true rfl⟩, w5, trivial⟩ (pk_S hK hS hAB hPc hDc) rfl rfl hl.1 rfl (lv_room (Nat.le_of_ble_eq_true rfl)) dX5_countWaysOn_42 ⟨Nat.le_of_ble_eq_true rfl, Nat.le_of_ble_eq_true rfl⟩) (fun x19 u20 H locs hw hPD hS => ?_)
          have h21 : x19.toInt = 0 ∨ x19.toInt = 1 := hw
          obtain ⟨hP, hD⟩ : PD D A [O5 a5 r5 v5_all, (cI κ (r5 1) 256 f5_mayFollow), (cI κ (r5 3) 256 g10)] H := hPD
          refine lv_if_eq (tgt := 67) hx hb dX5_countWaysOn_45 (by decide) (fun c22 => ?_) (fun c22 => ?_)
          · have c22 := ci_eq c22
            obtain ⟨x23, e24⟩ : ∃ y : Int32, y = k9 + 1 := ⟨_, rfl⟩
            refine lv_iinc (v := x23) (lv' := [(2, .int x23), (1, .int k4), (0, .ref a5)]) hx hb dX5_countWaysOn_67 hl (k := 0) rfl (by rw [e24]; rfl) (by decide) rfl (fun ls hl => ?_)
            try have h25 : x23.toInt = k9.toInt + (1 : Int32).toInt := ci_add e24 (by omega) (by omega)
            refine lv_goto (tgt := 29) hx hb dX5_countWaysOn_70 (by decide) ?_
            exact ih29 x23 g10 (by omega) (by omega) _ _ hP hD hS _ hl
          have c22 := ci_ne c22
          refine lv_aload_n hx hb dX5_countWaysOn_48 rfl (lv_at hl 2 rfl) ?_
          refine va_get (D := D) (ci := 5) (v := .ref (r5 3)) (C := RX5) (T := TX5) (N := 4) hx hb hts w1 hown hK.1 hP 0 rfl rfl 3 (by decide) w0 (fun _ h9 => h9) rfl dX5_countWaysOn_49 ?_
          refine lv_iload_n hx hb dX5_countWaysOn_52 rfl (lv_at hl 1 rfl) ?_
          refine lv_dup2_11 hx hb dX5_countWaysOn_53 rfl rfl ?_
          refine va_iald hx hb hK.1 hP 2 1 rfl rfl (i := k4) (ix (by omega) (by omega)) dX5_countWaysOn_54 ?_
          refine lv_topi (fun x26 e27 => ?_)
          refine lv_aload_n hx hb dX5_countWaysOn_55 rfl (lv_at hl 2 rfl) ?_
          refine va_get (D := D) (ci := 5) (v := .ref (r5 3)) (C := RX5) (T := TX5) (N := 4) hx hb hts w1 hown hK.1 hP 0 rfl rfl 3 (by decide) w0 (fun _ h9 => h9) rfl dX5_countWaysOn_56 ?_
          refine lv_iload_n hx hb dX5_countWaysOn_59 rfl (lv_at hl 1 rfl) ?_
          refine lv_iconst (v := 1) hx hb dX5_countWaysOn_60 (by decide) ?_
          refine lv_iload_n hx hb dX5_countWaysOn_61 rfl (lv_at hl 0 rfl) ?_
          refine lv_ishl hx hb dX5_countWaysOn_62 ?_
          refine lv_topi (fun x28 e29 => ?_)
          try have h30 := shl_rng7 e29 (by omega) (by omega)
          refine lv_ior hx hb dX5_countWaysOn_63 ?_
          refine lv_topi (fun x31 e32 => ?_)
          try have h33 := or_rng e32 (by omega) (by omega) (by omega) (by omega)
          refine va_iald hx hb hK.1 hP 2 1 rfl rfl (i := x31) (ix (by omega) (by omega)) dX5_countWaysOn_64 ?_
          refine lv_topi (fun x34 e35 => ?_)
          refine lv_iadd hx hb dX5_countWaysOn_65 ?_
          refine lv_topi (fun x36 e37 => ?_)
          try have h38 : x36.toInt = x26.toInt + x34.toInt := ci_add e37 (by omega) (by omega)
          refine va_iast hx hb hK.1 hP hD hS 2 1 rfl rfl (i := k4) (ix (by omega) (by omega)) dX5_countWaysOn_66 (fun H locs hP hD hS => ?_)
          obtain ⟨g39, e40⟩ : ∃ y : Nat → Int32, y = upd g10 k4.toNatClampNeg x36 := ⟨_, rfl⟩
          rw [← e40] at hP hD
          obtain ⟨hP, hD⟩ : PD D A [O5 a5 r5 v5_all, (cI κ (r5 1) 256 f5_mayFollow), (cI κ (r5 3) 256 g39)] H := ⟨hP, hD⟩
          obtain ⟨x41, e42⟩ : ∃ y : Int32, y = k9 + 1 := ⟨_, rfl⟩
          refine lv_iinc (v := x41) (lv' := [(2, .int x41), (1, .int k4), (0, .ref a5)]) hx hb dX5_countWaysOn_67 hl (k := 0) rfl (by rw [e42]; rfl) (by decide) rfl (fun ls hl => ?_)
          try have h43 : x41.toInt = k9.toInt + (1 : Int32).toInt := ci_add e42 (by omega) (by omega)
          refine lv_goto (tgt := 29) hx hb dX5_countWaysOn_70 (by decide) ?_
          exact ih29 x41 g39 (by omega) (by omega) _ _ hP hD hS _ hl
      exact lp29 ((8 - (0 : Int32).toInt).toNat + 1) 0 g5 (by omega) (by omega) _ _ hP hD hS _ hl
  exact lp23 ((v5_all.toInt + 1).toNat + 1) v5_all g2 (by omega) (by omega) _ _ hP hD hS _ hl
set_option maxHeartbeats 4000000 in
set_option maxRecDepth 100000 in
theorem k_X5_lay (l : Launch) (D : va_G) (κ : Nat → ClassId) (β : Nat) (a5 : Nat) (r5 : Nat → Nat) (v5_all : Int32) (f5_mayFollow : Nat → Int32) (f5_waysTo : Nat → Int32) (f5_waysOn : Nat → Int32) (fq2 : Nat → Int32) (sz : Nat) (p1 : Int32) (q2 : Nat) (p3 : Int32) (i1 : Rg 0 255 v5_all) (i2 : 0 ≤ p1.toInt ∧ p1.toInt ≤ 255) (i3 : p3.toInt ≤ 40) : Met l yX5_lay wsX5_lay ({ frames := 2, cells := 0, slots := 0, locals := 45 } : Room) (PcK D κ β [O5 a5 r5 v5_all, (cI κ (r5 1) 256 f5_mayFollow), (cI κ (r5 2) 256 f5_waysTo), (cI κ (r5 3) 256 f5_waysOn), (cI κ q2 40 fq2)] sz [.ref a5, .int p1, .ref q2, .int p3]) (QvK D (fun (u : Int32 × (Nat → Int32) × (Nat → Int32) × (Nat → Int32)) => 0 ≤ u.1.toInt ∧ u.1.toInt ≤ 255) (fun (u : Int32 × (Nat → Int32) × (Nat → Int32) × (Nat → Int32)) => [O5 a5 r5 u.1, (cI κ (r5 1) 256 u.2.1), (cI κ (r5 2) 256 u.2.2.1), (cI κ (r5 3) 256 u.2.2.2), (cI κ q2 40 fq2)]) [O5 a5 r5 v5_all, (cI κ (r5 1) 256 f5_mayFollow), (cI κ (r5 2) 256 f5_waysTo), (cI κ (r5 3) 256 f5_waysOn), (cI κ q2 40 fq2)] sz) 0 0 (va_A [O5 a5 r5 v5_all, (cI κ (r5 1) 256 f5_mayFollow), (cI κ (r5 2) 256 f5_waysTo), (cI κ (r5 3) 256 f5_waysOn), (cI κ q2 40 fq2)] sz) := by
  refine ofK_v (cc := cX5_lay) (maxL := 5) (own := RX5) (by decide) rfl rfl (Nat.le_of_ble_eq_true rfl) ?_
  intro p e s m args below meth c Q A ls hsz hx hb hml hts hown hK hA hAB hP hD hl hname ret
  have hS : va_S A s.heap s.heap [] := va_S.rf
  have hl : lv_has ls 5 [(0, .ref a5), (1, .int p1), (2, .ref q2), (3, .int p3)] := hl
  have w0 := hts (.fieldLink RX5 21 "OlderSkin$Orders" "all" "I") (List.mem_of_getElem? (i := 1) rfl)
  have w1 := (fun w h => List.mem_cons_of_mem _ (List.mem_append_right _ h) : ∀ w ∈ u_ws RX5 TX5 4, w ∈ wsX5_lay)
  have w2 := hts (.fieldLink RX5 9 "OlderSkin$Orders" "mayFollow" "[I") (List.mem_of_getElem? (i := 2) rfl)
  have l0 : (0 : Int32).toInt = 0 := by decide
  have l1 : (1 : Int32).toInt = 1 := by decide
  have i1 : 0 ≤ v5_all.toInt ∧ v5_all.toInt ≤ 255 := i1
  refine lv_aload_n hx hb dX5_lay_0 rfl (lv_at hl 0 rfl) ?_
  refine lv_iload_n hx hb dX5_lay_1 rfl (lv_at hl 1 rfl) ?_
  refine va_put (D := D) (ci := 5) (v := .int p1) (ty := .int) (C := RX5) (T := TX5) (N := 4) hx hb hts w1 tyX5 tyX5_ok nmX5 hown hK.1 hP hD hS 0 rfl rfl 0 (by decide) w0 (fun _ h9 => h9) rfl (by decide +kernel) rfl rfl (Nat.le_of_ble_eq_true rfl) dX5_lay_2 (fun H locs hP hD hS => ?_)
  obtain ⟨hP, hD⟩ : PD D A [O5 a5 r5 p1, (cI κ (r5 1) 256 f5_mayFollow), (cI κ (r5 2) 256 f5_waysTo), (cI κ (r5 3) 256 f5_waysOn), (cI κ q2 40 fq2)] H := ⟨hP, hD⟩
  have h1 : 0 ≤ p1.toInt ∧ p1.toInt ≤ 255 := by omega
  refine lv_iconst (v := 0) hx hb dX5_lay_5 (by decide) ?_
  refine lv_istore (lv' := [(4, .int 0), (0, .ref a5), (1, .int p1), (2, .ref q2), (3, .int p3)]) hx hb dX5_lay_6 hl (by decide) rfl (fun ls hl => ?_)
  have lp8 : ∀ (n8 : Nat) (k2 : Int32) (g3 : Nat → Int32), (0 ≤ k2.toInt) → (p1.toInt + 1 - k2.toInt).toNat < n8 → ∀ (H : Heap) (locs : List Loc), va_P D vwCl [O5 a5 r5 p1, (cI κ (r5 1) 256 g3), (cI κ (r5 2) 256 f5_waysTo), (cI κ (r5 3) 256 f5_waysOn), (cI κ q2 40 fq2)] H → va_D A [O5 a5 r5 p1, (cI κ (r5 1) 256 g3), (cI κ (r5 2) 256 f5_waysTo), (cI κ (r5 3) 256 f5_waysOn), (cI κ q2 40 fq2)] → va_S A s.heap H locs → ∀ ls : Array Slot, lv_has ls 5 [(4, .int k2), (0, .ref a5), (1, .int p1), (2, .ref q2), (3, .int p3)] → W p l e ({ frames := 2, cells := 0, slots := 0, locals := 45 } : Room) s m args below meth c H locs 0 0 Q (F0 m 8 ls []) := by
    intro n8
    induction n8 with
    | zero =>
      intro k2 g3 h4 m5
      exact absurd m5 (Nat.not_lt_zero _)
    | succ n8 ih8 =>
      intro k2 g3 h4 m5 H locs hP hD hS ls hl
      refine lv_iload hx hb dX5_lay_8 (lv_at hl 0 rfl) ?_
      refine lv_aload_n hx hb dX5_lay_10 rfl (lv_at hl 1 rfl) ?_
      refine va_get (D := D) (ci := 5) (v := .int p1) (C := RX5) (T := TX5) (N := 4) hx hb hts w1 hown hK.1 hP 0 rfl rfl 0 (by decide) w0 (fun _ h9 => h9) rfl dX5_lay_11 ?_
      refine lv_icmp_gt (tgt := 38) hx hb dX5_lay_14 (by decide) (fun c6 => ?_) (fun c6 => ?_)
      · have c6 := ci_lt c6
        refine lv_aload_n hx hb dX5_lay_38 rfl (lv_at hl 1 rfl) ?_
        refine kcm_v hA hAB hP hD hS [true, true, true, false, false] rfl (fun _ => rfl) (fun hPc hDc => va_runV (As := []) (rest := []) ⟨hx, hb, hml, hown, hts⟩ (k_X5_countWaysTo l D κ β a5 r5 p1 g3 f5_waysTo H.size h1) (cwV 0 hts gX5_lay_X5_countWaysTo rfl rfl rfl (by decide +kernel) ⟨Nat.le_of_ble_eq_true rfl, Nat.le_of_ble_eq_true rfl⟩) (pk_V hK hS hAB hPc hDc 0 (ci := 5) rfl rfl rfl) rfl rfl hl.1 rfl (lv_room (Nat.le_of_ble_eq_true rfl)) dX5_lay_39 ⟨Nat.le_of_ble_eq_true rfl, Nat.le_of_ble_eq_true rfl⟩) (fun g7 H locs hw hPD hS => ?_)
        obtain ⟨hP, hD⟩ : PD D A [O5 a5 r5 p1, (cI κ (r5 1) 256 g3), (cI κ (r5 2) 256 g7), (cI κ (r5 3) 256 f5_waysOn), (cI κ q2 40 fq2)] H := hPD
        refine lv_aload_n hx hb dX5_lay_42 rfl (lv_at hl 1 rfl) ?_
        refine kcm_v hA hAB hP hD hS [true, true, false, true, false] rfl (fun _ => rfl) (fun hPc hDc => va_runV (As := []) (rest := []) ⟨hx, hb, hml, hown, hts⟩ (k_X5_countWaysOn l D κ β a5 r5 p1 g3 f5_waysOn H.size h1) (cwV 0 hts gX5_lay_X5_countWaysOn rfl rfl rfl (by decide +kernel) ⟨Nat.le_of_ble_eq_true rfl, Nat.le_of_ble_eq_true rfl⟩) (pk_V hK hS hAB hPc hDc 0 (ci := 5) rfl rfl rfl) rfl rfl hl.1 rfl (lv_room (Nat.le_of_ble_eq_true rfl)) dX5_lay_43 ⟨Nat.le_of_ble_eq_true rfl, Nat.le_of_ble_eq_true rfl⟩) (fun g8 H locs hw hPD hS => ?_)
        obtain ⟨hP, hD⟩ : PD D A [O5 a5 r5 p1, (cI κ (r5 1) 256 g3), (cI κ (r5 2) 256 g7), (cI κ (r5 3) 256 g8), (cI κ q2 40 fq2)] H := hPD
        have hpo : 0 ≤ p1.toInt ∧ p1.toInt ≤ 255 := h1
        exact ret _ _ _ _ (p1, g3, g7, g8) dX5_lay_46 hpo hP hD hS
      have c6 := ci_nlt c6
      refine lv_aload_n hx hb dX5_lay_17 rfl (lv_at hl 1 rfl) ?_
      refine va_get (D := D) (ci := 5) (v := .ref (r5 1)) (C := RX5) (T := TX5) (N := 4) hx hb hts w1 hown hK.1 hP 0 rfl rfl 1 (by decide) w2 (fun _ h9 => h9) rfl dX5_lay_18 ?_
      refine lv_iload hx hb dX5_lay_21 (lv_at hl 0 rfl) ?_
      refine lv_aload_n hx hb dX5_lay_23 rfl (lv_at hl 1 rfl) ?_
      refine lv_iload hx hb dX5_lay_24 (lv_at hl 0 rfl) ?_
      refine lv_aload_n hx hb dX5_lay_26 rfl (lv_at hl 3 rfl) ?_
      refine lv_iload_n hx hb dX5_lay_27 rfl (lv_at hl 4 rfl) ?_
      refine kcm_i hA hAB hP hD hS [true, false, false, false, true] rfl (fun _ => rfl) (fun hPc hDc => va_runV (As := [.int k2, .ref q2, .int p3]) (rest := [.int k2, .ref (r5 1)]) ⟨hx, hb, hml, hown, hts⟩ (k_X5_thoseThatMayFollow l D κ β a5 r5 p1 fq2 H.size k2 q2 p3 h1 (by omega)) (cwV 3 hts gX5_lay_X5_thoseThatMayFollow rfl rfl rfl (by decide +kernel) ⟨Nat.le_of_ble_eq_true rfl, Nat.le_of_ble_eq_true rfl⟩) (pk_V hK hS hAB hPc hDc 0 (ci := 5) rfl rfl rfl) rfl rfl hl.1 rfl (lv_room (Nat.le_of_ble_eq_true rfl)) dX5_lay_28 ⟨Nat.le_of_ble_eq_true rfl, Nat.le_of_ble_eq_true rfl⟩) (fun x9 u10 H locs hw hPD hS => ?_)
      obtain ⟨hP, hD⟩ : PD D A [O5 a5 r5 p1, (cI κ (r5 1) 256 g3), (cI κ (r5 2) 256 f5_waysTo), (cI κ (r5 3) 256 f5_waysOn), (cI κ q2 40 fq2)] H := hPD
      refine va_iast hx hb hK.1 hP hD hS 1 1 rfl rfl (i := k2) (ix (by omega) (by omega)) dX5_lay_31 (fun H locs hP hD hS => ?_)
      obtain ⟨g11, e12⟩ : ∃ y : Nat → Int32, y = upd g3 k2.toNatClampNeg x9 := ⟨_, rfl⟩
      rw [← e12] at hP hD
      obtain ⟨hP, hD⟩ : PD D A [O5 a5 r5 p1, (cI κ (r5 1) 256 g11), (cI κ (r5 2) 256 f5_waysTo), (cI κ (r5 3) 256 f5_waysOn), (cI κ q2 40 fq2)] H := ⟨hP, hD⟩
      obtain ⟨x13, e14⟩ : ∃ y : Int32, y = k2 + 1 := ⟨_, rfl⟩
      refine lv_iinc (v := x13) (lv' := [(4, .int x13), (0, .ref a5), (1, .int p1), (2, .ref q2), (3, .int p3)]) hx hb dX5_lay_32 hl (k := 0) rfl (by rw [e14]; rfl) (by decide) rfl (fun ls hl => ?_)
      try have h15 : x13.toInt = k2.toInt + (1 : Int32).toInt := ci_add e14 (by omega) (by omega)
      refine lv_goto (tgt := 8) hx hb dX5_lay_35 (by decide) ?_
      exact ih8 x13 g11 (by omega) (by omega) _ _ hP hD hS _ hl
  exact lp8 ((p1.toInt + 1 - (0 : Int32).toInt).toNat + 1) 0 f5_mayFollow (by omega) (by omega) _ _ hP hD hS _ hl
set_option maxHeartbeats 4000000 in
set_option maxRecDepth 100000 in
theorem k_X5_howMany (l : Launch) (D : va_G) (κ : Nat → ClassId) (β : Nat) (a5 : Nat) (r5 : Nat → Nat) (v5_all : Int32) (f5_waysOn : Nat → Int32) (sz : Nat) (i1 : Rg 0 255 v5_all) : Met l yX5_howMany wsX5_howMany ({ frames := 0, cells := 0, slots := 0, locals := 0 } : Room) (PcK D κ β [O5 a5 r5 v5_all, (cI κ (r5 3) 256 f5_waysOn)] sz [.ref a5]) (QiK D (fun (r : Int32) (u : Unit) => True) (fun (u : Unit) => [O5 a5 r5 v5_all, (cI κ (r5 3) 256 f5_waysOn)]) [O5 a5 r5 v5_all, (cI κ (r5 3) 256 f5_waysOn)] sz) 0 0 (va_A [O5 a5 r5 v5_all, (cI κ (r5 3) 256 f5_waysOn)] sz) := by
  refine ofK_i (cc := cX5_howMany) (maxL := 1) (own := RX5) (by decide) rfl rfl (Nat.le_of_ble_eq_true rfl) ?_
  intro p e s m args below meth c Q A ls hsz hx hb hml hts hown hK hA hAB hP hD hl ret
  have hS : va_S A s.heap s.heap [] := va_S.rf
  have hl : lv_has ls 1 [(0, .ref a5)] := hl
  have w0 := hts (.fieldLink RX5 18 "OlderSkin$Orders" "waysOn" "[I") (List.mem_of_getElem? (i := 1) rfl)
  have w1 := (fun w h => List.mem_cons_of_mem _ (List.mem_append_right _ h) : ∀ w ∈ u_ws RX5 TX5 4, w ∈ wsX5_howMany)
  have l0 : (0 : Int32).toInt = 0 := by decide
  refine lv_aload_n hx hb dX5_howMany_0 rfl (lv_at hl 0 rfl) ?_
  refine va_get (D := D) (ci := 5) (v := .ref (r5 3)) (C := RX5) (T := TX5) (N := 4) hx hb hts w1 hown hK.1 hP 0 rfl rfl 3 (by decide) w0 (fun _ h9 => h9) rfl dX5_howMany_1 ?_
  refine lv_iconst (v := 0) hx hb dX5_howMany_4 (by decide) ?_
  refine va_iald hx hb hK.1 hP 1 1 rfl rfl (i := 0) (ix (by omega) (by omega)) dX5_howMany_5 ?_
  refine lv_topi (fun x1 e2 => ?_)
  exact ret _ _ _ _ x1 () dX5_howMany_6 trivial hP hD hS
set_option maxHeartbeats 4000000 in
set_option maxRecDepth 100000 in
theorem k_X5_leastThatGoesOn (l : Launch) (D : va_G) (κ : Nat → ClassId) (β : Nat) (a5 : Nat) (r5 : Nat → Nat) (v5_all : Int32) (f5_mayFollow : Nat → Int32) (f5_waysOn : Nat → Int32) (sz : Nat) (p1 : Int32) (i1 : Rg 0 255 v5_all) (i2 : 0 ≤ p1.toInt ∧ p1.toInt ≤ 255) : Met l yX5_leastThatGoesOn wsX5_leastThatGoesOn ({ frames := 1, cells := 0, slots := 0, locals := 21 } : Room) (PcK D κ β [O5 a5 r5 v5_all, (cI κ (r5 1) 256 f5_mayFollow), (cI κ (r5 3) 256 f5_waysOn)] sz [.ref a5, .int p1]) (QiK D (fun (r : Int32) (u : Unit) => 0 ≤ r.toInt ∧ r.toInt ≤ 7) (fun (u : Unit) => [O5 a5 r5 v5_all, (cI κ (r5 1) 256 f5_mayFollow), (cI κ (r5 3) 256 f5_waysOn)]) [O5 a5 r5 v5_all, (cI κ (r5 1) 256 f5_mayFollow), (cI κ (r5 3) 256 f5_waysOn)] sz) 0 0 (va_A [O5 a5 r5 v5_all, (cI κ (r5 1) 256 f5_mayFollow), (cI κ (r5 3) 256 f5_waysOn)] sz) := by
  refine ofK_i (cc := cX5_leastThatGoesOn) (maxL := 3) (own := RX5) (by decide) rfl rfl (Nat.le_of_ble_eq_true rfl) ?_
  intro p e s m args below meth c Q A ls hsz hx hb hml hts hown hK hA hAB hP hD hl ret
  have hS : va_S A s.heap s.heap [] := va_S.rf
  have hl : lv_has ls 3 [(0, .ref a5), (1, .int p1)] := hl
  have w0 := hts (.fieldLink RX5 9 "OlderSkin$Orders" "mayFollow" "[I") (List.mem_of_getElem? (i := 1) rfl)
  have w1 := (fun w h => List.mem_cons_of_mem _ (List.mem_append_right _ h) : ∀ w ∈ u_ws RX5 TX5 4, w ∈ wsX5_leastThatGoesOn)
  have w2 := hts (.initialized RX11) (List.mem_of_getElem? (i := 4) rfl)
  have w3 := hts (.static yX11_hasBit) (List.mem_of_getElem? (i := 3) rfl)
  have w4 := hK.2.1 ("OlderSkin$Orders", 41, ⟨"OlderSkin", "hasBit", "(II)Z"⟩, "OlderSkin") (by decide +kernel)
  have w5 := hts (.fieldLink RX5 18 "OlderSkin$Orders" "waysOn" "[I") (List.mem_of_getElem? (i := 2) rfl)
  have l0 : (0 : Int32).toInt = 0 := by decide
  have l1 : (7 : Int32).toInt = 7 := by decide
  have l2 : (1 : Int32).toInt = 1 := by decide
  refine lv_iconst (v := 0) hx hb dX5_leastThatGoesOn_0 (by decide) ?_
  refine lv_istore_n (lv' := [(2, .int 0), (0, .ref a5), (1, .int p1)]) hx hb dX5_leastThatGoesOn_1 rfl hl (by decide) rfl (fun ls hl => ?_)
  have lp2 : ∀ (n2 : Nat) (k1 : Int32), (k1.toInt ≤ 7) → (0 ≤ k1.toInt) → (7 - k1.toInt).toNat < n2 → ∀ (H : Heap) (locs : List Loc), va_P D vwCl [O5 a5 r5 v5_all, (cI κ (r5 1) 256 f5_mayFollow), (cI κ (r5 3) 256 f5_waysOn)] H → va_D A [O5 a5 r5 v5_all, (cI κ (r5 1) 256 f5_mayFollow), (cI κ (r5 3) 256 f5_waysOn)] → va_S A s.heap H locs → ∀ ls : Array Slot, lv_has ls 3 [(2, .int k1), (0, .ref a5), (1, .int p1)] → W p l e ({ frames := 1, cells := 0, slots := 0, locals := 21 } : Room) s m args below meth c H locs 0 0 Q (F0 m 2 ls []) := by
    intro n2
    induction n2 with
    | zero =>
      intro k1 h2 h3 m4
      exact absurd m4 (Nat.not_lt_zero _)
    | succ n2 ih2 =>
      intro k1 h2 h3 m4 H locs hP hD hS ls hl
      refine lv_iload_n hx hb dX5_leastThatGoesOn_2 rfl (lv_at hl 0 rfl) ?_
      refine lv_bipush (v := 7) hx hb dX5_leastThatGoesOn_3 (by decide) ?_
      refine lv_icmp_ge (tgt := 40) hx hb dX5_leastThatGoesOn_5 (by decide) (fun c5 => ?_) (fun c5 => ?_)
      · have c5 := ci_le c5
        refine lv_iload_n hx hb dX5_leastThatGoesOn_40 rfl (lv_at hl 0 rfl) ?_
        have hpo : 0 ≤ k1.toInt ∧ k1.toInt ≤ 7 := (by omega)
        exact ret _ _ _ _ k1 () dX5_leastThatGoesOn_41 hpo hP hD hS
      have c5 := ci_nle c5
      refine lv_aload_n hx hb dX5_leastThatGoesOn_8 rfl (lv_at hl 1 rfl) ?_
      refine va_get (D := D) (ci := 5) (v := .ref (r5 1)) (C := RX5) (T := TX5) (N := 4) hx hb hts w1 hown hK.1 hP 0 rfl rfl 1 (by decide) w0 (fun _ h9 => h9) rfl dX5_leastThatGoesOn_9 ?_
      refine lv_iload_n hx hb dX5_leastThatGoesOn_12 rfl (lv_at hl 2 rfl) ?_
      refine va_iald hx hb hK.1 hP 1 1 rfl rfl (i := p1) (ix (by omega) (by omega)) dX5_leastThatGoesOn_13 ?_
      refine lv_topi (fun x6 e7 => ?_)
      refine lv_iload_n hx hb dX5_leastThatGoesOn_14 rfl (lv_at hl 0 rfl) ?_
      refine kcm_i hA hAB hP hD hS [false, false, false] rfl (fun _ => rfl) (fun hPc hDc => va_runSN (As := [.int x6, .int k1]) (rest := []) ⟨hx, hb, hml, hown, hts⟩ (k_X11_hasBit l D κ β H.size x6 k1) ⟨va_cnB 2 hts gX5_leastThatGoesOn_X11_hasBit_n41 rfl rfl rfl w4 w2 (by decide +kernel) ⟨Nat.le_of_ble_eq_true rfl, Nat.le_of_ble_eq_true rfl⟩, w3, trivial⟩ (pk_S hK hS hAB hPc hDc) rfl rfl hl.1 rfl (lv_room (Nat.le_of_ble_eq_true rfl)) dX5_leastThatGoesOn_15 ⟨Nat.le_of_ble_eq_true rfl, Nat.le_of_ble_eq_true rfl⟩) (fun x8 u9 H locs hw hPD hS => ?_)
      have h10 : x8.toInt = 0 ∨ x8.toInt = 1 := hw
      obtain ⟨hP, hD⟩ : PD D A [O5 a5 r5 v5_all, (cI κ (r5 1) 256 f5_mayFollow), (cI κ (r5 3) 256 f5_waysOn)] H := hPD
      refine lv_if_eq (tgt := 34) hx hb dX5_leastThatGoesOn_18 (by decide) (fun c11 => ?_) (fun c11 => ?_)
      · have c11 := ci_eq c11
        obtain ⟨x12, e13⟩ : ∃ y : Int32, y = k1 + 1 := ⟨_, rfl⟩
        refine lv_iinc (v := x12) (lv' := [(2, .int x12), (0, .ref a5), (1, .int p1)]) hx hb dX5_leastThatGoesOn_34 hl (k := 0) rfl (by rw [e13]; rfl) (by decide) rfl (fun ls hl => ?_)
        try have h14 : x12.toInt = k1.toInt + (1 : Int32).toInt := ci_add e13 (by omega) (by omega)
        refine lv_goto (tgt := 2) hx hb dX5_leastThatGoesOn_37 (by decide) ?_
        exact ih2 x12 (by omega) (by omega) (by omega) _ _ hP hD hS _ hl
      have c11 := ci_ne c11
      refine lv_aload_n hx hb dX5_leastThatGoesOn_21 rfl (lv_at hl 1 rfl) ?_
      refine va_get (D := D) (ci := 5) (v := .ref (r5 3)) (C := RX5) (T := TX5) (N := 4) hx hb hts w1 hown hK.1 hP 0 rfl rfl 3 (by decide) w5 (fun _ h9 => h9) rfl dX5_leastThatGoesOn_22 ?_
      refine lv_iload_n hx hb dX5_leastThatGoesOn_25 rfl (lv_at hl 2 rfl) ?_
      refine lv_iconst (v := 1) hx hb dX5_leastThatGoesOn_26 (by decide) ?_
      refine lv_iload_n hx hb dX5_leastThatGoesOn_27 rfl (lv_at hl 0 rfl) ?_
      refine lv_ishl hx hb dX5_leastThatGoesOn_28 ?_
      refine lv_topi (fun x15 e16 => ?_)
      try have h17 := shl_rng7 e16 (by omega) (by omega)
      refine lv_ior hx hb dX5_leastThatGoesOn_29 ?_
      refine lv_topi (fun x18 e19 => ?_)
      try have h20 := or_rng e19 (by omega) (by omega) (by omega) (by omega)
      refine va_iald hx hb hK.1 hP 2 1 rfl rfl (i := x18) (ix (by omega) (by omega)) dX5_leastThatGoesOn_30 ?_
      refine lv_topi (fun x21 e22 => ?_)
      refine lv_if_gt (tgt := 40) hx hb dX5_leastThatGoesOn_31 (by decide) (fun c23 => ?_) (fun c23 => ?_)
      · have c23 := ci_lt c23
        refine lv_iload_n hx hb dX5_leastThatGoesOn_40 rfl (lv_at hl 0 rfl) ?_
        have hpo : 0 ≤ k1.toInt ∧ k1.toInt ≤ 7 := (by omega)
        exact ret _ _ _ _ k1 () dX5_leastThatGoesOn_41 hpo hP hD hS
      have c23 := ci_nlt c23
      obtain ⟨x24, e25⟩ : ∃ y : Int32, y = k1 + 1 := ⟨_, rfl⟩
      refine lv_iinc (v := x24) (lv' := [(2, .int x24), (0, .ref a5), (1, .int p1)]) hx hb dX5_leastThatGoesOn_34 hl (k := 0) rfl (by rw [e25]; rfl) (by decide) rfl (fun ls hl => ?_)
      try have h26 : x24.toInt = k1.toInt + (1 : Int32).toInt := ci_add e25 (by omega) (by omega)
      refine lv_goto (tgt := 2) hx hb dX5_leastThatGoesOn_37 (by decide) ?_
      exact ih2 x24 (by omega) (by omega) (by omega) _ _ hP hD hS _ hl
  exact lp2 ((7 - (0 : Int32).toInt).toNat + 1) 0 (by omega) (by omega) (by omega) _ _ hP hD hS _ hl
set_option maxHeartbeats 4000000 in
set_option maxRecDepth 100000 in
theorem k_X5_firstAsDigits (l : Launch) (D : va_G) (κ : Nat → ClassId) (β : Nat) (a5 : Nat) (r5 : Nat → Nat) (v5_all : Int32) (f5_mayFollow : Nat → Int32) (f5_waysOn : Nat → Int32) (sz : Nat) (i1 : Rg 0 255 v5_all) : Met l yX5_firstAsDigits wsX5_firstAsDigits ({ frames := 2, cells := 0, slots := 0, locals := 43 } : Room) (PcK D κ β [O5 a5 r5 v5_all, (cI κ (r5 1) 256 f5_mayFollow), (cI κ (r5 3) 256 f5_waysOn)] sz [.ref a5]) (QiK D (fun (r : Int32) (u : Unit) => True) (fun (u : Unit) => [O5 a5 r5 v5_all, (cI κ (r5 1) 256 f5_mayFollow), (cI κ (r5 3) 256 f5_waysOn)]) [O5 a5 r5 v5_all, (cI κ (r5 1) 256 f5_mayFollow), (cI κ (r5 3) 256 f5_waysOn)] sz) 0 0 (va_A [O5 a5 r5 v5_all, (cI κ (r5 1) 256 f5_mayFollow), (cI κ (r5 3) 256 f5_waysOn)] sz) := by
  refine ofK_i (cc := cX5_firstAsDigits) (maxL := 5) (own := RX5) (by decide) rfl rfl (Nat.le_of_ble_eq_true rfl) ?_
  intro p e s m args below meth c Q A ls hsz hx hb hml hts hown hK hA hAB hP hD hl ret
  have hS : va_S A s.heap s.heap [] := va_S.rf
  have hl : lv_has ls 5 [(0, .ref a5)] := hl
  have w0 := hts (.fieldLink RX5 18 "OlderSkin$Orders" "waysOn" "[I") (List.mem_of_getElem? (i := 1) rfl)
  have w1 := (fun w h => List.mem_cons_of_mem _ (List.mem_append_right _ h) : ∀ w ∈ u_ws RX5 TX5 4, w ∈ wsX5_firstAsDigits)
  have w2 := hts (.fieldLink RX5 21 "OlderSkin$Orders" "all" "I") (List.mem_of_getElem? (i := 2) rfl)
  have l0 : (0 : Int32).toInt = 0 := by decide
  have l1 : (8 : Int32).toInt = 8 := by decide
  have l2 : (1 : Int32).toInt = 1 := by decide
  have l3 : (10 : Int32).toInt = 10 := by decide
  have l4 : ((-2) : Int32).toInt = -2 := by decide
  have i1 : 0 ≤ v5_all.toInt ∧ v5_all.toInt ≤ 255 := i1
  refine lv_aload_n hx hb dX5_firstAsDigits_0 rfl (lv_at hl 0 rfl) ?_
  refine va_get (D := D) (ci := 5) (v := .ref (r5 3)) (C := RX5) (T := TX5) (N := 4) hx hb hts w1 hown hK.1 hP 0 rfl rfl 3 (by decide) w0 (fun _ h9 => h9) rfl dX5_firstAsDigits_1 ?_
  refine lv_iconst (v := 0) hx hb dX5_firstAsDigits_4 (by decide) ?_
  refine va_iald hx hb hK.1 hP 2 1 rfl rfl (i := 0) (ix (by omega) (by omega)) dX5_firstAsDigits_5 ?_
  refine lv_topi (fun x1 e2 => ?_)
  refine lv_if_ne (tgt := 12) hx hb dX5_firstAsDigits_6 (by decide) (fun c3 => ?_) (fun c3 => ?_)
  · have c3 := ci_ne c3
    refine lv_iconst (v := 0) hx hb dX5_firstAsDigits_12 (by decide) ?_
    refine lv_istore_n (lv' := [(1, .int 0), (0, .ref a5)]) hx hb dX5_firstAsDigits_13 rfl hl (by decide) rfl (fun ls hl => ?_)
    refine lv_iconst (v := 0) hx hb dX5_firstAsDigits_14 (by decide) ?_
    refine lv_istore_n (lv' := [(2, .int 0), (1, .int 0), (0, .ref a5)]) hx hb dX5_firstAsDigits_15 rfl hl (by decide) rfl (fun ls hl => ?_)
    refine lv_iconst (v := 0) hx hb dX5_firstAsDigits_16 (by decide) ?_
    refine lv_istore_n (lv' := [(3, .int 0), (2, .int 0), (1, .int 0), (0, .ref a5)]) hx hb dX5_firstAsDigits_17 rfl hl (by decide) rfl (fun ls hl => ?_)
    have lp18 : ∀ (n18 : Nat) (k4 : Int32) (k5 : Int32) (k6 : Int32), (0 ≤ k6.toInt ∧ k6.toInt ≤ 255) → (0 ≤ k4.toInt) → (8 - k4.toInt).toNat < n18 → ∀ (H : Heap) (locs : List Loc), va_P D vwCl [O5 a5 r5 v5_all, (cI κ (r5 1) 256 f5_mayFollow), (cI κ (r5 3) 256 f5_waysOn)] H → va_D A [O5 a5 r5 v5_all, (cI κ (r5 1) 256 f5_mayFollow), (cI κ (r5 3) 256 f5_waysOn)] → va_S A s.heap H locs → ∀ ls : Array Slot, lv_has ls 5 [(3, .int k4), (2, .int k5), (1, .int k6), (0, .ref a5)] → W p l e ({ frames := 2, cells := 0, slots := 0, locals := 43 } : Room) s m args below meth c H locs 0 0 Q (F0 m 18 ls []) := by
      intro n18
      induction n18 with
      | zero =>
        intro k4 k5 k6 h7 h8 m9
        exact absurd m9 (Nat.not_lt_zero _)
      | succ n18 ih18 =>
        intro k4 k5 k6 h7 h8 m9 H locs hP hD hS ls hl
        refine lv_iload_n hx hb dX5_firstAsDigits_18 rfl (lv_at hl 0 rfl) ?_
        refine lv_bipush (v := 8) hx hb dX5_firstAsDigits_19 (by decide) ?_
        refine lv_icmp_ge (tgt := 62) hx hb dX5_firstAsDigits_21 (by decide) (fun c10 => ?_) (fun c10 => ?_)
        · have c10 := ci_le c10
          refine lv_iload_n hx hb dX5_firstAsDigits_62 rfl (lv_at hl 1 rfl) ?_
          exact ret _ _ _ _ k5 () dX5_firstAsDigits_63 trivial hP hD hS
        have c10 := ci_nle c10
        refine lv_iload_n hx hb dX5_firstAsDigits_24 rfl (lv_at hl 2 rfl) ?_
        refine lv_aload_n hx hb dX5_firstAsDigits_25 rfl (lv_at hl 3 rfl) ?_
        refine va_get (D := D) (ci := 5) (v := .int v5_all) (C := RX5) (T := TX5) (N := 4) hx hb hts w1 hown hK.1 hP 0 rfl rfl 0 (by decide) w2 (fun _ h9 => h9) rfl dX5_firstAsDigits_26 ?_
        refine lv_icmp_eq (tgt := 62) hx hb dX5_firstAsDigits_29 (by decide) (fun c11 => ?_) (fun c11 => ?_)
        · have c11 := ci_eq c11
          refine lv_iload_n hx hb dX5_firstAsDigits_62 rfl (lv_at hl 1 rfl) ?_
          exact ret _ _ _ _ k5 () dX5_firstAsDigits_63 trivial hP hD hS
        have c11 := ci_ne c11
        refine lv_aload_n hx hb dX5_firstAsDigits_32 rfl (lv_at hl 3 rfl) ?_
        refine lv_iload_n hx hb dX5_firstAsDigits_33 rfl (lv_at hl 2 rfl) ?_
        refine kcm_i hA hAB hP hD hS [true, true, true] rfl (fun _ => rfl) (fun hPc hDc => va_runV (As := [.int k6]) (rest := []) ⟨hx, hb, hml, hown, hts⟩ (k_X5_leastThatGoesOn l D κ β a5 r5 v5_all f5_mayFollow f5_waysOn H.size k6 i1 (by omega)) (cwV 1 hts gX5_firstAsDigits_X5_leastThatGoesOn rfl rfl rfl (by decide +kernel) ⟨Nat.le_of_ble_eq_true rfl, Nat.le_of_ble_eq_true rfl⟩) (pk_V hK hS hAB hPc hDc 0 (ci := 5) rfl rfl rfl) rfl rfl hl.1 rfl (lv_room (Nat.le_of_ble_eq_true rfl)) dX5_firstAsDigits_34 ⟨Nat.le_of_ble_eq_true rfl, Nat.le_of_ble_eq_true rfl⟩) (fun x12 u13 H locs hw hPD hS => ?_)
        have h14 : 0 ≤ x12.toInt ∧ x12.toInt ≤ 7 := hw
        obtain ⟨hP, hD⟩ : PD D A [O5 a5 r5 v5_all, (cI κ (r5 1) 256 f5_mayFollow), (cI κ (r5 3) 256 f5_waysOn)] H := hPD
        refine lv_istore (lv' := [(4, .int x12), (3, .int k4), (2, .int k5), (1, .int k6), (0, .ref a5)]) hx hb dX5_firstAsDigits_37 hl (by decide) rfl (fun ls hl => ?_)
        refine lv_iload_n hx hb dX5_firstAsDigits_39 rfl (lv_at hl 3 rfl) ?_
        refine lv_iconst (v := 1) hx hb dX5_firstAsDigits_40 (by decide) ?_
        refine lv_iload hx hb dX5_firstAsDigits_41 (lv_at hl 0 rfl) ?_
        refine lv_ishl hx hb dX5_firstAsDigits_43 ?_
        refine lv_topi (fun x15 e16 => ?_)
        try have h17 := shl_rng7 e16 (by omega) (by omega)
        refine lv_ior hx hb dX5_firstAsDigits_44 ?_
        refine lv_topi (fun x18 e19 => ?_)
        try have h20 := or_rng e19 (by omega) (by omega) (by omega) (by omega)
        refine lv_istore_n (lv' := [(1, .int x18), (4, .int x12), (3, .int k4), (2, .int k5), (0, .ref a5)]) hx hb dX5_firstAsDigits_45 rfl hl (by decide) rfl (fun ls hl => ?_)
        refine lv_iload_n hx hb dX5_firstAsDigits_46 rfl (lv_at hl 3 rfl) ?_
        refine lv_bipush (v := 10) hx hb dX5_firstAsDigits_47 (by decide) ?_
        refine lv_imul hx hb dX5_firstAsDigits_49 ?_
        refine lv_topi (fun x21 e22 => ?_)
        try have h23 : x21.toInt = 10 * k5.toInt := ci_mulR (n := 10) (by decide) e22 (by omega) (by omega)
        refine lv_iload hx hb dX5_firstAsDigits_50 (lv_at hl 1 rfl) ?_
        refine lv_iadd hx hb dX5_firstAsDigits_52 ?_
        refine lv_topi (fun x24 e25 => ?_)
        try have h26 : x24.toInt = x21.toInt + x12.toInt := ci_add e25 (by omega) (by omega)
        refine lv_iconst (v := 1) hx hb dX5_firstAsDigits_53 (by decide) ?_
        refine lv_iadd hx hb dX5_firstAsDigits_54 ?_
        refine lv_topi (fun x27 e28 => ?_)
        try have h29 : x27.toInt = x24.toInt + (1 : Int32).toInt := ci_add e28 (by omega) (by omega)
        refine lv_istore_n (lv' := [(2, .int x27), (1, .int x18), (4, .int x12), (3, .int k4), (0, .ref a5)]) hx hb dX5_firstAsDigits_55 rfl hl (by decide) rfl (fun ls hl => ?_)
        obtain ⟨x30, e31⟩ : ∃ y : Int32, y = k4 + 1 := ⟨_, rfl⟩
        refine lv_iinc (v := x30) (lv' := [(3, .int x30), (2, .int x27), (1, .int x18), (4, .int x12), (0, .ref a5)]) hx hb dX5_firstAsDigits_56 hl (k := 3) rfl (by rw [e31]; rfl) (by decide) rfl (fun ls hl => ?_)
        try have h32 : x30.toInt = k4.toInt + (1 : Int32).toInt := ci_add e31 (by omega) (by omega)
        refine lv_goto (tgt := 18) hx hb dX5_firstAsDigits_59 (by decide) ?_
        exact ih18 x30 x27 x18 (by omega) (by omega) (by omega) _ _ hP hD hS _ (lv_sub hl [0, 1, 2, 4] rfl)
    exact lp18 ((8 - (0 : Int32).toInt).toNat + 1) 0 0 0 (by omega) (by omega) (by omega) _ _ hP hD hS _ hl
  have c3 := ci_eq c3
  refine lv_bipush (v := (-2)) hx hb dX5_firstAsDigits_9 (by decide) ?_
  exact ret _ _ _ _ (-2) () dX5_firstAsDigits_11 trivial hP hD hS
set_option maxHeartbeats 4000000 in
set_option maxRecDepth 100000 in
theorem k_X5_oneThenOther (l : Launch) (D : va_G) (κ : Nat → ClassId) (β : Nat) (a5 : Nat) (r5 : Nat → Nat) (v5_all : Int32) (f5_mayFollow : Nat → Int32) (f5_waysTo : Nat → Int32) (f5_waysOn : Nat → Int32) (sz : Nat) (p1 : Int32) (p2 : Int32) (i1 : Rg 0 255 v5_all) (i2 : 0 ≤ p1.toInt ∧ p1.toInt ≤ 7) (i3 : 0 ≤ p2.toInt ∧ p2.toInt ≤ 7) : Met l yX5_oneThenOther wsX5_oneThenOther ({ frames := 1, cells := 0, slots := 0, locals := 21 } : Room) (PcK D κ β [O5 a5 r5 v5_all, (cI κ (r5 1) 256 f5_mayFollow), (cI κ (r5 2) 256 f5_waysTo), (cI κ (r5 3) 256 f5_waysOn)] sz [.ref a5, .int p1, .int p2]) (QiK D (fun (r : Int32) (u : Unit) => True) (fun (u : Unit) => [O5 a5 r5 v5_all, (cI κ (r5 1) 256 f5_mayFollow), (cI κ (r5 2) 256 f5_waysTo), (cI κ (r5 3) 256 f5_waysOn)]) [O5 a5 r5 v5_all, (cI κ (r5 1) 256 f5_mayFollow), (cI κ (r5 2) 256 f5_waysTo), (cI κ (r5 3) 256 f5_waysOn)] sz) 0 0 (va_A [O5 a5 r5 v5_all, (cI κ (r5 1) 256 f5_mayFollow), (cI κ (r5 2) 256 f5_waysTo), (cI κ (r5 3) 256 f5_waysOn)] sz) := by
  refine ofK_i (cc := cX5_oneThenOther) (maxL := 6) (own := RX5) (by decide) rfl rfl (Nat.le_of_ble_eq_true rfl) ?_
  intro p e s m args below meth c Q A ls hsz hx hb hml hts hown hK hA hAB hP hD hl ret
  have hS : va_S A s.heap s.heap [] := va_S.rf
  have hl : lv_has ls 6 [(0, .ref a5), (1, .int p1), (2, .int p2)] := hl
  have w0 := hts (.fieldLink RX5 21 "OlderSkin$Orders" "all" "I") (List.mem_of_getElem? (i := 1) rfl)
  have w1 := (fun w h => List.mem_cons_of_mem _ (List.mem_append_right _ h) : ∀ w ∈ u_ws RX5 TX5 4, w ∈ wsX5_oneThenOther)
  have w2 := hts (.fieldLink RX5 9 "OlderSkin$Orders" "mayFollow" "[I") (List.mem_of_getElem? (i := 2) rfl)
  have w3 := hts (.initialized RX11) (List.mem_of_getElem? (i := 6) rfl)
  have w4 := hts (.static yX11_hasBit) (List.mem_of_getElem? (i := 5) rfl)
  have w5 := hK.2.1 ("OlderSkin$Orders", 41, ⟨"OlderSkin", "hasBit", "(II)Z"⟩, "OlderSkin") (by decide +kernel)
  have w6 := hts (.fieldLink RX5 15 "OlderSkin$Orders" "waysTo" "[I") (List.mem_of_getElem? (i := 3) rfl)
  have w7 := hts (.fieldLink RX5 18 "OlderSkin$Orders" "waysOn" "[I") (List.mem_of_getElem? (i := 4) rfl)
  have l0 : (0 : Int32).toInt = 0 := by decide
  have l1 : (1 : Int32).toInt = 1 := by decide
  have i1 : 0 ≤ v5_all.toInt ∧ v5_all.toInt ≤ 255 := i1
  refine lv_iconst (v := 0) hx hb dX5_oneThenOther_0 (by decide) ?_
  refine lv_istore_n (lv' := [(3, .int 0), (0, .ref a5), (1, .int p1), (2, .int p2)]) hx hb dX5_oneThenOther_1 rfl hl (by decide) rfl (fun ls hl => ?_)
  refine lv_iconst (v := 0) hx hb dX5_oneThenOther_2 (by decide) ?_
  refine lv_istore (lv' := [(4, .int 0), (3, .int 0), (0, .ref a5), (1, .int p1), (2, .int p2)]) hx hb dX5_oneThenOther_3 hl (by decide) rfl (fun ls hl => ?_)
  have lp5 : ∀ (n5 : Nat) (k1 : Int32) (k2 : Int32), (0 ≤ k1.toInt) → (v5_all.toInt + 1 - k1.toInt).toNat < n5 → ∀ (H : Heap) (locs : List Loc), va_P D vwCl [O5 a5 r5 v5_all, (cI κ (r5 1) 256 f5_mayFollow), (cI κ (r5 2) 256 f5_waysTo), (cI κ (r5 3) 256 f5_waysOn)] H → va_D A [O5 a5 r5 v5_all, (cI κ (r5 1) 256 f5_mayFollow), (cI κ (r5 2) 256 f5_waysTo), (cI κ (r5 3) 256 f5_waysOn)] → va_S A s.heap H locs → ∀ ls : Array Slot, lv_has ls 6 [(4, .int k1), (3, .int k2), (0, .ref a5), (1, .int p1), (2, .int p2)] → W p l e ({ frames := 1, cells := 0, slots := 0, locals := 21 } : Room) s m args below meth c H locs 0 0 Q (F0 m 5 ls []) := by
    intro n5
    induction n5 with
    | zero =>
      intro k1 k2 h3 m4
      exact absurd m4 (Nat.not_lt_zero _)
    | succ n5 ih5 =>
      intro k1 k2 h3 m4 H locs hP hD hS ls hl
      refine lv_iload hx hb dX5_oneThenOther_5 (lv_at hl 0 rfl) ?_
      refine lv_aload_n hx hb dX5_oneThenOther_7 rfl (lv_at hl 2 rfl) ?_
      refine va_get (D := D) (ci := 5) (v := .int v5_all) (C := RX5) (T := TX5) (N := 4) hx hb hts w1 hown hK.1 hP 0 rfl rfl 0 (by decide) w0 (fun _ h9 => h9) rfl dX5_oneThenOther_8 ?_
      refine lv_icmp_gt (tgt := 78) hx hb dX5_oneThenOther_11 (by decide) (fun c5 => ?_) (fun c5 => ?_)
      · have c5 := ci_lt c5
        refine lv_iload_n hx hb dX5_oneThenOther_78 rfl (lv_at hl 1 rfl) ?_
        exact ret _ _ _ _ k2 () dX5_oneThenOther_79 trivial hP hD hS
      have c5 := ci_nlt c5
      refine lv_iload hx hb dX5_oneThenOther_14 (lv_at hl 0 rfl) ?_
      refine lv_iconst (v := 1) hx hb dX5_oneThenOther_16 (by decide) ?_
      refine lv_iload_n hx hb dX5_oneThenOther_17 rfl (lv_at hl 3 rfl) ?_
      refine lv_ishl hx hb dX5_oneThenOther_18 ?_
      refine lv_topi (fun x6 e7 => ?_)
      try have h8 := shl_rng7 e7 (by omega) (by omega)
      refine lv_ior hx hb dX5_oneThenOther_19 ?_
      refine lv_topi (fun x9 e10 => ?_)
      try have h11 := or_rng e10 (by omega) (by omega) (by omega) (by omega)
      refine lv_istore (lv' := [(5, .int x9), (4, .int k1), (3, .int k2), (0, .ref a5), (1, .int p1), (2, .int p2)]) hx hb dX5_oneThenOther_20 hl (by decide) rfl (fun ls hl => ?_)
      refine lv_aload_n hx hb dX5_oneThenOther_22 rfl (lv_at hl 3 rfl) ?_
      refine va_get (D := D) (ci := 5) (v := .ref (r5 1)) (C := RX5) (T := TX5) (N := 4) hx hb hts w1 hown hK.1 hP 0 rfl rfl 1 (by decide) w2 (fun _ h9 => h9) rfl dX5_oneThenOther_23 ?_
      refine lv_iload hx hb dX5_oneThenOther_26 (lv_at hl 1 rfl) ?_
      refine va_iald hx hb hK.1 hP 1 1 rfl rfl (i := k1) (ix (by omega) (by omega)) dX5_oneThenOther_28 ?_
      refine lv_topi (fun x12 e13 => ?_)
      refine lv_iload_n hx hb dX5_oneThenOther_29 rfl (lv_at hl 4 rfl) ?_
      refine kcm_i hA hAB hP hD hS [false, false, false, false] rfl (fun _ => rfl) (fun hPc hDc => va_runSN (As := [.int x12, .int p1]) (rest := []) ⟨hx, hb, hml, hown, hts⟩ (k_X11_hasBit l D κ β H.size x12 p1) ⟨va_cnB 2 hts gX5_oneThenOther_X11_hasBit_n41 rfl rfl rfl w5 w3 (by decide +kernel) ⟨Nat.le_of_ble_eq_true rfl, Nat.le_of_ble_eq_true rfl⟩, w4, trivial⟩ (pk_S hK hS hAB hPc hDc) rfl rfl hl.1 rfl (lv_room (Nat.le_of_ble_eq_true rfl)) dX5_oneThenOther_30 ⟨Nat.le_of_ble_eq_true rfl, Nat.le_of_ble_eq_true rfl⟩) (fun x14 u15 H locs hw hPD hS => ?_)
      have h16 : x14.toInt = 0 ∨ x14.toInt = 1 := hw
      obtain ⟨hP, hD⟩ : PD D A [O5 a5 r5 v5_all, (cI κ (r5 1) 256 f5_mayFollow), (cI κ (r5 2) 256 f5_waysTo), (cI κ (r5 3) 256 f5_waysOn)] H := hPD
      refine lv_if_eq (tgt := 72) hx hb dX5_oneThenOther_33 (by decide) (fun c17 => ?_) (fun c17 => ?_)
      · have c17 := ci_eq c17
        obtain ⟨x18, e19⟩ : ∃ y : Int32, y = k1 + 1 := ⟨_, rfl⟩
        refine lv_iinc (v := x18) (lv' := [(4, .int x18), (5, .int x9), (3, .int k2), (0, .ref a5), (1, .int p1), (2, .int p2)]) hx hb dX5_oneThenOther_72 hl (k := 1) rfl (by rw [e19]; rfl) (by decide) rfl (fun ls hl => ?_)
        try have h20 : x18.toInt = k1.toInt + (1 : Int32).toInt := ci_add e19 (by omega) (by omega)
        refine lv_goto (tgt := 5) hx hb dX5_oneThenOther_75 (by decide) ?_
        exact ih5 x18 k2 (by omega) (by omega) _ _ hP hD hS _ (lv_sub hl [0, 2, 3, 4, 5] rfl)
      have c17 := ci_ne c17
      refine lv_aload_n hx hb dX5_oneThenOther_36 rfl (lv_at hl 3 rfl) ?_
      refine va_get (D := D) (ci := 5) (v := .ref (r5 1)) (C := RX5) (T := TX5) (N := 4) hx hb hts w1 hown hK.1 hP 0 rfl rfl 1 (by decide) w2 (fun _ h9 => h9) rfl dX5_oneThenOther_37 ?_
      refine lv_iload hx hb dX5_oneThenOther_40 (lv_at hl 0 rfl) ?_
      refine va_iald hx hb hK.1 hP 1 1 rfl rfl (i := x9) (ix (by omega) (by omega)) dX5_oneThenOther_42 ?_
      refine lv_topi (fun x21 e22 => ?_)
      refine lv_iload_n hx hb dX5_oneThenOther_43 rfl (lv_at hl 5 rfl) ?_
      refine kcm_i hA hAB hP hD hS [false, false, false, false] rfl (fun _ => rfl) (fun hPc hDc => va_runSN (As := [.int x21, .int p2]) (rest := []) ⟨hx, hb, hml, hown, hts⟩ (k_X11_hasBit l D κ β H.size x21 p2) ⟨va_cnB 2 hts gX5_oneThenOther_X11_hasBit_n41 rfl rfl rfl w5 w3 (by decide +kernel) ⟨Nat.le_of_ble_eq_true rfl, Nat.le_of_ble_eq_true rfl⟩, w4, trivial⟩ (pk_S hK hS hAB hPc hDc) rfl rfl hl.1 rfl (lv_room (Nat.le_of_ble_eq_true rfl)) dX5_oneThenOther_44 ⟨Nat.le_of_ble_eq_true rfl, Nat.le_of_ble_eq_true rfl⟩) (fun x23 u24 H locs hw hPD hS => ?_)
      have h25 : x23.toInt = 0 ∨ x23.toInt = 1 := hw
      obtain ⟨hP, hD⟩ : PD D A [O5 a5 r5 v5_all, (cI κ (r5 1) 256 f5_mayFollow), (cI κ (r5 2) 256 f5_waysTo), (cI κ (r5 3) 256 f5_waysOn)] H := hPD
      refine lv_if_eq (tgt := 72) hx hb dX5_oneThenOther_47 (by decide) (fun c26 => ?_) (fun c26 => ?_)
      · have c26 := ci_eq c26
        obtain ⟨x27, e28⟩ : ∃ y : Int32, y = k1 + 1 := ⟨_, rfl⟩
        refine lv_iinc (v := x27) (lv' := [(4, .int x27), (5, .int x9), (3, .int k2), (0, .ref a5), (1, .int p1), (2, .int p2)]) hx hb dX5_oneThenOther_72 hl (k := 1) rfl (by rw [e28]; rfl) (by decide) rfl (fun ls hl => ?_)
        try have h29 : x27.toInt = k1.toInt + (1 : Int32).toInt := ci_add e28 (by omega) (by omega)
        refine lv_goto (tgt := 5) hx hb dX5_oneThenOther_75 (by decide) ?_
        exact ih5 x27 k2 (by omega) (by omega) _ _ hP hD hS _ (lv_sub hl [0, 2, 3, 4, 5] rfl)
      have c26 := ci_ne c26
      refine lv_iload_n hx hb dX5_oneThenOther_50 rfl (lv_at hl 2 rfl) ?_
      refine lv_aload_n hx hb dX5_oneThenOther_51 rfl (lv_at hl 3 rfl) ?_
      refine va_get (D := D) (ci := 5) (v := .ref (r5 2)) (C := RX5) (T := TX5) (N := 4) hx hb hts w1 hown hK.1 hP 0 rfl rfl 2 (by decide) w6 (fun _ h9 => h9) rfl dX5_oneThenOther_52 ?_
      refine lv_iload hx hb dX5_oneThenOther_55 (lv_at hl 1 rfl) ?_
      refine va_iald hx hb hK.1 hP 2 1 rfl rfl (i := k1) (ix (by omega) (by omega)) dX5_oneThenOther_57 ?_
      refine lv_topi (fun x30 e31 => ?_)
      refine lv_aload_n hx hb dX5_oneThenOther_58 rfl (lv_at hl 3 rfl) ?_
      refine va_get (D := D) (ci := 5) (v := .ref (r5 3)) (C := RX5) (T := TX5) (N := 4) hx hb hts w1 hown hK.1 hP 0 rfl rfl 3 (by decide) w7 (fun _ h9 => h9) rfl dX5_oneThenOther_59 ?_
      refine lv_iload hx hb dX5_oneThenOther_62 (lv_at hl 0 rfl) ?_
      refine lv_iconst (v := 1) hx hb dX5_oneThenOther_64 (by decide) ?_
      refine lv_iload_n hx hb dX5_oneThenOther_65 rfl (lv_at hl 5 rfl) ?_
      refine lv_ishl hx hb dX5_oneThenOther_66 ?_
      refine lv_topi (fun x32 e33 => ?_)
      try have h34 := shl_rng7 e33 (by omega) (by omega)
      refine lv_ior hx hb dX5_oneThenOther_67 ?_
      refine lv_topi (fun x35 e36 => ?_)
      try have h37 := or_rng e36 (by omega) (by omega) (by omega) (by omega)
      refine va_iald hx hb hK.1 hP 3 1 rfl rfl (i := x35) (ix (by omega) (by omega)) dX5_oneThenOther_68 ?_
      refine lv_topi (fun x38 e39 => ?_)
      refine lv_imul hx hb dX5_oneThenOther_69 ?_
      refine lv_topi (fun x40 e41 => ?_)
      refine lv_iadd hx hb dX5_oneThenOther_70 ?_
      refine lv_topi (fun x42 e43 => ?_)
      try have h44 : x42.toInt = k2.toInt + x40.toInt := ci_add e43 (by omega) (by omega)
      refine lv_istore_n (lv' := [(3, .int x42), (5, .int x9), (4, .int k1), (0, .ref a5), (1, .int p1), (2, .int p2)]) hx hb dX5_oneThenOther_71 rfl hl (by decide) rfl (fun ls hl => ?_)
      obtain ⟨x45, e46⟩ : ∃ y : Int32, y = k1 + 1 := ⟨_, rfl⟩
      refine lv_iinc (v := x45) (lv' := [(4, .int x45), (3, .int x42), (5, .int x9), (0, .ref a5), (1, .int p1), (2, .int p2)]) hx hb dX5_oneThenOther_72 hl (k := 2) rfl (by rw [e46]; rfl) (by decide) rfl (fun ls hl => ?_)
      try have h47 : x45.toInt = k1.toInt + (1 : Int32).toInt := ci_add e46 (by omega) (by omega)
      refine lv_goto (tgt := 5) hx hb dX5_oneThenOther_75 (by decide) ?_
      exact ih5 x45 x42 (by omega) (by omega) _ _ hP hD hS _ (lv_sub hl [0, 1, 3, 4, 5] rfl)
  exact lp5 ((v5_all.toInt + 1 - (0 : Int32).toInt).toNat + 1) 0 0 (by omega) (by omega) _ _ hP hD hS _ hl
set_option maxHeartbeats 4000000 in
set_option maxRecDepth 100000 in
theorem k_X5_sideBySide (l : Launch) (D : va_G) (κ : Nat → ClassId) (β : Nat) (a5 : Nat) (r5 : Nat → Nat) (v5_all : Int32) (f5_mayFollow : Nat → Int32) (f5_waysTo : Nat → Int32) (f5_waysOn : Nat → Int32) (sz : Nat) (p1 : Int32) (p2 : Int32) (i1 : Rg 0 255 v5_all) (i2 : 0 ≤ p1.toInt ∧ p1.toInt ≤ 7) (i3 : 0 ≤ p2.toInt ∧ p2.toInt ≤ 7) : Met l yX5_sideBySide wsX5_sideBySide ({ frames := 2, cells := 0, slots := 0, locals := 46 } : Room) (PcK D κ β [O5 a5 r5 v5_all, (cI κ (r5 1) 256 f5_mayFollow), (cI κ (r5 2) 256 f5_waysTo), (cI κ (r5 3) 256 f5_waysOn)] sz [.ref a5, .int p1, .int p2]) (QiK D (fun (r : Int32) (u : Unit) => True) (fun (u : Unit) => [O5 a5 r5 v5_all, (cI κ (r5 1) 256 f5_mayFollow), (cI κ (r5 2) 256 f5_waysTo), (cI κ (r5 3) 256 f5_waysOn)]) [O5 a5 r5 v5_all, (cI κ (r5 1) 256 f5_mayFollow), (cI κ (r5 2) 256 f5_waysTo), (cI κ (r5 3) 256 f5_waysOn)] sz) 0 0 (va_A [O5 a5 r5 v5_all, (cI κ (r5 1) 256 f5_mayFollow), (cI κ (r5 2) 256 f5_waysTo), (cI κ (r5 3) 256 f5_waysOn)] sz) := by
  refine ofK_i (cc := cX5_sideBySide) (maxL := 3) (own := RX5) (by decide) rfl rfl (Nat.le_of_ble_eq_true rfl) ?_
  intro p e s m args below meth c Q A ls hsz hx hb hml hts hown hK hA hAB hP hD hl ret
  have hS : va_S A s.heap s.heap [] := va_S.rf
  have hl : lv_has ls 3 [(0, .ref a5), (1, .int p1), (2, .int p2)] := hl
  refine lv_aload_n hx hb dX5_sideBySide_0 rfl (lv_at hl 0 rfl) ?_
  refine lv_iload_n hx hb dX5_sideBySide_1 rfl (lv_at hl 1 rfl) ?_
  refine lv_iload_n hx hb dX5_sideBySide_2 rfl (lv_at hl 2 rfl) ?_
  refine kcm_i hA hAB hP hD hS [true, true, true, true] rfl (fun _ => rfl) (fun hPc hDc => va_runV (As := [.int p1, .int p2]) (rest := []) ⟨hx, hb, hml, hown, hts⟩ (k_X5_oneThenOther l D κ β a5 r5 v5_all f5_mayFollow f5_waysTo f5_waysOn s.heap.size p1 p2 i1 (by omega) (by omega)) (cwV 2 hts gX5_sideBySide_X5_oneThenOther rfl rfl rfl (by decide +kernel) ⟨Nat.le_of_ble_eq_true rfl, Nat.le_of_ble_eq_true rfl⟩) (pk_V hK hS hAB hPc hDc 0 (ci := 5) rfl rfl rfl) rfl rfl hl.1 rfl (lv_room (Nat.le_of_ble_eq_true rfl)) dX5_sideBySide_3 ⟨Nat.le_of_ble_eq_true rfl, Nat.le_of_ble_eq_true rfl⟩) (fun x1 u2 H locs hw hPD hS => ?_)
  obtain ⟨hP, hD⟩ : PD D A [O5 a5 r5 v5_all, (cI κ (r5 1) 256 f5_mayFollow), (cI κ (r5 2) 256 f5_waysTo), (cI κ (r5 3) 256 f5_waysOn)] H := hPD
  refine lv_aload_n hx hb dX5_sideBySide_6 rfl (lv_at hl 0 rfl) ?_
  refine lv_iload_n hx hb dX5_sideBySide_7 rfl (lv_at hl 2 rfl) ?_
  refine lv_iload_n hx hb dX5_sideBySide_8 rfl (lv_at hl 1 rfl) ?_
  refine kcm_i hA hAB hP hD hS [true, true, true, true] rfl (fun _ => rfl) (fun hPc hDc => va_runV (As := [.int p2, .int p1]) (rest := [.int x1]) ⟨hx, hb, hml, hown, hts⟩ (k_X5_oneThenOther l D κ β a5 r5 v5_all f5_mayFollow f5_waysTo f5_waysOn H.size p2 p1 i1 (by omega) (by omega)) (cwV 2 hts gX5_sideBySide_X5_oneThenOther rfl rfl rfl (by decide +kernel) ⟨Nat.le_of_ble_eq_true rfl, Nat.le_of_ble_eq_true rfl⟩) (pk_V hK hS hAB hPc hDc 0 (ci := 5) rfl rfl rfl) rfl rfl hl.1 rfl (lv_room (Nat.le_of_ble_eq_true rfl)) dX5_sideBySide_9 ⟨Nat.le_of_ble_eq_true rfl, Nat.le_of_ble_eq_true rfl⟩) (fun x3 u4 H locs hw hPD hS => ?_)
  obtain ⟨hP, hD⟩ : PD D A [O5 a5 r5 v5_all, (cI κ (r5 1) 256 f5_mayFollow), (cI κ (r5 2) 256 f5_waysTo), (cI κ (r5 3) 256 f5_waysOn)] H := hPD
  refine lv_iadd hx hb dX5_sideBySide_12 ?_
  refine lv_topi (fun x5 e6 => ?_)
  try have h7 : x5.toInt = x1.toInt + x3.toInt := ci_add e6 (by omega) (by omega)
  exact ret _ _ _ _ x5 () dX5_sideBySide_13 trivial hP hD hS
