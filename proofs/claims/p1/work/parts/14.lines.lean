set_option maxHeartbeats 4000000 in
set_option maxRecDepth 100000 in
theorem k_X3_isLine (l : Launch) (D : va_G) (κ : Nat → ClassId) (β : Nat) (a3 : Nat) (r3 : Nat → Nat) (v3_count : Int32) (v3_marks : Int32) (sz : Nat) (p1 : Int32) (i1 : Rg 0 20 v3_count) (i2 : Rg 0 60 v3_marks) (i3 : v3_count.toInt = 0) (i4 : v3_marks.toInt = 0) : Met l yX3_isLine wsX3_isLine ({ frames := 1, cells := 0, slots := 0, locals := 22 } : Room) (PcK D κ β [O3 a3 r3 v3_count v3_marks] sz [.ref a3, .int p1]) (QiK D (fun (r : Int32) (u : Unit) => (r.toInt = 1 ∧ 0 ≤ p1.toInt ∧ p1.toInt < v3_count.toInt) ∨ (r.toInt = 0 ∧ (p1.toInt < 0 ∨ v3_count.toInt ≤ p1.toInt))) (fun (u : Unit) => [O3 a3 r3 v3_count v3_marks]) [O3 a3 r3 v3_count v3_marks] sz) 0 0 (va_A [O3 a3 r3 v3_count v3_marks] sz) := by
  refine ofK_z (cc := cX3_isLine) (maxL := 2) (own := RX3) (by decide) rfl rfl (Nat.le_of_ble_eq_true rfl) ?_
  intro p e s m args below meth c Q A ls hsz hx hb hml hts hown hK hA hAB hP hD hl ret
  have hS : va_S A s.heap s.heap [] := va_S.rf
  have hl : lv_has ls 2 [(0, .ref a3), (1, .int p1)] := hl
  have w0 := hts (.fieldLink RX3 36 "OlderSkin$Lines" "count" "I") (List.mem_of_getElem? (i := 1) rfl)
  have w1 := (fun w h => List.mem_cons_of_mem _ (List.mem_append_right _ h) : ∀ w ∈ u_ws RX3 TX3 10, w ∈ wsX3_isLine)
  have w2 := hts (.initialized RX11) (List.mem_of_getElem? (i := 3) rfl)
  have w3 := hts (.static yX11_within) (List.mem_of_getElem? (i := 2) rfl)
  have w4 := hK.2.1 ("OlderSkin$Lines", 40, ⟨"OlderSkin", "within", "(III)Z"⟩, "OlderSkin") (by decide +kernel)
  have l0 : (0 : Int32).toInt = 0 := by decide
  have l1 : (1 : Int32).toInt = 1 := by decide
  have i1 : 0 ≤ v3_count.toInt ∧ v3_count.toInt ≤ 20 := i1
  refine lv_iload_n hx hb dX3_isLine_0 rfl (lv_at hl 1 rfl) ?_
  refine lv_iconst (v := 0) hx hb dX3_isLine_1 (by decide) ?_
  refine lv_aload_n hx hb dX3_isLine_2 rfl (lv_at hl 0 rfl) ?_
  refine va_get (D := D) (ci := 3) (v := .int v3_count) (C := RX3) (T := TX3) (N := 10) hx hb hts w1 hown hK.1 hP 0 rfl rfl 2 (by decide) w0 (fun _ h9 => h9) rfl dX3_isLine_3 ?_
  refine lv_iconst (v := 1) hx hb dX3_isLine_6 (by decide) ?_
  refine lv_isub hx hb dX3_isLine_7 ?_
  refine lv_topi (fun x1 e2 => ?_)
  try have h3 : x1.toInt = v3_count.toInt - (1 : Int32).toInt := ci_sub e2 (by omega) (by omega)
  refine kcm_i hA hAB hP hD hS [false] rfl (fun _ => rfl) (fun hPc hDc => va_runSN (As := [.int p1, .int 0, .int x1]) (rest := []) ⟨hx, hb, hml, hown, hts⟩ (k_X11_within l D κ β s.heap.size p1 0 x1) ⟨va_cnB 3 hts gX3_isLine_X11_within_n40 rfl rfl rfl w4 w2 (by decide +kernel) ⟨Nat.le_of_ble_eq_true rfl, Nat.le_of_ble_eq_true rfl⟩, w3, trivial⟩ (pk_S hK hS hAB hPc hDc) rfl rfl hl.1 rfl (lv_room (Nat.le_of_ble_eq_true rfl)) dX3_isLine_8 ⟨Nat.le_of_ble_eq_true rfl, Nat.le_of_ble_eq_true rfl⟩) (fun x4 u5 H locs hw hPD hS => ?_)
  have h6 : (x4.toInt = 1 ∧ (0 : Int32).toInt ≤ p1.toInt ∧ p1.toInt ≤ x1.toInt) ∨ (x4.toInt = 0 ∧ (p1.toInt < (0 : Int32).toInt ∨ x1.toInt < p1.toInt)) := hw
  obtain ⟨hP, hD⟩ : PD D A [O3 a3 r3 v3_count v3_marks] H := hPD
  have hpo : (x4.toInt = 1 ∧ 0 ≤ p1.toInt ∧ p1.toInt < v3_count.toInt) ∨ (x4.toInt = 0 ∧ (p1.toInt < 0 ∨ v3_count.toInt ≤ p1.toInt)) := (by omega)
  exact ret _ _ _ _ x4 () dX3_isLine_11 (by omega) hpo hP hD hS
set_option maxHeartbeats 4000000 in
set_option maxRecDepth 100000 in
theorem k_X3_add (l : Launch) (D : va_G) (κ : Nat → ClassId) (β : Nat) (a3 : Nat) (r3 : Nat → Nat) (v3_count : Int32) (v3_marks : Int32) (sz : Nat) (p1 : Int32) (p2 : Int32) (i1 : Rg 0 20 v3_count) (i2 : Rg 0 60 v3_marks) (i3 : (1 : Int) ≤ 0) : Met l yX3_add wsX3_add ({ frames := 1, cells := 0, slots := 0, locals := 30 } : Room) (PcK D κ β [O3 a3 r3 v3_count v3_marks] sz [.ref a3, .int p1, .int p2]) (QiK D (fun (r : Int32) (u : Unit) => True) (fun (u : Unit) => [O3 a3 r3 v3_count v3_marks]) [O3 a3 r3 v3_count v3_marks] sz) 0 0 (va_A [O3 a3 r3 v3_count v3_marks] sz) := by
  refine ofK_i (cc := cX3_add) (maxL := 3) (own := RX3) (by decide) rfl rfl (Nat.le_of_ble_eq_true rfl) ?_
  intro p e s m args below meth c Q A ls hsz hx hb hml hts hown hK hA hAB hP hD hl ret
  have hS : va_S A s.heap s.heap [] := va_S.rf
  have hl : lv_has ls 3 [(0, .ref a3), (1, .int p1), (2, .int p2)] := hl
  have i1 : 0 ≤ v3_count.toInt ∧ v3_count.toInt ≤ 20 := i1
  exfalso
  omega
set_option maxHeartbeats 4000000 in
set_option maxRecDepth 100000 in
theorem k_X3_tellMark (l : Launch) (D : va_G) (κ : Nat → ClassId) (β : Nat) (a3 : Nat) (r3 : Nat → Nat) (v3_count : Int32) (v3_marks : Int32) (sz : Nat) (p1 : Int32) (p2 : Int32) (p3 : Int32) (i1 : Rg 0 20 v3_count) (i2 : Rg 0 60 v3_marks) (i3 : (1 : Int) ≤ 0) : Met l yX3_tellMark wsX3_tellMark ({ frames := 1, cells := 0, slots := 0, locals := 30 } : Room) (PcK D κ β [O3 a3 r3 v3_count v3_marks] sz [.ref a3, .int p1, .int p2, .int p3]) (QiK D (fun (r : Int32) (u : Unit) => True) (fun (u : Unit) => [O3 a3 r3 v3_count v3_marks]) [O3 a3 r3 v3_count v3_marks] sz) 0 0 (va_A [O3 a3 r3 v3_count v3_marks] sz) := by
  refine ofK_i (cc := cX3_tellMark) (maxL := 5) (own := RX3) (by decide) rfl rfl (Nat.le_of_ble_eq_true rfl) ?_
  intro p e s m args below meth c Q A ls hsz hx hb hml hts hown hK hA hAB hP hD hl ret
  have hS : va_S A s.heap s.heap [] := va_S.rf
  have hl : lv_has ls 5 [(0, .ref a3), (1, .int p1), (2, .int p2), (3, .int p3)] := hl
  have i2 : 0 ≤ v3_marks.toInt ∧ v3_marks.toInt ≤ 60 := i2
  exfalso
  omega
set_option maxHeartbeats 4000000 in
set_option maxRecDepth 100000 in
theorem k_X3_marksThatAre (l : Launch) (D : va_G) (κ : Nat → ClassId) (β : Nat) (a3 : Nat) (r3 : Nat → Nat) (v3_count : Int32) (v3_marks : Int32) (sz : Nat) (p1 : Int32) (i1 : Rg 0 20 v3_count) (i2 : Rg 0 60 v3_marks) (i3 : (1 : Int) ≤ 0) : Met l yX3_marksThatAre wsX3_marksThatAre ({ frames := 1, cells := 0, slots := 0, locals := 30 } : Room) (PcK D κ β [O3 a3 r3 v3_count v3_marks] sz [.ref a3, .int p1]) (QiK D (fun (r : Int32) (u : Unit) => True) (fun (u : Unit) => [O3 a3 r3 v3_count v3_marks]) [O3 a3 r3 v3_count v3_marks] sz) 0 0 (va_A [O3 a3 r3 v3_count v3_marks] sz) := by
  refine ofK_i (cc := cX3_marksThatAre) (maxL := 4) (own := RX3) (by decide) rfl rfl (Nat.le_of_ble_eq_true rfl) ?_
  intro p e s m args below meth c Q A ls hsz hx hb hml hts hown hK hA hAB hP hD hl ret
  have hS : va_S A s.heap s.heap [] := va_S.rf
  have hl : lv_has ls 4 [(0, .ref a3), (1, .int p1)] := hl
  have i2 : 0 ≤ v3_marks.toInt ∧ v3_marks.toInt ≤ 60 := i2
  exfalso
  omega
set_option maxHeartbeats 4000000 in
set_option maxRecDepth 100000 in
theorem k_X3_findInks (l : Launch) (D : va_G) (κ : Nat → ClassId) (β : Nat) (a3 : Nat) (r3 : Nat → Nat) (v3_count : Int32) (v3_marks : Int32) (f3_inksOver : Nat → Int32) (f3_inksRound : Nat → Int32) (f3_inksAhead : Nat → Int32) (fq1 : Nat → Int32) (sz : Nat) (q1 : Nat) (p2 : Int32) (i1 : Rg 0 20 v3_count) (i2 : Rg 0 60 v3_marks) (hf3_inksAhead : ∀ j : Nat, (f3_inksAhead j).toInt = 0) (hfq1 : ∀ j : Nat, 0 ≤ (fq1 j).toInt ∧ (fq1 j).toInt ≤ 39) (i3 : p2.toInt ≤ 40) (i4 : p2.toInt = 0) (i5 : v3_count.toInt = 0) (i6 : v3_marks.toInt = 0) : Met l yX3_findInks wsX3_findInks ({ frames := 1, cells := 0, slots := 0, locals := 23 } : Room) (PcK D κ β [O3 a3 r3 v3_count v3_marks, (cI κ (r3 7) 40 f3_inksOver), (cI κ (r3 8) 40 f3_inksRound), (cI κ (r3 9) 6 f3_inksAhead), (cI κ q1 40 fq1)] sz [.ref a3, .ref q1, .int p2]) (QvK D (fun (u : (Nat → Int32) × (Nat → Int32) × (Nat → Int32)) => ∀ j : Nat, (u.2.2 j).toInt = 0) (fun (u : (Nat → Int32) × (Nat → Int32) × (Nat → Int32)) => [O3 a3 r3 v3_count v3_marks, (cI κ (r3 7) 40 u.1), (cI κ (r3 8) 40 u.2.1), (cI κ (r3 9) 6 u.2.2), (cI κ q1 40 fq1)]) [O3 a3 r3 v3_count v3_marks, (cI κ (r3 7) 40 f3_inksOver), (cI κ (r3 8) 40 f3_inksRound), (cI κ (r3 9) 6 f3_inksAhead), (cI κ q1 40 fq1)] sz) 0 0 (va_A [O3 a3 r3 v3_count v3_marks, (cI κ (r3 7) 40 f3_inksOver), (cI κ (r3 8) 40 f3_inksRound), (cI κ (r3 9) 6 f3_inksAhead), (cI κ q1 40 fq1)] sz) := by
  refine ofK_v (cc := cX3_findInks) (maxL := 6) (own := RX3) (by decide) rfl rfl (Nat.le_of_ble_eq_true rfl) ?_
  intro p e s m args below meth c Q A ls hsz hx hb hml hts hown hK hA hAB hP hD hl hname ret
  have hS : va_S A s.heap s.heap [] := va_S.rf
  have hl : lv_has ls 6 [(0, .ref a3), (1, .ref q1), (2, .int p2)] := hl
  have w0 := hts (.fieldLink RX3 27 "OlderSkin$Lines" "inksOver" "[I") (List.mem_of_getElem? (i := 1) rfl)
  have w1 := (fun w h => List.mem_cons_of_mem _ (List.mem_append_right _ h) : ∀ w ∈ u_ws RX3 TX3 10, w ∈ wsX3_findInks)
  have w2 := hts (.fieldLink RX3 30 "OlderSkin$Lines" "inksRound" "[I") (List.mem_of_getElem? (i := 2) rfl)
  have w3 := hts (.fieldLink RX3 33 "OlderSkin$Lines" "inksAhead" "[I") (List.mem_of_getElem? (i := 3) rfl)
  have w4 := hts (.fieldLink RX3 44 "OlderSkin$Lines" "marks" "I") (List.mem_of_getElem? (i := 4) rfl)
  have l0 : (0 : Int32).toInt = 0 := by decide
  have i2 : 0 ≤ v3_marks.toInt ∧ v3_marks.toInt ≤ 60 := i2
  refine lv_aload_n hx hb dX3_findInks_0 rfl (lv_at hl 0 rfl) ?_
  refine va_get (D := D) (ci := 3) (v := .ref (r3 7)) (C := RX3) (T := TX3) (N := 10) hx hb hts w1 hown hK.1 hP 0 rfl rfl 7 (by decide) w0 (fun _ h9 => h9) rfl dX3_findInks_1 ?_
  refine lv_iconst (v := 0) hx hb dX3_findInks_4 (by decide) ?_
  refine kcm_v hA hAB hP hD hS [false, true, false, false, false] rfl (fun _ => rfl) (fun hPc hDc => va_runS (As := [.ref (r3 7), .int 0]) (rest := []) ⟨hx, hb, hml, hown, hts⟩ (k_J7_fill_53178 l D κ β 40 f3_inksOver s.heap.size (r3 7) 0 (by omega)) (va_cwS 2 hts gX3_findInks_J7_fill_53178 rfl rfl rfl (by decide +kernel) ⟨Nat.le_of_ble_eq_true rfl, Nat.le_of_ble_eq_true rfl⟩) (pk_S hK hS hAB hPc hDc) rfl rfl hl.1 rfl (lv_room (Nat.le_of_ble_eq_true rfl)) dX3_findInks_5 ⟨Nat.le_of_ble_eq_true rfl, Nat.le_of_ble_eq_true rfl⟩) (fun g1 H locs hw hPD hS => ?_)
  obtain ⟨hP, hD⟩ : PD D A [O3 a3 r3 v3_count v3_marks, (cI κ (r3 7) 40 g1), (cI κ (r3 8) 40 f3_inksRound), (cI κ (r3 9) 6 f3_inksAhead), (cI κ q1 40 fq1)] H := hPD
  refine lv_aload_n hx hb dX3_findInks_8 rfl (lv_at hl 0 rfl) ?_
  refine va_get (D := D) (ci := 3) (v := .ref (r3 8)) (C := RX3) (T := TX3) (N := 10) hx hb hts w1 hown hK.1 hP 0 rfl rfl 8 (by decide) w2 (fun _ h9 => h9) rfl dX3_findInks_9 ?_
  refine lv_iconst (v := 0) hx hb dX3_findInks_12 (by decide) ?_
  refine kcm_v hA hAB hP hD hS [false, false, true, false, false] rfl (fun _ => rfl) (fun hPc hDc => va_runS (As := [.ref (r3 8), .int 0]) (rest := []) ⟨hx, hb, hml, hown, hts⟩ (k_J7_fill_53178 l D κ β 40 f3_inksRound H.size (r3 8) 0 (by omega)) (va_cwS 2 hts gX3_findInks_J7_fill_53178 rfl rfl rfl (by decide +kernel) ⟨Nat.le_of_ble_eq_true rfl, Nat.le_of_ble_eq_true rfl⟩) (pk_S hK hS hAB hPc hDc) rfl rfl hl.1 rfl (lv_room (Nat.le_of_ble_eq_true rfl)) dX3_findInks_13 ⟨Nat.le_of_ble_eq_true rfl, Nat.le_of_ble_eq_true rfl⟩) (fun g2 H locs hw hPD hS => ?_)
  obtain ⟨hP, hD⟩ : PD D A [O3 a3 r3 v3_count v3_marks, (cI κ (r3 7) 40 g1), (cI κ (r3 8) 40 g2), (cI κ (r3 9) 6 f3_inksAhead), (cI κ q1 40 fq1)] H := hPD
  refine lv_aload_n hx hb dX3_findInks_16 rfl (lv_at hl 0 rfl) ?_
  refine va_get (D := D) (ci := 3) (v := .ref (r3 9)) (C := RX3) (T := TX3) (N := 10) hx hb hts w1 hown hK.1 hP 0 rfl rfl 9 (by decide) w3 (fun _ h9 => h9) rfl dX3_findInks_17 ?_
  refine lv_iconst (v := 0) hx hb dX3_findInks_20 (by decide) ?_
  refine kcm_v hA hAB hP hD hS [false, false, false, true, false] rfl (fun _ => rfl) (fun hPc hDc => va_runS (As := [.ref (r3 9), .int 0]) (rest := []) ⟨hx, hb, hml, hown, hts⟩ (k_J7_fill_53178_z l D κ β 6 f3_inksAhead H.size (r3 9) 0 hf3_inksAhead (by omega) (by omega)) (va_cwS 2 hts gX3_findInks_J7_fill_53178 rfl rfl rfl (by decide +kernel) ⟨Nat.le_of_ble_eq_true rfl, Nat.le_of_ble_eq_true rfl⟩) (pk_S hK hS hAB hPc hDc) rfl rfl hl.1 rfl (lv_room (Nat.le_of_ble_eq_true rfl)) dX3_findInks_21 ⟨Nat.le_of_ble_eq_true rfl, Nat.le_of_ble_eq_true rfl⟩) (fun g3 H locs hw hPD hS => ?_)
  have h4 : ∀ j : Nat, (g3 j).toInt = 0 := hw
  obtain ⟨hP, hD⟩ : PD D A [O3 a3 r3 v3_count v3_marks, (cI κ (r3 7) 40 g1), (cI κ (r3 8) 40 g2), (cI κ (r3 9) 6 g3), (cI κ q1 40 fq1)] H := hPD
  refine lv_iconst (v := 0) hx hb dX3_findInks_24 (by decide) ?_
  refine lv_istore_n (lv' := [(3, .int 0), (0, .ref a3), (1, .ref q1), (2, .int p2)]) hx hb dX3_findInks_25 rfl hl (by decide) rfl (fun ls hl => ?_)
  have lp26 : ∀ (n26 : Nat), (0 ≤ (0 : Int32).toInt) → (v3_marks.toInt - (0 : Int32).toInt).toNat < n26 → ∀ (H : Heap) (locs : List Loc), va_P D vwCl [O3 a3 r3 v3_count v3_marks, (cI κ (r3 7) 40 g1), (cI κ (r3 8) 40 g2), (cI κ (r3 9) 6 g3), (cI κ q1 40 fq1)] H → va_D A [O3 a3 r3 v3_count v3_marks, (cI κ (r3 7) 40 g1), (cI κ (r3 8) 40 g2), (cI κ (r3 9) 6 g3), (cI κ q1 40 fq1)] → va_S A s.heap H locs → ∀ ls : Array Slot, lv_has ls 6 [(3, .int 0), (0, .ref a3), (1, .ref q1), (2, .int p2)] → W p l e ({ frames := 1, cells := 0, slots := 0, locals := 23 } : Room) s m args below meth c H locs 0 0 Q (F0 m 26 ls []) := by
    intro n26
    induction n26 with
    | zero =>
      intro h5 m6
      exact absurd m6 (Nat.not_lt_zero _)
    | succ n26 ih26 =>
      intro h5 m6 H locs hP hD hS ls hl
      refine lv_iload_n hx hb dX3_findInks_26 rfl (lv_at hl 0 rfl) ?_
      refine lv_aload_n hx hb dX3_findInks_27 rfl (lv_at hl 1 rfl) ?_
      refine va_get (D := D) (ci := 3) (v := .int v3_marks) (C := RX3) (T := TX3) (N := 10) hx hb hts w1 hown hK.1 hP 0 rfl rfl 6 (by decide) w4 (fun _ h9 => h9) rfl dX3_findInks_28 ?_
      refine lv_icmp_ge (tgt := 102) hx hb dX3_findInks_31 (by decide) (fun c7 => ?_) (fun c7 => ?_)
      · have c7 := ci_le c7
        refine lv_iconst (v := 0) hx hb dX3_findInks_102 (by decide) ?_
        refine lv_istore_n (lv' := [(3, .int 0), (0, .ref a3), (1, .ref q1), (2, .int p2)]) hx hb dX3_findInks_103 rfl hl (by decide) rfl (fun ls hl => ?_)
        have lp104 : ∀ (n104 : Nat), (0 ≤ (0 : Int32).toInt) → (p2.toInt - (0 : Int32).toInt).toNat < n104 → ∀ (H : Heap) (locs : List Loc), va_P D vwCl [O3 a3 r3 v3_count v3_marks, (cI κ (r3 7) 40 g1), (cI κ (r3 8) 40 g2), (cI κ (r3 9) 6 g3), (cI κ q1 40 fq1)] H → va_D A [O3 a3 r3 v3_count v3_marks, (cI κ (r3 7) 40 g1), (cI κ (r3 8) 40 g2), (cI κ (r3 9) 6 g3), (cI κ q1 40 fq1)] → va_S A s.heap H locs → ∀ ls : Array Slot, lv_has ls 6 [(3, .int 0), (0, .ref a3), (1, .ref q1), (2, .int p2)] → W p l e ({ frames := 1, cells := 0, slots := 0, locals := 23 } : Room) s m args below meth c H locs 0 0 Q (F0 m 104 ls []) := by
          intro n104
          induction n104 with
          | zero =>
            intro h8 m9
            exact absurd m9 (Nat.not_lt_zero _)
          | succ n104 ih104 =>
            intro h8 m9 H locs hP hD hS ls hl
            refine lv_iload_n hx hb dX3_findInks_104 rfl (lv_at hl 0 rfl) ?_
            refine lv_iload_n hx hb dX3_findInks_105 rfl (lv_at hl 3 rfl) ?_
            refine lv_icmp_ge (tgt := 168) hx hb dX3_findInks_106 (by decide) (fun c10 => ?_) (fun c10 => ?_)
            · have c10 := ci_le c10
              have hpo : ∀ j : Nat, (g3 j).toInt = 0 := h4
              exact ret _ _ _ _ (g1, g2, g3) dX3_findInks_168 hpo hP hD hS
            have c10 := ci_nle c10
            exfalso
            omega
        exact lp104 ((p2.toInt - (0 : Int32).toInt).toNat + 1) (by omega) (by omega) _ _ hP hD hS _ hl
      have c7 := ci_nle c7
      exfalso
      omega
  exact lp26 ((v3_marks.toInt - (0 : Int32).toInt).toNat + 1) (by omega) (by omega) _ _ hP hD hS _ hl
set_option maxHeartbeats 4000000 in
set_option maxRecDepth 100000 in
theorem k_X3_cameAhead (l : Launch) (D : va_G) (κ : Nat → ClassId) (β : Nat) (a3 : Nat) (r3 : Nat → Nat) (v3_count : Int32) (v3_marks : Int32) (f3_inksAhead : Nat → Int32) (sz : Nat) (p1 : Int32) (p2 : Int32) (i1 : Rg 0 20 v3_count) (i2 : Rg 0 60 v3_marks) (hf3_inksAhead : ∀ j : Nat, (f3_inksAhead j).toInt = 0) (i3 : 0 ≤ p2.toInt ∧ p2.toInt ≤ 5) (i4 : v3_count.toInt = 0) (i5 : v3_marks.toInt = 0) : Met l yX3_cameAhead wsX3_cameAhead ({ frames := 1, cells := 0, slots := 0, locals := 21 } : Room) (PcK D κ β [O3 a3 r3 v3_count v3_marks, (cI κ (r3 9) 6 f3_inksAhead)] sz [.ref a3, .int p1, .int p2]) (QiK D (fun (r : Int32) (u : Unit) => r.toInt = 0) (fun (u : Unit) => [O3 a3 r3 v3_count v3_marks, (cI κ (r3 9) 6 f3_inksAhead)]) [O3 a3 r3 v3_count v3_marks, (cI κ (r3 9) 6 f3_inksAhead)] sz) 0 0 (va_A [O3 a3 r3 v3_count v3_marks, (cI κ (r3 9) 6 f3_inksAhead)] sz) := by
  refine ofK_z (cc := cX3_cameAhead) (maxL := 3) (own := RX3) (by decide) rfl rfl (Nat.le_of_ble_eq_true rfl) ?_
  intro p e s m args below meth c Q A ls hsz hx hb hml hts hown hK hA hAB hP hD hl ret
  have hS : va_S A s.heap s.heap [] := va_S.rf
  have hl : lv_has ls 3 [(0, .ref a3), (1, .int p1), (2, .int p2)] := hl
  have w0 := hts (.fieldLink RX3 33 "OlderSkin$Lines" "inksAhead" "[I") (List.mem_of_getElem? (i := 1) rfl)
  have w1 := (fun w h => List.mem_cons_of_mem _ (List.mem_append_right _ h) : ∀ w ∈ u_ws RX3 TX3 10, w ∈ wsX3_cameAhead)
  have w2 := hts (.initialized RX11) (List.mem_of_getElem? (i := 3) rfl)
  have w3 := hts (.static yX11_hasBit) (List.mem_of_getElem? (i := 2) rfl)
  have w4 := hK.2.1 ("OlderSkin$Lines", 63, ⟨"OlderSkin", "hasBit", "(II)Z"⟩, "OlderSkin") (by decide +kernel)
  refine lv_aload_n hx hb dX3_cameAhead_0 rfl (lv_at hl 0 rfl) ?_
  refine va_get (D := D) (ci := 3) (v := .ref (r3 9)) (C := RX3) (T := TX3) (N := 10) hx hb hts w1 hown hK.1 hP 0 rfl rfl 9 (by decide) w0 (fun _ h9 => h9) rfl dX3_cameAhead_1 ?_
  refine lv_iload_n hx hb dX3_cameAhead_4 rfl (lv_at hl 2 rfl) ?_
  refine va_iald hx hb hK.1 hP 1 1 rfl rfl (i := p2) (ix (by omega) (by omega)) dX3_cameAhead_5 ?_
  refine lv_topi (fun x1 e2 => ?_)
  have h3 : x1.toInt = 0 := by rw [e2]; exact hf3_inksAhead _
  refine lv_iload_n hx hb dX3_cameAhead_6 rfl (lv_at hl 1 rfl) ?_
  refine kcm_i hA hAB hP hD hS [false, false] rfl (fun _ => rfl) (fun hPc hDc => va_runSN (As := [.int x1, .int p1]) (rest := []) ⟨hx, hb, hml, hown, hts⟩ (k_X11_hasBit l D κ β s.heap.size x1 p1) ⟨va_cnB 2 hts gX3_cameAhead_X11_hasBit_n63 rfl rfl rfl w4 w2 (by decide +kernel) ⟨Nat.le_of_ble_eq_true rfl, Nat.le_of_ble_eq_true rfl⟩, w3, trivial⟩ (pk_S hK hS hAB hPc hDc) rfl rfl hl.1 rfl (lv_room (Nat.le_of_ble_eq_true rfl)) dX3_cameAhead_7 ⟨Nat.le_of_ble_eq_true rfl, Nat.le_of_ble_eq_true rfl⟩) (fun x4 u5 H locs hw hPD hS => ?_)
  obtain ⟨h6, h7⟩ : (x1.toInt ≠ 0 ∨ x4.toInt = 0) ∧ (x4.toInt = 0 ∨ x4.toInt = 1) := hw
  obtain ⟨hP, hD⟩ : PD D A [O3 a3 r3 v3_count v3_marks, (cI κ (r3 9) 6 f3_inksAhead)] H := hPD
  have hpo : x4.toInt = 0 := (by omega)
  exact ret _ _ _ _ x4 () dX3_cameAhead_10 (by omega) hpo hP hD hS
set_option maxHeartbeats 4000000 in
set_option maxRecDepth 100000 in
theorem k_X3_someLineHas (l : Launch) (D : va_G) (κ : Nat → ClassId) (β : Nat) (a3 : Nat) (r3 : Nat → Nat) (v3_count : Int32) (v3_marks : Int32) (sz : Nat) (p1 : Int32) (i1 : Rg 0 20 v3_count) (i2 : Rg 0 60 v3_marks) (i3 : v3_count.toInt = 0) (i4 : v3_marks.toInt = 0) : Met l yX3_someLineHas wsX3_someLineHas ({ frames := 0, cells := 0, slots := 0, locals := 0 } : Room) (PcK D κ β [O3 a3 r3 v3_count v3_marks] sz [.ref a3, .int p1]) (QiK D (fun (r : Int32) (u : Unit) => r.toInt = 0) (fun (u : Unit) => [O3 a3 r3 v3_count v3_marks]) [O3 a3 r3 v3_count v3_marks] sz) 0 0 (va_A [O3 a3 r3 v3_count v3_marks] sz) := by
  refine ofK_z (cc := cX3_someLineHas) (maxL := 3) (own := RX3) (by decide) rfl rfl (Nat.le_of_ble_eq_true rfl) ?_
  intro p e s m args below meth c Q A ls hsz hx hb hml hts hown hK hA hAB hP hD hl ret
  have hS : va_S A s.heap s.heap [] := va_S.rf
  have hl : lv_has ls 3 [(0, .ref a3), (1, .int p1)] := hl
  have w0 := hts (.fieldLink RX3 36 "OlderSkin$Lines" "count" "I") (List.mem_of_getElem? (i := 1) rfl)
  have w1 := (fun w h => List.mem_cons_of_mem _ (List.mem_append_right _ h) : ∀ w ∈ u_ws RX3 TX3 10, w ∈ wsX3_someLineHas)
  have l0 : (0 : Int32).toInt = 0 := by decide
  have i1 : 0 ≤ v3_count.toInt ∧ v3_count.toInt ≤ 20 := i1
  refine lv_iconst (v := 0) hx hb dX3_someLineHas_0 (by decide) ?_
  refine lv_istore_n (lv' := [(2, .int 0), (0, .ref a3), (1, .int p1)]) hx hb dX3_someLineHas_1 rfl hl (by decide) rfl (fun ls hl => ?_)
  have lp2 : ∀ (n2 : Nat), (0 ≤ (0 : Int32).toInt) → (v3_count.toInt - (0 : Int32).toInt).toNat < n2 → ∀ (H : Heap) (locs : List Loc), va_P D vwCl [O3 a3 r3 v3_count v3_marks] H → va_D A [O3 a3 r3 v3_count v3_marks] → va_S A s.heap H locs → ∀ ls : Array Slot, lv_has ls 3 [(2, .int 0), (0, .ref a3), (1, .int p1)] → W p l e ({ frames := 0, cells := 0, slots := 0, locals := 0 } : Room) s m args below meth c H locs 0 0 Q (F0 m 2 ls []) := by
    intro n2
    induction n2 with
    | zero =>
      intro h1 m2
      exact absurd m2 (Nat.not_lt_zero _)
    | succ n2 ih2 =>
      intro h1 m2 H locs hP hD hS ls hl
      refine lv_iload_n hx hb dX3_someLineHas_2 rfl (lv_at hl 0 rfl) ?_
      refine lv_aload_n hx hb dX3_someLineHas_3 rfl (lv_at hl 1 rfl) ?_
      refine va_get (D := D) (ci := 3) (v := .int v3_count) (C := RX3) (T := TX3) (N := 10) hx hb hts w1 hown hK.1 hP 0 rfl rfl 2 (by decide) w0 (fun _ h9 => h9) rfl dX3_someLineHas_4 ?_
      refine lv_icmp_ge (tgt := 28) hx hb dX3_someLineHas_7 (by decide) (fun c3 => ?_) (fun c3 => ?_)
      · have c3 := ci_le c3
        refine lv_iconst (v := 0) hx hb dX3_someLineHas_28 (by decide) ?_
        have hpo : (0 : Int32).toInt = 0 := (by omega)
        exact ret _ _ _ _ 0 () dX3_someLineHas_29 (by omega) hpo hP hD hS
      have c3 := ci_nle c3
      exfalso
      omega
  exact lp2 ((v3_count.toInt - (0 : Int32).toInt).toNat + 1) (by omega) (by omega) _ _ hP hD hS _ hl
set_option maxHeartbeats 4000000 in
set_option maxRecDepth 100000 in
theorem k_X3_firstInk (l : Launch) (D : va_G) (κ : Nat → ClassId) (β : Nat) (a3 : Nat) (r3 : Nat → Nat) (v3_count : Int32) (v3_marks : Int32) (f3_inksAhead : Nat → Int32) (sz : Nat) (i1 : Rg 0 20 v3_count) (i2 : Rg 0 60 v3_marks) (hf3_inksAhead : ∀ j : Nat, (f3_inksAhead j).toInt = 0) (i3 : v3_count.toInt = 0) (i4 : v3_marks.toInt = 0) : Met l yX3_firstInk wsX3_firstInk ({ frames := 1, cells := 0, slots := 0, locals := 22 } : Room) (PcK D κ β [O3 a3 r3 v3_count v3_marks, (cI κ (r3 9) 6 f3_inksAhead)] sz [.ref a3]) (QiK D (fun (r : Int32) (u : Unit) => r.toInt = -2) (fun (u : Unit) => [O3 a3 r3 v3_count v3_marks, (cI κ (r3 9) 6 f3_inksAhead)]) [O3 a3 r3 v3_count v3_marks, (cI κ (r3 9) 6 f3_inksAhead)] sz) 0 0 (va_A [O3 a3 r3 v3_count v3_marks, (cI κ (r3 9) 6 f3_inksAhead)] sz) := by
  refine ofK_i (cc := cX3_firstInk) (maxL := 2) (own := RX3) (by decide) rfl rfl (Nat.le_of_ble_eq_true rfl) ?_
  intro p e s m args below meth c Q A ls hsz hx hb hml hts hown hK hA hAB hP hD hl ret
  have hS : va_S A s.heap s.heap [] := va_S.rf
  have hl : lv_has ls 2 [(0, .ref a3)] := hl
  have w0 := hts (.fieldLink RX3 33 "OlderSkin$Lines" "inksAhead" "[I") (List.mem_of_getElem? (i := 1) rfl)
  have w1 := (fun w h => List.mem_cons_of_mem _ (List.mem_append_right _ h) : ∀ w ∈ u_ws RX3 TX3 10, w ∈ wsX3_firstInk)
  have l0 : (0 : Int32).toInt = 0 := by decide
  have l1 : (6 : Int32).toInt = 6 := by decide
  have l2 : ((-2) : Int32).toInt = -2 := by decide
  have l3 : (1 : Int32).toInt = 1 := by decide
  refine lv_iconst (v := 0) hx hb dX3_firstInk_0 (by decide) ?_
  refine lv_istore_n (lv' := [(1, .int 0), (0, .ref a3)]) hx hb dX3_firstInk_1 rfl hl (by decide) rfl (fun ls hl => ?_)
  have lp2 : ∀ (n2 : Nat) (k1 : Int32), (0 ≤ k1.toInt) → (6 - k1.toInt).toNat < n2 → ∀ (H : Heap) (locs : List Loc), va_P D vwCl [O3 a3 r3 v3_count v3_marks, (cI κ (r3 9) 6 f3_inksAhead)] H → va_D A [O3 a3 r3 v3_count v3_marks, (cI κ (r3 9) 6 f3_inksAhead)] → va_S A s.heap H locs → ∀ ls : Array Slot, lv_has ls 2 [(1, .int k1), (0, .ref a3)] → W p l e ({ frames := 1, cells := 0, slots := 0, locals := 22 } : Room) s m args below meth c H locs 0 0 Q (F0 m 2 ls []) := by
    intro n2
    induction n2 with
    | zero =>
      intro k1 h2 m3
      exact absurd m3 (Nat.not_lt_zero _)
    | succ n2 ih2 =>
      intro k1 h2 m3 H locs hP hD hS ls hl
      refine lv_iload_n hx hb dX3_firstInk_2 rfl (lv_at hl 0 rfl) ?_
      refine lv_bipush (v := 6) hx hb dX3_firstInk_3 (by decide) ?_
      refine lv_icmp_ge (tgt := 33) hx hb dX3_firstInk_5 (by decide) (fun c4 => ?_) (fun c4 => ?_)
      · have c4 := ci_le c4
        refine lv_bipush (v := (-2)) hx hb dX3_firstInk_33 (by decide) ?_
        have hpo : ((-2) : Int32).toInt = -2 := (by omega)
        exact ret _ _ _ _ (-2) () dX3_firstInk_35 hpo hP hD hS
      have c4 := ci_nle c4
      refine lv_aload_n hx hb dX3_firstInk_8 rfl (lv_at hl 1 rfl) ?_
      refine va_get (D := D) (ci := 3) (v := .ref (r3 9)) (C := RX3) (T := TX3) (N := 10) hx hb hts w1 hown hK.1 hP 0 rfl rfl 9 (by decide) w0 (fun _ h9 => h9) rfl dX3_firstInk_9 ?_
      refine lv_iload_n hx hb dX3_firstInk_12 rfl (lv_at hl 0 rfl) ?_
      refine va_iald hx hb hK.1 hP 1 1 rfl rfl (i := k1) (ix (by omega) (by omega)) dX3_firstInk_13 ?_
      refine lv_topi (fun x5 e6 => ?_)
      have h7 : x5.toInt = 0 := by rw [e6]; exact hf3_inksAhead _
      refine lv_if_ne (tgt := 27) hx hb dX3_firstInk_14 (by decide) (fun c8 => ?_) (fun c8 => ?_)
      · have c8 := ci_ne c8
        obtain ⟨x9, e10⟩ : ∃ y : Int32, y = k1 + 1 := ⟨_, rfl⟩
        refine lv_iinc (v := x9) (lv' := [(1, .int x9), (0, .ref a3)]) hx hb dX3_firstInk_27 hl (k := 0) rfl (by rw [e10]; rfl) (by decide) rfl (fun ls hl => ?_)
        try have h11 : x9.toInt = k1.toInt + (1 : Int32).toInt := ci_add e10 (by omega) (by omega)
        refine lv_goto (tgt := 2) hx hb dX3_firstInk_30 (by decide) ?_
        exact ih2 x9 (by omega) (by omega) _ _ hP hD hS _ hl
      have c8 := ci_eq c8
      refine lv_aload_n hx hb dX3_firstInk_17 rfl (lv_at hl 1 rfl) ?_
      refine lv_iload_n hx hb dX3_firstInk_18 rfl (lv_at hl 0 rfl) ?_
      refine kcm_i hA hAB hP hD hS [true, false] rfl (fun _ => rfl) (fun hPc hDc => va_runV (As := [.int k1]) (rest := []) ⟨hx, hb, hml, hown, hts⟩ (k_X3_someLineHas l D κ β a3 r3 v3_count v3_marks H.size k1 i1 i2 (by omega) (by omega)) (cwV 1 hts gX3_firstInk_X3_someLineHas rfl rfl rfl (by decide +kernel) ⟨Nat.le_of_ble_eq_true rfl, Nat.le_of_ble_eq_true rfl⟩) (pk_V hK hS hAB hPc hDc 0 (ci := 3) rfl rfl rfl) rfl rfl hl.1 rfl (lv_room (Nat.le_of_ble_eq_true rfl)) dX3_firstInk_19 ⟨Nat.le_of_ble_eq_true rfl, Nat.le_of_ble_eq_true rfl⟩) (fun x12 u13 H locs hw hPD hS => ?_)
      have h14 : x12.toInt = 0 := hw
      obtain ⟨hP, hD⟩ : PD D A [O3 a3 r3 v3_count v3_marks, (cI κ (r3 9) 6 f3_inksAhead)] H := hPD
      refine lv_if_eq (tgt := 27) hx hb dX3_firstInk_22 (by decide) (fun c15 => ?_) (fun c15 => ?_)
      · have c15 := ci_eq c15
        obtain ⟨x16, e17⟩ : ∃ y : Int32, y = k1 + 1 := ⟨_, rfl⟩
        refine lv_iinc (v := x16) (lv' := [(1, .int x16), (0, .ref a3)]) hx hb dX3_firstInk_27 hl (k := 0) rfl (by rw [e17]; rfl) (by decide) rfl (fun ls hl => ?_)
        try have h18 : x16.toInt = k1.toInt + (1 : Int32).toInt := ci_add e17 (by omega) (by omega)
        refine lv_goto (tgt := 2) hx hb dX3_firstInk_30 (by decide) ?_
        exact ih2 x16 (by omega) (by omega) _ _ hP hD hS _ hl
      have c15 := ci_ne c15
      exfalso
      omega
  exact lp2 ((6 - (0 : Int32).toInt).toNat + 1) 0 (by omega) (by omega) _ _ hP hD hS _ hl
set_option maxHeartbeats 4000000 in
set_option maxRecDepth 100000 in
theorem k_X3_leastRing (l : Launch) (D : va_G) (κ : Nat → ClassId) (β : Nat) (a3 : Nat) (r3 : Nat → Nat) (v3_count : Int32) (v3_marks : Int32) (f3_inksAhead : Nat → Int32) (sz : Nat) (i1 : Rg 0 20 v3_count) (i2 : Rg 0 60 v3_marks) (hf3_inksAhead : ∀ j : Nat, (f3_inksAhead j).toInt = 0) (i3 : v3_count.toInt = 0) (i4 : v3_marks.toInt = 0) : Met l yX3_leastRing wsX3_leastRing ({ frames := 2, cells := 0, slots := 0, locals := 43 } : Room) (PcK D κ β [O3 a3 r3 v3_count v3_marks, (cI κ (r3 9) 6 f3_inksAhead)] sz [.ref a3]) (QiK D (fun (r : Int32) (u : Unit) => r.toInt = -2) (fun (u : Unit) => [O3 a3 r3 v3_count v3_marks, (cI κ (r3 9) 6 f3_inksAhead)]) [O3 a3 r3 v3_count v3_marks, (cI κ (r3 9) 6 f3_inksAhead)] sz) 0 0 (va_A [O3 a3 r3 v3_count v3_marks, (cI κ (r3 9) 6 f3_inksAhead)] sz) := by
  refine ofK_i (cc := cX3_leastRing) (maxL := 3) (own := RX3) (by decide) rfl rfl (Nat.le_of_ble_eq_true rfl) ?_
  intro p e s m args below meth c Q A ls hsz hx hb hml hts hown hK hA hAB hP hD hl ret
  have hS : va_S A s.heap s.heap [] := va_S.rf
  have hl : lv_has ls 3 [(0, .ref a3)] := hl
  have l0 : (0 : Int32).toInt = 0 := by decide
  have l1 : (6 : Int32).toInt = 6 := by decide
  have l2 : ((-2) : Int32).toInt = -2 := by decide
  have l3 : (1 : Int32).toInt = 1 := by decide
  refine lv_iconst (v := 0) hx hb dX3_leastRing_0 (by decide) ?_
  refine lv_istore_n (lv' := [(1, .int 0), (0, .ref a3)]) hx hb dX3_leastRing_1 rfl hl (by decide) rfl (fun ls hl => ?_)
  have lp2 : ∀ (n2 : Nat) (k1 : Int32), (0 ≤ k1.toInt) → (6 - k1.toInt).toNat < n2 → ∀ (H : Heap) (locs : List Loc), va_P D vwCl [O3 a3 r3 v3_count v3_marks, (cI κ (r3 9) 6 f3_inksAhead)] H → va_D A [O3 a3 r3 v3_count v3_marks, (cI κ (r3 9) 6 f3_inksAhead)] → va_S A s.heap H locs → ∀ ls : Array Slot, lv_has ls 3 [(1, .int k1), (0, .ref a3)] → W p l e ({ frames := 2, cells := 0, slots := 0, locals := 43 } : Room) s m args below meth c H locs 0 0 Q (F0 m 2 ls []) := by
    intro n2
    induction n2 with
    | zero =>
      intro k1 h2 m3
      exact absurd m3 (Nat.not_lt_zero _)
    | succ n2 ih2 =>
      intro k1 h2 m3 H locs hP hD hS ls hl
      refine lv_iload_n hx hb dX3_leastRing_2 rfl (lv_at hl 0 rfl) ?_
      refine lv_bipush (v := 6) hx hb dX3_leastRing_3 (by decide) ?_
      refine lv_icmp_ge (tgt := 55) hx hb dX3_leastRing_5 (by decide) (fun c4 => ?_) (fun c4 => ?_)
      · have c4 := ci_le c4
        refine lv_bipush (v := (-2)) hx hb dX3_leastRing_55 (by decide) ?_
        have hpo : ((-2) : Int32).toInt = -2 := (by omega)
        exact ret _ _ _ _ (-2) () dX3_leastRing_57 hpo hP hD hS
      have c4 := ci_nle c4
      refine lv_iload_n hx hb dX3_leastRing_8 rfl (lv_at hl 0 rfl) ?_
      refine lv_iconst (v := 1) hx hb dX3_leastRing_9 (by decide) ?_
      refine lv_iadd hx hb dX3_leastRing_10 ?_
      refine lv_topi (fun x5 e6 => ?_)
      try have h7 : x5.toInt = k1.toInt + (1 : Int32).toInt := ci_add e6 (by omega) (by omega)
      refine lv_istore_n (lv' := [(2, .int x5), (1, .int k1), (0, .ref a3)]) hx hb dX3_leastRing_11 rfl hl (by decide) rfl (fun ls hl => ?_)
      have lp12 : ∀ (n12 : Nat) (k8 : Int32), (0 ≤ k8.toInt) → (6 - k8.toInt).toNat < n12 → ∀ (H : Heap) (locs : List Loc), va_P D vwCl [O3 a3 r3 v3_count v3_marks, (cI κ (r3 9) 6 f3_inksAhead)] H → va_D A [O3 a3 r3 v3_count v3_marks, (cI κ (r3 9) 6 f3_inksAhead)] → va_S A s.heap H locs → ∀ ls : Array Slot, lv_has ls 3 [(2, .int k8), (1, .int k1), (0, .ref a3)] → W p l e ({ frames := 2, cells := 0, slots := 0, locals := 43 } : Room) s m args below meth c H locs 0 0 Q (F0 m 12 ls []) := by
        intro n12
        induction n12 with
        | zero =>
          intro k8 h9 m10
          exact absurd m10 (Nat.not_lt_zero _)
        | succ n12 ih12 =>
          intro k8 h9 m10 H locs hP hD hS ls hl
          refine lv_iload_n hx hb dX3_leastRing_12 rfl (lv_at hl 0 rfl) ?_
          refine lv_bipush (v := 6) hx hb dX3_leastRing_13 (by decide) ?_
          refine lv_icmp_ge (tgt := 49) hx hb dX3_leastRing_15 (by decide) (fun c11 => ?_) (fun c11 => ?_)
          · have c11 := ci_le c11
            obtain ⟨x12, e13⟩ : ∃ y : Int32, y = k1 + 1 := ⟨_, rfl⟩
            refine lv_iinc (v := x12) (lv' := [(1, .int x12), (2, .int k8), (0, .ref a3)]) hx hb dX3_leastRing_49 hl (k := 1) rfl (by rw [e13]; rfl) (by decide) rfl (fun ls hl => ?_)
            try have h14 : x12.toInt = k1.toInt + (1 : Int32).toInt := ci_add e13 (by omega) (by omega)
            refine lv_goto (tgt := 2) hx hb dX3_leastRing_52 (by decide) ?_
            exact ih2 x12 (by omega) (by omega) _ _ hP hD hS _ (lv_sub hl [0, 2] rfl)
          have c11 := ci_nle c11
          refine lv_aload_n hx hb dX3_leastRing_18 rfl (lv_at hl 2 rfl) ?_
          refine lv_iload_n hx hb dX3_leastRing_19 rfl (lv_at hl 1 rfl) ?_
          refine lv_iload_n hx hb dX3_leastRing_20 rfl (lv_at hl 0 rfl) ?_
          refine kcm_i hA hAB hP hD hS [true, true] rfl (fun _ => rfl) (fun hPc hDc => va_runV (As := [.int k1, .int k8]) (rest := []) ⟨hx, hb, hml, hown, hts⟩ (k_X3_cameAhead l D κ β a3 r3 v3_count v3_marks f3_inksAhead H.size k1 k8 i1 i2 hf3_inksAhead (by omega) (by omega) (by omega)) (cwV 2 hts gX3_leastRing_X3_cameAhead rfl rfl rfl (by decide +kernel) ⟨Nat.le_of_ble_eq_true rfl, Nat.le_of_ble_eq_true rfl⟩) (pk_V hK hS hAB hPc hDc 0 (ci := 3) rfl rfl rfl) rfl rfl hl.1 rfl (lv_room (Nat.le_of_ble_eq_true rfl)) dX3_leastRing_21 ⟨Nat.le_of_ble_eq_true rfl, Nat.le_of_ble_eq_true rfl⟩) (fun x15 u16 H locs hw hPD hS => ?_)
          have h17 : x15.toInt = 0 := hw
          obtain ⟨hP, hD⟩ : PD D A [O3 a3 r3 v3_count v3_marks, (cI κ (r3 9) 6 f3_inksAhead)] H := hPD
          refine lv_if_eq (tgt := 43) hx hb dX3_leastRing_24 (by decide) (fun c18 => ?_) (fun c18 => ?_)
          · have c18 := ci_eq c18
            obtain ⟨x19, e20⟩ : ∃ y : Int32, y = k8 + 1 := ⟨_, rfl⟩
            refine lv_iinc (v := x19) (lv' := [(2, .int x19), (1, .int k1), (0, .ref a3)]) hx hb dX3_leastRing_43 hl (k := 0) rfl (by rw [e20]; rfl) (by decide) rfl (fun ls hl => ?_)
            try have h21 : x19.toInt = k8.toInt + (1 : Int32).toInt := ci_add e20 (by omega) (by omega)
            refine lv_goto (tgt := 12) hx hb dX3_leastRing_46 (by decide) ?_
            exact ih12 x19 (by omega) (by omega) _ _ hP hD hS _ hl
          have c18 := ci_ne c18
          exfalso
          omega
      exact lp12 ((6 - x5.toInt).toNat + 1) x5 (by omega) (by omega) _ _ hP hD hS _ hl
  exact lp2 ((6 - (0 : Int32).toInt).toNat + 1) 0 (by omega) (by omega) _ _ hP hD hS _ hl
set_option maxHeartbeats 4000000 in
set_option maxRecDepth 100000 in
theorem k_X3_foughtWorm (l : Launch) (D : va_G) (κ : Nat → ClassId) (β : Nat) (a3 : Nat) (r3 : Nat → Nat) (v3_count : Int32) (v3_marks : Int32) (fq2 : Nat → Int32) (sz : Nat) (p1 : Int32) (q2 : Nat) (i1 : Rg 0 20 v3_count) (i2 : Rg 0 60 v3_marks) (i3 : (1 : Int) ≤ 0) : Met l yX3_foughtWorm wsX3_foughtWorm ({ frames := 1, cells := 0, slots := 0, locals := 30 } : Room) (PcK D κ β [O3 a3 r3 v3_count v3_marks, (cI κ q2 40 fq2)] sz [.ref a3, .int p1, .ref q2]) (QiK D (fun (r : Int32) (u : Unit) => True) (fun (u : Unit) => [O3 a3 r3 v3_count v3_marks, (cI κ q2 40 fq2)]) [O3 a3 r3 v3_count v3_marks, (cI κ q2 40 fq2)] sz) 0 0 (va_A [O3 a3 r3 v3_count v3_marks, (cI κ q2 40 fq2)] sz) := by
  refine ofK_i (cc := cX3_foughtWorm) (maxL := 6) (own := RX3) (by decide) rfl rfl (Nat.le_of_ble_eq_true rfl) ?_
  intro p e s m args below meth c Q A ls hsz hx hb hml hts hown hK hA hAB hP hD hl ret
  have hS : va_S A s.heap s.heap [] := va_S.rf
  have hl : lv_has ls 6 [(0, .ref a3), (1, .int p1), (2, .ref q2)] := hl
  have i2 : 0 ≤ v3_marks.toInt ∧ v3_marks.toInt ≤ 60 := i2
  exfalso
  omega
set_option maxHeartbeats 4000000 in
set_option maxRecDepth 100000 in
theorem k_X3_firstFighting (l : Launch) (D : va_G) (κ : Nat → ClassId) (β : Nat) (a3 : Nat) (r3 : Nat → Nat) (v3_count : Int32) (v3_marks : Int32) (fq1 : Nat → Int32) (sz : Nat) (q1 : Nat) (i1 : Rg 0 20 v3_count) (i2 : Rg 0 60 v3_marks) (hfq1 : ∀ j : Nat, 0 ≤ (fq1 j).toInt ∧ (fq1 j).toInt ≤ 39) (i3 : v3_count.toInt = 0) (i4 : v3_marks.toInt = 0) : Met l yX3_firstFighting wsX3_firstFighting ({ frames := 0, cells := 0, slots := 0, locals := 0 } : Room) (PcK D κ β [O3 a3 r3 v3_count v3_marks, (cI κ q1 40 fq1)] sz [.ref a3, .ref q1]) (QiK D (fun (r : Int32) (u : Unit) => -1 ≤ r.toInt ∧ r.toInt < v3_count.toInt) (fun (u : Unit) => [O3 a3 r3 v3_count v3_marks, (cI κ q1 40 fq1)]) [O3 a3 r3 v3_count v3_marks, (cI κ q1 40 fq1)] sz) 0 0 (va_A [O3 a3 r3 v3_count v3_marks, (cI κ q1 40 fq1)] sz) := by
  refine ofK_i (cc := cX3_firstFighting) (maxL := 3) (own := RX3) (by decide) rfl rfl (Nat.le_of_ble_eq_true rfl) ?_
  intro p e s m args below meth c Q A ls hsz hx hb hml hts hown hK hA hAB hP hD hl ret
  have hS : va_S A s.heap s.heap [] := va_S.rf
  have hl : lv_has ls 3 [(0, .ref a3), (1, .ref q1)] := hl
  have w0 := hts (.fieldLink RX3 36 "OlderSkin$Lines" "count" "I") (List.mem_of_getElem? (i := 1) rfl)
  have w1 := (fun w h => List.mem_cons_of_mem _ (List.mem_append_right _ h) : ∀ w ∈ u_ws RX3 TX3 10, w ∈ wsX3_firstFighting)
  have l0 : (0 : Int32).toInt = 0 := by decide
  have l1 : ((-1) : Int32).toInt = -1 := by decide
  have i1 : 0 ≤ v3_count.toInt ∧ v3_count.toInt ≤ 20 := i1
  refine lv_iconst (v := 0) hx hb dX3_firstFighting_0 (by decide) ?_
  refine lv_istore_n (lv' := [(2, .int 0), (0, .ref a3), (1, .ref q1)]) hx hb dX3_firstFighting_1 rfl hl (by decide) rfl (fun ls hl => ?_)
  have lp2 : ∀ (n2 : Nat), (0 ≤ (0 : Int32).toInt) → (v3_count.toInt - (0 : Int32).toInt).toNat < n2 → ∀ (H : Heap) (locs : List Loc), va_P D vwCl [O3 a3 r3 v3_count v3_marks, (cI κ q1 40 fq1)] H → va_D A [O3 a3 r3 v3_count v3_marks, (cI κ q1 40 fq1)] → va_S A s.heap H locs → ∀ ls : Array Slot, lv_has ls 3 [(2, .int 0), (0, .ref a3), (1, .ref q1)] → W p l e ({ frames := 0, cells := 0, slots := 0, locals := 0 } : Room) s m args below meth c H locs 0 0 Q (F0 m 2 ls []) := by
    intro n2
    induction n2 with
    | zero =>
      intro h1 m2
      exact absurd m2 (Nat.not_lt_zero _)
    | succ n2 ih2 =>
      intro h1 m2 H locs hP hD hS ls hl
      refine lv_iload_n hx hb dX3_firstFighting_2 rfl (lv_at hl 0 rfl) ?_
      refine lv_aload_n hx hb dX3_firstFighting_3 rfl (lv_at hl 1 rfl) ?_
      refine va_get (D := D) (ci := 3) (v := .int v3_count) (C := RX3) (T := TX3) (N := 10) hx hb hts w1 hown hK.1 hP 0 rfl rfl 2 (by decide) w0 (fun _ h9 => h9) rfl dX3_firstFighting_4 ?_
      refine lv_icmp_ge (tgt := 27) hx hb dX3_firstFighting_7 (by decide) (fun c3 => ?_) (fun c3 => ?_)
      · have c3 := ci_le c3
        refine lv_iconst (v := (-1)) hx hb dX3_firstFighting_27 (by decide) ?_
        have hpo : -1 ≤ ((-1) : Int32).toInt ∧ ((-1) : Int32).toInt < v3_count.toInt := (by omega)
        exact ret _ _ _ _ (-1) () dX3_firstFighting_28 hpo hP hD hS
      have c3 := ci_nle c3
      exfalso
      omega
  exact lp2 ((v3_count.toInt - (0 : Int32).toInt).toNat + 1) (by omega) (by omega) _ _ hP hD hS _ hl
