set_option maxHeartbeats 4000000 in
set_option maxRecDepth 100000 in
theorem k_J7_fill_d0a16 (l : Launch) (D : va_G) (κ : Nat → ClassId) (β : Nat) (nq1 : Nat) (fq1 : Nat → Int64) (sz : Nat) (q1 : Nat) (p2 : Int64) (i1 : ((nq1 : Nat) : Int) ≤ 1000000) : Met l yJ7_fill_d0a16 wsJ7_fill_d0a16 ({ frames := 0, cells := 0, slots := 0, locals := 0 } : Room) (PcK D κ β [(cJ κ q1 nq1 fq1)] sz [.ref q1, .long p2]) (QvK D (fun (u : (Nat → Int64)) => True) (fun (u : (Nat → Int64)) => [(cJ κ q1 nq1 u)]) [(cJ κ q1 nq1 fq1)] sz) 0 0 (va_A [(cJ κ q1 nq1 fq1)] sz) := by
  refine ofK_v (cc := cJ7_fill_d0a16) (maxL := 5) (own := RJ7) (by decide) rfl rfl (Nat.le_of_ble_eq_true rfl) ?_
  intro p e s m args below meth c Q A ls hsz hx hb hml hts hown hK hA hAB hP hD hl hname ret
  have hS : va_S A s.heap s.heap [] := va_S.rf
  have hl : lv_has ls 5 [(0, .ref q1), (1, .long p2)] := hl
  have l0 : (0 : Int32).toInt = 0 := by decide
  have l1 : (1 : Int32).toInt = 1 := by decide
  refine lv_iconst (v := 0) hx hb dJ7_fill_d0a16_0 (by decide) ?_
  refine lv_istore_n (lv' := [(3, .int 0), (0, .ref q1), (1, .long p2)]) hx hb dJ7_fill_d0a16_1 rfl hl (by decide) rfl (fun ls hl => ?_)
  refine lv_aload_n hx hb dJ7_fill_d0a16_2 rfl (lv_at hl 1 rfl) ?_
  refine va_alen hx hb hK.1 hP 0 2 rfl rfl rfl dJ7_fill_d0a16_3 ?_
  refine lv_topi (fun x1 e2 => ?_)
  have h3 : x1.toInt = ((nq1 : Nat) : Int) := ci_len e2 (by omega)
  refine lv_istore (lv' := [(4, .int x1), (3, .int 0), (0, .ref q1), (1, .long p2)]) hx hb dJ7_fill_d0a16_4 hl (by decide) rfl (fun ls hl => ?_)
  have lp6 : ∀ (n6 : Nat) (k4 : Int32) (g5 : Nat → Int64), (0 ≤ k4.toInt) → (x1.toInt - k4.toInt).toNat < n6 → ∀ (H : Heap) (locs : List Loc), va_P D vwCl [(cJ κ q1 nq1 g5)] H → va_D A [(cJ κ q1 nq1 g5)] → va_S A s.heap H locs → ∀ ls : Array Slot, lv_has ls 5 [(4, .int x1), (3, .int k4), (0, .ref q1), (1, .long p2)] → W p l e ({ frames := 0, cells := 0, slots := 0, locals := 0 } : Room) s m args below meth c H locs 0 0 Q (F0 m 6 ls []) := by
    intro n6
    induction n6 with
    | zero =>
      intro k4 g5 h6 m7
      exact absurd m7 (Nat.not_lt_zero _)
    | succ n6 ih6 =>
      intro k4 g5 h6 m7 H locs hP hD hS ls hl
      refine lv_iload_n hx hb dJ7_fill_d0a16_6 rfl (lv_at hl 1 rfl) ?_
      refine lv_iload hx hb dJ7_fill_d0a16_7 (lv_at hl 0 rfl) ?_
      refine lv_icmp_ge (tgt := 22) hx hb dJ7_fill_d0a16_9 (by decide) (fun c8 => ?_) (fun c8 => ?_)
      · have c8 := ci_le c8
        exact ret _ _ _ _ g5 dJ7_fill_d0a16_22 trivial hP hD hS
      have c8 := ci_nle c8
      refine lv_aload_n hx hb dJ7_fill_d0a16_12 rfl (lv_at hl 2 rfl) ?_
      refine lv_iload_n hx hb dJ7_fill_d0a16_13 rfl (lv_at hl 1 rfl) ?_
      refine lv_lload_n hx hb dJ7_fill_d0a16_14 rfl (lv_at hl 3 rfl) ?_
      refine va_last hx hb hK.1 hP hD hS 0 2 rfl rfl (i := k4) (ix (by omega) (by omega)) dJ7_fill_d0a16_15 (fun H locs hP hD hS => ?_)
      obtain ⟨g9, e10⟩ : ∃ y : Nat → Int64, y = vp_updL g5 k4.toNatClampNeg p2 := ⟨_, rfl⟩
      rw [← e10] at hP hD
      obtain ⟨hP, hD⟩ : PD D A [(cJ κ q1 nq1 g9)] H := ⟨hP, hD⟩
      obtain ⟨x11, e12⟩ : ∃ y : Int32, y = k4 + 1 := ⟨_, rfl⟩
      refine lv_iinc (v := x11) (lv' := [(3, .int x11), (4, .int x1), (0, .ref q1), (1, .long p2)]) hx hb dJ7_fill_d0a16_16 hl (k := 1) rfl (by rw [e12]; rfl) (by decide) rfl (fun ls hl => ?_)
      try have h13 : x11.toInt = k4.toInt + (1 : Int32).toInt := ci_add e12 (by omega) (by omega)
      refine lv_goto (tgt := 6) hx hb dJ7_fill_d0a16_19 (by decide) ?_
      exact ih6 x11 g9 (by omega) (by omega) _ _ hP hD hS _ (lv_sub hl [1, 0, 2, 3] rfl)
  exact lp6 ((x1.toInt - (0 : Int32).toInt).toNat + 1) 0 fq1 (by omega) (by omega) _ _ hP hD hS _ hl
set_option maxHeartbeats 4000000 in
set_option maxRecDepth 100000 in
theorem k_X8_isShelf (l : Launch) (D : va_G) (κ : Nat → ClassId) (β : Nat) (a8 : Nat) (r8 : Nat → Nat) (f8_sorts : Nat → Int32) (sz : Nat) (p1 : Int32) : Met l yX8_isShelf wsX8_isShelf ({ frames := 1, cells := 0, slots := 0, locals := 22 } : Room) (PcK D κ β [O8 a8 r8, (cI κ (r8 0) 6 f8_sorts)] sz [.ref a8, .int p1]) (QiK D (fun (r : Int32) (u : Unit) => (r.toInt = 1 ∧ 0 ≤ p1.toInt ∧ p1.toInt ≤ 5) ∨ (r.toInt = 0 ∧ (p1.toInt < 0 ∨ 5 < p1.toInt))) (fun (u : Unit) => [O8 a8 r8, (cI κ (r8 0) 6 f8_sorts)]) [O8 a8 r8, (cI κ (r8 0) 6 f8_sorts)] sz) 0 0 (va_A [O8 a8 r8, (cI κ (r8 0) 6 f8_sorts)] sz) := by
  refine ofK_z (cc := cX8_isShelf) (maxL := 2) (own := RX8) (by decide) rfl rfl (Nat.le_of_ble_eq_true rfl) ?_
  intro p e s m args below meth c Q A ls hsz hx hb hml hts hown hK hA hAB hP hD hl ret
  have hS : va_S A s.heap s.heap [] := va_S.rf
  have hl : lv_has ls 2 [(0, .ref a8), (1, .int p1)] := hl
  have w0 := hts (.fieldLink RX8 11 "OlderSkin$Shelves" "sorts" "[I") (List.mem_of_getElem? (i := 1) rfl)
  have w1 := (fun w h => List.mem_cons_of_mem _ (List.mem_append_right _ h) : ∀ w ∈ u_ws RX8 TX8 4, w ∈ wsX8_isShelf)
  have w2 := hts (.initialized RX11) (List.mem_of_getElem? (i := 3) rfl)
  have w3 := hts (.static yX11_within) (List.mem_of_getElem? (i := 2) rfl)
  have w4 := hK.2.1 ("OlderSkin$Shelves", 26, ⟨"OlderSkin", "within", "(III)Z"⟩, "OlderSkin") (by decide +kernel)
  have l0 : (0 : Int32).toInt = 0 := by decide
  have l1 : (6 : Int32).toInt = 6 := by decide
  have l2 : (1 : Int32).toInt = 1 := by decide
  refine lv_iload_n hx hb dX8_isShelf_0 rfl (lv_at hl 1 rfl) ?_
  refine lv_iconst (v := 0) hx hb dX8_isShelf_1 (by decide) ?_
  refine lv_aload_n hx hb dX8_isShelf_2 rfl (lv_at hl 0 rfl) ?_
  refine va_get (D := D) (ci := 8) (v := .ref (r8 0)) (C := RX8) (T := TX8) (N := 4) hx hb hts w1 hown hK.1 hP 0 rfl rfl 0 (by decide) w0 (fun _ h9 => h9) rfl dX8_isShelf_3 ?_
  refine va_alen hx hb hK.1 hP 1 1 rfl rfl (v := 6) rfl dX8_isShelf_6 ?_
  refine lv_iconst (v := 1) hx hb dX8_isShelf_7 (by decide) ?_
  refine lv_isub hx hb dX8_isShelf_8 ?_
  refine lv_topi (fun x1 e2 => ?_)
  try have h3 : x1.toInt = (6 : Int32).toInt - (1 : Int32).toInt := ci_sub e2 (by omega) (by omega)
  refine kcm_i hA hAB hP hD hS [false, false] rfl (fun _ => rfl) (fun hPc hDc => va_runSN (As := [.int p1, .int 0, .int x1]) (rest := []) ⟨hx, hb, hml, hown, hts⟩ (k_X11_within l D κ β s.heap.size p1 0 x1) ⟨va_cnB 3 hts gX8_isShelf_X11_within_n26 rfl rfl rfl w4 w2 (by decide +kernel) ⟨Nat.le_of_ble_eq_true rfl, Nat.le_of_ble_eq_true rfl⟩, w3, trivial⟩ (pk_S hK hS hAB hPc hDc) rfl rfl hl.1 rfl (lv_room (Nat.le_of_ble_eq_true rfl)) dX8_isShelf_9 ⟨Nat.le_of_ble_eq_true rfl, Nat.le_of_ble_eq_true rfl⟩) (fun x4 u5 H locs hw hPD hS => ?_)
  have h6 : (x4.toInt = 1 ∧ (0 : Int32).toInt ≤ p1.toInt ∧ p1.toInt ≤ x1.toInt) ∨ (x4.toInt = 0 ∧ (p1.toInt < (0 : Int32).toInt ∨ x1.toInt < p1.toInt)) := hw
  obtain ⟨hP, hD⟩ : PD D A [O8 a8 r8, (cI κ (r8 0) 6 f8_sorts)] H := hPD
  have hpo : (x4.toInt = 1 ∧ 0 ≤ p1.toInt ∧ p1.toInt ≤ 5) ∨ (x4.toInt = 0 ∧ (p1.toInt < 0 ∨ 5 < p1.toInt)) := (by omega)
  exact ret _ _ _ _ x4 () dX8_isShelf_12 (by omega) hpo hP hD hS
set_option maxHeartbeats 4000000 in
set_option maxRecDepth 100000 in
theorem k_X8_isBare (l : Launch) (D : va_G) (κ : Nat → ClassId) (β : Nat) (a8 : Nat) (r8 : Nat → Nat) (f8_sorts : Nat → Int32) (sz : Nat) (p1 : Int32) (i1 : 0 ≤ p1.toInt ∧ p1.toInt ≤ 5) : Met l yX8_isBare wsX8_isBare ({ frames := 0, cells := 0, slots := 0, locals := 0 } : Room) (PcK D κ β [O8 a8 r8, (cI κ (r8 0) 6 f8_sorts)] sz [.ref a8, .int p1]) (QiK D (fun (r : Int32) (u : Unit) => r.toInt = 0 ∨ r.toInt = 1) (fun (u : Unit) => [O8 a8 r8, (cI κ (r8 0) 6 f8_sorts)]) [O8 a8 r8, (cI κ (r8 0) 6 f8_sorts)] sz) 0 0 (va_A [O8 a8 r8, (cI κ (r8 0) 6 f8_sorts)] sz) := by
  refine ofK_z (cc := cX8_isBare) (maxL := 2) (own := RX8) (by decide) rfl rfl (Nat.le_of_ble_eq_true rfl) ?_
  intro p e s m args below meth c Q A ls hsz hx hb hml hts hown hK hA hAB hP hD hl ret
  have hS : va_S A s.heap s.heap [] := va_S.rf
  have hl : lv_has ls 2 [(0, .ref a8), (1, .int p1)] := hl
  have w0 := hts (.fieldLink RX8 11 "OlderSkin$Shelves" "sorts" "[I") (List.mem_of_getElem? (i := 1) rfl)
  have w1 := (fun w h => List.mem_cons_of_mem _ (List.mem_append_right _ h) : ∀ w ∈ u_ws RX8 TX8 4, w ∈ wsX8_isBare)
  have l0 : ((-1) : Int32).toInt = -1 := by decide
  have l1 : (0 : Int32).toInt = 0 := by decide
  have l2 : (1 : Int32).toInt = 1 := by decide
  refine lv_aload_n hx hb dX8_isBare_0 rfl (lv_at hl 0 rfl) ?_
  refine va_get (D := D) (ci := 8) (v := .ref (r8 0)) (C := RX8) (T := TX8) (N := 4) hx hb hts w1 hown hK.1 hP 0 rfl rfl 0 (by decide) w0 (fun _ h9 => h9) rfl dX8_isBare_1 ?_
  refine lv_iload_n hx hb dX8_isBare_4 rfl (lv_at hl 1 rfl) ?_
  refine va_iald hx hb hK.1 hP 1 1 rfl rfl (i := p1) (ix (by omega) (by omega)) dX8_isBare_5 ?_
  refine lv_topi (fun x1 e2 => ?_)
  refine lv_iconst (v := (-1)) hx hb dX8_isBare_6 (by decide) ?_
  refine lv_icmp_ne (tgt := 14) hx hb dX8_isBare_7 (by decide) (fun c3 => ?_) (fun c3 => ?_)
  · have c3 := ci_ne c3
    refine lv_iconst (v := 0) hx hb dX8_isBare_14 (by decide) ?_
    have hpo : (0 : Int32).toInt = 0 ∨ (0 : Int32).toInt = 1 := (by omega)
    exact ret _ _ _ _ 0 () dX8_isBare_15 (by omega) hpo hP hD hS
  have c3 := ci_eq c3
  refine lv_iconst (v := 1) hx hb dX8_isBare_10 (by decide) ?_
  refine lv_goto (tgt := 15) hx hb dX8_isBare_11 (by decide) ?_
  have hpo : (1 : Int32).toInt = 0 ∨ (1 : Int32).toInt = 1 := (by omega)
  exact ret _ _ _ _ 1 () dX8_isBare_15 (by omega) hpo hP hD hS
set_option maxHeartbeats 4000000 in
set_option maxRecDepth 100000 in
theorem k_X8_holdsSort (l : Launch) (D : va_G) (κ : Nat → ClassId) (β : Nat) (a8 : Nat) (r8 : Nat → Nat) (f8_sorts : Nat → Int32) (sz : Nat) (p1 : Int32) (p2 : Int32) (i1 : 0 ≤ p1.toInt ∧ p1.toInt ≤ 5) : Met l yX8_holdsSort wsX8_holdsSort ({ frames := 0, cells := 0, slots := 0, locals := 0 } : Room) (PcK D κ β [O8 a8 r8, (cI κ (r8 0) 6 f8_sorts)] sz [.ref a8, .int p1, .int p2]) (QiK D (fun (r : Int32) (u : Unit) => r.toInt = 0 ∨ r.toInt = 1) (fun (u : Unit) => [O8 a8 r8, (cI κ (r8 0) 6 f8_sorts)]) [O8 a8 r8, (cI κ (r8 0) 6 f8_sorts)] sz) 0 0 (va_A [O8 a8 r8, (cI κ (r8 0) 6 f8_sorts)] sz) := by
  refine ofK_z (cc := cX8_holdsSort) (maxL := 3) (own := RX8) (by decide) rfl rfl (Nat.le_of_ble_eq_true rfl) ?_
  intro p e s m args below meth c Q A ls hsz hx hb hml hts hown hK hA hAB hP hD hl ret
  have hS : va_S A s.heap s.heap [] := va_S.rf
  have hl : lv_has ls 3 [(0, .ref a8), (1, .int p1), (2, .int p2)] := hl
  have w0 := hts (.fieldLink RX8 11 "OlderSkin$Shelves" "sorts" "[I") (List.mem_of_getElem? (i := 1) rfl)
  have w1 := (fun w h => List.mem_cons_of_mem _ (List.mem_append_right _ h) : ∀ w ∈ u_ws RX8 TX8 4, w ∈ wsX8_holdsSort)
  have l0 : (0 : Int32).toInt = 0 := by decide
  have l1 : (1 : Int32).toInt = 1 := by decide
  refine lv_aload_n hx hb dX8_holdsSort_0 rfl (lv_at hl 0 rfl) ?_
  refine va_get (D := D) (ci := 8) (v := .ref (r8 0)) (C := RX8) (T := TX8) (N := 4) hx hb hts w1 hown hK.1 hP 0 rfl rfl 0 (by decide) w0 (fun _ h9 => h9) rfl dX8_holdsSort_1 ?_
  refine lv_iload_n hx hb dX8_holdsSort_4 rfl (lv_at hl 1 rfl) ?_
  refine va_iald hx hb hK.1 hP 1 1 rfl rfl (i := p1) (ix (by omega) (by omega)) dX8_holdsSort_5 ?_
  refine lv_topi (fun x1 e2 => ?_)
  refine lv_iload_n hx hb dX8_holdsSort_6 rfl (lv_at hl 2 rfl) ?_
  refine lv_icmp_ne (tgt := 14) hx hb dX8_holdsSort_7 (by decide) (fun c3 => ?_) (fun c3 => ?_)
  · have c3 := ci_ne c3
    refine lv_iconst (v := 0) hx hb dX8_holdsSort_14 (by decide) ?_
    have hpo : (0 : Int32).toInt = 0 ∨ (0 : Int32).toInt = 1 := (by omega)
    exact ret _ _ _ _ 0 () dX8_holdsSort_15 (by omega) hpo hP hD hS
  have c3 := ci_eq c3
  refine lv_iconst (v := 1) hx hb dX8_holdsSort_10 (by decide) ?_
  refine lv_goto (tgt := 15) hx hb dX8_holdsSort_11 (by decide) ?_
  have hpo : (1 : Int32).toInt = 0 ∨ (1 : Int32).toInt = 1 := (by omega)
  exact ret _ _ _ _ 1 () dX8_holdsSort_15 (by omega) hpo hP hD hS
set_option maxHeartbeats 4000000 in
set_option maxRecDepth 100000 in
theorem k_X8_areAlikeRows (l : Launch) (D : va_G) (κ : Nat → ClassId) (β : Nat) (a8 : Nat) (r8 : Nat → Nat) (f8_sorts : Nat → Int32) (sz : Nat) (p1 : Int32) (p2 : Int32) (i1 : 0 ≤ p1.toInt ∧ p1.toInt ≤ 5) (i2 : 0 ≤ p2.toInt ∧ p2.toInt ≤ 5) : Met l yX8_areAlikeRows wsX8_areAlikeRows ({ frames := 0, cells := 0, slots := 0, locals := 0 } : Room) (PcK D κ β [O8 a8 r8, (cI κ (r8 0) 6 f8_sorts)] sz [.ref a8, .int p1, .int p2]) (QiK D (fun (r : Int32) (u : Unit) => r.toInt = 0 ∨ r.toInt = 1) (fun (u : Unit) => [O8 a8 r8, (cI κ (r8 0) 6 f8_sorts)]) [O8 a8 r8, (cI κ (r8 0) 6 f8_sorts)] sz) 0 0 (va_A [O8 a8 r8, (cI κ (r8 0) 6 f8_sorts)] sz) := by
  refine ofK_z (cc := cX8_areAlikeRows) (maxL := 3) (own := RX8) (by decide) rfl rfl (Nat.le_of_ble_eq_true rfl) ?_
  intro p e s m args below meth c Q A ls hsz hx hb hml hts hown hK hA hAB hP hD hl ret
  have hS : va_S A s.heap s.heap [] := va_S.rf
  have hl : lv_has ls 3 [(0, .ref a8), (1, .int p1), (2, .int p2)] := hl
  have w0 := hts (.fieldLink RX8 11 "OlderSkin$Shelves" "sorts" "[I") (List.mem_of_getElem? (i := 1) rfl)
  have w1 := (fun w h => List.mem_cons_of_mem _ (List.mem_append_right _ h) : ∀ w ∈ u_ws RX8 TX8 4, w ∈ wsX8_areAlikeRows)
  have l0 : (5 : Int32).toInt = 5 := by decide
  have l1 : (0 : Int32).toInt = 0 := by decide
  have l2 : (1 : Int32).toInt = 1 := by decide
  refine lv_aload_n hx hb dX8_areAlikeRows_0 rfl (lv_at hl 0 rfl) ?_
  refine va_get (D := D) (ci := 8) (v := .ref (r8 0)) (C := RX8) (T := TX8) (N := 4) hx hb hts w1 hown hK.1 hP 0 rfl rfl 0 (by decide) w0 (fun _ h9 => h9) rfl dX8_areAlikeRows_1 ?_
  refine lv_iload_n hx hb dX8_areAlikeRows_4 rfl (lv_at hl 1 rfl) ?_
  refine va_iald hx hb hK.1 hP 1 1 rfl rfl (i := p1) (ix (by omega) (by omega)) dX8_areAlikeRows_5 ?_
  refine lv_topi (fun x1 e2 => ?_)
  refine lv_iconst (v := 5) hx hb dX8_areAlikeRows_6 (by decide) ?_
  refine lv_icmp_eq (tgt := 29) hx hb dX8_areAlikeRows_7 (by decide) (fun c3 => ?_) (fun c3 => ?_)
  · have c3 := ci_eq c3
    refine lv_iconst (v := 0) hx hb dX8_areAlikeRows_29 (by decide) ?_
    have hpo : (0 : Int32).toInt = 0 ∨ (0 : Int32).toInt = 1 := (by omega)
    exact ret _ _ _ _ 0 () dX8_areAlikeRows_30 (by omega) hpo hP hD hS
  have c3 := ci_ne c3
  refine lv_aload_n hx hb dX8_areAlikeRows_10 rfl (lv_at hl 0 rfl) ?_
  refine va_get (D := D) (ci := 8) (v := .ref (r8 0)) (C := RX8) (T := TX8) (N := 4) hx hb hts w1 hown hK.1 hP 0 rfl rfl 0 (by decide) w0 (fun _ h9 => h9) rfl dX8_areAlikeRows_11 ?_
  refine lv_iload_n hx hb dX8_areAlikeRows_14 rfl (lv_at hl 1 rfl) ?_
  refine va_iald hx hb hK.1 hP 1 1 rfl rfl (i := p1) (ix (by omega) (by omega)) dX8_areAlikeRows_15 ?_
  refine lv_topi (fun x4 e5 => ?_)
  refine lv_aload_n hx hb dX8_areAlikeRows_16 rfl (lv_at hl 0 rfl) ?_
  refine va_get (D := D) (ci := 8) (v := .ref (r8 0)) (C := RX8) (T := TX8) (N := 4) hx hb hts w1 hown hK.1 hP 0 rfl rfl 0 (by decide) w0 (fun _ h9 => h9) rfl dX8_areAlikeRows_17 ?_
  refine lv_iload_n hx hb dX8_areAlikeRows_20 rfl (lv_at hl 2 rfl) ?_
  refine va_iald hx hb hK.1 hP 1 1 rfl rfl (i := p2) (ix (by omega) (by omega)) dX8_areAlikeRows_21 ?_
  refine lv_topi (fun x6 e7 => ?_)
  refine lv_icmp_ne (tgt := 29) hx hb dX8_areAlikeRows_22 (by decide) (fun c8 => ?_) (fun c8 => ?_)
  · have c8 := ci_ne c8
    refine lv_iconst (v := 0) hx hb dX8_areAlikeRows_29 (by decide) ?_
    have hpo : (0 : Int32).toInt = 0 ∨ (0 : Int32).toInt = 1 := (by omega)
    exact ret _ _ _ _ 0 () dX8_areAlikeRows_30 (by omega) hpo hP hD hS
  have c8 := ci_eq c8
  refine lv_iconst (v := 1) hx hb dX8_areAlikeRows_25 (by decide) ?_
  refine lv_goto (tgt := 30) hx hb dX8_areAlikeRows_26 (by decide) ?_
  have hpo : (1 : Int32).toInt = 0 ∨ (1 : Int32).toInt = 1 := (by omega)
  exact ret _ _ _ _ 1 () dX8_areAlikeRows_30 (by omega) hpo hP hD hS
set_option maxHeartbeats 4000000 in
set_option maxRecDepth 100000 in
theorem k_X8_hasPlaces (l : Launch) (D : va_G) (κ : Nat → ClassId) (β : Nat) (a8 : Nat) (r8 : Nat → Nat) (f8_lengths : Nat → Int32) (sz : Nat) (p1 : Int32) (p2 : Int32) (p3 : Int32) (hf8_lengths : ∀ j : Nat, 0 ≤ (f8_lengths j).toInt ∧ (f8_lengths j).toInt ≤ 60) (i1 : 0 ≤ p1.toInt ∧ p1.toInt ≤ 5) : Met l yX8_hasPlaces wsX8_hasPlaces ({ frames := 0, cells := 0, slots := 0, locals := 0 } : Room) (PcK D κ β [O8 a8 r8, (cI κ (r8 1) 6 f8_lengths)] sz [.ref a8, .int p1, .int p2, .int p3]) (QiK D (fun (r : Int32) (u : Unit) => (r.toInt = 1 ∧ 0 ≤ p2.toInt ∧ 0 ≤ p3.toInt ∧ p2.toInt + p3.toInt ≤ 60) ∨ r.toInt = 0) (fun (u : Unit) => [O8 a8 r8, (cI κ (r8 1) 6 f8_lengths)]) [O8 a8 r8, (cI κ (r8 1) 6 f8_lengths)] sz) 0 0 (va_A [O8 a8 r8, (cI κ (r8 1) 6 f8_lengths)] sz) := by
  refine ofK_z (cc := cX8_hasPlaces) (maxL := 4) (own := RX8) (by decide) rfl rfl (Nat.le_of_ble_eq_true rfl) ?_
  intro p e s m args below meth c Q A ls hsz hx hb hml hts hown hK hA hAB hP hD hl ret
  have hS : va_S A s.heap s.heap [] := va_S.rf
  have hl : lv_has ls 4 [(0, .ref a8), (1, .int p1), (2, .int p2), (3, .int p3)] := hl
  have w0 := hts (.fieldLink RX8 15 "OlderSkin$Shelves" "lengths" "[I") (List.mem_of_getElem? (i := 1) rfl)
  have w1 := (fun w h => List.mem_cons_of_mem _ (List.mem_append_right _ h) : ∀ w ∈ u_ws RX8 TX8 4, w ∈ wsX8_hasPlaces)
  have l0 : (0 : Int32).toInt = 0 := by decide
  have l1 : (1 : Int32).toInt = 1 := by decide
  refine lv_iload_n hx hb dX8_hasPlaces_0 rfl (lv_at hl 2 rfl) ?_
  refine lv_if_lt (tgt := 34) hx hb dX8_hasPlaces_1 (by decide) (fun c1 => ?_) (fun c1 => ?_)
  · have c1 := ci_lt c1
    refine lv_iconst (v := 0) hx hb dX8_hasPlaces_34 (by decide) ?_
    have hpo : ((0 : Int32).toInt = 1 ∧ 0 ≤ p2.toInt ∧ 0 ≤ p3.toInt ∧ p2.toInt + p3.toInt ≤ 60) ∨ (0 : Int32).toInt = 0 := (by omega)
    exact ret _ _ _ _ 0 () dX8_hasPlaces_35 (by omega) hpo hP hD hS
  have c1 := ci_nlt c1
  refine lv_iload_n hx hb dX8_hasPlaces_4 rfl (lv_at hl 3 rfl) ?_
  refine lv_if_lt (tgt := 34) hx hb dX8_hasPlaces_5 (by decide) (fun c2 => ?_) (fun c2 => ?_)
  · have c2 := ci_lt c2
    refine lv_iconst (v := 0) hx hb dX8_hasPlaces_34 (by decide) ?_
    have hpo : ((0 : Int32).toInt = 1 ∧ 0 ≤ p2.toInt ∧ 0 ≤ p3.toInt ∧ p2.toInt + p3.toInt ≤ 60) ∨ (0 : Int32).toInt = 0 := (by omega)
    exact ret _ _ _ _ 0 () dX8_hasPlaces_35 (by omega) hpo hP hD hS
  have c2 := ci_nlt c2
  refine lv_iload_n hx hb dX8_hasPlaces_8 rfl (lv_at hl 2 rfl) ?_
  refine lv_aload_n hx hb dX8_hasPlaces_9 rfl (lv_at hl 0 rfl) ?_
  refine va_get (D := D) (ci := 8) (v := .ref (r8 1)) (C := RX8) (T := TX8) (N := 4) hx hb hts w1 hown hK.1 hP 0 rfl rfl 1 (by decide) w0 (fun _ h9 => h9) rfl dX8_hasPlaces_10 ?_
  refine lv_iload_n hx hb dX8_hasPlaces_13 rfl (lv_at hl 1 rfl) ?_
  refine va_iald hx hb hK.1 hP 1 1 rfl rfl (i := p1) (ix (by omega) (by omega)) dX8_hasPlaces_14 ?_
  refine lv_topi (fun x3 e4 => ?_)
  have h5 : 0 ≤ x3.toInt ∧ x3.toInt ≤ 60 := by rw [e4]; exact hf8_lengths _
  refine lv_icmp_gt (tgt := 34) hx hb dX8_hasPlaces_15 (by decide) (fun c6 => ?_) (fun c6 => ?_)
  · have c6 := ci_lt c6
    refine lv_iconst (v := 0) hx hb dX8_hasPlaces_34 (by decide) ?_
    have hpo : ((0 : Int32).toInt = 1 ∧ 0 ≤ p2.toInt ∧ 0 ≤ p3.toInt ∧ p2.toInt + p3.toInt ≤ 60) ∨ (0 : Int32).toInt = 0 := (by omega)
    exact ret _ _ _ _ 0 () dX8_hasPlaces_35 (by omega) hpo hP hD hS
  have c6 := ci_nlt c6
  refine lv_iload_n hx hb dX8_hasPlaces_18 rfl (lv_at hl 3 rfl) ?_
  refine lv_aload_n hx hb dX8_hasPlaces_19 rfl (lv_at hl 0 rfl) ?_
  refine va_get (D := D) (ci := 8) (v := .ref (r8 1)) (C := RX8) (T := TX8) (N := 4) hx hb hts w1 hown hK.1 hP 0 rfl rfl 1 (by decide) w0 (fun _ h9 => h9) rfl dX8_hasPlaces_20 ?_
  refine lv_iload_n hx hb dX8_hasPlaces_23 rfl (lv_at hl 1 rfl) ?_
  refine va_iald hx hb hK.1 hP 1 1 rfl rfl (i := p1) (ix (by omega) (by omega)) dX8_hasPlaces_24 ?_
  refine lv_topi (fun x7 e8 => ?_)
  have h9 : 0 ≤ x7.toInt ∧ x7.toInt ≤ 60 := by rw [e8]; exact hf8_lengths _
  refine lv_iload_n hx hb dX8_hasPlaces_25 rfl (lv_at hl 2 rfl) ?_
  refine lv_isub hx hb dX8_hasPlaces_26 ?_
  refine lv_topi (fun x10 e11 => ?_)
  try have h12 : x10.toInt = x7.toInt - p2.toInt := ci_sub e11 (by omega) (by omega)
  refine lv_icmp_gt (tgt := 34) hx hb dX8_hasPlaces_27 (by decide) (fun c13 => ?_) (fun c13 => ?_)
  · have c13 := ci_lt c13
    refine lv_iconst (v := 0) hx hb dX8_hasPlaces_34 (by decide) ?_
    have hpo : ((0 : Int32).toInt = 1 ∧ 0 ≤ p2.toInt ∧ 0 ≤ p3.toInt ∧ p2.toInt + p3.toInt ≤ 60) ∨ (0 : Int32).toInt = 0 := (by omega)
    exact ret _ _ _ _ 0 () dX8_hasPlaces_35 (by omega) hpo hP hD hS
  have c13 := ci_nlt c13
  refine lv_iconst (v := 1) hx hb dX8_hasPlaces_30 (by decide) ?_
  refine lv_goto (tgt := 35) hx hb dX8_hasPlaces_31 (by decide) ?_
  have hpo : ((1 : Int32).toInt = 1 ∧ 0 ≤ p2.toInt ∧ 0 ≤ p3.toInt ∧ p2.toInt + p3.toInt ≤ 60) ∨ (1 : Int32).toInt = 0 := (by omega)
  exact ret _ _ _ _ 1 () dX8_hasPlaces_35 (by omega) hpo hP hD hS
set_option maxHeartbeats 4000000 in
set_option maxRecDepth 100000 in
theorem k_X8_clear (l : Launch) (D : va_G) (κ : Nat → ClassId) (β : Nat) (a8 : Nat) (r8 : Nat → Nat) (f8_sorts : Nat → Int32) (sz : Nat) (p1 : Int32) (i1 : 0 ≤ p1.toInt ∧ p1.toInt ≤ 5) : Met l yX8_clear wsX8_clear ({ frames := 0, cells := 0, slots := 0, locals := 0 } : Room) (PcK D κ β [O8 a8 r8, (cI κ (r8 0) 6 f8_sorts)] sz [.ref a8, .int p1]) (QvK D (fun (u : (Nat → Int32)) => True) (fun (u : (Nat → Int32)) => [O8 a8 r8, (cI κ (r8 0) 6 u)]) [O8 a8 r8, (cI κ (r8 0) 6 f8_sorts)] sz) 0 0 (va_A [O8 a8 r8, (cI κ (r8 0) 6 f8_sorts)] sz) := by
  refine ofK_v (cc := cX8_clear) (maxL := 2) (own := RX8) (by decide) rfl rfl (Nat.le_of_ble_eq_true rfl) ?_
  intro p e s m args below meth c Q A ls hsz hx hb hml hts hown hK hA hAB hP hD hl hname ret
  have hS : va_S A s.heap s.heap [] := va_S.rf
  have hl : lv_has ls 2 [(0, .ref a8), (1, .int p1)] := hl
  have w0 := hts (.fieldLink RX8 11 "OlderSkin$Shelves" "sorts" "[I") (List.mem_of_getElem? (i := 1) rfl)
  have w1 := (fun w h => List.mem_cons_of_mem _ (List.mem_append_right _ h) : ∀ w ∈ u_ws RX8 TX8 4, w ∈ wsX8_clear)
  have l0 : ((-1) : Int32).toInt = -1 := by decide
  refine lv_aload_n hx hb dX8_clear_0 rfl (lv_at hl 0 rfl) ?_
  refine va_get (D := D) (ci := 8) (v := .ref (r8 0)) (C := RX8) (T := TX8) (N := 4) hx hb hts w1 hown hK.1 hP 0 rfl rfl 0 (by decide) w0 (fun _ h9 => h9) rfl dX8_clear_1 ?_
  refine lv_iload_n hx hb dX8_clear_4 rfl (lv_at hl 1 rfl) ?_
  refine lv_iconst (v := (-1)) hx hb dX8_clear_5 (by decide) ?_
  refine va_iast hx hb hK.1 hP hD hS 1 1 rfl rfl (i := p1) (ix (by omega) (by omega)) dX8_clear_6 (fun H locs hP hD hS => ?_)
  obtain ⟨g1, e2⟩ : ∃ y : Nat → Int32, y = upd f8_sorts p1.toNatClampNeg (-1) := ⟨_, rfl⟩
  rw [← e2] at hP hD
  obtain ⟨hP, hD⟩ : PD D A [O8 a8 r8, (cI κ (r8 0) 6 g1)] H := ⟨hP, hD⟩
  exact ret _ _ _ _ g1 dX8_clear_7 trivial hP hD hS
set_option maxHeartbeats 4000000 in
set_option maxRecDepth 100000 in
theorem k_X8_layBody (l : Launch) (D : va_G) (κ : Nat → ClassId) (β : Nat) (a8 : Nat) (r8 : Nat → Nat) (f8_sorts : Nat → Int32) (f8_bodyKinds : Nat → Int32) (sz : Nat) (p1 : Int32) (p2 : Int32) (hf8_bodyKinds : ∀ j : Nat, 0 ≤ (f8_bodyKinds j).toInt ∧ (f8_bodyKinds j).toInt ≤ 7) (i1 : 0 ≤ p1.toInt ∧ p1.toInt ≤ 5) (i2 : 0 ≤ p2.toInt ∧ p2.toInt ≤ 7) : Met l yX8_layBody wsX8_layBody ({ frames := 0, cells := 0, slots := 0, locals := 0 } : Room) (PcK D κ β [O8 a8 r8, (cI κ (r8 0) 6 f8_sorts), (cI κ (r8 2) 6 f8_bodyKinds)] sz [.ref a8, .int p1, .int p2]) (QvK D (fun (u : (Nat → Int32) × (Nat → Int32)) => ∀ j : Nat, 0 ≤ (u.2 j).toInt ∧ (u.2 j).toInt ≤ 7) (fun (u : (Nat → Int32) × (Nat → Int32)) => [O8 a8 r8, (cI κ (r8 0) 6 u.1), (cI κ (r8 2) 6 u.2)]) [O8 a8 r8, (cI κ (r8 0) 6 f8_sorts), (cI κ (r8 2) 6 f8_bodyKinds)] sz) 0 0 (va_A [O8 a8 r8, (cI κ (r8 0) 6 f8_sorts), (cI κ (r8 2) 6 f8_bodyKinds)] sz) := by
  refine ofK_v (cc := cX8_layBody) (maxL := 3) (own := RX8) (by decide) rfl rfl (Nat.le_of_ble_eq_true rfl) ?_
  intro p e s m args below meth c Q A ls hsz hx hb hml hts hown hK hA hAB hP hD hl hname ret
  have hS : va_S A s.heap s.heap [] := va_S.rf
  have hl : lv_has ls 3 [(0, .ref a8), (1, .int p1), (2, .int p2)] := hl
  have w0 := hts (.fieldLink RX8 11 "OlderSkin$Shelves" "sorts" "[I") (List.mem_of_getElem? (i := 1) rfl)
  have w1 := (fun w h => List.mem_cons_of_mem _ (List.mem_append_right _ h) : ∀ w ∈ u_ws RX8 TX8 4, w ∈ wsX8_layBody)
  have w2 := hts (.fieldLink RX8 18 "OlderSkin$Shelves" "bodyKinds" "[I") (List.mem_of_getElem? (i := 2) rfl)
  have l0 : (5 : Int32).toInt = 5 := by decide
  refine lv_aload_n hx hb dX8_layBody_0 rfl (lv_at hl 0 rfl) ?_
  refine va_get (D := D) (ci := 8) (v := .ref (r8 0)) (C := RX8) (T := TX8) (N := 4) hx hb hts w1 hown hK.1 hP 0 rfl rfl 0 (by decide) w0 (fun _ h9 => h9) rfl dX8_layBody_1 ?_
  refine lv_iload_n hx hb dX8_layBody_4 rfl (lv_at hl 1 rfl) ?_
  refine lv_iconst (v := 5) hx hb dX8_layBody_5 (by decide) ?_
  refine va_iast hx hb hK.1 hP hD hS 1 1 rfl rfl (i := p1) (ix (by omega) (by omega)) dX8_layBody_6 (fun H locs hP hD hS => ?_)
  obtain ⟨g1, e2⟩ : ∃ y : Nat → Int32, y = upd f8_sorts p1.toNatClampNeg 5 := ⟨_, rfl⟩
  rw [← e2] at hP hD
  obtain ⟨hP, hD⟩ : PD D A [O8 a8 r8, (cI κ (r8 0) 6 g1), (cI κ (r8 2) 6 f8_bodyKinds)] H := ⟨hP, hD⟩
  refine lv_aload_n hx hb dX8_layBody_7 rfl (lv_at hl 0 rfl) ?_
  refine va_get (D := D) (ci := 8) (v := .ref (r8 2)) (C := RX8) (T := TX8) (N := 4) hx hb hts w1 hown hK.1 hP 0 rfl rfl 2 (by decide) w2 (fun _ h9 => h9) rfl dX8_layBody_8 ?_
  refine lv_iload_n hx hb dX8_layBody_11 rfl (lv_at hl 1 rfl) ?_
  refine lv_iload_n hx hb dX8_layBody_12 rfl (lv_at hl 2 rfl) ?_
  refine va_iast hx hb hK.1 hP hD hS 2 1 rfl rfl (i := p1) (ix (by omega) (by omega)) dX8_layBody_13 (fun H locs hP hD hS => ?_)
  obtain ⟨g3, e4⟩ : ∃ y : Nat → Int32, y = upd f8_bodyKinds p1.toNatClampNeg p2 := ⟨_, rfl⟩
  rw [← e4] at hP hD
  obtain ⟨hP, hD⟩ : PD D A [O8 a8 r8, (cI κ (r8 0) 6 g1), (cI κ (r8 2) 6 g3)] H := ⟨hP, hD⟩
  have h5 : ∀ j : Nat, 0 ≤ (g3 j).toInt ∧ (g3 j).toInt ≤ 7 := by rw [e4]; exact all_upd (P := fun z => 0 ≤ z.toInt ∧ z.toInt ≤ 7) hf8_bodyKinds (by omega)
  have hpo : ∀ j : Nat, 0 ≤ (g3 j).toInt ∧ (g3 j).toInt ≤ 7 := h5
  exact ret _ _ _ _ (g1, g3) dX8_layBody_14 hpo hP hD hS
set_option maxHeartbeats 4000000 in
set_option maxRecDepth 100000 in
theorem k_X8_layRow (l : Launch) (D : va_G) (κ : Nat → ClassId) (β : Nat) (a8 : Nat) (r8 : Nat → Nat) (f8_sorts : Nat → Int32) (f8_lengths : Nat → Int32) (g8 : Nat → Nat) (F8 : Nat → Nat → Int64) (sz : Nat) (p1 : Int32) (p2 : Int32) (p3 : Int32) (hf8_lengths : ∀ j : Nat, 0 ≤ (f8_lengths j).toInt ∧ (f8_lengths j).toInt ≤ 60) (i1 : 0 ≤ p1.toInt ∧ p1.toInt ≤ 5) (i2 : 0 ≤ p3.toInt ∧ p3.toInt ≤ 60) : Met l yX8_layRow wsX8_layRow ({ frames := 1, cells := 0, slots := 0, locals := 24 } : Room) (PcK D κ β [O8 a8 r8, (cI κ (r8 0) 6 f8_sorts), (cI κ (r8 1) 6 f8_lengths), (cRJ κ (r8 3) 6 (fun i => some (g8 i))), (cJ κ (g8 0) 60 (F8 0)), (cJ κ (g8 1) 60 (F8 1)), (cJ κ (g8 2) 60 (F8 2)), (cJ κ (g8 3) 60 (F8 3)), (cJ κ (g8 4) 60 (F8 4)), (cJ κ (g8 5) 60 (F8 5))] sz [.ref a8, .int p1, .int p2, .int p3]) (QvK D (fun (u : (Nat → Int32) × (Nat → Int32) × (Nat → Nat → Int64)) => ∀ j : Nat, 0 ≤ (u.2.1 j).toInt ∧ (u.2.1 j).toInt ≤ 60) (fun (u : (Nat → Int32) × (Nat → Int32) × (Nat → Nat → Int64)) => [O8 a8 r8, (cI κ (r8 0) 6 u.1), (cI κ (r8 1) 6 u.2.1), (cRJ κ (r8 3) 6 (fun i => some (g8 i))), (cJ κ (g8 0) 60 (u.2.2 0)), (cJ κ (g8 1) 60 (u.2.2 1)), (cJ κ (g8 2) 60 (u.2.2 2)), (cJ κ (g8 3) 60 (u.2.2 3)), (cJ κ (g8 4) 60 (u.2.2 4)), (cJ κ (g8 5) 60 (u.2.2 5))]) [O8 a8 r8, (cI κ (r8 0) 6 f8_sorts), (cI κ (r8 1) 6 f8_lengths), (cRJ κ (r8 3) 6 (fun i => some (g8 i))), (cJ κ (g8 0) 60 (F8 0)), (cJ κ (g8 1) 60 (F8 1)), (cJ κ (g8 2) 60 (F8 2)), (cJ κ (g8 3) 60 (F8 3)), (cJ κ (g8 4) 60 (F8 4)), (cJ κ (g8 5) 60 (F8 5))] sz) 0 0 (va_A [O8 a8 r8, (cI κ (r8 0) 6 f8_sorts), (cI κ (r8 1) 6 f8_lengths), (cRJ κ (r8 3) 6 (fun i => some (g8 i))), (cJ κ (g8 0) 60 (F8 0)), (cJ κ (g8 1) 60 (F8 1)), (cJ κ (g8 2) 60 (F8 2)), (cJ κ (g8 3) 60 (F8 3)), (cJ κ (g8 4) 60 (F8 4)), (cJ κ (g8 5) 60 (F8 5))] sz) := by
  refine ofK_v (cc := cX8_layRow) (maxL := 4) (own := RX8) (by decide) rfl rfl (Nat.le_of_ble_eq_true rfl) ?_
  intro p e s m args below meth c Q A ls hsz hx hb hml hts hown hK hA hAB hP hD hl hname ret
  have hS : va_S A s.heap s.heap [] := va_S.rf
  have hl : lv_has ls 4 [(0, .ref a8), (1, .int p1), (2, .int p2), (3, .int p3)] := hl
  have w0 := hts (.fieldLink RX8 11 "OlderSkin$Shelves" "sorts" "[I") (List.mem_of_getElem? (i := 1) rfl)
  have w1 := (fun w h => List.mem_cons_of_mem _ (List.mem_append_right _ h) : ∀ w ∈ u_ws RX8 TX8 4, w ∈ wsX8_layRow)
  have w2 := hts (.fieldLink RX8 15 "OlderSkin$Shelves" "lengths" "[I") (List.mem_of_getElem? (i := 2) rfl)
  have w3 := hts (.fieldLink RX8 23 "OlderSkin$Shelves" "values" "[[J") (List.mem_of_getElem? (i := 3) rfl)
  have l0 : (0 : Int64).toInt = 0 := by decide
  refine lv_aload_n hx hb dX8_layRow_0 rfl (lv_at hl 0 rfl) ?_
  refine va_get (D := D) (ci := 8) (v := .ref (r8 0)) (C := RX8) (T := TX8) (N := 4) hx hb hts w1 hown hK.1 hP 0 rfl rfl 0 (by decide) w0 (fun _ h9 => h9) rfl dX8_layRow_1 ?_
  refine lv_iload_n hx hb dX8_layRow_4 rfl (lv_at hl 1 rfl) ?_
  refine lv_iload_n hx hb dX8_layRow_5 rfl (lv_at hl 2 rfl) ?_
  refine va_iast hx hb hK.1 hP hD hS 1 1 rfl rfl (i := p1) (ix (by omega) (by omega)) dX8_layRow_6 (fun H locs hP hD hS => ?_)
  obtain ⟨g1, e2⟩ : ∃ y : Nat → Int32, y = upd f8_sorts p1.toNatClampNeg p2 := ⟨_, rfl⟩
  rw [← e2] at hP hD
  obtain ⟨hP, hD⟩ : PD D A [O8 a8 r8, (cI κ (r8 0) 6 g1), (cI κ (r8 1) 6 f8_lengths), (cRJ κ (r8 3) 6 (fun i => some (g8 i))), (cJ κ (g8 0) 60 (F8 0)), (cJ κ (g8 1) 60 (F8 1)), (cJ κ (g8 2) 60 (F8 2)), (cJ κ (g8 3) 60 (F8 3)), (cJ κ (g8 4) 60 (F8 4)), (cJ κ (g8 5) 60 (F8 5))] H := ⟨hP, hD⟩
  refine lv_aload_n hx hb dX8_layRow_7 rfl (lv_at hl 0 rfl) ?_
  refine va_get (D := D) (ci := 8) (v := .ref (r8 1)) (C := RX8) (T := TX8) (N := 4) hx hb hts w1 hown hK.1 hP 0 rfl rfl 1 (by decide) w2 (fun _ h9 => h9) rfl dX8_layRow_8 ?_
  refine lv_iload_n hx hb dX8_layRow_11 rfl (lv_at hl 1 rfl) ?_
  refine lv_iload_n hx hb dX8_layRow_12 rfl (lv_at hl 3 rfl) ?_
  refine va_iast hx hb hK.1 hP hD hS 2 1 rfl rfl (i := p1) (ix (by omega) (by omega)) dX8_layRow_13 (fun H locs hP hD hS => ?_)
  obtain ⟨g3, e4⟩ : ∃ y : Nat → Int32, y = upd f8_lengths p1.toNatClampNeg p3 := ⟨_, rfl⟩
  rw [← e4] at hP hD
  obtain ⟨hP, hD⟩ : PD D A [O8 a8 r8, (cI κ (r8 0) 6 g1), (cI κ (r8 1) 6 g3), (cRJ κ (r8 3) 6 (fun i => some (g8 i))), (cJ κ (g8 0) 60 (F8 0)), (cJ κ (g8 1) 60 (F8 1)), (cJ κ (g8 2) 60 (F8 2)), (cJ κ (g8 3) 60 (F8 3)), (cJ κ (g8 4) 60 (F8 4)), (cJ κ (g8 5) 60 (F8 5))] H := ⟨hP, hD⟩
  have h5 : ∀ j : Nat, 0 ≤ (g3 j).toInt ∧ (g3 j).toInt ≤ 60 := by rw [e4]; exact all_upd (P := fun z => 0 ≤ z.toInt ∧ z.toInt ≤ 60) hf8_lengths (by omega)
  refine lv_aload_n hx hb dX8_layRow_14 rfl (lv_at hl 0 rfl) ?_
  refine va_get (D := D) (ci := 8) (v := .ref (r8 3)) (C := RX8) (T := TX8) (N := 4) hx hb hts w1 hown hK.1 hP 0 rfl rfl 3 (by decide) w3 (fun _ h9 => h9) rfl dX8_layRow_15 ?_
  refine lv_iload_n hx hb dX8_layRow_18 rfl (lv_at hl 1 rfl) ?_
  obtain ⟨j6, hj6, ej6⟩ : ∃ y : Nat, y < 6 ∧ p1.toNatClampNeg = y := ⟨_, by have := ci_clamp (i := p1) (by omega); omega, rfl⟩
  refine va_aldG rfl hx hb hK.1 hP 3 5 rfl rfl (i := p1) (j := j6) ej6 (ix (by omega) (by omega)) dX8_layRow_19 ?_
  refine lv_lconst (v := (0 : Int64)) hx hb dX8_layRow_20 (by decide) ?_
  rcases six hj6 with h | h | h | h | h | h
  · subst h
    refine kcm_v hA hAB hP hD hS [false, false, false, false, true, false, false, false, false, false] rfl (fun _ => rfl) (fun hPc hDc => va_runS (As := [.ref (g8 0), .long (0 : Int64)]) (rest := []) ⟨hx, hb, hml, hown, hts⟩ (k_J7_fill_d0a16 l D κ β 60 (F8 0) H.size (g8 0) (0 : Int64) (by omega)) (va_cwS 2 hts gX8_layRow_J7_fill_d0a16 rfl rfl rfl (by decide +kernel) ⟨Nat.le_of_ble_eq_true rfl, Nat.le_of_ble_eq_true rfl⟩) (pk_S hK hS hAB hPc hDc) rfl rfl hl.1 rfl (lv_room (Nat.le_of_ble_eq_true rfl)) dX8_layRow_21 ⟨Nat.le_of_ble_eq_true rfl, Nat.le_of_ble_eq_true rfl⟩) (fun g7 H locs hw hPD hS => ?_)
    obtain ⟨hP, hD⟩ : PD D A [O8 a8 r8, (cI κ (r8 0) 6 g1), (cI κ (r8 1) 6 g3), (cRJ κ (r8 3) 6 (fun i => some (g8 i))), (cJ κ (g8 0) 60 g7), (cJ κ (g8 1) 60 (F8 1)), (cJ κ (g8 2) 60 (F8 2)), (cJ κ (g8 3) 60 (F8 3)), (cJ κ (g8 4) 60 (F8 4)), (cJ κ (g8 5) 60 (F8 5))] H := hPD
    obtain ⟨F8, e9⟩ : ∃ y : Nat → Nat → Int64, y = upF F8 0 g7 := ⟨_, rfl⟩
    have hP : va_P D vwCl [O8 a8 r8, (cI κ (r8 0) 6 g1), (cI κ (r8 1) 6 g3), (cRJ κ (r8 3) 6 (fun i => some (g8 i))), (cJ κ (g8 0) 60 (F8 0)), (cJ κ (g8 1) 60 (F8 1)), (cJ κ (g8 2) 60 (F8 2)), (cJ κ (g8 3) 60 (F8 3)), (cJ κ (g8 4) 60 (F8 4)), (cJ κ (g8 5) 60 (F8 5))] H := by rw [e9]; exact hP.sub [0, 1, 2, 3, 4, 5, 6, 7, 8, 9] rfl
    have hD : va_D A [O8 a8 r8, (cI κ (r8 0) 6 g1), (cI κ (r8 1) 6 g3), (cRJ κ (r8 3) 6 (fun i => some (g8 i))), (cJ κ (g8 0) 60 (F8 0)), (cJ κ (g8 1) 60 (F8 1)), (cJ κ (g8 2) 60 (F8 2)), (cJ κ (g8 3) 60 (F8 3)), (cJ κ (g8 4) 60 (F8 4)), (cJ κ (g8 5) 60 (F8 5))] := by rw [e9]; exact hD.sub [0, 1, 2, 3, 4, 5, 6, 7, 8, 9] (by decide) rfl
    have hpo : ∀ j : Nat, 0 ≤ (g3 j).toInt ∧ (g3 j).toInt ≤ 60 := h5
    exact ret _ _ _ _ (g1, g3, F8) dX8_layRow_24 hpo hP hD hS
  · subst h
    refine kcm_v hA hAB hP hD hS [false, false, false, false, false, true, false, false, false, false] rfl (fun _ => rfl) (fun hPc hDc => va_runS (As := [.ref (g8 1), .long (0 : Int64)]) (rest := []) ⟨hx, hb, hml, hown, hts⟩ (k_J7_fill_d0a16 l D κ β 60 (F8 1) H.size (g8 1) (0 : Int64) (by omega)) (va_cwS 2 hts gX8_layRow_J7_fill_d0a16 rfl rfl rfl (by decide +kernel) ⟨Nat.le_of_ble_eq_true rfl, Nat.le_of_ble_eq_true rfl⟩) (pk_S hK hS hAB hPc hDc) rfl rfl hl.1 rfl (lv_room (Nat.le_of_ble_eq_true rfl)) dX8_layRow_21 ⟨Nat.le_of_ble_eq_true rfl, Nat.le_of_ble_eq_true rfl⟩) (fun g10 H locs hw hPD hS => ?_)
    obtain ⟨hP, hD⟩ : PD D A [O8 a8 r8, (cI κ (r8 0) 6 g1), (cI κ (r8 1) 6 g3), (cRJ κ (r8 3) 6 (fun i => some (g8 i))), (cJ κ (g8 0) 60 (F8 0)), (cJ κ (g8 1) 60 g10), (cJ κ (g8 2) 60 (F8 2)), (cJ κ (g8 3) 60 (F8 3)), (cJ κ (g8 4) 60 (F8 4)), (cJ κ (g8 5) 60 (F8 5))] H := hPD
    obtain ⟨F11, e12⟩ : ∃ y : Nat → Nat → Int64, y = upF F8 1 g10 := ⟨_, rfl⟩
    have hP : va_P D vwCl [O8 a8 r8, (cI κ (r8 0) 6 g1), (cI κ (r8 1) 6 g3), (cRJ κ (r8 3) 6 (fun i => some (g8 i))), (cJ κ (g8 0) 60 (F11 0)), (cJ κ (g8 1) 60 (F11 1)), (cJ κ (g8 2) 60 (F11 2)), (cJ κ (g8 3) 60 (F11 3)), (cJ κ (g8 4) 60 (F11 4)), (cJ κ (g8 5) 60 (F11 5))] H := by rw [e12]; exact hP.sub [0, 1, 2, 3, 4, 5, 6, 7, 8, 9] rfl
    have hD : va_D A [O8 a8 r8, (cI κ (r8 0) 6 g1), (cI κ (r8 1) 6 g3), (cRJ κ (r8 3) 6 (fun i => some (g8 i))), (cJ κ (g8 0) 60 (F11 0)), (cJ κ (g8 1) 60 (F11 1)), (cJ κ (g8 2) 60 (F11 2)), (cJ κ (g8 3) 60 (F11 3)), (cJ κ (g8 4) 60 (F11 4)), (cJ κ (g8 5) 60 (F11 5))] := by rw [e12]; exact hD.sub [0, 1, 2, 3, 4, 5, 6, 7, 8, 9] (by decide) rfl
    have hpo : ∀ j : Nat, 0 ≤ (g3 j).toInt ∧ (g3 j).toInt ≤ 60 := h5
    exact ret _ _ _ _ (g1, g3, F11) dX8_layRow_24 hpo hP hD hS
  · subst h
    refine kcm_v hA hAB hP hD hS [false, false, false, false, false, false, true, false, false, false] rfl (fun _ => rfl) (fun hPc hDc => va_runS (As := [.ref (g8 2), .long (0 : Int64)]) (rest := []) ⟨hx, hb, hml, hown, hts⟩ (k_J7_fill_d0a16 l D κ β 60 (F8 2) H.size (g8 2) (0 : Int64) (by omega)) (va_cwS 2 hts gX8_layRow_J7_fill_d0a16 rfl rfl rfl (by decide +kernel) ⟨Nat.le_of_ble_eq_true rfl, Nat.le_of_ble_eq_true rfl⟩) (pk_S hK hS hAB hPc hDc) rfl rfl hl.1 rfl (lv_room (Nat.le_of_ble_eq_true rfl)) dX8_layRow_21 ⟨Nat.le_of_ble_eq_true rfl, Nat.le_of_ble_eq_true rfl⟩) (fun g13 H locs hw hPD hS => ?_)
    obtain ⟨hP, hD⟩ : PD D A [O8 a8 r8, (cI κ (r8 0) 6 g1), (cI κ (r8 1) 6 g3), (cRJ κ (r8 3) 6 (fun i => some (g8 i))), (cJ κ (g8 0) 60 (F8 0)), (cJ κ (g8 1) 60 (F8 1)), (cJ κ (g8 2) 60 g13), (cJ κ (g8 3) 60 (F8 3)), (cJ κ (g8 4) 60 (F8 4)), (cJ κ (g8 5) 60 (F8 5))] H := hPD
    obtain ⟨F14, e15⟩ : ∃ y : Nat → Nat → Int64, y = upF F8 2 g13 := ⟨_, rfl⟩
    have hP : va_P D vwCl [O8 a8 r8, (cI κ (r8 0) 6 g1), (cI κ (r8 1) 6 g3), (cRJ κ (r8 3) 6 (fun i => some (g8 i))), (cJ κ (g8 0) 60 (F14 0)), (cJ κ (g8 1) 60 (F14 1)), (cJ κ (g8 2) 60 (F14 2)), (cJ κ (g8 3) 60 (F14 3)), (cJ κ (g8 4) 60 (F14 4)), (cJ κ (g8 5) 60 (F14 5))] H := by rw [e15]; exact hP.sub [0, 1, 2, 3, 4, 5, 6, 7, 8, 9] rfl
    have hD : va_D A [O8 a8 r8, (cI κ (r8 0) 6 g1), (cI κ (r8 1) 6 g3), (cRJ κ (r8 3) 6 (fun i => some (g8 i))), (cJ κ (g8 0) 60 (F14 0)), (cJ κ (g8 1) 60 (F14 1)), (cJ κ (g8 2) 60 (F14 2)), (cJ κ (g8 3) 60 (F14 3)), (cJ κ (g8 4) 60 (F14 4)), (cJ κ (g8 5) 60 (F14 5))] := by rw [e15]; exact hD.sub [0, 1, 2, 3, 4, 5, 6, 7, 8, 9] (by decide) rfl
    have hpo : ∀ j : Nat, 0 ≤ (g3 j).toInt ∧ (g3 j).toInt ≤ 60 := h5
    exact ret _ _ _ _ (g1, g3, F14) dX8_layRow_24 hpo hP hD hS
  · subst h
    refine kcm_v hA hAB hP hD hS [false, false, false, false, false, false, false, true, false, false] rfl (fun _ => rfl) (fun hPc hDc => va_runS (As := [.ref (g8 3), .long (0 : Int64)]) (rest := []) ⟨hx, hb, hml, hown, hts⟩ (k_J7_fill_d0a16 l D κ β 60 (F8 3) H.size (g8 3) (0 : Int64) (by omega)) (va_cwS 2 hts gX8_layRow_J7_fill_d0a16 rfl rfl rfl (by decide +kernel) ⟨Nat.le_of_ble_eq_true rfl, Nat.le_of_ble_eq_true rfl⟩) (pk_S hK hS hAB hPc hDc) rfl rfl hl.1 rfl (lv_room (Nat.le_of_ble_eq_true rfl)) dX8_layRow_21 ⟨Nat.le_of_ble_eq_true rfl, Nat.le_of_ble_eq_true rfl⟩) (fun g16 H locs hw hPD hS => ?_)
    obtain ⟨hP, hD⟩ : PD D A [O8 a8 r8, (cI κ (r8 0) 6 g1), (cI κ (r8 1) 6 g3), (cRJ κ (r8 3) 6 (fun i => some (g8 i))), (cJ κ (g8 0) 60 (F8 0)), (cJ κ (g8 1) 60 (F8 1)), (cJ κ (g8 2) 60 (F8 2)), (cJ κ (g8 3) 60 g16), (cJ κ (g8 4) 60 (F8 4)), (cJ κ (g8 5) 60 (F8 5))] H := hPD
    obtain ⟨F17, e18⟩ : ∃ y : Nat → Nat → Int64, y = upF F8 3 g16 := ⟨_, rfl⟩
    have hP : va_P D vwCl [O8 a8 r8, (cI κ (r8 0) 6 g1), (cI κ (r8 1) 6 g3), (cRJ κ (r8 3) 6 (fun i => some (g8 i))), (cJ κ (g8 0) 60 (F17 0)), (cJ κ (g8 1) 60 (F17 1)), (cJ κ (g8 2) 60 (F17 2)), (cJ κ (g8 3) 60 (F17 3)), (cJ κ (g8 4) 60 (F17 4)), (cJ κ (g8 5) 60 (F17 5))] H := by rw [e18]; exact hP.sub [0, 1, 2, 3, 4, 5, 6, 7, 8, 9] rfl
    have hD : va_D A [O8 a8 r8, (cI κ (r8 0) 6 g1), (cI κ (r8 1) 6 g3), (cRJ κ (r8 3) 6 (fun i => some (g8 i))), (cJ κ (g8 0) 60 (F17 0)), (cJ κ (g8 1) 60 (F17 1)), (cJ κ (g8 2) 60 (F17 2)), (cJ κ (g8 3) 60 (F17 3)), (cJ κ (g8 4) 60 (F17 4)), (cJ κ (g8 5) 60 (F17 5))] := by rw [e18]; exact hD.sub [0, 1, 2, 3, 4, 5, 6, 7, 8, 9] (by decide) rfl
    have hpo : ∀ j : Nat, 0 ≤ (g3 j).toInt ∧ (g3 j).toInt ≤ 60 := h5
    exact ret _ _ _ _ (g1, g3, F17) dX8_layRow_24 hpo hP hD hS
  · subst h
    refine kcm_v hA hAB hP hD hS [false, false, false, false, false, false, false, false, true, false] rfl (fun _ => rfl) (fun hPc hDc => va_runS (As := [.ref (g8 4), .long (0 : Int64)]) (rest := []) ⟨hx, hb, hml, hown, hts⟩ (k_J7_fill_d0a16 l D κ β 60 (F8 4) H.size (g8 4) (0 : Int64) (by omega)) (va_cwS 2 hts gX8_layRow_J7_fill_d0a16 rfl rfl rfl (by decide +kernel) ⟨Nat.le_of_ble_eq_true rfl, Nat.le_of_ble_eq_true rfl⟩) (pk_S hK hS hAB hPc hDc) rfl rfl hl.1 rfl (lv_room (Nat.le_of_ble_eq_true rfl)) dX8_layRow_21 ⟨Nat.le_of_ble_eq_true rfl, Nat.le_of_ble_eq_true rfl⟩) (fun g19 H locs hw hPD hS => ?_)
    obtain ⟨hP, hD⟩ : PD D A [O8 a8 r8, (cI κ (r8 0) 6 g1), (cI κ (r8 1) 6 g3), (cRJ κ (r8 3) 6 (fun i => some (g8 i))), (cJ κ (g8 0) 60 (F8 0)), (cJ κ (g8 1) 60 (F8 1)), (cJ κ (g8 2) 60 (F8 2)), (cJ κ (g8 3) 60 (F8 3)), (cJ κ (g8 4) 60 g19), (cJ κ (g8 5) 60 (F8 5))] H := hPD
    obtain ⟨F20, e21⟩ : ∃ y : Nat → Nat → Int64, y = upF F8 4 g19 := ⟨_, rfl⟩
    have hP : va_P D vwCl [O8 a8 r8, (cI κ (r8 0) 6 g1), (cI κ (r8 1) 6 g3), (cRJ κ (r8 3) 6 (fun i => some (g8 i))), (cJ κ (g8 0) 60 (F20 0)), (cJ κ (g8 1) 60 (F20 1)), (cJ κ (g8 2) 60 (F20 2)), (cJ κ (g8 3) 60 (F20 3)), (cJ κ (g8 4) 60 (F20 4)), (cJ κ (g8 5) 60 (F20 5))] H := by rw [e21]; exact hP.sub [0, 1, 2, 3, 4, 5, 6, 7, 8, 9] rfl
    have hD : va_D A [O8 a8 r8, (cI κ (r8 0) 6 g1), (cI κ (r8 1) 6 g3), (cRJ κ (r8 3) 6 (fun i => some (g8 i))), (cJ κ (g8 0) 60 (F20 0)), (cJ κ (g8 1) 60 (F20 1)), (cJ κ (g8 2) 60 (F20 2)), (cJ κ (g8 3) 60 (F20 3)), (cJ κ (g8 4) 60 (F20 4)), (cJ κ (g8 5) 60 (F20 5))] := by rw [e21]; exact hD.sub [0, 1, 2, 3, 4, 5, 6, 7, 8, 9] (by decide) rfl
    have hpo : ∀ j : Nat, 0 ≤ (g3 j).toInt ∧ (g3 j).toInt ≤ 60 := h5
    exact ret _ _ _ _ (g1, g3, F20) dX8_layRow_24 hpo hP hD hS
  · subst h
    refine kcm_v hA hAB hP hD hS [false, false, false, false, false, false, false, false, false, true] rfl (fun _ => rfl) (fun hPc hDc => va_runS (As := [.ref (g8 5), .long (0 : Int64)]) (rest := []) ⟨hx, hb, hml, hown, hts⟩ (k_J7_fill_d0a16 l D κ β 60 (F8 5) H.size (g8 5) (0 : Int64) (by omega)) (va_cwS 2 hts gX8_layRow_J7_fill_d0a16 rfl rfl rfl (by decide +kernel) ⟨Nat.le_of_ble_eq_true rfl, Nat.le_of_ble_eq_true rfl⟩) (pk_S hK hS hAB hPc hDc) rfl rfl hl.1 rfl (lv_room (Nat.le_of_ble_eq_true rfl)) dX8_layRow_21 ⟨Nat.le_of_ble_eq_true rfl, Nat.le_of_ble_eq_true rfl⟩) (fun g22 H locs hw hPD hS => ?_)
    obtain ⟨hP, hD⟩ : PD D A [O8 a8 r8, (cI κ (r8 0) 6 g1), (cI κ (r8 1) 6 g3), (cRJ κ (r8 3) 6 (fun i => some (g8 i))), (cJ κ (g8 0) 60 (F8 0)), (cJ κ (g8 1) 60 (F8 1)), (cJ κ (g8 2) 60 (F8 2)), (cJ κ (g8 3) 60 (F8 3)), (cJ κ (g8 4) 60 (F8 4)), (cJ κ (g8 5) 60 g22)] H := hPD
    obtain ⟨F23, e24⟩ : ∃ y : Nat → Nat → Int64, y = upF F8 5 g22 := ⟨_, rfl⟩
    have hP : va_P D vwCl [O8 a8 r8, (cI κ (r8 0) 6 g1), (cI κ (r8 1) 6 g3), (cRJ κ (r8 3) 6 (fun i => some (g8 i))), (cJ κ (g8 0) 60 (F23 0)), (cJ κ (g8 1) 60 (F23 1)), (cJ κ (g8 2) 60 (F23 2)), (cJ κ (g8 3) 60 (F23 3)), (cJ κ (g8 4) 60 (F23 4)), (cJ κ (g8 5) 60 (F23 5))] H := by rw [e24]; exact hP.sub [0, 1, 2, 3, 4, 5, 6, 7, 8, 9] rfl
    have hD : va_D A [O8 a8 r8, (cI κ (r8 0) 6 g1), (cI κ (r8 1) 6 g3), (cRJ κ (r8 3) 6 (fun i => some (g8 i))), (cJ κ (g8 0) 60 (F23 0)), (cJ κ (g8 1) 60 (F23 1)), (cJ κ (g8 2) 60 (F23 2)), (cJ κ (g8 3) 60 (F23 3)), (cJ κ (g8 4) 60 (F23 4)), (cJ κ (g8 5) 60 (F23 5))] := by rw [e24]; exact hD.sub [0, 1, 2, 3, 4, 5, 6, 7, 8, 9] (by decide) rfl
    have hpo : ∀ j : Nat, 0 ≤ (g3 j).toInt ∧ (g3 j).toInt ≤ 60 := h5
    exact ret _ _ _ _ (g1, g3, F23) dX8_layRow_24 hpo hP hD hS
set_option maxHeartbeats 4000000 in
set_option maxRecDepth 100000 in
theorem k_X8_refusal (l : Launch) (D : va_G) (κ : Nat → ClassId) (β : Nat) (a8 : Nat) (r8 : Nat → Nat) (f8_sorts : Nat → Int32) (f8_lengths : Nat → Int32) (sz : Nat) (p1 : Int32) (p2 : Int32) (hf8_lengths : ∀ j : Nat, 0 ≤ (f8_lengths j).toInt ∧ (f8_lengths j).toInt ≤ 60) : Met l yX8_refusal wsX8_refusal ({ frames := 2, cells := 0, slots := 0, locals := 43 } : Room) (PcK D κ β [O8 a8 r8, (cI κ (r8 0) 6 f8_sorts), (cI κ (r8 1) 6 f8_lengths)] sz [.ref a8, .int p1, .int p2]) (QiK D (fun (r : Int32) (u : Unit) => r.toInt ≠ 0 ∨ (0 ≤ p1.toInt ∧ p1.toInt ≤ 5 ∧ 0 ≤ p2.toInt ∧ p2.toInt ≤ 59)) (fun (u : Unit) => [O8 a8 r8, (cI κ (r8 0) 6 f8_sorts), (cI κ (r8 1) 6 f8_lengths)]) [O8 a8 r8, (cI κ (r8 0) 6 f8_sorts), (cI κ (r8 1) 6 f8_lengths)] sz) 0 0 (va_A [O8 a8 r8, (cI κ (r8 0) 6 f8_sorts), (cI κ (r8 1) 6 f8_lengths)] sz) := by
  refine ofK_i (cc := cX8_refusal) (maxL := 3) (own := RX8) (by decide) rfl rfl (Nat.le_of_ble_eq_true rfl) ?_
  intro p e s m args below meth c Q A ls hsz hx hb hml hts hown hK hA hAB hP hD hl ret
  have hS : va_S A s.heap s.heap [] := va_S.rf
  have hl : lv_has ls 3 [(0, .ref a8), (1, .int p1), (2, .int p2)] := hl
  have w0 := hts (.fieldLink RX8 11 "OlderSkin$Shelves" "sorts" "[I") (List.mem_of_getElem? (i := 1) rfl)
  have w1 := (fun w h => List.mem_cons_of_mem _ (List.mem_append_right _ h) : ∀ w ∈ u_ws RX8 TX8 4, w ∈ wsX8_refusal)
  have w2 := hts (.fieldLink RX8 15 "OlderSkin$Shelves" "lengths" "[I") (List.mem_of_getElem? (i := 2) rfl)
  have w3 := hts (.initialized RX11) (List.mem_of_getElem? (i := 9) rfl)
  have w4 := hts (.static yX11_within) (List.mem_of_getElem? (i := 8) rfl)
  have w5 := hK.2.1 ("OlderSkin$Shelves", 26, ⟨"OlderSkin", "within", "(III)Z"⟩, "OlderSkin") (by decide +kernel)
  have l0 : (0 : Int32).toInt = 0 := by decide
  have l1 : (5 : Int32).toInt = 5 := by decide
  have l2 : (1 : Int32).toInt = 1 := by decide
  have l3 : ((-13) : Int32).toInt = -13 := by decide
  have l4 : ((-12) : Int32).toInt = -12 := by decide
  have l5 : ((-11) : Int32).toInt = -11 := by decide
  have l6 : ((-1) : Int32).toInt = -1 := by decide
  refine lv_aload_n hx hb dX8_refusal_0 rfl (lv_at hl 0 rfl) ?_
  refine lv_iload_n hx hb dX8_refusal_1 rfl (lv_at hl 1 rfl) ?_
  refine kcm_i hA hAB hP hD hS [true, true, false] rfl (fun _ => rfl) (fun hPc hDc => va_runV (As := [.int p1]) (rest := []) ⟨hx, hb, hml, hown, hts⟩ (k_X8_isShelf l D κ β a8 r8 f8_sorts s.heap.size p1) (cwV 1 hts gX8_refusal_X8_isShelf rfl rfl rfl (by decide +kernel) ⟨Nat.le_of_ble_eq_true rfl, Nat.le_of_ble_eq_true rfl⟩) (pk_V hK hS hAB hPc hDc 0 (ci := 8) rfl rfl rfl) rfl rfl hl.1 rfl (lv_room (Nat.le_of_ble_eq_true rfl)) dX8_refusal_2 ⟨Nat.le_of_ble_eq_true rfl, Nat.le_of_ble_eq_true rfl⟩) (fun x1 u2 H locs hw hPD hS => ?_)
  have h3 : (x1.toInt = 1 ∧ 0 ≤ p1.toInt ∧ p1.toInt ≤ 5) ∨ (x1.toInt = 0 ∧ (p1.toInt < 0 ∨ 5 < p1.toInt)) := hw
  obtain ⟨hP, hD⟩ : PD D A [O8 a8 r8, (cI κ (r8 0) 6 f8_sorts), (cI κ (r8 1) 6 f8_lengths)] H := hPD
  refine lv_if_ne (tgt := 10) hx hb dX8_refusal_5 (by decide) (fun c4 => ?_) (fun c4 => ?_)
  · have c4 := ci_ne c4
    refine lv_aload_n hx hb dX8_refusal_10 rfl (lv_at hl 0 rfl) ?_
    refine lv_iload_n hx hb dX8_refusal_11 rfl (lv_at hl 1 rfl) ?_
    refine kcm_i hA hAB hP hD hS [true, true, false] rfl (fun _ => rfl) (fun hPc hDc => va_runV (As := [.int p1]) (rest := []) ⟨hx, hb, hml, hown, hts⟩ (k_X8_isBare l D κ β a8 r8 f8_sorts H.size p1 (by omega)) (cwV 1 hts gX8_refusal_X8_isBare rfl rfl rfl (by decide +kernel) ⟨Nat.le_of_ble_eq_true rfl, Nat.le_of_ble_eq_true rfl⟩) (pk_V hK hS hAB hPc hDc 0 (ci := 8) rfl rfl rfl) rfl rfl hl.1 rfl (lv_room (Nat.le_of_ble_eq_true rfl)) dX8_refusal_12 ⟨Nat.le_of_ble_eq_true rfl, Nat.le_of_ble_eq_true rfl⟩) (fun x5 u6 H locs hw hPD hS => ?_)
    have h7 : x5.toInt = 0 ∨ x5.toInt = 1 := hw
    obtain ⟨hP, hD⟩ : PD D A [O8 a8 r8, (cI κ (r8 0) 6 f8_sorts), (cI κ (r8 1) 6 f8_lengths)] H := hPD
    refine lv_if_eq (tgt := 21) hx hb dX8_refusal_15 (by decide) (fun c8 => ?_) (fun c8 => ?_)
    · have c8 := ci_eq c8
      refine lv_aload_n hx hb dX8_refusal_21 rfl (lv_at hl 0 rfl) ?_
      refine va_get (D := D) (ci := 8) (v := .ref (r8 0)) (C := RX8) (T := TX8) (N := 4) hx hb hts w1 hown hK.1 hP 0 rfl rfl 0 (by decide) w0 (fun _ h9 => h9) rfl dX8_refusal_22 ?_
      refine lv_iload_n hx hb dX8_refusal_25 rfl (lv_at hl 1 rfl) ?_
      refine va_iald hx hb hK.1 hP 1 1 rfl rfl (i := p1) (ix (by omega) (by omega)) dX8_refusal_26 ?_
      refine lv_topi (fun x9 e10 => ?_)
      refine lv_iconst (v := 5) hx hb dX8_refusal_27 (by decide) ?_
      refine lv_icmp_ne (tgt := 34) hx hb dX8_refusal_28 (by decide) (fun c11 => ?_) (fun c11 => ?_)
      · have c11 := ci_ne c11
        refine lv_iload_n hx hb dX8_refusal_34 rfl (lv_at hl 2 rfl) ?_
        refine lv_iconst (v := 0) hx hb dX8_refusal_35 (by decide) ?_
        refine lv_aload_n hx hb dX8_refusal_36 rfl (lv_at hl 0 rfl) ?_
        refine va_get (D := D) (ci := 8) (v := .ref (r8 1)) (C := RX8) (T := TX8) (N := 4) hx hb hts w1 hown hK.1 hP 0 rfl rfl 1 (by decide) w2 (fun _ h9 => h9) rfl dX8_refusal_37 ?_
        refine lv_iload_n hx hb dX8_refusal_40 rfl (lv_at hl 1 rfl) ?_
        refine va_iald hx hb hK.1 hP 2 1 rfl rfl (i := p1) (ix (by omega) (by omega)) dX8_refusal_41 ?_
        refine lv_topi (fun x12 e13 => ?_)
        have h14 : 0 ≤ x12.toInt ∧ x12.toInt ≤ 60 := by rw [e13]; exact hf8_lengths _
        refine lv_iconst (v := 1) hx hb dX8_refusal_42 (by decide) ?_
        refine lv_isub hx hb dX8_refusal_43 ?_
        refine lv_topi (fun x15 e16 => ?_)
        try have h17 : x15.toInt = x12.toInt - (1 : Int32).toInt := ci_sub e16 (by omega) (by omega)
        refine kcm_i hA hAB hP hD hS [false, false, false] rfl (fun _ => rfl) (fun hPc hDc => va_runSN (As := [.int p2, .int 0, .int x15]) (rest := []) ⟨hx, hb, hml, hown, hts⟩ (k_X11_within l D κ β H.size p2 0 x15) ⟨va_cnB 3 hts gX8_refusal_X11_within_n26 rfl rfl rfl w5 w3 (by decide +kernel) ⟨Nat.le_of_ble_eq_true rfl, Nat.le_of_ble_eq_true rfl⟩, w4, trivial⟩ (pk_S hK hS hAB hPc hDc) rfl rfl hl.1 rfl (lv_room (Nat.le_of_ble_eq_true rfl)) dX8_refusal_44 ⟨Nat.le_of_ble_eq_true rfl, Nat.le_of_ble_eq_true rfl⟩) (fun x18 u19 H locs hw hPD hS => ?_)
        have h20 : (x18.toInt = 1 ∧ (0 : Int32).toInt ≤ p2.toInt ∧ p2.toInt ≤ x15.toInt) ∨ (x18.toInt = 0 ∧ (p2.toInt < (0 : Int32).toInt ∨ x15.toInt < p2.toInt)) := hw
        obtain ⟨hP, hD⟩ : PD D A [O8 a8 r8, (cI κ (r8 0) 6 f8_sorts), (cI κ (r8 1) 6 f8_lengths)] H := hPD
        refine lv_if_eq (tgt := 54) hx hb dX8_refusal_47 (by decide) (fun c21 => ?_) (fun c21 => ?_)
        · have c21 := ci_eq c21
          refine lv_bipush (v := (-13)) hx hb dX8_refusal_54 (by decide) ?_
          have hpo : ((-13) : Int32).toInt ≠ 0 ∨ (0 ≤ p1.toInt ∧ p1.toInt ≤ 5 ∧ 0 ≤ p2.toInt ∧ p2.toInt ≤ 59) := (by omega)
          exact ret _ _ _ _ (-13) () dX8_refusal_56 hpo hP hD hS
        have c21 := ci_ne c21
        refine lv_iconst (v := 0) hx hb dX8_refusal_50 (by decide) ?_
        refine lv_goto (tgt := 56) hx hb dX8_refusal_51 (by decide) ?_
        have hpo : (0 : Int32).toInt ≠ 0 ∨ (0 ≤ p1.toInt ∧ p1.toInt ≤ 5 ∧ 0 ≤ p2.toInt ∧ p2.toInt ≤ 59) := (by omega)
        exact ret _ _ _ _ 0 () dX8_refusal_56 hpo hP hD hS
      have c11 := ci_eq c11
      refine lv_bipush (v := (-12)) hx hb dX8_refusal_31 (by decide) ?_
      have hpo : ((-12) : Int32).toInt ≠ 0 ∨ (0 ≤ p1.toInt ∧ p1.toInt ≤ 5 ∧ 0 ≤ p2.toInt ∧ p2.toInt ≤ 59) := (by omega)
      exact ret _ _ _ _ (-12) () dX8_refusal_33 hpo hP hD hS
    have c8 := ci_ne c8
    refine lv_bipush (v := (-11)) hx hb dX8_refusal_18 (by decide) ?_
    have hpo : ((-11) : Int32).toInt ≠ 0 ∨ (0 ≤ p1.toInt ∧ p1.toInt ≤ 5 ∧ 0 ≤ p2.toInt ∧ p2.toInt ≤ 59) := (by omega)
    exact ret _ _ _ _ (-11) () dX8_refusal_20 hpo hP hD hS
  have c4 := ci_eq c4
  refine lv_iconst (v := (-1)) hx hb dX8_refusal_8 (by decide) ?_
  have hpo : ((-1) : Int32).toInt ≠ 0 ∨ (0 ≤ p1.toInt ∧ p1.toInt ≤ 5 ∧ 0 ≤ p2.toInt ∧ p2.toInt ≤ 59) := (by omega)
  exact ret _ _ _ _ (-1) () dX8_refusal_9 hpo hP hD hS
set_option maxHeartbeats 4000000 in
set_option maxRecDepth 100000 in
theorem k_X8_lowBits (l : Launch) (D : va_G) (κ : Nat → ClassId) (β : Nat) (a8 : Nat) (r8 : Nat → Nat) (f8_sorts : Nat → Int32) (sz : Nat) (p1 : Int32) (p2 : Int64) (i1 : 0 ≤ p1.toInt ∧ p1.toInt ≤ 5) : Met l yX8_lowBits wsX8_lowBits ({ frames := 0, cells := 0, slots := 0, locals := 0 } : Room) (PcK D κ β [O8 a8 r8, (cI κ (r8 0) 6 f8_sorts)] sz [.ref a8, .int p1, .long p2]) (QlK D (fun (r : Int64) (u : Unit) => True) (fun (u : Unit) => [O8 a8 r8, (cI κ (r8 0) 6 f8_sorts)]) [O8 a8 r8, (cI κ (r8 0) 6 f8_sorts)] sz) 0 0 (va_A [O8 a8 r8, (cI κ (r8 0) 6 f8_sorts)] sz) := by
  refine ofK_l (cc := cX8_lowBits) (maxL := 4) (own := RX8) (by decide) rfl rfl (Nat.le_of_ble_eq_true rfl) ?_
  intro p e s m args below meth c Q A ls hsz hx hb hml hts hown hK hA hAB hP hD hl ret
  have hS : va_S A s.heap s.heap [] := va_S.rf
  have hl : lv_has ls 4 [(0, .ref a8), (1, .int p1), (2, .long p2)] := hl
  have w0 := hts (.fieldLink RX8 11 "OlderSkin$Shelves" "sorts" "[I") (List.mem_of_getElem? (i := 1) rfl)
  have w1 := (fun w h => List.mem_cons_of_mem _ (List.mem_append_right _ h) : ∀ w ∈ u_ws RX8 TX8 4, w ∈ wsX8_lowBits)
  have l0 : (0 : Int64).toInt = 0 := by decide
  have l1 : (0 : Int32).toInt = 0 := by decide
  have l2 : (1 : Int64).toInt = 1 := by decide
  refine lv_aload_n hx hb dX8_lowBits_0 rfl (lv_at hl 0 rfl) ?_
  refine va_get (D := D) (ci := 8) (v := .ref (r8 0)) (C := RX8) (T := TX8) (N := 4) hx hb hts w1 hown hK.1 hP 0 rfl rfl 0 (by decide) w0 (fun _ h9 => h9) rfl dX8_lowBits_1 ?_
  refine lv_iload_n hx hb dX8_lowBits_4 rfl (lv_at hl 1 rfl) ?_
  refine va_iald hx hb hK.1 hP 1 1 rfl rfl (i := p1) (ix (by omega) (by omega)) dX8_lowBits_5 ?_
  refine lv_topi (fun x1 e2 => ?_)
  by_cases c3 : x1.toInt = 0
  · refine lv_tableIn (off := 34) (tgt := 40) hx hb dX8_lowBits_6 (by omega) (by omega) (by rw [c3]; decide) (by decide) ?_
    refine lv_lload_n hx hb dX8_lowBits_40 rfl (lv_at hl 2 rfl) ?_
    refine lv_l2i hx hb dX8_lowBits_41 rfl ?_
    refine lv_topi (fun x4 e5 => ?_)
    refine lv_i2b hx hb dX8_lowBits_42 rfl ?_
    refine lv_topi (fun x6 e7 => ?_)
    refine lv_i2l hx hb dX8_lowBits_43 rfl ?_
    refine lv_topl (fun x8 e9 => ?_)
    have h10 : x8.toInt = x6.toInt := cl_i2l e9
    exact ret _ _ _ _ x8 () dX8_lowBits_44 trivial hP hD hS
  by_cases c11 : x1.toInt = 1
  · refine lv_tableIn (off := 39) (tgt := 45) hx hb dX8_lowBits_6 (by omega) (by omega) (by rw [c11]; decide) (by decide) ?_
    refine lv_lload_n hx hb dX8_lowBits_45 rfl (lv_at hl 2 rfl) ?_
    refine lv_l2i hx hb dX8_lowBits_46 rfl ?_
    refine lv_topi (fun x12 e13 => ?_)
    refine lv_i2s hx hb dX8_lowBits_47 rfl ?_
    refine lv_topi (fun x14 e15 => ?_)
    refine lv_i2l hx hb dX8_lowBits_48 rfl ?_
    refine lv_topl (fun x16 e17 => ?_)
    have h18 : x16.toInt = x14.toInt := cl_i2l e17
    exact ret _ _ _ _ x16 () dX8_lowBits_49 trivial hP hD hS
  by_cases c19 : x1.toInt = 2
  · refine lv_tableIn (off := 44) (tgt := 50) hx hb dX8_lowBits_6 (by omega) (by omega) (by rw [c19]; decide) (by decide) ?_
    refine lv_lload_n hx hb dX8_lowBits_50 rfl (lv_at hl 2 rfl) ?_
    refine lv_l2i hx hb dX8_lowBits_51 rfl ?_
    refine lv_topi (fun x20 e21 => ?_)
    refine lv_i2l hx hb dX8_lowBits_52 rfl ?_
    refine lv_topl (fun x22 e23 => ?_)
    have h24 : x22.toInt = x20.toInt := cl_i2l e23
    exact ret _ _ _ _ x22 () dX8_lowBits_53 trivial hP hD hS
  by_cases c25 : x1.toInt = 3
  · refine lv_tableIn (off := 60) (tgt := 66) hx hb dX8_lowBits_6 (by omega) (by omega) (by rw [c25]; decide) (by decide) ?_
    refine lv_lload_n hx hb dX8_lowBits_66 rfl (lv_at hl 2 rfl) ?_
    exact ret _ _ _ _ p2 () dX8_lowBits_67 trivial hP hD hS
  by_cases c26 : x1.toInt = 4
  · refine lv_tableIn (off := 48) (tgt := 54) hx hb dX8_lowBits_6 (by omega) (by omega) (by rw [c26]; decide) (by decide) ?_
    refine lv_lload_n hx hb dX8_lowBits_54 rfl (lv_at hl 2 rfl) ?_
    refine lv_lconst (v := (0 : Int64)) hx hb dX8_lowBits_55 (by decide) ?_
    refine W.lcmp hx hb dX8_lowBits_56 ?_
    refine lv_topi (fun x27 e28 => ?_)
    have h29 := cl_cmp e28
    refine lv_if_ne (tgt := 64) hx hb dX8_lowBits_57 (by decide) (fun c30 => ?_) (fun c30 => ?_)
    · have c30 := ci_ne c30
      refine lv_lconst (v := (1 : Int64)) hx hb dX8_lowBits_64 (by decide) ?_
      exact ret _ _ _ _ (1 : Int64) () dX8_lowBits_65 trivial hP hD hS
    have c30 := ci_eq c30
    refine lv_lconst (v := (0 : Int64)) hx hb dX8_lowBits_60 (by decide) ?_
    refine lv_goto (tgt := 65) hx hb dX8_lowBits_61 (by decide) ?_
    exact ret _ _ _ _ (0 : Int64) () dX8_lowBits_65 trivial hP hD hS
  refine lv_tableOut (tgt := 66) hx hb dX8_lowBits_6 (by omega) (by decide) ?_
  refine lv_lload_n hx hb dX8_lowBits_66 rfl (lv_at hl 2 rfl) ?_
  exact ret _ _ _ _ p2 () dX8_lowBits_67 trivial hP hD hS
