set_option maxHeartbeats 4000000 in
set_option maxRecDepth 100000 in
theorem k_X11_become (l : Launch) (D : va_G) (κ : Nat → ClassId) (β : Nat) (a11 : Nat) (a7 : Nat) (a5 : Nat) (a3 : Nat) (a2 : Nat) (a6 : Nat) (a4 : Nat) (a10 : Nat) (a9 : Nat) (a1 : Nat) (a0 : Nat) (a8 : Nat) (aN : Nat) (sz : Nat) (p1 : Int32) (p2 : Int32) (p3 : Int32) (i1 : (1 : Int) ≤ 0) : Met l yX11_become wsX11_become ({ frames := 1, cells := 0, slots := 0, locals := 30 } : Room) (PcK D κ β [O11 a11 a7 a5 a3 a2 a6 a4 a10 a9 a1 a0 a8 aN] sz [.ref a11, .int p1, .int p2, .int p3]) (QiK D (fun (r : Int32) (u : Unit) => True) (fun (u : Unit) => [O11 a11 a7 a5 a3 a2 a6 a4 a10 a9 a1 a0 a8 aN]) [O11 a11 a7 a5 a3 a2 a6 a4 a10 a9 a1 a0 a8 aN] sz) 0 0 (va_A [O11 a11 a7 a5 a3 a2 a6 a4 a10 a9 a1 a0 a8 aN] sz) := by
  refine ofK_i (cc := cX11_become) (maxL := 6) (own := RX11) (by decide) rfl rfl (Nat.le_of_ble_eq_true rfl) ?_
  intro p e s m args below meth c Q A ls hsz hx hb hml hts hown hK hA hAB hP hD hl ret
  have hS : va_S A s.heap s.heap [] := va_S.rf
  have hl : lv_has ls 6 [(0, .ref a11), (1, .int p1), (2, .int p2), (3, .int p3)] := hl
  exfalso
  omega
set_option maxHeartbeats 4000000 in
set_option maxRecDepth 100000 in
theorem k_X11_change (l : Launch) (D : va_G) (κ : Nat → ClassId) (β : Nat) (a11 : Nat) (a7 : Nat) (a5 : Nat) (a3 : Nat) (a2 : Nat) (a6 : Nat) (a4 : Nat) (a10 : Nat) (a9 : Nat) (a1 : Nat) (a0 : Nat) (a8 : Nat) (aN : Nat) (sz : Nat) (p1 : Int32) (p2 : Int32) (p3 : Int32) (i1 : (1 : Int) ≤ 0) : Met l yX11_change wsX11_change ({ frames := 1, cells := 0, slots := 0, locals := 30 } : Room) (PcK D κ β [O11 a11 a7 a5 a3 a2 a6 a4 a10 a9 a1 a0 a8 aN] sz [.ref a11, .int p1, .int p2, .int p3]) (QiK D (fun (r : Int32) (u : Unit) => True) (fun (u : Unit) => [O11 a11 a7 a5 a3 a2 a6 a4 a10 a9 a1 a0 a8 aN]) [O11 a11 a7 a5 a3 a2 a6 a4 a10 a9 a1 a0 a8 aN] sz) 0 0 (va_A [O11 a11 a7 a5 a3 a2 a6 a4 a10 a9 a1 a0 a8 aN] sz) := by
  refine ofK_i (cc := cX11_change) (maxL := 5) (own := RX11) (by decide) rfl rfl (Nat.le_of_ble_eq_true rfl) ?_
  intro p e s m args below meth c Q A ls hsz hx hb hml hts hown hK hA hAB hP hD hl ret
  have hS : va_S A s.heap s.heap [] := va_S.rf
  have hl : lv_has ls 5 [(0, .ref a11), (1, .int p1), (2, .int p2), (3, .int p3)] := hl
  exfalso
  omega
set_option maxHeartbeats 4000000 in
set_option maxRecDepth 100000 in
theorem k_X11_age (l : Launch) (D : va_G) (κ : Nat → ClassId) (β : Nat) (a11 : Nat) (a7 : Nat) (a5 : Nat) (a3 : Nat) (a2 : Nat) (a6 : Nat) (a4 : Nat) (a10 : Nat) (a9 : Nat) (a1 : Nat) (a0 : Nat) (a8 : Nat) (aN : Nat) (r7 : Nat → Nat) (v7_count : Int32) (v7_holes : Int32) (v7_worms : Int32) (sz : Nat) (p1 : Int32) (p2 : Int32) (i1 : Rg 0 8 v7_count) (i2 : Rg 0 40 v7_holes) (i3 : Rg 0 40 v7_worms) (i4 : v7_count.toInt = 0) (i5 : v7_holes.toInt = 0) (i6 : v7_worms.toInt = 0) : Met l yX11_age wsX11_age ({ frames := 2, cells := 0, slots := 0, locals := 43 } : Room) (PcK D κ β [O11 a11 a7 a5 a3 a2 a6 a4 a10 a9 a1 a0 a8 aN, O7 a7 r7 v7_count v7_holes v7_worms] sz [.ref a11, .int p1, .int p2]) (QiK D (fun (r : Int32) (u : Unit) => r.toInt = -1) (fun (u : Unit) => [O11 a11 a7 a5 a3 a2 a6 a4 a10 a9 a1 a0 a8 aN, O7 a7 r7 v7_count v7_holes v7_worms]) [O11 a11 a7 a5 a3 a2 a6 a4 a10 a9 a1 a0 a8 aN, O7 a7 r7 v7_count v7_holes v7_worms] sz) 0 0 (va_A [O11 a11 a7 a5 a3 a2 a6 a4 a10 a9 a1 a0 a8 aN, O7 a7 r7 v7_count v7_holes v7_worms] sz) := by
  refine ofK_i (cc := cX11_age) (maxL := 3) (own := RX11) (by decide) rfl rfl (Nat.le_of_ble_eq_true rfl) ?_
  intro p e s m args below meth c Q A ls hsz hx hb hml hts hown hK hA hAB hP hD hl ret
  have hS : va_S A s.heap s.heap [] := va_S.rf
  have hl : lv_has ls 3 [(0, .ref a11), (1, .int p1), (2, .int p2)] := hl
  have w0 := hts (.fieldLink RX11 10 "OlderSkin" "sheets" "LOlderSkin$Sheets;") (List.mem_of_getElem? (i := 1) rfl)
  have w1 := (fun w h => List.mem_cons_of_mem _ (List.mem_append_left _ (List.mem_append_left _ (List.mem_append_left _ (List.mem_append_left _ (List.mem_append_right _ h))))) : ∀ w ∈ u_ws RX11 TX11 12, w ∈ wsX11_age)
  have l0 : (0 : Int32).toInt = 0 := by decide
  have l1 : ((-1) : Int32).toInt = -1 := by decide
  have i1 : 0 ≤ v7_count.toInt ∧ v7_count.toInt ≤ 8 := i1
  refine lv_aload_n hx hb dX11_age_0 rfl (lv_at hl 0 rfl) ?_
  refine va_get (D := D) (ci := 11) (v := .ref a7) (C := RX11) (T := TX11) (N := 12) hx hb hts w1 hown hK.1 hP 0 rfl rfl 0 (by decide) w0 (fun _ h9 => h9) rfl dX11_age_1 ?_
  refine lv_iload_n hx hb dX11_age_4 rfl (lv_at hl 1 rfl) ?_
  refine kcm_i hA hAB hP hD hS [false, true] rfl (fun _ => rfl) (fun hPc hDc => va_runV (As := [.int p1]) (rest := []) ⟨hx, hb, hml, hown, hts⟩ (k_X7_isSheet l D κ β a7 r7 v7_count v7_holes v7_worms s.heap.size p1 i1 i2 i3 (by omega) (by omega) (by omega)) (cwV 1 hts gX11_age_X7_isSheet rfl rfl rfl (by decide +kernel) ⟨Nat.le_of_ble_eq_true rfl, Nat.le_of_ble_eq_true rfl⟩) (pk_V hK hS hAB hPc hDc 0 (ci := 7) rfl rfl rfl) rfl rfl hl.1 rfl (lv_room (Nat.le_of_ble_eq_true rfl)) dX11_age_5 ⟨Nat.le_of_ble_eq_true rfl, Nat.le_of_ble_eq_true rfl⟩) (fun x1 u2 H locs hw hPD hS => ?_)
  have h3 : (x1.toInt = 1 ∧ 0 ≤ p1.toInt ∧ p1.toInt < v7_count.toInt) ∨ (x1.toInt = 0 ∧ (p1.toInt < 0 ∨ v7_count.toInt ≤ p1.toInt)) := hw
  obtain ⟨hP, hD⟩ : PD D A [O11 a11 a7 a5 a3 a2 a6 a4 a10 a9 a1 a0 a8 aN, O7 a7 r7 v7_count v7_holes v7_worms] H := hPD
  refine lv_if_eq (tgt := 18) hx hb dX11_age_8 (by decide) (fun c4 => ?_) (fun c4 => ?_)
  · have c4 := ci_eq c4
    refine lv_iconst (v := (-1)) hx hb dX11_age_18 (by decide) ?_
    have hpo : ((-1) : Int32).toInt = -1 := (by omega)
    exact ret _ _ _ _ (-1) () dX11_age_19 hpo hP hD hS
  have c4 := ci_ne c4
  exfalso
  omega
set_option maxHeartbeats 4000000 in
set_option maxRecDepth 100000 in
theorem k_X11_mend (l : Launch) (D : va_G) (κ : Nat → ClassId) (β : Nat) (a11 : Nat) (a7 : Nat) (a5 : Nat) (a3 : Nat) (a2 : Nat) (a6 : Nat) (a4 : Nat) (a10 : Nat) (a9 : Nat) (a1 : Nat) (a0 : Nat) (a8 : Nat) (aN : Nat) (r2 : Nat → Nat) (v2_count : Int32) (v2_madeIn : Int32) (v2_bound : Int32) (sz : Nat) (p1 : Int32) (p2 : Int32) (i1 : Rg 0 40 v2_count) (i2 : v2_count.toInt = 0) (i3 : v2_madeIn.toInt = 2001) : Met l yX11_mend wsX11_mend ({ frames := 2, cells := 0, slots := 0, locals := 43 } : Room) (PcK D κ β [O11 a11 a7 a5 a3 a2 a6 a4 a10 a9 a1 a0 a8 aN, O2 a2 r2 v2_count v2_madeIn v2_bound] sz [.ref a11, .int p1, .int p2]) (QiK D (fun (r : Int32) (u : Unit) => r.toInt = -1) (fun (u : Unit) => [O11 a11 a7 a5 a3 a2 a6 a4 a10 a9 a1 a0 a8 aN, O2 a2 r2 v2_count v2_madeIn v2_bound]) [O11 a11 a7 a5 a3 a2 a6 a4 a10 a9 a1 a0 a8 aN, O2 a2 r2 v2_count v2_madeIn v2_bound] sz) 0 0 (va_A [O11 a11 a7 a5 a3 a2 a6 a4 a10 a9 a1 a0 a8 aN, O2 a2 r2 v2_count v2_madeIn v2_bound] sz) := by
  refine ofK_i (cc := cX11_mend) (maxL := 3) (own := RX11) (by decide) rfl rfl (Nat.le_of_ble_eq_true rfl) ?_
  intro p e s m args below meth c Q A ls hsz hx hb hml hts hown hK hA hAB hP hD hl ret
  have hS : va_S A s.heap s.heap [] := va_S.rf
  have hl : lv_has ls 3 [(0, .ref a11), (1, .int p1), (2, .int p2)] := hl
  have w0 := hts (.fieldLink RX11 33 "OlderSkin" "dots" "LOlderSkin$Dots;") (List.mem_of_getElem? (i := 1) rfl)
  have w1 := (fun w h => List.mem_cons_of_mem _ (List.mem_append_left _ (List.mem_append_left _ (List.mem_append_left _ (List.mem_append_left _ (List.mem_append_right _ h))))) : ∀ w ∈ u_ws RX11 TX11 12, w ∈ wsX11_mend)
  have l0 : (0 : Int32).toInt = 0 := by decide
  have l1 : ((-1) : Int32).toInt = -1 := by decide
  have i1 : 0 ≤ v2_count.toInt ∧ v2_count.toInt ≤ 40 := i1
  refine lv_aload_n hx hb dX11_mend_0 rfl (lv_at hl 0 rfl) ?_
  refine va_get (D := D) (ci := 11) (v := .ref a2) (C := RX11) (T := TX11) (N := 12) hx hb hts w1 hown hK.1 hP 0 rfl rfl 3 (by decide) w0 (fun _ h9 => h9) rfl dX11_mend_1 ?_
  refine lv_iload_n hx hb dX11_mend_4 rfl (lv_at hl 1 rfl) ?_
  refine kcm_i hA hAB hP hD hS [false, true] rfl (fun _ => rfl) (fun hPc hDc => va_runV (As := [.int p1]) (rest := []) ⟨hx, hb, hml, hown, hts⟩ (k_X2_isOne l D κ β a2 r2 v2_count v2_madeIn v2_bound s.heap.size p1 i1 (by omega) (by omega)) (cwV 1 hts gX11_mend_X2_isOne rfl rfl rfl (by decide +kernel) ⟨Nat.le_of_ble_eq_true rfl, Nat.le_of_ble_eq_true rfl⟩) (pk_V hK hS hAB hPc hDc 0 (ci := 2) rfl rfl rfl) rfl rfl hl.1 rfl (lv_room (Nat.le_of_ble_eq_true rfl)) dX11_mend_5 ⟨Nat.le_of_ble_eq_true rfl, Nat.le_of_ble_eq_true rfl⟩) (fun x1 u2 H locs hw hPD hS => ?_)
  have h3 : (x1.toInt = 1 ∧ 0 ≤ p1.toInt ∧ p1.toInt < v2_count.toInt) ∨ (x1.toInt = 0 ∧ (p1.toInt < 0 ∨ v2_count.toInt ≤ p1.toInt)) := hw
  obtain ⟨hP, hD⟩ : PD D A [O11 a11 a7 a5 a3 a2 a6 a4 a10 a9 a1 a0 a8 aN, O2 a2 r2 v2_count v2_madeIn v2_bound] H := hPD
  refine lv_if_eq (tgt := 18) hx hb dX11_mend_8 (by decide) (fun c4 => ?_) (fun c4 => ?_)
  · have c4 := ci_eq c4
    refine lv_iconst (v := (-1)) hx hb dX11_mend_18 (by decide) ?_
    have hpo : ((-1) : Int32).toInt = -1 := (by omega)
    exact ret _ _ _ _ (-1) () dX11_mend_19 hpo hP hD hS
  have c4 := ci_ne c4
  exfalso
  omega
set_option maxHeartbeats 4000000 in
set_option maxRecDepth 100000 in
theorem k_X11_prior (l : Launch) (D : va_G) (κ : Nat → ClassId) (β : Nat) (a11 : Nat) (a7 : Nat) (a5 : Nat) (a3 : Nat) (a2 : Nat) (a6 : Nat) (a4 : Nat) (a10 : Nat) (a9 : Nat) (a1 : Nat) (a0 : Nat) (a8 : Nat) (aN : Nat) (r9 : Nat → Nat) (v9_count : Int32) (sz : Nat) (p1 : Int32) (p2 : Int32) (i1 : Rg 0 6 v9_count) (i2 : v9_count.toInt = 0) : Met l yX11_prior wsX11_prior ({ frames := 2, cells := 0, slots := 0, locals := 43 } : Room) (PcK D κ β [O11 a11 a7 a5 a3 a2 a6 a4 a10 a9 a1 a0 a8 aN, O9 a9 r9 v9_count] sz [.ref a11, .int p1, .int p2]) (QiK D (fun (r : Int32) (u : Unit) => r.toInt = -1) (fun (u : Unit) => [O11 a11 a7 a5 a3 a2 a6 a4 a10 a9 a1 a0 a8 aN, O9 a9 r9 v9_count]) [O11 a11 a7 a5 a3 a2 a6 a4 a10 a9 a1 a0 a8 aN, O9 a9 r9 v9_count] sz) 0 0 (va_A [O11 a11 a7 a5 a3 a2 a6 a4 a10 a9 a1 a0 a8 aN, O9 a9 r9 v9_count] sz) := by
  refine ofK_i (cc := cX11_prior) (maxL := 3) (own := RX11) (by decide) rfl rfl (Nat.le_of_ble_eq_true rfl) ?_
  intro p e s m args below meth c Q A ls hsz hx hb hml hts hown hK hA hAB hP hD hl ret
  have hS : va_S A s.heap s.heap [] := va_S.rf
  have hl : lv_has ls 3 [(0, .ref a11), (1, .int p1), (2, .int p2)] := hl
  have w0 := hts (.fieldLink RX11 61 "OlderSkin" "stories" "LOlderSkin$Stories;") (List.mem_of_getElem? (i := 1) rfl)
  have w1 := (fun w h => List.mem_cons_of_mem _ (List.mem_append_left _ (List.mem_append_left _ (List.mem_append_left _ (List.mem_append_left _ (List.mem_append_right _ h))))) : ∀ w ∈ u_ws RX11 TX11 12, w ∈ wsX11_prior)
  have l0 : (0 : Int32).toInt = 0 := by decide
  have l1 : ((-1) : Int32).toInt = -1 := by decide
  have i1 : 0 ≤ v9_count.toInt ∧ v9_count.toInt ≤ 6 := i1
  refine lv_aload_n hx hb dX11_prior_0 rfl (lv_at hl 0 rfl) ?_
  refine va_get (D := D) (ci := 11) (v := .ref a9) (C := RX11) (T := TX11) (N := 12) hx hb hts w1 hown hK.1 hP 0 rfl rfl 7 (by decide) w0 (fun _ h9 => h9) rfl dX11_prior_1 ?_
  refine lv_iload_n hx hb dX11_prior_4 rfl (lv_at hl 1 rfl) ?_
  refine kcm_i hA hAB hP hD hS [false, true] rfl (fun _ => rfl) (fun hPc hDc => va_runV (As := [.int p1]) (rest := []) ⟨hx, hb, hml, hown, hts⟩ (k_X9_isStory l D κ β a9 r9 v9_count s.heap.size p1 i1 (by omega)) (cwV 1 hts gX11_prior_X9_isStory rfl rfl rfl (by decide +kernel) ⟨Nat.le_of_ble_eq_true rfl, Nat.le_of_ble_eq_true rfl⟩) (pk_V hK hS hAB hPc hDc 0 (ci := 9) rfl rfl rfl) rfl rfl hl.1 rfl (lv_room (Nat.le_of_ble_eq_true rfl)) dX11_prior_5 ⟨Nat.le_of_ble_eq_true rfl, Nat.le_of_ble_eq_true rfl⟩) (fun x1 u2 H locs hw hPD hS => ?_)
  have h3 : (x1.toInt = 1 ∧ 0 ≤ p1.toInt ∧ p1.toInt < v9_count.toInt) ∨ (x1.toInt = 0 ∧ (p1.toInt < 0 ∨ v9_count.toInt ≤ p1.toInt)) := hw
  obtain ⟨hP, hD⟩ : PD D A [O11 a11 a7 a5 a3 a2 a6 a4 a10 a9 a1 a0 a8 aN, O9 a9 r9 v9_count] H := hPD
  refine lv_if_eq (tgt := 18) hx hb dX11_prior_8 (by decide) (fun c4 => ?_) (fun c4 => ?_)
  · have c4 := ci_eq c4
    refine lv_iconst (v := (-1)) hx hb dX11_prior_18 (by decide) ?_
    have hpo : ((-1) : Int32).toInt = -1 := (by omega)
    exact ret _ _ _ _ (-1) () dX11_prior_19 hpo hP hD hS
  have c4 := ci_ne c4
  exfalso
  omega
set_option maxHeartbeats 4000000 in
set_option maxRecDepth 100000 in
theorem k_X11_undo (l : Launch) (D : va_G) (κ : Nat → ClassId) (β : Nat) (a11 : Nat) (a7 : Nat) (a5 : Nat) (a3 : Nat) (a2 : Nat) (a6 : Nat) (a4 : Nat) (a10 : Nat) (a9 : Nat) (a1 : Nat) (a0 : Nat) (a8 : Nat) (aN : Nat) (r1 : Nat → Nat) (v1_done : Int32) (v1_kept : Int32) (sz : Nat) (i1 : Rg 0 40 v1_done) (i2 : Rg 0 40 v1_kept) (i3 : v1_done.toInt = 0) (i4 : v1_kept.toInt = 0) : Met l yX11_undo wsX11_undo ({ frames := 0, cells := 0, slots := 0, locals := 0 } : Room) (PcK D κ β [O11 a11 a7 a5 a3 a2 a6 a4 a10 a9 a1 a0 a8 aN, O1 a1 r1 v1_done v1_kept] sz [.ref a11]) (QiK D (fun (r : Int32) (u : Unit) => r.toInt = -5) (fun (u : Unit) => [O11 a11 a7 a5 a3 a2 a6 a4 a10 a9 a1 a0 a8 aN, O1 a1 r1 v1_done v1_kept]) [O11 a11 a7 a5 a3 a2 a6 a4 a10 a9 a1 a0 a8 aN, O1 a1 r1 v1_done v1_kept] sz) 0 0 (va_A [O11 a11 a7 a5 a3 a2 a6 a4 a10 a9 a1 a0 a8 aN, O1 a1 r1 v1_done v1_kept] sz) := by
  refine ofK_i (cc := cX11_undo) (maxL := 2) (own := RX11) (by decide) rfl rfl (Nat.le_of_ble_eq_true rfl) ?_
  intro p e s m args below meth c Q A ls hsz hx hb hml hts hown hK hA hAB hP hD hl ret
  have hS : va_S A s.heap s.heap [] := va_S.rf
  have hl : lv_has ls 2 [(0, .ref a11)] := hl
  have w0 := hts (.fieldLink RX11 68 "OlderSkin" "changes" "LOlderSkin$Changes;") (List.mem_of_getElem? (i := 1) rfl)
  have w1 := (fun w h => List.mem_cons_of_mem _ (List.mem_append_left _ (List.mem_append_left _ (List.mem_append_left _ (List.mem_append_left _ (List.mem_append_right _ h))))) : ∀ w ∈ u_ws RX11 TX11 12, w ∈ wsX11_undo)
  have w2 := hts (.fieldLink RX11 365 "OlderSkin$Changes" "done" "I") (List.mem_of_getElem? (i := 2) rfl)
  have w3 := (fun w h => List.mem_cons_of_mem _ (List.mem_append_left _ (List.mem_append_left _ (List.mem_append_left _ (List.mem_append_right _ h)))) : ∀ w ∈ u_ws RX1 TX1 6, w ∈ wsX11_undo)
  have l0 : (0 : Int32).toInt = 0 := by decide
  have l1 : ((-5) : Int32).toInt = -5 := by decide
  have i1 : 0 ≤ v1_done.toInt ∧ v1_done.toInt ≤ 40 := i1
  refine lv_aload_n hx hb dX11_undo_0 rfl (lv_at hl 0 rfl) ?_
  refine va_get (D := D) (ci := 11) (v := .ref a1) (C := RX11) (T := TX11) (N := 12) hx hb hts w1 hown hK.1 hP 0 rfl rfl 8 (by decide) w0 (fun _ h9 => h9) rfl dX11_undo_1 ?_
  refine va_get (D := D) (ci := 1) (v := .int v1_done) (C := RX1) (T := TX1) (N := 6) hx hb hts w3 hown hK.1 hP 1 rfl rfl 4 (by decide) w2 (fun _ h9 => h9) rfl dX11_undo_4 ?_
  refine lv_if_ne (tgt := 13) hx hb dX11_undo_7 (by decide) (fun c1 => ?_) (fun c1 => ?_)
  · have c1 := ci_ne c1
    exfalso
    omega
  have c1 := ci_eq c1
  refine lv_bipush (v := (-5)) hx hb dX11_undo_10 (by decide) ?_
  have hpo : ((-5) : Int32).toInt = -5 := (by omega)
  exact ret _ _ _ _ (-5) () dX11_undo_12 hpo hP hD hS
set_option maxHeartbeats 4000000 in
set_option maxRecDepth 100000 in
theorem k_X11_redo (l : Launch) (D : va_G) (κ : Nat → ClassId) (β : Nat) (a11 : Nat) (a7 : Nat) (a5 : Nat) (a3 : Nat) (a2 : Nat) (a6 : Nat) (a4 : Nat) (a10 : Nat) (a9 : Nat) (a1 : Nat) (a0 : Nat) (a8 : Nat) (aN : Nat) (r1 : Nat → Nat) (v1_done : Int32) (v1_kept : Int32) (sz : Nat) (i1 : Rg 0 40 v1_done) (i2 : Rg 0 40 v1_kept) (i3 : v1_done.toInt = 0) (i4 : v1_kept.toInt = 0) : Met l yX11_redo wsX11_redo ({ frames := 0, cells := 0, slots := 0, locals := 0 } : Room) (PcK D κ β [O11 a11 a7 a5 a3 a2 a6 a4 a10 a9 a1 a0 a8 aN, O1 a1 r1 v1_done v1_kept] sz [.ref a11]) (QiK D (fun (r : Int32) (u : Unit) => r.toInt = -5) (fun (u : Unit) => [O11 a11 a7 a5 a3 a2 a6 a4 a10 a9 a1 a0 a8 aN, O1 a1 r1 v1_done v1_kept]) [O11 a11 a7 a5 a3 a2 a6 a4 a10 a9 a1 a0 a8 aN, O1 a1 r1 v1_done v1_kept] sz) 0 0 (va_A [O11 a11 a7 a5 a3 a2 a6 a4 a10 a9 a1 a0 a8 aN, O1 a1 r1 v1_done v1_kept] sz) := by
  refine ofK_i (cc := cX11_redo) (maxL := 2) (own := RX11) (by decide) rfl rfl (Nat.le_of_ble_eq_true rfl) ?_
  intro p e s m args below meth c Q A ls hsz hx hb hml hts hown hK hA hAB hP hD hl ret
  have hS : va_S A s.heap s.heap [] := va_S.rf
  have hl : lv_has ls 2 [(0, .ref a11)] := hl
  have w0 := hts (.fieldLink RX11 68 "OlderSkin" "changes" "LOlderSkin$Changes;") (List.mem_of_getElem? (i := 1) rfl)
  have w1 := (fun w h => List.mem_cons_of_mem _ (List.mem_append_left _ (List.mem_append_left _ (List.mem_append_left _ (List.mem_append_left _ (List.mem_append_right _ h))))) : ∀ w ∈ u_ws RX11 TX11 12, w ∈ wsX11_redo)
  have w2 := hts (.fieldLink RX11 365 "OlderSkin$Changes" "done" "I") (List.mem_of_getElem? (i := 2) rfl)
  have w3 := (fun w h => List.mem_cons_of_mem _ (List.mem_append_left _ (List.mem_append_left _ (List.mem_append_left _ (List.mem_append_right _ h)))) : ∀ w ∈ u_ws RX1 TX1 6, w ∈ wsX11_redo)
  have w4 := hts (.fieldLink RX11 383 "OlderSkin$Changes" "kept" "I") (List.mem_of_getElem? (i := 3) rfl)
  have l0 : (0 : Int32).toInt = 0 := by decide
  have l1 : ((-5) : Int32).toInt = -5 := by decide
  have i1 : 0 ≤ v1_done.toInt ∧ v1_done.toInt ≤ 40 := i1
  have i2 : 0 ≤ v1_kept.toInt ∧ v1_kept.toInt ≤ 40 := i2
  refine lv_aload_n hx hb dX11_redo_0 rfl (lv_at hl 0 rfl) ?_
  refine va_get (D := D) (ci := 11) (v := .ref a1) (C := RX11) (T := TX11) (N := 12) hx hb hts w1 hown hK.1 hP 0 rfl rfl 8 (by decide) w0 (fun _ h9 => h9) rfl dX11_redo_1 ?_
  refine va_get (D := D) (ci := 1) (v := .int v1_done) (C := RX1) (T := TX1) (N := 6) hx hb hts w3 hown hK.1 hP 1 rfl rfl 4 (by decide) w2 (fun _ h9 => h9) rfl dX11_redo_4 ?_
  refine lv_aload_n hx hb dX11_redo_7 rfl (lv_at hl 0 rfl) ?_
  refine va_get (D := D) (ci := 11) (v := .ref a1) (C := RX11) (T := TX11) (N := 12) hx hb hts w1 hown hK.1 hP 0 rfl rfl 8 (by decide) w0 (fun _ h9 => h9) rfl dX11_redo_8 ?_
  refine va_get (D := D) (ci := 1) (v := .int v1_kept) (C := RX1) (T := TX1) (N := 6) hx hb hts w3 hown hK.1 hP 1 rfl rfl 5 (by decide) w4 (fun _ h9 => h9) rfl dX11_redo_11 ?_
  refine lv_icmp_ne (tgt := 20) hx hb dX11_redo_14 (by decide) (fun c1 => ?_) (fun c1 => ?_)
  · have c1 := ci_ne c1
    exfalso
    omega
  have c1 := ci_eq c1
  refine lv_bipush (v := (-5)) hx hb dX11_redo_17 (by decide) ?_
  have hpo : ((-5) : Int32).toInt = -5 := (by omega)
  exact ret _ _ _ _ (-5) () dX11_redo_19 hpo hP hD hS
set_option maxHeartbeats 4000000 in
set_option maxRecDepth 100000 in
theorem k_X11_feed (l : Launch) (D : va_G) (κ : Nat → ClassId) (β : Nat) (a11 : Nat) (a7 : Nat) (a5 : Nat) (a3 : Nat) (a2 : Nat) (a6 : Nat) (a4 : Nat) (a10 : Nat) (a9 : Nat) (a1 : Nat) (a0 : Nat) (a8 : Nat) (aN : Nat) (r10 : Nat → Nat) (b10_bytes : Nat) (v10_count : Int32) (v10_at : Int32) (b10_steps : Nat) (v10_size : Int32) (n10_bytes : Nat) (f10_bytes : Nat → Int32) (sz : Nat) (p1 : Int32) (p2 : Int32) (i1 : Rg 0 2048 v10_count) (i2 : Rg 0 2048 v10_at) (i3 : Rg 0 4096 v10_size) (hf10_bytes : ∀ j : Nat, -128 ≤ (f10_bytes j).toInt ∧ (f10_bytes j).toInt ≤ 127) (i4 : v10_count.toInt ≤ ((n10_bytes : Nat) : Int)) (i5 : 64 ≤ ((n10_bytes : Nat) : Int) ∧ ((n10_bytes : Nat) : Int) ≤ 4096) (i6 : v10_count.toInt = 0) : Met l yX11_feed wsX11_feed ({ frames := 1, cells := 1, slots := 4096, locals := 23 } : Room) (PcK D κ β [O11 a11 a7 a5 a3 a2 a6 a4 a10 a9 a1 a0 a8 aN, O10 a10 r10 b10_bytes v10_count v10_at b10_steps v10_size, (cB κ b10_bytes n10_bytes f10_bytes)] sz [.ref a11, .int p1, .int p2]) (QiK D (fun (r : Int32) (u : Int32 × (Nat → Int32)) => (0 ≤ u.1.toInt ∧ u.1.toInt ≤ 2048) ∧ (∀ j : Nat, -128 ≤ (u.2 j).toInt ∧ (u.2 j).toInt ≤ 127) ∧ (u.1.toInt ≤ ((n10_bytes : Nat) : Int)) ∧ (((1 ≤ p1.toInt ∧ p1.toInt ≤ 4) ∧ r.toInt = p1.toInt) ∨ (¬ (1 ≤ p1.toInt ∧ p1.toInt ≤ 4) ∧ r.toInt = -1))) (fun (u : Int32 × (Nat → Int32)) => [O11 a11 a7 a5 a3 a2 a6 a4 a10 a9 a1 a0 a8 aN, O10 a10 r10 b10_bytes u.1 v10_at b10_steps v10_size, (cB κ b10_bytes n10_bytes u.2)]) [O11 a11 a7 a5 a3 a2 a6 a4 a10 a9 a1 a0 a8 aN, O10 a10 r10 b10_bytes v10_count v10_at b10_steps v10_size, (cB κ b10_bytes n10_bytes f10_bytes)] sz) 1 4096 (va_A [O11 a11 a7 a5 a3 a2 a6 a4 a10 a9 a1 a0 a8 aN, O10 a10 r10 b10_bytes v10_count v10_at b10_steps v10_size, (cB κ b10_bytes n10_bytes f10_bytes)] sz) := by
  refine ofK_i (cc := cX11_feed) (maxL := 3) (own := RX11) (by decide) rfl rfl (Nat.le_of_ble_eq_true rfl) ?_
  intro p e s m args below meth c Q A ls hsz hx hb hml hts hown hK hA hAB hP hD hl ret
  have hS : va_S A s.heap s.heap [] := va_S.rf
  have hl : lv_has ls 3 [(0, .ref a11), (1, .int p1), (2, .int p2)] := hl
  have w0 := hts (.fieldLink RX11 54 "OlderSkin" "tape" "LOlderSkin$Tape;") (List.mem_of_getElem? (i := 1) rfl)
  have w1 := (fun w h => List.mem_cons_of_mem _ (List.mem_append_left _ (List.mem_append_right _ h)) : ∀ w ∈ u_ws RX11 TX11 12, w ∈ wsX11_feed)
  have l0 : (1 : Int32).toInt = 1 := by decide
  have l1 : (4 : Int32).toInt = 4 := by decide
  have l2 : (0 : Int32).toInt = 0 := by decide
  have l3 : ((-1) : Int32).toInt = -1 := by decide
  refine lv_iload_n hx hb dX11_feed_0 rfl (lv_at hl 1 rfl) ?_
  refine lv_iconst (v := 1) hx hb dX11_feed_1 (by decide) ?_
  refine lv_iconst (v := 4) hx hb dX11_feed_2 (by decide) ?_
  refine kcm_i hA hAB hP hD hS [false, false, false] rfl (fun _ => rfl) (fun hPc hDc => va_runS (As := [.int p1, .int 1, .int 4]) (rest := []) ⟨hx, hb, hml, hown, hts⟩ (k_X11_within l D κ β s.heap.size p1 1 4) (va_cwS 3 hts gX11_feed_X11_within rfl rfl rfl (by decide +kernel) ⟨Nat.le_of_ble_eq_true rfl, Nat.le_of_ble_eq_true rfl⟩) (pk_S hK hS hAB hPc hDc) rfl rfl hl.1 rfl (lv_room (Nat.le_of_ble_eq_true rfl)) dX11_feed_3 ⟨Nat.le_of_ble_eq_true rfl, Nat.le_of_ble_eq_true rfl⟩) (fun x1 u2 H locs hw hPD hS => ?_)
  have h3 : (x1.toInt = 1 ∧ (1 : Int32).toInt ≤ p1.toInt ∧ p1.toInt ≤ (4 : Int32).toInt) ∨ (x1.toInt = 0 ∧ (p1.toInt < (1 : Int32).toInt ∨ (4 : Int32).toInt < p1.toInt)) := hw
  obtain ⟨hP, hD⟩ : PD D A [O11 a11 a7 a5 a3 a2 a6 a4 a10 a9 a1 a0 a8 aN, O10 a10 r10 b10_bytes v10_count v10_at b10_steps v10_size, (cB κ b10_bytes n10_bytes f10_bytes)] H := hPD
  refine lv_if_ne (tgt := 11) hx hb dX11_feed_6 (by decide) (fun c4 => ?_) (fun c4 => ?_)
  · have c4 := ci_ne c4
    refine lv_aload_n hx hb dX11_feed_11 rfl (lv_at hl 0 rfl) ?_
    refine va_get (D := D) (ci := 11) (v := .ref a10) (C := RX11) (T := TX11) (N := 12) hx hb hts w1 hown hK.1 hP 0 rfl rfl 6 (by decide) w0 (fun _ h9 => h9) rfl dX11_feed_12 ?_
    refine lv_iload_n hx hb dX11_feed_15 rfl (lv_at hl 1 rfl) ?_
    refine lv_iload_n hx hb dX11_feed_16 rfl (lv_at hl 2 rfl) ?_
    refine kcm_i hA hAB hP hD hS [false, true, true] rfl (fun _ => rfl) (fun hPc hDc => va_runV (As := [.int p1, .int p2]) (rest := []) ⟨hx, hb, hml, hown, hts⟩ (k_X10_take l D κ β a10 r10 b10_bytes v10_count v10_at b10_steps v10_size n10_bytes f10_bytes H.size p1 p2 i1 i2 i3 hf10_bytes i4 i5 (by omega) (by omega)) (cwV 2 hts gX11_feed_X10_take rfl rfl rfl (by decide +kernel) ⟨Nat.le_of_ble_eq_true rfl, Nat.le_of_ble_eq_true rfl⟩) (pk_V hK hS hAB hPc hDc 0 (ci := 10) rfl rfl rfl) rfl rfl hl.1 rfl (lv_room (Nat.le_of_ble_eq_true rfl)) dX11_feed_17 ⟨Nat.le_of_ble_eq_true rfl, Nat.le_of_ble_eq_true rfl⟩) (fun x7 u8 H locs hw hPD hS => ?_)
    obtain ⟨x5, g6⟩ := u8
    obtain ⟨h9, h10, h11, h12⟩ : (Rg 0 2048 x5) ∧ (∀ j : Nat, -128 ≤ (g6 j).toInt ∧ (g6 j).toInt ≤ 127) ∧ (x5.toInt ≤ ((n10_bytes : Nat) : Int)) ∧ (x7.toInt = p1.toInt) := hw
    obtain ⟨hP, hD⟩ : PD D A [O11 a11 a7 a5 a3 a2 a6 a4 a10 a9 a1 a0 a8 aN, O10 a10 r10 b10_bytes x5 v10_at b10_steps v10_size, (cB κ b10_bytes n10_bytes g6)] H := hPD
    have hpo : (0 ≤ x5.toInt ∧ x5.toInt ≤ 2048) ∧ (∀ j : Nat, -128 ≤ (g6 j).toInt ∧ (g6 j).toInt ≤ 127) ∧ (x5.toInt ≤ ((n10_bytes : Nat) : Int)) ∧ (((1 ≤ p1.toInt ∧ p1.toInt ≤ 4) ∧ x7.toInt = p1.toInt) ∨ (¬ (1 ≤ p1.toInt ∧ p1.toInt ≤ 4) ∧ x7.toInt = -1)) := ⟨h9, h10, h11, (by omega)⟩
    exact ret _ _ _ _ x7 (x5, g6) dX11_feed_20 hpo hP hD hS
  have c4 := ci_eq c4
  refine lv_iconst (v := (-1)) hx hb dX11_feed_9 (by decide) ?_
  have hpo : (0 ≤ v10_count.toInt ∧ v10_count.toInt ≤ 2048) ∧ (∀ j : Nat, -128 ≤ (f10_bytes j).toInt ∧ (f10_bytes j).toInt ≤ 127) ∧ (v10_count.toInt ≤ ((n10_bytes : Nat) : Int)) ∧ (((1 ≤ p1.toInt ∧ p1.toInt ≤ 4) ∧ ((-1) : Int32).toInt = p1.toInt) ∨ (¬ (1 ≤ p1.toInt ∧ p1.toInt ≤ 4) ∧ ((-1) : Int32).toInt = -1)) := ⟨i1, hf10_bytes, i4, (by omega)⟩
  refine W.widen (k := 1) (n := 4096) (by omega) (by omega) ?_
  exact ret _ _ _ _ (-1) (v10_count, f10_bytes) dX11_feed_10 hpo hP hD hS
set_option maxHeartbeats 4000000 in
set_option maxRecDepth 100000 in
theorem k_X11_weighStories (l : Launch) (D : va_G) (κ : Nat → ClassId) (β : Nat) (a11 : Nat) (a7 : Nat) (a5 : Nat) (a3 : Nat) (a2 : Nat) (a6 : Nat) (a4 : Nat) (a10 : Nat) (a9 : Nat) (a1 : Nat) (a0 : Nat) (a8 : Nat) (aN : Nat) (sz : Nat) (i1 : (1 : Int) ≤ 0) : Met l yX11_weighStories wsX11_weighStories ({ frames := 1, cells := 0, slots := 0, locals := 30 } : Room) (PcK D κ β [O11 a11 a7 a5 a3 a2 a6 a4 a10 a9 a1 a0 a8 aN] sz [.ref a11]) (QvK D (fun (u : Unit) => True) (fun (u : Unit) => [O11 a11 a7 a5 a3 a2 a6 a4 a10 a9 a1 a0 a8 aN]) [O11 a11 a7 a5 a3 a2 a6 a4 a10 a9 a1 a0 a8 aN] sz) 0 0 (va_A [O11 a11 a7 a5 a3 a2 a6 a4 a10 a9 a1 a0 a8 aN] sz) := by
  refine ofK_v (cc := cX11_weighStories) (maxL := 3) (own := RX11) (by decide) rfl rfl (Nat.le_of_ble_eq_true rfl) ?_
  intro p e s m args below meth c Q A ls hsz hx hb hml hts hown hK hA hAB hP hD hl hname ret
  have hS : va_S A s.heap s.heap [] := va_S.rf
  have hl : lv_has ls 3 [(0, .ref a11)] := hl
  exfalso
  omega
set_option maxHeartbeats 4000000 in
set_option maxRecDepth 100000 in
theorem k_X11_odds (l : Launch) (D : va_G) (κ : Nat → ClassId) (β : Nat) (a11 : Nat) (a7 : Nat) (a5 : Nat) (a3 : Nat) (a2 : Nat) (a6 : Nat) (a4 : Nat) (a10 : Nat) (a9 : Nat) (a1 : Nat) (a0 : Nat) (a8 : Nat) (aN : Nat) (r9 : Nat → Nat) (v9_count : Int32) (sz : Nat) (p1 : Int32) (p2 : Int32) (i1 : Rg 0 6 v9_count) (i2 : v9_count.toInt = 0) : Met l yX11_odds wsX11_odds ({ frames := 2, cells := 0, slots := 0, locals := 43 } : Room) (PcK D κ β [O11 a11 a7 a5 a3 a2 a6 a4 a10 a9 a1 a0 a8 aN, O9 a9 r9 v9_count] sz [.ref a11, .int p1, .int p2]) (QiK D (fun (r : Int32) (u : Unit) => r.toInt = -1) (fun (u : Unit) => [O11 a11 a7 a5 a3 a2 a6 a4 a10 a9 a1 a0 a8 aN, O9 a9 r9 v9_count]) [O11 a11 a7 a5 a3 a2 a6 a4 a10 a9 a1 a0 a8 aN, O9 a9 r9 v9_count] sz) 0 0 (va_A [O11 a11 a7 a5 a3 a2 a6 a4 a10 a9 a1 a0 a8 aN, O9 a9 r9 v9_count] sz) := by
  refine ofK_i (cc := cX11_odds) (maxL := 3) (own := RX11) (by decide) rfl rfl (Nat.le_of_ble_eq_true rfl) ?_
  intro p e s m args below meth c Q A ls hsz hx hb hml hts hown hK hA hAB hP hD hl ret
  have hS : va_S A s.heap s.heap [] := va_S.rf
  have hl : lv_has ls 3 [(0, .ref a11), (1, .int p1), (2, .int p2)] := hl
  have w0 := hts (.fieldLink RX11 61 "OlderSkin" "stories" "LOlderSkin$Stories;") (List.mem_of_getElem? (i := 1) rfl)
  have w1 := (fun w h => List.mem_cons_of_mem _ (List.mem_append_left _ (List.mem_append_left _ (List.mem_append_left _ (List.mem_append_left _ (List.mem_append_left _ (List.mem_append_right _ h)))))) : ∀ w ∈ u_ws RX11 TX11 12, w ∈ wsX11_odds)
  have l0 : (0 : Int32).toInt = 0 := by decide
  have l1 : ((-1) : Int32).toInt = -1 := by decide
  have i1 : 0 ≤ v9_count.toInt ∧ v9_count.toInt ≤ 6 := i1
  refine lv_aload_n hx hb dX11_odds_0 rfl (lv_at hl 0 rfl) ?_
  refine va_get (D := D) (ci := 11) (v := .ref a9) (C := RX11) (T := TX11) (N := 12) hx hb hts w1 hown hK.1 hP 0 rfl rfl 7 (by decide) w0 (fun _ h9 => h9) rfl dX11_odds_1 ?_
  refine lv_iload_n hx hb dX11_odds_4 rfl (lv_at hl 1 rfl) ?_
  refine kcm_i hA hAB hP hD hS [false, true] rfl (fun _ => rfl) (fun hPc hDc => va_runV (As := [.int p1]) (rest := []) ⟨hx, hb, hml, hown, hts⟩ (k_X9_isStory l D κ β a9 r9 v9_count s.heap.size p1 i1 (by omega)) (cwV 1 hts gX11_odds_X9_isStory rfl rfl rfl (by decide +kernel) ⟨Nat.le_of_ble_eq_true rfl, Nat.le_of_ble_eq_true rfl⟩) (pk_V hK hS hAB hPc hDc 0 (ci := 9) rfl rfl rfl) rfl rfl hl.1 rfl (lv_room (Nat.le_of_ble_eq_true rfl)) dX11_odds_5 ⟨Nat.le_of_ble_eq_true rfl, Nat.le_of_ble_eq_true rfl⟩) (fun x1 u2 H locs hw hPD hS => ?_)
  have h3 : (x1.toInt = 1 ∧ 0 ≤ p1.toInt ∧ p1.toInt < v9_count.toInt) ∨ (x1.toInt = 0 ∧ (p1.toInt < 0 ∨ v9_count.toInt ≤ p1.toInt)) := hw
  obtain ⟨hP, hD⟩ : PD D A [O11 a11 a7 a5 a3 a2 a6 a4 a10 a9 a1 a0 a8 aN, O9 a9 r9 v9_count] H := hPD
  refine lv_if_eq (tgt := 18) hx hb dX11_odds_8 (by decide) (fun c4 => ?_) (fun c4 => ?_)
  · have c4 := ci_eq c4
    refine lv_iconst (v := (-1)) hx hb dX11_odds_18 (by decide) ?_
    have hpo : ((-1) : Int32).toInt = -1 := (by omega)
    exact ret _ _ _ _ (-1) () dX11_odds_19 hpo hP hD hS
  have c4 := ci_ne c4
  exfalso
  omega
set_option maxHeartbeats 4000000 in
set_option maxRecDepth 100000 in
theorem k_X11_best (l : Launch) (D : va_G) (κ : Nat → ClassId) (β : Nat) (a11 : Nat) (a7 : Nat) (a5 : Nat) (a3 : Nat) (a2 : Nat) (a6 : Nat) (a4 : Nat) (a10 : Nat) (a9 : Nat) (a1 : Nat) (a0 : Nat) (a8 : Nat) (aN : Nat) (r9 : Nat → Nat) (v9_count : Int32) (sz : Nat) (i1 : Rg 0 6 v9_count) (i2 : v9_count.toInt = 0) : Met l yX11_best wsX11_best ({ frames := 0, cells := 0, slots := 0, locals := 0 } : Room) (PcK D κ β [O11 a11 a7 a5 a3 a2 a6 a4 a10 a9 a1 a0 a8 aN, O9 a9 r9 v9_count] sz [.ref a11]) (QiK D (fun (r : Int32) (u : Unit) => r.toInt = -5) (fun (u : Unit) => [O11 a11 a7 a5 a3 a2 a6 a4 a10 a9 a1 a0 a8 aN, O9 a9 r9 v9_count]) [O11 a11 a7 a5 a3 a2 a6 a4 a10 a9 a1 a0 a8 aN, O9 a9 r9 v9_count] sz) 0 0 (va_A [O11 a11 a7 a5 a3 a2 a6 a4 a10 a9 a1 a0 a8 aN, O9 a9 r9 v9_count] sz) := by
  refine ofK_i (cc := cX11_best) (maxL := 1) (own := RX11) (by decide) rfl rfl (Nat.le_of_ble_eq_true rfl) ?_
  intro p e s m args below meth c Q A ls hsz hx hb hml hts hown hK hA hAB hP hD hl ret
  have hS : va_S A s.heap s.heap [] := va_S.rf
  have hl : lv_has ls 1 [(0, .ref a11)] := hl
  have w0 := hts (.fieldLink RX11 61 "OlderSkin" "stories" "LOlderSkin$Stories;") (List.mem_of_getElem? (i := 1) rfl)
  have w1 := (fun w h => List.mem_cons_of_mem _ (List.mem_append_left _ (List.mem_append_left _ (List.mem_append_left _ (List.mem_append_left _ (List.mem_append_left _ (List.mem_append_right _ h)))))) : ∀ w ∈ u_ws RX11 TX11 12, w ∈ wsX11_best)
  have w2 := hts (.fieldLink RX11 330 "OlderSkin$Stories" "count" "I") (List.mem_of_getElem? (i := 2) rfl)
  have w3 := (fun w h => List.mem_cons_of_mem _ (List.mem_append_left _ (List.mem_append_left _ (List.mem_append_left _ (List.mem_append_left _ (List.mem_append_right _ h))))) : ∀ w ∈ u_ws RX9 TX9 7, w ∈ wsX11_best)
  have l0 : (0 : Int32).toInt = 0 := by decide
  have l1 : ((-5) : Int32).toInt = -5 := by decide
  have i1 : 0 ≤ v9_count.toInt ∧ v9_count.toInt ≤ 6 := i1
  refine lv_aload_n hx hb dX11_best_0 rfl (lv_at hl 0 rfl) ?_
  refine va_get (D := D) (ci := 11) (v := .ref a9) (C := RX11) (T := TX11) (N := 12) hx hb hts w1 hown hK.1 hP 0 rfl rfl 7 (by decide) w0 (fun _ h9 => h9) rfl dX11_best_1 ?_
  refine va_get (D := D) (ci := 9) (v := .int v9_count) (C := RX9) (T := TX9) (N := 7) hx hb hts w3 hown hK.1 hP 1 rfl rfl 5 (by decide) w2 (fun _ h9 => h9) rfl dX11_best_4 ?_
  refine lv_if_ne (tgt := 13) hx hb dX11_best_7 (by decide) (fun c1 => ?_) (fun c1 => ?_)
  · have c1 := ci_ne c1
    exfalso
    omega
  have c1 := ci_eq c1
  refine lv_bipush (v := (-5)) hx hb dX11_best_10 (by decide) ?_
  have hpo : ((-5) : Int32).toInt = -5 := (by omega)
  exact ret _ _ _ _ (-5) () dX11_best_12 hpo hP hD hS
set_option maxHeartbeats 4000000 in
set_option maxRecDepth 100000 in
theorem k_X11_movedBy (l : Launch) (D : va_G) (κ : Nat → ClassId) (β : Nat) (a11 : Nat) (a7 : Nat) (a5 : Nat) (a3 : Nat) (a2 : Nat) (a6 : Nat) (a4 : Nat) (a10 : Nat) (a9 : Nat) (a1 : Nat) (a0 : Nat) (a8 : Nat) (aN : Nat) (sz : Nat) (p1 : Int32) (p2 : Int32) (p3 : Int32) (p4 : Int32) (i1 : (1 : Int) ≤ 0) : Met l yX11_movedBy wsX11_movedBy ({ frames := 1, cells := 0, slots := 0, locals := 30 } : Room) (PcK D κ β [O11 a11 a7 a5 a3 a2 a6 a4 a10 a9 a1 a0 a8 aN] sz [.ref a11, .int p1, .int p2, .int p3, .int p4]) (QiK D (fun (r : Int32) (u : Unit) => True) (fun (u : Unit) => [O11 a11 a7 a5 a3 a2 a6 a4 a10 a9 a1 a0 a8 aN]) [O11 a11 a7 a5 a3 a2 a6 a4 a10 a9 a1 a0 a8 aN] sz) 0 0 (va_A [O11 a11 a7 a5 a3 a2 a6 a4 a10 a9 a1 a0 a8 aN] sz) := by
  refine ofK_i (cc := cX11_movedBy) (maxL := 6) (own := RX11) (by decide) rfl rfl (Nat.le_of_ble_eq_true rfl) ?_
  intro p e s m args below meth c Q A ls hsz hx hb hml hts hown hK hA hAB hP hD hl ret
  have hS : va_S A s.heap s.heap [] := va_S.rf
  have hl : lv_has ls 6 [(0, .ref a11), (1, .int p1), (2, .int p2), (3, .int p3), (4, .int p4)] := hl
  exfalso
  omega
set_option maxHeartbeats 4000000 in
set_option maxRecDepth 100000 in
theorem k_X11_next (l : Launch) (D : va_G) (κ : Nat → ClassId) (β : Nat) (a11 : Nat) (a7 : Nat) (a5 : Nat) (a3 : Nat) (a2 : Nat) (a6 : Nat) (a4 : Nat) (a10 : Nat) (a9 : Nat) (a1 : Nat) (a0 : Nat) (a8 : Nat) (aN : Nat) (r9 : Nat → Nat) (v9_count : Int32) (sz : Nat) (p1 : Int32) (p2 : Int32) (i1 : Rg 0 6 v9_count) (i2 : v9_count.toInt = 0) : Met l yX11_next wsX11_next ({ frames := 2, cells := 0, slots := 0, locals := 42 } : Room) (PcK D κ β [O11 a11 a7 a5 a3 a2 a6 a4 a10 a9 a1 a0 a8 aN, O9 a9 r9 v9_count] sz [.ref a11, .int p1, .int p2]) (QiK D (fun (r : Int32) (u : Unit) => ((0 ≤ p1.toInt ∧ p1.toInt ≤ 9999 ∧ 0 ≤ p2.toInt ∧ p2.toInt ≤ 1) ∧ r.toInt = -5) ∨ (¬ (0 ≤ p1.toInt ∧ p1.toInt ≤ 9999 ∧ 0 ≤ p2.toInt ∧ p2.toInt ≤ 1) ∧ r.toInt = -1)) (fun (u : Unit) => [O11 a11 a7 a5 a3 a2 a6 a4 a10 a9 a1 a0 a8 aN, O9 a9 r9 v9_count]) [O11 a11 a7 a5 a3 a2 a6 a4 a10 a9 a1 a0 a8 aN, O9 a9 r9 v9_count] sz) 0 0 (va_A [O11 a11 a7 a5 a3 a2 a6 a4 a10 a9 a1 a0 a8 aN, O9 a9 r9 v9_count] sz) := by
  refine ofK_i (cc := cX11_next) (maxL := 9) (own := RX11) (by decide) rfl rfl (Nat.le_of_ble_eq_true rfl) ?_
  intro p e s m args below meth c Q A ls hsz hx hb hml hts hown hK hA hAB hP hD hl ret
  have hS : va_S A s.heap s.heap [] := va_S.rf
  have hl : lv_has ls 9 [(0, .ref a11), (1, .int p1), (2, .int p2)] := hl
  have w0 := hts (.fieldLink RX11 61 "OlderSkin" "stories" "LOlderSkin$Stories;") (List.mem_of_getElem? (i := 1) rfl)
  have w1 := (fun w h => List.mem_cons_of_mem _ (List.mem_append_left _ (List.mem_append_left _ (List.mem_append_left _ (List.mem_append_left _ (List.mem_append_left _ (List.mem_append_right _ h)))))) : ∀ w ∈ u_ws RX11 TX11 12, w ∈ wsX11_next)
  have w2 := hts (.fieldLink RX11 330 "OlderSkin$Stories" "count" "I") (List.mem_of_getElem? (i := 2) rfl)
  have w3 := (fun w h => List.mem_cons_of_mem _ (List.mem_append_left _ (List.mem_append_left _ (List.mem_append_left _ (List.mem_append_left _ (List.mem_append_right _ h))))) : ∀ w ∈ u_ws RX9 TX9 7, w ∈ wsX11_next)
  have l0 : (0 : Int32).toInt = 0 := by decide
  have l1 : ((-1) : Int32).toInt = -1 := by decide
  have l2 : ((-5) : Int32).toInt = -5 := by decide
  have i1 : 0 ≤ v9_count.toInt ∧ v9_count.toInt ≤ 6 := i1
  refine lv_iload_n hx hb dX11_next_0 rfl (lv_at hl 1 rfl) ?_
  refine kcm_i hA hAB hP hD hS [false, false] rfl (fun _ => rfl) (fun hPc hDc => va_runS (As := [.int p1]) (rest := []) ⟨hx, hb, hml, hown, hts⟩ (k_X11_isStuff l D κ β s.heap.size p1) (va_cwS 1 hts gX11_next_X11_isStuff rfl rfl rfl (by decide +kernel) ⟨Nat.le_of_ble_eq_true rfl, Nat.le_of_ble_eq_true rfl⟩) (pk_S hK hS hAB hPc hDc) rfl rfl hl.1 rfl (lv_room (Nat.le_of_ble_eq_true rfl)) dX11_next_1 ⟨Nat.le_of_ble_eq_true rfl, Nat.le_of_ble_eq_true rfl⟩) (fun x1 u2 H locs hw hPD hS => ?_)
  have h3 : (x1.toInt = 1 ∧ 0 ≤ p1.toInt ∧ p1.toInt ≤ 9999) ∨ (x1.toInt = 0 ∧ (p1.toInt < 0 ∨ 9999 < p1.toInt)) := hw
  obtain ⟨hP, hD⟩ : PD D A [O11 a11 a7 a5 a3 a2 a6 a4 a10 a9 a1 a0 a8 aN, O9 a9 r9 v9_count] H := hPD
  refine lv_if_eq (tgt := 14) hx hb dX11_next_4 (by decide) (fun c4 => ?_) (fun c4 => ?_)
  · have c4 := ci_eq c4
    refine lv_iconst (v := (-1)) hx hb dX11_next_14 (by decide) ?_
    have hpo : ((0 ≤ p1.toInt ∧ p1.toInt ≤ 9999 ∧ 0 ≤ p2.toInt ∧ p2.toInt ≤ 1) ∧ ((-1) : Int32).toInt = -5) ∨ (¬ (0 ≤ p1.toInt ∧ p1.toInt ≤ 9999 ∧ 0 ≤ p2.toInt ∧ p2.toInt ≤ 1) ∧ ((-1) : Int32).toInt = -1) := (by omega)
    exact ret _ _ _ _ (-1) () dX11_next_15 hpo hP hD hS
  have c4 := ci_ne c4
  refine lv_iload_n hx hb dX11_next_7 rfl (lv_at hl 2 rfl) ?_
  refine kcm_i hA hAB hP hD hS [false, false] rfl (fun _ => rfl) (fun hPc hDc => va_runS (As := [.int p2]) (rest := []) ⟨hx, hb, hml, hown, hts⟩ (k_X11_isBit l D κ β H.size p2) (va_cwS 1 hts gX11_next_X11_isBit rfl rfl rfl (by decide +kernel) ⟨Nat.le_of_ble_eq_true rfl, Nat.le_of_ble_eq_true rfl⟩) (pk_S hK hS hAB hPc hDc) rfl rfl hl.1 rfl (lv_room (Nat.le_of_ble_eq_true rfl)) dX11_next_8 ⟨Nat.le_of_ble_eq_true rfl, Nat.le_of_ble_eq_true rfl⟩) (fun x5 u6 H locs hw hPD hS => ?_)
  have h7 : (x5.toInt = 1 ∧ 0 ≤ p2.toInt ∧ p2.toInt ≤ 1) ∨ (x5.toInt = 0 ∧ (p2.toInt < 0 ∨ 1 < p2.toInt)) := hw
  obtain ⟨hP, hD⟩ : PD D A [O11 a11 a7 a5 a3 a2 a6 a4 a10 a9 a1 a0 a8 aN, O9 a9 r9 v9_count] H := hPD
  refine lv_if_ne (tgt := 16) hx hb dX11_next_11 (by decide) (fun c8 => ?_) (fun c8 => ?_)
  · have c8 := ci_ne c8
    refine lv_aload_n hx hb dX11_next_16 rfl (lv_at hl 0 rfl) ?_
    refine va_get (D := D) (ci := 11) (v := .ref a9) (C := RX11) (T := TX11) (N := 12) hx hb hts w1 hown hK.1 hP 0 rfl rfl 7 (by decide) w0 (fun _ h9 => h9) rfl dX11_next_17 ?_
    refine va_get (D := D) (ci := 9) (v := .int v9_count) (C := RX9) (T := TX9) (N := 7) hx hb hts w3 hown hK.1 hP 1 rfl rfl 5 (by decide) w2 (fun _ h9 => h9) rfl dX11_next_20 ?_
    refine lv_if_eq (tgt := 36) hx hb dX11_next_23 (by decide) (fun c9 => ?_) (fun c9 => ?_)
    · have c9 := ci_eq c9
      refine lv_bipush (v := (-5)) hx hb dX11_next_36 (by decide) ?_
      have hpo : ((0 ≤ p1.toInt ∧ p1.toInt ≤ 9999 ∧ 0 ≤ p2.toInt ∧ p2.toInt ≤ 1) ∧ ((-5) : Int32).toInt = -5) ∨ (¬ (0 ≤ p1.toInt ∧ p1.toInt ≤ 9999 ∧ 0 ≤ p2.toInt ∧ p2.toInt ≤ 1) ∧ ((-5) : Int32).toInt = -1) := (by omega)
      exact ret _ _ _ _ (-5) () dX11_next_38 hpo hP hD hS
    have c9 := ci_ne c9
    exfalso
    omega
  have c8 := ci_eq c8
  refine lv_iconst (v := (-1)) hx hb dX11_next_14 (by decide) ?_
  have hpo : ((0 ≤ p1.toInt ∧ p1.toInt ≤ 9999 ∧ 0 ≤ p2.toInt ∧ p2.toInt ≤ 1) ∧ ((-1) : Int32).toInt = -5) ∨ (¬ (0 ≤ p1.toInt ∧ p1.toInt ≤ 9999 ∧ 0 ≤ p2.toInt ∧ p2.toInt ≤ 1) ∧ ((-1) : Int32).toInt = -1) := (by omega)
  exact ret _ _ _ _ (-1) () dX11_next_15 hpo hP hD hS
set_option maxHeartbeats 4000000 in
set_option maxRecDepth 100000 in
theorem k_X11_count (l : Launch) (D : va_G) (κ : Nat → ClassId) (β : Nat) (a11 : Nat) (a7 : Nat) (a5 : Nat) (a3 : Nat) (a2 : Nat) (a6 : Nat) (a4 : Nat) (a10 : Nat) (a9 : Nat) (a1 : Nat) (a0 : Nat) (a8 : Nat) (aN : Nat) (r7 : Nat → Nat) (r3 : Nat → Nat) (r2 : Nat → Nat) (r6 : Nat → Nat) (r4 : Nat → Nat) (r10 : Nat → Nat) (r9 : Nat → Nat) (r1 : Nat → Nat) (r0 : Nat → Nat) (v7_count : Int32) (v7_holes : Int32) (v7_worms : Int32) (v3_count : Int32) (v3_marks : Int32) (v2_count : Int32) (v2_madeIn : Int32) (v2_bound : Int32) (v6_count : Int32) (v4_count : Int32) (b10_bytes : Nat) (v10_count : Int32) (v10_at : Int32) (b10_steps : Nat) (v10_size : Int32) (v9_count : Int32) (v1_done : Int32) (v1_kept : Int32) (v0_count : Int32) (v0_ran : Int32) (v0_actor : Int32) (sz : Nat) (p1 : Int32) (i1 : Rg 0 8 v7_count) (i2 : Rg 0 40 v7_holes) (i3 : Rg 0 40 v7_worms) (i4 : Rg 0 20 v3_count) (i5 : Rg 0 60 v3_marks) (i6 : Rg 0 40 v2_count) (i7 : Rg 0 20 v6_count) (i8 : Rg 0 8 v4_count) (i9 : Rg 0 2048 v10_count) (i10 : Rg 0 2048 v10_at) (i11 : Rg 0 4096 v10_size) (i12 : Rg 0 6 v9_count) (i13 : Rg 0 40 v1_done) (i14 : Rg 0 40 v1_kept) (i15 : Rg 0 50 v0_count) (i16 : Rg 0 100000000 v0_ran) (i17 : Rg 0 49 v0_actor) (i18 : v0_ran.toInt = 0) (i19 : v7_count.toInt = 0) (i20 : v7_holes.toInt = 0) (i21 : v7_worms.toInt = 0) (i22 : v3_count.toInt = 0) (i23 : v3_marks.toInt = 0) (i24 : v2_count.toInt = 0) (i25 : v2_madeIn.toInt = 2001) (i26 : v6_count.toInt = 0) (i27 : v4_count.toInt = 0) (i28 : v10_count.toInt = 0) (i29 : v9_count.toInt = 0) (i30 : v1_done.toInt = 0) (i31 : v1_kept.toInt = 0) (i32 : v0_count.toInt = 0) : Met l yX11_count wsX11_count ({ frames := 0, cells := 0, slots := 0, locals := 0 } : Room) (PcK D κ β [O11 a11 a7 a5 a3 a2 a6 a4 a10 a9 a1 a0 a8 aN, O7 a7 r7 v7_count v7_holes v7_worms, O3 a3 r3 v3_count v3_marks, O2 a2 r2 v2_count v2_madeIn v2_bound, O6 a6 r6 v6_count, O4 a4 r4 v4_count, O10 a10 r10 b10_bytes v10_count v10_at b10_steps v10_size, O9 a9 r9 v9_count, O1 a1 r1 v1_done v1_kept, O0 a0 r0 v0_count v0_ran v0_actor] sz [.ref a11, .int p1]) (QiK D (fun (r : Int32) (u : Unit) => ((0 ≤ p1.toInt ∧ p1.toInt ≤ 11) ∧ r.toInt = 0) ∨ (¬ (0 ≤ p1.toInt ∧ p1.toInt ≤ 11) ∧ r.toInt = -1)) (fun (u : Unit) => [O11 a11 a7 a5 a3 a2 a6 a4 a10 a9 a1 a0 a8 aN, O7 a7 r7 v7_count v7_holes v7_worms, O3 a3 r3 v3_count v3_marks, O2 a2 r2 v2_count v2_madeIn v2_bound, O6 a6 r6 v6_count, O4 a4 r4 v4_count, O10 a10 r10 b10_bytes v10_count v10_at b10_steps v10_size, O9 a9 r9 v9_count, O1 a1 r1 v1_done v1_kept, O0 a0 r0 v0_count v0_ran v0_actor]) [O11 a11 a7 a5 a3 a2 a6 a4 a10 a9 a1 a0 a8 aN, O7 a7 r7 v7_count v7_holes v7_worms, O3 a3 r3 v3_count v3_marks, O2 a2 r2 v2_count v2_madeIn v2_bound, O6 a6 r6 v6_count, O4 a4 r4 v4_count, O10 a10 r10 b10_bytes v10_count v10_at b10_steps v10_size, O9 a9 r9 v9_count, O1 a1 r1 v1_done v1_kept, O0 a0 r0 v0_count v0_ran v0_actor] sz) 0 0 (va_A [O11 a11 a7 a5 a3 a2 a6 a4 a10 a9 a1 a0 a8 aN, O7 a7 r7 v7_count v7_holes v7_worms, O3 a3 r3 v3_count v3_marks, O2 a2 r2 v2_count v2_madeIn v2_bound, O6 a6 r6 v6_count, O4 a4 r4 v4_count, O10 a10 r10 b10_bytes v10_count v10_at b10_steps v10_size, O9 a9 r9 v9_count, O1 a1 r1 v1_done v1_kept, O0 a0 r0 v0_count v0_ran v0_actor] sz) := by
  refine ofK_i (cc := cX11_count) (maxL := 2) (own := RX11) (by decide) rfl rfl (Nat.le_of_ble_eq_true rfl) ?_
  intro p e s m args below meth c Q A ls hsz hx hb hml hts hown hK hA hAB hP hD hl ret
  have hS : va_S A s.heap s.heap [] := va_S.rf
  have hl : lv_has ls 2 [(0, .ref a11), (1, .int p1)] := hl
  have w0 := hts (.fieldLink RX11 10 "OlderSkin" "sheets" "LOlderSkin$Sheets;") (List.mem_of_getElem? (i := 1) rfl)
  have w1 := (fun w h => List.mem_cons_of_mem _ (List.mem_append_left _ (List.mem_append_left _ (List.mem_append_left _ (List.mem_append_left _ (List.mem_append_left _ (List.mem_append_left _ (List.mem_append_left _ (List.mem_append_left _ (List.mem_append_left _ (List.mem_append_right _ h)))))))))) : ∀ w ∈ u_ws RX11 TX11 12, w ∈ wsX11_count)
  have w2 := hts (.fieldLink RX11 147 "OlderSkin$Sheets" "count" "I") (List.mem_of_getElem? (i := 2) rfl)
  have w3 := (fun w h => List.mem_cons_of_mem _ (List.mem_append_left _ (List.mem_append_left _ (List.mem_append_left _ (List.mem_append_left _ (List.mem_append_left _ (List.mem_append_left _ (List.mem_append_left _ (List.mem_append_left _ (List.mem_append_right _ h))))))))) : ∀ w ∈ u_ws RX7 TX7 9, w ∈ wsX11_count)
  have w4 := hts (.fieldLink RX11 456 "OlderSkin$Sheets" "holes" "I") (List.mem_of_getElem? (i := 3) rfl)
  have w5 := hts (.fieldLink RX11 26 "OlderSkin" "lines" "LOlderSkin$Lines;") (List.mem_of_getElem? (i := 4) rfl)
  have w6 := hts (.fieldLink RX11 459 "OlderSkin$Lines" "count" "I") (List.mem_of_getElem? (i := 5) rfl)
  have w7 := (fun w h => List.mem_cons_of_mem _ (List.mem_append_left _ (List.mem_append_left _ (List.mem_append_left _ (List.mem_append_left _ (List.mem_append_left _ (List.mem_append_left _ (List.mem_append_left _ (List.mem_append_right _ h)))))))) : ∀ w ∈ u_ws RX3 TX3 10, w ∈ wsX11_count)
  have w8 := hts (.fieldLink RX11 460 "OlderSkin$Lines" "marks" "I") (List.mem_of_getElem? (i := 6) rfl)
  have w9 := hts (.fieldLink RX11 33 "OlderSkin" "dots" "LOlderSkin$Dots;") (List.mem_of_getElem? (i := 7) rfl)
  have w10 := hts (.fieldLink RX11 463 "OlderSkin$Dots" "count" "I") (List.mem_of_getElem? (i := 8) rfl)
  have w11 := (fun w h => List.mem_cons_of_mem _ (List.mem_append_left _ (List.mem_append_left _ (List.mem_append_left _ (List.mem_append_left _ (List.mem_append_left _ (List.mem_append_left _ (List.mem_append_right _ h))))))) : ∀ w ∈ u_ws RX2 TX2 8, w ∈ wsX11_count)
  have w12 := hts (.fieldLink RX11 40 "OlderSkin" "places" "LOlderSkin$Places;") (List.mem_of_getElem? (i := 9) rfl)
  have w13 := hts (.fieldLink RX11 464 "OlderSkin$Places" "count" "I") (List.mem_of_getElem? (i := 10) rfl)
  have w14 := (fun w h => List.mem_cons_of_mem _ (List.mem_append_left _ (List.mem_append_left _ (List.mem_append_left _ (List.mem_append_left _ (List.mem_append_left _ (List.mem_append_right _ h)))))) : ∀ w ∈ u_ws RX6 TX6 4, w ∈ wsX11_count)
  have w15 := hts (.fieldLink RX11 47 "OlderSkin" "maps" "LOlderSkin$Maps;") (List.mem_of_getElem? (i := 11) rfl)
  have w16 := hts (.fieldLink RX11 465 "OlderSkin$Maps" "count" "I") (List.mem_of_getElem? (i := 12) rfl)
  have w17 := (fun w h => List.mem_cons_of_mem _ (List.mem_append_left _ (List.mem_append_left _ (List.mem_append_left _ (List.mem_append_left _ (List.mem_append_right _ h))))) : ∀ w ∈ u_ws RX4 TX4 3, w ∈ wsX11_count)
  have w18 := hts (.fieldLink RX11 54 "OlderSkin" "tape" "LOlderSkin$Tape;") (List.mem_of_getElem? (i := 13) rfl)
  have w19 := hts (.fieldLink RX11 305 "OlderSkin$Tape" "count" "I") (List.mem_of_getElem? (i := 14) rfl)
  have w20 := (fun w h => List.mem_cons_of_mem _ (List.mem_append_left _ (List.mem_append_left _ (List.mem_append_left _ (List.mem_append_right _ h)))) : ∀ w ∈ u_ws RX10 TX10 5, w ∈ wsX11_count)
  have w21 := hts (.fieldLink RX11 61 "OlderSkin" "stories" "LOlderSkin$Stories;") (List.mem_of_getElem? (i := 15) rfl)
  have w22 := hts (.fieldLink RX11 330 "OlderSkin$Stories" "count" "I") (List.mem_of_getElem? (i := 16) rfl)
  have w23 := (fun w h => List.mem_cons_of_mem _ (List.mem_append_left _ (List.mem_append_left _ (List.mem_append_right _ h))) : ∀ w ∈ u_ws RX9 TX9 7, w ∈ wsX11_count)
  have w24 := hts (.fieldLink RX11 68 "OlderSkin" "changes" "LOlderSkin$Changes;") (List.mem_of_getElem? (i := 17) rfl)
  have w25 := hts (.fieldLink RX11 365 "OlderSkin$Changes" "done" "I") (List.mem_of_getElem? (i := 18) rfl)
  have w26 := (fun w h => List.mem_cons_of_mem _ (List.mem_append_left _ (List.mem_append_right _ h)) : ∀ w ∈ u_ws RX1 TX1 6, w ∈ wsX11_count)
  have w27 := hts (.fieldLink RX11 75 "OlderSkin" "bodies" "LOlderSkin$Bodies;") (List.mem_of_getElem? (i := 19) rfl)
  have w28 := hts (.fieldLink RX11 466 "OlderSkin$Bodies" "count" "I") (List.mem_of_getElem? (i := 20) rfl)
  have w29 := (fun w h => List.mem_cons_of_mem _ (List.mem_append_right _ h) : ∀ w ∈ u_ws RX0 TX0 5, w ∈ wsX11_count)
  have w30 := hts (.fieldLink RX11 467 "OlderSkin$Bodies" "ran" "I") (List.mem_of_getElem? (i := 21) rfl)
  have l0 : ((-1) : Int32).toInt = -1 := by decide
  have i1 : 0 ≤ v7_count.toInt ∧ v7_count.toInt ≤ 8 := i1
  have i2 : 0 ≤ v7_holes.toInt ∧ v7_holes.toInt ≤ 40 := i2
  have i4 : 0 ≤ v3_count.toInt ∧ v3_count.toInt ≤ 20 := i4
  have i5 : 0 ≤ v3_marks.toInt ∧ v3_marks.toInt ≤ 60 := i5
  have i6 : 0 ≤ v2_count.toInt ∧ v2_count.toInt ≤ 40 := i6
  have i7 : 0 ≤ v6_count.toInt ∧ v6_count.toInt ≤ 20 := i7
  have i8 : 0 ≤ v4_count.toInt ∧ v4_count.toInt ≤ 8 := i8
  have i9 : 0 ≤ v10_count.toInt ∧ v10_count.toInt ≤ 2048 := i9
  have i12 : 0 ≤ v9_count.toInt ∧ v9_count.toInt ≤ 6 := i12
  have i13 : 0 ≤ v1_done.toInt ∧ v1_done.toInt ≤ 40 := i13
  have i15 : 0 ≤ v0_count.toInt ∧ v0_count.toInt ≤ 50 := i15
  have i16 : 0 ≤ v0_ran.toInt ∧ v0_ran.toInt ≤ 100000000 := i16
  refine lv_iload_n hx hb dX11_count_0 rfl (lv_at hl 1 rfl) ?_
  by_cases c1 : p1.toInt = 0
  · refine lv_tableIn (off := 63) (tgt := 64) hx hb dX11_count_1 (by omega) (by omega) (by rw [c1]; decide) (by decide) ?_
    refine lv_aload_n hx hb dX11_count_64 rfl (lv_at hl 0 rfl) ?_
    refine va_get (D := D) (ci := 11) (v := .ref a7) (C := RX11) (T := TX11) (N := 12) hx hb hts w1 hown hK.1 hP 0 rfl rfl 0 (by decide) w0 (fun _ h9 => h9) rfl dX11_count_65 ?_
    refine va_get (D := D) (ci := 7) (v := .int v7_count) (C := RX7) (T := TX7) (N := 9) hx hb hts w3 hown hK.1 hP 1 rfl rfl 1 (by decide) w2 (fun _ h9 => h9) rfl dX11_count_68 ?_
    have hpo : ((0 ≤ p1.toInt ∧ p1.toInt ≤ 11) ∧ v7_count.toInt = 0) ∨ (¬ (0 ≤ p1.toInt ∧ p1.toInt ≤ 11) ∧ v7_count.toInt = -1) := (by omega)
    exact ret _ _ _ _ v7_count () dX11_count_71 hpo hP hD hS
  by_cases c2 : p1.toInt = 1
  · refine lv_tableIn (off := 71) (tgt := 72) hx hb dX11_count_1 (by omega) (by omega) (by rw [c2]; decide) (by decide) ?_
    refine lv_aload_n hx hb dX11_count_72 rfl (lv_at hl 0 rfl) ?_
    refine va_get (D := D) (ci := 11) (v := .ref a7) (C := RX11) (T := TX11) (N := 12) hx hb hts w1 hown hK.1 hP 0 rfl rfl 0 (by decide) w0 (fun _ h9 => h9) rfl dX11_count_73 ?_
    refine va_get (D := D) (ci := 7) (v := .int v7_holes) (C := RX7) (T := TX7) (N := 9) hx hb hts w3 hown hK.1 hP 1 rfl rfl 5 (by decide) w4 (fun _ h9 => h9) rfl dX11_count_76 ?_
    have hpo : ((0 ≤ p1.toInt ∧ p1.toInt ≤ 11) ∧ v7_holes.toInt = 0) ∨ (¬ (0 ≤ p1.toInt ∧ p1.toInt ≤ 11) ∧ v7_holes.toInt = -1) := (by omega)
    exact ret _ _ _ _ v7_holes () dX11_count_79 hpo hP hD hS
  by_cases c3 : p1.toInt = 2
  · refine lv_tableIn (off := 79) (tgt := 80) hx hb dX11_count_1 (by omega) (by omega) (by rw [c3]; decide) (by decide) ?_
    refine lv_aload_n hx hb dX11_count_80 rfl (lv_at hl 0 rfl) ?_
    refine va_get (D := D) (ci := 11) (v := .ref a3) (C := RX11) (T := TX11) (N := 12) hx hb hts w1 hown hK.1 hP 0 rfl rfl 2 (by decide) w5 (fun _ h9 => h9) rfl dX11_count_81 ?_
    refine va_get (D := D) (ci := 3) (v := .int v3_count) (C := RX3) (T := TX3) (N := 10) hx hb hts w7 hown hK.1 hP 2 rfl rfl 2 (by decide) w6 (fun _ h9 => h9) rfl dX11_count_84 ?_
    have hpo : ((0 ≤ p1.toInt ∧ p1.toInt ≤ 11) ∧ v3_count.toInt = 0) ∨ (¬ (0 ≤ p1.toInt ∧ p1.toInt ≤ 11) ∧ v3_count.toInt = -1) := (by omega)
    exact ret _ _ _ _ v3_count () dX11_count_87 hpo hP hD hS
  by_cases c4 : p1.toInt = 3
  · refine lv_tableIn (off := 87) (tgt := 88) hx hb dX11_count_1 (by omega) (by omega) (by rw [c4]; decide) (by decide) ?_
    refine lv_aload_n hx hb dX11_count_88 rfl (lv_at hl 0 rfl) ?_
    refine va_get (D := D) (ci := 11) (v := .ref a3) (C := RX11) (T := TX11) (N := 12) hx hb hts w1 hown hK.1 hP 0 rfl rfl 2 (by decide) w5 (fun _ h9 => h9) rfl dX11_count_89 ?_
    refine va_get (D := D) (ci := 3) (v := .int v3_marks) (C := RX3) (T := TX3) (N := 10) hx hb hts w7 hown hK.1 hP 2 rfl rfl 6 (by decide) w8 (fun _ h9 => h9) rfl dX11_count_92 ?_
    have hpo : ((0 ≤ p1.toInt ∧ p1.toInt ≤ 11) ∧ v3_marks.toInt = 0) ∨ (¬ (0 ≤ p1.toInt ∧ p1.toInt ≤ 11) ∧ v3_marks.toInt = -1) := (by omega)
    exact ret _ _ _ _ v3_marks () dX11_count_95 hpo hP hD hS
  by_cases c5 : p1.toInt = 4
  · refine lv_tableIn (off := 95) (tgt := 96) hx hb dX11_count_1 (by omega) (by omega) (by rw [c5]; decide) (by decide) ?_
    refine lv_aload_n hx hb dX11_count_96 rfl (lv_at hl 0 rfl) ?_
    refine va_get (D := D) (ci := 11) (v := .ref a2) (C := RX11) (T := TX11) (N := 12) hx hb hts w1 hown hK.1 hP 0 rfl rfl 3 (by decide) w9 (fun _ h9 => h9) rfl dX11_count_97 ?_
    refine va_get (D := D) (ci := 2) (v := .int v2_count) (C := RX2) (T := TX2) (N := 8) hx hb hts w11 hown hK.1 hP 3 rfl rfl 3 (by decide) w10 (fun _ h9 => h9) rfl dX11_count_100 ?_
    have hpo : ((0 ≤ p1.toInt ∧ p1.toInt ≤ 11) ∧ v2_count.toInt = 0) ∨ (¬ (0 ≤ p1.toInt ∧ p1.toInt ≤ 11) ∧ v2_count.toInt = -1) := (by omega)
    exact ret _ _ _ _ v2_count () dX11_count_103 hpo hP hD hS
  by_cases c6 : p1.toInt = 5
  · refine lv_tableIn (off := 103) (tgt := 104) hx hb dX11_count_1 (by omega) (by omega) (by rw [c6]; decide) (by decide) ?_
    refine lv_aload_n hx hb dX11_count_104 rfl (lv_at hl 0 rfl) ?_
    refine va_get (D := D) (ci := 11) (v := .ref a6) (C := RX11) (T := TX11) (N := 12) hx hb hts w1 hown hK.1 hP 0 rfl rfl 4 (by decide) w12 (fun _ h9 => h9) rfl dX11_count_105 ?_
    refine va_get (D := D) (ci := 6) (v := .int v6_count) (C := RX6) (T := TX6) (N := 4) hx hb hts w14 hown hK.1 hP 4 rfl rfl 3 (by decide) w13 (fun _ h9 => h9) rfl dX11_count_108 ?_
    have hpo : ((0 ≤ p1.toInt ∧ p1.toInt ≤ 11) ∧ v6_count.toInt = 0) ∨ (¬ (0 ≤ p1.toInt ∧ p1.toInt ≤ 11) ∧ v6_count.toInt = -1) := (by omega)
    exact ret _ _ _ _ v6_count () dX11_count_111 hpo hP hD hS
  by_cases c7 : p1.toInt = 6
  · refine lv_tableIn (off := 111) (tgt := 112) hx hb dX11_count_1 (by omega) (by omega) (by rw [c7]; decide) (by decide) ?_
    refine lv_aload_n hx hb dX11_count_112 rfl (lv_at hl 0 rfl) ?_
    refine va_get (D := D) (ci := 11) (v := .ref a4) (C := RX11) (T := TX11) (N := 12) hx hb hts w1 hown hK.1 hP 0 rfl rfl 5 (by decide) w15 (fun _ h9 => h9) rfl dX11_count_113 ?_
    refine va_get (D := D) (ci := 4) (v := .int v4_count) (C := RX4) (T := TX4) (N := 3) hx hb hts w17 hown hK.1 hP 5 rfl rfl 2 (by decide) w16 (fun _ h9 => h9) rfl dX11_count_116 ?_
    have hpo : ((0 ≤ p1.toInt ∧ p1.toInt ≤ 11) ∧ v4_count.toInt = 0) ∨ (¬ (0 ≤ p1.toInt ∧ p1.toInt ≤ 11) ∧ v4_count.toInt = -1) := (by omega)
    exact ret _ _ _ _ v4_count () dX11_count_119 hpo hP hD hS
  by_cases c8 : p1.toInt = 7
  · refine lv_tableIn (off := 119) (tgt := 120) hx hb dX11_count_1 (by omega) (by omega) (by rw [c8]; decide) (by decide) ?_
    refine lv_aload_n hx hb dX11_count_120 rfl (lv_at hl 0 rfl) ?_
    refine va_get (D := D) (ci := 11) (v := .ref a10) (C := RX11) (T := TX11) (N := 12) hx hb hts w1 hown hK.1 hP 0 rfl rfl 6 (by decide) w18 (fun _ h9 => h9) rfl dX11_count_121 ?_
    refine va_get (D := D) (ci := 10) (v := .int v10_count) (C := RX10) (T := TX10) (N := 5) hx hb hts w20 hown hK.1 hP 6 rfl rfl 1 (by decide) w19 (fun _ h9 => h9) rfl dX11_count_124 ?_
    have hpo : ((0 ≤ p1.toInt ∧ p1.toInt ≤ 11) ∧ v10_count.toInt = 0) ∨ (¬ (0 ≤ p1.toInt ∧ p1.toInt ≤ 11) ∧ v10_count.toInt = -1) := (by omega)
    exact ret _ _ _ _ v10_count () dX11_count_127 hpo hP hD hS
  by_cases c9 : p1.toInt = 8
  · refine lv_tableIn (off := 127) (tgt := 128) hx hb dX11_count_1 (by omega) (by omega) (by rw [c9]; decide) (by decide) ?_
    refine lv_aload_n hx hb dX11_count_128 rfl (lv_at hl 0 rfl) ?_
    refine va_get (D := D) (ci := 11) (v := .ref a9) (C := RX11) (T := TX11) (N := 12) hx hb hts w1 hown hK.1 hP 0 rfl rfl 7 (by decide) w21 (fun _ h9 => h9) rfl dX11_count_129 ?_
    refine va_get (D := D) (ci := 9) (v := .int v9_count) (C := RX9) (T := TX9) (N := 7) hx hb hts w23 hown hK.1 hP 7 rfl rfl 5 (by decide) w22 (fun _ h9 => h9) rfl dX11_count_132 ?_
    have hpo : ((0 ≤ p1.toInt ∧ p1.toInt ≤ 11) ∧ v9_count.toInt = 0) ∨ (¬ (0 ≤ p1.toInt ∧ p1.toInt ≤ 11) ∧ v9_count.toInt = -1) := (by omega)
    exact ret _ _ _ _ v9_count () dX11_count_135 hpo hP hD hS
  by_cases c10 : p1.toInt = 9
  · refine lv_tableIn (off := 135) (tgt := 136) hx hb dX11_count_1 (by omega) (by omega) (by rw [c10]; decide) (by decide) ?_
    refine lv_aload_n hx hb dX11_count_136 rfl (lv_at hl 0 rfl) ?_
    refine va_get (D := D) (ci := 11) (v := .ref a1) (C := RX11) (T := TX11) (N := 12) hx hb hts w1 hown hK.1 hP 0 rfl rfl 8 (by decide) w24 (fun _ h9 => h9) rfl dX11_count_137 ?_
    refine va_get (D := D) (ci := 1) (v := .int v1_done) (C := RX1) (T := TX1) (N := 6) hx hb hts w26 hown hK.1 hP 8 rfl rfl 4 (by decide) w25 (fun _ h9 => h9) rfl dX11_count_140 ?_
    have hpo : ((0 ≤ p1.toInt ∧ p1.toInt ≤ 11) ∧ v1_done.toInt = 0) ∨ (¬ (0 ≤ p1.toInt ∧ p1.toInt ≤ 11) ∧ v1_done.toInt = -1) := (by omega)
    exact ret _ _ _ _ v1_done () dX11_count_143 hpo hP hD hS
  by_cases c11 : p1.toInt = 10
  · refine lv_tableIn (off := 143) (tgt := 144) hx hb dX11_count_1 (by omega) (by omega) (by rw [c11]; decide) (by decide) ?_
    refine lv_aload_n hx hb dX11_count_144 rfl (lv_at hl 0 rfl) ?_
    refine va_get (D := D) (ci := 11) (v := .ref a0) (C := RX11) (T := TX11) (N := 12) hx hb hts w1 hown hK.1 hP 0 rfl rfl 9 (by decide) w27 (fun _ h9 => h9) rfl dX11_count_145 ?_
    refine va_get (D := D) (ci := 0) (v := .int v0_count) (C := RX0) (T := TX0) (N := 5) hx hb hts w29 hown hK.1 hP 9 rfl rfl 1 (by decide) w28 (fun _ h9 => h9) rfl dX11_count_148 ?_
    have hpo : ((0 ≤ p1.toInt ∧ p1.toInt ≤ 11) ∧ v0_count.toInt = 0) ∨ (¬ (0 ≤ p1.toInt ∧ p1.toInt ≤ 11) ∧ v0_count.toInt = -1) := (by omega)
    exact ret _ _ _ _ v0_count () dX11_count_151 hpo hP hD hS
  by_cases c12 : p1.toInt = 11
  · refine lv_tableIn (off := 151) (tgt := 152) hx hb dX11_count_1 (by omega) (by omega) (by rw [c12]; decide) (by decide) ?_
    refine lv_aload_n hx hb dX11_count_152 rfl (lv_at hl 0 rfl) ?_
    refine va_get (D := D) (ci := 11) (v := .ref a0) (C := RX11) (T := TX11) (N := 12) hx hb hts w1 hown hK.1 hP 0 rfl rfl 9 (by decide) w27 (fun _ h9 => h9) rfl dX11_count_153 ?_
    refine va_get (D := D) (ci := 0) (v := .int v0_ran) (C := RX0) (T := TX0) (N := 5) hx hb hts w29 hown hK.1 hP 9 rfl rfl 3 (by decide) w30 (fun _ h9 => h9) rfl dX11_count_156 ?_
    have hpo : ((0 ≤ p1.toInt ∧ p1.toInt ≤ 11) ∧ v0_ran.toInt = 0) ∨ (¬ (0 ≤ p1.toInt ∧ p1.toInt ≤ 11) ∧ v0_ran.toInt = -1) := (by omega)
    exact ret _ _ _ _ v0_ran () dX11_count_159 hpo hP hD hS
  refine lv_tableOut (tgt := 160) hx hb dX11_count_1 (by omega) (by decide) ?_
  refine lv_iconst (v := (-1)) hx hb dX11_count_160 (by decide) ?_
  have hpo : ((0 ≤ p1.toInt ∧ p1.toInt ≤ 11) ∧ ((-1) : Int32).toInt = 0) ∨ (¬ (0 ≤ p1.toInt ∧ p1.toInt ≤ 11) ∧ ((-1) : Int32).toInt = -1) := (by omega)
  exact ret _ _ _ _ (-1) () dX11_count_161 hpo hP hD hS
set_option maxHeartbeats 4000000 in
set_option maxRecDepth 100000 in
theorem k_X11_story (l : Launch) (D : va_G) (κ : Nat → ClassId) (β : Nat) (a11 : Nat) (a7 : Nat) (a5 : Nat) (a3 : Nat) (a2 : Nat) (a6 : Nat) (a4 : Nat) (a10 : Nat) (a9 : Nat) (a1 : Nat) (a0 : Nat) (a8 : Nat) (aN : Nat) (r10 : Nat → Nat) (r9 : Nat → Nat) (b10_bytes : Nat) (v10_count : Int32) (v10_at : Int32) (b10_steps : Nat) (v10_size : Int32) (n10_bytes : Nat) (f10_bytes : Nat → Int32) (v9_count : Int32) (f9_years : Nat → Int32) (sz : Nat) (p1 : Int32) (p2 : Int32) (i1 : Rg 0 2048 v10_count) (i2 : Rg 0 2048 v10_at) (i3 : Rg 0 4096 v10_size) (hf10_bytes : ∀ j : Nat, -128 ≤ (f10_bytes j).toInt ∧ (f10_bytes j).toInt ≤ 127) (i4 : Rg 0 6 v9_count) (i5 : v10_count.toInt ≤ ((n10_bytes : Nat) : Int)) (i6 : 64 ≤ ((n10_bytes : Nat) : Int) ∧ ((n10_bytes : Nat) : Int) ≤ 4096) (i7 : v10_count.toInt = 0) (i8 : v9_count.toInt = 0) : Met l yX11_story wsX11_story ({ frames := 65, cells := 1, slots := 2049, locals := 1886 } : Room) (PcK D κ β [O11 a11 a7 a5 a3 a2 a6 a4 a10 a9 a1 a0 a8 aN, O10 a10 r10 b10_bytes v10_count v10_at b10_steps v10_size, (cB κ b10_bytes n10_bytes f10_bytes), O9 a9 r9 v9_count, (cI κ (r9 0) 6 f9_years)] sz [.ref a11, .int p1, .int p2]) (QiK D (fun (r : Int32) (u : Int32 × Int32 × Nat × Int32) => (0 ≤ u.1.toInt ∧ u.1.toInt ≤ 2048) ∧ (0 ≤ u.2.1.toInt ∧ u.2.1.toInt ≤ 2048) ∧ (0 ≤ u.2.2.2.toInt ∧ u.2.2.2.toInt ≤ 4096) ∧ (u.1.toInt ≤ ((n10_bytes : Nat) : Int)) ∧ (((0 ≤ p1.toInt ∧ p1.toInt ≤ 2000 ∧ 1 ≤ p2.toInt ∧ p2.toInt ≤ 99) ∧ r.toInt = -100) ∨ (¬ (0 ≤ p1.toInt ∧ p1.toInt ≤ 2000 ∧ 1 ≤ p2.toInt ∧ p2.toInt ≤ 99) ∧ r.toInt = -1))) (fun (u : Int32 × Int32 × Nat × Int32) => [O11 a11 a7 a5 a3 a2 a6 a4 a10 a9 a1 a0 a8 aN, O10 a10 r10 b10_bytes u.1 u.2.1 u.2.2.1 u.2.2.2, (cB κ b10_bytes n10_bytes f10_bytes), O9 a9 r9 v9_count, (cI κ (r9 0) 6 f9_years)]) [O11 a11 a7 a5 a3 a2 a6 a4 a10 a9 a1 a0 a8 aN, O10 a10 r10 b10_bytes v10_count v10_at b10_steps v10_size, (cB κ b10_bytes n10_bytes f10_bytes), O9 a9 r9 v9_count, (cI κ (r9 0) 6 f9_years)] sz) 1 2049 (va_A [O11 a11 a7 a5 a3 a2 a6 a4 a10 a9 a1 a0 a8 aN, O10 a10 r10 b10_bytes v10_count v10_at b10_steps v10_size, (cB κ b10_bytes n10_bytes f10_bytes), O9 a9 r9 v9_count, (cI κ (r9 0) 6 f9_years)] sz) := by
  refine ofK_i (cc := cX11_story) (maxL := 4) (own := RX11) (by decide) rfl rfl (Nat.le_of_ble_eq_true rfl) ?_
  intro p e s m args below meth c Q A ls hsz hx hb hml hts hown hK hA hAB hP hD hl ret
  have hS : va_S A s.heap s.heap [] := va_S.rf
  have hl : lv_has ls 4 [(0, .ref a11), (1, .int p1), (2, .int p2)] := hl
  have w0 := hts (.fieldLink RX11 61 "OlderSkin" "stories" "LOlderSkin$Stories;") (List.mem_of_getElem? (i := 1) rfl)
  have w1 := (fun w h => List.mem_cons_of_mem _ (List.mem_append_left _ (List.mem_append_left _ (List.mem_append_right _ h))) : ∀ w ∈ u_ws RX11 TX11 12, w ∈ wsX11_story)
  have w2 := hts (.fieldLink RX11 54 "OlderSkin" "tape" "LOlderSkin$Tape;") (List.mem_of_getElem? (i := 2) rfl)
  have w3 := hts (.fieldLink RX11 305 "OlderSkin$Tape" "count" "I") (List.mem_of_getElem? (i := 3) rfl)
  have w4 := (fun w h => List.mem_cons_of_mem _ (List.mem_append_left _ (List.mem_append_right _ h)) : ∀ w ∈ u_ws RX10 TX10 5, w ∈ wsX11_story)
  have w5 := hts (.fieldLink RX11 306 "OlderSkin$Tape" "at" "I") (List.mem_of_getElem? (i := 4) rfl)
  have l0 : (0 : Int32).toInt = 0 := by decide
  have l1 : ((-1) : Int32).toInt = -1 := by decide
  have l2 : ((-100) : Int32).toInt = -100 := by decide
  have l3 : ((-3) : Int32).toInt = -3 := by decide
  have i1 : 0 ≤ v10_count.toInt ∧ v10_count.toInt ≤ 2048 := i1
  have i2 : 0 ≤ v10_at.toInt ∧ v10_at.toInt ≤ 2048 := i2
  have i3 : 0 ≤ v10_size.toInt ∧ v10_size.toInt ≤ 4096 := i3
  have i4 : 0 ≤ v9_count.toInt ∧ v9_count.toInt ≤ 6 := i4
  refine lv_iload_n hx hb dX11_story_0 rfl (lv_at hl 1 rfl) ?_
  refine kcm_i hA hAB hP hD hS [false, false, false, false, false] rfl (fun _ => rfl) (fun hPc hDc => va_runS (As := [.int p1]) (rest := []) ⟨hx, hb, hml, hown, hts⟩ (k_X11_isYear l D κ β s.heap.size p1) (va_cwS 1 hts gX11_story_X11_isYear rfl rfl rfl (by decide +kernel) ⟨Nat.le_of_ble_eq_true rfl, Nat.le_of_ble_eq_true rfl⟩) (pk_S hK hS hAB hPc hDc) rfl rfl hl.1 rfl (lv_room (Nat.le_of_ble_eq_true rfl)) dX11_story_1 ⟨Nat.le_of_ble_eq_true rfl, Nat.le_of_ble_eq_true rfl⟩) (fun x1 u2 H locs hw hPD hS => ?_)
  have h3 : (x1.toInt = 1 ∧ 0 ≤ p1.toInt ∧ p1.toInt ≤ 2000) ∨ (x1.toInt = 0 ∧ (p1.toInt < 0 ∨ 2000 < p1.toInt)) := hw
  obtain ⟨hP, hD⟩ : PD D A [O11 a11 a7 a5 a3 a2 a6 a4 a10 a9 a1 a0 a8 aN, O10 a10 r10 b10_bytes v10_count v10_at b10_steps v10_size, (cB κ b10_bytes n10_bytes f10_bytes), O9 a9 r9 v9_count, (cI κ (r9 0) 6 f9_years)] H := hPD
  refine lv_if_eq (tgt := 14) hx hb dX11_story_4 (by decide) (fun c4 => ?_) (fun c4 => ?_)
  · have c4 := ci_eq c4
    refine lv_iconst (v := (-1)) hx hb dX11_story_14 (by decide) ?_
    have hpo : (0 ≤ v10_count.toInt ∧ v10_count.toInt ≤ 2048) ∧ (0 ≤ v10_at.toInt ∧ v10_at.toInt ≤ 2048) ∧ (0 ≤ v10_size.toInt ∧ v10_size.toInt ≤ 4096) ∧ (v10_count.toInt ≤ ((n10_bytes : Nat) : Int)) ∧ (((0 ≤ p1.toInt ∧ p1.toInt ≤ 2000 ∧ 1 ≤ p2.toInt ∧ p2.toInt ≤ 99) ∧ ((-1) : Int32).toInt = -100) ∨ (¬ (0 ≤ p1.toInt ∧ p1.toInt ≤ 2000 ∧ 1 ≤ p2.toInt ∧ p2.toInt ≤ 99) ∧ ((-1) : Int32).toInt = -1)) := ⟨i1, i2, i3, i5, (by omega)⟩
    refine W.widen (k := 1) (n := 2049) (by omega) (by omega) ?_
    exact ret _ _ _ _ (-1) (v10_count, v10_at, b10_steps, v10_size) dX11_story_15 hpo hP hD hS
  have c4 := ci_ne c4
  refine lv_iload_n hx hb dX11_story_7 rfl (lv_at hl 2 rfl) ?_
  refine kcm_i hA hAB hP hD hS [false, false, false, false, false] rfl (fun _ => rfl) (fun hPc hDc => va_runS (As := [.int p2]) (rest := []) ⟨hx, hb, hml, hown, hts⟩ (k_X11_isPrior l D κ β H.size p2) (va_cwS 1 hts gX11_story_X11_isPrior rfl rfl rfl (by decide +kernel) ⟨Nat.le_of_ble_eq_true rfl, Nat.le_of_ble_eq_true rfl⟩) (pk_S hK hS hAB hPc hDc) rfl rfl hl.1 rfl (lv_room (Nat.le_of_ble_eq_true rfl)) dX11_story_8 ⟨Nat.le_of_ble_eq_true rfl, Nat.le_of_ble_eq_true rfl⟩) (fun x5 u6 H locs hw hPD hS => ?_)
  have h7 : (x5.toInt = 1 ∧ 1 ≤ p2.toInt ∧ p2.toInt ≤ 99) ∨ (x5.toInt = 0 ∧ (p2.toInt < 1 ∨ 99 < p2.toInt)) := hw
  obtain ⟨hP, hD⟩ : PD D A [O11 a11 a7 a5 a3 a2 a6 a4 a10 a9 a1 a0 a8 aN, O10 a10 r10 b10_bytes v10_count v10_at b10_steps v10_size, (cB κ b10_bytes n10_bytes f10_bytes), O9 a9 r9 v9_count, (cI κ (r9 0) 6 f9_years)] H := hPD
  refine lv_if_ne (tgt := 16) hx hb dX11_story_11 (by decide) (fun c8 => ?_) (fun c8 => ?_)
  · have c8 := ci_ne c8
    refine lv_aload_n hx hb dX11_story_16 rfl (lv_at hl 0 rfl) ?_
    refine va_get (D := D) (ci := 11) (v := .ref a9) (C := RX11) (T := TX11) (N := 12) hx hb hts w1 hown hK.1 hP 0 rfl rfl 7 (by decide) w0 (fun _ h9 => h9) rfl dX11_story_17 ?_
    refine kcm_i hA hAB hP hD hS [false, false, false, true, true] rfl (fun _ => rfl) (fun hPc hDc => va_runV (As := []) (rest := []) ⟨hx, hb, hml, hown, hts⟩ (k_X9_isFull l D κ β a9 r9 v9_count f9_years H.size i4 (by omega)) (cwV 0 hts gX11_story_X9_isFull rfl rfl rfl (by decide +kernel) ⟨Nat.le_of_ble_eq_true rfl, Nat.le_of_ble_eq_true rfl⟩) (pk_V hK hS hAB hPc hDc 0 (ci := 9) rfl rfl rfl) rfl rfl hl.1 rfl (lv_room (Nat.le_of_ble_eq_true rfl)) dX11_story_20 ⟨Nat.le_of_ble_eq_true rfl, Nat.le_of_ble_eq_true rfl⟩) (fun x9 u10 H locs hw hPD hS => ?_)
    have h11 : (x9.toInt = 1 ∧ v9_count.toInt = 6) ∨ (x9.toInt = 0 ∧ v9_count.toInt < 6) := hw
    obtain ⟨hP, hD⟩ : PD D A [O11 a11 a7 a5 a3 a2 a6 a4 a10 a9 a1 a0 a8 aN, O10 a10 r10 b10_bytes v10_count v10_at b10_steps v10_size, (cB κ b10_bytes n10_bytes f10_bytes), O9 a9 r9 v9_count, (cI κ (r9 0) 6 f9_years)] H := hPD
    refine lv_if_eq (tgt := 29) hx hb dX11_story_23 (by decide) (fun c12 => ?_) (fun c12 => ?_)
    · have c12 := ci_eq c12
      refine lv_aload_n hx hb dX11_story_29 rfl (lv_at hl 0 rfl) ?_
      refine va_get (D := D) (ci := 11) (v := .ref a10) (C := RX11) (T := TX11) (N := 12) hx hb hts w1 hown hK.1 hP 0 rfl rfl 6 (by decide) w2 (fun _ h9 => h9) rfl dX11_story_30 ?_
      refine kc_i hA hAB hP hD hS (wc := [O10 a10 r10 b10_bytes v10_count v10_at b10_steps v10_size, (cB κ b10_bytes n10_bytes f10_bytes)]) (wr := [O11 a11 a7 a5 a3 a2 a6 a4 a10 a9 a1 a0 a8 aN, O9 a9 r9 v9_count, (cI κ (r9 0) 6 f9_years)]) [1, 2] [0, 3, 4] rfl rfl (by decide) (by decide) (by decide) (fun hPc hDc => va_runV (As := []) (rest := []) ⟨hx, hb, hml, hown, hts⟩ (k_X10_read l D κ β a10 r10 b10_bytes v10_count v10_at b10_steps v10_size n10_bytes f10_bytes H.size i1 i2 i3 hf10_bytes i5 i6 (by omega)) (cwV 0 hts gX11_story_X10_read rfl rfl rfl (by decide +kernel) ⟨Nat.le_of_ble_eq_true rfl, Nat.le_of_ble_eq_true rfl⟩) (pk_V hK hS hAB hPc hDc 0 (ci := 10) rfl rfl rfl) rfl rfl hl.1 rfl (lv_room (Nat.le_of_ble_eq_true rfl)) dX11_story_33 ⟨Nat.le_of_ble_eq_true rfl, Nat.le_of_ble_eq_true rfl⟩) (fun x18 u19 H locs hw hP hD hS => ?_)
      obtain ⟨x13, x14, x15, x16, g17⟩ := u19
      obtain ⟨h20, h21, h22, h23, h24⟩ : (0 ≤ x13.toInt ∧ x13.toInt ≤ 2048) ∧ (0 ≤ x15.toInt ∧ x15.toInt ≤ 4096) ∧ (x16 ≤ 2049) ∧ (x18.toInt = 0) ∧ (x13.toInt = 0) := hw
      obtain ⟨hP, hD⟩ : PD D A [O11 a11 a7 a5 a3 a2 a6 a4 a10 a9 a1 a0 a8 aN, O9 a9 r9 v9_count, (cI κ (r9 0) 6 f9_years), O10 a10 r10 b10_bytes v10_count x13 x14 x15, (cB κ b10_bytes n10_bytes f10_bytes), (cI κ x14 x16 g17)] H := ⟨hP, hD⟩
      refine lv_istore_n (lv' := [(3, .int x18), (0, .ref a11), (1, .int p1), (2, .int p2)]) hx hb dX11_story_36 rfl hl (by decide) rfl (fun ls hl => ?_)
      refine lv_aload_n hx hb dX11_story_37 rfl (lv_at hl 1 rfl) ?_
      refine va_get (D := D) (ci := 11) (v := .ref a10) (C := RX11) (T := TX11) (N := 12) hx hb hts w1 hown hK.1 hP 0 rfl rfl 6 (by decide) w2 (fun _ h9 => h9) rfl dX11_story_38 ?_
      refine lv_iconst (v := 0) hx hb dX11_story_41 (by decide) ?_
      refine va_put (D := D) (ci := 10) (v := .int 0) (ty := .int) (C := RX10) (T := TX10) (N := 5) hx hb hts w4 tyX10 tyX10_ok nmX10 hown hK.1 hP hD hS 3 rfl rfl 1 (by decide) w3 (fun _ h9 => h9) rfl (by decide +kernel) rfl rfl (Nat.le_of_ble_eq_true rfl) dX11_story_42 (fun H locs hP hD hS => ?_)
      obtain ⟨hP, hD⟩ : PD D A [O11 a11 a7 a5 a3 a2 a6 a4 a10 a9 a1 a0 a8 aN, O9 a9 r9 v9_count, (cI κ (r9 0) 6 f9_years), O10 a10 r10 b10_bytes 0 x13 x14 x15, (cB κ b10_bytes n10_bytes f10_bytes), (cI κ x14 x16 g17)] H := ⟨hP, hD⟩
      have h25 : 0 ≤ (0 : Int32).toInt ∧ (0 : Int32).toInt ≤ 2048 := by omega
      have h26 : (0 : Int32).toInt ≤ ((n10_bytes : Nat) : Int) := by omega
      refine lv_iload_n hx hb dX11_story_45 rfl (lv_at hl 0 rfl) ?_
      refine lv_if_ne (tgt := 60) hx hb dX11_story_46 (by decide) (fun c27 => ?_) (fun c27 => ?_)
      · have c27 := ci_ne c27
        exfalso
        omega
      have c27 := ci_eq c27
      refine lv_bipush (v := (-100)) hx hb dX11_story_49 (by decide) ?_
      refine lv_aload_n hx hb dX11_story_51 rfl (lv_at hl 1 rfl) ?_
      refine va_get (D := D) (ci := 11) (v := .ref a10) (C := RX11) (T := TX11) (N := 12) hx hb hts w1 hown hK.1 hP 0 rfl rfl 6 (by decide) w2 (fun _ h9 => h9) rfl dX11_story_52 ?_
      refine va_get (D := D) (ci := 10) (v := .int x13) (C := RX10) (T := TX10) (N := 5) hx hb hts w4 hown hK.1 hP 3 rfl rfl 2 (by decide) w5 (fun _ h9 => h9) rfl dX11_story_55 ?_
      refine lv_isub hx hb dX11_story_58 ?_
      refine lv_topi (fun x28 e29 => ?_)
      try have h30 : x28.toInt = ((-100) : Int32).toInt - x13.toInt := ci_sub e29 (by omega) (by omega)
      obtain ⟨hP, hD⟩ : PD D A [O11 a11 a7 a5 a3 a2 a6 a4 a10 a9 a1 a0 a8 aN, O10 a10 r10 b10_bytes 0 x13 x14 x15, (cB κ b10_bytes n10_bytes f10_bytes), O9 a9 r9 v9_count, (cI κ (r9 0) 6 f9_years)] H := ⟨hP.sub [0, 3, 4, 1, 2] rfl, hD.sub [0, 3, 4, 1, 2] (by decide) rfl⟩
      have hpo : (0 ≤ (0 : Int32).toInt ∧ (0 : Int32).toInt ≤ 2048) ∧ (0 ≤ x13.toInt ∧ x13.toInt ≤ 2048) ∧ (0 ≤ x15.toInt ∧ x15.toInt ≤ 4096) ∧ ((0 : Int32).toInt ≤ ((n10_bytes : Nat) : Int)) ∧ (((0 ≤ p1.toInt ∧ p1.toInt ≤ 2000 ∧ 1 ≤ p2.toInt ∧ p2.toInt ≤ 99) ∧ x28.toInt = -100) ∨ (¬ (0 ≤ p1.toInt ∧ p1.toInt ≤ 2000 ∧ 1 ≤ p2.toInt ∧ p2.toInt ≤ 99) ∧ x28.toInt = -1)) := ⟨h25, h20, h21, h26, (by omega)⟩
      exact ret _ _ _ _ x28 (0, x13, x14, x15) dX11_story_59 hpo hP hD hS
    have c12 := ci_ne c12
    refine lv_bipush (v := (-3)) hx hb dX11_story_26 (by decide) ?_
    have hpo : (0 ≤ v10_count.toInt ∧ v10_count.toInt ≤ 2048) ∧ (0 ≤ v10_at.toInt ∧ v10_at.toInt ≤ 2048) ∧ (0 ≤ v10_size.toInt ∧ v10_size.toInt ≤ 4096) ∧ (v10_count.toInt ≤ ((n10_bytes : Nat) : Int)) ∧ (((0 ≤ p1.toInt ∧ p1.toInt ≤ 2000 ∧ 1 ≤ p2.toInt ∧ p2.toInt ≤ 99) ∧ ((-3) : Int32).toInt = -100) ∨ (¬ (0 ≤ p1.toInt ∧ p1.toInt ≤ 2000 ∧ 1 ≤ p2.toInt ∧ p2.toInt ≤ 99) ∧ ((-3) : Int32).toInt = -1)) := ⟨i1, i2, i3, i5, (by omega)⟩
    refine W.widen (k := 1) (n := 2049) (by omega) (by omega) ?_
    exact ret _ _ _ _ (-3) (v10_count, v10_at, b10_steps, v10_size) dX11_story_28 hpo hP hD hS
  have c8 := ci_eq c8
  refine lv_iconst (v := (-1)) hx hb dX11_story_14 (by decide) ?_
  have hpo : (0 ≤ v10_count.toInt ∧ v10_count.toInt ≤ 2048) ∧ (0 ≤ v10_at.toInt ∧ v10_at.toInt ≤ 2048) ∧ (0 ≤ v10_size.toInt ∧ v10_size.toInt ≤ 4096) ∧ (v10_count.toInt ≤ ((n10_bytes : Nat) : Int)) ∧ (((0 ≤ p1.toInt ∧ p1.toInt ≤ 2000 ∧ 1 ≤ p2.toInt ∧ p2.toInt ≤ 99) ∧ ((-1) : Int32).toInt = -100) ∨ (¬ (0 ≤ p1.toInt ∧ p1.toInt ≤ 2000 ∧ 1 ≤ p2.toInt ∧ p2.toInt ≤ 99) ∧ ((-1) : Int32).toInt = -1)) := ⟨i1, i2, i3, i5, (by omega)⟩
  refine W.widen (k := 1) (n := 2049) (by omega) (by omega) ?_
  exact ret _ _ _ _ (-1) (v10_count, v10_at, b10_steps, v10_size) dX11_story_15 hpo hP hD hS
