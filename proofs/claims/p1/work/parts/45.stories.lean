set_option maxHeartbeats 4000000 in
set_option maxRecDepth 100000 in
theorem k_X9_isStory (l : Launch) (D : va_G) (κ : Nat → ClassId) (β : Nat) (a9 : Nat) (r9 : Nat → Nat) (v9_count : Int32) (sz : Nat) (p1 : Int32) (i1 : Rg 0 6 v9_count) (i2 : v9_count.toInt = 0) : Met l yX9_isStory wsX9_isStory ({ frames := 1, cells := 0, slots := 0, locals := 22 } : Room) (PcK D κ β [O9 a9 r9 v9_count] sz [.ref a9, .int p1]) (QiK D (fun (r : Int32) (u : Unit) => (r.toInt = 1 ∧ 0 ≤ p1.toInt ∧ p1.toInt < v9_count.toInt) ∨ (r.toInt = 0 ∧ (p1.toInt < 0 ∨ v9_count.toInt ≤ p1.toInt))) (fun (u : Unit) => [O9 a9 r9 v9_count]) [O9 a9 r9 v9_count] sz) 0 0 (va_A [O9 a9 r9 v9_count] sz) := by
  refine ofK_z (cc := cX9_isStory) (maxL := 2) (own := RX9) (by decide) rfl rfl (Nat.le_of_ble_eq_true rfl) ?_
  intro p e s m args below meth c Q A ls hsz hx hb hml hts hown hK hA hAB hP hD hl ret
  have hS : va_S A s.heap s.heap [] := va_S.rf
  have hl : lv_has ls 2 [(0, .ref a9), (1, .int p1)] := hl
  have w0 := hts (.fieldLink RX9 32 "OlderSkin$Stories" "count" "I") (List.mem_of_getElem? (i := 1) rfl)
  have w1 := (fun w h => List.mem_cons_of_mem _ (List.mem_append_right _ h) : ∀ w ∈ u_ws RX9 TX9 7, w ∈ wsX9_isStory)
  have w2 := hts (.initialized RX11) (List.mem_of_getElem? (i := 3) rfl)
  have w3 := hts (.static yX11_within) (List.mem_of_getElem? (i := 2) rfl)
  have w4 := hK.2.1 ("OlderSkin$Stories", 36, ⟨"OlderSkin", "within", "(III)Z"⟩, "OlderSkin") (by decide +kernel)
  have l0 : (0 : Int32).toInt = 0 := by decide
  have l1 : (1 : Int32).toInt = 1 := by decide
  have i1 : 0 ≤ v9_count.toInt ∧ v9_count.toInt ≤ 6 := i1
  refine lv_iload_n hx hb dX9_isStory_0 rfl (lv_at hl 1 rfl) ?_
  refine lv_iconst (v := 0) hx hb dX9_isStory_1 (by decide) ?_
  refine lv_aload_n hx hb dX9_isStory_2 rfl (lv_at hl 0 rfl) ?_
  refine va_get (D := D) (ci := 9) (v := .int v9_count) (C := RX9) (T := TX9) (N := 7) hx hb hts w1 hown hK.1 hP 0 rfl rfl 5 (by decide) w0 (fun _ h9 => h9) rfl dX9_isStory_3 ?_
  refine lv_iconst (v := 1) hx hb dX9_isStory_6 (by decide) ?_
  refine lv_isub hx hb dX9_isStory_7 ?_
  refine lv_topi (fun x1 e2 => ?_)
  try have h3 : x1.toInt = v9_count.toInt - (1 : Int32).toInt := ci_sub e2 (by omega) (by omega)
  refine kcm_i hA hAB hP hD hS [false] rfl (fun _ => rfl) (fun hPc hDc => va_runSN (As := [.int p1, .int 0, .int x1]) (rest := []) ⟨hx, hb, hml, hown, hts⟩ (k_X11_within l D κ β s.heap.size p1 0 x1) ⟨va_cnB 3 hts gX9_isStory_X11_within_n36 rfl rfl rfl w4 w2 (by decide +kernel) ⟨Nat.le_of_ble_eq_true rfl, Nat.le_of_ble_eq_true rfl⟩, w3, trivial⟩ (pk_S hK hS hAB hPc hDc) rfl rfl hl.1 rfl (lv_room (Nat.le_of_ble_eq_true rfl)) dX9_isStory_8 ⟨Nat.le_of_ble_eq_true rfl, Nat.le_of_ble_eq_true rfl⟩) (fun x4 u5 H locs hw hPD hS => ?_)
  have h6 : (x4.toInt = 1 ∧ (0 : Int32).toInt ≤ p1.toInt ∧ p1.toInt ≤ x1.toInt) ∨ (x4.toInt = 0 ∧ (p1.toInt < (0 : Int32).toInt ∨ x1.toInt < p1.toInt)) := hw
  obtain ⟨hP, hD⟩ : PD D A [O9 a9 r9 v9_count] H := hPD
  have hpo : (x4.toInt = 1 ∧ 0 ≤ p1.toInt ∧ p1.toInt < v9_count.toInt) ∨ (x4.toInt = 0 ∧ (p1.toInt < 0 ∨ v9_count.toInt ≤ p1.toInt)) := (by omega)
  exact ret _ _ _ _ x4 () dX9_isStory_11 (by omega) hpo hP hD hS
set_option maxHeartbeats 4000000 in
set_option maxRecDepth 100000 in
theorem k_X9_isFull (l : Launch) (D : va_G) (κ : Nat → ClassId) (β : Nat) (a9 : Nat) (r9 : Nat → Nat) (v9_count : Int32) (f9_years : Nat → Int32) (sz : Nat) (i1 : Rg 0 6 v9_count) (i2 : v9_count.toInt = 0) : Met l yX9_isFull wsX9_isFull ({ frames := 0, cells := 0, slots := 0, locals := 0 } : Room) (PcK D κ β [O9 a9 r9 v9_count, (cI κ (r9 0) 6 f9_years)] sz [.ref a9]) (QiK D (fun (r : Int32) (u : Unit) => (r.toInt = 1 ∧ v9_count.toInt = 6) ∨ (r.toInt = 0 ∧ v9_count.toInt < 6)) (fun (u : Unit) => [O9 a9 r9 v9_count, (cI κ (r9 0) 6 f9_years)]) [O9 a9 r9 v9_count, (cI κ (r9 0) 6 f9_years)] sz) 0 0 (va_A [O9 a9 r9 v9_count, (cI κ (r9 0) 6 f9_years)] sz) := by
  refine ofK_z (cc := cX9_isFull) (maxL := 1) (own := RX9) (by decide) rfl rfl (Nat.le_of_ble_eq_true rfl) ?_
  intro p e s m args below meth c Q A ls hsz hx hb hml hts hown hK hA hAB hP hD hl ret
  have hS : va_S A s.heap s.heap [] := va_S.rf
  have hl : lv_has ls 1 [(0, .ref a9)] := hl
  have w0 := hts (.fieldLink RX9 32 "OlderSkin$Stories" "count" "I") (List.mem_of_getElem? (i := 1) rfl)
  have w1 := (fun w h => List.mem_cons_of_mem _ (List.mem_append_right _ h) : ∀ w ∈ u_ws RX9 TX9 7, w ∈ wsX9_isFull)
  have w2 := hts (.fieldLink RX9 9 "OlderSkin$Stories" "years" "[I") (List.mem_of_getElem? (i := 2) rfl)
  have l0 : (6 : Int32).toInt = 6 := by decide
  have l1 : (0 : Int32).toInt = 0 := by decide
  have l2 : (1 : Int32).toInt = 1 := by decide
  have i1 : 0 ≤ v9_count.toInt ∧ v9_count.toInt ≤ 6 := i1
  refine lv_aload_n hx hb dX9_isFull_0 rfl (lv_at hl 0 rfl) ?_
  refine va_get (D := D) (ci := 9) (v := .int v9_count) (C := RX9) (T := TX9) (N := 7) hx hb hts w1 hown hK.1 hP 0 rfl rfl 5 (by decide) w0 (fun _ h9 => h9) rfl dX9_isFull_1 ?_
  refine lv_aload_n hx hb dX9_isFull_4 rfl (lv_at hl 0 rfl) ?_
  refine va_get (D := D) (ci := 9) (v := .ref (r9 0)) (C := RX9) (T := TX9) (N := 7) hx hb hts w1 hown hK.1 hP 0 rfl rfl 0 (by decide) w2 (fun _ h9 => h9) rfl dX9_isFull_5 ?_
  refine va_alen hx hb hK.1 hP 1 1 rfl rfl (v := 6) rfl dX9_isFull_8 ?_
  refine lv_icmp_ne (tgt := 16) hx hb dX9_isFull_9 (by decide) (fun c1 => ?_) (fun c1 => ?_)
  · have c1 := ci_ne c1
    refine lv_iconst (v := 0) hx hb dX9_isFull_16 (by decide) ?_
    have hpo : ((0 : Int32).toInt = 1 ∧ v9_count.toInt = 6) ∨ ((0 : Int32).toInt = 0 ∧ v9_count.toInt < 6) := (by omega)
    exact ret _ _ _ _ 0 () dX9_isFull_17 (by omega) hpo hP hD hS
  have c1 := ci_eq c1
  refine lv_iconst (v := 1) hx hb dX9_isFull_12 (by decide) ?_
  refine lv_goto (tgt := 17) hx hb dX9_isFull_13 (by decide) ?_
  have hpo : ((1 : Int32).toInt = 1 ∧ v9_count.toInt = 6) ∨ ((1 : Int32).toInt = 0 ∧ v9_count.toInt < 6) := (by omega)
  exact ret _ _ _ _ 1 () dX9_isFull_17 (by omega) hpo hP hD hS
set_option maxHeartbeats 4000000 in
set_option maxRecDepth 100000 in
theorem k_X9_joined (l : Launch) (D : va_G) (κ : Nat → ClassId) (β : Nat) (sz : Nat) (p1 : Int32) (p2 : Int32) (p3 : Int32) (i1 : (1 : Int) ≤ 0) : Met l yX9_joined wsX9_joined ({ frames := 1, cells := 0, slots := 0, locals := 30 } : Room) (PcK D κ β [] sz [.int p1, .int p2, .int p3]) (QiK D (fun (r : Int32) (u : Unit) => True) (fun (u : Unit) => []) [] sz) 0 0 (va_A [] sz) := by
  refine ofK_i (cc := cX9_joined) (maxL := 3) (own := RX9) (by decide) rfl rfl (Nat.le_of_ble_eq_true rfl) ?_
  intro p e s m args below meth c Q A ls hsz hx hb hml hts hown hK hA hAB hP hD hl ret
  have hS : va_S A s.heap s.heap [] := va_S.rf
  have hl : lv_has ls 3 [(0, .int p1), (1, .int p2), (2, .int p3)] := hl
  exfalso
  omega
set_option maxHeartbeats 4000000 in
set_option maxRecDepth 100000 in
theorem k_X9_work (l : Launch) (D : va_G) (κ : Nat → ClassId) (β : Nat) (a9 : Nat) (r9 : Nat → Nat) (v9_count : Int32) (sz : Nat) (p1 : Int32) (p2 : Int32) (i1 : Rg 0 6 v9_count) (i2 : (1 : Int) ≤ 0) : Met l yX9_work wsX9_work ({ frames := 1, cells := 0, slots := 0, locals := 30 } : Room) (PcK D κ β [O9 a9 r9 v9_count] sz [.ref a9, .int p1, .int p2]) (QiK D (fun (r : Int32) (u : Unit) => True) (fun (u : Unit) => [O9 a9 r9 v9_count]) [O9 a9 r9 v9_count] sz) 0 0 (va_A [O9 a9 r9 v9_count] sz) := by
  refine ofK_i (cc := cX9_work) (maxL := 3) (own := RX9) (by decide) rfl rfl (Nat.le_of_ble_eq_true rfl) ?_
  intro p e s m args below meth c Q A ls hsz hx hb hml hts hown hK hA hAB hP hD hl ret
  have hS : va_S A s.heap s.heap [] := va_S.rf
  have hl : lv_has ls 3 [(0, .ref a9), (1, .int p1), (2, .int p2)] := hl
  exfalso
  omega
set_option maxHeartbeats 4000000 in
set_option maxRecDepth 100000 in
theorem k_X9_valueOf (l : Launch) (D : va_G) (κ : Nat → ClassId) (β : Nat) (a9 : Nat) (r9 : Nat → Nat) (v9_count : Int32) (nq1 : Nat) (fq1 : Nat → Int32) (fq3 : Nat → Int32) (sz : Nat) (q1 : Nat) (p2 : Int32) (q3 : Nat) (i1 : Rg 0 6 v9_count) (i2 : (1 : Int) ≤ 0) : Met l yX9_valueOf wsX9_valueOf ({ frames := 1, cells := 0, slots := 0, locals := 30 } : Room) (PcK D κ β [O9 a9 r9 v9_count, (cI κ q1 nq1 fq1), (cI κ q3 8 fq3)] sz [.ref a9, .ref q1, .int p2, .ref q3]) (QiK D (fun (r : Int32) (u : Unit) => True) (fun (u : Unit) => [O9 a9 r9 v9_count, (cI κ q1 nq1 fq1), (cI κ q3 8 fq3)]) [O9 a9 r9 v9_count, (cI κ q1 nq1 fq1), (cI κ q3 8 fq3)] sz) 0 0 (va_A [O9 a9 r9 v9_count, (cI κ q1 nq1 fq1), (cI κ q3 8 fq3)] sz) := by
  refine ofK_i (cc := cX9_valueOf) (maxL := 8) (own := RX9) (by decide) rfl rfl (Nat.le_of_ble_eq_true rfl) ?_
  intro p e s m args below meth c Q A ls hsz hx hb hml hts hown hK hA hAB hP hD hl ret
  have hS : va_S A s.heap s.heap [] := va_S.rf
  have hl : lv_has ls 8 [(0, .ref a9), (1, .ref q1), (2, .int p2), (3, .ref q3)] := hl
  exfalso
  omega
set_option maxHeartbeats 4000000 in
set_option maxRecDepth 100000 in
theorem k_X9_weigh (l : Launch) (D : va_G) (κ : Nat → ClassId) (β : Nat) (a9 : Nat) (r9 : Nat → Nat) (v9_count : Int32) (fq2 : Nat → Int32) (sz : Nat) (p1 : Int32) (q2 : Nat) (i1 : Rg 0 6 v9_count) (i2 : (1 : Int) ≤ 0) : Met l yX9_weigh wsX9_weigh ({ frames := 1, cells := 0, slots := 0, locals := 30 } : Room) (PcK D κ β [O9 a9 r9 v9_count, (cI κ q2 8 fq2)] sz [.ref a9, .int p1, .ref q2]) (QvK D (fun (u : Unit) => True) (fun (u : Unit) => [O9 a9 r9 v9_count, (cI κ q2 8 fq2)]) [O9 a9 r9 v9_count, (cI κ q2 8 fq2)] sz) 0 0 (va_A [O9 a9 r9 v9_count, (cI κ q2 8 fq2)] sz) := by
  refine ofK_v (cc := cX9_weigh) (maxL := 3) (own := RX9) (by decide) rfl rfl (Nat.le_of_ble_eq_true rfl) ?_
  intro p e s m args below meth c Q A ls hsz hx hb hml hts hown hK hA hAB hP hD hl hname ret
  have hS : va_S A s.heap s.heap [] := va_S.rf
  have hl : lv_has ls 3 [(0, .ref a9), (1, .int p1), (2, .ref q2)] := hl
  exfalso
  omega
set_option maxHeartbeats 4000000 in
set_option maxRecDepth 100000 in
theorem k_X9_oddsOf (l : Launch) (D : va_G) (κ : Nat → ClassId) (β : Nat) (a9 : Nat) (r9 : Nat → Nat) (v9_count : Int32) (sz : Nat) (p1 : Int32) (i1 : Rg 0 6 v9_count) (i2 : (1 : Int) ≤ 0) : Met l yX9_oddsOf wsX9_oddsOf ({ frames := 1, cells := 0, slots := 0, locals := 30 } : Room) (PcK D κ β [O9 a9 r9 v9_count] sz [.ref a9, .int p1]) (QiK D (fun (r : Int32) (u : Unit) => True) (fun (u : Unit) => [O9 a9 r9 v9_count]) [O9 a9 r9 v9_count] sz) 0 0 (va_A [O9 a9 r9 v9_count] sz) := by
  refine ofK_i (cc := cX9_oddsOf) (maxL := 4) (own := RX9) (by decide) rfl rfl (Nat.le_of_ble_eq_true rfl) ?_
  intro p e s m args below meth c Q A ls hsz hx hb hml hts hown hK hA hAB hP hD hl ret
  have hS : va_S A s.heap s.heap [] := va_S.rf
  have hl : lv_has ls 4 [(0, .ref a9), (1, .int p1)] := hl
  have i1 : 0 ≤ v9_count.toInt ∧ v9_count.toInt ≤ 6 := i1
  exfalso
  omega
set_option maxHeartbeats 4000000 in
set_option maxRecDepth 100000 in
theorem k_X9_bestOne (l : Launch) (D : va_G) (κ : Nat → ClassId) (β : Nat) (a9 : Nat) (r9 : Nat → Nat) (v9_count : Int32) (sz : Nat) (i1 : Rg 0 6 v9_count) (i2 : (1 : Int) ≤ 0) : Met l yX9_bestOne wsX9_bestOne ({ frames := 1, cells := 0, slots := 0, locals := 30 } : Room) (PcK D κ β [O9 a9 r9 v9_count] sz [.ref a9]) (QiK D (fun (r : Int32) (u : Unit) => True) (fun (u : Unit) => [O9 a9 r9 v9_count]) [O9 a9 r9 v9_count] sz) 0 0 (va_A [O9 a9 r9 v9_count] sz) := by
  refine ofK_i (cc := cX9_bestOne) (maxL := 3) (own := RX9) (by decide) rfl rfl (Nat.le_of_ble_eq_true rfl) ?_
  intro p e s m args below meth c Q A ls hsz hx hb hml hts hown hK hA hAB hP hD hl ret
  have hS : va_S A s.heap s.heap [] := va_S.rf
  have hl : lv_has ls 3 [(0, .ref a9)] := hl
  have i1 : 0 ≤ v9_count.toInt ∧ v9_count.toInt ≤ 6 := i1
  exfalso
  omega
set_option maxHeartbeats 4000000 in
set_option maxRecDepth 100000 in
theorem k_X9_add (l : Launch) (D : va_G) (κ : Nat → ClassId) (β : Nat) (a9 : Nat) (r9 : Nat → Nat) (v9_count : Int32) (nq3 : Nat) (fq3 : Nat → Int32) (sz : Nat) (p1 : Int32) (p2 : Int32) (q3 : Nat) (p4 : Int32) (i1 : Rg 0 6 v9_count) (i2 : (1 : Int) ≤ 0) : Met l yX9_add wsX9_add ({ frames := 1, cells := 0, slots := 0, locals := 30 } : Room) (PcK D κ β [O9 a9 r9 v9_count, (cI κ q3 nq3 fq3)] sz [.ref a9, .int p1, .int p2, .ref q3, .int p4]) (QiK D (fun (r : Int32) (u : Unit) => True) (fun (u : Unit) => [O9 a9 r9 v9_count, (cI κ q3 nq3 fq3)]) [O9 a9 r9 v9_count, (cI κ q3 nq3 fq3)] sz) 0 0 (va_A [O9 a9 r9 v9_count, (cI κ q3 nq3 fq3)] sz) := by
  refine ofK_i (cc := cX9_add) (maxL := 5) (own := RX9) (by decide) rfl rfl (Nat.le_of_ble_eq_true rfl) ?_
  intro p e s m args below meth c Q A ls hsz hx hb hml hts hown hK hA hAB hP hD hl ret
  have hS : va_S A s.heap s.heap [] := va_S.rf
  have hl : lv_has ls 5 [(0, .ref a9), (1, .int p1), (2, .int p2), (3, .ref q3), (4, .int p4)] := hl
  have i1 : 0 ≤ v9_count.toInt ∧ v9_count.toInt ≤ 6 := i1
  exfalso
  omega
