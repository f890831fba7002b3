set_option maxHeartbeats 4000000 in
set_option maxRecDepth 100000 in
theorem k_X10_sign (l : Launch) (D : va_G) (κ : Nat → ClassId) (β : Nat) (a10 : Nat) (r10 : Nat → Nat) (b10_bytes : Nat) (v10_count : Int32) (v10_at : Int32) (b10_steps : Nat) (v10_size : Int32) (sz : Nat) (i1 : Rg 0 2048 v10_count) (i2 : Rg 0 2048 v10_at) (i3 : Rg 0 4096 v10_size) (i4 : v10_count.toInt = 0) : Met l yX10_sign wsX10_sign ({ frames := 0, cells := 0, slots := 0, locals := 0 } : Room) (PcK D κ β [O10 a10 r10 b10_bytes v10_count v10_at b10_steps v10_size] sz [.ref a10]) (QiK D (fun (r : Int32) (u : Unit) => (r.toInt = -1 ∧ v10_count.toInt ≤ v10_at.toInt) ∨ (0 ≤ r.toInt ∧ r.toInt ≤ 255 ∧ v10_at.toInt < v10_count.toInt)) (fun (u : Unit) => [O10 a10 r10 b10_bytes v10_count v10_at b10_steps v10_size]) [O10 a10 r10 b10_bytes v10_count v10_at b10_steps v10_size] sz) 0 0 (va_A [O10 a10 r10 b10_bytes v10_count v10_at b10_steps v10_size] sz) := by
  refine ofK_i (cc := cX10_sign) (maxL := 1) (own := RX10) (by decide) rfl rfl (Nat.le_of_ble_eq_true rfl) ?_
  intro p e s m args below meth c Q A ls hsz hx hb hml hts hown hK hA hAB hP hD hl ret
  have hS : va_S A s.heap s.heap [] := va_S.rf
  have hl : lv_has ls 1 [(0, .ref a10)] := hl
  have w0 := hts (.fieldLink RX10 29 "OlderSkin$Tape" "at" "I") (List.mem_of_getElem? (i := 1) rfl)
  have w1 := (fun w h => List.mem_cons_of_mem _ (List.mem_append_right _ h) : ∀ w ∈ u_ws RX10 TX10 5, w ∈ wsX10_sign)
  have w2 := hts (.fieldLink RX10 19 "OlderSkin$Tape" "count" "I") (List.mem_of_getElem? (i := 2) rfl)
  have l0 : (0 : Int32).toInt = 0 := by decide
  have l1 : ((-1) : Int32).toInt = -1 := by decide
  have i1 : 0 ≤ v10_count.toInt ∧ v10_count.toInt ≤ 2048 := i1
  have i2 : 0 ≤ v10_at.toInt ∧ v10_at.toInt ≤ 2048 := i2
  refine lv_aload_n hx hb dX10_sign_0 rfl (lv_at hl 0 rfl) ?_
  refine va_get (D := D) (ci := 10) (v := .int v10_at) (C := RX10) (T := TX10) (N := 5) hx hb hts w1 hown hK.1 hP 0 rfl rfl 2 (by decide) w0 (fun _ h9 => h9) rfl dX10_sign_1 ?_
  refine lv_aload_n hx hb dX10_sign_4 rfl (lv_at hl 0 rfl) ?_
  refine va_get (D := D) (ci := 10) (v := .int v10_count) (C := RX10) (T := TX10) (N := 5) hx hb hts w1 hown hK.1 hP 0 rfl rfl 1 (by decide) w2 (fun _ h9 => h9) rfl dX10_sign_5 ?_
  refine lv_icmp_ge (tgt := 27) hx hb dX10_sign_8 (by decide) (fun c1 => ?_) (fun c1 => ?_)
  · have c1 := ci_le c1
    refine lv_iconst (v := (-1)) hx hb dX10_sign_27 (by decide) ?_
    have hpo : (((-1) : Int32).toInt = -1 ∧ v10_count.toInt ≤ v10_at.toInt) ∨ (0 ≤ ((-1) : Int32).toInt ∧ ((-1) : Int32).toInt ≤ 255 ∧ v10_at.toInt < v10_count.toInt) := (by omega)
    exact ret _ _ _ _ (-1) () dX10_sign_28 hpo hP hD hS
  have c1 := ci_nle c1
  exfalso
  omega
set_option maxHeartbeats 4000000 in
set_option maxRecDepth 100000 in
theorem k_X10_levelOf (l : Launch) (D : va_G) (κ : Nat → ClassId) (β : Nat) (sz : Nat) (p1 : Int32) (i1 : (1 : Int) ≤ 0) : Met l yX10_levelOf wsX10_levelOf ({ frames := 1, cells := 0, slots := 0, locals := 30 } : Room) (PcK D κ β [] sz [.int p1]) (QiK D (fun (r : Int32) (u : Unit) => True) (fun (u : Unit) => []) [] sz) 0 0 (va_A [] sz) := by
  refine ofK_i (cc := cX10_levelOf) (maxL := 1) (own := RX10) (by decide) rfl rfl (Nat.le_of_ble_eq_true rfl) ?_
  intro p e s m args below meth c Q A ls hsz hx hb hml hts hown hK hA hAB hP hD hl ret
  have hS : va_S A s.heap s.heap [] := va_S.rf
  have hl : lv_has ls 1 [(0, .int p1)] := hl
  exfalso
  omega
set_option maxHeartbeats 4000000 in
set_option maxRecDepth 100000 in
theorem k_X10_isDigit (l : Launch) (D : va_G) (κ : Nat → ClassId) (β : Nat) (sz : Nat) (p1 : Int32) : Met l yX10_isDigit wsX10_isDigit ({ frames := 0, cells := 0, slots := 0, locals := 0 } : Room) (PcK D κ β [] sz [.int p1]) (QiK D (fun (r : Int32) (u : Unit) => (r.toInt = 1 ∧ 48 ≤ p1.toInt) ∨ r.toInt = 0) (fun (u : Unit) => []) [] sz) 0 0 (va_A [] sz) := by
  refine ofK_z (cc := cX10_isDigit) (maxL := 1) (own := RX10) (by decide) rfl rfl (Nat.le_of_ble_eq_true rfl) ?_
  intro p e s m args below meth c Q A ls hsz hx hb hml hts hown hK hA hAB hP hD hl ret
  have hS : va_S A s.heap s.heap [] := va_S.rf
  have hl : lv_has ls 1 [(0, .int p1)] := hl
  have l0 : (48 : Int32).toInt = 48 := by decide
  have l1 : (0 : Int32).toInt = 0 := by decide
  have l2 : (57 : Int32).toInt = 57 := by decide
  have l3 : (1 : Int32).toInt = 1 := by decide
  refine lv_bipush (v := 48) hx hb dX10_isDigit_0 (by decide) ?_
  refine lv_iload_n hx hb dX10_isDigit_2 rfl (lv_at hl 0 rfl) ?_
  refine lv_icmp_gt (tgt := 16) hx hb dX10_isDigit_3 (by decide) (fun c1 => ?_) (fun c1 => ?_)
  · have c1 := ci_lt c1
    refine lv_iconst (v := 0) hx hb dX10_isDigit_16 (by decide) ?_
    have hpo : ((0 : Int32).toInt = 1 ∧ 48 ≤ p1.toInt) ∨ (0 : Int32).toInt = 0 := (by omega)
    exact ret _ _ _ _ 0 () dX10_isDigit_17 (by omega) hpo hP hD hS
  have c1 := ci_nlt c1
  refine lv_iload_n hx hb dX10_isDigit_6 rfl (lv_at hl 0 rfl) ?_
  refine lv_bipush (v := 57) hx hb dX10_isDigit_7 (by decide) ?_
  refine lv_icmp_gt (tgt := 16) hx hb dX10_isDigit_9 (by decide) (fun c2 => ?_) (fun c2 => ?_)
  · have c2 := ci_lt c2
    refine lv_iconst (v := 0) hx hb dX10_isDigit_16 (by decide) ?_
    have hpo : ((0 : Int32).toInt = 1 ∧ 48 ≤ p1.toInt) ∨ (0 : Int32).toInt = 0 := (by omega)
    exact ret _ _ _ _ 0 () dX10_isDigit_17 (by omega) hpo hP hD hS
  have c2 := ci_nlt c2
  refine lv_iconst (v := 1) hx hb dX10_isDigit_12 (by decide) ?_
  refine lv_goto (tgt := 17) hx hb dX10_isDigit_13 (by decide) ?_
  have hpo : ((1 : Int32).toInt = 1 ∧ 48 ≤ p1.toInt) ∨ (1 : Int32).toInt = 0 := (by omega)
  exact ret _ _ _ _ 1 () dX10_isDigit_17 (by omega) hpo hP hD hS
set_option maxHeartbeats 4000000 in
set_option maxRecDepth 100000 in
theorem k_X10_takes (l : Launch) (D : va_G) (κ : Nat → ClassId) (β : Nat) (a10 : Nat) (r10 : Nat → Nat) (b10_bytes : Nat) (v10_count : Int32) (v10_at : Int32) (b10_steps : Nat) (v10_size : Int32) (sz : Nat) (p1 : Int32) (i1 : Rg 0 2048 v10_count) (i2 : Rg 0 2048 v10_at) (i3 : Rg 0 4096 v10_size) (i4 : (1 : Int) ≤ 0) : Met l yX10_takes wsX10_takes ({ frames := 1, cells := 0, slots := 0, locals := 30 } : Room) (PcK D κ β [O10 a10 r10 b10_bytes v10_count v10_at b10_steps v10_size] sz [.ref a10, .int p1]) (QiK D (fun (r : Int32) (u : Unit) => r.toInt = 0 ∨ r.toInt = 1) (fun (u : Unit) => [O10 a10 r10 b10_bytes v10_count v10_at b10_steps v10_size]) [O10 a10 r10 b10_bytes v10_count v10_at b10_steps v10_size] sz) 0 0 (va_A [O10 a10 r10 b10_bytes v10_count v10_at b10_steps v10_size] sz) := by
  refine ofK_z (cc := cX10_takes) (maxL := 2) (own := RX10) (by decide) rfl rfl (Nat.le_of_ble_eq_true rfl) ?_
  intro p e s m args below meth c Q A ls hsz hx hb hml hts hown hK hA hAB hP hD hl ret
  have hS : va_S A s.heap s.heap [] := va_S.rf
  have hl : lv_has ls 2 [(0, .ref a10), (1, .int p1)] := hl
  have i1 : 0 ≤ v10_count.toInt ∧ v10_count.toInt ≤ 2048 := i1
  have i2 : 0 ≤ v10_at.toInt ∧ v10_at.toInt ≤ 2048 := i2
  exfalso
  omega
set_option maxHeartbeats 4000000 in
set_option maxRecDepth 100000 in
theorem k_X10_step (l : Launch) (D : va_G) (κ : Nat → ClassId) (β : Nat) (a10 : Nat) (r10 : Nat → Nat) (b10_bytes : Nat) (v10_count : Int32) (v10_at : Int32) (b10_steps : Nat) (v10_size : Int32) (sz : Nat) (p1 : Int32) (i1 : Rg 0 2048 v10_count) (i2 : Rg 0 2048 v10_at) (i3 : Rg 0 4096 v10_size) (i4 : (1 : Int) ≤ 0) : Met l yX10_step wsX10_step ({ frames := 1, cells := 0, slots := 0, locals := 30 } : Room) (PcK D κ β [O10 a10 r10 b10_bytes v10_count v10_at b10_steps v10_size] sz [.ref a10, .int p1]) (QvK D (fun (u : Unit) => True) (fun (u : Unit) => [O10 a10 r10 b10_bytes v10_count v10_at b10_steps v10_size]) [O10 a10 r10 b10_bytes v10_count v10_at b10_steps v10_size] sz) 0 0 (va_A [O10 a10 r10 b10_bytes v10_count v10_at b10_steps v10_size] sz) := by
  refine ofK_v (cc := cX10_step) (maxL := 2) (own := RX10) (by decide) rfl rfl (Nat.le_of_ble_eq_true rfl) ?_
  intro p e s m args below meth c Q A ls hsz hx hb hml hts hown hK hA hAB hP hD hl hname ret
  have hS : va_S A s.heap s.heap [] := va_S.rf
  have hl : lv_has ls 2 [(0, .ref a10), (1, .int p1)] := hl
  have i3 : 0 ≤ v10_size.toInt ∧ v10_size.toInt ≤ 4096 := i3
  exfalso
  omega
set_option maxHeartbeats 4000000 in
set_option maxRecDepth 100000 in
theorem k_X10_readNumber (l : Launch) (D : va_G) (κ : Nat → ClassId) (β : Nat) (a10 : Nat) (r10 : Nat → Nat) (b10_bytes : Nat) (v10_count : Int32) (v10_at : Int32) (b10_steps : Nat) (v10_size : Int32) (sz : Nat) (i1 : Rg 0 2048 v10_count) (i2 : Rg 0 2048 v10_at) (i3 : Rg 0 4096 v10_size) (i4 : (1 : Int) ≤ 0) : Met l yX10_readNumber wsX10_readNumber ({ frames := 1, cells := 0, slots := 0, locals := 30 } : Room) (PcK D κ β [O10 a10 r10 b10_bytes v10_count v10_at b10_steps v10_size] sz [.ref a10]) (QiK D (fun (r : Int32) (u : Unit) => r.toInt = 0 ∨ r.toInt = 1) (fun (u : Unit) => [O10 a10 r10 b10_bytes v10_count v10_at b10_steps v10_size]) [O10 a10 r10 b10_bytes v10_count v10_at b10_steps v10_size] sz) 0 0 (va_A [O10 a10 r10 b10_bytes v10_count v10_at b10_steps v10_size] sz) := by
  refine ofK_z (cc := cX10_readNumber) (maxL := 3) (own := RX10) (by decide) rfl rfl (Nat.le_of_ble_eq_true rfl) ?_
  intro p e s m args below meth c Q A ls hsz hx hb hml hts hown hK hA hAB hP hD hl ret
  have hS : va_S A s.heap s.heap [] := va_S.rf
  have hl : lv_has ls 3 [(0, .ref a10)] := hl
  have i1 : 0 ≤ v10_count.toInt ∧ v10_count.toInt ≤ 2048 := i1
  have i2 : 0 ≤ v10_at.toInt ∧ v10_at.toInt ≤ 2048 := i2
  exfalso
  omega
def C_X10_lv (l : Launch) (D : va_G) (κ : Nat → ClassId) (β d : Nat) : Prop := ∀ (a10 : Nat) (r10 : Nat → Nat) (b10_bytes : Nat) (v10_count : Int32) (v10_at : Int32) (b10_steps : Nat) (v10_size : Int32) (n10_bytes : Nat) (f10_bytes : Nat → Int32) (n10_steps : Nat) (f10_steps : Nat → Int32) (sz : Nat) (p1 : Int32) (p2 : Int32) (i1 : Rg 0 2048 v10_count) (i2 : Rg 0 2048 v10_at) (i3 : Rg 0 4096 v10_size) (hf10_bytes : ∀ j : Nat, -128 ≤ (f10_bytes j).toInt ∧ (f10_bytes j).toInt ≤ 127) (i4 : v10_count.toInt ≤ ((n10_bytes : Nat) : Int)) (i5 : 64 ≤ ((n10_bytes : Nat) : Int) ∧ ((n10_bytes : Nat) : Int) ≤ 4096) (i6 : ((n10_steps : Nat) : Int) ≤ 2049) (i7 : 0 ≤ p1.toInt ∧ p1.toInt ≤ 5 ∧ 0 ≤ p2.toInt ∧ p2.toInt ≤ 6) (i8 : 8 * (6 - p2.toInt) + (6 - p1.toInt) ≤ d) (i9 : v10_count.toInt = 0), Met l yX10_readLevel wsX10_readLevel ({ frames := d + 8, cells := 0, slots := 0, locals := 30 * d + 200 } : Room) (PcK D κ β [O10 a10 r10 b10_bytes v10_count v10_at b10_steps v10_size, (cB κ b10_bytes n10_bytes f10_bytes), (cI κ b10_steps n10_steps f10_steps)] sz [.ref a10, .int p1, .int p2]) (QiK D (fun (r : Int32) (u : Int32 × Int32 × (Nat → Int32)) => (0 ≤ u.1.toInt ∧ u.1.toInt ≤ 2048) ∧ (0 ≤ u.2.1.toInt ∧ u.2.1.toInt ≤ 4096) ∧ (r.toInt = 0) ∧ (u.1.toInt = v10_at.toInt)) (fun (u : Int32 × Int32 × (Nat → Int32)) => [O10 a10 r10 b10_bytes v10_count u.1 b10_steps u.2.1, (cB κ b10_bytes n10_bytes f10_bytes), (cI κ b10_steps n10_steps u.2.2)]) [O10 a10 r10 b10_bytes v10_count v10_at b10_steps v10_size, (cB κ b10_bytes n10_bytes f10_bytes), (cI κ b10_steps n10_steps f10_steps)] sz) 0 0 (va_A [O10 a10 r10 b10_bytes v10_count v10_at b10_steps v10_size, (cB κ b10_bytes n10_bytes f10_bytes), (cI κ b10_steps n10_steps f10_steps)] sz)
def C_X10_op (l : Launch) (D : va_G) (κ : Nat → ClassId) (β d : Nat) : Prop := ∀ (a10 : Nat) (r10 : Nat → Nat) (b10_bytes : Nat) (v10_count : Int32) (v10_at : Int32) (b10_steps : Nat) (v10_size : Int32) (n10_bytes : Nat) (f10_bytes : Nat → Int32) (n10_steps : Nat) (f10_steps : Nat → Int32) (sz : Nat) (p1 : Int32) (i1 : Rg 0 2048 v10_count) (i2 : Rg 0 2048 v10_at) (i3 : Rg 0 4096 v10_size) (hf10_bytes : ∀ j : Nat, -128 ≤ (f10_bytes j).toInt ∧ (f10_bytes j).toInt ≤ 127) (i4 : v10_count.toInt ≤ ((n10_bytes : Nat) : Int)) (i5 : 64 ≤ ((n10_bytes : Nat) : Int) ∧ ((n10_bytes : Nat) : Int) ≤ 4096) (i6 : ((n10_steps : Nat) : Int) ≤ 2049) (i7 : 0 ≤ p1.toInt ∧ p1.toInt ≤ 6) (i8 : 8 * (6 - p1.toInt) ≤ d) (i9 : v10_count.toInt = 0), Met l yX10_readOperand wsX10_readOperand ({ frames := d + 8, cells := 0, slots := 0, locals := 30 * d + 200 } : Room) (PcK D κ β [O10 a10 r10 b10_bytes v10_count v10_at b10_steps v10_size, (cB κ b10_bytes n10_bytes f10_bytes), (cI κ b10_steps n10_steps f10_steps)] sz [.ref a10, .int p1]) (QiK D (fun (r : Int32) (u : Int32 × Int32 × (Nat → Int32)) => (0 ≤ u.1.toInt ∧ u.1.toInt ≤ 2048) ∧ (0 ≤ u.2.1.toInt ∧ u.2.1.toInt ≤ 4096) ∧ (r.toInt = 0) ∧ (u.1.toInt = v10_at.toInt)) (fun (u : Int32 × Int32 × (Nat → Int32)) => [O10 a10 r10 b10_bytes v10_count u.1 b10_steps u.2.1, (cB κ b10_bytes n10_bytes f10_bytes), (cI κ b10_steps n10_steps u.2.2)]) [O10 a10 r10 b10_bytes v10_count v10_at b10_steps v10_size, (cB κ b10_bytes n10_bytes f10_bytes), (cI κ b10_steps n10_steps f10_steps)] sz) 0 0 (va_A [O10 a10 r10 b10_bytes v10_count v10_at b10_steps v10_size, (cB κ b10_bytes n10_bytes f10_bytes), (cI κ b10_steps n10_steps f10_steps)] sz)
set_option maxHeartbeats 4000000 in
set_option maxRecDepth 100000 in
theorem of_X10_lv (l : Launch) (D : va_G) (κ : Nat → ClassId) (β d : Nat) (h_lv : C_X10_lv l D κ β d) (h_op : C_X10_op l D κ β d) : C_X10_lv l D κ β (d + 1) := by
  intro a10 r10 b10_bytes v10_count v10_at b10_steps v10_size n10_bytes f10_bytes n10_steps f10_steps sz p1 p2 i1 i2 i3 hf10_bytes i4 i5 i6 i7 i8 i9
  refine ofK_z (cc := cX10_readLevel) (maxL := 6) (own := RX10) (by decide) rfl rfl (Nat.le_of_ble_eq_true rfl) ?_
  intro p e s m args below meth c Q A ls hsz hx hb hml hts hown hK hA hAB hP hD hl ret
  have hS : va_S A s.heap s.heap [] := va_S.rf
  have hl : lv_has ls 6 [(0, .ref a10), (1, .int p1), (2, .int p2)] := hl
  have l0 : (4 : Int32).toInt = 4 := by decide
  have l1 : (0 : Int32).toInt = 0 := by decide
  have l2 : (1 : Int32).toInt = 1 := by decide
  have i1 : 0 ≤ v10_count.toInt ∧ v10_count.toInt ≤ 2048 := i1
  have i2 : 0 ≤ v10_at.toInt ∧ v10_at.toInt ≤ 2048 := i2
  refine lv_iload_n hx hb dX10_readLevel_0 rfl (lv_at hl 1 rfl) ?_
  refine lv_iconst (v := 4) hx hb dX10_readLevel_1 (by decide) ?_
  refine lv_icmp_le (tgt := 11) hx hb dX10_readLevel_2 (by decide) (fun c1 => ?_) (fun c1 => ?_)
  · have c1 := ci_le c1
    refine lv_aload_n hx hb dX10_readLevel_11 rfl (lv_at hl 0 rfl) ?_
    refine lv_iload_n hx hb dX10_readLevel_12 rfl (lv_at hl 1 rfl) ?_
    refine lv_iconst (v := 1) hx hb dX10_readLevel_13 (by decide) ?_
    refine lv_iadd hx hb dX10_readLevel_14 ?_
    refine lv_topi (fun x2 e3 => ?_)
    try have h4 : x2.toInt = p1.toInt + (1 : Int32).toInt := ci_add e3 (by omega) (by omega)
    refine lv_iload_n hx hb dX10_readLevel_15 rfl (lv_at hl 2 rfl) ?_
    refine kcm_i hA hAB hP hD hS [true, true, true] rfl (fun _ => rfl) (fun hPc hDc => va_runV (As := [.int x2, .int p2]) (rest := []) ⟨hx, hb, hml, hown, hts⟩ (h_lv a10 r10 b10_bytes v10_count v10_at b10_steps v10_size n10_bytes f10_bytes n10_steps f10_steps s.heap.size x2 p2 i1 i2 i3 hf10_bytes i4 i5 i6 (by omega) (by omega) (by omega)) (cwV 2 hts gX10_readLevel_X10_readLevel rfl rfl rfl (by decide +kernel) ⟨by dsimp only; omega, by dsimp only; omega⟩) (pk_V hK hS hAB hPc hDc 0 (ci := 10) rfl rfl rfl) rfl rfl hl.1 rfl (lv_room (Nat.le_of_ble_eq_true rfl)) dX10_readLevel_16 ⟨Nat.le_of_ble_eq_true rfl, Nat.le_of_ble_eq_true rfl⟩) (fun x8 u9 H locs hw hPD hS => ?_)
    obtain ⟨x5, x6, g7⟩ := u9
    obtain ⟨h10, h11, h12, h13⟩ : (0 ≤ x5.toInt ∧ x5.toInt ≤ 2048) ∧ (Rg 0 4096 x6) ∧ (x8.toInt = 0) ∧ (x5.toInt = v10_at.toInt) := hw
    obtain ⟨hP, hD⟩ : PD D A [O10 a10 r10 b10_bytes v10_count x5 b10_steps x6, (cB κ b10_bytes n10_bytes f10_bytes), (cI κ b10_steps n10_steps g7)] H := hPD
    refine lv_if_ne (tgt := 24) hx hb dX10_readLevel_19 (by decide) (fun c14 => ?_) (fun c14 => ?_)
    · have c14 := ci_ne c14
      exfalso
      omega
    have c14 := ci_eq c14
    refine lv_iconst (v := 0) hx hb dX10_readLevel_22 (by decide) ?_
    have hpo : (0 ≤ x5.toInt ∧ x5.toInt ≤ 2048) ∧ (0 ≤ x6.toInt ∧ x6.toInt ≤ 4096) ∧ ((0 : Int32).toInt = 0) ∧ (x5.toInt = v10_at.toInt) := ⟨h10, h11, (by omega), (by omega)⟩
    exact ret _ _ _ _ 0 (x5, x6, g7) dX10_readLevel_23 (by omega) hpo hP hD hS
  have c1 := ci_nle c1
  refine lv_aload_n hx hb dX10_readLevel_5 rfl (lv_at hl 0 rfl) ?_
  refine lv_iload_n hx hb dX10_readLevel_6 rfl (lv_at hl 2 rfl) ?_
  refine kcm_i hA hAB hP hD hS [true, true, true] rfl (fun _ => rfl) (fun hPc hDc => va_runV (As := [.int p2]) (rest := []) ⟨hx, hb, hml, hown, hts⟩ (h_op a10 r10 b10_bytes v10_count v10_at b10_steps v10_size n10_bytes f10_bytes n10_steps f10_steps s.heap.size p2 i1 i2 i3 hf10_bytes i4 i5 i6 (by omega) (by omega) (by omega)) (cwV 1 hts gX10_readLevel_X10_readOperand rfl rfl rfl (by decide +kernel) ⟨by dsimp only; omega, by dsimp only; omega⟩) (pk_V hK hS hAB hPc hDc 0 (ci := 10) rfl rfl rfl) rfl rfl hl.1 rfl (lv_room (Nat.le_of_ble_eq_true rfl)) dX10_readLevel_7 ⟨Nat.le_of_ble_eq_true rfl, Nat.le_of_ble_eq_true rfl⟩) (fun x18 u19 H locs hw hPD hS => ?_)
  obtain ⟨x15, x16, g17⟩ := u19
  obtain ⟨h20, h21, h22, h23⟩ : (0 ≤ x15.toInt ∧ x15.toInt ≤ 2048) ∧ (Rg 0 4096 x16) ∧ (x18.toInt = 0) ∧ (x15.toInt = v10_at.toInt) := hw
  obtain ⟨hP, hD⟩ : PD D A [O10 a10 r10 b10_bytes v10_count x15 b10_steps x16, (cB κ b10_bytes n10_bytes f10_bytes), (cI κ b10_steps n10_steps g17)] H := hPD
  have hpo : (0 ≤ x15.toInt ∧ x15.toInt ≤ 2048) ∧ (0 ≤ x16.toInt ∧ x16.toInt ≤ 4096) ∧ (x18.toInt = 0) ∧ (x15.toInt = v10_at.toInt) := ⟨h20, h21, (by omega), (by omega)⟩
  exact ret _ _ _ _ x18 (x15, x16, g17) dX10_readLevel_10 (by omega) hpo hP hD hS
set_option maxHeartbeats 4000000 in
set_option maxRecDepth 100000 in
theorem of_X10_op (l : Launch) (D : va_G) (κ : Nat → ClassId) (β d : Nat) (h_lv : C_X10_lv l D κ β d) (h_op : C_X10_op l D κ β d) : C_X10_op l D κ β (d + 1) := by
  intro a10 r10 b10_bytes v10_count v10_at b10_steps v10_size n10_bytes f10_bytes n10_steps f10_steps sz p1 i1 i2 i3 hf10_bytes i4 i5 i6 i7 i8 i9
  refine ofK_z (cc := cX10_readOperand) (maxL := 4) (own := RX10) (by decide) rfl rfl (Nat.le_of_ble_eq_true rfl) ?_
  intro p e s m args below meth c Q A ls hsz hx hb hml hts hown hK hA hAB hP hD hl ret
  have hS : va_S A s.heap s.heap [] := va_S.rf
  have hl : lv_has ls 4 [(0, .ref a10), (1, .int p1)] := hl
  have w0 := hts (.fieldLink RX10 29 "OlderSkin$Tape" "at" "I") (List.mem_of_getElem? (i := 1) rfl)
  have w1 := (fun w h => List.mem_cons_of_mem _ (List.mem_append_right _ h) : ∀ w ∈ u_ws RX10 TX10 5, w ∈ wsX10_readOperand)
  have l0 : (0 : Int32).toInt = 0 := by decide
  have l1 : ((-1) : Int32).toInt = -1 := by decide
  have l2 : (6 : Int32).toInt = 6 := by decide
  have l3 : (40 : Int32).toInt = 40 := by decide
  have l4 : (1 : Int32).toInt = 1 := by decide
  have l5 : (33 : Int32).toInt = 33 := by decide
  have l6 : (45 : Int32).toInt = 45 := by decide
  have i1 : 0 ≤ v10_count.toInt ∧ v10_count.toInt ≤ 2048 := i1
  have i2 : 0 ≤ v10_at.toInt ∧ v10_at.toInt ≤ 2048 := i2
  obtain ⟨k9, v9, rk1, rk2, sx⟩ := hK.2.2.2.2.2.1
  have sx : TXT β k9 v9 s := sx
  refine lv_aload_n hx hb dX10_readOperand_0 rfl (lv_at hl 0 rfl) ?_
  refine kcm_i hA hAB hP hD hS [true, false, false] rfl (fun _ => rfl) (fun hPc hDc => va_runV (As := []) (rest := []) ⟨hx, hb, hml, hown, hts⟩ (k_X10_sign l D κ β a10 r10 b10_bytes v10_count v10_at b10_steps v10_size s.heap.size i1 i2 i3 (by omega)) (cwV 0 hts gX10_readOperand_X10_sign rfl rfl rfl (by decide +kernel) ⟨by dsimp only; omega, by dsimp only; omega⟩) (pk_V hK hS hAB hPc hDc 0 (ci := 10) rfl rfl rfl) rfl rfl hl.1 rfl (lv_room (Nat.le_of_ble_eq_true rfl)) dX10_readOperand_1 ⟨Nat.le_of_ble_eq_true rfl, Nat.le_of_ble_eq_true rfl⟩) (fun x1 u2 H locs hw hPD hS => ?_)
  have h3 : (x1.toInt = -1 ∧ v10_count.toInt ≤ v10_at.toInt) ∨ (0 ≤ x1.toInt ∧ x1.toInt ≤ 255 ∧ v10_at.toInt < v10_count.toInt) := hw
  obtain ⟨hP, hD⟩ : PD D A [O10 a10 r10 b10_bytes v10_count v10_at b10_steps v10_size, (cB κ b10_bytes n10_bytes f10_bytes), (cI κ b10_steps n10_steps f10_steps)] H := hPD
  refine lv_istore_n (lv' := [(2, .int x1), (0, .ref a10), (1, .int p1)]) hx hb dX10_readOperand_4 rfl hl (by decide) rfl (fun ls hl => ?_)
  refine lv_iload_n hx hb dX10_readOperand_5 rfl (lv_at hl 0 rfl) ?_
  refine kcm_i hA hAB hP hD hS [false, false, false] rfl (fun _ => rfl) (fun hPc hDc => va_runS (As := [.int x1]) (rest := []) ⟨hx, hb, hml, hown, hts⟩ (k_X10_isDigit l D κ β H.size x1) (va_cwS 1 hts gX10_readOperand_X10_isDigit rfl rfl rfl (by decide +kernel) ⟨by dsimp only; omega, by dsimp only; omega⟩) (pk_S hK hS hAB hPc hDc) rfl rfl hl.1 rfl (lv_room (Nat.le_of_ble_eq_true rfl)) dX10_readOperand_6 ⟨Nat.le_of_ble_eq_true rfl, Nat.le_of_ble_eq_true rfl⟩) (fun x4 u5 H locs hw hPD hS => ?_)
  have h6 : (x4.toInt = 1 ∧ 48 ≤ x1.toInt) ∨ x4.toInt = 0 := hw
  obtain ⟨hP, hD⟩ : PD D A [O10 a10 r10 b10_bytes v10_count v10_at b10_steps v10_size, (cB κ b10_bytes n10_bytes f10_bytes), (cI κ b10_steps n10_steps f10_steps)] H := hPD
  refine lv_if_eq (tgt := 17) hx hb dX10_readOperand_9 (by decide) (fun c7 => ?_) (fun c7 => ?_)
  · have c7 := ci_eq c7
    refine lv_iload_n hx hb dX10_readOperand_17 rfl (lv_at hl 0 rfl) ?_
    refine lv_if_ge (tgt := 25) hx hb dX10_readOperand_18 (by decide) (fun c8 => ?_) (fun c8 => ?_)
    · have c8 := ci_le c8
      exfalso
      omega
    have c8 := ci_nle c8
    refine lv_iconst (v := (-1)) hx hb dX10_readOperand_21 (by decide) ?_
    refine lv_goto (tgt := 32) hx hb dX10_readOperand_22 (by decide) ?_
    refine lv_istore_n (lv' := [(3, .int (-1)), (2, .int x1), (0, .ref a10), (1, .int p1)]) hx hb dX10_readOperand_32 rfl hl (by decide) rfl (fun ls hl => ?_)
    refine lv_iload_n hx hb dX10_readOperand_33 rfl (lv_at hl 0 rfl) ?_
    refine lv_if_lt (tgt := 56) hx hb dX10_readOperand_34 (by decide) (fun c9 => ?_) (fun c9 => ?_)
    · have c9 := ci_lt c9
      refine lv_iload_n hx hb dX10_readOperand_56 rfl (lv_at hl 3 rfl) ?_
      refine lv_bipush (v := 6) hx hb dX10_readOperand_57 (by decide) ?_
      refine lv_icmp_ge (tgt := 80) hx hb dX10_readOperand_59 (by decide) (fun c10 => ?_) (fun c10 => ?_)
      · have c10 := ci_le c10
        refine lv_iconst (v := 0) hx hb dX10_readOperand_80 (by decide) ?_
        have hpo : (0 ≤ v10_at.toInt ∧ v10_at.toInt ≤ 2048) ∧ (0 ≤ v10_size.toInt ∧ v10_size.toInt ≤ 4096) ∧ ((0 : Int32).toInt = 0) ∧ (v10_at.toInt = v10_at.toInt) := ⟨i2, i3, (by omega), (by omega)⟩
        exact ret _ _ _ _ 0 (v10_at, v10_size, f10_steps) dX10_readOperand_81 (by omega) hpo hP hD hS
      have c10 := ci_nle c10
      refine lv_iload_n hx hb dX10_readOperand_62 rfl (lv_at hl 1 rfl) ?_
      refine lv_bipush (v := 40) hx hb dX10_readOperand_63 (by decide) ?_
      refine lv_icmp_eq (tgt := 82) hx hb dX10_readOperand_65 (by decide) (fun c11 => ?_) (fun c11 => ?_)
      · have c11 := ci_eq c11
        refine lv_aload_n hx hb dX10_readOperand_82 rfl (lv_at hl 2 rfl) ?_
        refine lv_dup hx hb dX10_readOperand_83 rfl ?_
        refine va_get (D := D) (ci := 10) (v := .int v10_at) (C := RX10) (T := TX10) (N := 5) hx hb hts w1 hown hK.1 hP 0 rfl rfl 2 (by decide) w0 (fun _ h9 => h9) rfl dX10_readOperand_84 ?_
        refine lv_iconst (v := 1) hx hb dX10_readOperand_87 (by decide) ?_
        refine lv_iadd hx hb dX10_readOperand_88 ?_
        refine lv_topi (fun x12 e13 => ?_)
        try have h14 : x12.toInt = v10_at.toInt + (1 : Int32).toInt := ci_add e13 (by omega) (by omega)
        refine va_put (D := D) (ci := 10) (v := .int x12) (ty := .int) (C := RX10) (T := TX10) (N := 5) hx hb hts w1 tyX10 tyX10_ok nmX10 hown hK.1 hP hD hS 0 rfl rfl 2 (by decide) w0 (fun _ h9 => h9) rfl (by decide +kernel) rfl rfl (Nat.le_of_ble_eq_true rfl) dX10_readOperand_89 (fun H locs hP hD hS => ?_)
        obtain ⟨hP, hD⟩ : PD D A [O10 a10 r10 b10_bytes v10_count x12 b10_steps v10_size, (cB κ b10_bytes n10_bytes f10_bytes), (cI κ b10_steps n10_steps f10_steps)] H := ⟨hP, hD⟩
        have h15 : 0 ≤ x12.toInt ∧ x12.toInt ≤ 2048 := by omega
        refine lv_iload_n hx hb dX10_readOperand_92 rfl (lv_at hl 1 rfl) ?_
        refine lv_bipush (v := 40) hx hb dX10_readOperand_93 (by decide) ?_
        refine lv_icmp_ne (tgt := 124) hx hb dX10_readOperand_95 (by decide) (fun c16 => ?_) (fun c16 => ?_)
        · have c16 := ci_ne c16
          refine lv_aload_n hx hb dX10_readOperand_124 rfl (lv_at hl 2 rfl) ?_
          refine lv_iload_n hx hb dX10_readOperand_125 rfl (lv_at hl 3 rfl) ?_
          refine lv_iconst (v := 1) hx hb dX10_readOperand_126 (by decide) ?_
          refine lv_iadd hx hb dX10_readOperand_127 ?_
          refine lv_topi (fun x17 e18 => ?_)
          try have h19 : x17.toInt = p1.toInt + (1 : Int32).toInt := ci_add e18 (by omega) (by omega)
          refine kcm_i hA hAB hP hD hS [true, true, true] rfl (fun _ => rfl) (fun hPc hDc => va_runV (As := [.int x17]) (rest := []) ⟨hx, hb, hml, hown, hts⟩ (h_op a10 r10 b10_bytes v10_count x12 b10_steps v10_size n10_bytes f10_bytes n10_steps f10_steps H.size x17 i1 h15 i3 hf10_bytes i4 i5 i6 (by omega) (by omega) (by omega)) (cwV 1 hts gX10_readOperand_X10_readOperand rfl rfl rfl (by decide +kernel) ⟨by dsimp only; omega, by dsimp only; omega⟩) (pk_V hK hS hAB hPc hDc 0 (ci := 10) rfl rfl rfl) rfl rfl hl.1 rfl (lv_room (Nat.le_of_ble_eq_true rfl)) dX10_readOperand_128 ⟨Nat.le_of_ble_eq_true rfl, Nat.le_of_ble_eq_true rfl⟩) (fun x23 u24 H locs hw hPD hS => ?_)
          obtain ⟨x20, x21, g22⟩ := u24
          obtain ⟨h25, h26, h27, h28⟩ : (0 ≤ x20.toInt ∧ x20.toInt ≤ 2048) ∧ (Rg 0 4096 x21) ∧ (x23.toInt = 0) ∧ (x20.toInt = x12.toInt) := hw
          obtain ⟨hP, hD⟩ : PD D A [O10 a10 r10 b10_bytes v10_count x20 b10_steps x21, (cB κ b10_bytes n10_bytes f10_bytes), (cI κ b10_steps n10_steps g22)] H := hPD
          refine lv_if_ne (tgt := 136) hx hb dX10_readOperand_131 (by decide) (fun c29 => ?_) (fun c29 => ?_)
          · have c29 := ci_ne c29
            exfalso
            omega
          have c29 := ci_eq c29
          refine lv_iconst (v := 0) hx hb dX10_readOperand_134 (by decide) ?_
          have hpo : (0 ≤ x20.toInt ∧ x20.toInt ≤ 2048) ∧ (0 ≤ x21.toInt ∧ x21.toInt ≤ 4096) ∧ ((0 : Int32).toInt = 0) ∧ (x20.toInt = v10_at.toInt) := ⟨h25, h26, (by omega), (by omega)⟩
          exact ret _ _ _ _ 0 (x20, x21, g22) dX10_readOperand_135 (by omega) hpo hP hD hS
        have c16 := ci_eq c16
        refine lv_aload_n hx hb dX10_readOperand_98 rfl (lv_at hl 2 rfl) ?_
        refine lv_iconst (v := 0) hx hb dX10_readOperand_99 (by decide) ?_
        refine lv_iload_n hx hb dX10_readOperand_100 rfl (lv_at hl 3 rfl) ?_
        refine lv_iconst (v := 1) hx hb dX10_readOperand_101 (by decide) ?_
        refine lv_iadd hx hb dX10_readOperand_102 ?_
        refine lv_topi (fun x30 e31 => ?_)
        try have h32 : x30.toInt = p1.toInt + (1 : Int32).toInt := ci_add e31 (by omega) (by omega)
        refine kcm_i hA hAB hP hD hS [true, true, true] rfl (fun _ => rfl) (fun hPc hDc => va_runV (As := [.int 0, .int x30]) (rest := []) ⟨hx, hb, hml, hown, hts⟩ (h_lv a10 r10 b10_bytes v10_count x12 b10_steps v10_size n10_bytes f10_bytes n10_steps f10_steps H.size 0 x30 i1 h15 i3 hf10_bytes i4 i5 i6 (by omega) (by omega) (by omega)) (cwV 2 hts gX10_readOperand_X10_readLevel rfl rfl rfl (by decide +kernel) ⟨by dsimp only; omega, by dsimp only; omega⟩) (pk_V hK hS hAB hPc hDc 0 (ci := 10) rfl rfl rfl) rfl rfl hl.1 rfl (lv_room (Nat.le_of_ble_eq_true rfl)) dX10_readOperand_103 ⟨Nat.le_of_ble_eq_true rfl, Nat.le_of_ble_eq_true rfl⟩) (fun x36 u37 H locs hw hPD hS => ?_)
        obtain ⟨x33, x34, g35⟩ := u37
        obtain ⟨h38, h39, h40, h41⟩ : (0 ≤ x33.toInt ∧ x33.toInt ≤ 2048) ∧ (Rg 0 4096 x34) ∧ (x36.toInt = 0) ∧ (x33.toInt = x12.toInt) := hw
        obtain ⟨hP, hD⟩ : PD D A [O10 a10 r10 b10_bytes v10_count x33 b10_steps x34, (cB κ b10_bytes n10_bytes f10_bytes), (cI κ b10_steps n10_steps g35)] H := hPD
        refine lv_if_eq (tgt := 122) hx hb dX10_readOperand_106 (by decide) (fun c42 => ?_) (fun c42 => ?_)
        · have c42 := ci_eq c42
          refine lv_iconst (v := 0) hx hb dX10_readOperand_122 (by decide) ?_
          have hpo : (0 ≤ x33.toInt ∧ x33.toInt ≤ 2048) ∧ (0 ≤ x34.toInt ∧ x34.toInt ≤ 4096) ∧ ((0 : Int32).toInt = 0) ∧ (x33.toInt = v10_at.toInt) := ⟨h38, h39, (by omega), (by omega)⟩
          exact ret _ _ _ _ 0 (x33, x34, g35) dX10_readOperand_123 (by omega) hpo hP hD hS
        have c42 := ci_ne c42
        exfalso
        omega
      have c11 := ci_ne c11
      refine lv_iload_n hx hb dX10_readOperand_68 rfl (lv_at hl 1 rfl) ?_
      refine lv_bipush (v := 33) hx hb dX10_readOperand_69 (by decide) ?_
      refine lv_icmp_eq (tgt := 82) hx hb dX10_readOperand_71 (by decide) (fun c43 => ?_) (fun c43 => ?_)
      · have c43 := ci_eq c43
        refine lv_aload_n hx hb dX10_readOperand_82 rfl (lv_at hl 2 rfl) ?_
        refine lv_dup hx hb dX10_readOperand_83 rfl ?_
        refine va_get (D := D) (ci := 10) (v := .int v10_at) (C := RX10) (T := TX10) (N := 5) hx hb hts w1 hown hK.1 hP 0 rfl rfl 2 (by decide) w0 (fun _ h9 => h9) rfl dX10_readOperand_84 ?_
        refine lv_iconst (v := 1) hx hb dX10_readOperand_87 (by decide) ?_
        refine lv_iadd hx hb dX10_readOperand_88 ?_
        refine lv_topi (fun x44 e45 => ?_)
        try have h46 : x44.toInt = v10_at.toInt + (1 : Int32).toInt := ci_add e45 (by omega) (by omega)
        refine va_put (D := D) (ci := 10) (v := .int x44) (ty := .int) (C := RX10) (T := TX10) (N := 5) hx hb hts w1 tyX10 tyX10_ok nmX10 hown hK.1 hP hD hS 0 rfl rfl 2 (by decide) w0 (fun _ h9 => h9) rfl (by decide +kernel) rfl rfl (Nat.le_of_ble_eq_true rfl) dX10_readOperand_89 (fun H locs hP hD hS => ?_)
        obtain ⟨hP, hD⟩ : PD D A [O10 a10 r10 b10_bytes v10_count x44 b10_steps v10_size, (cB κ b10_bytes n10_bytes f10_bytes), (cI κ b10_steps n10_steps f10_steps)] H := ⟨hP, hD⟩
        have h47 : 0 ≤ x44.toInt ∧ x44.toInt ≤ 2048 := by omega
        refine lv_iload_n hx hb dX10_readOperand_92 rfl (lv_at hl 1 rfl) ?_
        refine lv_bipush (v := 40) hx hb dX10_readOperand_93 (by decide) ?_
        refine lv_icmp_ne (tgt := 124) hx hb dX10_readOperand_95 (by decide) (fun c48 => ?_) (fun c48 => ?_)
        · have c48 := ci_ne c48
          refine lv_aload_n hx hb dX10_readOperand_124 rfl (lv_at hl 2 rfl) ?_
          refine lv_iload_n hx hb dX10_readOperand_125 rfl (lv_at hl 3 rfl) ?_
          refine lv_iconst (v := 1) hx hb dX10_readOperand_126 (by decide) ?_
          refine lv_iadd hx hb dX10_readOperand_127 ?_
          refine lv_topi (fun x49 e50 => ?_)
          try have h51 : x49.toInt = p1.toInt + (1 : Int32).toInt := ci_add e50 (by omega) (by omega)
          refine kcm_i hA hAB hP hD hS [true, true, true] rfl (fun _ => rfl) (fun hPc hDc => va_runV (As := [.int x49]) (rest := []) ⟨hx, hb, hml, hown, hts⟩ (h_op a10 r10 b10_bytes v10_count x44 b10_steps v10_size n10_bytes f10_bytes n10_steps f10_steps H.size x49 i1 h47 i3 hf10_bytes i4 i5 i6 (by omega) (by omega) (by omega)) (cwV 1 hts gX10_readOperand_X10_readOperand rfl rfl rfl (by decide +kernel) ⟨by dsimp only; omega, by dsimp only; omega⟩) (pk_V hK hS hAB hPc hDc 0 (ci := 10) rfl rfl rfl) rfl rfl hl.1 rfl (lv_room (Nat.le_of_ble_eq_true rfl)) dX10_readOperand_128 ⟨Nat.le_of_ble_eq_true rfl, Nat.le_of_ble_eq_true rfl⟩) (fun x55 u56 H locs hw hPD hS => ?_)
          obtain ⟨x52, x53, g54⟩ := u56
          obtain ⟨h57, h58, h59, h60⟩ : (0 ≤ x52.toInt ∧ x52.toInt ≤ 2048) ∧ (Rg 0 4096 x53) ∧ (x55.toInt = 0) ∧ (x52.toInt = x44.toInt) := hw
          obtain ⟨hP, hD⟩ : PD D A [O10 a10 r10 b10_bytes v10_count x52 b10_steps x53, (cB κ b10_bytes n10_bytes f10_bytes), (cI κ b10_steps n10_steps g54)] H := hPD
          refine lv_if_ne (tgt := 136) hx hb dX10_readOperand_131 (by decide) (fun c61 => ?_) (fun c61 => ?_)
          · have c61 := ci_ne c61
            exfalso
            omega
          have c61 := ci_eq c61
          refine lv_iconst (v := 0) hx hb dX10_readOperand_134 (by decide) ?_
          have hpo : (0 ≤ x52.toInt ∧ x52.toInt ≤ 2048) ∧ (0 ≤ x53.toInt ∧ x53.toInt ≤ 4096) ∧ ((0 : Int32).toInt = 0) ∧ (x52.toInt = v10_at.toInt) := ⟨h57, h58, (by omega), (by omega)⟩
          exact ret _ _ _ _ 0 (x52, x53, g54) dX10_readOperand_135 (by omega) hpo hP hD hS
        have c48 := ci_eq c48
        refine lv_aload_n hx hb dX10_readOperand_98 rfl (lv_at hl 2 rfl) ?_
        refine lv_iconst (v := 0) hx hb dX10_readOperand_99 (by decide) ?_
        refine lv_iload_n hx hb dX10_readOperand_100 rfl (lv_at hl 3 rfl) ?_
        refine lv_iconst (v := 1) hx hb dX10_readOperand_101 (by decide) ?_
        refine lv_iadd hx hb dX10_readOperand_102 ?_
        refine lv_topi (fun x62 e63 => ?_)
        try have h64 : x62.toInt = p1.toInt + (1 : Int32).toInt := ci_add e63 (by omega) (by omega)
        refine kcm_i hA hAB hP hD hS [true, true, true] rfl (fun _ => rfl) (fun hPc hDc => va_runV (As := [.int 0, .int x62]) (rest := []) ⟨hx, hb, hml, hown, hts⟩ (h_lv a10 r10 b10_bytes v10_count x44 b10_steps v10_size n10_bytes f10_bytes n10_steps f10_steps H.size 0 x62 i1 h47 i3 hf10_bytes i4 i5 i6 (by omega) (by omega) (by omega)) (cwV 2 hts gX10_readOperand_X10_readLevel rfl rfl rfl (by decide +kernel) ⟨by dsimp only; omega, by dsimp only; omega⟩) (pk_V hK hS hAB hPc hDc 0 (ci := 10) rfl rfl rfl) rfl rfl hl.1 rfl (lv_room (Nat.le_of_ble_eq_true rfl)) dX10_readOperand_103 ⟨Nat.le_of_ble_eq_true rfl, Nat.le_of_ble_eq_true rfl⟩) (fun x68 u69 H locs hw hPD hS => ?_)
        obtain ⟨x65, x66, g67⟩ := u69
        obtain ⟨h70, h71, h72, h73⟩ : (0 ≤ x65.toInt ∧ x65.toInt ≤ 2048) ∧ (Rg 0 4096 x66) ∧ (x68.toInt = 0) ∧ (x65.toInt = x44.toInt) := hw
        obtain ⟨hP, hD⟩ : PD D A [O10 a10 r10 b10_bytes v10_count x65 b10_steps x66, (cB κ b10_bytes n10_bytes f10_bytes), (cI κ b10_steps n10_steps g67)] H := hPD
        refine lv_if_eq (tgt := 122) hx hb dX10_readOperand_106 (by decide) (fun c74 => ?_) (fun c74 => ?_)
        · have c74 := ci_eq c74
          refine lv_iconst (v := 0) hx hb dX10_readOperand_122 (by decide) ?_
          have hpo : (0 ≤ x65.toInt ∧ x65.toInt ≤ 2048) ∧ (0 ≤ x66.toInt ∧ x66.toInt ≤ 4096) ∧ ((0 : Int32).toInt = 0) ∧ (x65.toInt = v10_at.toInt) := ⟨h70, h71, (by omega), (by omega)⟩
          exact ret _ _ _ _ 0 (x65, x66, g67) dX10_readOperand_123 (by omega) hpo hP hD hS
        have c74 := ci_ne c74
        exfalso
        omega
      have c43 := ci_ne c43
      refine lv_iload_n hx hb dX10_readOperand_74 rfl (lv_at hl 1 rfl) ?_
      refine lv_bipush (v := 45) hx hb dX10_readOperand_75 (by decide) ?_
      refine lv_icmp_eq (tgt := 82) hx hb dX10_readOperand_77 (by decide) (fun c75 => ?_) (fun c75 => ?_)
      · have c75 := ci_eq c75
        refine lv_aload_n hx hb dX10_readOperand_82 rfl (lv_at hl 2 rfl) ?_
        refine lv_dup hx hb dX10_readOperand_83 rfl ?_
        refine va_get (D := D) (ci := 10) (v := .int v10_at) (C := RX10) (T := TX10) (N := 5) hx hb hts w1 hown hK.1 hP 0 rfl rfl 2 (by decide) w0 (fun _ h9 => h9) rfl dX10_readOperand_84 ?_
        refine lv_iconst (v := 1) hx hb dX10_readOperand_87 (by decide) ?_
        refine lv_iadd hx hb dX10_readOperand_88 ?_
        refine lv_topi (fun x76 e77 => ?_)
        try have h78 : x76.toInt = v10_at.toInt + (1 : Int32).toInt := ci_add e77 (by omega) (by omega)
        refine va_put (D := D) (ci := 10) (v := .int x76) (ty := .int) (C := RX10) (T := TX10) (N := 5) hx hb hts w1 tyX10 tyX10_ok nmX10 hown hK.1 hP hD hS 0 rfl rfl 2 (by decide) w0 (fun _ h9 => h9) rfl (by decide +kernel) rfl rfl (Nat.le_of_ble_eq_true rfl) dX10_readOperand_89 (fun H locs hP hD hS => ?_)
        obtain ⟨hP, hD⟩ : PD D A [O10 a10 r10 b10_bytes v10_count x76 b10_steps v10_size, (cB κ b10_bytes n10_bytes f10_bytes), (cI κ b10_steps n10_steps f10_steps)] H := ⟨hP, hD⟩
        have h79 : 0 ≤ x76.toInt ∧ x76.toInt ≤ 2048 := by omega
        refine lv_iload_n hx hb dX10_readOperand_92 rfl (lv_at hl 1 rfl) ?_
        refine lv_bipush (v := 40) hx hb dX10_readOperand_93 (by decide) ?_
        refine lv_icmp_ne (tgt := 124) hx hb dX10_readOperand_95 (by decide) (fun c80 => ?_) (fun c80 => ?_)
        · have c80 := ci_ne c80
          refine lv_aload_n hx hb dX10_readOperand_124 rfl (lv_at hl 2 rfl) ?_
          refine lv_iload_n hx hb dX10_readOperand_125 rfl (lv_at hl 3 rfl) ?_
          refine lv_iconst (v := 1) hx hb dX10_readOperand_126 (by decide) ?_
          refine lv_iadd hx hb dX10_readOperand_127 ?_
          refine lv_topi (fun x81 e82 => ?_)
          try have h83 : x81.toInt = p1.toInt + (1 : Int32).toInt := ci_add e82 (by omega) (by omega)
          refine kcm_i hA hAB hP hD hS [true, true, true] rfl (fun _ => rfl) (fun hPc hDc => va_runV (As := [.int x81]) (rest := []) ⟨hx, hb, hml, hown, hts⟩ (h_op a10 r10 b10_bytes v10_count x76 b10_steps v10_size n10_bytes f10_bytes n10_steps f10_steps H.size x81 i1 h79 i3 hf10_bytes i4 i5 i6 (by omega) (by omega) (by omega)) (cwV 1 hts gX10_readOperand_X10_readOperand rfl rfl rfl (by decide +kernel) ⟨by dsimp only; omega, by dsimp only; omega⟩) (pk_V hK hS hAB hPc hDc 0 (ci := 10) rfl rfl rfl) rfl rfl hl.1 rfl (lv_room (Nat.le_of_ble_eq_true rfl)) dX10_readOperand_128 ⟨Nat.le_of_ble_eq_true rfl, Nat.le_of_ble_eq_true rfl⟩) (fun x87 u88 H locs hw hPD hS => ?_)
          obtain ⟨x84, x85, g86⟩ := u88
          obtain ⟨h89, h90, h91, h92⟩ : (0 ≤ x84.toInt ∧ x84.toInt ≤ 2048) ∧ (Rg 0 4096 x85) ∧ (x87.toInt = 0) ∧ (x84.toInt = x76.toInt) := hw
          obtain ⟨hP, hD⟩ : PD D A [O10 a10 r10 b10_bytes v10_count x84 b10_steps x85, (cB κ b10_bytes n10_bytes f10_bytes), (cI κ b10_steps n10_steps g86)] H := hPD
          refine lv_if_ne (tgt := 136) hx hb dX10_readOperand_131 (by decide) (fun c93 => ?_) (fun c93 => ?_)
          · have c93 := ci_ne c93
            exfalso
            omega
          have c93 := ci_eq c93
          refine lv_iconst (v := 0) hx hb dX10_readOperand_134 (by decide) ?_
          have hpo : (0 ≤ x84.toInt ∧ x84.toInt ≤ 2048) ∧ (0 ≤ x85.toInt ∧ x85.toInt ≤ 4096) ∧ ((0 : Int32).toInt = 0) ∧ (x84.toInt = v10_at.toInt) := ⟨h89, h90, (by omega), (by omega)⟩
          exact ret _ _ _ _ 0 (x84, x85, g86) dX10_readOperand_135 (by omega) hpo hP hD hS
        have c80 := ci_eq c80
        refine lv_aload_n hx hb dX10_readOperand_98 rfl (lv_at hl 2 rfl) ?_
        refine lv_iconst (v := 0) hx hb dX10_readOperand_99 (by decide) ?_
        refine lv_iload_n hx hb dX10_readOperand_100 rfl (lv_at hl 3 rfl) ?_
        refine lv_iconst (v := 1) hx hb dX10_readOperand_101 (by decide) ?_
        refine lv_iadd hx hb dX10_readOperand_102 ?_
        refine lv_topi (fun x94 e95 => ?_)
        try have h96 : x94.toInt = p1.toInt + (1 : Int32).toInt := ci_add e95 (by omega) (by omega)
        refine kcm_i hA hAB hP hD hS [true, true, true] rfl (fun _ => rfl) (fun hPc hDc => va_runV (As := [.int 0, .int x94]) (rest := []) ⟨hx, hb, hml, hown, hts⟩ (h_lv a10 r10 b10_bytes v10_count x76 b10_steps v10_size n10_bytes f10_bytes n10_steps f10_steps H.size 0 x94 i1 h79 i3 hf10_bytes i4 i5 i6 (by omega) (by omega) (by omega)) (cwV 2 hts gX10_readOperand_X10_readLevel rfl rfl rfl (by decide +kernel) ⟨by dsimp only; omega, by dsimp only; omega⟩) (pk_V hK hS hAB hPc hDc 0 (ci := 10) rfl rfl rfl) rfl rfl hl.1 rfl (lv_room (Nat.le_of_ble_eq_true rfl)) dX10_readOperand_103 ⟨Nat.le_of_ble_eq_true rfl, Nat.le_of_ble_eq_true rfl⟩) (fun x100 u101 H locs hw hPD hS => ?_)
        obtain ⟨x97, x98, g99⟩ := u101
        obtain ⟨h102, h103, h104, h105⟩ : (0 ≤ x97.toInt ∧ x97.toInt ≤ 2048) ∧ (Rg 0 4096 x98) ∧ (x100.toInt = 0) ∧ (x97.toInt = x76.toInt) := hw
        obtain ⟨hP, hD⟩ : PD D A [O10 a10 r10 b10_bytes v10_count x97 b10_steps x98, (cB κ b10_bytes n10_bytes f10_bytes), (cI κ b10_steps n10_steps g99)] H := hPD
        refine lv_if_eq (tgt := 122) hx hb dX10_readOperand_106 (by decide) (fun c106 => ?_) (fun c106 => ?_)
        · have c106 := ci_eq c106
          refine lv_iconst (v := 0) hx hb dX10_readOperand_122 (by decide) ?_
          have hpo : (0 ≤ x97.toInt ∧ x97.toInt ≤ 2048) ∧ (0 ≤ x98.toInt ∧ x98.toInt ≤ 4096) ∧ ((0 : Int32).toInt = 0) ∧ (x97.toInt = v10_at.toInt) := ⟨h102, h103, (by omega), (by omega)⟩
          exact ret _ _ _ _ 0 (x97, x98, g99) dX10_readOperand_123 (by omega) hpo hP hD hS
        have c106 := ci_ne c106
        exfalso
        omega
      have c75 := ci_ne c75
      refine lv_iconst (v := 0) hx hb dX10_readOperand_80 (by decide) ?_
      have hpo : (0 ≤ v10_at.toInt ∧ v10_at.toInt ≤ 2048) ∧ (0 ≤ v10_size.toInt ∧ v10_size.toInt ≤ 4096) ∧ ((0 : Int32).toInt = 0) ∧ (v10_at.toInt = v10_at.toInt) := ⟨i2, i3, (by omega), (by omega)⟩
      exact ret _ _ _ _ 0 (v10_at, v10_size, f10_steps) dX10_readOperand_81 (by omega) hpo hP hD hS
    have c9 := ci_nlt c9
    exfalso
    omega
  have c7 := ci_ne c7
  exfalso
  omega
set_option maxHeartbeats 4000000 in
set_option maxRecDepth 100000 in
theorem of_X10_op0 (l : Launch) (D : va_G) (κ : Nat → ClassId) (β : Nat) : C_X10_op l D κ β 0 := by
  intro a10 r10 b10_bytes v10_count v10_at b10_steps v10_size n10_bytes f10_bytes n10_steps f10_steps sz p1 i1 i2 i3 hf10_bytes i4 i5 i6 i7 i8 i9
  refine ofK_z (cc := cX10_readOperand) (maxL := 4) (own := RX10) (by decide) rfl rfl (Nat.le_of_ble_eq_true rfl) ?_
  intro p e s m args below meth c Q A ls hsz hx hb hml hts hown hK hA hAB hP hD hl ret
  have hS : va_S A s.heap s.heap [] := va_S.rf
  have hl : lv_has ls 4 [(0, .ref a10), (1, .int p1)] := hl
  have l0 : (0 : Int32).toInt = 0 := by decide
  have l1 : ((-1) : Int32).toInt = -1 := by decide
  have l2 : (6 : Int32).toInt = 6 := by decide
  have i1 : 0 ≤ v10_count.toInt ∧ v10_count.toInt ≤ 2048 := i1
  have i2 : 0 ≤ v10_at.toInt ∧ v10_at.toInt ≤ 2048 := i2
  obtain ⟨k9, v9, rk1, rk2, sx⟩ := hK.2.2.2.2.2.1
  have sx : TXT β k9 v9 s := sx
  refine lv_aload_n hx hb dX10_readOperand_0 rfl (lv_at hl 0 rfl) ?_
  refine kcm_i hA hAB hP hD hS [true, false, false] rfl (fun _ => rfl) (fun hPc hDc => va_runV (As := []) (rest := []) ⟨hx, hb, hml, hown, hts⟩ (k_X10_sign l D κ β a10 r10 b10_bytes v10_count v10_at b10_steps v10_size s.heap.size i1 i2 i3 (by omega)) (cwV 0 hts gX10_readOperand_X10_sign rfl rfl rfl (by decide +kernel) ⟨by dsimp only; omega, by dsimp only; omega⟩) (pk_V hK hS hAB hPc hDc 0 (ci := 10) rfl rfl rfl) rfl rfl hl.1 rfl (lv_room (Nat.le_of_ble_eq_true rfl)) dX10_readOperand_1 ⟨Nat.le_of_ble_eq_true rfl, Nat.le_of_ble_eq_true rfl⟩) (fun x1 u2 H locs hw hPD hS => ?_)
  have h3 : (x1.toInt = -1 ∧ v10_count.toInt ≤ v10_at.toInt) ∨ (0 ≤ x1.toInt ∧ x1.toInt ≤ 255 ∧ v10_at.toInt < v10_count.toInt) := hw
  obtain ⟨hP, hD⟩ : PD D A [O10 a10 r10 b10_bytes v10_count v10_at b10_steps v10_size, (cB κ b10_bytes n10_bytes f10_bytes), (cI κ b10_steps n10_steps f10_steps)] H := hPD
  refine lv_istore_n (lv' := [(2, .int x1), (0, .ref a10), (1, .int p1)]) hx hb dX10_readOperand_4 rfl hl (by decide) rfl (fun ls hl => ?_)
  refine lv_iload_n hx hb dX10_readOperand_5 rfl (lv_at hl 0 rfl) ?_
  refine kcm_i hA hAB hP hD hS [false, false, false] rfl (fun _ => rfl) (fun hPc hDc => va_runS (As := [.int x1]) (rest := []) ⟨hx, hb, hml, hown, hts⟩ (k_X10_isDigit l D κ β H.size x1) (va_cwS 1 hts gX10_readOperand_X10_isDigit rfl rfl rfl (by decide +kernel) ⟨by dsimp only; omega, by dsimp only; omega⟩) (pk_S hK hS hAB hPc hDc) rfl rfl hl.1 rfl (lv_room (Nat.le_of_ble_eq_true rfl)) dX10_readOperand_6 ⟨Nat.le_of_ble_eq_true rfl, Nat.le_of_ble_eq_true rfl⟩) (fun x4 u5 H locs hw hPD hS => ?_)
  have h6 : (x4.toInt = 1 ∧ 48 ≤ x1.toInt) ∨ x4.toInt = 0 := hw
  obtain ⟨hP, hD⟩ : PD D A [O10 a10 r10 b10_bytes v10_count v10_at b10_steps v10_size, (cB κ b10_bytes n10_bytes f10_bytes), (cI κ b10_steps n10_steps f10_steps)] H := hPD
  refine lv_if_eq (tgt := 17) hx hb dX10_readOperand_9 (by decide) (fun c7 => ?_) (fun c7 => ?_)
  · have c7 := ci_eq c7
    refine lv_iload_n hx hb dX10_readOperand_17 rfl (lv_at hl 0 rfl) ?_
    refine lv_if_ge (tgt := 25) hx hb dX10_readOperand_18 (by decide) (fun c8 => ?_) (fun c8 => ?_)
    · have c8 := ci_le c8
      exfalso
      omega
    have c8 := ci_nle c8
    refine lv_iconst (v := (-1)) hx hb dX10_readOperand_21 (by decide) ?_
    refine lv_goto (tgt := 32) hx hb dX10_readOperand_22 (by decide) ?_
    refine lv_istore_n (lv' := [(3, .int (-1)), (2, .int x1), (0, .ref a10), (1, .int p1)]) hx hb dX10_readOperand_32 rfl hl (by decide) rfl (fun ls hl => ?_)
    refine lv_iload_n hx hb dX10_readOperand_33 rfl (lv_at hl 0 rfl) ?_
    refine lv_if_lt (tgt := 56) hx hb dX10_readOperand_34 (by decide) (fun c9 => ?_) (fun c9 => ?_)
    · have c9 := ci_lt c9
      refine lv_iload_n hx hb dX10_readOperand_56 rfl (lv_at hl 3 rfl) ?_
      refine lv_bipush (v := 6) hx hb dX10_readOperand_57 (by decide) ?_
      refine lv_icmp_ge (tgt := 80) hx hb dX10_readOperand_59 (by decide) (fun c10 => ?_) (fun c10 => ?_)
      · have c10 := ci_le c10
        refine lv_iconst (v := 0) hx hb dX10_readOperand_80 (by decide) ?_
        have hpo : (0 ≤ v10_at.toInt ∧ v10_at.toInt ≤ 2048) ∧ (0 ≤ v10_size.toInt ∧ v10_size.toInt ≤ 4096) ∧ ((0 : Int32).toInt = 0) ∧ (v10_at.toInt = v10_at.toInt) := ⟨i2, i3, (by omega), (by omega)⟩
        exact ret _ _ _ _ 0 (v10_at, v10_size, f10_steps) dX10_readOperand_81 (by omega) hpo hP hD hS
      have c10 := ci_nle c10
      exfalso
      omega
    have c9 := ci_nlt c9
    exfalso
    omega
  have c7 := ci_ne c7
  exfalso
  omega
theorem k_X10_both (l : Launch) (D : va_G) (κ : Nat → ClassId) (β : Nat) : ∀ d : Nat, C_X10_lv l D κ β d ∧ C_X10_op l D κ β d
  | 0 => ⟨by
      intro a10 r10 b10_bytes v10_count v10_at b10_steps v10_size n10_bytes f10_bytes n10_steps f10_steps sz p1 p2 i1 i2 i3 hf10_bytes i4 i5 i6 i7 i8 i9
      exfalso
      omega, of_X10_op0 l D κ β⟩
  | d + 1 => ⟨of_X10_lv l D κ β d (k_X10_both l D κ β d).1 (k_X10_both l D κ β d).2, of_X10_op l D κ β d (k_X10_both l D κ β d).1 (k_X10_both l D κ β d).2⟩
set_option maxHeartbeats 4000000 in
set_option maxRecDepth 100000 in
theorem k_X10_readLine (l : Launch) (D : va_G) (κ : Nat → ClassId) (β : Nat) (a10 : Nat) (r10 : Nat → Nat) (b10_bytes : Nat) (v10_count : Int32) (v10_at : Int32) (b10_steps : Nat) (v10_size : Int32) (n10_bytes : Nat) (f10_bytes : Nat → Int32) (n10_steps : Nat) (f10_steps : Nat → Int32) (sz : Nat) (i1 : Rg 0 2048 v10_count) (i2 : Rg 0 2048 v10_at) (i3 : Rg 0 4096 v10_size) (hf10_bytes : ∀ j : Nat, -128 ≤ (f10_bytes j).toInt ∧ (f10_bytes j).toInt ≤ 127) (i4 : v10_count.toInt ≤ ((n10_bytes : Nat) : Int)) (i5 : 64 ≤ ((n10_bytes : Nat) : Int) ∧ ((n10_bytes : Nat) : Int) ≤ 4096) (i6 : ((n10_steps : Nat) : Int) ≤ 2049) (i7 : v10_at.toInt = 0) (i8 : v10_count.toInt = 0) : Met l yX10_readLine wsX10_readLine ({ frames := 63, cells := 0, slots := 0, locals := 1845 } : Room) (PcK D κ β [O10 a10 r10 b10_bytes v10_count v10_at b10_steps v10_size, (cB κ b10_bytes n10_bytes f10_bytes), (cI κ b10_steps n10_steps f10_steps)] sz [.ref a10]) (QiK D (fun (r : Int32) (u : Int32 × Int32 × (Nat → Int32)) => (0 ≤ u.1.toInt ∧ u.1.toInt ≤ 2048) ∧ (0 ≤ u.2.1.toInt ∧ u.2.1.toInt ≤ 4096) ∧ (r.toInt = 0) ∧ (u.1.toInt = 0)) (fun (u : Int32 × Int32 × (Nat → Int32)) => [O10 a10 r10 b10_bytes v10_count u.1 b10_steps u.2.1, (cB κ b10_bytes n10_bytes f10_bytes), (cI κ b10_steps n10_steps u.2.2)]) [O10 a10 r10 b10_bytes v10_count v10_at b10_steps v10_size, (cB κ b10_bytes n10_bytes f10_bytes), (cI κ b10_steps n10_steps f10_steps)] sz) 0 0 (va_A [O10 a10 r10 b10_bytes v10_count v10_at b10_steps v10_size, (cB κ b10_bytes n10_bytes f10_bytes), (cI κ b10_steps n10_steps f10_steps)] sz) := by
  refine ofK_z (cc := cX10_readLine) (maxL := 1) (own := RX10) (by decide) rfl rfl (Nat.le_of_ble_eq_true rfl) ?_
  intro p e s m args below meth c Q A ls hsz hx hb hml hts hown hK hA hAB hP hD hl ret
  have hS : va_S A s.heap s.heap [] := va_S.rf
  have hl : lv_has ls 1 [(0, .ref a10)] := hl
  have l0 : (0 : Int32).toInt = 0 := by decide
  have i2 : 0 ≤ v10_at.toInt ∧ v10_at.toInt ≤ 2048 := i2
  refine lv_aload_n hx hb dX10_readLine_0 rfl (lv_at hl 0 rfl) ?_
  refine lv_iconst (v := 0) hx hb dX10_readLine_1 (by decide) ?_
  refine lv_iconst (v := 0) hx hb dX10_readLine_2 (by decide) ?_
  refine kcm_i hA hAB hP hD hS [true, true, true] rfl (fun _ => rfl) (fun hPc hDc => va_runV (As := [.int 0, .int 0]) (rest := []) ⟨hx, hb, hml, hown, hts⟩ ((k_X10_both l D κ β 54).1 a10 r10 b10_bytes v10_count v10_at b10_steps v10_size n10_bytes f10_bytes n10_steps f10_steps s.heap.size 0 0 i1 i2 i3 hf10_bytes i4 i5 i6 (by omega) (by omega) (by omega)) (cwV 2 hts gX10_readLine_X10_readLevel rfl rfl rfl (by decide +kernel) ⟨Nat.le_of_ble_eq_true rfl, Nat.le_of_ble_eq_true rfl⟩) (pk_V hK hS hAB hPc hDc 0 (ci := 10) rfl rfl rfl) rfl rfl hl.1 rfl (lv_room (Nat.le_of_ble_eq_true rfl)) dX10_readLine_3 ⟨Nat.le_of_ble_eq_true rfl, Nat.le_of_ble_eq_true rfl⟩) (fun x4 u5 H locs hw hPD hS => ?_)
  obtain ⟨x1, x2, g3⟩ := u5
  obtain ⟨h6, h7, h8, h9⟩ : (0 ≤ x1.toInt ∧ x1.toInt ≤ 2048) ∧ (Rg 0 4096 x2) ∧ (x4.toInt = 0) ∧ (x1.toInt = v10_at.toInt) := hw
  obtain ⟨hP, hD⟩ : PD D A [O10 a10 r10 b10_bytes v10_count x1 b10_steps x2, (cB κ b10_bytes n10_bytes f10_bytes), (cI κ b10_steps n10_steps g3)] H := hPD
  refine lv_if_ne (tgt := 11) hx hb dX10_readLine_6 (by decide) (fun c10 => ?_) (fun c10 => ?_)
  · have c10 := ci_ne c10
    exfalso
    omega
  have c10 := ci_eq c10
  refine lv_iconst (v := 0) hx hb dX10_readLine_9 (by decide) ?_
  have hpo : (0 ≤ x1.toInt ∧ x1.toInt ≤ 2048) ∧ (0 ≤ x2.toInt ∧ x2.toInt ≤ 4096) ∧ ((0 : Int32).toInt = 0) ∧ (x1.toInt = 0) := ⟨h6, h7, (by omega), (by omega)⟩
  exact ret _ _ _ _ 0 (x1, x2, g3) dX10_readLine_10 (by omega) hpo hP hD hS
set_option maxHeartbeats 4000000 in
set_option maxRecDepth 100000 in
theorem k_X10_read (l : Launch) (D : va_G) (κ : Nat → ClassId) (β : Nat) (a10 : Nat) (r10 : Nat → Nat) (b10_bytes : Nat) (v10_count : Int32) (v10_at : Int32) (b10_steps : Nat) (v10_size : Int32) (n10_bytes : Nat) (f10_bytes : Nat → Int32) (sz : Nat) (i1 : Rg 0 2048 v10_count) (i2 : Rg 0 2048 v10_at) (i3 : Rg 0 4096 v10_size) (hf10_bytes : ∀ j : Nat, -128 ≤ (f10_bytes j).toInt ∧ (f10_bytes j).toInt ≤ 127) (i4 : v10_count.toInt ≤ ((n10_bytes : Nat) : Int)) (i5 : 64 ≤ ((n10_bytes : Nat) : Int) ∧ ((n10_bytes : Nat) : Int) ≤ 4096) (i6 : v10_count.toInt = 0) : Met l yX10_read wsX10_read ({ frames := 64, cells := 1, slots := 2049, locals := 1865 } : Room) (PcK D κ β [O10 a10 r10 b10_bytes v10_count v10_at b10_steps v10_size, (cB κ b10_bytes n10_bytes f10_bytes)] sz [.ref a10]) (QiK D (fun (r : Int32) (u : Int32 × Nat × Int32 × Nat × (Nat → Int32)) => (0 ≤ u.1.toInt ∧ u.1.toInt ≤ 2048) ∧ (0 ≤ u.2.2.1.toInt ∧ u.2.2.1.toInt ≤ 4096) ∧ (u.2.2.2.1 ≤ 2049) ∧ (r.toInt = 0) ∧ (u.1.toInt = 0)) (fun (u : Int32 × Nat × Int32 × Nat × (Nat → Int32)) => [O10 a10 r10 b10_bytes v10_count u.1 u.2.1 u.2.2.1, (cB κ b10_bytes n10_bytes f10_bytes), (cI κ u.2.1 u.2.2.2.1 u.2.2.2.2)]) [O10 a10 r10 b10_bytes v10_count v10_at b10_steps v10_size, (cB κ b10_bytes n10_bytes f10_bytes)] sz) 1 2049 (va_A [O10 a10 r10 b10_bytes v10_count v10_at b10_steps v10_size, (cB κ b10_bytes n10_bytes f10_bytes)] sz) := by
  refine ofK_z (cc := cX10_read) (maxL := 2) (own := RX10) (by decide) rfl rfl (Nat.le_of_ble_eq_true rfl) ?_
  intro p e s m args below meth c Q A ls hsz hx hb hml hts hown hK hA hAB hP hD hl ret
  have hS : va_S A s.heap s.heap [] := va_S.rf
  have hl : lv_has ls 2 [(0, .ref a10)] := hl
  have w0 := hts (.fieldLink RX10 29 "OlderSkin$Tape" "at" "I") (List.mem_of_getElem? (i := 1) rfl)
  have w1 := (fun w h => List.mem_cons_of_mem _ (List.mem_append_right _ h) : ∀ w ∈ u_ws RX10 TX10 5, w ∈ wsX10_read)
  have w2 := hts (.fieldLink RX10 32 "OlderSkin$Tape" "size" "I") (List.mem_of_getElem? (i := 2) rfl)
  have w3 := hts (.fieldLink RX10 19 "OlderSkin$Tape" "count" "I") (List.mem_of_getElem? (i := 3) rfl)
  have w4 := hts (.arrayClass .int) (List.mem_of_getElem? (i := 4) rfl)
  have w5 := hts (.fieldLink RX10 15 "OlderSkin$Tape" "steps" "[I") (List.mem_of_getElem? (i := 5) rfl)
  have l0 : (0 : Int32).toInt = 0 := by decide
  have l1 : (1 : Int32).toInt = 1 := by decide
  have i1 : 0 ≤ v10_count.toInt ∧ v10_count.toInt ≤ 2048 := i1
  have i2 : 0 ≤ v10_at.toInt ∧ v10_at.toInt ≤ 2048 := i2
  have i3 : 0 ≤ v10_size.toInt ∧ v10_size.toInt ≤ 4096 := i3
  refine lv_aload_n hx hb dX10_read_0 rfl (lv_at hl 0 rfl) ?_
  refine lv_iconst (v := 0) hx hb dX10_read_1 (by decide) ?_
  refine va_put (D := D) (ci := 10) (v := .int 0) (ty := .int) (C := RX10) (T := TX10) (N := 5) hx hb hts w1 tyX10 tyX10_ok nmX10 hown hK.1 hP hD hS 0 rfl rfl 2 (by decide) w0 (fun _ h9 => h9) rfl (by decide +kernel) rfl rfl (Nat.le_of_ble_eq_true rfl) dX10_read_2 (fun H locs hP hD hS => ?_)
  obtain ⟨hP, hD⟩ : PD D A [O10 a10 r10 b10_bytes v10_count 0 b10_steps v10_size, (cB κ b10_bytes n10_bytes f10_bytes)] H := ⟨hP, hD⟩
  have h1 : 0 ≤ (0 : Int32).toInt ∧ (0 : Int32).toInt ≤ 2048 := by omega
  refine lv_aload_n hx hb dX10_read_5 rfl (lv_at hl 0 rfl) ?_
  refine lv_iconst (v := 0) hx hb dX10_read_6 (by decide) ?_
  refine va_put (D := D) (ci := 10) (v := .int 0) (ty := .int) (C := RX10) (T := TX10) (N := 5) hx hb hts w1 tyX10 tyX10_ok nmX10 hown hK.1 hP hD hS 0 rfl rfl 4 (by decide) w2 (fun _ h9 => h9) rfl (by decide +kernel) rfl rfl (Nat.le_of_ble_eq_true rfl) dX10_read_7 (fun H locs hP hD hS => ?_)
  obtain ⟨hP, hD⟩ : PD D A [O10 a10 r10 b10_bytes v10_count 0 b10_steps 0, (cB κ b10_bytes n10_bytes f10_bytes)] H := ⟨hP, hD⟩
  have h2 : 0 ≤ (0 : Int32).toInt ∧ (0 : Int32).toInt ≤ 4096 := by omega
  refine lv_aload_n hx hb dX10_read_10 rfl (lv_at hl 0 rfl) ?_
  refine lv_aload_n hx hb dX10_read_11 rfl (lv_at hl 0 rfl) ?_
  refine va_get (D := D) (ci := 10) (v := .int v10_count) (C := RX10) (T := TX10) (N := 5) hx hb hts w1 hown hK.1 hP 0 rfl rfl 1 (by decide) w3 (fun _ h9 => h9) rfl dX10_read_12 ?_
  refine lv_iconst (v := 1) hx hb dX10_read_15 (by decide) ?_
  refine lv_iadd hx hb dX10_read_16 ?_
  refine lv_topi (fun x3 e4 => ?_)
  try have h5 : x3.toInt = v10_count.toInt + (1 : Int32).toInt := ci_add e4 (by omega) (by omega)
  have hcn := ci_clamp (i := x3) (by omega)
  refine va_newa (atype := .int) hx hb w4 rfl hK.1 hP hD hS hA (a0 := (x3.toNatClampNeg, .inl (fun _ => 0))) (fun _ => rfl) (fun q => by have q := ci_lt q; omega) rfl (by show _ * 4 ≤ _; omega) (Nat.le_of_ble_eq_true rfl) (by show _ ≤ _; dsimp only; omega) dX10_read_17 (fun q6 cA H hK9 hP hD hS => ?_)
  have hcA := cls_I hK9
  subst hcA
  obtain ⟨hP, hD⟩ : PD D A [O10 a10 r10 b10_bytes v10_count 0 b10_steps 0, (cB κ b10_bytes n10_bytes f10_bytes), (cI κ q6 x3.toNatClampNeg (fun _ => 0))] H := ⟨hP, hD⟩
  refine W.widen (k := 1) (n := 2049) (by omega) (by omega) ?_
  refine va_put (D := D) (ci := 10) (v := .ref q6) (ty := .array .int) (C := RX10) (T := TX10) (N := 5) hx hb hts w1 tyX10 tyX10_ok nmX10 hown hK.1 hP hD hS 0 rfl rfl 3 (by decide) w5 (fun _ h9 => h9) rfl (by decide +kernel) rfl rfl (Nat.le_of_ble_eq_true rfl) dX10_read_19 (fun H locs hP hD hS => ?_)
  obtain ⟨hP, hD⟩ : PD D A [O10 a10 r10 b10_bytes v10_count 0 q6 0, (cB κ b10_bytes n10_bytes f10_bytes), (cI κ q6 x3.toNatClampNeg (fun _ => 0))] H := ⟨hP, hD⟩
  obtain ⟨hP, hD⟩ : PD D A [O10 a10 r10 b10_bytes v10_count 0 q6 0, (cB κ b10_bytes n10_bytes f10_bytes), (cI κ q6 x3.toNatClampNeg (fun _ => 0))] H := ⟨hP, hD⟩
  refine lv_iconst (v := 0) hx hb dX10_read_22 (by decide) ?_
  refine lv_istore_n (lv' := [(1, .int 0), (0, .ref a10)]) hx hb dX10_read_23 rfl hl (by decide) rfl (fun ls hl => ?_)
  have lp24 : ∀ (n24 : Nat) (v7 : Int32) (v8 : Int32) (g10 : Nat → Int32), (0 ≤ v7.toInt ∧ v7.toInt ≤ 2048) → (0 ≤ v8.toInt ∧ v8.toInt ≤ 4096) → (v7.toInt = 0) → (0 ≤ (0 : Int32).toInt) → (v10_count.toInt + 1 - (0 : Int32).toInt).toNat < n24 → ∀ (H : Heap) (locs : List Loc), va_P D vwCl [O10 a10 r10 b10_bytes v10_count v7 q6 v8, (cB κ b10_bytes n10_bytes f10_bytes), (cI κ q6 x3.toNatClampNeg g10)] H → va_D A [O10 a10 r10 b10_bytes v10_count v7 q6 v8, (cB κ b10_bytes n10_bytes f10_bytes), (cI κ q6 x3.toNatClampNeg g10)] → va_S A s.heap H locs → ∀ ls : Array Slot, lv_has ls 2 [(1, .int 0), (0, .ref a10)] → W p l e ({ frames := 64, cells := 1, slots := 2049, locals := 1865 } : Room) s m args below meth c H locs 1 2049 Q (F0 m 24 ls []) := by
    intro n24
    induction n24 with
    | zero =>
      intro v7 v8 g10 h11 h12 h13 h14 m15
      exact absurd m15 (Nat.not_lt_zero _)
    | succ n24 ih24 =>
      intro v7 v8 g10 h11 h12 h13 h14 m15 H locs hP hD hS ls hl
      refine lv_iload_n hx hb dX10_read_24 rfl (lv_at hl 0 rfl) ?_
      refine lv_aload_n hx hb dX10_read_25 rfl (lv_at hl 1 rfl) ?_
      refine va_get (D := D) (ci := 10) (v := .int v10_count) (C := RX10) (T := TX10) (N := 5) hx hb hts w1 hown hK.1 hP 0 rfl rfl 1 (by decide) w3 (fun _ h9 => h9) rfl dX10_read_26 ?_
      refine lv_icmp_gt (tgt := 71) hx hb dX10_read_29 (by decide) (fun c16 => ?_) (fun c16 => ?_)
      · have c16 := ci_lt c16
        refine lv_iconst (v := 0) hx hb dX10_read_71 (by decide) ?_
        have hpo : (0 ≤ v7.toInt ∧ v7.toInt ≤ 2048) ∧ (0 ≤ v8.toInt ∧ v8.toInt ≤ 4096) ∧ (x3.toNatClampNeg ≤ 2049) ∧ ((0 : Int32).toInt = 0) ∧ (v7.toInt = 0) := ⟨h11, h12, (by omega), (by omega), (by omega)⟩
        exact ret _ _ _ _ 0 (v7, q6, v8, x3.toNatClampNeg, g10) dX10_read_72 (by omega) hpo hP hD hS
      have c16 := ci_nlt c16
      refine lv_aload_n hx hb dX10_read_32 rfl (lv_at hl 1 rfl) ?_
      refine kcm_i hA hAB hP hD hS [true, true, true] rfl (fun _ => rfl) (fun hPc hDc => va_runV (As := []) (rest := []) ⟨hx, hb, hml, hown, hts⟩ (k_X10_readLine l D κ β a10 r10 b10_bytes v10_count v7 q6 v8 n10_bytes f10_bytes x3.toNatClampNeg g10 H.size i1 h11 h12 hf10_bytes i4 i5 (by omega) (by omega) (by omega)) (cwV 0 hts gX10_read_X10_readLine rfl rfl rfl (by decide +kernel) ⟨Nat.le_of_ble_eq_true rfl, Nat.le_of_ble_eq_true rfl⟩) (pk_V hK hS hAB hPc hDc 0 (ci := 10) rfl rfl rfl) rfl rfl hl.1 rfl (lv_room (Nat.le_of_ble_eq_true rfl)) dX10_read_33 ⟨Nat.le_of_ble_eq_true rfl, Nat.le_of_ble_eq_true rfl⟩) (fun x20 u21 H locs hw hPD hS => ?_)
      obtain ⟨x17, x18, g19⟩ := u21
      obtain ⟨h22, h23, h24, h25⟩ : (0 ≤ x17.toInt ∧ x17.toInt ≤ 2048) ∧ (0 ≤ x18.toInt ∧ x18.toInt ≤ 4096) ∧ (x20.toInt = 0) ∧ (x17.toInt = 0) := hw
      obtain ⟨hP, hD⟩ : PD D A [O10 a10 r10 b10_bytes v10_count x17 q6 x18, (cB κ b10_bytes n10_bytes f10_bytes), (cI κ q6 x3.toNatClampNeg g19)] H := hPD
      refine lv_if_ne (tgt := 41) hx hb dX10_read_36 (by decide) (fun c26 => ?_) (fun c26 => ?_)
      · have c26 := ci_ne c26
        exfalso
        omega
      have c26 := ci_eq c26
      refine lv_iconst (v := 0) hx hb dX10_read_39 (by decide) ?_
      have hpo : (0 ≤ x17.toInt ∧ x17.toInt ≤ 2048) ∧ (0 ≤ x18.toInt ∧ x18.toInt ≤ 4096) ∧ (x3.toNatClampNeg ≤ 2049) ∧ ((0 : Int32).toInt = 0) ∧ (x17.toInt = 0) := ⟨h22, h23, (by omega), (by omega), (by omega)⟩
      exact ret _ _ _ _ 0 (x17, q6, x18, x3.toNatClampNeg, g19) dX10_read_40 (by omega) hpo hP hD hS
  exact lp24 ((v10_count.toInt + 1 - (0 : Int32).toInt).toNat + 1) 0 0 (fun _ => 0) h1 h2 (by omega) (by omega) (by omega) _ _ hP hD hS _ hl
