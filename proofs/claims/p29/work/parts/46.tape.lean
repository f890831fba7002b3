set_option maxHeartbeats 4000000 in
set_option maxRecDepth 100000 in
theorem k_X10_sign (l : Launch) (D : va_G) (κ : Nat → ClassId) (β : Nat) (a10 : Nat) (r10 : Nat → Nat) (b10_bytes : Nat) (v10_count : Int32) (v10_at : Int32) (b10_steps : Nat) (v10_size : Int32) (n10_bytes : Nat) (f10_bytes : Nat → Int32) (sz : Nat) (i1 : Rg 0 2048 v10_count) (i2 : Rg 0 2048 v10_at) (i3 : Rg 0 4096 v10_size) (hf10_bytes : ∀ j : Nat, -128 ≤ (f10_bytes j).toInt ∧ (f10_bytes j).toInt ≤ 127) (i4 : v10_count.toInt ≤ ((n10_bytes : Nat) : Int)) (i5 : 64 ≤ ((n10_bytes : Nat) : Int) ∧ ((n10_bytes : Nat) : Int) ≤ 4096) : Met l yX10_sign wsX10_sign ({ frames := 0, cells := 0, slots := 0, locals := 0 } : Room) (PcK D κ β [O10 a10 r10 b10_bytes v10_count v10_at b10_steps v10_size, (cB κ b10_bytes n10_bytes f10_bytes)] sz [.ref a10]) (QiK D (fun (r : Int32) (u : Unit) => (r.toInt = -1 ∧ v10_count.toInt ≤ v10_at.toInt) ∨ (0 ≤ r.toInt ∧ r.toInt ≤ 255 ∧ v10_at.toInt < v10_count.toInt)) (fun (u : Unit) => [O10 a10 r10 b10_bytes v10_count v10_at b10_steps v10_size, (cB κ b10_bytes n10_bytes f10_bytes)]) [O10 a10 r10 b10_bytes v10_count v10_at b10_steps v10_size, (cB κ b10_bytes n10_bytes f10_bytes)] sz) 0 0 (va_A [O10 a10 r10 b10_bytes v10_count v10_at b10_steps v10_size, (cB κ b10_bytes n10_bytes f10_bytes)] sz) := by
  refine ofK_i (cc := cX10_sign) (maxL := 1) (own := RX10) (by decide) rfl rfl (Nat.le_of_ble_eq_true rfl) ?_
  intro p e s m args below meth c Q A ls hsz hx hb hml hts hown hK hA hAB hP hD hl ret
  have hS : va_S A s.heap s.heap [] := va_S.rf
  have hl : lv_has ls 1 [(0, .ref a10)] := hl
  have w0 := hts (.fieldLink RX10 29 "OlderSkin$Tape" "at" "I") (List.mem_of_getElem? (i := 1) rfl)
  have w1 := (fun w h => List.mem_cons_of_mem _ (List.mem_append_right _ h) : ∀ w ∈ u_ws RX10 TX10 5, w ∈ wsX10_sign)
  have w2 := hts (.fieldLink RX10 19 "OlderSkin$Tape" "count" "I") (List.mem_of_getElem? (i := 2) rfl)
  have w3 := hts (.fieldLink RX10 9 "OlderSkin$Tape" "bytes" "[B") (List.mem_of_getElem? (i := 3) rfl)
  have l0 : (0 : Int32).toInt = 0 := by decide
  have l1 : ((-1) : Int32).toInt = -1 := by decide
  have l2 : (255 : Int32).toInt = 255 := by decide
  have i1 : 0 ≤ v10_count.toInt ∧ v10_count.toInt ≤ 2048 := i1
  have i2 : 0 ≤ v10_at.toInt ∧ v10_at.toInt ≤ 2048 := i2
  refine lv_aload_n hx hb dX10_sign_0 rfl (lv_at hl 0 rfl) ?_
  refine va_get (D := D) (ci := 10) (v := .int v10_at) (C := RX10) (T := TX10) (N := 5) hx hb hts w1 hown hK.1 hP 0 rfl rfl 2 (by decide) w0 (fun _ h9 => h9) rfl dX10_sign_1 ?_
  refine lv_aload_n hx hb dX10_sign_4 rfl (lv_at hl 0 rfl) ?_
  refine va_get (D := D) (ci := 10) (v := .int v10_count) (C := RX10) (T := TX10) (N := 5) hx hb hts w1 hown hK.1 hP 0 rfl rfl 1 (by decide) w2 (fun _ h9 => h9) rfl dX10_sign_5 ?_
  refine lv_icmp_ge (tgt := 27) hx hb dX10_sign_8 (by decide) (fun c1 => ?_) (fun c1 => ?_)
  · have c1 := ci_le c1
    refine lv_iconst (v := (-1)) hx hb dX10_sign_27 (by decide) ?_
    have hpo : (((-1) : Int32).toInt = -1 ∧ v10_count.toInt ≤ v10_at.toInt) ∨ (0 ≤ ((-1) : Int32).toInt ∧ ((-1) : Int32).toInt ≤ 255 ∧ v10_at.toInt < v10_count.toInt) := (by omega)
    exact ret _ _ _ _ (-1) () dX10_sign_28 hpo hP hD hS
  have c1 := ci_nle c1
  refine lv_aload_n hx hb dX10_sign_11 rfl (lv_at hl 0 rfl) ?_
  refine va_get (D := D) (ci := 10) (v := .ref b10_bytes) (C := RX10) (T := TX10) (N := 5) hx hb hts w1 hown hK.1 hP 0 rfl rfl 0 (by decide) w3 (fun _ h9 => h9) rfl dX10_sign_12 ?_
  refine lv_aload_n hx hb dX10_sign_15 rfl (lv_at hl 0 rfl) ?_
  refine va_get (D := D) (ci := 10) (v := .int v10_at) (C := RX10) (T := TX10) (N := 5) hx hb hts w1 hown hK.1 hP 0 rfl rfl 2 (by decide) w0 (fun _ h9 => h9) rfl dX10_sign_16 ?_
  refine va_bald hx hb hK.1 hP 1 0 rfl rfl (i := v10_at) (ix (by omega) (by omega)) dX10_sign_19 ?_
  refine lv_topi (fun x2 e3 => ?_)
  have h4 : -128 ≤ x2.toInt ∧ x2.toInt ≤ 127 := by rw [e3]; exact hf10_bytes _
  refine lv_sipush (v := 255) hx hb dX10_sign_20 (by decide) ?_
  refine lv_iand hx hb dX10_sign_23 ?_
  refine lv_topi (fun x5 e6 => ?_)
  have hs9 := and_rng2 e6 (by omega)
  refine lv_goto (tgt := 28) hx hb dX10_sign_24 (by decide) ?_
  have hpo : (x5.toInt = -1 ∧ v10_count.toInt ≤ v10_at.toInt) ∨ (0 ≤ x5.toInt ∧ x5.toInt ≤ 255 ∧ v10_at.toInt < v10_count.toInt) := (by omega)
  exact ret _ _ _ _ x5 () dX10_sign_28 hpo hP hD hS
set_option maxHeartbeats 4000000 in
set_option maxRecDepth 100000 in
theorem k_X10_levelOf (l : Launch) (D : va_G) (κ : Nat → ClassId) (β : Nat) (sz : Nat) (p1 : Int32) : Met l yX10_levelOf wsX10_levelOf ({ frames := 0, cells := 0, slots := 0, locals := 0 } : Room) (PcK D κ β [] sz [.int p1]) (QiK D (fun (r : Int32) (u : Unit) => r.toInt = -1 ∨ (0 ≤ r.toInt ∧ r.toInt ≤ 4 ∧ 0 ≤ p1.toInt)) (fun (u : Unit) => []) [] sz) 0 0 (va_A [] sz) := by
  refine ofK_i (cc := cX10_levelOf) (maxL := 1) (own := RX10) (by decide) rfl rfl (Nat.le_of_ble_eq_true rfl) ?_
  intro p e s m args below meth c Q A ls hsz hx hb hml hts hown hK hA hAB hP hD hl ret
  have hS : va_S A s.heap s.heap [] := va_S.rf
  have hl : lv_has ls 1 [(0, .int p1)] := hl
  have l0 : (4 : Int32).toInt = 4 := by decide
  have l1 : (1 : Int32).toInt = 1 := by decide
  have l2 : (3 : Int32).toInt = 3 := by decide
  have l3 : (2 : Int32).toInt = 2 := by decide
  have l4 : (0 : Int32).toInt = 0 := by decide
  have l5 : ((-1) : Int32).toInt = -1 := by decide
  refine lv_iload_n hx hb dX10_levelOf_0 rfl (lv_at hl 0 rfl) ?_
  by_cases c1 : p1.toInt = 37
  · refine lv_lookup (off := 99) (tgt := 100) hx hb dX10_levelOf_1 (by decide) (by rw [c1]; decide) (by decide) ?_
    refine lv_iconst (v := 4) hx hb dX10_levelOf_100 (by decide) ?_
    have hpo : (4 : Int32).toInt = -1 ∨ (0 ≤ (4 : Int32).toInt ∧ (4 : Int32).toInt ≤ 4 ∧ 0 ≤ p1.toInt) := (by omega)
    exact ret _ _ _ _ 4 () dX10_levelOf_101 hpo hP hD hS
  by_cases c2 : p1.toInt = 38
  · refine lv_lookup (off := 93) (tgt := 94) hx hb dX10_levelOf_1 (by decide) (by rw [c2]; decide) (by decide) ?_
    refine lv_iconst (v := 1) hx hb dX10_levelOf_94 (by decide) ?_
    have hpo : (1 : Int32).toInt = -1 ∨ (0 ≤ (1 : Int32).toInt ∧ (1 : Int32).toInt ≤ 4 ∧ 0 ≤ p1.toInt) := (by omega)
    exact ret _ _ _ _ 1 () dX10_levelOf_95 hpo hP hD hS
  by_cases c3 : p1.toInt = 42
  · refine lv_lookup (off := 99) (tgt := 100) hx hb dX10_levelOf_1 (by decide) (by rw [c3]; decide) (by decide) ?_
    refine lv_iconst (v := 4) hx hb dX10_levelOf_100 (by decide) ?_
    have hpo : (4 : Int32).toInt = -1 ∨ (0 ≤ (4 : Int32).toInt ∧ (4 : Int32).toInt ≤ 4 ∧ 0 ≤ p1.toInt) := (by omega)
    exact ret _ _ _ _ 4 () dX10_levelOf_101 hpo hP hD hS
  by_cases c4 : p1.toInt = 43
  · refine lv_lookup (off := 97) (tgt := 98) hx hb dX10_levelOf_1 (by decide) (by rw [c4]; decide) (by decide) ?_
    refine lv_iconst (v := 3) hx hb dX10_levelOf_98 (by decide) ?_
    have hpo : (3 : Int32).toInt = -1 ∨ (0 ≤ (3 : Int32).toInt ∧ (3 : Int32).toInt ≤ 4 ∧ 0 ≤ p1.toInt) := (by omega)
    exact ret _ _ _ _ 3 () dX10_levelOf_99 hpo hP hD hS
  by_cases c5 : p1.toInt = 45
  · refine lv_lookup (off := 97) (tgt := 98) hx hb dX10_levelOf_1 (by decide) (by rw [c5]; decide) (by decide) ?_
    refine lv_iconst (v := 3) hx hb dX10_levelOf_98 (by decide) ?_
    have hpo : (3 : Int32).toInt = -1 ∨ (0 ≤ (3 : Int32).toInt ∧ (3 : Int32).toInt ≤ 4 ∧ 0 ≤ p1.toInt) := (by omega)
    exact ret _ _ _ _ 3 () dX10_levelOf_99 hpo hP hD hS
  by_cases c6 : p1.toInt = 47
  · refine lv_lookup (off := 99) (tgt := 100) hx hb dX10_levelOf_1 (by decide) (by rw [c6]; decide) (by decide) ?_
    refine lv_iconst (v := 4) hx hb dX10_levelOf_100 (by decide) ?_
    have hpo : (4 : Int32).toInt = -1 ∨ (0 ≤ (4 : Int32).toInt ∧ (4 : Int32).toInt ≤ 4 ∧ 0 ≤ p1.toInt) := (by omega)
    exact ret _ _ _ _ 4 () dX10_levelOf_101 hpo hP hD hS
  by_cases c7 : p1.toInt = 60
  · refine lv_lookup (off := 95) (tgt := 96) hx hb dX10_levelOf_1 (by decide) (by rw [c7]; decide) (by decide) ?_
    refine lv_iconst (v := 2) hx hb dX10_levelOf_96 (by decide) ?_
    have hpo : (2 : Int32).toInt = -1 ∨ (0 ≤ (2 : Int32).toInt ∧ (2 : Int32).toInt ≤ 4 ∧ 0 ≤ p1.toInt) := (by omega)
    exact ret _ _ _ _ 2 () dX10_levelOf_97 hpo hP hD hS
  by_cases c8 : p1.toInt = 61
  · refine lv_lookup (off := 95) (tgt := 96) hx hb dX10_levelOf_1 (by decide) (by rw [c8]; decide) (by decide) ?_
    refine lv_iconst (v := 2) hx hb dX10_levelOf_96 (by decide) ?_
    have hpo : (2 : Int32).toInt = -1 ∨ (0 ≤ (2 : Int32).toInt ∧ (2 : Int32).toInt ≤ 4 ∧ 0 ≤ p1.toInt) := (by omega)
    exact ret _ _ _ _ 2 () dX10_levelOf_97 hpo hP hD hS
  by_cases c9 : p1.toInt = 62
  · refine lv_lookup (off := 95) (tgt := 96) hx hb dX10_levelOf_1 (by decide) (by rw [c9]; decide) (by decide) ?_
    refine lv_iconst (v := 2) hx hb dX10_levelOf_96 (by decide) ?_
    have hpo : (2 : Int32).toInt = -1 ∨ (0 ≤ (2 : Int32).toInt ∧ (2 : Int32).toInt ≤ 4 ∧ 0 ≤ p1.toInt) := (by omega)
    exact ret _ _ _ _ 2 () dX10_levelOf_97 hpo hP hD hS
  by_cases c10 : p1.toInt = 124
  · refine lv_lookup (off := 91) (tgt := 92) hx hb dX10_levelOf_1 (by decide) (by rw [c10]; decide) (by decide) ?_
    refine lv_iconst (v := 0) hx hb dX10_levelOf_92 (by decide) ?_
    have hpo : (0 : Int32).toInt = -1 ∨ (0 ≤ (0 : Int32).toInt ∧ (0 : Int32).toInt ≤ 4 ∧ 0 ≤ p1.toInt) := (by omega)
    exact ret _ _ _ _ 0 () dX10_levelOf_93 hpo hP hD hS
  refine lv_lookup (off := 101) (tgt := 102) hx hb dX10_levelOf_1 (by decide) (by show Op.lookupswitch.offset [(37, 99), (38, 93), (42, 99), (43, 97), (45, 97), (47, 99), (60, 95), (61, 95), (62, 95), (124, 91)] 101 p1.toInt = 101; rw [Op.lookupswitch.offset_cons, if_neg (by omega), Op.lookupswitch.offset_cons, if_neg (by omega), Op.lookupswitch.offset_cons, if_neg (by omega), Op.lookupswitch.offset_cons, if_neg (by omega), Op.lookupswitch.offset_cons, if_neg (by omega), Op.lookupswitch.offset_cons, if_neg (by omega), Op.lookupswitch.offset_cons, if_neg (by omega), Op.lookupswitch.offset_cons, if_neg (by omega), Op.lookupswitch.offset_cons, if_neg (by omega), Op.lookupswitch.offset_cons, if_neg (by omega), Op.lookupswitch.offset_nil]) (by decide) ?_
  refine lv_iconst (v := (-1)) hx hb dX10_levelOf_102 (by decide) ?_
  have hpo : ((-1) : Int32).toInt = -1 ∨ (0 ≤ ((-1) : Int32).toInt ∧ ((-1) : Int32).toInt ≤ 4 ∧ 0 ≤ p1.toInt) := (by omega)
  exact ret _ _ _ _ (-1) () dX10_levelOf_103 hpo hP hD hS
set_option maxHeartbeats 4000000 in
set_option maxRecDepth 100000 in
theorem k_X10_isDigit (l : Launch) (D : va_G) (κ : Nat → ClassId) (β : Nat) (sz : Nat) (p1 : Int32) : Met l yX10_isDigit wsX10_isDigit ({ frames := 0, cells := 0, slots := 0, locals := 0 } : Room) (PcK D κ β [] sz [.int p1]) (QiK D (fun (r : Int32) (u : Unit) => (r.toInt = 1 ∧ 48 ≤ p1.toInt) ∨ r.toInt = 0) (fun (u : Unit) => []) [] sz) 0 0 (va_A [] sz) := by
  refine ofK_z (cc := cX10_isDigit) (maxL := 1) (own := RX10) (by decide) rfl rfl (Nat.le_of_ble_eq_true rfl) ?_
  intro p e s m args below meth c Q A ls hsz hx hb hml hts hown hK hA hAB hP hD hl ret
  have hS : va_S A s.heap s.heap [] := va_S.rf
  have hl : lv_has ls 1 [(0, .int p1)] := hl
  have l0 : (48 : Int32).toInt = 48 := by decide
  have l1 : (0 : Int32).toInt = 0 := by decide
  have l2 : (57 : Int32).toInt = 57 := by decide
  have l3 : (1 : Int32).toInt = 1 := by decide
  refine lv_bipush (v := 48) hx hb dX10_isDigit_0 (by decide) ?_
  refine lv_iload_n hx hb dX10_isDigit_2 rfl (lv_at hl 0 rfl) ?_
  refine lv_icmp_gt (tgt := 16) hx hb dX10_isDigit_3 (by decide) (fun c1 => ?_) (fun c1 => ?_)
  · have c1 := ci_lt c1
    refine lv_iconst (v := 0) hx hb dX10_isDigit_16 (by decide) ?_
    have hpo : ((0 : Int32).toInt = 1 ∧ 48 ≤ p1.toInt) ∨ (0 : Int32).toInt = 0 := (by omega)
    exact ret _ _ _ _ 0 () dX10_isDigit_17 (by omega) hpo hP hD hS
  have c1 := ci_nlt c1
  refine lv_iload_n hx hb dX10_isDigit_6 rfl (lv_at hl 0 rfl) ?_
  refine lv_bipush (v := 57) hx hb dX10_isDigit_7 (by decide) ?_
  refine lv_icmp_gt (tgt := 16) hx hb dX10_isDigit_9 (by decide) (fun c2 => ?_) (fun c2 => ?_)
  · have c2 := ci_lt c2
    refine lv_iconst (v := 0) hx hb dX10_isDigit_16 (by decide) ?_
    have hpo : ((0 : Int32).toInt = 1 ∧ 48 ≤ p1.toInt) ∨ (0 : Int32).toInt = 0 := (by omega)
    exact ret _ _ _ _ 0 () dX10_isDigit_17 (by omega) hpo hP hD hS
  have c2 := ci_nlt c2
  refine lv_iconst (v := 1) hx hb dX10_isDigit_12 (by decide) ?_
  refine lv_goto (tgt := 17) hx hb dX10_isDigit_13 (by decide) ?_
  have hpo : ((1 : Int32).toInt = 1 ∧ 48 ≤ p1.toInt) ∨ (1 : Int32).toInt = 0 := (by omega)
  exact ret _ _ _ _ 1 () dX10_isDigit_17 (by omega) hpo hP hD hS
set_option maxHeartbeats 4000000 in
set_option maxRecDepth 100000 in
theorem k_X10_takes (l : Launch) (D : va_G) (κ : Nat → ClassId) (β : Nat) (a10 : Nat) (r10 : Nat → Nat) (b10_bytes : Nat) (v10_count : Int32) (v10_at : Int32) (b10_steps : Nat) (v10_size : Int32) (n10_bytes : Nat) (f10_bytes : Nat → Int32) (sz : Nat) (p1 : Int32) (i1 : Rg 0 2048 v10_count) (i2 : Rg 0 2048 v10_at) (i3 : Rg 0 4096 v10_size) (hf10_bytes : ∀ j : Nat, -128 ≤ (f10_bytes j).toInt ∧ (f10_bytes j).toInt ≤ 127) (i4 : v10_count.toInt ≤ ((n10_bytes : Nat) : Int)) (i5 : 64 ≤ ((n10_bytes : Nat) : Int) ∧ ((n10_bytes : Nat) : Int) ≤ 4096) (i6 : 0 ≤ p1.toInt) : Met l yX10_takes wsX10_takes ({ frames := 1, cells := 0, slots := 0, locals := 20 } : Room) (PcK D κ β [O10 a10 r10 b10_bytes v10_count v10_at b10_steps v10_size, (cB κ b10_bytes n10_bytes f10_bytes)] sz [.ref a10, .int p1]) (QiK D (fun (r : Int32) (u : Int32) => (0 ≤ u.toInt ∧ u.toInt ≤ 2048) ∧ (r.toInt = 0 ∨ r.toInt = 1)) (fun (u : Int32) => [O10 a10 r10 b10_bytes v10_count u b10_steps v10_size, (cB κ b10_bytes n10_bytes f10_bytes)]) [O10 a10 r10 b10_bytes v10_count v10_at b10_steps v10_size, (cB κ b10_bytes n10_bytes f10_bytes)] sz) 0 0 (va_A [O10 a10 r10 b10_bytes v10_count v10_at b10_steps v10_size, (cB κ b10_bytes n10_bytes f10_bytes)] sz) := by
  refine ofK_z (cc := cX10_takes) (maxL := 2) (own := RX10) (by decide) rfl rfl (Nat.le_of_ble_eq_true rfl) ?_
  intro p e s m args below meth c Q A ls hsz hx hb hml hts hown hK hA hAB hP hD hl ret
  have hS : va_S A s.heap s.heap [] := va_S.rf
  have hl : lv_has ls 2 [(0, .ref a10), (1, .int p1)] := hl
  have w0 := hts (.fieldLink RX10 29 "OlderSkin$Tape" "at" "I") (List.mem_of_getElem? (i := 1) rfl)
  have w1 := (fun w h => List.mem_cons_of_mem _ (List.mem_append_right _ h) : ∀ w ∈ u_ws RX10 TX10 5, w ∈ wsX10_takes)
  have l0 : (0 : Int32).toInt = 0 := by decide
  have l1 : (1 : Int32).toInt = 1 := by decide
  have i1 : 0 ≤ v10_count.toInt ∧ v10_count.toInt ≤ 2048 := i1
  have i2 : 0 ≤ v10_at.toInt ∧ v10_at.toInt ≤ 2048 := i2
  refine lv_aload_n hx hb dX10_takes_0 rfl (lv_at hl 0 rfl) ?_
  refine kcm_i hA hAB hP hD hS [true, true] rfl (fun _ => rfl) (fun hPc hDc => va_runV (As := []) (rest := []) ⟨hx, hb, hml, hown, hts⟩ (k_X10_sign l D κ β a10 r10 b10_bytes v10_count v10_at b10_steps v10_size n10_bytes f10_bytes s.heap.size i1 i2 i3 hf10_bytes i4 i5) (cwV 0 hts gX10_takes_X10_sign rfl rfl rfl (by decide +kernel) ⟨Nat.le_of_ble_eq_true rfl, Nat.le_of_ble_eq_true rfl⟩) (pk_V hK hS hAB hPc hDc 0 (ci := 10) rfl rfl rfl) rfl rfl hl.1 rfl (lv_room (Nat.le_of_ble_eq_true rfl)) dX10_takes_1 ⟨Nat.le_of_ble_eq_true rfl, Nat.le_of_ble_eq_true rfl⟩) (fun x1 u2 H locs hw hPD hS => ?_)
  have h3 : (x1.toInt = -1 ∧ v10_count.toInt ≤ v10_at.toInt) ∨ (0 ≤ x1.toInt ∧ x1.toInt ≤ 255 ∧ v10_at.toInt < v10_count.toInt) := hw
  obtain ⟨hP, hD⟩ : PD D A [O10 a10 r10 b10_bytes v10_count v10_at b10_steps v10_size, (cB κ b10_bytes n10_bytes f10_bytes)] H := hPD
  refine lv_iload_n hx hb dX10_takes_4 rfl (lv_at hl 1 rfl) ?_
  refine lv_icmp_eq (tgt := 10) hx hb dX10_takes_5 (by decide) (fun c4 => ?_) (fun c4 => ?_)
  · have c4 := ci_eq c4
    refine lv_aload_n hx hb dX10_takes_10 rfl (lv_at hl 0 rfl) ?_
    refine lv_dup hx hb dX10_takes_11 rfl ?_
    refine va_get (D := D) (ci := 10) (v := .int v10_at) (C := RX10) (T := TX10) (N := 5) hx hb hts w1 hown hK.1 hP 0 rfl rfl 2 (by decide) w0 (fun _ h9 => h9) rfl dX10_takes_12 ?_
    refine lv_iconst (v := 1) hx hb dX10_takes_15 (by decide) ?_
    refine lv_iadd hx hb dX10_takes_16 ?_
    refine lv_topi (fun x5 e6 => ?_)
    try have h7 : x5.toInt = v10_at.toInt + (1 : Int32).toInt := ci_add e6 (by omega) (by omega)
    refine va_put (D := D) (ci := 10) (v := .int x5) (ty := .int) (C := RX10) (T := TX10) (N := 5) hx hb hts w1 tyX10 tyX10_ok nmX10 hown hK.1 hP hD hS 0 rfl rfl 2 (by decide) w0 (fun _ h9 => h9) rfl (by decide +kernel) rfl rfl (Nat.le_of_ble_eq_true rfl) dX10_takes_17 (fun H locs hP hD hS => ?_)
    obtain ⟨hP, hD⟩ : PD D A [O10 a10 r10 b10_bytes v10_count x5 b10_steps v10_size, (cB κ b10_bytes n10_bytes f10_bytes)] H := ⟨hP, hD⟩
    have h8 : 0 ≤ x5.toInt ∧ x5.toInt ≤ 2048 := by omega
    refine lv_iconst (v := 1) hx hb dX10_takes_20 (by decide) ?_
    have hpo : (0 ≤ x5.toInt ∧ x5.toInt ≤ 2048) ∧ ((1 : Int32).toInt = 0 ∨ (1 : Int32).toInt = 1) := ⟨h8, (by omega)⟩
    exact ret _ _ _ _ 1 x5 dX10_takes_21 (by omega) hpo hP hD hS
  have c4 := ci_ne c4
  refine lv_iconst (v := 0) hx hb dX10_takes_8 (by decide) ?_
  have hpo : (0 ≤ v10_at.toInt ∧ v10_at.toInt ≤ 2048) ∧ ((0 : Int32).toInt = 0 ∨ (0 : Int32).toInt = 1) := ⟨i2, (by omega)⟩
  exact ret _ _ _ _ 0 v10_at dX10_takes_9 (by omega) hpo hP hD hS
set_option maxHeartbeats 4000000 in
set_option maxRecDepth 100000 in
theorem k_X10_step (l : Launch) (D : va_G) (κ : Nat → ClassId) (β : Nat) (a10 : Nat) (r10 : Nat → Nat) (b10_bytes : Nat) (v10_count : Int32) (v10_at : Int32) (b10_steps : Nat) (v10_size : Int32) (n10_steps : Nat) (f10_steps : Nat → Int32) (sz : Nat) (p1 : Int32) (i1 : Rg 0 2048 v10_count) (i2 : Rg 0 2048 v10_at) (i3 : Rg 0 4096 v10_size) (i4 : ((n10_steps : Nat) : Int) ≤ 2049) : Met l yX10_step wsX10_step ({ frames := 0, cells := 0, slots := 0, locals := 0 } : Room) (PcK D κ β [O10 a10 r10 b10_bytes v10_count v10_at b10_steps v10_size, (cI κ b10_steps n10_steps f10_steps)] sz [.ref a10, .int p1]) (QvK D (fun (u : Int32 × (Nat → Int32)) => 0 ≤ u.1.toInt ∧ u.1.toInt ≤ 4096) (fun (u : Int32 × (Nat → Int32)) => [O10 a10 r10 b10_bytes v10_count v10_at b10_steps u.1, (cI κ b10_steps n10_steps u.2)]) [O10 a10 r10 b10_bytes v10_count v10_at b10_steps v10_size, (cI κ b10_steps n10_steps f10_steps)] sz) 0 0 (va_A [O10 a10 r10 b10_bytes v10_count v10_at b10_steps v10_size, (cI κ b10_steps n10_steps f10_steps)] sz) := by
  refine ofK_v (cc := cX10_step) (maxL := 2) (own := RX10) (by decide) rfl rfl (Nat.le_of_ble_eq_true rfl) ?_
  intro p e s m args below meth c Q A ls hsz hx hb hml hts hown hK hA hAB hP hD hl hname ret
  have hS : va_S A s.heap s.heap [] := va_S.rf
  have hl : lv_has ls 2 [(0, .ref a10), (1, .int p1)] := hl
  have w0 := hts (.fieldLink RX10 32 "OlderSkin$Tape" "size" "I") (List.mem_of_getElem? (i := 1) rfl)
  have w1 := (fun w h => List.mem_cons_of_mem _ (List.mem_append_right _ h) : ∀ w ∈ u_ws RX10 TX10 5, w ∈ wsX10_step)
  have w2 := hts (.fieldLink RX10 15 "OlderSkin$Tape" "steps" "[I") (List.mem_of_getElem? (i := 2) rfl)
  have l0 : (0 : Int32).toInt = 0 := by decide
  have l1 : (1 : Int32).toInt = 1 := by decide
  have i3 : 0 ≤ v10_size.toInt ∧ v10_size.toInt ≤ 4096 := i3
  refine lv_aload_n hx hb dX10_step_0 rfl (lv_at hl 0 rfl) ?_
  refine va_get (D := D) (ci := 10) (v := .int v10_size) (C := RX10) (T := TX10) (N := 5) hx hb hts w1 hown hK.1 hP 0 rfl rfl 4 (by decide) w0 (fun _ h9 => h9) rfl dX10_step_1 ?_
  refine lv_aload_n hx hb dX10_step_4 rfl (lv_at hl 0 rfl) ?_
  refine va_get (D := D) (ci := 10) (v := .ref b10_steps) (C := RX10) (T := TX10) (N := 5) hx hb hts w1 hown hK.1 hP 0 rfl rfl 3 (by decide) w2 (fun _ h9 => h9) rfl dX10_step_5 ?_
  refine va_alen hx hb hK.1 hP 1 1 rfl rfl rfl dX10_step_8 ?_
  refine lv_topi (fun x1 e2 => ?_)
  have h3 : x1.toInt = ((n10_steps : Nat) : Int) := ci_len e2 (by omega)
  refine lv_icmp_ge (tgt := 32) hx hb dX10_step_9 (by decide) (fun c4 => ?_) (fun c4 => ?_)
  · have c4 := ci_le c4
    have hpo : 0 ≤ v10_size.toInt ∧ v10_size.toInt ≤ 4096 := i3
    exact ret _ _ _ _ (v10_size, f10_steps) dX10_step_32 hpo hP hD hS
  have c4 := ci_nle c4
  refine lv_aload_n hx hb dX10_step_12 rfl (lv_at hl 0 rfl) ?_
  refine va_get (D := D) (ci := 10) (v := .ref b10_steps) (C := RX10) (T := TX10) (N := 5) hx hb hts w1 hown hK.1 hP 0 rfl rfl 3 (by decide) w2 (fun _ h9 => h9) rfl dX10_step_13 ?_
  refine lv_aload_n hx hb dX10_step_16 rfl (lv_at hl 0 rfl) ?_
  refine va_get (D := D) (ci := 10) (v := .int v10_size) (C := RX10) (T := TX10) (N := 5) hx hb hts w1 hown hK.1 hP 0 rfl rfl 4 (by decide) w0 (fun _ h9 => h9) rfl dX10_step_17 ?_
  refine lv_iload_n hx hb dX10_step_20 rfl (lv_at hl 1 rfl) ?_
  refine va_iast hx hb hK.1 hP hD hS 1 1 rfl rfl (i := v10_size) (ix (by omega) (by omega)) dX10_step_21 (fun H locs hP hD hS => ?_)
  obtain ⟨g5, e6⟩ : ∃ y : Nat → Int32, y = upd f10_steps v10_size.toNatClampNeg p1 := ⟨_, rfl⟩
  rw [← e6] at hP hD
  obtain ⟨hP, hD⟩ : PD D A [O10 a10 r10 b10_bytes v10_count v10_at b10_steps v10_size, (cI κ b10_steps n10_steps g5)] H := ⟨hP, hD⟩
  refine lv_aload_n hx hb dX10_step_22 rfl (lv_at hl 0 rfl) ?_
  refine lv_dup hx hb dX10_step_23 rfl ?_
  refine va_get (D := D) (ci := 10) (v := .int v10_size) (C := RX10) (T := TX10) (N := 5) hx hb hts w1 hown hK.1 hP 0 rfl rfl 4 (by decide) w0 (fun _ h9 => h9) rfl dX10_step_24 ?_
  refine lv_iconst (v := 1) hx hb dX10_step_27 (by decide) ?_
  refine lv_iadd hx hb dX10_step_28 ?_
  refine lv_topi (fun x7 e8 => ?_)
  try have h9 : x7.toInt = v10_size.toInt + (1 : Int32).toInt := ci_add e8 (by omega) (by omega)
  refine va_put (D := D) (ci := 10) (v := .int x7) (ty := .int) (C := RX10) (T := TX10) (N := 5) hx hb hts w1 tyX10 tyX10_ok nmX10 hown hK.1 hP hD hS 0 rfl rfl 4 (by decide) w0 (fun _ h9 => h9) rfl (by decide +kernel) rfl rfl (Nat.le_of_ble_eq_true rfl) dX10_step_29 (fun H locs hP hD hS => ?_)
  obtain ⟨hP, hD⟩ : PD D A [O10 a10 r10 b10_bytes v10_count v10_at b10_steps x7, (cI κ b10_steps n10_steps g5)] H := ⟨hP, hD⟩
  have h10 : 0 ≤ x7.toInt ∧ x7.toInt ≤ 4096 := by omega
  have hpo : 0 ≤ x7.toInt ∧ x7.toInt ≤ 4096 := h10
  exact ret _ _ _ _ (x7, g5) dX10_step_32 hpo hP hD hS
set_option maxHeartbeats 4000000 in
set_option maxRecDepth 100000 in
theorem k_X10_readNumber (l : Launch) (D : va_G) (κ : Nat → ClassId) (β : Nat) (a10 : Nat) (r10 : Nat → Nat) (b10_bytes : Nat) (v10_count : Int32) (v10_at : Int32) (b10_steps : Nat) (v10_size : Int32) (n10_bytes : Nat) (f10_bytes : Nat → Int32) (n10_steps : Nat) (f10_steps : Nat → Int32) (sz : Nat) (i1 : Rg 0 2048 v10_count) (i2 : Rg 0 2048 v10_at) (i3 : Rg 0 4096 v10_size) (hf10_bytes : ∀ j : Nat, -128 ≤ (f10_bytes j).toInt ∧ (f10_bytes j).toInt ≤ 127) (i4 : v10_count.toInt ≤ ((n10_bytes : Nat) : Int)) (i5 : 64 ≤ ((n10_bytes : Nat) : Int) ∧ ((n10_bytes : Nat) : Int) ≤ 4096) (i6 : ((n10_steps : Nat) : Int) ≤ 2049) : Met l yX10_readNumber wsX10_readNumber ({ frames := 1, cells := 0, slots := 0, locals := 21 } : Room) (PcK D κ β [O10 a10 r10 b10_bytes v10_count v10_at b10_steps v10_size, (cB κ b10_bytes n10_bytes f10_bytes), (cI κ b10_steps n10_steps f10_steps)] sz [.ref a10]) (QiK D (fun (r : Int32) (u : Int32 × Int32 × (Nat → Int32)) => (0 ≤ u.1.toInt ∧ u.1.toInt ≤ 2048) ∧ (0 ≤ u.2.1.toInt ∧ u.2.1.toInt ≤ 4096) ∧ (r.toInt = 0 ∨ r.toInt = 1)) (fun (u : Int32 × Int32 × (Nat → Int32)) => [O10 a10 r10 b10_bytes v10_count u.1 b10_steps u.2.1, (cB κ b10_bytes n10_bytes f10_bytes), (cI κ b10_steps n10_steps u.2.2)]) [O10 a10 r10 b10_bytes v10_count v10_at b10_steps v10_size, (cB κ b10_bytes n10_bytes f10_bytes), (cI κ b10_steps n10_steps f10_steps)] sz) 0 0 (va_A [O10 a10 r10 b10_bytes v10_count v10_at b10_steps v10_size, (cB κ b10_bytes n10_bytes f10_bytes), (cI κ b10_steps n10_steps f10_steps)] sz) := by
  refine ofK_z (cc := cX10_readNumber) (maxL := 3) (own := RX10) (by decide) rfl rfl (Nat.le_of_ble_eq_true rfl) ?_
  intro p e s m args below meth c Q A ls hsz hx hb hml hts hown hK hA hAB hP hD hl ret
  have hS : va_S A s.heap s.heap [] := va_S.rf
  have hl : lv_has ls 3 [(0, .ref a10)] := hl
  have w0 := hts (.fieldLink RX10 29 "OlderSkin$Tape" "at" "I") (List.mem_of_getElem? (i := 1) rfl)
  have w1 := (fun w h => List.mem_cons_of_mem _ (List.mem_append_right _ h) : ∀ w ∈ u_ws RX10 TX10 5, w ∈ wsX10_readNumber)
  have l0 : (0 : Int32).toInt = 0 := by decide
  have l1 : (4 : Int32).toInt = 4 := by decide
  have l2 : (1 : Int32).toInt = 1 := by decide
  have l3 : (10 : Int32).toInt = 10 := by decide
  have l4 : (48 : Int32).toInt = 48 := by decide
  have i1 : 0 ≤ v10_count.toInt ∧ v10_count.toInt ≤ 2048 := i1
  have i2 : 0 ≤ v10_at.toInt ∧ v10_at.toInt ≤ 2048 := i2
  refine lv_iconst (v := 0) hx hb dX10_readNumber_0 (by decide) ?_
  refine lv_istore_n (lv' := [(1, .int 0), (0, .ref a10)]) hx hb dX10_readNumber_1 rfl hl (by decide) rfl (fun ls hl => ?_)
  refine lv_iconst (v := 0) hx hb dX10_readNumber_2 (by decide) ?_
  refine lv_istore_n (lv' := [(2, .int 0), (1, .int 0), (0, .ref a10)]) hx hb dX10_readNumber_3 rfl hl (by decide) rfl (fun ls hl => ?_)
  have lp4 : ∀ (n4 : Nat) (k1 : Int32) (k2 : Int32) (v3 : Int32), (0 ≤ v3.toInt ∧ v3.toInt ≤ 2048) → (0 ≤ k1.toInt) → (4 - k1.toInt).toNat < n4 → ∀ (H : Heap) (locs : List Loc), va_P D vwCl [O10 a10 r10 b10_bytes v10_count v3 b10_steps v10_size, (cB κ b10_bytes n10_bytes f10_bytes), (cI κ b10_steps n10_steps f10_steps)] H → va_D A [O10 a10 r10 b10_bytes v10_count v3 b10_steps v10_size, (cB κ b10_bytes n10_bytes f10_bytes), (cI κ b10_steps n10_steps f10_steps)] → va_S A s.heap H locs → ∀ ls : Array Slot, lv_has ls 3 [(2, .int k1), (1, .int k2), (0, .ref a10)] → W p l e ({ frames := 1, cells := 0, slots := 0, locals := 21 } : Room) s m args below meth c H locs 0 0 Q (F0 m 4 ls []) := by
    intro n4
    induction n4 with
    | zero =>
      intro k1 k2 v3 h4 h5 m6
      exact absurd m6 (Nat.not_lt_zero _)
    | succ n4 ih4 =>
      intro k1 k2 v3 h4 h5 m6 H locs hP hD hS ls hl
      refine lv_iload_n hx hb dX10_readNumber_4 rfl (lv_at hl 0 rfl) ?_
      refine lv_iconst (v := 4) hx hb dX10_readNumber_5 (by decide) ?_
      refine lv_icmp_ge (tgt := 48) hx hb dX10_readNumber_6 (by decide) (fun c7 => ?_) (fun c7 => ?_)
      · have c7 := ci_le c7
        refine lv_aload_n hx hb dX10_readNumber_48 rfl (lv_at hl 2 rfl) ?_
        refine lv_iload_n hx hb dX10_readNumber_49 rfl (lv_at hl 1 rfl) ?_
        refine kcm_v hA hAB hP hD hS [true, false, true] rfl (fun _ => rfl) (fun hPc hDc => va_runV (As := [.int k2]) (rest := []) ⟨hx, hb, hml, hown, hts⟩ (k_X10_step l D κ β a10 r10 b10_bytes v10_count v3 b10_steps v10_size n10_steps f10_steps H.size k2 i1 h4 i3 i6) (cwV 1 hts gX10_readNumber_X10_step rfl rfl rfl (by decide +kernel) ⟨Nat.le_of_ble_eq_true rfl, Nat.le_of_ble_eq_true rfl⟩) (pk_V hK hS hAB hPc hDc 0 (ci := 10) rfl rfl rfl) rfl rfl hl.1 rfl (lv_room (Nat.le_of_ble_eq_true rfl)) dX10_readNumber_50 ⟨Nat.le_of_ble_eq_true rfl, Nat.le_of_ble_eq_true rfl⟩) (fun u11 H locs hw hPD hS => ?_)
        obtain ⟨x8, g10⟩ := u11
        have h12 : Rg 0 4096 x8 := hw
        obtain ⟨hP, hD⟩ : PD D A [O10 a10 r10 b10_bytes v10_count v3 b10_steps x8, (cB κ b10_bytes n10_bytes f10_bytes), (cI κ b10_steps n10_steps g10)] H := hPD
        refine lv_iconst (v := 1) hx hb dX10_readNumber_53 (by decide) ?_
        have hpo : (0 ≤ v3.toInt ∧ v3.toInt ≤ 2048) ∧ (0 ≤ x8.toInt ∧ x8.toInt ≤ 4096) ∧ ((1 : Int32).toInt = 0 ∨ (1 : Int32).toInt = 1) := ⟨h4, h12, (by omega)⟩
        exact ret _ _ _ _ 1 (v3, x8, g10) dX10_readNumber_54 (by omega) hpo hP hD hS
      have c7 := ci_nle c7
      refine lv_aload_n hx hb dX10_readNumber_9 rfl (lv_at hl 2 rfl) ?_
      refine kcm_i hA hAB hP hD hS [true, true, false] rfl (fun _ => rfl) (fun hPc hDc => va_runV (As := []) (rest := []) ⟨hx, hb, hml, hown, hts⟩ (k_X10_sign l D κ β a10 r10 b10_bytes v10_count v3 b10_steps v10_size n10_bytes f10_bytes H.size i1 h4 i3 hf10_bytes i4 i5) (cwV 0 hts gX10_readNumber_X10_sign rfl rfl rfl (by decide +kernel) ⟨Nat.le_of_ble_eq_true rfl, Nat.le_of_ble_eq_true rfl⟩) (pk_V hK hS hAB hPc hDc 0 (ci := 10) rfl rfl rfl) rfl rfl hl.1 rfl (lv_room (Nat.le_of_ble_eq_true rfl)) dX10_readNumber_10 ⟨Nat.le_of_ble_eq_true rfl, Nat.le_of_ble_eq_true rfl⟩) (fun x13 u14 H locs hw hPD hS => ?_)
      have h15 : (x13.toInt = -1 ∧ v10_count.toInt ≤ v3.toInt) ∨ (0 ≤ x13.toInt ∧ x13.toInt ≤ 255 ∧ v3.toInt < v10_count.toInt) := hw
      obtain ⟨hP, hD⟩ : PD D A [O10 a10 r10 b10_bytes v10_count v3 b10_steps v10_size, (cB κ b10_bytes n10_bytes f10_bytes), (cI κ b10_steps n10_steps f10_steps)] H := hPD
      refine kcm_i hA hAB hP hD hS [false, false, false] rfl (fun _ => rfl) (fun hPc hDc => va_runS (As := [.int x13]) (rest := []) ⟨hx, hb, hml, hown, hts⟩ (k_X10_isDigit l D κ β H.size x13) (va_cwS 1 hts gX10_readNumber_X10_isDigit rfl rfl rfl (by decide +kernel) ⟨Nat.le_of_ble_eq_true rfl, Nat.le_of_ble_eq_true rfl⟩) (pk_S hK hS hAB hPc hDc) rfl rfl hl.1 rfl (lv_room (Nat.le_of_ble_eq_true rfl)) dX10_readNumber_13 ⟨Nat.le_of_ble_eq_true rfl, Nat.le_of_ble_eq_true rfl⟩) (fun x16 u17 H locs hw hPD hS => ?_)
      have h18 : (x16.toInt = 1 ∧ 48 ≤ x13.toInt) ∨ x16.toInt = 0 := hw
      obtain ⟨hP, hD⟩ : PD D A [O10 a10 r10 b10_bytes v10_count v3 b10_steps v10_size, (cB κ b10_bytes n10_bytes f10_bytes), (cI κ b10_steps n10_steps f10_steps)] H := hPD
      refine lv_if_eq (tgt := 48) hx hb dX10_readNumber_16 (by decide) (fun c19 => ?_) (fun c19 => ?_)
      · have c19 := ci_eq c19
        refine lv_aload_n hx hb dX10_readNumber_48 rfl (lv_at hl 2 rfl) ?_
        refine lv_iload_n hx hb dX10_readNumber_49 rfl (lv_at hl 1 rfl) ?_
        refine kcm_v hA hAB hP hD hS [true, false, true] rfl (fun _ => rfl) (fun hPc hDc => va_runV (As := [.int k2]) (rest := []) ⟨hx, hb, hml, hown, hts⟩ (k_X10_step l D κ β a10 r10 b10_bytes v10_count v3 b10_steps v10_size n10_steps f10_steps H.size k2 i1 h4 i3 i6) (cwV 1 hts gX10_readNumber_X10_step rfl rfl rfl (by decide +kernel) ⟨Nat.le_of_ble_eq_true rfl, Nat.le_of_ble_eq_true rfl⟩) (pk_V hK hS hAB hPc hDc 0 (ci := 10) rfl rfl rfl) rfl rfl hl.1 rfl (lv_room (Nat.le_of_ble_eq_true rfl)) dX10_readNumber_50 ⟨Nat.le_of_ble_eq_true rfl, Nat.le_of_ble_eq_true rfl⟩) (fun u22 H locs hw hPD hS => ?_)
        obtain ⟨x20, g21⟩ := u22
        have h23 : Rg 0 4096 x20 := hw
        obtain ⟨hP, hD⟩ : PD D A [O10 a10 r10 b10_bytes v10_count v3 b10_steps x20, (cB κ b10_bytes n10_bytes f10_bytes), (cI κ b10_steps n10_steps g21)] H := hPD
        refine lv_iconst (v := 1) hx hb dX10_readNumber_53 (by decide) ?_
        have hpo : (0 ≤ v3.toInt ∧ v3.toInt ≤ 2048) ∧ (0 ≤ x20.toInt ∧ x20.toInt ≤ 4096) ∧ ((1 : Int32).toInt = 0 ∨ (1 : Int32).toInt = 1) := ⟨h4, h23, (by omega)⟩
        exact ret _ _ _ _ 1 (v3, x20, g21) dX10_readNumber_54 (by omega) hpo hP hD hS
      have c19 := ci_ne c19
      refine lv_iload_n hx hb dX10_readNumber_19 rfl (lv_at hl 1 rfl) ?_
      refine lv_bipush (v := 10) hx hb dX10_readNumber_20 (by decide) ?_
      refine lv_imul hx hb dX10_readNumber_22 ?_
      refine lv_topi (fun x24 e25 => ?_)
      try have h26 : x24.toInt = 10 * k2.toInt := ci_mulR (n := 10) (by decide) e25 (by omega) (by omega)
      refine lv_aload_n hx hb dX10_readNumber_23 rfl (lv_at hl 2 rfl) ?_
      refine kcm_i hA hAB hP hD hS [true, true, false] rfl (fun _ => rfl) (fun hPc hDc => va_runV (As := []) (rest := [.int x24]) ⟨hx, hb, hml, hown, hts⟩ (k_X10_sign l D κ β a10 r10 b10_bytes v10_count v3 b10_steps v10_size n10_bytes f10_bytes H.size i1 h4 i3 hf10_bytes i4 i5) (cwV 0 hts gX10_readNumber_X10_sign rfl rfl rfl (by decide +kernel) ⟨Nat.le_of_ble_eq_true rfl, Nat.le_of_ble_eq_true rfl⟩) (pk_V hK hS hAB hPc hDc 0 (ci := 10) rfl rfl rfl) rfl rfl hl.1 rfl (lv_room (Nat.le_of_ble_eq_true rfl)) dX10_readNumber_24 ⟨Nat.le_of_ble_eq_true rfl, Nat.le_of_ble_eq_true rfl⟩) (fun x27 u28 H locs hw hPD hS => ?_)
      have h29 : (x27.toInt = -1 ∧ v10_count.toInt ≤ v3.toInt) ∨ (0 ≤ x27.toInt ∧ x27.toInt ≤ 255 ∧ v3.toInt < v10_count.toInt) := hw
      obtain ⟨hP, hD⟩ : PD D A [O10 a10 r10 b10_bytes v10_count v3 b10_steps v10_size, (cB κ b10_bytes n10_bytes f10_bytes), (cI κ b10_steps n10_steps f10_steps)] H := hPD
      refine lv_iadd hx hb dX10_readNumber_27 ?_
      refine lv_topi (fun x30 e31 => ?_)
      try have h32 : x30.toInt = x24.toInt + x27.toInt := ci_add e31 (by omega) (by omega)
      refine lv_bipush (v := 48) hx hb dX10_readNumber_28 (by decide) ?_
      refine lv_isub hx hb dX10_readNumber_30 ?_
      refine lv_topi (fun x33 e34 => ?_)
      try have h35 : x33.toInt = x30.toInt - (48 : Int32).toInt := ci_sub e34 (by omega) (by omega)
      refine lv_istore_n (lv' := [(1, .int x33), (2, .int k1), (0, .ref a10)]) hx hb dX10_readNumber_31 rfl hl (by decide) rfl (fun ls hl => ?_)
      refine lv_aload_n hx hb dX10_readNumber_32 rfl (lv_at hl 2 rfl) ?_
      refine lv_dup hx hb dX10_readNumber_33 rfl ?_
      refine va_get (D := D) (ci := 10) (v := .int v3) (C := RX10) (T := TX10) (N := 5) hx hb hts w1 hown hK.1 hP 0 rfl rfl 2 (by decide) w0 (fun _ h9 => h9) rfl dX10_readNumber_34 ?_
      refine lv_iconst (v := 1) hx hb dX10_readNumber_37 (by decide) ?_
      refine lv_iadd hx hb dX10_readNumber_38 ?_
      refine lv_topi (fun x36 e37 => ?_)
      try have h38 : x36.toInt = v3.toInt + (1 : Int32).toInt := ci_add e37 (by omega) (by omega)
      refine va_put (D := D) (ci := 10) (v := .int x36) (ty := .int) (C := RX10) (T := TX10) (N := 5) hx hb hts w1 tyX10 tyX10_ok nmX10 hown hK.1 hP hD hS 0 rfl rfl 2 (by decide) w0 (fun _ h9 => h9) rfl (by decide +kernel) rfl rfl (Nat.le_of_ble_eq_true rfl) dX10_readNumber_39 (fun H locs hP hD hS => ?_)
      obtain ⟨hP, hD⟩ : PD D A [O10 a10 r10 b10_bytes v10_count x36 b10_steps v10_size, (cB κ b10_bytes n10_bytes f10_bytes), (cI κ b10_steps n10_steps f10_steps)] H := ⟨hP, hD⟩
      have h39 : 0 ≤ x36.toInt ∧ x36.toInt ≤ 2048 := by omega
      obtain ⟨x40, e41⟩ : ∃ y : Int32, y = k1 + 1 := ⟨_, rfl⟩
      refine lv_iinc (v := x40) (lv' := [(2, .int x40), (1, .int x33), (0, .ref a10)]) hx hb dX10_readNumber_42 hl (k := 1) rfl (by rw [e41]; rfl) (by decide) rfl (fun ls hl => ?_)
      try have h42 : x40.toInt = k1.toInt + (1 : Int32).toInt := ci_add e41 (by omega) (by omega)
      refine lv_goto (tgt := 4) hx hb dX10_readNumber_45 (by decide) ?_
      exact ih4 x40 x33 x36 h39 (by omega) (by omega) _ _ hP hD hS _ hl
  exact lp4 ((4 - (0 : Int32).toInt).toNat + 1) 0 0 v10_at i2 (by omega) (by omega) _ _ hP hD hS _ hl
def C_X10_lv (l : Launch) (D : va_G) (κ : Nat → ClassId) (β d : Nat) : Prop := ∀ (a10 : Nat) (r10 : Nat → Nat) (b10_bytes : Nat) (v10_count : Int32) (v10_at : Int32) (b10_steps : Nat) (v10_size : Int32) (n10_bytes : Nat) (f10_bytes : Nat → Int32) (n10_steps : Nat) (f10_steps : Nat → Int32) (sz : Nat) (p1 : Int32) (p2 : Int32) (i1 : Rg 0 2048 v10_count) (i2 : Rg 0 2048 v10_at) (i3 : Rg 0 4096 v10_size) (hf10_bytes : ∀ j : Nat, -128 ≤ (f10_bytes j).toInt ∧ (f10_bytes j).toInt ≤ 127) (i4 : v10_count.toInt ≤ ((n10_bytes : Nat) : Int)) (i5 : 64 ≤ ((n10_bytes : Nat) : Int) ∧ ((n10_bytes : Nat) : Int) ≤ 4096) (i6 : ((n10_steps : Nat) : Int) ≤ 2049) (i7 : 0 ≤ p1.toInt ∧ p1.toInt ≤ 5 ∧ 0 ≤ p2.toInt ∧ p2.toInt ≤ 6) (i8 : 8 * (6 - p2.toInt) + (6 - p1.toInt) ≤ d), Met l yX10_readLevel wsX10_readLevel ({ frames := d + 8, cells := 0, slots := 0, locals := 30 * d + 200 } : Room) (PcK D κ β [O10 a10 r10 b10_bytes v10_count v10_at b10_steps v10_size, (cB κ b10_bytes n10_bytes f10_bytes), (cI κ b10_steps n10_steps f10_steps)] sz [.ref a10, .int p1, .int p2]) (QiK D (fun (r : Int32) (u : Int32 × Int32 × (Nat → Int32)) => (0 ≤ u.1.toInt ∧ u.1.toInt ≤ 2048) ∧ (0 ≤ u.2.1.toInt ∧ u.2.1.toInt ≤ 4096) ∧ (r.toInt = 0 ∨ r.toInt = 1)) (fun (u : Int32 × Int32 × (Nat → Int32)) => [O10 a10 r10 b10_bytes v10_count u.1 b10_steps u.2.1, (cB κ b10_bytes n10_bytes f10_bytes), (cI κ b10_steps n10_steps u.2.2)]) [O10 a10 r10 b10_bytes v10_count v10_at b10_steps v10_size, (cB κ b10_bytes n10_bytes f10_bytes), (cI κ b10_steps n10_steps f10_steps)] sz) 0 0 (va_A [O10 a10 r10 b10_bytes v10_count v10_at b10_steps v10_size, (cB κ b10_bytes n10_bytes f10_bytes), (cI κ b10_steps n10_steps f10_steps)] sz)
def C_X10_op (l : Launch) (D : va_G) (κ : Nat → ClassId) (β d : Nat) : Prop := ∀ (a10 : Nat) (r10 : Nat → Nat) (b10_bytes : Nat) (v10_count : Int32) (v10_at : Int32) (b10_steps : Nat) (v10_size : Int32) (n10_bytes : Nat) (f10_bytes : Nat → Int32) (n10_steps : Nat) (f10_steps : Nat → Int32) (sz : Nat) (p1 : Int32) (i1 : Rg 0 2048 v10_count) (i2 : Rg 0 2048 v10_at) (i3 : Rg 0 4096 v10_size) (hf10_bytes : ∀ j : Nat, -128 ≤ (f10_bytes j).toInt ∧ (f10_bytes j).toInt ≤ 127) (i4 : v10_count.toInt ≤ ((n10_bytes : Nat) : Int)) (i5 : 64 ≤ ((n10_bytes : Nat) : Int) ∧ ((n10_bytes : Nat) : Int) ≤ 4096) (i6 : ((n10_steps : Nat) : Int) ≤ 2049) (i7 : 0 ≤ p1.toInt ∧ p1.toInt ≤ 6) (i8 : 8 * (6 - p1.toInt) ≤ d), Met l yX10_readOperand wsX10_readOperand ({ frames := d + 8, cells := 0, slots := 0, locals := 30 * d + 200 } : Room) (PcK D κ β [O10 a10 r10 b10_bytes v10_count v10_at b10_steps v10_size, (cB κ b10_bytes n10_bytes f10_bytes), (cI κ b10_steps n10_steps f10_steps)] sz [.ref a10, .int p1]) (QiK D (fun (r : Int32) (u : Int32 × Int32 × (Nat → Int32)) => (0 ≤ u.1.toInt ∧ u.1.toInt ≤ 2048) ∧ (0 ≤ u.2.1.toInt ∧ u.2.1.toInt ≤ 4096) ∧ (r.toInt = 0 ∨ r.toInt = 1)) (fun (u : Int32 × Int32 × (Nat → Int32)) => [O10 a10 r10 b10_bytes v10_count u.1 b10_steps u.2.1, (cB κ b10_bytes n10_bytes f10_bytes), (cI κ b10_steps n10_steps u.2.2)]) [O10 a10 r10 b10_bytes v10_count v10_at b10_steps v10_size, (cB κ b10_bytes n10_bytes f10_bytes), (cI κ b10_steps n10_steps f10_steps)] sz) 0 0 (va_A [O10 a10 r10 b10_bytes v10_count v10_at b10_steps v10_size, (cB κ b10_bytes n10_bytes f10_bytes), (cI κ b10_steps n10_steps f10_steps)] sz)
set_option maxHeartbeats 4000000 in
set_option maxRecDepth 100000 in
theorem of_X10_lv (l : Launch) (D : va_G) (κ : Nat → ClassId) (β d : Nat) (h_lv : C_X10_lv l D κ β d) (h_op : C_X10_op l D κ β d) : C_X10_lv l D κ β (d + 1) := by
  intro a10 r10 b10_bytes v10_count v10_at b10_steps v10_size n10_bytes f10_bytes n10_steps f10_steps sz p1 p2 i1 i2 i3 hf10_bytes i4 i5 i6 i7 i8
  refine ofK_z (cc := cX10_readLevel) (maxL := 6) (own := RX10) (by decide) rfl rfl (Nat.le_of_ble_eq_true rfl) ?_
  intro p e s m args below meth c Q A ls hsz hx hb hml hts hown hK hA hAB hP hD hl ret
  have hS : va_S A s.heap s.heap [] := va_S.rf
  have hl : lv_has ls 6 [(0, .ref a10), (1, .int p1), (2, .int p2)] := hl
  have w0 := hts (.fieldLink RX10 19 "OlderSkin$Tape" "count" "I") (List.mem_of_getElem? (i := 1) rfl)
  have w1 := (fun w h => List.mem_cons_of_mem _ (List.mem_append_right _ h) : ∀ w ∈ u_ws RX10 TX10 5, w ∈ wsX10_readLevel)
  have w2 := hts (.fieldLink RX10 29 "OlderSkin$Tape" "at" "I") (List.mem_of_getElem? (i := 2) rfl)
  have l0 : (4 : Int32).toInt = 4 := by decide
  have l1 : (0 : Int32).toInt = 0 := by decide
  have l2 : (1 : Int32).toInt = 1 := by decide
  have l3 : (2 : Int32).toInt = 2 := by decide
  have i1 : 0 ≤ v10_count.toInt ∧ v10_count.toInt ≤ 2048 := i1
  have i2 : 0 ≤ v10_at.toInt ∧ v10_at.toInt ≤ 2048 := i2
  refine lv_iload_n hx hb dX10_readLevel_0 rfl (lv_at hl 1 rfl) ?_
  refine lv_iconst (v := 4) hx hb dX10_readLevel_1 (by decide) ?_
  refine lv_icmp_le (tgt := 11) hx hb dX10_readLevel_2 (by decide) (fun c1 => ?_) (fun c1 => ?_)
  · have c1 := ci_le c1
    refine lv_aload_n hx hb dX10_readLevel_11 rfl (lv_at hl 0 rfl) ?_
    refine lv_iload_n hx hb dX10_readLevel_12 rfl (lv_at hl 1 rfl) ?_
    refine lv_iconst (v := 1) hx hb dX10_readLevel_13 (by decide) ?_
    refine lv_iadd hx hb dX10_readLevel_14 ?_
    refine lv_topi (fun x2 e3 => ?_)
    try have h4 : x2.toInt = p1.toInt + (1 : Int32).toInt := ci_add e3 (by omega) (by omega)
    refine lv_iload_n hx hb dX10_readLevel_15 rfl (lv_at hl 2 rfl) ?_
    refine kcm_i hA hAB hP hD hS [true, true, true] rfl (fun _ => rfl) (fun hPc hDc => va_runV (As := [.int x2, .int p2]) (rest := []) ⟨hx, hb, hml, hown, hts⟩ (h_lv a10 r10 b10_bytes v10_count v10_at b10_steps v10_size n10_bytes f10_bytes n10_steps f10_steps s.heap.size x2 p2 i1 i2 i3 hf10_bytes i4 i5 i6 (by omega) (by omega)) (cwV 2 hts gX10_readLevel_X10_readLevel rfl rfl rfl (by decide +kernel) ⟨by dsimp only; omega, by dsimp only; omega⟩) (pk_V hK hS hAB hPc hDc 0 (ci := 10) rfl rfl rfl) rfl rfl hl.1 rfl (lv_room (Nat.le_of_ble_eq_true rfl)) dX10_readLevel_16 ⟨Nat.le_of_ble_eq_true rfl, Nat.le_of_ble_eq_true rfl⟩) (fun x8 u9 H locs hw hPD hS => ?_)
    obtain ⟨x5, x6, g7⟩ := u9
    obtain ⟨h10, h11, h12⟩ : (0 ≤ x5.toInt ∧ x5.toInt ≤ 2048) ∧ (Rg 0 4096 x6) ∧ (x8.toInt = 0 ∨ x8.toInt = 1) := hw
    obtain ⟨hP, hD⟩ : PD D A [O10 a10 r10 b10_bytes v10_count x5 b10_steps x6, (cB κ b10_bytes n10_bytes f10_bytes), (cI κ b10_steps n10_steps g7)] H := hPD
    refine lv_if_ne (tgt := 24) hx hb dX10_readLevel_19 (by decide) (fun c13 => ?_) (fun c13 => ?_)
    · have c13 := ci_ne c13
      refine lv_iload_n hx hb dX10_readLevel_24 rfl (lv_at hl 1 rfl) ?_
      refine lv_iconst (v := 2) hx hb dX10_readLevel_25 (by decide) ?_
      refine lv_icmp_ne (tgt := 33) hx hb dX10_readLevel_26 (by decide) (fun c14 => ?_) (fun c14 => ?_)
      · have c14 := ci_ne c14
        refine lv_aload_n hx hb dX10_readLevel_33 rfl (lv_at hl 0 rfl) ?_
        refine va_get (D := D) (ci := 10) (v := .int v10_count) (C := RX10) (T := TX10) (N := 5) hx hb hts w1 hown hK.1 hP 0 rfl rfl 1 (by decide) w0 (fun _ h9 => h9) rfl dX10_readLevel_34 ?_
        refine lv_istore_n (lv' := [(3, .int v10_count), (0, .ref a10), (1, .int p1), (2, .int p2)]) hx hb dX10_readLevel_37 rfl hl (by decide) rfl (fun ls hl => ?_)
        refine lv_iconst (v := 0) hx hb dX10_readLevel_38 (by decide) ?_
        refine lv_istore (lv' := [(4, .int 0), (3, .int v10_count), (0, .ref a10), (1, .int p1), (2, .int p2)]) hx hb dX10_readLevel_39 hl (by decide) rfl (fun ls hl => ?_)
        have lp41 : ∀ (n41 : Nat) (k15 : Int32) (v16 : Int32) (v17 : Int32) (g18 : Nat → Int32), (0 ≤ v16.toInt ∧ v16.toInt ≤ 2048) → (Rg 0 4096 v17) → (0 ≤ k15.toInt) → (v10_count.toInt - k15.toInt).toNat < n41 → ∀ (H : Heap) (locs : List Loc), va_P D vwCl [O10 a10 r10 b10_bytes v10_count v16 b10_steps v17, (cB κ b10_bytes n10_bytes f10_bytes), (cI κ b10_steps n10_steps g18)] H → va_D A [O10 a10 r10 b10_bytes v10_count v16 b10_steps v17, (cB κ b10_bytes n10_bytes f10_bytes), (cI κ b10_steps n10_steps g18)] → va_S A s.heap H locs → ∀ ls : Array Slot, lv_has ls 6 [(4, .int k15), (3, .int v10_count), (0, .ref a10), (1, .int p1), (2, .int p2)] → W p l e ({ frames := (d + 1) + 8, cells := 0, slots := 0, locals := 30 * (d + 1) + 200 } : Room) s m args below meth c H locs 0 0 Q (F0 m 41 ls []) := by
          intro n41
          induction n41 with
          | zero =>
            intro k15 v16 v17 g18 h19 h20 h21 m22
            exact absurd m22 (Nat.not_lt_zero _)
          | succ n41 ih41 =>
            intro k15 v16 v17 g18 h19 h20 h21 m22 H locs hP hD hS ls hl
            refine lv_iload hx hb dX10_readLevel_41 (lv_at hl 0 rfl) ?_
            refine lv_iload_n hx hb dX10_readLevel_43 rfl (lv_at hl 1 rfl) ?_
            refine lv_icmp_ge (tgt := 100) hx hb dX10_readLevel_44 (by decide) (fun c23 => ?_) (fun c23 => ?_)
            · have c23 := ci_le c23
              refine lv_iconst (v := 1) hx hb dX10_readLevel_100 (by decide) ?_
              have hpo : (0 ≤ v16.toInt ∧ v16.toInt ≤ 2048) ∧ (0 ≤ v17.toInt ∧ v17.toInt ≤ 4096) ∧ ((1 : Int32).toInt = 0 ∨ (1 : Int32).toInt = 1) := ⟨h19, h20, (by omega)⟩
              exact ret _ _ _ _ 1 (v16, v17, g18) dX10_readLevel_101 (by omega) hpo hP hD hS
            have c23 := ci_nle c23
            refine lv_aload_n hx hb dX10_readLevel_47 rfl (lv_at hl 2 rfl) ?_
            refine kcm_i hA hAB hP hD hS [true, true, false] rfl (fun _ => rfl) (fun hPc hDc => va_runV (As := []) (rest := []) ⟨hx, hb, hml, hown, hts⟩ (k_X10_sign l D κ β a10 r10 b10_bytes v10_count v16 b10_steps v17 n10_bytes f10_bytes H.size i1 h19 h20 hf10_bytes i4 i5) (cwV 0 hts gX10_readLevel_X10_sign rfl rfl rfl (by decide +kernel) ⟨by dsimp only; omega, by dsimp only; omega⟩) (pk_V hK hS hAB hPc hDc 0 (ci := 10) rfl rfl rfl) rfl rfl hl.1 rfl (lv_room (Nat.le_of_ble_eq_true rfl)) dX10_readLevel_48 ⟨Nat.le_of_ble_eq_true rfl, Nat.le_of_ble_eq_true rfl⟩) (fun x24 u25 H locs hw hPD hS => ?_)
            have h26 : (x24.toInt = -1 ∧ v10_count.toInt ≤ v16.toInt) ∨ (0 ≤ x24.toInt ∧ x24.toInt ≤ 255 ∧ v16.toInt < v10_count.toInt) := hw
            obtain ⟨hP, hD⟩ : PD D A [O10 a10 r10 b10_bytes v10_count v16 b10_steps v17, (cB κ b10_bytes n10_bytes f10_bytes), (cI κ b10_steps n10_steps g18)] H := hPD
            refine lv_istore (lv' := [(5, .int x24), (4, .int k15), (3, .int v10_count), (0, .ref a10), (1, .int p1), (2, .int p2)]) hx hb dX10_readLevel_51 hl (by decide) rfl (fun ls hl => ?_)
            refine lv_iload hx hb dX10_readLevel_53 (lv_at hl 0 rfl) ?_
            refine kcm_i hA hAB hP hD hS [false, false, false] rfl (fun _ => rfl) (fun hPc hDc => va_runS (As := [.int x24]) (rest := []) ⟨hx, hb, hml, hown, hts⟩ (k_X10_levelOf l D κ β H.size x24) (va_cwS 1 hts gX10_readLevel_X10_levelOf rfl rfl rfl (by decide +kernel) ⟨by dsimp only; omega, by dsimp only; omega⟩) (pk_S hK hS hAB hPc hDc) rfl rfl hl.1 rfl (lv_room (Nat.le_of_ble_eq_true rfl)) dX10_readLevel_55 ⟨Nat.le_of_ble_eq_true rfl, Nat.le_of_ble_eq_true rfl⟩) (fun x27 u28 H locs hw hPD hS => ?_)
            have h29 : x27.toInt = -1 ∨ (0 ≤ x27.toInt ∧ x27.toInt ≤ 4 ∧ 0 ≤ x24.toInt) := hw
            obtain ⟨hP, hD⟩ : PD D A [O10 a10 r10 b10_bytes v10_count v16 b10_steps v17, (cB κ b10_bytes n10_bytes f10_bytes), (cI κ b10_steps n10_steps g18)] H := hPD
            refine lv_iload_n hx hb dX10_readLevel_58 rfl (lv_at hl 4 rfl) ?_
            refine lv_icmp_eq (tgt := 64) hx hb dX10_readLevel_59 (by decide) (fun c30 => ?_) (fun c30 => ?_)
            · have c30 := ci_eq c30
              refine lv_aload_n hx hb dX10_readLevel_64 rfl (lv_at hl 3 rfl) ?_
              refine lv_dup hx hb dX10_readLevel_65 rfl ?_
              refine va_get (D := D) (ci := 10) (v := .int v16) (C := RX10) (T := TX10) (N := 5) hx hb hts w1 hown hK.1 hP 0 rfl rfl 2 (by decide) w2 (fun _ h9 => h9) rfl dX10_readLevel_66 ?_
              refine lv_iconst (v := 1) hx hb dX10_readLevel_69 (by decide) ?_
              refine lv_iadd hx hb dX10_readLevel_70 ?_
              refine lv_topi (fun x31 e32 => ?_)
              try have h33 : x31.toInt = v16.toInt + (1 : Int32).toInt := ci_add e32 (by omega) (by omega)
              refine va_put (D := D) (ci := 10) (v := .int x31) (ty := .int) (C := RX10) (T := TX10) (N := 5) hx hb hts w1 tyX10 tyX10_ok nmX10 hown hK.1 hP hD hS 0 rfl rfl 2 (by decide) w2 (fun _ h9 => h9) rfl (by decide +kernel) rfl rfl (Nat.le_of_ble_eq_true rfl) dX10_readLevel_71 (fun H locs hP hD hS => ?_)
              obtain ⟨hP, hD⟩ : PD D A [O10 a10 r10 b10_bytes v10_count x31 b10_steps v17, (cB κ b10_bytes n10_bytes f10_bytes), (cI κ b10_steps n10_steps g18)] H := ⟨hP, hD⟩
              have h34 : 0 ≤ x31.toInt ∧ x31.toInt ≤ 2048 := by omega
              refine lv_aload_n hx hb dX10_readLevel_74 rfl (lv_at hl 3 rfl) ?_
              refine lv_iload_n hx hb dX10_readLevel_75 rfl (lv_at hl 4 rfl) ?_
              refine lv_iconst (v := 1) hx hb dX10_readLevel_76 (by decide) ?_
              refine lv_iadd hx hb dX10_readLevel_77 ?_
              refine lv_topi (fun x35 e36 => ?_)
              try have h37 : x35.toInt = p1.toInt + (1 : Int32).toInt := ci_add e36 (by omega) (by omega)
              refine lv_iload_n hx hb dX10_readLevel_78 rfl (lv_at hl 5 rfl) ?_
              refine kcm_i hA hAB hP hD hS [true, true, true] rfl (fun _ => rfl) (fun hPc hDc => va_runV (As := [.int x35, .int p2]) (rest := []) ⟨hx, hb, hml, hown, hts⟩ (h_lv a10 r10 b10_bytes v10_count x31 b10_steps v17 n10_bytes f10_bytes n10_steps g18 H.size x35 p2 i1 h34 h20 hf10_bytes i4 i5 i6 (by omega) (by omega)) (cwV 2 hts gX10_readLevel_X10_readLevel rfl rfl rfl (by decide +kernel) ⟨by dsimp only; omega, by dsimp only; omega⟩) (pk_V hK hS hAB hPc hDc 0 (ci := 10) rfl rfl rfl) rfl rfl hl.1 rfl (lv_room (Nat.le_of_ble_eq_true rfl)) dX10_readLevel_79 ⟨Nat.le_of_ble_eq_true rfl, Nat.le_of_ble_eq_true rfl⟩) (fun x41 u42 H locs hw hPD hS => ?_)
              obtain ⟨x38, x39, g40⟩ := u42
              obtain ⟨h43, h44, h45⟩ : (0 ≤ x38.toInt ∧ x38.toInt ≤ 2048) ∧ (Rg 0 4096 x39) ∧ (x41.toInt = 0 ∨ x41.toInt = 1) := hw
              obtain ⟨hP, hD⟩ : PD D A [O10 a10 r10 b10_bytes v10_count x38 b10_steps x39, (cB κ b10_bytes n10_bytes f10_bytes), (cI κ b10_steps n10_steps g40)] H := hPD
              refine lv_if_ne (tgt := 87) hx hb dX10_readLevel_82 (by decide) (fun c46 => ?_) (fun c46 => ?_)
              · have c46 := ci_ne c46
                refine lv_aload_n hx hb dX10_readLevel_87 rfl (lv_at hl 3 rfl) ?_
                refine lv_iload hx hb dX10_readLevel_88 (lv_at hl 0 rfl) ?_
                refine lv_ineg hx hb dX10_readLevel_90 ?_
                refine lv_topi (fun x47 e48 => ?_)
                try have h49 : x47.toInt = -x24.toInt := ci_neg e48 (by omega)
                refine kcm_v hA hAB hP hD hS [true, false, true] rfl (fun _ => rfl) (fun hPc hDc => va_runV (As := [.int x47]) (rest := []) ⟨hx, hb, hml, hown, hts⟩ (k_X10_step l D κ β a10 r10 b10_bytes v10_count x38 b10_steps x39 n10_steps g40 H.size x47 i1 h43 h44 i6) (cwV 1 hts gX10_readLevel_X10_step rfl rfl rfl (by decide +kernel) ⟨by dsimp only; omega, by dsimp only; omega⟩) (pk_V hK hS hAB hPc hDc 0 (ci := 10) rfl rfl rfl) rfl rfl hl.1 rfl (lv_room (Nat.le_of_ble_eq_true rfl)) dX10_readLevel_91 ⟨Nat.le_of_ble_eq_true rfl, Nat.le_of_ble_eq_true rfl⟩) (fun u52 H locs hw hPD hS => ?_)
                obtain ⟨x50, g51⟩ := u52
                have h53 : Rg 0 4096 x50 := hw
                obtain ⟨hP, hD⟩ : PD D A [O10 a10 r10 b10_bytes v10_count x38 b10_steps x50, (cB κ b10_bytes n10_bytes f10_bytes), (cI κ b10_steps n10_steps g51)] H := hPD
                obtain ⟨x54, e55⟩ : ∃ y : Int32, y = k15 + 1 := ⟨_, rfl⟩
                refine lv_iinc (v := x54) (lv' := [(4, .int x54), (5, .int x24), (3, .int v10_count), (0, .ref a10), (1, .int p1), (2, .int p2)]) hx hb dX10_readLevel_94 hl (k := 1) rfl (by rw [e55]; rfl) (by decide) rfl (fun ls hl => ?_)
                try have h56 : x54.toInt = k15.toInt + (1 : Int32).toInt := ci_add e55 (by omega) (by omega)
                refine lv_goto (tgt := 41) hx hb dX10_readLevel_97 (by decide) ?_
                exact ih41 x54 x38 x50 g51 h43 h53 (by omega) (by omega) _ _ hP hD hS _ (lv_sub hl [0, 2, 3, 4, 5] rfl)
              have c46 := ci_eq c46
              refine lv_iconst (v := 0) hx hb dX10_readLevel_85 (by decide) ?_
              have hpo : (0 ≤ x38.toInt ∧ x38.toInt ≤ 2048) ∧ (0 ≤ x39.toInt ∧ x39.toInt ≤ 4096) ∧ ((0 : Int32).toInt = 0 ∨ (0 : Int32).toInt = 1) := ⟨h43, h44, (by omega)⟩
              exact ret _ _ _ _ 0 (x38, x39, g40) dX10_readLevel_86 (by omega) hpo hP hD hS
            have c30 := ci_ne c30
            refine lv_iconst (v := 1) hx hb dX10_readLevel_62 (by decide) ?_
            have hpo : (0 ≤ v16.toInt ∧ v16.toInt ≤ 2048) ∧ (0 ≤ v17.toInt ∧ v17.toInt ≤ 4096) ∧ ((1 : Int32).toInt = 0 ∨ (1 : Int32).toInt = 1) := ⟨h19, h20, (by omega)⟩
            exact ret _ _ _ _ 1 (v16, v17, g18) dX10_readLevel_63 (by omega) hpo hP hD hS
        exact lp41 ((v10_count.toInt - (0 : Int32).toInt).toNat + 1) 0 x5 x6 g7 h10 h11 (by omega) (by omega) _ _ hP hD hS _ hl
      have c14 := ci_eq c14
      refine lv_iconst (v := 1) hx hb dX10_readLevel_29 (by decide) ?_
      refine lv_goto (tgt := 37) hx hb dX10_readLevel_30 (by decide) ?_
      refine lv_istore_n (lv' := [(3, .int 1), (0, .ref a10), (1, .int p1), (2, .int p2)]) hx hb dX10_readLevel_37 rfl hl (by decide) rfl (fun ls hl => ?_)
      refine lv_iconst (v := 0) hx hb dX10_readLevel_38 (by decide) ?_
      refine lv_istore (lv' := [(4, .int 0), (3, .int 1), (0, .ref a10), (1, .int p1), (2, .int p2)]) hx hb dX10_readLevel_39 hl (by decide) rfl (fun ls hl => ?_)
      have lp41 : ∀ (n41 : Nat) (k57 : Int32) (v58 : Int32) (v59 : Int32) (g60 : Nat → Int32), (0 ≤ v58.toInt ∧ v58.toInt ≤ 2048) → (Rg 0 4096 v59) → (0 ≤ k57.toInt) → (1 - k57.toInt).toNat < n41 → ∀ (H : Heap) (locs : List Loc), va_P D vwCl [O10 a10 r10 b10_bytes v10_count v58 b10_steps v59, (cB κ b10_bytes n10_bytes f10_bytes), (cI κ b10_steps n10_steps g60)] H → va_D A [O10 a10 r10 b10_bytes v10_count v58 b10_steps v59, (cB κ b10_bytes n10_bytes f10_bytes), (cI κ b10_steps n10_steps g60)] → va_S A s.heap H locs → ∀ ls : Array Slot, lv_has ls 6 [(4, .int k57), (3, .int 1), (0, .ref a10), (1, .int p1), (2, .int p2)] → W p l e ({ frames := (d + 1) + 8, cells := 0, slots := 0, locals := 30 * (d + 1) + 200 } : Room) s m args below meth c H locs 0 0 Q (F0 m 41 ls []) := by
        intro n41
        induction n41 with
        | zero =>
          intro k57 v58 v59 g60 h61 h62 h63 m64
          exact absurd m64 (Nat.not_lt_zero _)
        | succ n41 ih41 =>
          intro k57 v58 v59 g60 h61 h62 h63 m64 H locs hP hD hS ls hl
          refine lv_iload hx hb dX10_readLevel_41 (lv_at hl 0 rfl) ?_
          refine lv_iload_n hx hb dX10_readLevel_43 rfl (lv_at hl 1 rfl) ?_
          refine lv_icmp_ge (tgt := 100) hx hb dX10_readLevel_44 (by decide) (fun c65 => ?_) (fun c65 => ?_)
          · have c65 := ci_le c65
            refine lv_iconst (v := 1) hx hb dX10_readLevel_100 (by decide) ?_
            have hpo : (0 ≤ v58.toInt ∧ v58.toInt ≤ 2048) ∧ (0 ≤ v59.toInt ∧ v59.toInt ≤ 4096) ∧ ((1 : Int32).toInt = 0 ∨ (1 : Int32).toInt = 1) := ⟨h61, h62, (by omega)⟩
            exact ret _ _ _ _ 1 (v58, v59, g60) dX10_readLevel_101 (by omega) hpo hP hD hS
          have c65 := ci_nle c65
          refine lv_aload_n hx hb dX10_readLevel_47 rfl (lv_at hl 2 rfl) ?_
          refine kcm_i hA hAB hP hD hS [true, true, false] rfl (fun _ => rfl) (fun hPc hDc => va_runV (As := []) (rest := []) ⟨hx, hb, hml, hown, hts⟩ (k_X10_sign l D κ β a10 r10 b10_bytes v10_count v58 b10_steps v59 n10_bytes f10_bytes H.size i1 h61 h62 hf10_bytes i4 i5) (cwV 0 hts gX10_readLevel_X10_sign rfl rfl rfl (by decide +kernel) ⟨by dsimp only; omega, by dsimp only; omega⟩) (pk_V hK hS hAB hPc hDc 0 (ci := 10) rfl rfl rfl) rfl rfl hl.1 rfl (lv_room (Nat.le_of_ble_eq_true rfl)) dX10_readLevel_48 ⟨Nat.le_of_ble_eq_true rfl, Nat.le_of_ble_eq_true rfl⟩) (fun x66 u67 H locs hw hPD hS => ?_)
          have h68 : (x66.toInt = -1 ∧ v10_count.toInt ≤ v58.toInt) ∨ (0 ≤ x66.toInt ∧ x66.toInt ≤ 255 ∧ v58.toInt < v10_count.toInt) := hw
          obtain ⟨hP, hD⟩ : PD D A [O10 a10 r10 b10_bytes v10_count v58 b10_steps v59, (cB κ b10_bytes n10_bytes f10_bytes), (cI κ b10_steps n10_steps g60)] H := hPD
          refine lv_istore (lv' := [(5, .int x66), (4, .int k57), (3, .int 1), (0, .ref a10), (1, .int p1), (2, .int p2)]) hx hb dX10_readLevel_51 hl (by decide) rfl (fun ls hl => ?_)
          refine lv_iload hx hb dX10_readLevel_53 (lv_at hl 0 rfl) ?_
          refine kcm_i hA hAB hP hD hS [false, false, false] rfl (fun _ => rfl) (fun hPc hDc => va_runS (As := [.int x66]) (rest := []) ⟨hx, hb, hml, hown, hts⟩ (k_X10_levelOf l D κ β H.size x66) (va_cwS 1 hts gX10_readLevel_X10_levelOf rfl rfl rfl (by decide +kernel) ⟨by dsimp only; omega, by dsimp only; omega⟩) (pk_S hK hS hAB hPc hDc) rfl rfl hl.1 rfl (lv_room (Nat.le_of_ble_eq_true rfl)) dX10_readLevel_55 ⟨Nat.le_of_ble_eq_true rfl, Nat.le_of_ble_eq_true rfl⟩) (fun x69 u70 H locs hw hPD hS => ?_)
          have h71 : x69.toInt = -1 ∨ (0 ≤ x69.toInt ∧ x69.toInt ≤ 4 ∧ 0 ≤ x66.toInt) := hw
          obtain ⟨hP, hD⟩ : PD D A [O10 a10 r10 b10_bytes v10_count v58 b10_steps v59, (cB κ b10_bytes n10_bytes f10_bytes), (cI κ b10_steps n10_steps g60)] H := hPD
          refine lv_iload_n hx hb dX10_readLevel_58 rfl (lv_at hl 4 rfl) ?_
          refine lv_icmp_eq (tgt := 64) hx hb dX10_readLevel_59 (by decide) (fun c72 => ?_) (fun c72 => ?_)
          · have c72 := ci_eq c72
            refine lv_aload_n hx hb dX10_readLevel_64 rfl (lv_at hl 3 rfl) ?_
            refine lv_dup hx hb dX10_readLevel_65 rfl ?_
            refine va_get (D := D) (ci := 10) (v := .int v58) (C := RX10) (T := TX10) (N := 5) hx hb hts w1 hown hK.1 hP 0 rfl rfl 2 (by decide) w2 (fun _ h9 => h9) rfl dX10_readLevel_66 ?_
            refine lv_iconst (v := 1) hx hb dX10_readLevel_69 (by decide) ?_
            refine lv_iadd hx hb dX10_readLevel_70 ?_
            refine lv_topi (fun x73 e74 => ?_)
            try have h75 : x73.toInt = v58.toInt + (1 : Int32).toInt := ci_add e74 (by omega) (by omega)
            refine va_put (D := D) (ci := 10) (v := .int x73) (ty := .int) (C := RX10) (T := TX10) (N := 5) hx hb hts w1 tyX10 tyX10_ok nmX10 hown hK.1 hP hD hS 0 rfl rfl 2 (by decide) w2 (fun _ h9 => h9) rfl (by decide +kernel) rfl rfl (Nat.le_of_ble_eq_true rfl) dX10_readLevel_71 (fun H locs hP hD hS => ?_)
            obtain ⟨hP, hD⟩ : PD D A [O10 a10 r10 b10_bytes v10_count x73 b10_steps v59, (cB κ b10_bytes n10_bytes f10_bytes), (cI κ b10_steps n10_steps g60)] H := ⟨hP, hD⟩
            have h76 : 0 ≤ x73.toInt ∧ x73.toInt ≤ 2048 := by omega
            refine lv_aload_n hx hb dX10_readLevel_74 rfl (lv_at hl 3 rfl) ?_
            refine lv_iload_n hx hb dX10_readLevel_75 rfl (lv_at hl 4 rfl) ?_
            refine lv_iconst (v := 1) hx hb dX10_readLevel_76 (by decide) ?_
            refine lv_iadd hx hb dX10_readLevel_77 ?_
            refine lv_topi (fun x77 e78 => ?_)
            try have h79 : x77.toInt = p1.toInt + (1 : Int32).toInt := ci_add e78 (by omega) (by omega)
            refine lv_iload_n hx hb dX10_readLevel_78 rfl (lv_at hl 5 rfl) ?_
            refine kcm_i hA hAB hP hD hS [true, true, true] rfl (fun _ => rfl) (fun hPc hDc => va_runV (As := [.int x77, .int p2]) (rest := []) ⟨hx, hb, hml, hown, hts⟩ (h_lv a10 r10 b10_bytes v10_count x73 b10_steps v59 n10_bytes f10_bytes n10_steps g60 H.size x77 p2 i1 h76 h62 hf10_bytes i4 i5 i6 (by omega) (by omega)) (cwV 2 hts gX10_readLevel_X10_readLevel rfl rfl rfl (by decide +kernel) ⟨by dsimp only; omega, by dsimp only; omega⟩) (pk_V hK hS hAB hPc hDc 0 (ci := 10) rfl rfl rfl) rfl rfl hl.1 rfl (lv_room (Nat.le_of_ble_eq_true rfl)) dX10_readLevel_79 ⟨Nat.le_of_ble_eq_true rfl, Nat.le_of_ble_eq_true rfl⟩) (fun x83 u84 H locs hw hPD hS => ?_)
            obtain ⟨x80, x81, g82⟩ := u84
            obtain ⟨h85, h86, h87⟩ : (0 ≤ x80.toInt ∧ x80.toInt ≤ 2048) ∧ (Rg 0 4096 x81) ∧ (x83.toInt = 0 ∨ x83.toInt = 1) := hw
            obtain ⟨hP, hD⟩ : PD D A [O10 a10 r10 b10_bytes v10_count x80 b10_steps x81, (cB κ b10_bytes n10_bytes f10_bytes), (cI κ b10_steps n10_steps g82)] H := hPD
            refine lv_if_ne (tgt := 87) hx hb dX10_readLevel_82 (by decide) (fun c88 => ?_) (fun c88 => ?_)
            · have c88 := ci_ne c88
              refine lv_aload_n hx hb dX10_readLevel_87 rfl (lv_at hl 3 rfl) ?_
              refine lv_iload hx hb dX10_readLevel_88 (lv_at hl 0 rfl) ?_
              refine lv_ineg hx hb dX10_readLevel_90 ?_
              refine lv_topi (fun x89 e90 => ?_)
              try have h91 : x89.toInt = -x66.toInt := ci_neg e90 (by omega)
              refine kcm_v hA hAB hP hD hS [true, false, true] rfl (fun _ => rfl) (fun hPc hDc => va_runV (As := [.int x89]) (rest := []) ⟨hx, hb, hml, hown, hts⟩ (k_X10_step l D κ β a10 r10 b10_bytes v10_count x80 b10_steps x81 n10_steps g82 H.size x89 i1 h85 h86 i6) (cwV 1 hts gX10_readLevel_X10_step rfl rfl rfl (by decide +kernel) ⟨by dsimp only; omega, by dsimp only; omega⟩) (pk_V hK hS hAB hPc hDc 0 (ci := 10) rfl rfl rfl) rfl rfl hl.1 rfl (lv_room (Nat.le_of_ble_eq_true rfl)) dX10_readLevel_91 ⟨Nat.le_of_ble_eq_true rfl, Nat.le_of_ble_eq_true rfl⟩) (fun u94 H locs hw hPD hS => ?_)
              obtain ⟨x92, g93⟩ := u94
              have h95 : Rg 0 4096 x92 := hw
              obtain ⟨hP, hD⟩ : PD D A [O10 a10 r10 b10_bytes v10_count x80 b10_steps x92, (cB κ b10_bytes n10_bytes f10_bytes), (cI κ b10_steps n10_steps g93)] H := hPD
              obtain ⟨x96, e97⟩ : ∃ y : Int32, y = k57 + 1 := ⟨_, rfl⟩
              refine lv_iinc (v := x96) (lv' := [(4, .int x96), (5, .int x66), (3, .int 1), (0, .ref a10), (1, .int p1), (2, .int p2)]) hx hb dX10_readLevel_94 hl (k := 1) rfl (by rw [e97]; rfl) (by decide) rfl (fun ls hl => ?_)
              try have h98 : x96.toInt = k57.toInt + (1 : Int32).toInt := ci_add e97 (by omega) (by omega)
              refine lv_goto (tgt := 41) hx hb dX10_readLevel_97 (by decide) ?_
              exact ih41 x96 x80 x92 g93 h85 h95 (by omega) (by omega) _ _ hP hD hS _ (lv_sub hl [0, 2, 3, 4, 5] rfl)
            have c88 := ci_eq c88
            refine lv_iconst (v := 0) hx hb dX10_readLevel_85 (by decide) ?_
            have hpo : (0 ≤ x80.toInt ∧ x80.toInt ≤ 2048) ∧ (0 ≤ x81.toInt ∧ x81.toInt ≤ 4096) ∧ ((0 : Int32).toInt = 0 ∨ (0 : Int32).toInt = 1) := ⟨h85, h86, (by omega)⟩
            exact ret _ _ _ _ 0 (x80, x81, g82) dX10_readLevel_86 (by omega) hpo hP hD hS
          have c72 := ci_ne c72
          refine lv_iconst (v := 1) hx hb dX10_readLevel_62 (by decide) ?_
          have hpo : (0 ≤ v58.toInt ∧ v58.toInt ≤ 2048) ∧ (0 ≤ v59.toInt ∧ v59.toInt ≤ 4096) ∧ ((1 : Int32).toInt = 0 ∨ (1 : Int32).toInt = 1) := ⟨h61, h62, (by omega)⟩
          exact ret _ _ _ _ 1 (v58, v59, g60) dX10_readLevel_63 (by omega) hpo hP hD hS
      exact lp41 ((1 - (0 : Int32).toInt).toNat + 1) 0 x5 x6 g7 h10 h11 (by omega) (by omega) _ _ hP hD hS _ hl
    have c13 := ci_eq c13
    refine lv_iconst (v := 0) hx hb dX10_readLevel_22 (by decide) ?_
    have hpo : (0 ≤ x5.toInt ∧ x5.toInt ≤ 2048) ∧ (0 ≤ x6.toInt ∧ x6.toInt ≤ 4096) ∧ ((0 : Int32).toInt = 0 ∨ (0 : Int32).toInt = 1) := ⟨h10, h11, (by omega)⟩
    exact ret _ _ _ _ 0 (x5, x6, g7) dX10_readLevel_23 (by omega) hpo hP hD hS
  have c1 := ci_nle c1
  refine lv_aload_n hx hb dX10_readLevel_5 rfl (lv_at hl 0 rfl) ?_
  refine lv_iload_n hx hb dX10_readLevel_6 rfl (lv_at hl 2 rfl) ?_
  refine kcm_i hA hAB hP hD hS [true, true, true] rfl (fun _ => rfl) (fun hPc hDc => va_runV (As := [.int p2]) (rest := []) ⟨hx, hb, hml, hown, hts⟩ (h_op a10 r10 b10_bytes v10_count v10_at b10_steps v10_size n10_bytes f10_bytes n10_steps f10_steps s.heap.size p2 i1 i2 i3 hf10_bytes i4 i5 i6 (by omega) (by omega)) (cwV 1 hts gX10_readLevel_X10_readOperand rfl rfl rfl (by decide +kernel) ⟨by dsimp only; omega, by dsimp only; omega⟩) (pk_V hK hS hAB hPc hDc 0 (ci := 10) rfl rfl rfl) rfl rfl hl.1 rfl (lv_room (Nat.le_of_ble_eq_true rfl)) dX10_readLevel_7 ⟨Nat.le_of_ble_eq_true rfl, Nat.le_of_ble_eq_true rfl⟩) (fun x102 u103 H locs hw hPD hS => ?_)
  obtain ⟨x99, x100, g101⟩ := u103
  obtain ⟨h104, h105, h106⟩ : (0 ≤ x99.toInt ∧ x99.toInt ≤ 2048) ∧ (Rg 0 4096 x100) ∧ (x102.toInt = 0 ∨ x102.toInt = 1) := hw
  obtain ⟨hP, hD⟩ : PD D A [O10 a10 r10 b10_bytes v10_count x99 b10_steps x100, (cB κ b10_bytes n10_bytes f10_bytes), (cI κ b10_steps n10_steps g101)] H := hPD
  have hpo : (0 ≤ x99.toInt ∧ x99.toInt ≤ 2048) ∧ (0 ≤ x100.toInt ∧ x100.toInt ≤ 4096) ∧ (x102.toInt = 0 ∨ x102.toInt = 1) := ⟨h104, h105, (by omega)⟩
  exact ret _ _ _ _ x102 (x99, x100, g101) dX10_readLevel_10 (by omega) hpo hP hD hS
set_option maxHeartbeats 4000000 in
set_option maxRecDepth 100000 in
theorem of_X10_op (l : Launch) (D : va_G) (κ : Nat → ClassId) (β d : Nat) (h_lv : C_X10_lv l D κ β d) (h_op : C_X10_op l D κ β d) : C_X10_op l D κ β (d + 1) := by
  intro a10 r10 b10_bytes v10_count v10_at b10_steps v10_size n10_bytes f10_bytes n10_steps f10_steps sz p1 i1 i2 i3 hf10_bytes i4 i5 i6 i7 i8
  refine ofK_z (cc := cX10_readOperand) (maxL := 4) (own := RX10) (by decide) rfl rfl (Nat.le_of_ble_eq_true rfl) ?_
  intro p e s m args below meth c Q A ls hsz hx hb hml hts hown hK hA hAB hP hD hl ret
  have hS : va_S A s.heap s.heap [] := va_S.rf
  have hl : lv_has ls 4 [(0, .ref a10), (1, .int p1)] := hl
  have w0 := hts (.fieldLink RX10 29 "OlderSkin$Tape" "at" "I") (List.mem_of_getElem? (i := 1) rfl)
  have w1 := (fun w h => List.mem_cons_of_mem _ (List.mem_append_right _ h) : ∀ w ∈ u_ws RX10 TX10 5, w ∈ wsX10_readOperand)
  have l0 : (0 : Int32).toInt = 0 := by decide
  have l1 : (6 : Int32).toInt = 6 := by decide
  have l2 : (40 : Int32).toInt = 40 := by decide
  have l3 : (1 : Int32).toInt = 1 := by decide
  have l4 : (33 : Int32).toInt = 33 := by decide
  have l5 : ((-126) : Int32).toInt = -126 := by decide
  have l6 : ((-33) : Int32).toInt = -33 := by decide
  have l7 : (41 : Int32).toInt = 41 := by decide
  have l8 : (45 : Int32).toInt = 45 := by decide
  have l9 : ((-1) : Int32).toInt = -1 := by decide
  have i1 : 0 ≤ v10_count.toInt ∧ v10_count.toInt ≤ 2048 := i1
  have i2 : 0 ≤ v10_at.toInt ∧ v10_at.toInt ≤ 2048 := i2
  obtain ⟨k9, v9, rk1, rk2, sx⟩ := hK.2.2.2.2.2.1
  have sx : TXT β k9 v9 s := sx
  refine lv_aload_n hx hb dX10_readOperand_0 rfl (lv_at hl 0 rfl) ?_
  refine kcm_i hA hAB hP hD hS [true, true, false] rfl (fun _ => rfl) (fun hPc hDc => va_runV (As := []) (rest := []) ⟨hx, hb, hml, hown, hts⟩ (k_X10_sign l D κ β a10 r10 b10_bytes v10_count v10_at b10_steps v10_size n10_bytes f10_bytes s.heap.size i1 i2 i3 hf10_bytes i4 i5) (cwV 0 hts gX10_readOperand_X10_sign rfl rfl rfl (by decide +kernel) ⟨by dsimp only; omega, by dsimp only; omega⟩) (pk_V hK hS hAB hPc hDc 0 (ci := 10) rfl rfl rfl) rfl rfl hl.1 rfl (lv_room (Nat.le_of_ble_eq_true rfl)) dX10_readOperand_1 ⟨Nat.le_of_ble_eq_true rfl, Nat.le_of_ble_eq_true rfl⟩) (fun x1 u2 H locs hw hPD hS => ?_)
  have h3 : (x1.toInt = -1 ∧ v10_count.toInt ≤ v10_at.toInt) ∨ (0 ≤ x1.toInt ∧ x1.toInt ≤ 255 ∧ v10_at.toInt < v10_count.toInt) := hw
  obtain ⟨hP, hD⟩ : PD D A [O10 a10 r10 b10_bytes v10_count v10_at b10_steps v10_size, (cB κ b10_bytes n10_bytes f10_bytes), (cI κ b10_steps n10_steps f10_steps)] H := hPD
  refine lv_istore_n (lv' := [(2, .int x1), (0, .ref a10), (1, .int p1)]) hx hb dX10_readOperand_4 rfl hl (by decide) rfl (fun ls hl => ?_)
  refine lv_iload_n hx hb dX10_readOperand_5 rfl (lv_at hl 0 rfl) ?_
  refine kcm_i hA hAB hP hD hS [false, false, false] rfl (fun _ => rfl) (fun hPc hDc => va_runS (As := [.int x1]) (rest := []) ⟨hx, hb, hml, hown, hts⟩ (k_X10_isDigit l D κ β H.size x1) (va_cwS 1 hts gX10_readOperand_X10_isDigit rfl rfl rfl (by decide +kernel) ⟨by dsimp only; omega, by dsimp only; omega⟩) (pk_S hK hS hAB hPc hDc) rfl rfl hl.1 rfl (lv_room (Nat.le_of_ble_eq_true rfl)) dX10_readOperand_6 ⟨Nat.le_of_ble_eq_true rfl, Nat.le_of_ble_eq_true rfl⟩) (fun x4 u5 H locs hw hPD hS => ?_)
  have h6 : (x4.toInt = 1 ∧ 48 ≤ x1.toInt) ∨ x4.toInt = 0 := hw
  obtain ⟨hP, hD⟩ : PD D A [O10 a10 r10 b10_bytes v10_count v10_at b10_steps v10_size, (cB κ b10_bytes n10_bytes f10_bytes), (cI κ b10_steps n10_steps f10_steps)] H := hPD
  refine lv_if_eq (tgt := 17) hx hb dX10_readOperand_9 (by decide) (fun c7 => ?_) (fun c7 => ?_)
  · have c7 := ci_eq c7
    refine lv_iload_n hx hb dX10_readOperand_17 rfl (lv_at hl 0 rfl) ?_
    refine lv_if_ge (tgt := 25) hx hb dX10_readOperand_18 (by decide) (fun c8 => ?_) (fun c8 => ?_)
    · have c8 := ci_le c8
      refine va_ldcS hx hb hown rk2 dX10_readOperand_25 ?_
      refine lv_iload_n hx hb dX10_readOperand_27 rfl (lv_at hl 0 rfl) ?_
      refine lv_i2c hx hb dX10_readOperand_28 rfl ?_
      refine lv_topi (fun x9 e10 => ?_)
      refine kcm_i hA hAB hP hD hS [false, false, false] rfl (fun _ => rfl) (fun hPc hDc => va_runV (As := [.int x9]) (rest := []) ⟨hx, hb, hml, hown, hts⟩ (k_J0_indexOf_0f7a4 l D κ β k9 v9 H.size x9) (cwV 1 hts gX10_readOperand_J0_indexOf_0f7a4 rfl rfl rfl (by decide +kernel) ⟨by dsimp only; omega, by dsimp only; omega⟩) (pk_XV hK hS hAB sx) rfl rfl hl.1 rfl (lv_room (Nat.le_of_ble_eq_true rfl)) dX10_readOperand_29 ⟨Nat.le_of_ble_eq_true rfl, Nat.le_of_ble_eq_true rfl⟩) (fun x11 u12 H locs hw hPD hS => ?_)
      have h13 : -1 ≤ x11.toInt ∧ x11.toInt ≤ 7 := hw
      obtain ⟨hP, hD⟩ : PD D A [O10 a10 r10 b10_bytes v10_count v10_at b10_steps v10_size, (cB κ b10_bytes n10_bytes f10_bytes), (cI κ b10_steps n10_steps f10_steps)] H := hPD
      refine lv_istore_n (lv' := [(3, .int x11), (2, .int x1), (0, .ref a10), (1, .int p1)]) hx hb dX10_readOperand_32 rfl hl (by decide) rfl (fun ls hl => ?_)
      refine lv_iload_n hx hb dX10_readOperand_33 rfl (lv_at hl 0 rfl) ?_
      refine lv_if_lt (tgt := 56) hx hb dX10_readOperand_34 (by decide) (fun c14 => ?_) (fun c14 => ?_)
      · have c14 := ci_lt c14
        refine lv_iload_n hx hb dX10_readOperand_56 rfl (lv_at hl 3 rfl) ?_
        refine lv_bipush (v := 6) hx hb dX10_readOperand_57 (by decide) ?_
        refine lv_icmp_ge (tgt := 80) hx hb dX10_readOperand_59 (by decide) (fun c15 => ?_) (fun c15 => ?_)
        · have c15 := ci_le c15
          refine lv_iconst (v := 0) hx hb dX10_readOperand_80 (by decide) ?_
          have hpo : (0 ≤ v10_at.toInt ∧ v10_at.toInt ≤ 2048) ∧ (0 ≤ v10_size.toInt ∧ v10_size.toInt ≤ 4096) ∧ ((0 : Int32).toInt = 0 ∨ (0 : Int32).toInt = 1) := ⟨i2, i3, (by omega)⟩
          exact ret _ _ _ _ 0 (v10_at, v10_size, f10_steps) dX10_readOperand_81 (by omega) hpo hP hD hS
        have c15 := ci_nle c15
        refine lv_iload_n hx hb dX10_readOperand_62 rfl (lv_at hl 1 rfl) ?_
        refine lv_bipush (v := 40) hx hb dX10_readOperand_63 (by decide) ?_
        refine lv_icmp_eq (tgt := 82) hx hb dX10_readOperand_65 (by decide) (fun c16 => ?_) (fun c16 => ?_)
        · have c16 := ci_eq c16
          refine lv_aload_n hx hb dX10_readOperand_82 rfl (lv_at hl 2 rfl) ?_
          refine lv_dup hx hb dX10_readOperand_83 rfl ?_
          refine va_get (D := D) (ci := 10) (v := .int v10_at) (C := RX10) (T := TX10) (N := 5) hx hb hts w1 hown hK.1 hP 0 rfl rfl 2 (by decide) w0 (fun _ h9 => h9) rfl dX10_readOperand_84 ?_
          refine lv_iconst (v := 1) hx hb dX10_readOperand_87 (by decide) ?_
          refine lv_iadd hx hb dX10_readOperand_88 ?_
          refine lv_topi (fun x17 e18 => ?_)
          try have h19 : x17.toInt = v10_at.toInt + (1 : Int32).toInt := ci_add e18 (by omega) (by omega)
          refine va_put (D := D) (ci := 10) (v := .int x17) (ty := .int) (C := RX10) (T := TX10) (N := 5) hx hb hts w1 tyX10 tyX10_ok nmX10 hown hK.1 hP hD hS 0 rfl rfl 2 (by decide) w0 (fun _ h9 => h9) rfl (by decide +kernel) rfl rfl (Nat.le_of_ble_eq_true rfl) dX10_readOperand_89 (fun H locs hP hD hS => ?_)
          obtain ⟨hP, hD⟩ : PD D A [O10 a10 r10 b10_bytes v10_count x17 b10_steps v10_size, (cB κ b10_bytes n10_bytes f10_bytes), (cI κ b10_steps n10_steps f10_steps)] H := ⟨hP, hD⟩
          have h20 : 0 ≤ x17.toInt ∧ x17.toInt ≤ 2048 := by omega
          refine lv_iload_n hx hb dX10_readOperand_92 rfl (lv_at hl 1 rfl) ?_
          refine lv_bipush (v := 40) hx hb dX10_readOperand_93 (by decide) ?_
          refine lv_icmp_ne (tgt := 124) hx hb dX10_readOperand_95 (by decide) (fun c21 => ?_) (fun c21 => ?_)
          · have c21 := ci_ne c21
            refine lv_aload_n hx hb dX10_readOperand_124 rfl (lv_at hl 2 rfl) ?_
            refine lv_iload_n hx hb dX10_readOperand_125 rfl (lv_at hl 3 rfl) ?_
            refine lv_iconst (v := 1) hx hb dX10_readOperand_126 (by decide) ?_
            refine lv_iadd hx hb dX10_readOperand_127 ?_
            refine lv_topi (fun x22 e23 => ?_)
            try have h24 : x22.toInt = p1.toInt + (1 : Int32).toInt := ci_add e23 (by omega) (by omega)
            refine kcm_i hA hAB hP hD hS [true, true, true] rfl (fun _ => rfl) (fun hPc hDc => va_runV (As := [.int x22]) (rest := []) ⟨hx, hb, hml, hown, hts⟩ (h_op a10 r10 b10_bytes v10_count x17 b10_steps v10_size n10_bytes f10_bytes n10_steps f10_steps H.size x22 i1 h20 i3 hf10_bytes i4 i5 i6 (by omega) (by omega)) (cwV 1 hts gX10_readOperand_X10_readOperand rfl rfl rfl (by decide +kernel) ⟨by dsimp only; omega, by dsimp only; omega⟩) (pk_V hK hS hAB hPc hDc 0 (ci := 10) rfl rfl rfl) rfl rfl hl.1 rfl (lv_room (Nat.le_of_ble_eq_true rfl)) dX10_readOperand_128 ⟨Nat.le_of_ble_eq_true rfl, Nat.le_of_ble_eq_true rfl⟩) (fun x28 u29 H locs hw hPD hS => ?_)
            obtain ⟨x25, x26, g27⟩ := u29
            obtain ⟨h30, h31, h32⟩ : (0 ≤ x25.toInt ∧ x25.toInt ≤ 2048) ∧ (Rg 0 4096 x26) ∧ (x28.toInt = 0 ∨ x28.toInt = 1) := hw
            obtain ⟨hP, hD⟩ : PD D A [O10 a10 r10 b10_bytes v10_count x25 b10_steps x26, (cB κ b10_bytes n10_bytes f10_bytes), (cI κ b10_steps n10_steps g27)] H := hPD
            refine lv_if_ne (tgt := 136) hx hb dX10_readOperand_131 (by decide) (fun c33 => ?_) (fun c33 => ?_)
            · have c33 := ci_ne c33
              refine lv_aload_n hx hb dX10_readOperand_136 rfl (lv_at hl 2 rfl) ?_
              refine lv_iload_n hx hb dX10_readOperand_137 rfl (lv_at hl 1 rfl) ?_
              refine lv_bipush (v := 33) hx hb dX10_readOperand_138 (by decide) ?_
              refine lv_icmp_ne (tgt := 148) hx hb dX10_readOperand_140 (by decide) (fun c34 => ?_) (fun c34 => ?_)
              · have c34 := ci_ne c34
                refine lv_bipush (v := (-126)) hx hb dX10_readOperand_148 (by decide) ?_
                refine kcm_v hA hAB hP hD hS [true, false, true] rfl (fun _ => rfl) (fun hPc hDc => va_runV (As := [.int (-126)]) (rest := []) ⟨hx, hb, hml, hown, hts⟩ (k_X10_step l D κ β a10 r10 b10_bytes v10_count x25 b10_steps x26 n10_steps g27 H.size (-126) i1 h30 h31 i6) (cwV 1 hts gX10_readOperand_X10_step rfl rfl rfl (by decide +kernel) ⟨by dsimp only; omega, by dsimp only; omega⟩) (pk_V hK hS hAB hPc hDc 0 (ci := 10) rfl rfl rfl) rfl rfl hl.1 rfl (lv_room (Nat.le_of_ble_eq_true rfl)) dX10_readOperand_150 ⟨Nat.le_of_ble_eq_true rfl, Nat.le_of_ble_eq_true rfl⟩) (fun u37 H locs hw hPD hS => ?_)
                obtain ⟨x35, g36⟩ := u37
                have h38 : Rg 0 4096 x35 := hw
                obtain ⟨hP, hD⟩ : PD D A [O10 a10 r10 b10_bytes v10_count x25 b10_steps x35, (cB κ b10_bytes n10_bytes f10_bytes), (cI κ b10_steps n10_steps g36)] H := hPD
                refine lv_iconst (v := 1) hx hb dX10_readOperand_153 (by decide) ?_
                have hpo : (0 ≤ x25.toInt ∧ x25.toInt ≤ 2048) ∧ (0 ≤ x35.toInt ∧ x35.toInt ≤ 4096) ∧ ((1 : Int32).toInt = 0 ∨ (1 : Int32).toInt = 1) := ⟨h30, h38, (by omega)⟩
                exact ret _ _ _ _ 1 (x25, x35, g36) dX10_readOperand_154 (by omega) hpo hP hD hS
              have c34 := ci_eq c34
              refine lv_bipush (v := (-33)) hx hb dX10_readOperand_143 (by decide) ?_
              refine lv_goto (tgt := 150) hx hb dX10_readOperand_145 (by decide) ?_
              refine kcm_v hA hAB hP hD hS [true, false, true] rfl (fun _ => rfl) (fun hPc hDc => va_runV (As := [.int (-33)]) (rest := []) ⟨hx, hb, hml, hown, hts⟩ (k_X10_step l D κ β a10 r10 b10_bytes v10_count x25 b10_steps x26 n10_steps g27 H.size (-33) i1 h30 h31 i6) (cwV 1 hts gX10_readOperand_X10_step rfl rfl rfl (by decide +kernel) ⟨by dsimp only; omega, by dsimp only; omega⟩) (pk_V hK hS hAB hPc hDc 0 (ci := 10) rfl rfl rfl) rfl rfl hl.1 rfl (lv_room (Nat.le_of_ble_eq_true rfl)) dX10_readOperand_150 ⟨Nat.le_of_ble_eq_true rfl, Nat.le_of_ble_eq_true rfl⟩) (fun u41 H locs hw hPD hS => ?_)
              obtain ⟨x39, g40⟩ := u41
              have h42 : Rg 0 4096 x39 := hw
              obtain ⟨hP, hD⟩ : PD D A [O10 a10 r10 b10_bytes v10_count x25 b10_steps x39, (cB κ b10_bytes n10_bytes f10_bytes), (cI κ b10_steps n10_steps g40)] H := hPD
              refine lv_iconst (v := 1) hx hb dX10_readOperand_153 (by decide) ?_
              have hpo : (0 ≤ x25.toInt ∧ x25.toInt ≤ 2048) ∧ (0 ≤ x39.toInt ∧ x39.toInt ≤ 4096) ∧ ((1 : Int32).toInt = 0 ∨ (1 : Int32).toInt = 1) := ⟨h30, h42, (by omega)⟩
              exact ret _ _ _ _ 1 (x25, x39, g40) dX10_readOperand_154 (by omega) hpo hP hD hS
            have c33 := ci_eq c33
            refine lv_iconst (v := 0) hx hb dX10_readOperand_134 (by decide) ?_
            have hpo : (0 ≤ x25.toInt ∧ x25.toInt ≤ 2048) ∧ (0 ≤ x26.toInt ∧ x26.toInt ≤ 4096) ∧ ((0 : Int32).toInt = 0 ∨ (0 : Int32).toInt = 1) := ⟨h30, h31, (by omega)⟩
            exact ret _ _ _ _ 0 (x25, x26, g27) dX10_readOperand_135 (by omega) hpo hP hD hS
          have c21 := ci_eq c21
          refine lv_aload_n hx hb dX10_readOperand_98 rfl (lv_at hl 2 rfl) ?_
          refine lv_iconst (v := 0) hx hb dX10_readOperand_99 (by decide) ?_
          refine lv_iload_n hx hb dX10_readOperand_100 rfl (lv_at hl 3 rfl) ?_
          refine lv_iconst (v := 1) hx hb dX10_readOperand_101 (by decide) ?_
          refine lv_iadd hx hb dX10_readOperand_102 ?_
          refine lv_topi (fun x43 e44 => ?_)
          try have h45 : x43.toInt = p1.toInt + (1 : Int32).toInt := ci_add e44 (by omega) (by omega)
          refine kcm_i hA hAB hP hD hS [true, true, true] rfl (fun _ => rfl) (fun hPc hDc => va_runV (As := [.int 0, .int x43]) (rest := []) ⟨hx, hb, hml, hown, hts⟩ (h_lv a10 r10 b10_bytes v10_count x17 b10_steps v10_size n10_bytes f10_bytes n10_steps f10_steps H.size 0 x43 i1 h20 i3 hf10_bytes i4 i5 i6 (by omega) (by omega)) (cwV 2 hts gX10_readOperand_X10_readLevel rfl rfl rfl (by decide +kernel) ⟨by dsimp only; omega, by dsimp only; omega⟩) (pk_V hK hS hAB hPc hDc 0 (ci := 10) rfl rfl rfl) rfl rfl hl.1 rfl (lv_room (Nat.le_of_ble_eq_true rfl)) dX10_readOperand_103 ⟨Nat.le_of_ble_eq_true rfl, Nat.le_of_ble_eq_true rfl⟩) (fun x49 u50 H locs hw hPD hS => ?_)
          obtain ⟨x46, x47, g48⟩ := u50
          obtain ⟨h51, h52, h53⟩ : (0 ≤ x46.toInt ∧ x46.toInt ≤ 2048) ∧ (Rg 0 4096 x47) ∧ (x49.toInt = 0 ∨ x49.toInt = 1) := hw
          obtain ⟨hP, hD⟩ : PD D A [O10 a10 r10 b10_bytes v10_count x46 b10_steps x47, (cB κ b10_bytes n10_bytes f10_bytes), (cI κ b10_steps n10_steps g48)] H := hPD
          refine lv_if_eq (tgt := 122) hx hb dX10_readOperand_106 (by decide) (fun c54 => ?_) (fun c54 => ?_)
          · have c54 := ci_eq c54
            refine lv_iconst (v := 0) hx hb dX10_readOperand_122 (by decide) ?_
            have hpo : (0 ≤ x46.toInt ∧ x46.toInt ≤ 2048) ∧ (0 ≤ x47.toInt ∧ x47.toInt ≤ 4096) ∧ ((0 : Int32).toInt = 0 ∨ (0 : Int32).toInt = 1) := ⟨h51, h52, (by omega)⟩
            exact ret _ _ _ _ 0 (x46, x47, g48) dX10_readOperand_123 (by omega) hpo hP hD hS
          have c54 := ci_ne c54
          refine lv_aload_n hx hb dX10_readOperand_109 rfl (lv_at hl 2 rfl) ?_
          refine lv_bipush (v := 41) hx hb dX10_readOperand_110 (by decide) ?_
          refine kcm_i hA hAB hP hD hS [true, true, false] rfl (fun _ => rfl) (fun hPc hDc => va_runV (As := [.int 41]) (rest := []) ⟨hx, hb, hml, hown, hts⟩ (k_X10_takes l D κ β a10 r10 b10_bytes v10_count x46 b10_steps x47 n10_bytes f10_bytes H.size 41 i1 h51 h52 hf10_bytes i4 i5 (by omega)) (cwV 1 hts gX10_readOperand_X10_takes rfl rfl rfl (by decide +kernel) ⟨by dsimp only; omega, by dsimp only; omega⟩) (pk_V hK hS hAB hPc hDc 0 (ci := 10) rfl rfl rfl) rfl rfl hl.1 rfl (lv_room (Nat.le_of_ble_eq_true rfl)) dX10_readOperand_112 ⟨Nat.le_of_ble_eq_true rfl, Nat.le_of_ble_eq_true rfl⟩) (fun x56 x55 H locs hw hPD hS => ?_)
          obtain ⟨h57, h58⟩ : (0 ≤ x55.toInt ∧ x55.toInt ≤ 2048) ∧ (x56.toInt = 0 ∨ x56.toInt = 1) := hw
          obtain ⟨hP, hD⟩ : PD D A [O10 a10 r10 b10_bytes v10_count x55 b10_steps x47, (cB κ b10_bytes n10_bytes f10_bytes), (cI κ b10_steps n10_steps g48)] H := hPD
          refine lv_if_eq (tgt := 122) hx hb dX10_readOperand_115 (by decide) (fun c59 => ?_) (fun c59 => ?_)
          · have c59 := ci_eq c59
            refine lv_iconst (v := 0) hx hb dX10_readOperand_122 (by decide) ?_
            have hpo : (0 ≤ x55.toInt ∧ x55.toInt ≤ 2048) ∧ (0 ≤ x47.toInt ∧ x47.toInt ≤ 4096) ∧ ((0 : Int32).toInt = 0 ∨ (0 : Int32).toInt = 1) := ⟨h57, h52, (by omega)⟩
            exact ret _ _ _ _ 0 (x55, x47, g48) dX10_readOperand_123 (by omega) hpo hP hD hS
          have c59 := ci_ne c59
          refine lv_iconst (v := 1) hx hb dX10_readOperand_118 (by decide) ?_
          refine lv_goto (tgt := 123) hx hb dX10_readOperand_119 (by decide) ?_
          have hpo : (0 ≤ x55.toInt ∧ x55.toInt ≤ 2048) ∧ (0 ≤ x47.toInt ∧ x47.toInt ≤ 4096) ∧ ((1 : Int32).toInt = 0 ∨ (1 : Int32).toInt = 1) := ⟨h57, h52, (by omega)⟩
          exact ret _ _ _ _ 1 (x55, x47, g48) dX10_readOperand_123 (by omega) hpo hP hD hS
        have c16 := ci_ne c16
        refine lv_iload_n hx hb dX10_readOperand_68 rfl (lv_at hl 1 rfl) ?_
        refine lv_bipush (v := 33) hx hb dX10_readOperand_69 (by decide) ?_
        refine lv_icmp_eq (tgt := 82) hx hb dX10_readOperand_71 (by decide) (fun c60 => ?_) (fun c60 => ?_)
        · have c60 := ci_eq c60
          refine lv_aload_n hx hb dX10_readOperand_82 rfl (lv_at hl 2 rfl) ?_
          refine lv_dup hx hb dX10_readOperand_83 rfl ?_
          refine va_get (D := D) (ci := 10) (v := .int v10_at) (C := RX10) (T := TX10) (N := 5) hx hb hts w1 hown hK.1 hP 0 rfl rfl 2 (by decide) w0 (fun _ h9 => h9) rfl dX10_readOperand_84 ?_
          refine lv_iconst (v := 1) hx hb dX10_readOperand_87 (by decide) ?_
          refine lv_iadd hx hb dX10_readOperand_88 ?_
          refine lv_topi (fun x61 e62 => ?_)
          try have h63 : x61.toInt = v10_at.toInt + (1 : Int32).toInt := ci_add e62 (by omega) (by omega)
          refine va_put (D := D) (ci := 10) (v := .int x61) (ty := .int) (C := RX10) (T := TX10) (N := 5) hx hb hts w1 tyX10 tyX10_ok nmX10 hown hK.1 hP hD hS 0 rfl rfl 2 (by decide) w0 (fun _ h9 => h9) rfl (by decide +kernel) rfl rfl (Nat.le_of_ble_eq_true rfl) dX10_readOperand_89 (fun H locs hP hD hS => ?_)
          obtain ⟨hP, hD⟩ : PD D A [O10 a10 r10 b10_bytes v10_count x61 b10_steps v10_size, (cB κ b10_bytes n10_bytes f10_bytes), (cI κ b10_steps n10_steps f10_steps)] H := ⟨hP, hD⟩
          have h64 : 0 ≤ x61.toInt ∧ x61.toInt ≤ 2048 := by omega
          refine lv_iload_n hx hb dX10_readOperand_92 rfl (lv_at hl 1 rfl) ?_
          refine lv_bipush (v := 40) hx hb dX10_readOperand_93 (by decide) ?_
          refine lv_icmp_ne (tgt := 124) hx hb dX10_readOperand_95 (by decide) (fun c65 => ?_) (fun c65 => ?_)
          · have c65 := ci_ne c65
            refine lv_aload_n hx hb dX10_readOperand_124 rfl (lv_at hl 2 rfl) ?_
            refine lv_iload_n hx hb dX10_readOperand_125 rfl (lv_at hl 3 rfl) ?_
            refine lv_iconst (v := 1) hx hb dX10_readOperand_126 (by decide) ?_
            refine lv_iadd hx hb dX10_readOperand_127 ?_
            refine lv_topi (fun x66 e67 => ?_)
            try have h68 : x66.toInt = p1.toInt + (1 : Int32).toInt := ci_add e67 (by omega) (by omega)
            refine kcm_i hA hAB hP hD hS [true, true, true] rfl (fun _ => rfl) (fun hPc hDc => va_runV (As := [.int x66]) (rest := []) ⟨hx, hb, hml, hown, hts⟩ (h_op a10 r10 b10_bytes v10_count x61 b10_steps v10_size n10_bytes f10_bytes n10_steps f10_steps H.size x66 i1 h64 i3 hf10_bytes i4 i5 i6 (by omega) (by omega)) (cwV 1 hts gX10_readOperand_X10_readOperand rfl rfl rfl (by decide +kernel) ⟨by dsimp only; omega, by dsimp only; omega⟩) (pk_V hK hS hAB hPc hDc 0 (ci := 10) rfl rfl rfl) rfl rfl hl.1 rfl (lv_room (Nat.le_of_ble_eq_true rfl)) dX10_readOperand_128 ⟨Nat.le_of_ble_eq_true rfl, Nat.le_of_ble_eq_true rfl⟩) (fun x72 u73 H locs hw hPD hS => ?_)
            obtain ⟨x69, x70, g71⟩ := u73
            obtain ⟨h74, h75, h76⟩ : (0 ≤ x69.toInt ∧ x69.toInt ≤ 2048) ∧ (Rg 0 4096 x70) ∧ (x72.toInt = 0 ∨ x72.toInt = 1) := hw
            obtain ⟨hP, hD⟩ : PD D A [O10 a10 r10 b10_bytes v10_count x69 b10_steps x70, (cB κ b10_bytes n10_bytes f10_bytes), (cI κ b10_steps n10_steps g71)] H := hPD
            refine lv_if_ne (tgt := 136) hx hb dX10_readOperand_131 (by decide) (fun c77 => ?_) (fun c77 => ?_)
            · have c77 := ci_ne c77
              refine lv_aload_n hx hb dX10_readOperand_136 rfl (lv_at hl 2 rfl) ?_
              refine lv_iload_n hx hb dX10_readOperand_137 rfl (lv_at hl 1 rfl) ?_
              refine lv_bipush (v := 33) hx hb dX10_readOperand_138 (by decide) ?_
              refine lv_icmp_ne (tgt := 148) hx hb dX10_readOperand_140 (by decide) (fun c78 => ?_) (fun c78 => ?_)
              · have c78 := ci_ne c78
                refine lv_bipush (v := (-126)) hx hb dX10_readOperand_148 (by decide) ?_
                refine kcm_v hA hAB hP hD hS [true, false, true] rfl (fun _ => rfl) (fun hPc hDc => va_runV (As := [.int (-126)]) (rest := []) ⟨hx, hb, hml, hown, hts⟩ (k_X10_step l D κ β a10 r10 b10_bytes v10_count x69 b10_steps x70 n10_steps g71 H.size (-126) i1 h74 h75 i6) (cwV 1 hts gX10_readOperand_X10_step rfl rfl rfl (by decide +kernel) ⟨by dsimp only; omega, by dsimp only; omega⟩) (pk_V hK hS hAB hPc hDc 0 (ci := 10) rfl rfl rfl) rfl rfl hl.1 rfl (lv_room (Nat.le_of_ble_eq_true rfl)) dX10_readOperand_150 ⟨Nat.le_of_ble_eq_true rfl, Nat.le_of_ble_eq_true rfl⟩) (fun u81 H locs hw hPD hS => ?_)
                obtain ⟨x79, g80⟩ := u81
                have h82 : Rg 0 4096 x79 := hw
                obtain ⟨hP, hD⟩ : PD D A [O10 a10 r10 b10_bytes v10_count x69 b10_steps x79, (cB κ b10_bytes n10_bytes f10_bytes), (cI κ b10_steps n10_steps g80)] H := hPD
                refine lv_iconst (v := 1) hx hb dX10_readOperand_153 (by decide) ?_
                have hpo : (0 ≤ x69.toInt ∧ x69.toInt ≤ 2048) ∧ (0 ≤ x79.toInt ∧ x79.toInt ≤ 4096) ∧ ((1 : Int32).toInt = 0 ∨ (1 : Int32).toInt = 1) := ⟨h74, h82, (by omega)⟩
                exact ret _ _ _ _ 1 (x69, x79, g80) dX10_readOperand_154 (by omega) hpo hP hD hS
              have c78 := ci_eq c78
              refine lv_bipush (v := (-33)) hx hb dX10_readOperand_143 (by decide) ?_
              refine lv_goto (tgt := 150) hx hb dX10_readOperand_145 (by decide) ?_
              refine kcm_v hA hAB hP hD hS [true, false, true] rfl (fun _ => rfl) (fun hPc hDc => va_runV (As := [.int (-33)]) (rest := []) ⟨hx, hb, hml, hown, hts⟩ (k_X10_step l D κ β a10 r10 b10_bytes v10_count x69 b10_steps x70 n10_steps g71 H.size (-33) i1 h74 h75 i6) (cwV 1 hts gX10_readOperand_X10_step rfl rfl rfl (by decide +kernel) ⟨by dsimp only; omega, by dsimp only; omega⟩) (pk_V hK hS hAB hPc hDc 0 (ci := 10) rfl rfl rfl) rfl rfl hl.1 rfl (lv_room (Nat.le_of_ble_eq_true rfl)) dX10_readOperand_150 ⟨Nat.le_of_ble_eq_true rfl, Nat.le_of_ble_eq_true rfl⟩) (fun u85 H locs hw hPD hS => ?_)
              obtain ⟨x83, g84⟩ := u85
              have h86 : Rg 0 4096 x83 := hw
              obtain ⟨hP, hD⟩ : PD D A [O10 a10 r10 b10_bytes v10_count x69 b10_steps x83, (cB κ b10_bytes n10_bytes f10_bytes), (cI κ b10_steps n10_steps g84)] H := hPD
              refine lv_iconst (v := 1) hx hb dX10_readOperand_153 (by decide) ?_
              have hpo : (0 ≤ x69.toInt ∧ x69.toInt ≤ 2048) ∧ (0 ≤ x83.toInt ∧ x83.toInt ≤ 4096) ∧ ((1 : Int32).toInt = 0 ∨ (1 : Int32).toInt = 1) := ⟨h74, h86, (by omega)⟩
              exact ret _ _ _ _ 1 (x69, x83, g84) dX10_readOperand_154 (by omega) hpo hP hD hS
            have c77 := ci_eq c77
            refine lv_iconst (v := 0) hx hb dX10_readOperand_134 (by decide) ?_
            have hpo : (0 ≤ x69.toInt ∧ x69.toInt ≤ 2048) ∧ (0 ≤ x70.toInt ∧ x70.toInt ≤ 4096) ∧ ((0 : Int32).toInt = 0 ∨ (0 : Int32).toInt = 1) := ⟨h74, h75, (by omega)⟩
            exact ret _ _ _ _ 0 (x69, x70, g71) dX10_readOperand_135 (by omega) hpo hP hD hS
          have c65 := ci_eq c65
          refine lv_aload_n hx hb dX10_readOperand_98 rfl (lv_at hl 2 rfl) ?_
          refine lv_iconst (v := 0) hx hb dX10_readOperand_99 (by decide) ?_
          refine lv_iload_n hx hb dX10_readOperand_100 rfl (lv_at hl 3 rfl) ?_
          refine lv_iconst (v := 1) hx hb dX10_readOperand_101 (by decide) ?_
          refine lv_iadd hx hb dX10_readOperand_102 ?_
          refine lv_topi (fun x87 e88 => ?_)
          try have h89 : x87.toInt = p1.toInt + (1 : Int32).toInt := ci_add e88 (by omega) (by omega)
          refine kcm_i hA hAB hP hD hS [true, true, true] rfl (fun _ => rfl) (fun hPc hDc => va_runV (As := [.int 0, .int x87]) (rest := []) ⟨hx, hb, hml, hown, hts⟩ (h_lv a10 r10 b10_bytes v10_count x61 b10_steps v10_size n10_bytes f10_bytes n10_steps f10_steps H.size 0 x87 i1 h64 i3 hf10_bytes i4 i5 i6 (by omega) (by omega)) (cwV 2 hts gX10_readOperand_X10_readLevel rfl rfl rfl (by decide +kernel) ⟨by dsimp only; omega, by dsimp only; omega⟩) (pk_V hK hS hAB hPc hDc 0 (ci := 10) rfl rfl rfl) rfl rfl hl.1 rfl (lv_room (Nat.le_of_ble_eq_true rfl)) dX10_readOperand_103 ⟨Nat.le_of_ble_eq_true rfl, Nat.le_of_ble_eq_true rfl⟩) (fun x93 u94 H locs hw hPD hS => ?_)
          obtain ⟨x90, x91, g92⟩ := u94
          obtain ⟨h95, h96, h97⟩ : (0 ≤ x90.toInt ∧ x90.toInt ≤ 2048) ∧ (Rg 0 4096 x91) ∧ (x93.toInt = 0 ∨ x93.toInt = 1) := hw
          obtain ⟨hP, hD⟩ : PD D A [O10 a10 r10 b10_bytes v10_count x90 b10_steps x91, (cB κ b10_bytes n10_bytes f10_bytes), (cI κ b10_steps n10_steps g92)] H := hPD
          refine lv_if_eq (tgt := 122) hx hb dX10_readOperand_106 (by decide) (fun c98 => ?_) (fun c98 => ?_)
          · have c98 := ci_eq c98
            refine lv_iconst (v := 0) hx hb dX10_readOperand_122 (by decide) ?_
            have hpo : (0 ≤ x90.toInt ∧ x90.toInt ≤ 2048) ∧ (0 ≤ x91.toInt ∧ x91.toInt ≤ 4096) ∧ ((0 : Int32).toInt = 0 ∨ (0 : Int32).toInt = 1) := ⟨h95, h96, (by omega)⟩
            exact ret _ _ _ _ 0 (x90, x91, g92) dX10_readOperand_123 (by omega) hpo hP hD hS
          have c98 := ci_ne c98
          refine lv_aload_n hx hb dX10_readOperand_109 rfl (lv_at hl 2 rfl) ?_
          refine lv_bipush (v := 41) hx hb dX10_readOperand_110 (by decide) ?_
          refine kcm_i hA hAB hP hD hS [true, true, false] rfl (fun _ => rfl) (fun hPc hDc => va_runV (As := [.int 41]) (rest := []) ⟨hx, hb, hml, hown, hts⟩ (k_X10_takes l D κ β a10 r10 b10_bytes v10_count x90 b10_steps x91 n10_bytes f10_bytes H.size 41 i1 h95 h96 hf10_bytes i4 i5 (by omega)) (cwV 1 hts gX10_readOperand_X10_takes rfl rfl rfl (by decide +kernel) ⟨by dsimp only; omega, by dsimp only; omega⟩) (pk_V hK hS hAB hPc hDc 0 (ci := 10) rfl rfl rfl) rfl rfl hl.1 rfl (lv_room (Nat.le_of_ble_eq_true rfl)) dX10_readOperand_112 ⟨Nat.le_of_ble_eq_true rfl, Nat.le_of_ble_eq_true rfl⟩) (fun x100 x99 H locs hw hPD hS => ?_)
          obtain ⟨h101, h102⟩ : (0 ≤ x99.toInt ∧ x99.toInt ≤ 2048) ∧ (x100.toInt = 0 ∨ x100.toInt = 1) := hw
          obtain ⟨hP, hD⟩ : PD D A [O10 a10 r10 b10_bytes v10_count x99 b10_steps x91, (cB κ b10_bytes n10_bytes f10_bytes), (cI κ b10_steps n10_steps g92)] H := hPD
          refine lv_if_eq (tgt := 122) hx hb dX10_readOperand_115 (by decide) (fun c103 => ?_) (fun c103 => ?_)
          · have c103 := ci_eq c103
            refine lv_iconst (v := 0) hx hb dX10_readOperand_122 (by decide) ?_
            have hpo : (0 ≤ x99.toInt ∧ x99.toInt ≤ 2048) ∧ (0 ≤ x91.toInt ∧ x91.toInt ≤ 4096) ∧ ((0 : Int32).toInt = 0 ∨ (0 : Int32).toInt = 1) := ⟨h101, h96, (by omega)⟩
            exact ret _ _ _ _ 0 (x99, x91, g92) dX10_readOperand_123 (by omega) hpo hP hD hS
          have c103 := ci_ne c103
          refine lv_iconst (v := 1) hx hb dX10_readOperand_118 (by decide) ?_
          refine lv_goto (tgt := 123) hx hb dX10_readOperand_119 (by decide) ?_
          have hpo : (0 ≤ x99.toInt ∧ x99.toInt ≤ 2048) ∧ (0 ≤ x91.toInt ∧ x91.toInt ≤ 4096) ∧ ((1 : Int32).toInt = 0 ∨ (1 : Int32).toInt = 1) := ⟨h101, h96, (by omega)⟩
          exact ret _ _ _ _ 1 (x99, x91, g92) dX10_readOperand_123 (by omega) hpo hP hD hS
        have c60 := ci_ne c60
        refine lv_iload_n hx hb dX10_readOperand_74 rfl (lv_at hl 1 rfl) ?_
        refine lv_bipush (v := 45) hx hb dX10_readOperand_75 (by decide) ?_
        refine lv_icmp_eq (tgt := 82) hx hb dX10_readOperand_77 (by decide) (fun c104 => ?_) (fun c104 => ?_)
        · have c104 := ci_eq c104
          refine lv_aload_n hx hb dX10_readOperand_82 rfl (lv_at hl 2 rfl) ?_
          refine lv_dup hx hb dX10_readOperand_83 rfl ?_
          refine va_get (D := D) (ci := 10) (v := .int v10_at) (C := RX10) (T := TX10) (N := 5) hx hb hts w1 hown hK.1 hP 0 rfl rfl 2 (by decide) w0 (fun _ h9 => h9) rfl dX10_readOperand_84 ?_
          refine lv_iconst (v := 1) hx hb dX10_readOperand_87 (by decide) ?_
          refine lv_iadd hx hb dX10_readOperand_88 ?_
          refine lv_topi (fun x105 e106 => ?_)
          try have h107 : x105.toInt = v10_at.toInt + (1 : Int32).toInt := ci_add e106 (by omega) (by omega)
          refine va_put (D := D) (ci := 10) (v := .int x105) (ty := .int) (C := RX10) (T := TX10) (N := 5) hx hb hts w1 tyX10 tyX10_ok nmX10 hown hK.1 hP hD hS 0 rfl rfl 2 (by decide) w0 (fun _ h9 => h9) rfl (by decide +kernel) rfl rfl (Nat.le_of_ble_eq_true rfl) dX10_readOperand_89 (fun H locs hP hD hS => ?_)
          obtain ⟨hP, hD⟩ : PD D A [O10 a10 r10 b10_bytes v10_count x105 b10_steps v10_size, (cB κ b10_bytes n10_bytes f10_bytes), (cI κ b10_steps n10_steps f10_steps)] H := ⟨hP, hD⟩
          have h108 : 0 ≤ x105.toInt ∧ x105.toInt ≤ 2048 := by omega
          refine lv_iload_n hx hb dX10_readOperand_92 rfl (lv_at hl 1 rfl) ?_
          refine lv_bipush (v := 40) hx hb dX10_readOperand_93 (by decide) ?_
          refine lv_icmp_ne (tgt := 124) hx hb dX10_readOperand_95 (by decide) (fun c109 => ?_) (fun c109 => ?_)
          · have c109 := ci_ne c109
            refine lv_aload_n hx hb dX10_readOperand_124 rfl (lv_at hl 2 rfl) ?_
            refine lv_iload_n hx hb dX10_readOperand_125 rfl (lv_at hl 3 rfl) ?_
            refine lv_iconst (v := 1) hx hb dX10_readOperand_126 (by decide) ?_
            refine lv_iadd hx hb dX10_readOperand_127 ?_
            refine lv_topi (fun x110 e111 => ?_)
            try have h112 : x110.toInt = p1.toInt + (1 : Int32).toInt := ci_add e111 (by omega) (by omega)
            refine kcm_i hA hAB hP hD hS [true, true, true] rfl (fun _ => rfl) (fun hPc hDc => va_runV (As := [.int x110]) (rest := []) ⟨hx, hb, hml, hown, hts⟩ (h_op a10 r10 b10_bytes v10_count x105 b10_steps v10_size n10_bytes f10_bytes n10_steps f10_steps H.size x110 i1 h108 i3 hf10_bytes i4 i5 i6 (by omega) (by omega)) (cwV 1 hts gX10_readOperand_X10_readOperand rfl rfl rfl (by decide +kernel) ⟨by dsimp only; omega, by dsimp only; omega⟩) (pk_V hK hS hAB hPc hDc 0 (ci := 10) rfl rfl rfl) rfl rfl hl.1 rfl (lv_room (Nat.le_of_ble_eq_true rfl)) dX10_readOperand_128 ⟨Nat.le_of_ble_eq_true rfl, Nat.le_of_ble_eq_true rfl⟩) (fun x116 u117 H locs hw hPD hS => ?_)
            obtain ⟨x113, x114, g115⟩ := u117
            obtain ⟨h118, h119, h120⟩ : (0 ≤ x113.toInt ∧ x113.toInt ≤ 2048) ∧ (Rg 0 4096 x114) ∧ (x116.toInt = 0 ∨ x116.toInt = 1) := hw
            obtain ⟨hP, hD⟩ : PD D A [O10 a10 r10 b10_bytes v10_count x113 b10_steps x114, (cB κ b10_bytes n10_bytes f10_bytes), (cI κ b10_steps n10_steps g115)] H := hPD
            refine lv_if_ne (tgt := 136) hx hb dX10_readOperand_131 (by decide) (fun c121 => ?_) (fun c121 => ?_)
            · have c121 := ci_ne c121
              refine lv_aload_n hx hb dX10_readOperand_136 rfl (lv_at hl 2 rfl) ?_
              refine lv_iload_n hx hb dX10_readOperand_137 rfl (lv_at hl 1 rfl) ?_
              refine lv_bipush (v := 33) hx hb dX10_readOperand_138 (by decide) ?_
              refine lv_icmp_ne (tgt := 148) hx hb dX10_readOperand_140 (by decide) (fun c122 => ?_) (fun c122 => ?_)
              · have c122 := ci_ne c122
                refine lv_bipush (v := (-126)) hx hb dX10_readOperand_148 (by decide) ?_
                refine kcm_v hA hAB hP hD hS [true, false, true] rfl (fun _ => rfl) (fun hPc hDc => va_runV (As := [.int (-126)]) (rest := []) ⟨hx, hb, hml, hown, hts⟩ (k_X10_step l D κ β a10 r10 b10_bytes v10_count x113 b10_steps x114 n10_steps g115 H.size (-126) i1 h118 h119 i6) (cwV 1 hts gX10_readOperand_X10_step rfl rfl rfl (by decide +kernel) ⟨by dsimp only; omega, by dsimp only; omega⟩) (pk_V hK hS hAB hPc hDc 0 (ci := 10) rfl rfl rfl) rfl rfl hl.1 rfl (lv_room (Nat.le_of_ble_eq_true rfl)) dX10_readOperand_150 ⟨Nat.le_of_ble_eq_true rfl, Nat.le_of_ble_eq_true rfl⟩) (fun u125 H locs hw hPD hS => ?_)
                obtain ⟨x123, g124⟩ := u125
                have h126 : Rg 0 4096 x123 := hw
                obtain ⟨hP, hD⟩ : PD D A [O10 a10 r10 b10_bytes v10_count x113 b10_steps x123, (cB κ b10_bytes n10_bytes f10_bytes), (cI κ b10_steps n10_steps g124)] H := hPD
                refine lv_iconst (v := 1) hx hb dX10_readOperand_153 (by decide) ?_
                have hpo : (0 ≤ x113.toInt ∧ x113.toInt ≤ 2048) ∧ (0 ≤ x123.toInt ∧ x123.toInt ≤ 4096) ∧ ((1 : Int32).toInt = 0 ∨ (1 : Int32).toInt = 1) := ⟨h118, h126, (by omega)⟩
                exact ret _ _ _ _ 1 (x113, x123, g124) dX10_readOperand_154 (by omega) hpo hP hD hS
              have c122 := ci_eq c122
              refine lv_bipush (v := (-33)) hx hb dX10_readOperand_143 (by decide) ?_
              refine lv_goto (tgt := 150) hx hb dX10_readOperand_145 (by decide) ?_
              refine kcm_v hA hAB hP hD hS [true, false, true] rfl (fun _ => rfl) (fun hPc hDc => va_runV (As := [.int (-33)]) (rest := []) ⟨hx, hb, hml, hown, hts⟩ (k_X10_step l D κ β a10 r10 b10_bytes v10_count x113 b10_steps x114 n10_steps g115 H.size (-33) i1 h118 h119 i6) (cwV 1 hts gX10_readOperand_X10_step rfl rfl rfl (by decide +kernel) ⟨by dsimp only; omega, by dsimp only; omega⟩) (pk_V hK hS hAB hPc hDc 0 (ci := 10) rfl rfl rfl) rfl rfl hl.1 rfl (lv_room (Nat.le_of_ble_eq_true rfl)) dX10_readOperand_150 ⟨Nat.le_of_ble_eq_true rfl, Nat.le_of_ble_eq_true rfl⟩) (fun u129 H locs hw hPD hS => ?_)
              obtain ⟨x127, g128⟩ := u129
              have h130 : Rg 0 4096 x127 := hw
              obtain ⟨hP, hD⟩ : PD D A [O10 a10 r10 b10_bytes v10_count x113 b10_steps x127, (cB κ b10_bytes n10_bytes f10_bytes), (cI κ b10_steps n10_steps g128)] H := hPD
              refine lv_iconst (v := 1) hx hb dX10_readOperand_153 (by decide) ?_
              have hpo : (0 ≤ x113.toInt ∧ x113.toInt ≤ 2048) ∧ (0 ≤ x127.toInt ∧ x127.toInt ≤ 4096) ∧ ((1 : Int32).toInt = 0 ∨ (1 : Int32).toInt = 1) := ⟨h118, h130, (by omega)⟩
              exact ret _ _ _ _ 1 (x113, x127, g128) dX10_readOperand_154 (by omega) hpo hP hD hS
            have c121 := ci_eq c121
            refine lv_iconst (v := 0) hx hb dX10_readOperand_134 (by decide) ?_
            have hpo : (0 ≤ x113.toInt ∧ x113.toInt ≤ 2048) ∧ (0 ≤ x114.toInt ∧ x114.toInt ≤ 4096) ∧ ((0 : Int32).toInt = 0 ∨ (0 : Int32).toInt = 1) := ⟨h118, h119, (by omega)⟩
            exact ret _ _ _ _ 0 (x113, x114, g115) dX10_readOperand_135 (by omega) hpo hP hD hS
          have c109 := ci_eq c109
          refine lv_aload_n hx hb dX10_readOperand_98 rfl (lv_at hl 2 rfl) ?_
          refine lv_iconst (v := 0) hx hb dX10_readOperand_99 (by decide) ?_
          refine lv_iload_n hx hb dX10_readOperand_100 rfl (lv_at hl 3 rfl) ?_
          refine lv_iconst (v := 1) hx hb dX10_readOperand_101 (by decide) ?_
          refine lv_iadd hx hb dX10_readOperand_102 ?_
          refine lv_topi (fun x131 e132 => ?_)
          try have h133 : x131.toInt = p1.toInt + (1 : Int32).toInt := ci_add e132 (by omega) (by omega)
          refine kcm_i hA hAB hP hD hS [true, true, true] rfl (fun _ => rfl) (fun hPc hDc => va_runV (As := [.int 0, .int x131]) (rest := []) ⟨hx, hb, hml, hown, hts⟩ (h_lv a10 r10 b10_bytes v10_count x105 b10_steps v10_size n10_bytes f10_bytes n10_steps f10_steps H.size 0 x131 i1 h108 i3 hf10_bytes i4 i5 i6 (by omega) (by omega)) (cwV 2 hts gX10_readOperand_X10_readLevel rfl rfl rfl (by decide +kernel) ⟨by dsimp only; omega, by dsimp only; omega⟩) (pk_V hK hS hAB hPc hDc 0 (ci := 10) rfl rfl rfl) rfl rfl hl.1 rfl (lv_room (Nat.le_of_ble_eq_true rfl)) dX10_readOperand_103 ⟨Nat.le_of_ble_eq_true rfl, Nat.le_of_ble_eq_true rfl⟩) (fun x137 u138 H locs hw hPD hS => ?_)
          obtain ⟨x134, x135, g136⟩ := u138
          obtain ⟨h139, h140, h141⟩ : (0 ≤ x134.toInt ∧ x134.toInt ≤ 2048) ∧ (Rg 0 4096 x135) ∧ (x137.toInt = 0 ∨ x137.toInt = 1) := hw
          obtain ⟨hP, hD⟩ : PD D A [O10 a10 r10 b10_bytes v10_count x134 b10_steps x135, (cB κ b10_bytes n10_bytes f10_bytes), (cI κ b10_steps n10_steps g136)] H := hPD
          refine lv_if_eq (tgt := 122) hx hb dX10_readOperand_106 (by decide) (fun c142 => ?_) (fun c142 => ?_)
          · have c142 := ci_eq c142
            refine lv_iconst (v := 0) hx hb dX10_readOperand_122 (by decide) ?_
            have hpo : (0 ≤ x134.toInt ∧ x134.toInt ≤ 2048) ∧ (0 ≤ x135.toInt ∧ x135.toInt ≤ 4096) ∧ ((0 : Int32).toInt = 0 ∨ (0 : Int32).toInt = 1) := ⟨h139, h140, (by omega)⟩
            exact ret _ _ _ _ 0 (x134, x135, g136) dX10_readOperand_123 (by omega) hpo hP hD hS
          have c142 := ci_ne c142
          refine lv_aload_n hx hb dX10_readOperand_109 rfl (lv_at hl 2 rfl) ?_
          refine lv_bipush (v := 41) hx hb dX10_readOperand_110 (by decide) ?_
          refine kcm_i hA hAB hP hD hS [true, true, false] rfl (fun _ => rfl) (fun hPc hDc => va_runV (As := [.int 41]) (rest := []) ⟨hx, hb, hml, hown, hts⟩ (k_X10_takes l D κ β a10 r10 b10_bytes v10_count x134 b10_steps x135 n10_bytes f10_bytes H.size 41 i1 h139 h140 hf10_bytes i4 i5 (by omega)) (cwV 1 hts gX10_readOperand_X10_takes rfl rfl rfl (by decide +kernel) ⟨by dsimp only; omega, by dsimp only; omega⟩) (pk_V hK hS hAB hPc hDc 0 (ci := 10) rfl rfl rfl) rfl rfl hl.1 rfl (lv_room (Nat.le_of_ble_eq_true rfl)) dX10_readOperand_112 ⟨Nat.le_of_ble_eq_true rfl, Nat.le_of_ble_eq_true rfl⟩) (fun x144 x143 H locs hw hPD hS => ?_)
          obtain ⟨h145, h146⟩ : (0 ≤ x143.toInt ∧ x143.toInt ≤ 2048) ∧ (x144.toInt = 0 ∨ x144.toInt = 1) := hw
          obtain ⟨hP, hD⟩ : PD D A [O10 a10 r10 b10_bytes v10_count x143 b10_steps x135, (cB κ b10_bytes n10_bytes f10_bytes), (cI κ b10_steps n10_steps g136)] H := hPD
          refine lv_if_eq (tgt := 122) hx hb dX10_readOperand_115 (by decide) (fun c147 => ?_) (fun c147 => ?_)
          · have c147 := ci_eq c147
            refine lv_iconst (v := 0) hx hb dX10_readOperand_122 (by decide) ?_
            have hpo : (0 ≤ x143.toInt ∧ x143.toInt ≤ 2048) ∧ (0 ≤ x135.toInt ∧ x135.toInt ≤ 4096) ∧ ((0 : Int32).toInt = 0 ∨ (0 : Int32).toInt = 1) := ⟨h145, h140, (by omega)⟩
            exact ret _ _ _ _ 0 (x143, x135, g136) dX10_readOperand_123 (by omega) hpo hP hD hS
          have c147 := ci_ne c147
          refine lv_iconst (v := 1) hx hb dX10_readOperand_118 (by decide) ?_
          refine lv_goto (tgt := 123) hx hb dX10_readOperand_119 (by decide) ?_
          have hpo : (0 ≤ x143.toInt ∧ x143.toInt ≤ 2048) ∧ (0 ≤ x135.toInt ∧ x135.toInt ≤ 4096) ∧ ((1 : Int32).toInt = 0 ∨ (1 : Int32).toInt = 1) := ⟨h145, h140, (by omega)⟩
          exact ret _ _ _ _ 1 (x143, x135, g136) dX10_readOperand_123 (by omega) hpo hP hD hS
        have c104 := ci_ne c104
        refine lv_iconst (v := 0) hx hb dX10_readOperand_80 (by decide) ?_
        have hpo : (0 ≤ v10_at.toInt ∧ v10_at.toInt ≤ 2048) ∧ (0 ≤ v10_size.toInt ∧ v10_size.toInt ≤ 4096) ∧ ((0 : Int32).toInt = 0 ∨ (0 : Int32).toInt = 1) := ⟨i2, i3, (by omega)⟩
        exact ret _ _ _ _ 0 (v10_at, v10_size, f10_steps) dX10_readOperand_81 (by omega) hpo hP hD hS
      have c14 := ci_nlt c14
      refine lv_aload_n hx hb dX10_readOperand_37 rfl (lv_at hl 2 rfl) ?_
      refine lv_dup hx hb dX10_readOperand_38 rfl ?_
      refine va_get (D := D) (ci := 10) (v := .int v10_at) (C := RX10) (T := TX10) (N := 5) hx hb hts w1 hown hK.1 hP 0 rfl rfl 2 (by decide) w0 (fun _ h9 => h9) rfl dX10_readOperand_39 ?_
      refine lv_iconst (v := 1) hx hb dX10_readOperand_42 (by decide) ?_
      refine lv_iadd hx hb dX10_readOperand_43 ?_
      refine lv_topi (fun x148 e149 => ?_)
      try have h150 : x148.toInt = v10_at.toInt + (1 : Int32).toInt := ci_add e149 (by omega) (by omega)
      refine va_put (D := D) (ci := 10) (v := .int x148) (ty := .int) (C := RX10) (T := TX10) (N := 5) hx hb hts w1 tyX10 tyX10_ok nmX10 hown hK.1 hP hD hS 0 rfl rfl 2 (by decide) w0 (fun _ h9 => h9) rfl (by decide +kernel) rfl rfl (Nat.le_of_ble_eq_true rfl) dX10_readOperand_44 (fun H locs hP hD hS => ?_)
      obtain ⟨hP, hD⟩ : PD D A [O10 a10 r10 b10_bytes v10_count x148 b10_steps v10_size, (cB κ b10_bytes n10_bytes f10_bytes), (cI κ b10_steps n10_steps f10_steps)] H := ⟨hP, hD⟩
      have h151 : 0 ≤ x148.toInt ∧ x148.toInt ≤ 2048 := by omega
      refine lv_aload_n hx hb dX10_readOperand_47 rfl (lv_at hl 2 rfl) ?_
      refine lv_iconst (v := (-1)) hx hb dX10_readOperand_48 (by decide) ?_
      refine lv_iload_n hx hb dX10_readOperand_49 rfl (lv_at hl 0 rfl) ?_
      refine lv_isub hx hb dX10_readOperand_50 ?_
      refine lv_topi (fun x152 e153 => ?_)
      try have h154 : x152.toInt = ((-1) : Int32).toInt - x11.toInt := ci_sub e153 (by omega) (by omega)
      refine kcm_v hA hAB hP hD hS [true, false, true] rfl (fun _ => rfl) (fun hPc hDc => va_runV (As := [.int x152]) (rest := []) ⟨hx, hb, hml, hown, hts⟩ (k_X10_step l D κ β a10 r10 b10_bytes v10_count x148 b10_steps v10_size n10_steps f10_steps H.size x152 i1 h151 i3 i6) (cwV 1 hts gX10_readOperand_X10_step rfl rfl rfl (by decide +kernel) ⟨by dsimp only; omega, by dsimp only; omega⟩) (pk_V hK hS hAB hPc hDc 0 (ci := 10) rfl rfl rfl) rfl rfl hl.1 rfl (lv_room (Nat.le_of_ble_eq_true rfl)) dX10_readOperand_51 ⟨Nat.le_of_ble_eq_true rfl, Nat.le_of_ble_eq_true rfl⟩) (fun u157 H locs hw hPD hS => ?_)
      obtain ⟨x155, g156⟩ := u157
      have h158 : Rg 0 4096 x155 := hw
      obtain ⟨hP, hD⟩ : PD D A [O10 a10 r10 b10_bytes v10_count x148 b10_steps x155, (cB κ b10_bytes n10_bytes f10_bytes), (cI κ b10_steps n10_steps g156)] H := hPD
      refine lv_iconst (v := 1) hx hb dX10_readOperand_54 (by decide) ?_
      have hpo : (0 ≤ x148.toInt ∧ x148.toInt ≤ 2048) ∧ (0 ≤ x155.toInt ∧ x155.toInt ≤ 4096) ∧ ((1 : Int32).toInt = 0 ∨ (1 : Int32).toInt = 1) := ⟨h151, h158, (by omega)⟩
      exact ret _ _ _ _ 1 (x148, x155, g156) dX10_readOperand_55 (by omega) hpo hP hD hS
    have c8 := ci_nle c8
    refine lv_iconst (v := (-1)) hx hb dX10_readOperand_21 (by decide) ?_
    refine lv_goto (tgt := 32) hx hb dX10_readOperand_22 (by decide) ?_
    refine lv_istore_n (lv' := [(3, .int (-1)), (2, .int x1), (0, .ref a10), (1, .int p1)]) hx hb dX10_readOperand_32 rfl hl (by decide) rfl (fun ls hl => ?_)
    refine lv_iload_n hx hb dX10_readOperand_33 rfl (lv_at hl 0 rfl) ?_
    refine lv_if_lt (tgt := 56) hx hb dX10_readOperand_34 (by decide) (fun c159 => ?_) (fun c159 => ?_)
    · have c159 := ci_lt c159
      refine lv_iload_n hx hb dX10_readOperand_56 rfl (lv_at hl 3 rfl) ?_
      refine lv_bipush (v := 6) hx hb dX10_readOperand_57 (by decide) ?_
      refine lv_icmp_ge (tgt := 80) hx hb dX10_readOperand_59 (by decide) (fun c160 => ?_) (fun c160 => ?_)
      · have c160 := ci_le c160
        refine lv_iconst (v := 0) hx hb dX10_readOperand_80 (by decide) ?_
        have hpo : (0 ≤ v10_at.toInt ∧ v10_at.toInt ≤ 2048) ∧ (0 ≤ v10_size.toInt ∧ v10_size.toInt ≤ 4096) ∧ ((0 : Int32).toInt = 0 ∨ (0 : Int32).toInt = 1) := ⟨i2, i3, (by omega)⟩
        exact ret _ _ _ _ 0 (v10_at, v10_size, f10_steps) dX10_readOperand_81 (by omega) hpo hP hD hS
      have c160 := ci_nle c160
      refine lv_iload_n hx hb dX10_readOperand_62 rfl (lv_at hl 1 rfl) ?_
      refine lv_bipush (v := 40) hx hb dX10_readOperand_63 (by decide) ?_
      refine lv_icmp_eq (tgt := 82) hx hb dX10_readOperand_65 (by decide) (fun c161 => ?_) (fun c161 => ?_)
      · have c161 := ci_eq c161
        refine lv_aload_n hx hb dX10_readOperand_82 rfl (lv_at hl 2 rfl) ?_
        refine lv_dup hx hb dX10_readOperand_83 rfl ?_
        refine va_get (D := D) (ci := 10) (v := .int v10_at) (C := RX10) (T := TX10) (N := 5) hx hb hts w1 hown hK.1 hP 0 rfl rfl 2 (by decide) w0 (fun _ h9 => h9) rfl dX10_readOperand_84 ?_
        refine lv_iconst (v := 1) hx hb dX10_readOperand_87 (by decide) ?_
        refine lv_iadd hx hb dX10_readOperand_88 ?_
        refine lv_topi (fun x162 e163 => ?_)
        try have h164 : x162.toInt = v10_at.toInt + (1 : Int32).toInt := ci_add e163 (by omega) (by omega)
        refine va_put (D := D) (ci := 10) (v := .int x162) (ty := .int) (C := RX10) (T := TX10) (N := 5) hx hb hts w1 tyX10 tyX10_ok nmX10 hown hK.1 hP hD hS 0 rfl rfl 2 (by decide) w0 (fun _ h9 => h9) rfl (by decide +kernel) rfl rfl (Nat.le_of_ble_eq_true rfl) dX10_readOperand_89 (fun H locs hP hD hS => ?_)
        obtain ⟨hP, hD⟩ : PD D A [O10 a10 r10 b10_bytes v10_count x162 b10_steps v10_size, (cB κ b10_bytes n10_bytes f10_bytes), (cI κ b10_steps n10_steps f10_steps)] H := ⟨hP, hD⟩
        have h165 : 0 ≤ x162.toInt ∧ x162.toInt ≤ 2048 := by omega
        refine lv_iload_n hx hb dX10_readOperand_92 rfl (lv_at hl 1 rfl) ?_
        refine lv_bipush (v := 40) hx hb dX10_readOperand_93 (by decide) ?_
        refine lv_icmp_ne (tgt := 124) hx hb dX10_readOperand_95 (by decide) (fun c166 => ?_) (fun c166 => ?_)
        · have c166 := ci_ne c166
          refine lv_aload_n hx hb dX10_readOperand_124 rfl (lv_at hl 2 rfl) ?_
          refine lv_iload_n hx hb dX10_readOperand_125 rfl (lv_at hl 3 rfl) ?_
          refine lv_iconst (v := 1) hx hb dX10_readOperand_126 (by decide) ?_
          refine lv_iadd hx hb dX10_readOperand_127 ?_
          refine lv_topi (fun x167 e168 => ?_)
          try have h169 : x167.toInt = p1.toInt + (1 : Int32).toInt := ci_add e168 (by omega) (by omega)
          refine kcm_i hA hAB hP hD hS [true, true, true] rfl (fun _ => rfl) (fun hPc hDc => va_runV (As := [.int x167]) (rest := []) ⟨hx, hb, hml, hown, hts⟩ (h_op a10 r10 b10_bytes v10_count x162 b10_steps v10_size n10_bytes f10_bytes n10_steps f10_steps H.size x167 i1 h165 i3 hf10_bytes i4 i5 i6 (by omega) (by omega)) (cwV 1 hts gX10_readOperand_X10_readOperand rfl rfl rfl (by decide +kernel) ⟨by dsimp only; omega, by dsimp only; omega⟩) (pk_V hK hS hAB hPc hDc 0 (ci := 10) rfl rfl rfl) rfl rfl hl.1 rfl (lv_room (Nat.le_of_ble_eq_true rfl)) dX10_readOperand_128 ⟨Nat.le_of_ble_eq_true rfl, Nat.le_of_ble_eq_true rfl⟩) (fun x173 u174 H locs hw hPD hS => ?_)
          obtain ⟨x170, x171, g172⟩ := u174
          obtain ⟨h175, h176, h177⟩ : (0 ≤ x170.toInt ∧ x170.toInt ≤ 2048) ∧ (Rg 0 4096 x171) ∧ (x173.toInt = 0 ∨ x173.toInt = 1) := hw
          obtain ⟨hP, hD⟩ : PD D A [O10 a10 r10 b10_bytes v10_count x170 b10_steps x171, (cB κ b10_bytes n10_bytes f10_bytes), (cI κ b10_steps n10_steps g172)] H := hPD
          refine lv_if_ne (tgt := 136) hx hb dX10_readOperand_131 (by decide) (fun c178 => ?_) (fun c178 => ?_)
          · have c178 := ci_ne c178
            refine lv_aload_n hx hb dX10_readOperand_136 rfl (lv_at hl 2 rfl) ?_
            refine lv_iload_n hx hb dX10_readOperand_137 rfl (lv_at hl 1 rfl) ?_
            refine lv_bipush (v := 33) hx hb dX10_readOperand_138 (by decide) ?_
            refine lv_icmp_ne (tgt := 148) hx hb dX10_readOperand_140 (by decide) (fun c179 => ?_) (fun c179 => ?_)
            · have c179 := ci_ne c179
              refine lv_bipush (v := (-126)) hx hb dX10_readOperand_148 (by decide) ?_
              refine kcm_v hA hAB hP hD hS [true, false, true] rfl (fun _ => rfl) (fun hPc hDc => va_runV (As := [.int (-126)]) (rest := []) ⟨hx, hb, hml, hown, hts⟩ (k_X10_step l D κ β a10 r10 b10_bytes v10_count x170 b10_steps x171 n10_steps g172 H.size (-126) i1 h175 h176 i6) (cwV 1 hts gX10_readOperand_X10_step rfl rfl rfl (by decide +kernel) ⟨by dsimp only; omega, by dsimp only; omega⟩) (pk_V hK hS hAB hPc hDc 0 (ci := 10) rfl rfl rfl) rfl rfl hl.1 rfl (lv_room (Nat.le_of_ble_eq_true rfl)) dX10_readOperand_150 ⟨Nat.le_of_ble_eq_true rfl, Nat.le_of_ble_eq_true rfl⟩) (fun u182 H locs hw hPD hS => ?_)
              obtain ⟨x180, g181⟩ := u182
              have h183 : Rg 0 4096 x180 := hw
              obtain ⟨hP, hD⟩ : PD D A [O10 a10 r10 b10_bytes v10_count x170 b10_steps x180, (cB κ b10_bytes n10_bytes f10_bytes), (cI κ b10_steps n10_steps g181)] H := hPD
              refine lv_iconst (v := 1) hx hb dX10_readOperand_153 (by decide) ?_
              have hpo : (0 ≤ x170.toInt ∧ x170.toInt ≤ 2048) ∧ (0 ≤ x180.toInt ∧ x180.toInt ≤ 4096) ∧ ((1 : Int32).toInt = 0 ∨ (1 : Int32).toInt = 1) := ⟨h175, h183, (by omega)⟩
              exact ret _ _ _ _ 1 (x170, x180, g181) dX10_readOperand_154 (by omega) hpo hP hD hS
            have c179 := ci_eq c179
            refine lv_bipush (v := (-33)) hx hb dX10_readOperand_143 (by decide) ?_
            refine lv_goto (tgt := 150) hx hb dX10_readOperand_145 (by decide) ?_
            refine kcm_v hA hAB hP hD hS [true, false, true] rfl (fun _ => rfl) (fun hPc hDc => va_runV (As := [.int (-33)]) (rest := []) ⟨hx, hb, hml, hown, hts⟩ (k_X10_step l D κ β a10 r10 b10_bytes v10_count x170 b10_steps x171 n10_steps g172 H.size (-33) i1 h175 h176 i6) (cwV 1 hts gX10_readOperand_X10_step rfl rfl rfl (by decide +kernel) ⟨by dsimp only; omega, by dsimp only; omega⟩) (pk_V hK hS hAB hPc hDc 0 (ci := 10) rfl rfl rfl) rfl rfl hl.1 rfl (lv_room (Nat.le_of_ble_eq_true rfl)) dX10_readOperand_150 ⟨Nat.le_of_ble_eq_true rfl, Nat.le_of_ble_eq_true rfl⟩) (fun u186 H locs hw hPD hS => ?_)
            obtain ⟨x184, g185⟩ := u186
            have h187 : Rg 0 4096 x184 := hw
            obtain ⟨hP, hD⟩ : PD D A [O10 a10 r10 b10_bytes v10_count x170 b10_steps x184, (cB κ b10_bytes n10_bytes f10_bytes), (cI κ b10_steps n10_steps g185)] H := hPD
            refine lv_iconst (v := 1) hx hb dX10_readOperand_153 (by decide) ?_
            have hpo : (0 ≤ x170.toInt ∧ x170.toInt ≤ 2048) ∧ (0 ≤ x184.toInt ∧ x184.toInt ≤ 4096) ∧ ((1 : Int32).toInt = 0 ∨ (1 : Int32).toInt = 1) := ⟨h175, h187, (by omega)⟩
            exact ret _ _ _ _ 1 (x170, x184, g185) dX10_readOperand_154 (by omega) hpo hP hD hS
          have c178 := ci_eq c178
          refine lv_iconst (v := 0) hx hb dX10_readOperand_134 (by decide) ?_
          have hpo : (0 ≤ x170.toInt ∧ x170.toInt ≤ 2048) ∧ (0 ≤ x171.toInt ∧ x171.toInt ≤ 4096) ∧ ((0 : Int32).toInt = 0 ∨ (0 : Int32).toInt = 1) := ⟨h175, h176, (by omega)⟩
          exact ret _ _ _ _ 0 (x170, x171, g172) dX10_readOperand_135 (by omega) hpo hP hD hS
        have c166 := ci_eq c166
        refine lv_aload_n hx hb dX10_readOperand_98 rfl (lv_at hl 2 rfl) ?_
        refine lv_iconst (v := 0) hx hb dX10_readOperand_99 (by decide) ?_
        refine lv_iload_n hx hb dX10_readOperand_100 rfl (lv_at hl 3 rfl) ?_
        refine lv_iconst (v := 1) hx hb dX10_readOperand_101 (by decide) ?_
        refine lv_iadd hx hb dX10_readOperand_102 ?_
        refine lv_topi (fun x188 e189 => ?_)
        try have h190 : x188.toInt = p1.toInt + (1 : Int32).toInt := ci_add e189 (by omega) (by omega)
        refine kcm_i hA hAB hP hD hS [true, true, true] rfl (fun _ => rfl) (fun hPc hDc => va_runV (As := [.int 0, .int x188]) (rest := []) ⟨hx, hb, hml, hown, hts⟩ (h_lv a10 r10 b10_bytes v10_count x162 b10_steps v10_size n10_bytes f10_bytes n10_steps f10_steps H.size 0 x188 i1 h165 i3 hf10_bytes i4 i5 i6 (by omega) (by omega)) (cwV 2 hts gX10_readOperand_X10_readLevel rfl rfl rfl (by decide +kernel) ⟨by dsimp only; omega, by dsimp only; omega⟩) (pk_V hK hS hAB hPc hDc 0 (ci := 10) rfl rfl rfl) rfl rfl hl.1 rfl (lv_room (Nat.le_of_ble_eq_true rfl)) dX10_readOperand_103 ⟨Nat.le_of_ble_eq_true rfl, Nat.le_of_ble_eq_true rfl⟩) (fun x194 u195 H locs hw hPD hS => ?_)
        obtain ⟨x191, x192, g193⟩ := u195
        obtain ⟨h196, h197, h198⟩ : (0 ≤ x191.toInt ∧ x191.toInt ≤ 2048) ∧ (Rg 0 4096 x192) ∧ (x194.toInt = 0 ∨ x194.toInt = 1) := hw
        obtain ⟨hP, hD⟩ : PD D A [O10 a10 r10 b10_bytes v10_count x191 b10_steps x192, (cB κ b10_bytes n10_bytes f10_bytes), (cI κ b10_steps n10_steps g193)] H := hPD
        refine lv_if_eq (tgt := 122) hx hb dX10_readOperand_106 (by decide) (fun c199 => ?_) (fun c199 => ?_)
        · have c199 := ci_eq c199
          refine lv_iconst (v := 0) hx hb dX10_readOperand_122 (by decide) ?_
          have hpo : (0 ≤ x191.toInt ∧ x191.toInt ≤ 2048) ∧ (0 ≤ x192.toInt ∧ x192.toInt ≤ 4096) ∧ ((0 : Int32).toInt = 0 ∨ (0 : Int32).toInt = 1) := ⟨h196, h197, (by omega)⟩
          exact ret _ _ _ _ 0 (x191, x192, g193) dX10_readOperand_123 (by omega) hpo hP hD hS
        have c199 := ci_ne c199
        refine lv_aload_n hx hb dX10_readOperand_109 rfl (lv_at hl 2 rfl) ?_
        refine lv_bipush (v := 41) hx hb dX10_readOperand_110 (by decide) ?_
        refine kcm_i hA hAB hP hD hS [true, true, false] rfl (fun _ => rfl) (fun hPc hDc => va_runV (As := [.int 41]) (rest := []) ⟨hx, hb, hml, hown, hts⟩ (k_X10_takes l D κ β a10 r10 b10_bytes v10_count x191 b10_steps x192 n10_bytes f10_bytes H.size 41 i1 h196 h197 hf10_bytes i4 i5 (by omega)) (cwV 1 hts gX10_readOperand_X10_takes rfl rfl rfl (by decide +kernel) ⟨by dsimp only; omega, by dsimp only; omega⟩) (pk_V hK hS hAB hPc hDc 0 (ci := 10) rfl rfl rfl) rfl rfl hl.1 rfl (lv_room (Nat.le_of_ble_eq_true rfl)) dX10_readOperand_112 ⟨Nat.le_of_ble_eq_true rfl, Nat.le_of_ble_eq_true rfl⟩) (fun x201 x200 H locs hw hPD hS => ?_)
        obtain ⟨h202, h203⟩ : (0 ≤ x200.toInt ∧ x200.toInt ≤ 2048) ∧ (x201.toInt = 0 ∨ x201.toInt = 1) := hw
        obtain ⟨hP, hD⟩ : PD D A [O10 a10 r10 b10_bytes v10_count x200 b10_steps x192, (cB κ b10_bytes n10_bytes f10_bytes), (cI κ b10_steps n10_steps g193)] H := hPD
        refine lv_if_eq (tgt := 122) hx hb dX10_readOperand_115 (by decide) (fun c204 => ?_) (fun c204 => ?_)
        · have c204 := ci_eq c204
          refine lv_iconst (v := 0) hx hb dX10_readOperand_122 (by decide) ?_
          have hpo : (0 ≤ x200.toInt ∧ x200.toInt ≤ 2048) ∧ (0 ≤ x192.toInt ∧ x192.toInt ≤ 4096) ∧ ((0 : Int32).toInt = 0 ∨ (0 : Int32).toInt = 1) := ⟨h202, h197, (by omega)⟩
          exact ret _ _ _ _ 0 (x200, x192, g193) dX10_readOperand_123 (by omega) hpo hP hD hS
        have c204 := ci_ne c204
        refine lv_iconst (v := 1) hx hb dX10_readOperand_118 (by decide) ?_
        refine lv_goto (tgt := 123) hx hb dX10_readOperand_119 (by decide) ?_
        have hpo : (0 ≤ x200.toInt ∧ x200.toInt ≤ 2048) ∧ (0 ≤ x192.toInt ∧ x192.toInt ≤ 4096) ∧ ((1 : Int32).toInt = 0 ∨ (1 : Int32).toInt = 1) := ⟨h202, h197, (by omega)⟩
        exact ret _ _ _ _ 1 (x200, x192, g193) dX10_readOperand_123 (by omega) hpo hP hD hS
      have c161 := ci_ne c161
      refine lv_iload_n hx hb dX10_readOperand_68 rfl (lv_at hl 1 rfl) ?_
      refine lv_bipush (v := 33) hx hb dX10_readOperand_69 (by decide) ?_
      refine lv_icmp_eq (tgt := 82) hx hb dX10_readOperand_71 (by decide) (fun c205 => ?_) (fun c205 => ?_)
      · have c205 := ci_eq c205
        refine lv_aload_n hx hb dX10_readOperand_82 rfl (lv_at hl 2 rfl) ?_
        refine lv_dup hx hb dX10_readOperand_83 rfl ?_
        refine va_get (D := D) (ci := 10) (v := .int v10_at) (C := RX10) (T := TX10) (N := 5) hx hb hts w1 hown hK.1 hP 0 rfl rfl 2 (by decide) w0 (fun _ h9 => h9) rfl dX10_readOperand_84 ?_
        refine lv_iconst (v := 1) hx hb dX10_readOperand_87 (by decide) ?_
        refine lv_iadd hx hb dX10_readOperand_88 ?_
        refine lv_topi (fun x206 e207 => ?_)
        try have h208 : x206.toInt = v10_at.toInt + (1 : Int32).toInt := ci_add e207 (by omega) (by omega)
        refine va_put (D := D) (ci := 10) (v := .int x206) (ty := .int) (C := RX10) (T := TX10) (N := 5) hx hb hts w1 tyX10 tyX10_ok nmX10 hown hK.1 hP hD hS 0 rfl rfl 2 (by decide) w0 (fun _ h9 => h9) rfl (by decide +kernel) rfl rfl (Nat.le_of_ble_eq_true rfl) dX10_readOperand_89 (fun H locs hP hD hS => ?_)
        obtain ⟨hP, hD⟩ : PD D A [O10 a10 r10 b10_bytes v10_count x206 b10_steps v10_size, (cB κ b10_bytes n10_bytes f10_bytes), (cI κ b10_steps n10_steps f10_steps)] H := ⟨hP, hD⟩
        have h209 : 0 ≤ x206.toInt ∧ x206.toInt ≤ 2048 := by omega
        refine lv_iload_n hx hb dX10_readOperand_92 rfl (lv_at hl 1 rfl) ?_
        refine lv_bipush (v := 40) hx hb dX10_readOperand_93 (by decide) ?_
        refine lv_icmp_ne (tgt := 124) hx hb dX10_readOperand_95 (by decide) (fun c210 => ?_) (fun c210 => ?_)
        · have c210 := ci_ne c210
          refine lv_aload_n hx hb dX10_readOperand_124 rfl (lv_at hl 2 rfl) ?_
          refine lv_iload_n hx hb dX10_readOperand_125 rfl (lv_at hl 3 rfl) ?_
          refine lv_iconst (v := 1) hx hb dX10_readOperand_126 (by decide) ?_
          refine lv_iadd hx hb dX10_readOperand_127 ?_
          refine lv_topi (fun x211 e212 => ?_)
          try have h213 : x211.toInt = p1.toInt + (1 : Int32).toInt := ci_add e212 (by omega) (by omega)
          refine kcm_i hA hAB hP hD hS [true, true, true] rfl (fun _ => rfl) (fun hPc hDc => va_runV (As := [.int x211]) (rest := []) ⟨hx, hb, hml, hown, hts⟩ (h_op a10 r10 b10_bytes v10_count x206 b10_steps v10_size n10_bytes f10_bytes n10_steps f10_steps H.size x211 i1 h209 i3 hf10_bytes i4 i5 i6 (by omega) (by omega)) (cwV 1 hts gX10_readOperand_X10_readOperand rfl rfl rfl (by decide +kernel) ⟨by dsimp only; omega, by dsimp only; omega⟩) (pk_V hK hS hAB hPc hDc 0 (ci := 10) rfl rfl rfl) rfl rfl hl.1 rfl (lv_room (Nat.le_of_ble_eq_true rfl)) dX10_readOperand_128 ⟨Nat.le_of_ble_eq_true rfl, Nat.le_of_ble_eq_true rfl⟩) (fun x217 u218 H locs hw hPD hS => ?_)
          obtain ⟨x214, x215, g216⟩ := u218
          obtain ⟨h219, h220, h221⟩ : (0 ≤ x214.toInt ∧ x214.toInt ≤ 2048) ∧ (Rg 0 4096 x215) ∧ (x217.toInt = 0 ∨ x217.toInt = 1) := hw
          obtain ⟨hP, hD⟩ : PD D A [O10 a10 r10 b10_bytes v10_count x214 b10_steps x215, (cB κ b10_bytes n10_bytes f10_bytes), (cI κ b10_steps n10_steps g216)] H := hPD
          refine lv_if_ne (tgt := 136) hx hb dX10_readOperand_131 (by decide) (fun c222 => ?_) (fun c222 => ?_)
          · have c222 := ci_ne c222
            refine lv_aload_n hx hb dX10_readOperand_136 rfl (lv_at hl 2 rfl) ?_
            refine lv_iload_n hx hb dX10_readOperand_137 rfl (lv_at hl 1 rfl) ?_
            refine lv_bipush (v := 33) hx hb dX10_readOperand_138 (by decide) ?_
            refine lv_icmp_ne (tgt := 148) hx hb dX10_readOperand_140 (by decide) (fun c223 => ?_) (fun c223 => ?_)
            · have c223 := ci_ne c223
              refine lv_bipush (v := (-126)) hx hb dX10_readOperand_148 (by decide) ?_
              refine kcm_v hA hAB hP hD hS [true, false, true] rfl (fun _ => rfl) (fun hPc hDc => va_runV (As := [.int (-126)]) (rest := []) ⟨hx, hb, hml, hown, hts⟩ (k_X10_step l D κ β a10 r10 b10_bytes v10_count x214 b10_steps x215 n10_steps g216 H.size (-126) i1 h219 h220 i6) (cwV 1 hts gX10_readOperand_X10_step rfl rfl rfl (by decide +kernel) ⟨by dsimp only; omega, by dsimp only; omega⟩) (pk_V hK hS hAB hPc hDc 0 (ci := 10) rfl rfl rfl) rfl rfl hl.1 rfl (lv_room (Nat.le_of_ble_eq_true rfl)) dX10_readOperand_150 ⟨Nat.le_of_ble_eq_true rfl, Nat.le_of_ble_eq_true rfl⟩) (fun u226 H locs hw hPD hS => ?_)
              obtain ⟨x224, g225⟩ := u226
              have h227 : Rg 0 4096 x224 := hw
              obtain ⟨hP, hD⟩ : PD D A [O10 a10 r10 b10_bytes v10_count x214 b10_steps x224, (cB κ b10_bytes n10_bytes f10_bytes), (cI κ b10_steps n10_steps g225)] H := hPD
              refine lv_iconst (v := 1) hx hb dX10_readOperand_153 (by decide) ?_
              have hpo : (0 ≤ x214.toInt ∧ x214.toInt ≤ 2048) ∧ (0 ≤ x224.toInt ∧ x224.toInt ≤ 4096) ∧ ((1 : Int32).toInt = 0 ∨ (1 : Int32).toInt = 1) := ⟨h219, h227, (by omega)⟩
              exact ret _ _ _ _ 1 (x214, x224, g225) dX10_readOperand_154 (by omega) hpo hP hD hS
            have c223 := ci_eq c223
            refine lv_bipush (v := (-33)) hx hb dX10_readOperand_143 (by decide) ?_
            refine lv_goto (tgt := 150) hx hb dX10_readOperand_145 (by decide) ?_
            refine kcm_v hA hAB hP hD hS [true, false, true] rfl (fun _ => rfl) (fun hPc hDc => va_runV (As := [.int (-33)]) (rest := []) ⟨hx, hb, hml, hown, hts⟩ (k_X10_step l D κ β a10 r10 b10_bytes v10_count x214 b10_steps x215 n10_steps g216 H.size (-33) i1 h219 h220 i6) (cwV 1 hts gX10_readOperand_X10_step rfl rfl rfl (by decide +kernel) ⟨by dsimp only; omega, by dsimp only; omega⟩) (pk_V hK hS hAB hPc hDc 0 (ci := 10) rfl rfl rfl) rfl rfl hl.1 rfl (lv_room (Nat.le_of_ble_eq_true rfl)) dX10_readOperand_150 ⟨Nat.le_of_ble_eq_true rfl, Nat.le_of_ble_eq_true rfl⟩) (fun u230 H locs hw hPD hS => ?_)
            obtain ⟨x228, g229⟩ := u230
            have h231 : Rg 0 4096 x228 := hw
            obtain ⟨hP, hD⟩ : PD D A [O10 a10 r10 b10_bytes v10_count x214 b10_steps x228, (cB κ b10_bytes n10_bytes f10_bytes), (cI κ b10_steps n10_steps g229)] H := hPD
            refine lv_iconst (v := 1) hx hb dX10_readOperand_153 (by decide) ?_
            have hpo : (0 ≤ x214.toInt ∧ x214.toInt ≤ 2048) ∧ (0 ≤ x228.toInt ∧ x228.toInt ≤ 4096) ∧ ((1 : Int32).toInt = 0 ∨ (1 : Int32).toInt = 1) := ⟨h219, h231, (by omega)⟩
            exact ret _ _ _ _ 1 (x214, x228, g229) dX10_readOperand_154 (by omega) hpo hP hD hS
          have c222 := ci_eq c222
          refine lv_iconst (v := 0) hx hb dX10_readOperand_134 (by decide) ?_
          have hpo : (0 ≤ x214.toInt ∧ x214.toInt ≤ 2048) ∧ (0 ≤ x215.toInt ∧ x215.toInt ≤ 4096) ∧ ((0 : Int32).toInt = 0 ∨ (0 : Int32).toInt = 1) := ⟨h219, h220, (by omega)⟩
          exact ret _ _ _ _ 0 (x214, x215, g216) dX10_readOperand_135 (by omega) hpo hP hD hS
        have c210 := ci_eq c210
        refine lv_aload_n hx hb dX10_readOperand_98 rfl (lv_at hl 2 rfl) ?_
        refine lv_iconst (v := 0) hx hb dX10_readOperand_99 (by decide) ?_
        refine lv_iload_n hx hb dX10_readOperand_100 rfl (lv_at hl 3 rfl) ?_
        refine lv_iconst (v := 1) hx hb dX10_readOperand_101 (by decide) ?_
        refine lv_iadd hx hb dX10_readOperand_102 ?_
        refine lv_topi (fun x232 e233 => ?_)
        try have h234 : x232.toInt = p1.toInt + (1 : Int32).toInt := ci_add e233 (by omega) (by omega)
        refine kcm_i hA hAB hP hD hS [true, true, true] rfl (fun _ => rfl) (fun hPc hDc => va_runV (As := [.int 0, .int x232]) (rest := []) ⟨hx, hb, hml, hown, hts⟩ (h_lv a10 r10 b10_bytes v10_count x206 b10_steps v10_size n10_bytes f10_bytes n10_steps f10_steps H.size 0 x232 i1 h209 i3 hf10_bytes i4 i5 i6 (by omega) (by omega)) (cwV 2 hts gX10_readOperand_X10_readLevel rfl rfl rfl (by decide +kernel) ⟨by dsimp only; omega, by dsimp only; omega⟩) (pk_V hK hS hAB hPc hDc 0 (ci := 10) rfl rfl rfl) rfl rfl hl.1 rfl (lv_room (Nat.le_of_ble_eq_true rfl)) dX10_readOperand_103 ⟨Nat.le_of_ble_eq_true rfl, Nat.le_of_ble_eq_true rfl⟩) (fun x238 u239 H locs hw hPD hS => ?_)
        obtain ⟨x235, x236, g237⟩ := u239
        obtain ⟨h240, h241, h242⟩ : (0 ≤ x235.toInt ∧ x235.toInt ≤ 2048) ∧ (Rg 0 4096 x236) ∧ (x238.toInt = 0 ∨ x238.toInt = 1) := hw
        obtain ⟨hP, hD⟩ : PD D A [O10 a10 r10 b10_bytes v10_count x235 b10_steps x236, (cB κ b10_bytes n10_bytes f10_bytes), (cI κ b10_steps n10_steps g237)] H := hPD
        refine lv_if_eq (tgt := 122) hx hb dX10_readOperand_106 (by decide) (fun c243 => ?_) (fun c243 => ?_)
        · have c243 := ci_eq c243
          refine lv_iconst (v := 0) hx hb dX10_readOperand_122 (by decide) ?_
          have hpo : (0 ≤ x235.toInt ∧ x235.toInt ≤ 2048) ∧ (0 ≤ x236.toInt ∧ x236.toInt ≤ 4096) ∧ ((0 : Int32).toInt = 0 ∨ (0 : Int32).toInt = 1) := ⟨h240, h241, (by omega)⟩
          exact ret _ _ _ _ 0 (x235, x236, g237) dX10_readOperand_123 (by omega) hpo hP hD hS
        have c243 := ci_ne c243
        refine lv_aload_n hx hb dX10_readOperand_109 rfl (lv_at hl 2 rfl) ?_
        refine lv_bipush (v := 41) hx hb dX10_readOperand_110 (by decide) ?_
        refine kcm_i hA hAB hP hD hS [true, true, false] rfl (fun _ => rfl) (fun hPc hDc => va_runV (As := [.int 41]) (rest := []) ⟨hx, hb, hml, hown, hts⟩ (k_X10_takes l D κ β a10 r10 b10_bytes v10_count x235 b10_steps x236 n10_bytes f10_bytes H.size 41 i1 h240 h241 hf10_bytes i4 i5 (by omega)) (cwV 1 hts gX10_readOperand_X10_takes rfl rfl rfl (by decide +kernel) ⟨by dsimp only; omega, by dsimp only; omega⟩) (pk_V hK hS hAB hPc hDc 0 (ci := 10) rfl rfl rfl) rfl rfl hl.1 rfl (lv_room (Nat.le_of_ble_eq_true rfl)) dX10_readOperand_112 ⟨Nat.le_of_ble_eq_true rfl, Nat.le_of_ble_eq_true rfl⟩) (fun x245 x244 H locs hw hPD hS => ?_)
        obtain ⟨h246, h247⟩ : (0 ≤ x244.toInt ∧ x244.toInt ≤ 2048) ∧ (x245.toInt = 0 ∨ x245.toInt = 1) := hw
        obtain ⟨hP, hD⟩ : PD D A [O10 a10 r10 b10_bytes v10_count x244 b10_steps x236, (cB κ b10_bytes n10_bytes f10_bytes), (cI κ b10_steps n10_steps g237)] H := hPD
        refine lv_if_eq (tgt := 122) hx hb dX10_readOperand_115 (by decide) (fun c248 => ?_) (fun c248 => ?_)
        · have c248 := ci_eq c248
          refine lv_iconst (v := 0) hx hb dX10_readOperand_122 (by decide) ?_
          have hpo : (0 ≤ x244.toInt ∧ x244.toInt ≤ 2048) ∧ (0 ≤ x236.toInt ∧ x236.toInt ≤ 4096) ∧ ((0 : Int32).toInt = 0 ∨ (0 : Int32).toInt = 1) := ⟨h246, h241, (by omega)⟩
          exact ret _ _ _ _ 0 (x244, x236, g237) dX10_readOperand_123 (by omega) hpo hP hD hS
        have c248 := ci_ne c248
        refine lv_iconst (v := 1) hx hb dX10_readOperand_118 (by decide) ?_
        refine lv_goto (tgt := 123) hx hb dX10_readOperand_119 (by decide) ?_
        have hpo : (0 ≤ x244.toInt ∧ x244.toInt ≤ 2048) ∧ (0 ≤ x236.toInt ∧ x236.toInt ≤ 4096) ∧ ((1 : Int32).toInt = 0 ∨ (1 : Int32).toInt = 1) := ⟨h246, h241, (by omega)⟩
        exact ret _ _ _ _ 1 (x244, x236, g237) dX10_readOperand_123 (by omega) hpo hP hD hS
      have c205 := ci_ne c205
      refine lv_iload_n hx hb dX10_readOperand_74 rfl (lv_at hl 1 rfl) ?_
      refine lv_bipush (v := 45) hx hb dX10_readOperand_75 (by decide) ?_
      refine lv_icmp_eq (tgt := 82) hx hb dX10_readOperand_77 (by decide) (fun c249 => ?_) (fun c249 => ?_)
      · have c249 := ci_eq c249
        refine lv_aload_n hx hb dX10_readOperand_82 rfl (lv_at hl 2 rfl) ?_
        refine lv_dup hx hb dX10_readOperand_83 rfl ?_
        refine va_get (D := D) (ci := 10) (v := .int v10_at) (C := RX10) (T := TX10) (N := 5) hx hb hts w1 hown hK.1 hP 0 rfl rfl 2 (by decide) w0 (fun _ h9 => h9) rfl dX10_readOperand_84 ?_
        refine lv_iconst (v := 1) hx hb dX10_readOperand_87 (by decide) ?_
        refine lv_iadd hx hb dX10_readOperand_88 ?_
        refine lv_topi (fun x250 e251 => ?_)
        try have h252 : x250.toInt = v10_at.toInt + (1 : Int32).toInt := ci_add e251 (by omega) (by omega)
        refine va_put (D := D) (ci := 10) (v := .int x250) (ty := .int) (C := RX10) (T := TX10) (N := 5) hx hb hts w1 tyX10 tyX10_ok nmX10 hown hK.1 hP hD hS 0 rfl rfl 2 (by decide) w0 (fun _ h9 => h9) rfl (by decide +kernel) rfl rfl (Nat.le_of_ble_eq_true rfl) dX10_readOperand_89 (fun H locs hP hD hS => ?_)
        obtain ⟨hP, hD⟩ : PD D A [O10 a10 r10 b10_bytes v10_count x250 b10_steps v10_size, (cB κ b10_bytes n10_bytes f10_bytes), (cI κ b10_steps n10_steps f10_steps)] H := ⟨hP, hD⟩
        have h253 : 0 ≤ x250.toInt ∧ x250.toInt ≤ 2048 := by omega
        refine lv_iload_n hx hb dX10_readOperand_92 rfl (lv_at hl 1 rfl) ?_
        refine lv_bipush (v := 40) hx hb dX10_readOperand_93 (by decide) ?_
        refine lv_icmp_ne (tgt := 124) hx hb dX10_readOperand_95 (by decide) (fun c254 => ?_) (fun c254 => ?_)
        · have c254 := ci_ne c254
          refine lv_aload_n hx hb dX10_readOperand_124 rfl (lv_at hl 2 rfl) ?_
          refine lv_iload_n hx hb dX10_readOperand_125 rfl (lv_at hl 3 rfl) ?_
          refine lv_iconst (v := 1) hx hb dX10_readOperand_126 (by decide) ?_
          refine lv_iadd hx hb dX10_readOperand_127 ?_
          refine lv_topi (fun x255 e256 => ?_)
          try have h257 : x255.toInt = p1.toInt + (1 : Int32).toInt := ci_add e256 (by omega) (by omega)
          refine kcm_i hA hAB hP hD hS [true, true, true] rfl (fun _ => rfl) (fun hPc hDc => va_runV (As := [.int x255]) (rest := []) ⟨hx, hb, hml, hown, hts⟩ (h_op a10 r10 b10_bytes v10_count x250 b10_steps v10_size n10_bytes f10_bytes n10_steps f10_steps H.size x255 i1 h253 i3 hf10_bytes i4 i5 i6 (by omega) (by omega)) (cwV 1 hts gX10_readOperand_X10_readOperand rfl rfl rfl (by decide +kernel) ⟨by dsimp only; omega, by dsimp only; omega⟩) (pk_V hK hS hAB hPc hDc 0 (ci := 10) rfl rfl rfl) rfl rfl hl.1 rfl (lv_room (Nat.le_of_ble_eq_true rfl)) dX10_readOperand_128 ⟨Nat.le_of_ble_eq_true rfl, Nat.le_of_ble_eq_true rfl⟩) (fun x261 u262 H locs hw hPD hS => ?_)
          obtain ⟨x258, x259, g260⟩ := u262
          obtain ⟨h263, h264, h265⟩ : (0 ≤ x258.toInt ∧ x258.toInt ≤ 2048) ∧ (Rg 0 4096 x259) ∧ (x261.toInt = 0 ∨ x261.toInt = 1) := hw
          obtain ⟨hP, hD⟩ : PD D A [O10 a10 r10 b10_bytes v10_count x258 b10_steps x259, (cB κ b10_bytes n10_bytes f10_bytes), (cI κ b10_steps n10_steps g260)] H := hPD
          refine lv_if_ne (tgt := 136) hx hb dX10_readOperand_131 (by decide) (fun c266 => ?_) (fun c266 => ?_)
          · have c266 := ci_ne c266
            refine lv_aload_n hx hb dX10_readOperand_136 rfl (lv_at hl 2 rfl) ?_
            refine lv_iload_n hx hb dX10_readOperand_137 rfl (lv_at hl 1 rfl) ?_
            refine lv_bipush (v := 33) hx hb dX10_readOperand_138 (by decide) ?_
            refine lv_icmp_ne (tgt := 148) hx hb dX10_readOperand_140 (by decide) (fun c267 => ?_) (fun c267 => ?_)
            · have c267 := ci_ne c267
              refine lv_bipush (v := (-126)) hx hb dX10_readOperand_148 (by decide) ?_
              refine kcm_v hA hAB hP hD hS [true, false, true] rfl (fun _ => rfl) (fun hPc hDc => va_runV (As := [.int (-126)]) (rest := []) ⟨hx, hb, hml, hown, hts⟩ (k_X10_step l D κ β a10 r10 b10_bytes v10_count x258 b10_steps x259 n10_steps g260 H.size (-126) i1 h263 h264 i6) (cwV 1 hts gX10_readOperand_X10_step rfl rfl rfl (by decide +kernel) ⟨by dsimp only; omega, by dsimp only; omega⟩) (pk_V hK hS hAB hPc hDc 0 (ci := 10) rfl rfl rfl) rfl rfl hl.1 rfl (lv_room (Nat.le_of_ble_eq_true rfl)) dX10_readOperand_150 ⟨Nat.le_of_ble_eq_true rfl, Nat.le_of_ble_eq_true rfl⟩) (fun u270 H locs hw hPD hS => ?_)
              obtain ⟨x268, g269⟩ := u270
              have h271 : Rg 0 4096 x268 := hw
              obtain ⟨hP, hD⟩ : PD D A [O10 a10 r10 b10_bytes v10_count x258 b10_steps x268, (cB κ b10_bytes n10_bytes f10_bytes), (cI κ b10_steps n10_steps g269)] H := hPD
              refine lv_iconst (v := 1) hx hb dX10_readOperand_153 (by decide) ?_
              have hpo : (0 ≤ x258.toInt ∧ x258.toInt ≤ 2048) ∧ (0 ≤ x268.toInt ∧ x268.toInt ≤ 4096) ∧ ((1 : Int32).toInt = 0 ∨ (1 : Int32).toInt = 1) := ⟨h263, h271, (by omega)⟩
              exact ret _ _ _ _ 1 (x258, x268, g269) dX10_readOperand_154 (by omega) hpo hP hD hS
            have c267 := ci_eq c267
            refine lv_bipush (v := (-33)) hx hb dX10_readOperand_143 (by decide) ?_
            refine lv_goto (tgt := 150) hx hb dX10_readOperand_145 (by decide) ?_
            refine kcm_v hA hAB hP hD hS [true, false, true] rfl (fun _ => rfl) (fun hPc hDc => va_runV (As := [.int (-33)]) (rest := []) ⟨hx, hb, hml, hown, hts⟩ (k_X10_step l D κ β a10 r10 b10_bytes v10_count x258 b10_steps x259 n10_steps g260 H.size (-33) i1 h263 h264 i6) (cwV 1 hts gX10_readOperand_X10_step rfl rfl rfl (by decide +kernel) ⟨by dsimp only; omega, by dsimp only; omega⟩) (pk_V hK hS hAB hPc hDc 0 (ci := 10) rfl rfl rfl) rfl rfl hl.1 rfl (lv_room (Nat.le_of_ble_eq_true rfl)) dX10_readOperand_150 ⟨Nat.le_of_ble_eq_true rfl, Nat.le_of_ble_eq_true rfl⟩) (fun u274 H locs hw hPD hS => ?_)
            obtain ⟨x272, g273⟩ := u274
            have h275 : Rg 0 4096 x272 := hw
            obtain ⟨hP, hD⟩ : PD D A [O10 a10 r10 b10_bytes v10_count x258 b10_steps x272, (cB κ b10_bytes n10_bytes f10_bytes), (cI κ b10_steps n10_steps g273)] H := hPD
            refine lv_iconst (v := 1) hx hb dX10_readOperand_153 (by decide) ?_
            have hpo : (0 ≤ x258.toInt ∧ x258.toInt ≤ 2048) ∧ (0 ≤ x272.toInt ∧ x272.toInt ≤ 4096) ∧ ((1 : Int32).toInt = 0 ∨ (1 : Int32).toInt = 1) := ⟨h263, h275, (by omega)⟩
            exact ret _ _ _ _ 1 (x258, x272, g273) dX10_readOperand_154 (by omega) hpo hP hD hS
          have c266 := ci_eq c266
          refine lv_iconst (v := 0) hx hb dX10_readOperand_134 (by decide) ?_
          have hpo : (0 ≤ x258.toInt ∧ x258.toInt ≤ 2048) ∧ (0 ≤ x259.toInt ∧ x259.toInt ≤ 4096) ∧ ((0 : Int32).toInt = 0 ∨ (0 : Int32).toInt = 1) := ⟨h263, h264, (by omega)⟩
          exact ret _ _ _ _ 0 (x258, x259, g260) dX10_readOperand_135 (by omega) hpo hP hD hS
        have c254 := ci_eq c254
        refine lv_aload_n hx hb dX10_readOperand_98 rfl (lv_at hl 2 rfl) ?_
        refine lv_iconst (v := 0) hx hb dX10_readOperand_99 (by decide) ?_
        refine lv_iload_n hx hb dX10_readOperand_100 rfl (lv_at hl 3 rfl) ?_
        refine lv_iconst (v := 1) hx hb dX10_readOperand_101 (by decide) ?_
        refine lv_iadd hx hb dX10_readOperand_102 ?_
        refine lv_topi (fun x276 e277 => ?_)
        try have h278 : x276.toInt = p1.toInt + (1 : Int32).toInt := ci_add e277 (by omega) (by omega)
        refine kcm_i hA hAB hP hD hS [true, true, true] rfl (fun _ => rfl) (fun hPc hDc => va_runV (As := [.int 0, .int x276]) (rest := []) ⟨hx, hb, hml, hown, hts⟩ (h_lv a10 r10 b10_bytes v10_count x250 b10_steps v10_size n10_bytes f10_bytes n10_steps f10_steps H.size 0 x276 i1 h253 i3 hf10_bytes i4 i5 i6 (by omega) (by omega)) (cwV 2 hts gX10_readOperand_X10_readLevel rfl rfl rfl (by decide +kernel) ⟨by dsimp only; omega, by dsimp only; omega⟩) (pk_V hK hS hAB hPc hDc 0 (ci := 10) rfl rfl rfl) rfl rfl hl.1 rfl (lv_room (Nat.le_of_ble_eq_true rfl)) dX10_readOperand_103 ⟨Nat.le_of_ble_eq_true rfl, Nat.le_of_ble_eq_true rfl⟩) (fun x282 u283 H locs hw hPD hS => ?_)
        obtain ⟨x279, x280, g281⟩ := u283
        obtain ⟨h284, h285, h286⟩ : (0 ≤ x279.toInt ∧ x279.toInt ≤ 2048) ∧ (Rg 0 4096 x280) ∧ (x282.toInt = 0 ∨ x282.toInt = 1) := hw
        obtain ⟨hP, hD⟩ : PD D A [O10 a10 r10 b10_bytes v10_count x279 b10_steps x280, (cB κ b10_bytes n10_bytes f10_bytes), (cI κ b10_steps n10_steps g281)] H := hPD
        refine lv_if_eq (tgt := 122) hx hb dX10_readOperand_106 (by decide) (fun c287 => ?_) (fun c287 => ?_)
        · have c287 := ci_eq c287
          refine lv_iconst (v := 0) hx hb dX10_readOperand_122 (by decide) ?_
          have hpo : (0 ≤ x279.toInt ∧ x279.toInt ≤ 2048) ∧ (0 ≤ x280.toInt ∧ x280.toInt ≤ 4096) ∧ ((0 : Int32).toInt = 0 ∨ (0 : Int32).toInt = 1) := ⟨h284, h285, (by omega)⟩
          exact ret _ _ _ _ 0 (x279, x280, g281) dX10_readOperand_123 (by omega) hpo hP hD hS
        have c287 := ci_ne c287
        refine lv_aload_n hx hb dX10_readOperand_109 rfl (lv_at hl 2 rfl) ?_
        refine lv_bipush (v := 41) hx hb dX10_readOperand_110 (by decide) ?_
        refine kcm_i hA hAB hP hD hS [true, true, false] rfl (fun _ => rfl) (fun hPc hDc => va_runV (As := [.int 41]) (rest := []) ⟨hx, hb, hml, hown, hts⟩ (k_X10_takes l D κ β a10 r10 b10_bytes v10_count x279 b10_steps x280 n10_bytes f10_bytes H.size 41 i1 h284 h285 hf10_bytes i4 i5 (by omega)) (cwV 1 hts gX10_readOperand_X10_takes rfl rfl rfl (by decide +kernel) ⟨by dsimp only; omega, by dsimp only; omega⟩) (pk_V hK hS hAB hPc hDc 0 (ci := 10) rfl rfl rfl) rfl rfl hl.1 rfl (lv_room (Nat.le_of_ble_eq_true rfl)) dX10_readOperand_112 ⟨Nat.le_of_ble_eq_true rfl, Nat.le_of_ble_eq_true rfl⟩) (fun x289 x288 H locs hw hPD hS => ?_)
        obtain ⟨h290, h291⟩ : (0 ≤ x288.toInt ∧ x288.toInt ≤ 2048) ∧ (x289.toInt = 0 ∨ x289.toInt = 1) := hw
        obtain ⟨hP, hD⟩ : PD D A [O10 a10 r10 b10_bytes v10_count x288 b10_steps x280, (cB κ b10_bytes n10_bytes f10_bytes), (cI κ b10_steps n10_steps g281)] H := hPD
        refine lv_if_eq (tgt := 122) hx hb dX10_readOperand_115 (by decide) (fun c292 => ?_) (fun c292 => ?_)
        · have c292 := ci_eq c292
          refine lv_iconst (v := 0) hx hb dX10_readOperand_122 (by decide) ?_
          have hpo : (0 ≤ x288.toInt ∧ x288.toInt ≤ 2048) ∧ (0 ≤ x280.toInt ∧ x280.toInt ≤ 4096) ∧ ((0 : Int32).toInt = 0 ∨ (0 : Int32).toInt = 1) := ⟨h290, h285, (by omega)⟩
          exact ret _ _ _ _ 0 (x288, x280, g281) dX10_readOperand_123 (by omega) hpo hP hD hS
        have c292 := ci_ne c292
        refine lv_iconst (v := 1) hx hb dX10_readOperand_118 (by decide) ?_
        refine lv_goto (tgt := 123) hx hb dX10_readOperand_119 (by decide) ?_
        have hpo : (0 ≤ x288.toInt ∧ x288.toInt ≤ 2048) ∧ (0 ≤ x280.toInt ∧ x280.toInt ≤ 4096) ∧ ((1 : Int32).toInt = 0 ∨ (1 : Int32).toInt = 1) := ⟨h290, h285, (by omega)⟩
        exact ret _ _ _ _ 1 (x288, x280, g281) dX10_readOperand_123 (by omega) hpo hP hD hS
      have c249 := ci_ne c249
      refine lv_iconst (v := 0) hx hb dX10_readOperand_80 (by decide) ?_
      have hpo : (0 ≤ v10_at.toInt ∧ v10_at.toInt ≤ 2048) ∧ (0 ≤ v10_size.toInt ∧ v10_size.toInt ≤ 4096) ∧ ((0 : Int32).toInt = 0 ∨ (0 : Int32).toInt = 1) := ⟨i2, i3, (by omega)⟩
      exact ret _ _ _ _ 0 (v10_at, v10_size, f10_steps) dX10_readOperand_81 (by omega) hpo hP hD hS
    have c159 := ci_nlt c159
    exfalso
    omega
  have c7 := ci_ne c7
  refine lv_aload_n hx hb dX10_readOperand_12 rfl (lv_at hl 1 rfl) ?_
  refine kcm_i hA hAB hP hD hS [true, true, true] rfl (fun _ => rfl) (fun hPc hDc => va_runV (As := []) (rest := []) ⟨hx, hb, hml, hown, hts⟩ (k_X10_readNumber l D κ β a10 r10 b10_bytes v10_count v10_at b10_steps v10_size n10_bytes f10_bytes n10_steps f10_steps H.size i1 i2 i3 hf10_bytes i4 i5 i6) (cwV 0 hts gX10_readOperand_X10_readNumber rfl rfl rfl (by decide +kernel) ⟨by dsimp only; omega, by dsimp only; omega⟩) (pk_V hK hS hAB hPc hDc 0 (ci := 10) rfl rfl rfl) rfl rfl hl.1 rfl (lv_room (Nat.le_of_ble_eq_true rfl)) dX10_readOperand_13 ⟨Nat.le_of_ble_eq_true rfl, Nat.le_of_ble_eq_true rfl⟩) (fun x296 u297 H locs hw hPD hS => ?_)
  obtain ⟨x293, x294, g295⟩ := u297
  obtain ⟨h298, h299, h300⟩ : (0 ≤ x293.toInt ∧ x293.toInt ≤ 2048) ∧ (Rg 0 4096 x294) ∧ (x296.toInt = 0 ∨ x296.toInt = 1) := hw
  obtain ⟨hP, hD⟩ : PD D A [O10 a10 r10 b10_bytes v10_count x293 b10_steps x294, (cB κ b10_bytes n10_bytes f10_bytes), (cI κ b10_steps n10_steps g295)] H := hPD
  have hpo : (0 ≤ x293.toInt ∧ x293.toInt ≤ 2048) ∧ (0 ≤ x294.toInt ∧ x294.toInt ≤ 4096) ∧ (x296.toInt = 0 ∨ x296.toInt = 1) := ⟨h298, h299, (by omega)⟩
  exact ret _ _ _ _ x296 (x293, x294, g295) dX10_readOperand_16 (by omega) hpo hP hD hS
set_option maxHeartbeats 4000000 in
set_option maxRecDepth 100000 in
theorem of_X10_op0 (l : Launch) (D : va_G) (κ : Nat → ClassId) (β : Nat) : C_X10_op l D κ β 0 := by
  intro a10 r10 b10_bytes v10_count v10_at b10_steps v10_size n10_bytes f10_bytes n10_steps f10_steps sz p1 i1 i2 i3 hf10_bytes i4 i5 i6 i7 i8
  refine ofK_z (cc := cX10_readOperand) (maxL := 4) (own := RX10) (by decide) rfl rfl (Nat.le_of_ble_eq_true rfl) ?_
  intro p e s m args below meth c Q A ls hsz hx hb hml hts hown hK hA hAB hP hD hl ret
  have hS : va_S A s.heap s.heap [] := va_S.rf
  have hl : lv_has ls 4 [(0, .ref a10), (1, .int p1)] := hl
  have w0 := hts (.fieldLink RX10 29 "OlderSkin$Tape" "at" "I") (List.mem_of_getElem? (i := 1) rfl)
  have w1 := (fun w h => List.mem_cons_of_mem _ (List.mem_append_right _ h) : ∀ w ∈ u_ws RX10 TX10 5, w ∈ wsX10_readOperand)
  have l0 : (0 : Int32).toInt = 0 := by decide
  have l1 : (6 : Int32).toInt = 6 := by decide
  have l2 : (1 : Int32).toInt = 1 := by decide
  have l3 : ((-1) : Int32).toInt = -1 := by decide
  have i1 : 0 ≤ v10_count.toInt ∧ v10_count.toInt ≤ 2048 := i1
  have i2 : 0 ≤ v10_at.toInt ∧ v10_at.toInt ≤ 2048 := i2
  obtain ⟨k9, v9, rk1, rk2, sx⟩ := hK.2.2.2.2.2.1
  have sx : TXT β k9 v9 s := sx
  refine lv_aload_n hx hb dX10_readOperand_0 rfl (lv_at hl 0 rfl) ?_
  refine kcm_i hA hAB hP hD hS [true, true, false] rfl (fun _ => rfl) (fun hPc hDc => va_runV (As := []) (rest := []) ⟨hx, hb, hml, hown, hts⟩ (k_X10_sign l D κ β a10 r10 b10_bytes v10_count v10_at b10_steps v10_size n10_bytes f10_bytes s.heap.size i1 i2 i3 hf10_bytes i4 i5) (cwV 0 hts gX10_readOperand_X10_sign rfl rfl rfl (by decide +kernel) ⟨by dsimp only; omega, by dsimp only; omega⟩) (pk_V hK hS hAB hPc hDc 0 (ci := 10) rfl rfl rfl) rfl rfl hl.1 rfl (lv_room (Nat.le_of_ble_eq_true rfl)) dX10_readOperand_1 ⟨Nat.le_of_ble_eq_true rfl, Nat.le_of_ble_eq_true rfl⟩) (fun x1 u2 H locs hw hPD hS => ?_)
  have h3 : (x1.toInt = -1 ∧ v10_count.toInt ≤ v10_at.toInt) ∨ (0 ≤ x1.toInt ∧ x1.toInt ≤ 255 ∧ v10_at.toInt < v10_count.toInt) := hw
  obtain ⟨hP, hD⟩ : PD D A [O10 a10 r10 b10_bytes v10_count v10_at b10_steps v10_size, (cB κ b10_bytes n10_bytes f10_bytes), (cI κ b10_steps n10_steps f10_steps)] H := hPD
  refine lv_istore_n (lv' := [(2, .int x1), (0, .ref a10), (1, .int p1)]) hx hb dX10_readOperand_4 rfl hl (by decide) rfl (fun ls hl => ?_)
  refine lv_iload_n hx hb dX10_readOperand_5 rfl (lv_at hl 0 rfl) ?_
  refine kcm_i hA hAB hP hD hS [false, false, false] rfl (fun _ => rfl) (fun hPc hDc => va_runS (As := [.int x1]) (rest := []) ⟨hx, hb, hml, hown, hts⟩ (k_X10_isDigit l D κ β H.size x1) (va_cwS 1 hts gX10_readOperand_X10_isDigit rfl rfl rfl (by decide +kernel) ⟨by dsimp only; omega, by dsimp only; omega⟩) (pk_S hK hS hAB hPc hDc) rfl rfl hl.1 rfl (lv_room (Nat.le_of_ble_eq_true rfl)) dX10_readOperand_6 ⟨Nat.le_of_ble_eq_true rfl, Nat.le_of_ble_eq_true rfl⟩) (fun x4 u5 H locs hw hPD hS => ?_)
  have h6 : (x4.toInt = 1 ∧ 48 ≤ x1.toInt) ∨ x4.toInt = 0 := hw
  obtain ⟨hP, hD⟩ : PD D A [O10 a10 r10 b10_bytes v10_count v10_at b10_steps v10_size, (cB κ b10_bytes n10_bytes f10_bytes), (cI κ b10_steps n10_steps f10_steps)] H := hPD
  refine lv_if_eq (tgt := 17) hx hb dX10_readOperand_9 (by decide) (fun c7 => ?_) (fun c7 => ?_)
  · have c7 := ci_eq c7
    refine lv_iload_n hx hb dX10_readOperand_17 rfl (lv_at hl 0 rfl) ?_
    refine lv_if_ge (tgt := 25) hx hb dX10_readOperand_18 (by decide) (fun c8 => ?_) (fun c8 => ?_)
    · have c8 := ci_le c8
      refine va_ldcS hx hb hown rk2 dX10_readOperand_25 ?_
      refine lv_iload_n hx hb dX10_readOperand_27 rfl (lv_at hl 0 rfl) ?_
      refine lv_i2c hx hb dX10_readOperand_28 rfl ?_
      refine lv_topi (fun x9 e10 => ?_)
      refine kcm_i hA hAB hP hD hS [false, false, false] rfl (fun _ => rfl) (fun hPc hDc => va_runV (As := [.int x9]) (rest := []) ⟨hx, hb, hml, hown, hts⟩ (k_J0_indexOf_0f7a4 l D κ β k9 v9 H.size x9) (cwV 1 hts gX10_readOperand_J0_indexOf_0f7a4 rfl rfl rfl (by decide +kernel) ⟨by dsimp only; omega, by dsimp only; omega⟩) (pk_XV hK hS hAB sx) rfl rfl hl.1 rfl (lv_room (Nat.le_of_ble_eq_true rfl)) dX10_readOperand_29 ⟨Nat.le_of_ble_eq_true rfl, Nat.le_of_ble_eq_true rfl⟩) (fun x11 u12 H locs hw hPD hS => ?_)
      have h13 : -1 ≤ x11.toInt ∧ x11.toInt ≤ 7 := hw
      obtain ⟨hP, hD⟩ : PD D A [O10 a10 r10 b10_bytes v10_count v10_at b10_steps v10_size, (cB κ b10_bytes n10_bytes f10_bytes), (cI κ b10_steps n10_steps f10_steps)] H := hPD
      refine lv_istore_n (lv' := [(3, .int x11), (2, .int x1), (0, .ref a10), (1, .int p1)]) hx hb dX10_readOperand_32 rfl hl (by decide) rfl (fun ls hl => ?_)
      refine lv_iload_n hx hb dX10_readOperand_33 rfl (lv_at hl 0 rfl) ?_
      refine lv_if_lt (tgt := 56) hx hb dX10_readOperand_34 (by decide) (fun c14 => ?_) (fun c14 => ?_)
      · have c14 := ci_lt c14
        refine lv_iload_n hx hb dX10_readOperand_56 rfl (lv_at hl 3 rfl) ?_
        refine lv_bipush (v := 6) hx hb dX10_readOperand_57 (by decide) ?_
        refine lv_icmp_ge (tgt := 80) hx hb dX10_readOperand_59 (by decide) (fun c15 => ?_) (fun c15 => ?_)
        · have c15 := ci_le c15
          refine lv_iconst (v := 0) hx hb dX10_readOperand_80 (by decide) ?_
          have hpo : (0 ≤ v10_at.toInt ∧ v10_at.toInt ≤ 2048) ∧ (0 ≤ v10_size.toInt ∧ v10_size.toInt ≤ 4096) ∧ ((0 : Int32).toInt = 0 ∨ (0 : Int32).toInt = 1) := ⟨i2, i3, (by omega)⟩
          exact ret _ _ _ _ 0 (v10_at, v10_size, f10_steps) dX10_readOperand_81 (by omega) hpo hP hD hS
        have c15 := ci_nle c15
        exfalso
        omega
      have c14 := ci_nlt c14
      refine lv_aload_n hx hb dX10_readOperand_37 rfl (lv_at hl 2 rfl) ?_
      refine lv_dup hx hb dX10_readOperand_38 rfl ?_
      refine va_get (D := D) (ci := 10) (v := .int v10_at) (C := RX10) (T := TX10) (N := 5) hx hb hts w1 hown hK.1 hP 0 rfl rfl 2 (by decide) w0 (fun _ h9 => h9) rfl dX10_readOperand_39 ?_
      refine lv_iconst (v := 1) hx hb dX10_readOperand_42 (by decide) ?_
      refine lv_iadd hx hb dX10_readOperand_43 ?_
      refine lv_topi (fun x16 e17 => ?_)
      try have h18 : x16.toInt = v10_at.toInt + (1 : Int32).toInt := ci_add e17 (by omega) (by omega)
      refine va_put (D := D) (ci := 10) (v := .int x16) (ty := .int) (C := RX10) (T := TX10) (N := 5) hx hb hts w1 tyX10 tyX10_ok nmX10 hown hK.1 hP hD hS 0 rfl rfl 2 (by decide) w0 (fun _ h9 => h9) rfl (by decide +kernel) rfl rfl (Nat.le_of_ble_eq_true rfl) dX10_readOperand_44 (fun H locs hP hD hS => ?_)
      obtain ⟨hP, hD⟩ : PD D A [O10 a10 r10 b10_bytes v10_count x16 b10_steps v10_size, (cB κ b10_bytes n10_bytes f10_bytes), (cI κ b10_steps n10_steps f10_steps)] H := ⟨hP, hD⟩
      have h19 : 0 ≤ x16.toInt ∧ x16.toInt ≤ 2048 := by omega
      refine lv_aload_n hx hb dX10_readOperand_47 rfl (lv_at hl 2 rfl) ?_
      refine lv_iconst (v := (-1)) hx hb dX10_readOperand_48 (by decide) ?_
      refine lv_iload_n hx hb dX10_readOperand_49 rfl (lv_at hl 0 rfl) ?_
      refine lv_isub hx hb dX10_readOperand_50 ?_
      refine lv_topi (fun x20 e21 => ?_)
      try have h22 : x20.toInt = ((-1) : Int32).toInt - x11.toInt := ci_sub e21 (by omega) (by omega)
      refine kcm_v hA hAB hP hD hS [true, false, true] rfl (fun _ => rfl) (fun hPc hDc => va_runV (As := [.int x20]) (rest := []) ⟨hx, hb, hml, hown, hts⟩ (k_X10_step l D κ β a10 r10 b10_bytes v10_count x16 b10_steps v10_size n10_steps f10_steps H.size x20 i1 h19 i3 i6) (cwV 1 hts gX10_readOperand_X10_step rfl rfl rfl (by decide +kernel) ⟨by dsimp only; omega, by dsimp only; omega⟩) (pk_V hK hS hAB hPc hDc 0 (ci := 10) rfl rfl rfl) rfl rfl hl.1 rfl (lv_room (Nat.le_of_ble_eq_true rfl)) dX10_readOperand_51 ⟨Nat.le_of_ble_eq_true rfl, Nat.le_of_ble_eq_true rfl⟩) (fun u25 H locs hw hPD hS => ?_)
      obtain ⟨x23, g24⟩ := u25
      have h26 : Rg 0 4096 x23 := hw
      obtain ⟨hP, hD⟩ : PD D A [O10 a10 r10 b10_bytes v10_count x16 b10_steps x23, (cB κ b10_bytes n10_bytes f10_bytes), (cI κ b10_steps n10_steps g24)] H := hPD
      refine lv_iconst (v := 1) hx hb dX10_readOperand_54 (by decide) ?_
      have hpo : (0 ≤ x16.toInt ∧ x16.toInt ≤ 2048) ∧ (0 ≤ x23.toInt ∧ x23.toInt ≤ 4096) ∧ ((1 : Int32).toInt = 0 ∨ (1 : Int32).toInt = 1) := ⟨h19, h26, (by omega)⟩
      exact ret _ _ _ _ 1 (x16, x23, g24) dX10_readOperand_55 (by omega) hpo hP hD hS
    have c8 := ci_nle c8
    refine lv_iconst (v := (-1)) hx hb dX10_readOperand_21 (by decide) ?_
    refine lv_goto (tgt := 32) hx hb dX10_readOperand_22 (by decide) ?_
    refine lv_istore_n (lv' := [(3, .int (-1)), (2, .int x1), (0, .ref a10), (1, .int p1)]) hx hb dX10_readOperand_32 rfl hl (by decide) rfl (fun ls hl => ?_)
    refine lv_iload_n hx hb dX10_readOperand_33 rfl (lv_at hl 0 rfl) ?_
    refine lv_if_lt (tgt := 56) hx hb dX10_readOperand_34 (by decide) (fun c27 => ?_) (fun c27 => ?_)
    · have c27 := ci_lt c27
      refine lv_iload_n hx hb dX10_readOperand_56 rfl (lv_at hl 3 rfl) ?_
      refine lv_bipush (v := 6) hx hb dX10_readOperand_57 (by decide) ?_
      refine lv_icmp_ge (tgt := 80) hx hb dX10_readOperand_59 (by decide) (fun c28 => ?_) (fun c28 => ?_)
      · have c28 := ci_le c28
        refine lv_iconst (v := 0) hx hb dX10_readOperand_80 (by decide) ?_
        have hpo : (0 ≤ v10_at.toInt ∧ v10_at.toInt ≤ 2048) ∧ (0 ≤ v10_size.toInt ∧ v10_size.toInt ≤ 4096) ∧ ((0 : Int32).toInt = 0 ∨ (0 : Int32).toInt = 1) := ⟨i2, i3, (by omega)⟩
        exact ret _ _ _ _ 0 (v10_at, v10_size, f10_steps) dX10_readOperand_81 (by omega) hpo hP hD hS
      have c28 := ci_nle c28
      exfalso
      omega
    have c27 := ci_nlt c27
    exfalso
    omega
  have c7 := ci_ne c7
  refine lv_aload_n hx hb dX10_readOperand_12 rfl (lv_at hl 1 rfl) ?_
  refine kcm_i hA hAB hP hD hS [true, true, true] rfl (fun _ => rfl) (fun hPc hDc => va_runV (As := []) (rest := []) ⟨hx, hb, hml, hown, hts⟩ (k_X10_readNumber l D κ β a10 r10 b10_bytes v10_count v10_at b10_steps v10_size n10_bytes f10_bytes n10_steps f10_steps H.size i1 i2 i3 hf10_bytes i4 i5 i6) (cwV 0 hts gX10_readOperand_X10_readNumber rfl rfl rfl (by decide +kernel) ⟨by dsimp only; omega, by dsimp only; omega⟩) (pk_V hK hS hAB hPc hDc 0 (ci := 10) rfl rfl rfl) rfl rfl hl.1 rfl (lv_room (Nat.le_of_ble_eq_true rfl)) dX10_readOperand_13 ⟨Nat.le_of_ble_eq_true rfl, Nat.le_of_ble_eq_true rfl⟩) (fun x32 u33 H locs hw hPD hS => ?_)
  obtain ⟨x29, x30, g31⟩ := u33
  obtain ⟨h34, h35, h36⟩ : (0 ≤ x29.toInt ∧ x29.toInt ≤ 2048) ∧ (Rg 0 4096 x30) ∧ (x32.toInt = 0 ∨ x32.toInt = 1) := hw
  obtain ⟨hP, hD⟩ : PD D A [O10 a10 r10 b10_bytes v10_count x29 b10_steps x30, (cB κ b10_bytes n10_bytes f10_bytes), (cI κ b10_steps n10_steps g31)] H := hPD
  have hpo : (0 ≤ x29.toInt ∧ x29.toInt ≤ 2048) ∧ (0 ≤ x30.toInt ∧ x30.toInt ≤ 4096) ∧ (x32.toInt = 0 ∨ x32.toInt = 1) := ⟨h34, h35, (by omega)⟩
  exact ret _ _ _ _ x32 (x29, x30, g31) dX10_readOperand_16 (by omega) hpo hP hD hS
theorem k_X10_both (l : Launch) (D : va_G) (κ : Nat → ClassId) (β : Nat) : ∀ d : Nat, C_X10_lv l D κ β d ∧ C_X10_op l D κ β d
  | 0 => ⟨by
      intro a10 r10 b10_bytes v10_count v10_at b10_steps v10_size n10_bytes f10_bytes n10_steps f10_steps sz p1 p2 i1 i2 i3 hf10_bytes i4 i5 i6 i7 i8
      exfalso
      omega, of_X10_op0 l D κ β⟩
  | d + 1 => ⟨of_X10_lv l D κ β d (k_X10_both l D κ β d).1 (k_X10_both l D κ β d).2, of_X10_op l D κ β d (k_X10_both l D κ β d).1 (k_X10_both l D κ β d).2⟩
set_option maxHeartbeats 4000000 in
set_option maxRecDepth 100000 in
theorem k_X10_readLine (l : Launch) (D : va_G) (κ : Nat → ClassId) (β : Nat) (a10 : Nat) (r10 : Nat → Nat) (b10_bytes : Nat) (v10_count : Int32) (v10_at : Int32) (b10_steps : Nat) (v10_size : Int32) (n10_bytes : Nat) (f10_bytes : Nat → Int32) (n10_steps : Nat) (f10_steps : Nat → Int32) (sz : Nat) (i1 : Rg 0 2048 v10_count) (i2 : Rg 0 2048 v10_at) (i3 : Rg 0 4096 v10_size) (hf10_bytes : ∀ j : Nat, -128 ≤ (f10_bytes j).toInt ∧ (f10_bytes j).toInt ≤ 127) (i4 : v10_count.toInt ≤ ((n10_bytes : Nat) : Int)) (i5 : 64 ≤ ((n10_bytes : Nat) : Int) ∧ ((n10_bytes : Nat) : Int) ≤ 4096) (i6 : ((n10_steps : Nat) : Int) ≤ 2049) : Met l yX10_readLine wsX10_readLine ({ frames := 63, cells := 0, slots := 0, locals := 1845 } : Room) (PcK D κ β [O10 a10 r10 b10_bytes v10_count v10_at b10_steps v10_size, (cB κ b10_bytes n10_bytes f10_bytes), (cI κ b10_steps n10_steps f10_steps)] sz [.ref a10]) (QiK D (fun (r : Int32) (u : Int32 × Int32 × (Nat → Int32)) => (0 ≤ u.1.toInt ∧ u.1.toInt ≤ 2048) ∧ (0 ≤ u.2.1.toInt ∧ u.2.1.toInt ≤ 4096) ∧ (r.toInt = 0 ∨ r.toInt = 1)) (fun (u : Int32 × Int32 × (Nat → Int32)) => [O10 a10 r10 b10_bytes v10_count u.1 b10_steps u.2.1, (cB κ b10_bytes n10_bytes f10_bytes), (cI κ b10_steps n10_steps u.2.2)]) [O10 a10 r10 b10_bytes v10_count v10_at b10_steps v10_size, (cB κ b10_bytes n10_bytes f10_bytes), (cI κ b10_steps n10_steps f10_steps)] sz) 0 0 (va_A [O10 a10 r10 b10_bytes v10_count v10_at b10_steps v10_size, (cB κ b10_bytes n10_bytes f10_bytes), (cI κ b10_steps n10_steps f10_steps)] sz) := by
  refine ofK_z (cc := cX10_readLine) (maxL := 1) (own := RX10) (by decide) rfl rfl (Nat.le_of_ble_eq_true rfl) ?_
  intro p e s m args below meth c Q A ls hsz hx hb hml hts hown hK hA hAB hP hD hl ret
  have hS : va_S A s.heap s.heap [] := va_S.rf
  have hl : lv_has ls 1 [(0, .ref a10)] := hl
  have l0 : (0 : Int32).toInt = 0 := by decide
  have l1 : (63 : Int32).toInt = 63 := by decide
  have l2 : ((-59) : Int32).toInt = -59 := by decide
  have l3 : (1 : Int32).toInt = 1 := by decide
  have l4 : ((-63) : Int32).toInt = -63 := by decide
  refine lv_aload_n hx hb dX10_readLine_0 rfl (lv_at hl 0 rfl) ?_
  refine lv_iconst (v := 0) hx hb dX10_readLine_1 (by decide) ?_
  refine lv_iconst (v := 0) hx hb dX10_readLine_2 (by decide) ?_
  refine kcm_i hA hAB hP hD hS [true, true, true] rfl (fun _ => rfl) (fun hPc hDc => va_runV (As := [.int 0, .int 0]) (rest := []) ⟨hx, hb, hml, hown, hts⟩ ((k_X10_both l D κ β 54).1 a10 r10 b10_bytes v10_count v10_at b10_steps v10_size n10_bytes f10_bytes n10_steps f10_steps s.heap.size 0 0 i1 i2 i3 hf10_bytes i4 i5 i6 (by omega) (by omega)) (cwV 2 hts gX10_readLine_X10_readLevel rfl rfl rfl (by decide +kernel) ⟨Nat.le_of_ble_eq_true rfl, Nat.le_of_ble_eq_true rfl⟩) (pk_V hK hS hAB hPc hDc 0 (ci := 10) rfl rfl rfl) rfl rfl hl.1 rfl (lv_room (Nat.le_of_ble_eq_true rfl)) dX10_readLine_3 ⟨Nat.le_of_ble_eq_true rfl, Nat.le_of_ble_eq_true rfl⟩) (fun x4 u5 H locs hw hPD hS => ?_)
  obtain ⟨x1, x2, g3⟩ := u5
  obtain ⟨h6, h7, h8⟩ : (Rg 0 2048 x1) ∧ (Rg 0 4096 x2) ∧ (x4.toInt = 0 ∨ x4.toInt = 1) := hw
  obtain ⟨hP, hD⟩ : PD D A [O10 a10 r10 b10_bytes v10_count x1 b10_steps x2, (cB κ b10_bytes n10_bytes f10_bytes), (cI κ b10_steps n10_steps g3)] H := hPD
  refine lv_if_ne (tgt := 11) hx hb dX10_readLine_6 (by decide) (fun c9 => ?_) (fun c9 => ?_)
  · have c9 := ci_ne c9
    refine lv_aload_n hx hb dX10_readLine_11 rfl (lv_at hl 0 rfl) ?_
    refine lv_bipush (v := 63) hx hb dX10_readLine_12 (by decide) ?_
    refine kcm_i hA hAB hP hD hS [true, true, false] rfl (fun _ => rfl) (fun hPc hDc => va_runV (As := [.int 63]) (rest := []) ⟨hx, hb, hml, hown, hts⟩ (k_X10_takes l D κ β a10 r10 b10_bytes v10_count x1 b10_steps x2 n10_bytes f10_bytes H.size 63 i1 h6 h7 hf10_bytes i4 i5 (by omega)) (cwV 1 hts gX10_readLine_X10_takes rfl rfl rfl (by decide +kernel) ⟨Nat.le_of_ble_eq_true rfl, Nat.le_of_ble_eq_true rfl⟩) (pk_V hK hS hAB hPc hDc 0 (ci := 10) rfl rfl rfl) rfl rfl hl.1 rfl (lv_room (Nat.le_of_ble_eq_true rfl)) dX10_readLine_14 ⟨Nat.le_of_ble_eq_true rfl, Nat.le_of_ble_eq_true rfl⟩) (fun x11 x10 H locs hw hPD hS => ?_)
    obtain ⟨h12, h13⟩ : (Rg 0 2048 x10) ∧ (x11.toInt = 0 ∨ x11.toInt = 1) := hw
    obtain ⟨hP, hD⟩ : PD D A [O10 a10 r10 b10_bytes v10_count x10 b10_steps x2, (cB κ b10_bytes n10_bytes f10_bytes), (cI κ b10_steps n10_steps g3)] H := hPD
    refine lv_if_eq (tgt := 37) hx hb dX10_readLine_17 (by decide) (fun c14 => ?_) (fun c14 => ?_)
    · have c14 := ci_eq c14
      refine lv_aload_n hx hb dX10_readLine_37 rfl (lv_at hl 0 rfl) ?_
      refine lv_bipush (v := (-59)) hx hb dX10_readLine_38 (by decide) ?_
      refine kcm_v hA hAB hP hD hS [true, false, true] rfl (fun _ => rfl) (fun hPc hDc => va_runV (As := [.int (-59)]) (rest := []) ⟨hx, hb, hml, hown, hts⟩ (k_X10_step l D κ β a10 r10 b10_bytes v10_count x10 b10_steps x2 n10_steps g3 H.size (-59) i1 h12 h7 i6) (cwV 1 hts gX10_readLine_X10_step rfl rfl rfl (by decide +kernel) ⟨Nat.le_of_ble_eq_true rfl, Nat.le_of_ble_eq_true rfl⟩) (pk_V hK hS hAB hPc hDc 0 (ci := 10) rfl rfl rfl) rfl rfl hl.1 rfl (lv_room (Nat.le_of_ble_eq_true rfl)) dX10_readLine_40 ⟨Nat.le_of_ble_eq_true rfl, Nat.le_of_ble_eq_true rfl⟩) (fun u17 H locs hw hPD hS => ?_)
      obtain ⟨x15, g16⟩ := u17
      have h18 : Rg 0 4096 x15 := hw
      obtain ⟨hP, hD⟩ : PD D A [O10 a10 r10 b10_bytes v10_count x10 b10_steps x15, (cB κ b10_bytes n10_bytes f10_bytes), (cI κ b10_steps n10_steps g16)] H := hPD
      refine lv_iconst (v := 1) hx hb dX10_readLine_43 (by decide) ?_
      have hpo : (0 ≤ x10.toInt ∧ x10.toInt ≤ 2048) ∧ (0 ≤ x15.toInt ∧ x15.toInt ≤ 4096) ∧ ((1 : Int32).toInt = 0 ∨ (1 : Int32).toInt = 1) := ⟨h12, h18, (by omega)⟩
      exact ret _ _ _ _ 1 (x10, x15, g16) dX10_readLine_44 (by omega) hpo hP hD hS
    have c14 := ci_ne c14
    refine lv_aload_n hx hb dX10_readLine_20 rfl (lv_at hl 0 rfl) ?_
    refine lv_bipush (v := (-63)) hx hb dX10_readLine_21 (by decide) ?_
    refine kcm_v hA hAB hP hD hS [true, false, true] rfl (fun _ => rfl) (fun hPc hDc => va_runV (As := [.int (-63)]) (rest := []) ⟨hx, hb, hml, hown, hts⟩ (k_X10_step l D κ β a10 r10 b10_bytes v10_count x10 b10_steps x2 n10_steps g3 H.size (-63) i1 h12 h7 i6) (cwV 1 hts gX10_readLine_X10_step rfl rfl rfl (by decide +kernel) ⟨Nat.le_of_ble_eq_true rfl, Nat.le_of_ble_eq_true rfl⟩) (pk_V hK hS hAB hPc hDc 0 (ci := 10) rfl rfl rfl) rfl rfl hl.1 rfl (lv_room (Nat.le_of_ble_eq_true rfl)) dX10_readLine_23 ⟨Nat.le_of_ble_eq_true rfl, Nat.le_of_ble_eq_true rfl⟩) (fun u21 H locs hw hPD hS => ?_)
    obtain ⟨x19, g20⟩ := u21
    have h22 : Rg 0 4096 x19 := hw
    obtain ⟨hP, hD⟩ : PD D A [O10 a10 r10 b10_bytes v10_count x10 b10_steps x19, (cB κ b10_bytes n10_bytes f10_bytes), (cI κ b10_steps n10_steps g20)] H := hPD
    refine lv_aload_n hx hb dX10_readLine_26 rfl (lv_at hl 0 rfl) ?_
    refine lv_iconst (v := 0) hx hb dX10_readLine_27 (by decide) ?_
    refine lv_iconst (v := 0) hx hb dX10_readLine_28 (by decide) ?_
    refine kcm_i hA hAB hP hD hS [true, true, true] rfl (fun _ => rfl) (fun hPc hDc => va_runV (As := [.int 0, .int 0]) (rest := []) ⟨hx, hb, hml, hown, hts⟩ ((k_X10_both l D κ β 54).1 a10 r10 b10_bytes v10_count x10 b10_steps x19 n10_bytes f10_bytes n10_steps g20 H.size 0 0 i1 h12 h22 hf10_bytes i4 i5 i6 (by omega) (by omega)) (cwV 2 hts gX10_readLine_X10_readLevel rfl rfl rfl (by decide +kernel) ⟨Nat.le_of_ble_eq_true rfl, Nat.le_of_ble_eq_true rfl⟩) (pk_V hK hS hAB hPc hDc 0 (ci := 10) rfl rfl rfl) rfl rfl hl.1 rfl (lv_room (Nat.le_of_ble_eq_true rfl)) dX10_readLine_29 ⟨Nat.le_of_ble_eq_true rfl, Nat.le_of_ble_eq_true rfl⟩) (fun x26 u27 H locs hw hPD hS => ?_)
    obtain ⟨x23, x24, g25⟩ := u27
    obtain ⟨h28, h29, h30⟩ : (Rg 0 2048 x23) ∧ (Rg 0 4096 x24) ∧ (x26.toInt = 0 ∨ x26.toInt = 1) := hw
    obtain ⟨hP, hD⟩ : PD D A [O10 a10 r10 b10_bytes v10_count x23 b10_steps x24, (cB κ b10_bytes n10_bytes f10_bytes), (cI κ b10_steps n10_steps g25)] H := hPD
    refine lv_if_ne (tgt := 37) hx hb dX10_readLine_32 (by decide) (fun c31 => ?_) (fun c31 => ?_)
    · have c31 := ci_ne c31
      refine lv_aload_n hx hb dX10_readLine_37 rfl (lv_at hl 0 rfl) ?_
      refine lv_bipush (v := (-59)) hx hb dX10_readLine_38 (by decide) ?_
      refine kcm_v hA hAB hP hD hS [true, false, true] rfl (fun _ => rfl) (fun hPc hDc => va_runV (As := [.int (-59)]) (rest := []) ⟨hx, hb, hml, hown, hts⟩ (k_X10_step l D κ β a10 r10 b10_bytes v10_count x23 b10_steps x24 n10_steps g25 H.size (-59) i1 h28 h29 i6) (cwV 1 hts gX10_readLine_X10_step rfl rfl rfl (by decide +kernel) ⟨Nat.le_of_ble_eq_true rfl, Nat.le_of_ble_eq_true rfl⟩) (pk_V hK hS hAB hPc hDc 0 (ci := 10) rfl rfl rfl) rfl rfl hl.1 rfl (lv_room (Nat.le_of_ble_eq_true rfl)) dX10_readLine_40 ⟨Nat.le_of_ble_eq_true rfl, Nat.le_of_ble_eq_true rfl⟩) (fun u34 H locs hw hPD hS => ?_)
      obtain ⟨x32, g33⟩ := u34
      have h35 : Rg 0 4096 x32 := hw
      obtain ⟨hP, hD⟩ : PD D A [O10 a10 r10 b10_bytes v10_count x23 b10_steps x32, (cB κ b10_bytes n10_bytes f10_bytes), (cI κ b10_steps n10_steps g33)] H := hPD
      refine lv_iconst (v := 1) hx hb dX10_readLine_43 (by decide) ?_
      have hpo : (0 ≤ x23.toInt ∧ x23.toInt ≤ 2048) ∧ (0 ≤ x32.toInt ∧ x32.toInt ≤ 4096) ∧ ((1 : Int32).toInt = 0 ∨ (1 : Int32).toInt = 1) := ⟨h28, h35, (by omega)⟩
      exact ret _ _ _ _ 1 (x23, x32, g33) dX10_readLine_44 (by omega) hpo hP hD hS
    have c31 := ci_eq c31
    refine lv_iconst (v := 0) hx hb dX10_readLine_35 (by decide) ?_
    have hpo : (0 ≤ x23.toInt ∧ x23.toInt ≤ 2048) ∧ (0 ≤ x24.toInt ∧ x24.toInt ≤ 4096) ∧ ((0 : Int32).toInt = 0 ∨ (0 : Int32).toInt = 1) := ⟨h28, h29, (by omega)⟩
    exact ret _ _ _ _ 0 (x23, x24, g25) dX10_readLine_36 (by omega) hpo hP hD hS
  have c9 := ci_eq c9
  refine lv_iconst (v := 0) hx hb dX10_readLine_9 (by decide) ?_
  have hpo : (0 ≤ x1.toInt ∧ x1.toInt ≤ 2048) ∧ (0 ≤ x2.toInt ∧ x2.toInt ≤ 4096) ∧ ((0 : Int32).toInt = 0 ∨ (0 : Int32).toInt = 1) := ⟨h6, h7, (by omega)⟩
  exact ret _ _ _ _ 0 (x1, x2, g3) dX10_readLine_10 (by omega) hpo hP hD hS
set_option maxHeartbeats 4000000 in
set_option maxRecDepth 100000 in
theorem k_X10_read (l : Launch) (D : va_G) (κ : Nat → ClassId) (β : Nat) (a10 : Nat) (r10 : Nat → Nat) (b10_bytes : Nat) (v10_count : Int32) (v10_at : Int32) (b10_steps : Nat) (v10_size : Int32) (n10_bytes : Nat) (f10_bytes : Nat → Int32) (sz : Nat) (i1 : Rg 0 2048 v10_count) (i2 : Rg 0 2048 v10_at) (i3 : Rg 0 4096 v10_size) (hf10_bytes : ∀ j : Nat, -128 ≤ (f10_bytes j).toInt ∧ (f10_bytes j).toInt ≤ 127) (i4 : v10_count.toInt ≤ ((n10_bytes : Nat) : Int)) (i5 : 64 ≤ ((n10_bytes : Nat) : Int) ∧ ((n10_bytes : Nat) : Int) ≤ 4096) : Met l yX10_read wsX10_read ({ frames := 64, cells := 1, slots := 2049, locals := 1865 } : Room) (PcK D κ β [O10 a10 r10 b10_bytes v10_count v10_at b10_steps v10_size, (cB κ b10_bytes n10_bytes f10_bytes)] sz [.ref a10]) (QiK D (fun (r : Int32) (u : Int32 × Nat × Int32 × Nat × (Nat → Int32)) => (0 ≤ u.1.toInt ∧ u.1.toInt ≤ 2048) ∧ (0 ≤ u.2.2.1.toInt ∧ u.2.2.1.toInt ≤ 4096) ∧ (u.2.2.2.1 ≤ 2049) ∧ (r.toInt = 0 ∨ r.toInt = 1)) (fun (u : Int32 × Nat × Int32 × Nat × (Nat → Int32)) => [O10 a10 r10 b10_bytes v10_count u.1 u.2.1 u.2.2.1, (cB κ b10_bytes n10_bytes f10_bytes), (cI κ u.2.1 u.2.2.2.1 u.2.2.2.2)]) [O10 a10 r10 b10_bytes v10_count v10_at b10_steps v10_size, (cB κ b10_bytes n10_bytes f10_bytes)] sz) 1 2049 (va_A [O10 a10 r10 b10_bytes v10_count v10_at b10_steps v10_size, (cB κ b10_bytes n10_bytes f10_bytes)] sz) := by
  refine ofK_z (cc := cX10_read) (maxL := 2) (own := RX10) (by decide) rfl rfl (Nat.le_of_ble_eq_true rfl) ?_
  intro p e s m args below meth c Q A ls hsz hx hb hml hts hown hK hA hAB hP hD hl ret
  have hS : va_S A s.heap s.heap [] := va_S.rf
  have hl : lv_has ls 2 [(0, .ref a10)] := hl
  have w0 := hts (.fieldLink RX10 29 "OlderSkin$Tape" "at" "I") (List.mem_of_getElem? (i := 1) rfl)
  have w1 := (fun w h => List.mem_cons_of_mem _ (List.mem_append_right _ h) : ∀ w ∈ u_ws RX10 TX10 5, w ∈ wsX10_read)
  have w2 := hts (.fieldLink RX10 32 "OlderSkin$Tape" "size" "I") (List.mem_of_getElem? (i := 2) rfl)
  have w3 := hts (.fieldLink RX10 19 "OlderSkin$Tape" "count" "I") (List.mem_of_getElem? (i := 3) rfl)
  have w4 := hts (.arrayClass .int) (List.mem_of_getElem? (i := 4) rfl)
  have w5 := hts (.fieldLink RX10 15 "OlderSkin$Tape" "steps" "[I") (List.mem_of_getElem? (i := 5) rfl)
  have l0 : (0 : Int32).toInt = 0 := by decide
  have l1 : (1 : Int32).toInt = 1 := by decide
  have l2 : (59 : Int32).toInt = 59 := by decide
  have i1 : 0 ≤ v10_count.toInt ∧ v10_count.toInt ≤ 2048 := i1
  have i2 : 0 ≤ v10_at.toInt ∧ v10_at.toInt ≤ 2048 := i2
  have i3 : 0 ≤ v10_size.toInt ∧ v10_size.toInt ≤ 4096 := i3
  refine lv_aload_n hx hb dX10_read_0 rfl (lv_at hl 0 rfl) ?_
  refine lv_iconst (v := 0) hx hb dX10_read_1 (by decide) ?_
  refine va_put (D := D) (ci := 10) (v := .int 0) (ty := .int) (C := RX10) (T := TX10) (N := 5) hx hb hts w1 tyX10 tyX10_ok nmX10 hown hK.1 hP hD hS 0 rfl rfl 2 (by decide) w0 (fun _ h9 => h9) rfl (by decide +kernel) rfl rfl (Nat.le_of_ble_eq_true rfl) dX10_read_2 (fun H locs hP hD hS => ?_)
  obtain ⟨hP, hD⟩ : PD D A [O10 a10 r10 b10_bytes v10_count 0 b10_steps v10_size, (cB κ b10_bytes n10_bytes f10_bytes)] H := ⟨hP, hD⟩
  have h1 : 0 ≤ (0 : Int32).toInt ∧ (0 : Int32).toInt ≤ 2048 := by omega
  refine lv_aload_n hx hb dX10_read_5 rfl (lv_at hl 0 rfl) ?_
  refine lv_iconst (v := 0) hx hb dX10_read_6 (by decide) ?_
  refine va_put (D := D) (ci := 10) (v := .int 0) (ty := .int) (C := RX10) (T := TX10) (N := 5) hx hb hts w1 tyX10 tyX10_ok nmX10 hown hK.1 hP hD hS 0 rfl rfl 4 (by decide) w2 (fun _ h9 => h9) rfl (by decide +kernel) rfl rfl (Nat.le_of_ble_eq_true rfl) dX10_read_7 (fun H locs hP hD hS => ?_)
  obtain ⟨hP, hD⟩ : PD D A [O10 a10 r10 b10_bytes v10_count 0 b10_steps 0, (cB κ b10_bytes n10_bytes f10_bytes)] H := ⟨hP, hD⟩
  have h2 : 0 ≤ (0 : Int32).toInt ∧ (0 : Int32).toInt ≤ 4096 := by omega
  refine lv_aload_n hx hb dX10_read_10 rfl (lv_at hl 0 rfl) ?_
  refine lv_aload_n hx hb dX10_read_11 rfl (lv_at hl 0 rfl) ?_
  refine va_get (D := D) (ci := 10) (v := .int v10_count) (C := RX10) (T := TX10) (N := 5) hx hb hts w1 hown hK.1 hP 0 rfl rfl 1 (by decide) w3 (fun _ h9 => h9) rfl dX10_read_12 ?_
  refine lv_iconst (v := 1) hx hb dX10_read_15 (by decide) ?_
  refine lv_iadd hx hb dX10_read_16 ?_
  refine lv_topi (fun x3 e4 => ?_)
  try have h5 : x3.toInt = v10_count.toInt + (1 : Int32).toInt := ci_add e4 (by omega) (by omega)
  have hcn := ci_clamp (i := x3) (by omega)
  refine va_newa (atype := .int) hx hb w4 rfl hK.1 hP hD hS hA (a0 := (x3.toNatClampNeg, .inl (fun _ => 0))) (fun _ => rfl) (fun q => by have q := ci_lt q; omega) rfl (by show _ * 4 ≤ _; omega) (Nat.le_of_ble_eq_true rfl) (by show _ ≤ _; dsimp only; omega) dX10_read_17 (fun q6 cA H hK9 hP hD hS => ?_)
  have hcA := cls_I hK9
  subst hcA
  obtain ⟨hP, hD⟩ : PD D A [O10 a10 r10 b10_bytes v10_count 0 b10_steps 0, (cB κ b10_bytes n10_bytes f10_bytes), (cI κ q6 x3.toNatClampNeg (fun _ => 0))] H := ⟨hP, hD⟩
  refine W.widen (k := 1) (n := 2049) (by omega) (by omega) ?_
  refine va_put (D := D) (ci := 10) (v := .ref q6) (ty := .array .int) (C := RX10) (T := TX10) (N := 5) hx hb hts w1 tyX10 tyX10_ok nmX10 hown hK.1 hP hD hS 0 rfl rfl 3 (by decide) w5 (fun _ h9 => h9) rfl (by decide +kernel) rfl rfl (Nat.le_of_ble_eq_true rfl) dX10_read_19 (fun H locs hP hD hS => ?_)
  obtain ⟨hP, hD⟩ : PD D A [O10 a10 r10 b10_bytes v10_count 0 q6 0, (cB κ b10_bytes n10_bytes f10_bytes), (cI κ q6 x3.toNatClampNeg (fun _ => 0))] H := ⟨hP, hD⟩
  obtain ⟨hP, hD⟩ : PD D A [O10 a10 r10 b10_bytes v10_count 0 q6 0, (cB κ b10_bytes n10_bytes f10_bytes), (cI κ q6 x3.toNatClampNeg (fun _ => 0))] H := ⟨hP, hD⟩
  refine lv_iconst (v := 0) hx hb dX10_read_22 (by decide) ?_
  refine lv_istore_n (lv' := [(1, .int 0), (0, .ref a10)]) hx hb dX10_read_23 rfl hl (by decide) rfl (fun ls hl => ?_)
  have lp24 : ∀ (n24 : Nat) (k7 : Int32) (v8 : Int32) (v9 : Int32) (g10 : Nat → Int32), (0 ≤ v8.toInt ∧ v8.toInt ≤ 2048) → (0 ≤ v9.toInt ∧ v9.toInt ≤ 4096) → (0 ≤ k7.toInt) → (v10_count.toInt + 1 - k7.toInt).toNat < n24 → ∀ (H : Heap) (locs : List Loc), va_P D vwCl [O10 a10 r10 b10_bytes v10_count v8 q6 v9, (cB κ b10_bytes n10_bytes f10_bytes), (cI κ q6 x3.toNatClampNeg g10)] H → va_D A [O10 a10 r10 b10_bytes v10_count v8 q6 v9, (cB κ b10_bytes n10_bytes f10_bytes), (cI κ q6 x3.toNatClampNeg g10)] → va_S A s.heap H locs → ∀ ls : Array Slot, lv_has ls 2 [(1, .int k7), (0, .ref a10)] → W p l e ({ frames := 64, cells := 1, slots := 2049, locals := 1865 } : Room) s m args below meth c H locs 1 2049 Q (F0 m 24 ls []) := by
    intro n24
    induction n24 with
    | zero =>
      intro k7 v8 v9 g10 h11 h12 h13 m14
      exact absurd m14 (Nat.not_lt_zero _)
    | succ n24 ih24 =>
      intro k7 v8 v9 g10 h11 h12 h13 m14 H locs hP hD hS ls hl
      refine lv_iload_n hx hb dX10_read_24 rfl (lv_at hl 0 rfl) ?_
      refine lv_aload_n hx hb dX10_read_25 rfl (lv_at hl 1 rfl) ?_
      refine va_get (D := D) (ci := 10) (v := .int v10_count) (C := RX10) (T := TX10) (N := 5) hx hb hts w1 hown hK.1 hP 0 rfl rfl 1 (by decide) w3 (fun _ h9 => h9) rfl dX10_read_26 ?_
      refine lv_icmp_gt (tgt := 71) hx hb dX10_read_29 (by decide) (fun c15 => ?_) (fun c15 => ?_)
      · have c15 := ci_lt c15
        refine lv_iconst (v := 0) hx hb dX10_read_71 (by decide) ?_
        have hpo : (0 ≤ v8.toInt ∧ v8.toInt ≤ 2048) ∧ (0 ≤ v9.toInt ∧ v9.toInt ≤ 4096) ∧ (x3.toNatClampNeg ≤ 2049) ∧ ((0 : Int32).toInt = 0 ∨ (0 : Int32).toInt = 1) := ⟨h11, h12, (by omega), (by omega)⟩
        exact ret _ _ _ _ 0 (v8, q6, v9, x3.toNatClampNeg, g10) dX10_read_72 (by omega) hpo hP hD hS
      have c15 := ci_nlt c15
      refine lv_aload_n hx hb dX10_read_32 rfl (lv_at hl 1 rfl) ?_
      refine kcm_i hA hAB hP hD hS [true, true, true] rfl (fun _ => rfl) (fun hPc hDc => va_runV (As := []) (rest := []) ⟨hx, hb, hml, hown, hts⟩ (k_X10_readLine l D κ β a10 r10 b10_bytes v10_count v8 q6 v9 n10_bytes f10_bytes x3.toNatClampNeg g10 H.size i1 h11 h12 hf10_bytes i4 i5 (by omega)) (cwV 0 hts gX10_read_X10_readLine rfl rfl rfl (by decide +kernel) ⟨Nat.le_of_ble_eq_true rfl, Nat.le_of_ble_eq_true rfl⟩) (pk_V hK hS hAB hPc hDc 0 (ci := 10) rfl rfl rfl) rfl rfl hl.1 rfl (lv_room (Nat.le_of_ble_eq_true rfl)) dX10_read_33 ⟨Nat.le_of_ble_eq_true rfl, Nat.le_of_ble_eq_true rfl⟩) (fun x19 u20 H locs hw hPD hS => ?_)
      obtain ⟨x16, x17, g18⟩ := u20
      obtain ⟨h21, h22, h23⟩ : (0 ≤ x16.toInt ∧ x16.toInt ≤ 2048) ∧ (0 ≤ x17.toInt ∧ x17.toInt ≤ 4096) ∧ (x19.toInt = 0 ∨ x19.toInt = 1) := hw
      obtain ⟨hP, hD⟩ : PD D A [O10 a10 r10 b10_bytes v10_count x16 q6 x17, (cB κ b10_bytes n10_bytes f10_bytes), (cI κ q6 x3.toNatClampNeg g18)] H := hPD
      refine lv_if_ne (tgt := 41) hx hb dX10_read_36 (by decide) (fun c24 => ?_) (fun c24 => ?_)
      · have c24 := ci_ne c24
        refine lv_aload_n hx hb dX10_read_41 rfl (lv_at hl 1 rfl) ?_
        refine va_get (D := D) (ci := 10) (v := .int x16) (C := RX10) (T := TX10) (N := 5) hx hb hts w1 hown hK.1 hP 0 rfl rfl 2 (by decide) w0 (fun _ h9 => h9) rfl dX10_read_42 ?_
        refine lv_aload_n hx hb dX10_read_45 rfl (lv_at hl 1 rfl) ?_
        refine va_get (D := D) (ci := 10) (v := .int v10_count) (C := RX10) (T := TX10) (N := 5) hx hb hts w1 hown hK.1 hP 0 rfl rfl 1 (by decide) w3 (fun _ h9 => h9) rfl dX10_read_46 ?_
        refine lv_icmp_ne (tgt := 54) hx hb dX10_read_49 (by decide) (fun c25 => ?_) (fun c25 => ?_)
        · have c25 := ci_ne c25
          refine lv_aload_n hx hb dX10_read_54 rfl (lv_at hl 1 rfl) ?_
          refine lv_bipush (v := 59) hx hb dX10_read_55 (by decide) ?_
          refine kcm_i hA hAB hP hD hS [true, true, false] rfl (fun _ => rfl) (fun hPc hDc => va_runV (As := [.int 59]) (rest := []) ⟨hx, hb, hml, hown, hts⟩ (k_X10_takes l D κ β a10 r10 b10_bytes v10_count x16 q6 x17 n10_bytes f10_bytes H.size 59 i1 h21 h22 hf10_bytes i4 i5 (by omega)) (cwV 1 hts gX10_read_X10_takes rfl rfl rfl (by decide +kernel) ⟨Nat.le_of_ble_eq_true rfl, Nat.le_of_ble_eq_true rfl⟩) (pk_V hK hS hAB hPc hDc 0 (ci := 10) rfl rfl rfl) rfl rfl hl.1 rfl (lv_room (Nat.le_of_ble_eq_true rfl)) dX10_read_57 ⟨Nat.le_of_ble_eq_true rfl, Nat.le_of_ble_eq_true rfl⟩) (fun x27 x26 H locs hw hPD hS => ?_)
          obtain ⟨h28, h29⟩ : (0 ≤ x26.toInt ∧ x26.toInt ≤ 2048) ∧ (x27.toInt = 0 ∨ x27.toInt = 1) := hw
          obtain ⟨hP, hD⟩ : PD D A [O10 a10 r10 b10_bytes v10_count x26 q6 x17, (cB κ b10_bytes n10_bytes f10_bytes), (cI κ q6 x3.toNatClampNeg g18)] H := hPD
          refine lv_if_ne (tgt := 65) hx hb dX10_read_60 (by decide) (fun c30 => ?_) (fun c30 => ?_)
          · have c30 := ci_ne c30
            obtain ⟨x31, e32⟩ : ∃ y : Int32, y = k7 + 1 := ⟨_, rfl⟩
            refine lv_iinc (v := x31) (lv' := [(1, .int x31), (0, .ref a10)]) hx hb dX10_read_65 hl (k := 0) rfl (by rw [e32]; rfl) (by decide) rfl (fun ls hl => ?_)
            try have h33 : x31.toInt = k7.toInt + (1 : Int32).toInt := ci_add e32 (by omega) (by omega)
            refine lv_goto (tgt := 24) hx hb dX10_read_68 (by decide) ?_
            exact ih24 x31 x26 x17 g18 h28 h22 (by omega) (by omega) _ _ hP hD hS _ hl
          have c30 := ci_eq c30
          refine lv_iconst (v := 0) hx hb dX10_read_63 (by decide) ?_
          have hpo : (0 ≤ x26.toInt ∧ x26.toInt ≤ 2048) ∧ (0 ≤ x17.toInt ∧ x17.toInt ≤ 4096) ∧ (x3.toNatClampNeg ≤ 2049) ∧ ((0 : Int32).toInt = 0 ∨ (0 : Int32).toInt = 1) := ⟨h28, h22, (by omega), (by omega)⟩
          exact ret _ _ _ _ 0 (x26, q6, x17, x3.toNatClampNeg, g18) dX10_read_64 (by omega) hpo hP hD hS
        have c25 := ci_eq c25
        refine lv_iconst (v := 1) hx hb dX10_read_52 (by decide) ?_
        have hpo : (0 ≤ x16.toInt ∧ x16.toInt ≤ 2048) ∧ (0 ≤ x17.toInt ∧ x17.toInt ≤ 4096) ∧ (x3.toNatClampNeg ≤ 2049) ∧ ((1 : Int32).toInt = 0 ∨ (1 : Int32).toInt = 1) := ⟨h21, h22, (by omega), (by omega)⟩
        exact ret _ _ _ _ 1 (x16, q6, x17, x3.toNatClampNeg, g18) dX10_read_53 (by omega) hpo hP hD hS
      have c24 := ci_eq c24
      refine lv_iconst (v := 0) hx hb dX10_read_39 (by decide) ?_
      have hpo : (0 ≤ x16.toInt ∧ x16.toInt ≤ 2048) ∧ (0 ≤ x17.toInt ∧ x17.toInt ≤ 4096) ∧ (x3.toNatClampNeg ≤ 2049) ∧ ((0 : Int32).toInt = 0 ∨ (0 : Int32).toInt = 1) := ⟨h21, h22, (by omega), (by omega)⟩
      exact ret _ _ _ _ 0 (x16, q6, x17, x3.toNatClampNeg, g18) dX10_read_40 (by omega) hpo hP hD hS
  exact lp24 ((v10_count.toInt + 1 - (0 : Int32).toInt).toNat + 1) 0 0 0 (fun _ => 0) h1 h2 (by omega) (by omega) _ _ hP hD hS _ hl
