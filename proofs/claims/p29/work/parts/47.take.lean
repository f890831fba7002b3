set_option maxHeartbeats 4000000 in
set_option maxRecDepth 100000 in
theorem k_J7_copyOf_9075b (l : Launch) (D : va_G) (κ : Nat → ClassId) (β : Nat) (nq1 : Nat) (fq1 : Nat → Int32) (sz : Nat) (q1 : Nat) (p2 : Int32) (hfq1 : ∀ j : Nat, -128 ≤ (fq1 j).toInt ∧ (fq1 j).toInt ≤ 127) (i1 : ((nq1 : Nat) : Int) < p2.toInt) (i2 : p2.toInt ≤ 4096) : Met l yJ7_copyOf_9075b wsJ7_copyOf_9075b ({ frames := 1, cells := 1, slots := 4096, locals := 64 } : Room) (PcK D κ β [(cB κ q1 nq1 fq1)] sz [.ref q1, .int p2]) (QrK D (fun (u : (Nat → Int32)) => ∀ j : Nat, -128 ≤ (u j).toInt ∧ (u j).toInt ≤ 127) (fun (u : (Nat → Int32)) (a : Nat) => [(cB κ q1 nq1 fq1), (cB κ a p2.toNatClampNeg u)]) [(cB κ q1 nq1 fq1)] sz) 1 4096 (va_A [(cB κ q1 nq1 fq1)] sz) := by
  refine ofK_r (cc := cJ7_copyOf_9075b) (maxL := 3) (own := RJ7) (by decide) rfl rfl (Nat.le_of_ble_eq_true rfl) ?_
  intro p e s m args below meth c Q A ls hsz hx hb hml hts hown hK hA hAB hP hD hl ret
  have hS : va_S A s.heap s.heap [] := va_S.rf
  have hl : lv_has ls 3 [(0, .ref q1), (1, .int p2)] := hl
  have w0 := hts (.arrayClass .byte) (List.mem_of_getElem? (i := 7) rfl)
  have w1 := hts (.methodLink RJ7 304 Lib.Math.min.name) (List.mem_of_getElem? (i := 8) rfl)
  have w2 := hts (.static Lib.Math.min.name) (List.mem_of_getElem? (i := 9) rfl)
  have w3 := hts (.initialized "java/lang/Math") (List.mem_of_getElem? (i := 10) rfl)
  have w4 := hts (.code Lib.Math.min.name Lib.Math.min.code 2 (some .int)) (List.mem_of_getElem? (i := 11) rfl)
  have w5 := hts (.methodLink RJ7 150 arraycopyName) (List.mem_of_getElem? (i := 12) rfl)
  have w6 := hts (.native arraycopyName) (List.mem_of_getElem? (i := 13) rfl)
  have w7 := hts (.static arraycopyName) (List.mem_of_getElem? (i := 14) rfl)
  have w8 := hts (.initialized "java/lang/System") (List.mem_of_getElem? (i := 15) rfl)
  have l0 : (0 : Int32).toInt = 0 := by decide
  refine lv_iload_n hx hb dJ7_copyOf_9075b_0 rfl (lv_at hl 1 rfl) ?_
  refine lv_aload_n hx hb dJ7_copyOf_9075b_1 rfl (lv_at hl 0 rfl) ?_
  refine va_alen hx hb hK.1 hP 0 0 rfl rfl rfl dJ7_copyOf_9075b_2 ?_
  refine lv_topi (fun x1 e2 => ?_)
  have h3 : x1.toInt = ((nq1 : Nat) : Int) := ci_len e2 (by omega)
  refine lv_icmp_ne (tgt := 14) hx hb dJ7_copyOf_9075b_3 (by decide) (fun c4 => ?_) (fun c4 => ?_)
  · have c4 := ci_ne c4
    refine lv_iload_n hx hb dJ7_copyOf_9075b_14 rfl (lv_at hl 1 rfl) ?_
    have hcn := ci_clamp (i := p2) (by omega)
    refine va_newa (atype := .byte) hx hb w0 rfl hK.1 hP hD hS hA (a0 := (p2.toNatClampNeg, .inl (fun _ => 0))) (fun _ => rfl) (fun q => by have q := ci_lt q; omega) rfl (by show _ * 1 ≤ _; omega) (Nat.le_of_ble_eq_true rfl) (by show _ ≤ _; dsimp only; omega) dJ7_copyOf_9075b_15 (fun q5 cA H hK9 hP hD hS => ?_)
    have hcA := cls_B hK9
    subst hcA
    obtain ⟨hP, hD⟩ : PD D A [(cB κ q1 nq1 fq1), (cB κ q5 p2.toNatClampNeg (fun _ => 0))] H := ⟨hP, hD⟩
    refine W.widen (k := 1) (n := 4096) (by omega) (by omega) ?_
    refine lv_astore_n (lv' := [(2, .ref q5), (0, .ref q1), (1, .int p2)]) hx hb dJ7_copyOf_9075b_17 rfl hl (by decide) rfl (fun ls hl => ?_)
    refine lv_aload_n hx hb dJ7_copyOf_9075b_18 rfl (lv_at hl 1 rfl) ?_
    refine lv_iconst (v := 0) hx hb dJ7_copyOf_9075b_19 (by decide) ?_
    refine lv_aload_n hx hb dJ7_copyOf_9075b_20 rfl (lv_at hl 0 rfl) ?_
    refine lv_iconst (v := 0) hx hb dJ7_copyOf_9075b_21 (by decide) ?_
    refine lv_aload_n hx hb dJ7_copyOf_9075b_22 rfl (lv_at hl 1 rfl) ?_
    refine va_alen hx hb hK.1 hP 0 0 rfl rfl rfl dJ7_copyOf_9075b_23 ?_
    refine lv_topi (fun x6 e7 => ?_)
    have h8 : x6.toInt = ((nq1 : Nat) : Int) := ci_len e7 (by omega)
    refine lv_iload_n hx hb dJ7_copyOf_9075b_24 rfl (lv_at hl 2 rfl) ?_
    refine va_mmin hx hb (hml.trans hl.1.symm) hown w1 w2 w3 w4 (Nat.le_of_ble_eq_true rfl) (Nat.le_of_ble_eq_true rfl) (Nat.le_of_ble_eq_true rfl) (Nat.le_of_ble_eq_true rfl) dJ7_copyOf_9075b_25 ?_
    refine lv_topi (fun x9 e10 => ?_)
    have h11 := ci_min e10
    have hc1 := ci_clamp (i := 0) (by omega)
    have hc2 := ci_clamp (i := 0) (by omega)
    have hc3 := ci_clamp (i := x9) (by omega)
    refine va_copyi hx hb (hml.trans hl.1.symm) hown w5 w6 w7 w8 hK.1 hP hD hS 0 1 0 0 rfl rfl rfl rfl rfl (sp := 0) (dp := 0) (n := x9) (fun q => by have q := ci_lt q; omega) (fun q => by have q := ci_lt q; omega) (fun q => by have q := ci_lt q; omega) (by omega) (by omega) (fun i hi => fits_b (hfq1 _)) (Nat.le_of_ble_eq_true rfl) (Nat.le_of_ble_eq_true rfl) dJ7_copyOf_9075b_28 (fun H locs hP hD hS => ?_)
    obtain ⟨g12, e13⟩ : ∃ y : Nat → Int32, y = va_cpy fq1 (fun _ => 0) (0 : Int32).toNatClampNeg (0 : Int32).toNatClampNeg x9.toNatClampNeg := ⟨_, rfl⟩
    rw [← e13] at hP hD
    obtain ⟨hP, hD⟩ : PD D A [(cB κ q1 nq1 fq1), (cB κ q5 p2.toNatClampNeg g12)] H := ⟨hP, hD⟩
    have h14 : ∀ j : Nat, -128 ≤ (g12 j).toInt ∧ (g12 j).toInt ≤ 127 := by rw [e13]; exact all_cpy (P := fun (z : Int32) => -128 ≤ z.toInt ∧ z.toInt ≤ 127) hfq1 (fun _ => by decide)
    refine lv_aload_n hx hb dJ7_copyOf_9075b_31 rfl (lv_at hl 0 rfl) ?_
    have hpo : ∀ j : Nat, -128 ≤ (g12 j).toInt ∧ (g12 j).toInt ≤ 127 := h14
    exact ret _ _ _ _ q5 g12 dJ7_copyOf_9075b_32 hpo hP hD hS
  have c4 := ci_eq c4
  exfalso
  omega
set_option maxHeartbeats 4000000 in
set_option maxRecDepth 100000 in
theorem k_X10_take (l : Launch) (D : va_G) (κ : Nat → ClassId) (β : Nat) (a10 : Nat) (r10 : Nat → Nat) (b10_bytes : Nat) (v10_count : Int32) (v10_at : Int32) (b10_steps : Nat) (v10_size : Int32) (n10_bytes : Nat) (f10_bytes : Nat → Int32) (sz : Nat) (p1 : Int32) (p2 : Int32) (i1 : Rg 0 2048 v10_count) (i2 : Rg 0 2048 v10_at) (i3 : Rg 0 4096 v10_size) (hf10_bytes : ∀ j : Nat, -128 ≤ (f10_bytes j).toInt ∧ (f10_bytes j).toInt ≤ 127) (i4 : v10_count.toInt ≤ ((n10_bytes : Nat) : Int)) (i5 : 64 ≤ ((n10_bytes : Nat) : Int) ∧ ((n10_bytes : Nat) : Int) ≤ 4096) (i6 : 1 ≤ p1.toInt ∧ p1.toInt ≤ 4) : Met l yX10_take wsX10_take ({ frames := 2, cells := 1, slots := 4096, locals := 86 } : Room) (PcK D κ β [O10 a10 r10 b10_bytes v10_count v10_at b10_steps v10_size, (cB κ b10_bytes n10_bytes f10_bytes)] sz [.ref a10, .int p1, .int p2]) (QiK D (fun (r : Int32) (u : Nat × Int32 × Nat × (Nat → Int32)) => (0 ≤ u.2.1.toInt ∧ u.2.1.toInt ≤ 2048) ∧ (∀ j : Nat, -128 ≤ (u.2.2.2 j).toInt ∧ (u.2.2.2 j).toInt ≤ 127) ∧ (u.2.1.toInt ≤ u.2.2.1) ∧ (64 ≤ u.2.2.1 ∧ u.2.2.1 ≤ 4096)) (fun (u : Nat × Int32 × Nat × (Nat → Int32)) => [O10 a10 r10 u.1 u.2.1 v10_at b10_steps v10_size, (cB κ u.1 u.2.2.1 u.2.2.2)]) [O10 a10 r10 b10_bytes v10_count v10_at b10_steps v10_size, (cB κ b10_bytes n10_bytes f10_bytes)] sz) 1 4096 (va_A [O10 a10 r10 b10_bytes v10_count v10_at b10_steps v10_size, (cB κ b10_bytes n10_bytes f10_bytes)] sz) := by
  refine ofK_i (cc := cX10_take) (maxL := 4) (own := RX10) (by decide) rfl rfl (Nat.le_of_ble_eq_true rfl) ?_
  intro p e s m args below meth c Q A ls hsz hx hb hml hts hown hK hA hAB hP hD hl ret
  have hS : va_S A s.heap s.heap [] := va_S.rf
  have hl : lv_has ls 4 [(0, .ref a10), (1, .int p1), (2, .int p2)] := hl
  have w0 := hts (.fieldLink RX10 19 "OlderSkin$Tape" "count" "I") (List.mem_of_getElem? (i := 1) rfl)
  have w1 := (fun w h => List.mem_cons_of_mem _ (List.mem_append_right _ h) : ∀ w ∈ u_ws RX10 TX10 5, w ∈ wsX10_take)
  have w2 := hts (.fieldLink RX10 9 "OlderSkin$Tape" "bytes" "[B") (List.mem_of_getElem? (i := 2) rfl)
  have l0 : (2048 : Int32).toInt = 2048 := by decide
  have l1 : (0 : Int32).toInt = 0 := by decide
  have l2 : (8 : Int32).toInt = 8 := by decide
  have l3 : (1 : Int32).toInt = 1 := by decide
  have l4 : (2 : Int32).toInt = 2 := by decide
  have l5 : ((-3) : Int32).toInt = -3 := by decide
  have i1 : 0 ≤ v10_count.toInt ∧ v10_count.toInt ≤ 2048 := i1
  refine lv_aload_n hx hb dX10_take_0 rfl (lv_at hl 0 rfl) ?_
  refine va_get (D := D) (ci := 10) (v := .int v10_count) (C := RX10) (T := TX10) (N := 5) hx hb hts w1 hown hK.1 hP 0 rfl rfl 1 (by decide) w0 (fun _ h9 => h9) rfl dX10_take_1 ?_
  refine lv_iload_n hx hb dX10_take_4 rfl (lv_at hl 1 rfl) ?_
  refine lv_iadd hx hb dX10_take_5 ?_
  refine lv_topi (fun x1 e2 => ?_)
  try have h3 : x1.toInt = v10_count.toInt + p1.toInt := ci_add e2 (by omega) (by omega)
  refine lv_sipush (v := 2048) hx hb dX10_take_6 (by decide) ?_
  refine lv_icmp_le (tgt := 15) hx hb dX10_take_9 (by decide) (fun c4 => ?_) (fun c4 => ?_)
  · have c4 := ci_le c4
    refine lv_aload_n hx hb dX10_take_15 rfl (lv_at hl 0 rfl) ?_
    refine va_get (D := D) (ci := 10) (v := .int v10_count) (C := RX10) (T := TX10) (N := 5) hx hb hts w1 hown hK.1 hP 0 rfl rfl 1 (by decide) w0 (fun _ h9 => h9) rfl dX10_take_16 ?_
    refine lv_iload_n hx hb dX10_take_19 rfl (lv_at hl 1 rfl) ?_
    refine lv_iadd hx hb dX10_take_20 ?_
    refine lv_topi (fun x5 e6 => ?_)
    try have h7 : x5.toInt = v10_count.toInt + p1.toInt := ci_add e6 (by omega) (by omega)
    refine lv_aload_n hx hb dX10_take_21 rfl (lv_at hl 0 rfl) ?_
    refine va_get (D := D) (ci := 10) (v := .ref b10_bytes) (C := RX10) (T := TX10) (N := 5) hx hb hts w1 hown hK.1 hP 0 rfl rfl 0 (by decide) w2 (fun _ h9 => h9) rfl dX10_take_22 ?_
    refine va_alen hx hb hK.1 hP 1 0 rfl rfl rfl dX10_take_25 ?_
    refine lv_topi (fun x8 e9 => ?_)
    have h10 : x8.toInt = ((n10_bytes : Nat) : Int) := ci_len e9 (by omega)
    refine lv_icmp_le (tgt := 47) hx hb dX10_take_26 (by decide) (fun c11 => ?_) (fun c11 => ?_)
    · have c11 := ci_le c11
      refine lv_iconst (v := 0) hx hb dX10_take_47 (by decide) ?_
      refine lv_istore_n (lv' := [(3, .int 0), (0, .ref a10), (1, .int p1), (2, .int p2)]) hx hb dX10_take_48 rfl hl (by decide) rfl (fun ls hl => ?_)
      have lp49 : ∀ (n49 : Nat) (k12 : Int32) (v13 : Int32) (g14 : Nat → Int32), (0 ≤ v13.toInt ∧ v13.toInt ≤ 2048) → (∀ j : Nat, -128 ≤ (g14 j).toInt ∧ (g14 j).toInt ≤ 127) → (v13.toInt ≤ ((n10_bytes : Nat) : Int)) → (k12.toInt ≤ p1.toInt) → (v13.toInt - k12.toInt = v10_count.toInt) → (0 ≤ k12.toInt) → (p1.toInt - k12.toInt).toNat < n49 → ∀ (H : Heap) (locs : List Loc), va_P D vwCl [O10 a10 r10 b10_bytes v13 v10_at b10_steps v10_size, (cB κ b10_bytes n10_bytes g14)] H → va_D A [O10 a10 r10 b10_bytes v13 v10_at b10_steps v10_size, (cB κ b10_bytes n10_bytes g14)] → va_S A s.heap H locs → ∀ ls : Array Slot, lv_has ls 4 [(3, .int k12), (0, .ref a10), (1, .int p1), (2, .int p2)] → W p l e ({ frames := 2, cells := 1, slots := 4096, locals := 86 } : Room) s m args below meth c H locs 0 0 Q (F0 m 49 ls []) := by
        intro n49
        induction n49 with
        | zero =>
          intro k12 v13 g14 h16 h15 h17 h18 h19 h20 m21
          exact absurd m21 (Nat.not_lt_zero _)
        | succ n49 ih49 =>
          intro k12 v13 g14 h16 h15 h17 h18 h19 h20 m21 H locs hP hD hS ls hl
          refine lv_iload_n hx hb dX10_take_49 rfl (lv_at hl 0 rfl) ?_
          refine lv_iload_n hx hb dX10_take_50 rfl (lv_at hl 2 rfl) ?_
          refine lv_icmp_ge (tgt := 86) hx hb dX10_take_51 (by decide) (fun c22 => ?_) (fun c22 => ?_)
          · have c22 := ci_le c22
            refine lv_aload_n hx hb dX10_take_86 rfl (lv_at hl 1 rfl) ?_
            refine va_get (D := D) (ci := 10) (v := .int v13) (C := RX10) (T := TX10) (N := 5) hx hb hts w1 hown hK.1 hP 0 rfl rfl 1 (by decide) w0 (fun _ h9 => h9) rfl dX10_take_87 ?_
            have hpo : (0 ≤ v13.toInt ∧ v13.toInt ≤ 2048) ∧ (∀ j : Nat, -128 ≤ (g14 j).toInt ∧ (g14 j).toInt ≤ 127) ∧ (v13.toInt ≤ n10_bytes) ∧ (64 ≤ n10_bytes ∧ n10_bytes ≤ 4096) := ⟨h16, h15, (by omega), (by omega)⟩
            refine W.widen (k := 1) (n := 4096) (by omega) (by omega) ?_
            exact ret _ _ _ _ v13 (b10_bytes, v13, n10_bytes, g14) dX10_take_90 hpo hP hD hS
          have c22 := ci_nle c22
          refine lv_aload_n hx hb dX10_take_54 rfl (lv_at hl 1 rfl) ?_
          refine va_get (D := D) (ci := 10) (v := .ref b10_bytes) (C := RX10) (T := TX10) (N := 5) hx hb hts w1 hown hK.1 hP 0 rfl rfl 0 (by decide) w2 (fun _ h9 => h9) rfl dX10_take_55 ?_
          refine lv_aload_n hx hb dX10_take_58 rfl (lv_at hl 1 rfl) ?_
          refine va_get (D := D) (ci := 10) (v := .int v13) (C := RX10) (T := TX10) (N := 5) hx hb hts w1 hown hK.1 hP 0 rfl rfl 1 (by decide) w0 (fun _ h9 => h9) rfl dX10_take_59 ?_
          refine lv_iload_n hx hb dX10_take_62 rfl (lv_at hl 3 rfl) ?_
          refine lv_bipush (v := 8) hx hb dX10_take_63 (by decide) ?_
          refine lv_iload_n hx hb dX10_take_65 rfl (lv_at hl 0 rfl) ?_
          refine lv_imul hx hb dX10_take_66 ?_
          refine lv_topi (fun x23 e24 => ?_)
          try have h25 : x23.toInt = 8 * k12.toInt := ci_mulL (n := 8) (by decide) e24 (by omega) (by omega)
          refine lv_ishr hx hb dX10_take_67 ?_
          refine lv_topi (fun x26 e27 => ?_)
          refine lv_i2b hx hb dX10_take_68 rfl ?_
          refine lv_topi (fun x28 e29 => ?_)
          refine va_bast hx hb hK.1 hP hD hS 1 0 rfl rfl (i := v13) (ix (by omega) (by omega)) dX10_take_69 (fun H locs hP hD hS => ?_)
          obtain ⟨g30, e31⟩ : ∃ y : Nat → Int32, y = upd g14 v13.toNatClampNeg (vp_nar .byte x28) := ⟨_, rfl⟩
          rw [← e31] at hP hD
          obtain ⟨hP, hD⟩ : PD D A [O10 a10 r10 b10_bytes v13 v10_at b10_steps v10_size, (cB κ b10_bytes n10_bytes g30)] H := ⟨hP, hD⟩
          have h32 : ∀ j : Nat, -128 ≤ (g30 j).toInt ∧ (g30 j).toInt ≤ 127 := by rw [e31]; exact all_upd (P := fun z => -128 ≤ z.toInt ∧ z.toInt ≤ 127) h15 (nar_byte _)
          refine lv_aload_n hx hb dX10_take_70 rfl (lv_at hl 1 rfl) ?_
          refine lv_dup hx hb dX10_take_71 rfl ?_
          refine va_get (D := D) (ci := 10) (v := .int v13) (C := RX10) (T := TX10) (N := 5) hx hb hts w1 hown hK.1 hP 0 rfl rfl 1 (by decide) w0 (fun _ h9 => h9) rfl dX10_take_72 ?_
          refine lv_iconst (v := 1) hx hb dX10_take_75 (by decide) ?_
          refine lv_iadd hx hb dX10_take_76 ?_
          refine lv_topi (fun x33 e34 => ?_)
          try have h35 : x33.toInt = v13.toInt + (1 : Int32).toInt := ci_add e34 (by omega) (by omega)
          refine va_put (D := D) (ci := 10) (v := .int x33) (ty := .int) (C := RX10) (T := TX10) (N := 5) hx hb hts w1 tyX10 tyX10_ok nmX10 hown hK.1 hP hD hS 0 rfl rfl 1 (by decide) w0 (fun _ h9 => h9) rfl (by decide +kernel) rfl rfl (Nat.le_of_ble_eq_true rfl) dX10_take_77 (fun H locs hP hD hS => ?_)
          obtain ⟨hP, hD⟩ : PD D A [O10 a10 r10 b10_bytes x33 v10_at b10_steps v10_size, (cB κ b10_bytes n10_bytes g30)] H := ⟨hP, hD⟩
          have h36 : 0 ≤ x33.toInt ∧ x33.toInt ≤ 2048 := by omega
          have h37 : x33.toInt ≤ ((n10_bytes : Nat) : Int) := by omega
          obtain ⟨x38, e39⟩ : ∃ y : Int32, y = k12 + 1 := ⟨_, rfl⟩
          refine lv_iinc (v := x38) (lv' := [(3, .int x38), (0, .ref a10), (1, .int p1), (2, .int p2)]) hx hb dX10_take_80 hl (k := 0) rfl (by rw [e39]; rfl) (by decide) rfl (fun ls hl => ?_)
          try have h40 : x38.toInt = k12.toInt + (1 : Int32).toInt := ci_add e39 (by omega) (by omega)
          refine lv_goto (tgt := 49) hx hb dX10_take_83 (by decide) ?_
          exact ih49 x38 x33 g30 h36 h32 (by omega) (by omega) (by omega) (by omega) (by omega) _ _ hP hD hS _ hl
      exact lp49 ((p1.toInt - (0 : Int32).toInt).toNat + 1) 0 v10_count f10_bytes i1 hf10_bytes (by omega) (by omega) (by omega) (by omega) (by omega) _ _ hP hD hS _ hl
    have c11 := ci_nle c11
    refine lv_aload_n hx hb dX10_take_29 rfl (lv_at hl 0 rfl) ?_
    refine lv_aload_n hx hb dX10_take_30 rfl (lv_at hl 0 rfl) ?_
    refine va_get (D := D) (ci := 10) (v := .ref b10_bytes) (C := RX10) (T := TX10) (N := 5) hx hb hts w1 hown hK.1 hP 0 rfl rfl 0 (by decide) w2 (fun _ h9 => h9) rfl dX10_take_31 ?_
    refine lv_iconst (v := 2) hx hb dX10_take_34 (by decide) ?_
    refine lv_aload_n hx hb dX10_take_35 rfl (lv_at hl 0 rfl) ?_
    refine va_get (D := D) (ci := 10) (v := .ref b10_bytes) (C := RX10) (T := TX10) (N := 5) hx hb hts w1 hown hK.1 hP 0 rfl rfl 0 (by decide) w2 (fun _ h9 => h9) rfl dX10_take_36 ?_
    refine va_alen hx hb hK.1 hP 1 0 rfl rfl rfl dX10_take_39 ?_
    refine lv_topi (fun x41 e42 => ?_)
    have h43 : x41.toInt = ((n10_bytes : Nat) : Int) := ci_len e42 (by omega)
    refine lv_imul hx hb dX10_take_40 ?_
    refine lv_topi (fun x44 e45 => ?_)
    try have h46 : x44.toInt = 2 * x41.toInt := ci_mulL (n := 2) (by decide) e45 (by omega) (by omega)
    refine kc_r hA hAB hP hD hS (wc := [(cB κ b10_bytes n10_bytes f10_bytes)]) (wr := [O10 a10 r10 b10_bytes v10_count v10_at b10_steps v10_size]) [1] [0] rfl rfl (by decide) (by decide) (by decide) (fun hPc hDc => va_runS (As := [.ref b10_bytes, .int x44]) (rest := [.ref a10]) ⟨hx, hb, hml, hown, hts⟩ (k_J7_copyOf_9075b l D κ β n10_bytes f10_bytes s.heap.size b10_bytes x44 hf10_bytes (by omega) (by omega)) (va_cwS 2 hts gX10_take_J7_copyOf_9075b rfl rfl rfl (by decide +kernel) ⟨Nat.le_of_ble_eq_true rfl, Nat.le_of_ble_eq_true rfl⟩) (pk_S hK hS hAB hPc hDc) rfl rfl hl.1 rfl (lv_room (Nat.le_of_ble_eq_true rfl)) dX10_take_41 ⟨Nat.le_of_ble_eq_true rfl, Nat.le_of_ble_eq_true rfl⟩) (fun g47 x48 H locs hw hP hD hS => ?_)
    have h49 : ∀ j : Nat, -128 ≤ (g47 j).toInt ∧ (g47 j).toInt ≤ 127 := hw
    obtain ⟨hP, hD⟩ : PD D A [O10 a10 r10 b10_bytes v10_count v10_at b10_steps v10_size, (cB κ b10_bytes n10_bytes f10_bytes), (cB κ x48 x44.toNatClampNeg g47)] H := ⟨hP, hD⟩
    have hcr50 := ci_clamp (i := x44) (by omega)
    refine va_put (D := D) (ci := 10) (v := .ref x48) (ty := .array .byte) (C := RX10) (T := TX10) (N := 5) hx hb hts w1 tyX10 tyX10_ok nmX10 hown hK.1 hP hD hS 0 rfl rfl 0 (by decide) w2 (fun _ h9 => h9) rfl (by decide +kernel) rfl rfl (Nat.le_of_ble_eq_true rfl) dX10_take_44 (fun H locs hP hD hS => ?_)
    obtain ⟨hP, hD⟩ : PD D A [O10 a10 r10 x48 v10_count v10_at b10_steps v10_size, (cB κ b10_bytes n10_bytes f10_bytes), (cB κ x48 x44.toNatClampNeg g47)] H := ⟨hP, hD⟩
    obtain ⟨hP, hD⟩ : PD D A [O10 a10 r10 x48 v10_count v10_at b10_steps v10_size, (cB κ x48 x44.toNatClampNeg g47)] H := ⟨hP.sub [0, 2] rfl, hD.sub [0, 2] (by decide) rfl⟩
    obtain ⟨hP, hD⟩ : PD D A [O10 a10 r10 x48 v10_count v10_at b10_steps v10_size, (cB κ x48 x44.toNatClampNeg g47)] H := ⟨hP, hD⟩
    refine lv_iconst (v := 0) hx hb dX10_take_47 (by decide) ?_
    refine lv_istore_n (lv' := [(3, .int 0), (0, .ref a10), (1, .int p1), (2, .int p2)]) hx hb dX10_take_48 rfl hl (by decide) rfl (fun ls hl => ?_)
    have lp49 : ∀ (n49 : Nat) (k51 : Int32) (v52 : Int32) (g53 : Nat → Int32), (0 ≤ v52.toInt ∧ v52.toInt ≤ 2048) → (∀ j : Nat, -128 ≤ (g53 j).toInt ∧ (g53 j).toInt ≤ 127) → (v52.toInt ≤ ((x44.toNatClampNeg : Nat) : Int)) → (k51.toInt ≤ p1.toInt) → (v52.toInt - k51.toInt = v10_count.toInt) → (0 ≤ k51.toInt) → (p1.toInt - k51.toInt).toNat < n49 → ∀ (H : Heap) (locs : List Loc), va_P D vwCl [O10 a10 r10 x48 v52 v10_at b10_steps v10_size, (cB κ x48 x44.toNatClampNeg g53)] H → va_D A [O10 a10 r10 x48 v52 v10_at b10_steps v10_size, (cB κ x48 x44.toNatClampNeg g53)] → va_S A s.heap H locs → ∀ ls : Array Slot, lv_has ls 4 [(3, .int k51), (0, .ref a10), (1, .int p1), (2, .int p2)] → W p l e ({ frames := 2, cells := 1, slots := 4096, locals := 86 } : Room) s m args below meth c H locs 1 4096 Q (F0 m 49 ls []) := by
      intro n49
      induction n49 with
      | zero =>
        intro k51 v52 g53 h55 h54 h56 h57 h58 h59 m60
        exact absurd m60 (Nat.not_lt_zero _)
      | succ n49 ih49 =>
        intro k51 v52 g53 h55 h54 h56 h57 h58 h59 m60 H locs hP hD hS ls hl
        refine lv_iload_n hx hb dX10_take_49 rfl (lv_at hl 0 rfl) ?_
        refine lv_iload_n hx hb dX10_take_50 rfl (lv_at hl 2 rfl) ?_
        refine lv_icmp_ge (tgt := 86) hx hb dX10_take_51 (by decide) (fun c61 => ?_) (fun c61 => ?_)
        · have c61 := ci_le c61
          refine lv_aload_n hx hb dX10_take_86 rfl (lv_at hl 1 rfl) ?_
          refine va_get (D := D) (ci := 10) (v := .int v52) (C := RX10) (T := TX10) (N := 5) hx hb hts w1 hown hK.1 hP 0 rfl rfl 1 (by decide) w0 (fun _ h9 => h9) rfl dX10_take_87 ?_
          have hpo : (0 ≤ v52.toInt ∧ v52.toInt ≤ 2048) ∧ (∀ j : Nat, -128 ≤ (g53 j).toInt ∧ (g53 j).toInt ≤ 127) ∧ (v52.toInt ≤ x44.toNatClampNeg) ∧ (64 ≤ x44.toNatClampNeg ∧ x44.toNatClampNeg ≤ 4096) := ⟨h55, h54, (by omega), (by omega)⟩
          exact ret _ _ _ _ v52 (x48, v52, x44.toNatClampNeg, g53) dX10_take_90 hpo hP hD hS
        have c61 := ci_nle c61
        refine lv_aload_n hx hb dX10_take_54 rfl (lv_at hl 1 rfl) ?_
        refine va_get (D := D) (ci := 10) (v := .ref x48) (C := RX10) (T := TX10) (N := 5) hx hb hts w1 hown hK.1 hP 0 rfl rfl 0 (by decide) w2 (fun _ h9 => h9) rfl dX10_take_55 ?_
        refine lv_aload_n hx hb dX10_take_58 rfl (lv_at hl 1 rfl) ?_
        refine va_get (D := D) (ci := 10) (v := .int v52) (C := RX10) (T := TX10) (N := 5) hx hb hts w1 hown hK.1 hP 0 rfl rfl 1 (by decide) w0 (fun _ h9 => h9) rfl dX10_take_59 ?_
        refine lv_iload_n hx hb dX10_take_62 rfl (lv_at hl 3 rfl) ?_
        refine lv_bipush (v := 8) hx hb dX10_take_63 (by decide) ?_
        refine lv_iload_n hx hb dX10_take_65 rfl (lv_at hl 0 rfl) ?_
        refine lv_imul hx hb dX10_take_66 ?_
        refine lv_topi (fun x62 e63 => ?_)
        try have h64 : x62.toInt = 8 * k51.toInt := ci_mulL (n := 8) (by decide) e63 (by omega) (by omega)
        refine lv_ishr hx hb dX10_take_67 ?_
        refine lv_topi (fun x65 e66 => ?_)
        refine lv_i2b hx hb dX10_take_68 rfl ?_
        refine lv_topi (fun x67 e68 => ?_)
        refine va_bast hx hb hK.1 hP hD hS 1 0 rfl rfl (i := v52) (ix (by omega) (by omega)) dX10_take_69 (fun H locs hP hD hS => ?_)
        obtain ⟨g69, e70⟩ : ∃ y : Nat → Int32, y = upd g53 v52.toNatClampNeg (vp_nar .byte x67) := ⟨_, rfl⟩
        rw [← e70] at hP hD
        obtain ⟨hP, hD⟩ : PD D A [O10 a10 r10 x48 v52 v10_at b10_steps v10_size, (cB κ x48 x44.toNatClampNeg g69)] H := ⟨hP, hD⟩
        have h71 : ∀ j : Nat, -128 ≤ (g69 j).toInt ∧ (g69 j).toInt ≤ 127 := by rw [e70]; exact all_upd (P := fun z => -128 ≤ z.toInt ∧ z.toInt ≤ 127) h54 (nar_byte _)
        refine lv_aload_n hx hb dX10_take_70 rfl (lv_at hl 1 rfl) ?_
        refine lv_dup hx hb dX10_take_71 rfl ?_
        refine va_get (D := D) (ci := 10) (v := .int v52) (C := RX10) (T := TX10) (N := 5) hx hb hts w1 hown hK.1 hP 0 rfl rfl 1 (by decide) w0 (fun _ h9 => h9) rfl dX10_take_72 ?_
        refine lv_iconst (v := 1) hx hb dX10_take_75 (by decide) ?_
        refine lv_iadd hx hb dX10_take_76 ?_
        refine lv_topi (fun x72 e73 => ?_)
        try have h74 : x72.toInt = v52.toInt + (1 : Int32).toInt := ci_add e73 (by omega) (by omega)
        refine va_put (D := D) (ci := 10) (v := .int x72) (ty := .int) (C := RX10) (T := TX10) (N := 5) hx hb hts w1 tyX10 tyX10_ok nmX10 hown hK.1 hP hD hS 0 rfl rfl 1 (by decide) w0 (fun _ h9 => h9) rfl (by decide +kernel) rfl rfl (Nat.le_of_ble_eq_true rfl) dX10_take_77 (fun H locs hP hD hS => ?_)
        obtain ⟨hP, hD⟩ : PD D A [O10 a10 r10 x48 x72 v10_at b10_steps v10_size, (cB κ x48 x44.toNatClampNeg g69)] H := ⟨hP, hD⟩
        have h75 : 0 ≤ x72.toInt ∧ x72.toInt ≤ 2048 := by omega
        have h76 : x72.toInt ≤ ((x44.toNatClampNeg : Nat) : Int) := by omega
        obtain ⟨x77, e78⟩ : ∃ y : Int32, y = k51 + 1 := ⟨_, rfl⟩
        refine lv_iinc (v := x77) (lv' := [(3, .int x77), (0, .ref a10), (1, .int p1), (2, .int p2)]) hx hb dX10_take_80 hl (k := 0) rfl (by rw [e78]; rfl) (by decide) rfl (fun ls hl => ?_)
        try have h79 : x77.toInt = k51.toInt + (1 : Int32).toInt := ci_add e78 (by omega) (by omega)
        refine lv_goto (tgt := 49) hx hb dX10_take_83 (by decide) ?_
        exact ih49 x77 x72 g69 h75 h71 (by omega) (by omega) (by omega) (by omega) (by omega) _ _ hP hD hS _ hl
    exact lp49 ((p1.toInt - (0 : Int32).toInt).toNat + 1) 0 v10_count g47 i1 h49 (by omega) (by omega) (by omega) (by omega) (by omega) _ _ hP hD hS _ hl
  have c4 := ci_nle c4
  refine lv_bipush (v := (-3)) hx hb dX10_take_12 (by decide) ?_
  have hpo : (0 ≤ v10_count.toInt ∧ v10_count.toInt ≤ 2048) ∧ (∀ j : Nat, -128 ≤ (f10_bytes j).toInt ∧ (f10_bytes j).toInt ≤ 127) ∧ (v10_count.toInt ≤ n10_bytes) ∧ (64 ≤ n10_bytes ∧ n10_bytes ≤ 4096) := ⟨i1, hf10_bytes, (by omega), (by omega)⟩
  refine W.widen (k := 1) (n := 4096) (by omega) (by omega) ?_
  exact ret _ _ _ _ (-3) (b10_bytes, v10_count, n10_bytes, f10_bytes) dX10_take_14 hpo hP hD hS
