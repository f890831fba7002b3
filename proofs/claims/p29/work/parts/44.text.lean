set_option maxHeartbeats 4000000 in
set_option maxRecDepth 100000 in
theorem k_J1_canEncode_9a6ad (l : Launch) (D : va_G) (κ : Nat → ClassId) (β : Nat) (sz : Nat) (p1 : Int32) : Met l yJ1_canEncode_9a6ad wsJ1_canEncode_9a6ad ({ frames := 0, cells := 0, slots := 0, locals := 0 } : Room) (PcK D κ β [] sz [.int p1]) (QiK D (fun (r : Int32) (u : Unit) => r.toInt = 0 ∨ r.toInt = 1) (fun (u : Unit) => []) [] sz) 0 0 (va_A [] sz) := by
  refine ofK_z (cc := cJ1_canEncode_9a6ad) (maxL := 1) (own := RJ1) (by decide) rfl rfl (Nat.le_of_ble_eq_true rfl) ?_
  intro p e s m args below meth c Q A ls hsz hx hb hml hts hown hK hA hAB hP hD hl ret
  have hS : va_S A s.heap s.heap [] := va_S.rf
  have hl : lv_has ls 1 [(0, .int p1)] := hl
  have l0 : (0 : Int32).toInt = 0 := by decide
  have l1 : (255 : Int32).toInt = 255 := by decide
  have l2 : (1 : Int32).toInt = 1 := by decide
  refine lv_iload_n hx hb dJ1_canEncode_9a6ad_0 rfl (lv_at hl 0 rfl) ?_
  refine lv_if_lt (tgt := 15) hx hb dJ1_canEncode_9a6ad_1 (by decide) (fun c1 => ?_) (fun c1 => ?_)
  · have c1 := ci_lt c1
    refine lv_iconst (v := 0) hx hb dJ1_canEncode_9a6ad_15 (by decide) ?_
    have hpo : (0 : Int32).toInt = 0 ∨ (0 : Int32).toInt = 1 := (by omega)
    exact ret _ _ _ _ 0 () dJ1_canEncode_9a6ad_16 (by omega) hpo hP hD hS
  have c1 := ci_nlt c1
  refine lv_iload_n hx hb dJ1_canEncode_9a6ad_4 rfl (lv_at hl 0 rfl) ?_
  refine lv_sipush (v := 255) hx hb dJ1_canEncode_9a6ad_5 (by decide) ?_
  refine lv_icmp_gt (tgt := 15) hx hb dJ1_canEncode_9a6ad_8 (by decide) (fun c2 => ?_) (fun c2 => ?_)
  · have c2 := ci_lt c2
    refine lv_iconst (v := 0) hx hb dJ1_canEncode_9a6ad_15 (by decide) ?_
    have hpo : (0 : Int32).toInt = 0 ∨ (0 : Int32).toInt = 1 := (by omega)
    exact ret _ _ _ _ 0 () dJ1_canEncode_9a6ad_16 (by omega) hpo hP hD hS
  have c2 := ci_nlt c2
  refine lv_iconst (v := 1) hx hb dJ1_canEncode_9a6ad_11 (by decide) ?_
  refine lv_goto (tgt := 16) hx hb dJ1_canEncode_9a6ad_12 (by decide) ?_
  have hpo : (1 : Int32).toInt = 0 ∨ (1 : Int32).toInt = 1 := (by omega)
  exact ret _ _ _ _ 1 () dJ1_canEncode_9a6ad_16 (by omega) hpo hP hD hS
set_option maxHeartbeats 4000000 in
set_option maxRecDepth 100000 in
theorem k_J1_indexOfChar_4cfef (l : Launch) (D : va_G) (κ : Nat → ClassId) (β : Nat) (k9 : Nat) (v9 : Nat) (sz : Nat) (p2 : Int32) (p3 : Int32) (p4 : Int32) (i1 : 0 ≤ p3.toInt) (i2 : p4.toInt ≤ 8) : Met l yJ1_indexOfChar_4cfef wsJ1_indexOfChar_4cfef ({ frames := 0, cells := 0, slots := 0, locals := 0 } : Room) (PcX D κ β k9 v9 sz [.ref v9, .int p2, .int p3, .int p4]) (QiK D (fun (r : Int32) (u : Unit) => -1 ≤ r.toInt ∧ r.toInt ≤ 7) (fun (u : Unit) => []) [] sz) 0 0 (va_A [] sz) := by
  refine ofX (fun _ _ _ => rfl) (cc := cJ1_indexOfChar_4cfef) (maxL := 6) (own := RJ1) (by decide) rfl rfl (Nat.le_of_ble_eq_true rfl) ?_
  intro p e s m args below meth c Q A ls hsz hx hb hml hts hown hK hA hAB sx hP hD hl ret
  have sx1 := vk_S.narrow sx hAB
  have hS : va_S A s.heap s.heap [] := va_S.rf
  have hl : lv_has ls 6 [(0, .ref v9), (1, .int p2), (2, .int p3), (3, .int p4)] := hl
  have l0 : (0 : Int32).toInt = 0 := by decide
  have l1 : ((-1) : Int32).toInt = -1 := by decide
  have l2 : (1 : Int32).toInt = 1 := by decide
  refine lv_iload_n hx hb dJ1_indexOfChar_4cfef_0 rfl (lv_at hl 1 rfl) ?_
  refine lv_i2b hx hb dJ1_indexOfChar_4cfef_1 rfl ?_
  refine lv_topi (fun x1 e2 => ?_)
  refine lv_istore (lv' := [(4, .int x1), (0, .ref v9), (1, .int p2), (2, .int p3), (3, .int p4)]) hx hb dJ1_indexOfChar_4cfef_2 hl (by decide) rfl (fun ls hl => ?_)
  refine lv_iload_n hx hb dJ1_indexOfChar_4cfef_4 rfl (lv_at hl 3 rfl) ?_
  refine lv_istore (lv' := [(5, .int p3), (4, .int x1), (0, .ref v9), (1, .int p2), (2, .int p3), (3, .int p4)]) hx hb dJ1_indexOfChar_4cfef_5 hl (by decide) rfl (fun ls hl => ?_)
  have lp7 : ∀ (n7 : Nat) (k3 : Int32), (0 ≤ k3.toInt) → (p4.toInt - k3.toInt).toNat < n7 → ∀ (H : Heap) (locs : List Loc), va_P D vwCl [] H → va_D A [] → va_S A s.heap H locs → ∀ ls : Array Slot, lv_has ls 6 [(5, .int k3), (4, .int x1), (0, .ref v9), (1, .int p2), (2, .int p3), (3, .int p4)] → W p l e ({ frames := 0, cells := 0, slots := 0, locals := 0 } : Room) s m args below meth c H locs 0 0 Q (F0 m 7 ls []) := by
    intro n7
    induction n7 with
    | zero =>
      intro k3 h4 m5
      exact absurd m5 (Nat.not_lt_zero _)
    | succ n7 ih7 =>
      intro k3 h4 m5 H locs hP hD hS ls hl
      refine lv_iload hx hb dJ1_indexOfChar_4cfef_7 (lv_at hl 0 rfl) ?_
      refine lv_iload_n hx hb dJ1_indexOfChar_4cfef_9 rfl (lv_at hl 5 rfl) ?_
      refine lv_icmp_ge (tgt := 31) hx hb dJ1_indexOfChar_4cfef_10 (by decide) (fun c6 => ?_) (fun c6 => ?_)
      · have c6 := ci_le c6
        refine lv_iconst (v := (-1)) hx hb dJ1_indexOfChar_4cfef_31 (by decide) ?_
        have hpo : -1 ≤ ((-1) : Int32).toInt ∧ ((-1) : Int32).toInt ≤ 7 := (by omega)
        exact ret _ _ _ _ (-1) () dJ1_indexOfChar_4cfef_32 hpo hP hD hS
      have c6 := ci_nle c6
      refine lv_aload_n hx hb dJ1_indexOfChar_4cfef_13 rfl (lv_at hl 2 rfl) ?_
      refine lv_iload hx hb dJ1_indexOfChar_4cfef_14 (lv_at hl 0 rfl) ?_
      refine va_tb hx hb (sx1.1 0 Nat.zero_lt_one).2.2.2 hS (i := k3) (ix (by show 0 ≤ _; omega) (by show _ < ((8 : Nat) : Int); omega)) rfl dJ1_indexOfChar_4cfef_16 ?_
      refine lv_topi (fun x7 e8 => ?_)
      refine lv_iload hx hb dJ1_indexOfChar_4cfef_17 (lv_at hl 1 rfl) ?_
      refine lv_icmp_ne (tgt := 25) hx hb dJ1_indexOfChar_4cfef_19 (by decide) (fun c9 => ?_) (fun c9 => ?_)
      · have c9 := ci_ne c9
        obtain ⟨x10, e11⟩ : ∃ y : Int32, y = k3 + 1 := ⟨_, rfl⟩
        refine lv_iinc (v := x10) (lv' := [(5, .int x10), (4, .int x1), (0, .ref v9), (1, .int p2), (2, .int p3), (3, .int p4)]) hx hb dJ1_indexOfChar_4cfef_25 hl (k := 0) rfl (by rw [e11]; rfl) (by decide) rfl (fun ls hl => ?_)
        try have h12 : x10.toInt = k3.toInt + (1 : Int32).toInt := ci_add e11 (by omega) (by omega)
        refine lv_goto (tgt := 7) hx hb dJ1_indexOfChar_4cfef_28 (by decide) ?_
        exact ih7 x10 (by omega) (by omega) _ _ hP hD hS _ hl
      have c9 := ci_eq c9
      refine lv_iload hx hb dJ1_indexOfChar_4cfef_22 (lv_at hl 0 rfl) ?_
      have hpo : -1 ≤ k3.toInt ∧ k3.toInt ≤ 7 := (by omega)
      exact ret _ _ _ _ k3 () dJ1_indexOfChar_4cfef_24 hpo hP hD hS
  exact lp7 ((p4.toInt - p3.toInt).toNat + 1) p3 (by omega) (by omega) _ _ hP hD hS _ hl
set_option maxHeartbeats 4000000 in
set_option maxRecDepth 100000 in
theorem k_J1_indexOf_4cfef (l : Launch) (D : va_G) (κ : Nat → ClassId) (β : Nat) (k9 : Nat) (v9 : Nat) (sz : Nat) (p2 : Int32) (p3 : Int32) (p4 : Int32) : Met l yJ1_indexOf_4cfef wsJ1_indexOf_4cfef ({ frames := 1, cells := 0, slots := 0, locals := 25 } : Room) (PcX D κ β k9 v9 sz [.ref v9, .int p2, .int p3, .int p4]) (QiK D (fun (r : Int32) (u : Unit) => -1 ≤ r.toInt ∧ r.toInt ≤ 7) (fun (u : Unit) => []) [] sz) 0 0 (va_A [] sz) := by
  refine ofX (fun _ _ _ => rfl) (cc := cJ1_indexOf_4cfef) (maxL := 4) (own := RJ1) (by decide) rfl rfl (Nat.le_of_ble_eq_true rfl) ?_
  intro p e s m args below meth c Q A ls hsz hx hb hml hts hown hK hA hAB sx hP hD hl ret
  have sx1 := vk_S.narrow sx hAB
  have hS : va_S A s.heap s.heap [] := va_S.rf
  have hl : lv_has ls 4 [(0, .ref v9), (1, .int p2), (2, .int p3), (3, .int p4)] := hl
  have w0 := hts (.methodLink RJ1 92 Lib.Math.max.name) (List.mem_of_getElem? (i := 1) rfl)
  have w1 := hts (.static Lib.Math.max.name) (List.mem_of_getElem? (i := 2) rfl)
  have w2 := hts (.initialized "java/lang/Math") (List.mem_of_getElem? (i := 3) rfl)
  have w3 := hts (.code Lib.Math.max.name Lib.Math.max.code 2 (some .int)) (List.mem_of_getElem? (i := 4) rfl)
  have w4 := hts (.methodLink RJ1 38 Lib.Math.min.name) (List.mem_of_getElem? (i := 5) rfl)
  have w5 := hts (.static Lib.Math.min.name) (List.mem_of_getElem? (i := 6) rfl)
  have w6 := hts (.code Lib.Math.min.name Lib.Math.min.code 2 (some .int)) (List.mem_of_getElem? (i := 7) rfl)
  have l0 : (0 : Int32).toInt = 0 := by decide
  have l1 : (8 : Int32).toInt = 8 := by decide
  have l2 : ((-1) : Int32).toInt = -1 := by decide
  refine lv_iload_n hx hb dJ1_indexOf_4cfef_0 rfl (lv_at hl 1 rfl) ?_
  refine kcm_i hA hAB hP hD hS [] rfl (fun _ => rfl) (fun hPc hDc => va_runS (As := [.int p2]) (rest := []) ⟨hx, hb, hml, hown, hts⟩ (k_J1_canEncode_9a6ad l D κ β s.heap.size p2) (va_cwS 1 hts gJ1_indexOf_4cfef_J1_canEncode_9a6ad rfl rfl rfl (by decide +kernel) ⟨Nat.le_of_ble_eq_true rfl, Nat.le_of_ble_eq_true rfl⟩) (pk_S hK hS hAB hPc hDc) rfl rfl hl.1 rfl (lv_room (Nat.le_of_ble_eq_true rfl)) dJ1_indexOf_4cfef_1 ⟨Nat.le_of_ble_eq_true rfl, Nat.le_of_ble_eq_true rfl⟩) (fun x1 u2 H locs hw hPD hS => ?_)
  have h3 : x1.toInt = 0 ∨ x1.toInt = 1 := hw
  obtain ⟨hP, hD⟩ : PD D A [] H := hPD
  refine lv_if_ne (tgt := 9) hx hb dJ1_indexOf_4cfef_4 (by decide) (fun c4 => ?_) (fun c4 => ?_)
  · have c4 := ci_ne c4
    refine lv_iload_n hx hb dJ1_indexOf_4cfef_9 rfl (lv_at hl 2 rfl) ?_
    refine lv_iconst (v := 0) hx hb dJ1_indexOf_4cfef_10 (by decide) ?_
    refine va_mmax hx hb (hml.trans hl.1.symm) hown w0 w1 w2 w3 (Nat.le_of_ble_eq_true rfl) (Nat.le_of_ble_eq_true rfl) (Nat.le_of_ble_eq_true rfl) (Nat.le_of_ble_eq_true rfl) dJ1_indexOf_4cfef_11 ?_
    refine lv_topi (fun x5 e6 => ?_)
    have h7 := ci_max e6
    refine lv_istore_n (lv' := [(2, .int x5), (0, .ref v9), (1, .int p2), (3, .int p4)]) hx hb dJ1_indexOf_4cfef_14 rfl hl (by decide) rfl (fun ls hl => ?_)
    refine lv_iload_n hx hb dJ1_indexOf_4cfef_15 rfl (lv_at hl 3 rfl) ?_
    refine lv_aload_n hx hb dJ1_indexOf_4cfef_16 rfl (lv_at hl 1 rfl) ?_
    refine va_tlen hx hb (sx1.1 0 Nat.zero_lt_one).2.2.2 hS (v := 8) rfl dJ1_indexOf_4cfef_17 ?_
    refine va_mmin hx hb (hml.trans hl.1.symm) hown w4 w5 w2 w6 (Nat.le_of_ble_eq_true rfl) (Nat.le_of_ble_eq_true rfl) (Nat.le_of_ble_eq_true rfl) (Nat.le_of_ble_eq_true rfl) dJ1_indexOf_4cfef_18 ?_
    refine lv_topi (fun x8 e9 => ?_)
    have h10 := ci_min e9
    refine lv_istore_n (lv' := [(3, .int x8), (2, .int x5), (0, .ref v9), (1, .int p2)]) hx hb dJ1_indexOf_4cfef_21 rfl hl (by decide) rfl (fun ls hl => ?_)
    refine lv_iload_n hx hb dJ1_indexOf_4cfef_22 rfl (lv_at hl 1 rfl) ?_
    refine lv_iload_n hx hb dJ1_indexOf_4cfef_23 rfl (lv_at hl 0 rfl) ?_
    refine lv_icmp_lt (tgt := 29) hx hb dJ1_indexOf_4cfef_24 (by decide) (fun c11 => ?_) (fun c11 => ?_)
    · have c11 := ci_lt c11
      refine lv_aload_n hx hb dJ1_indexOf_4cfef_29 rfl (lv_at hl 2 rfl) ?_
      refine lv_iload_n hx hb dJ1_indexOf_4cfef_30 rfl (lv_at hl 3 rfl) ?_
      refine lv_iload_n hx hb dJ1_indexOf_4cfef_31 rfl (lv_at hl 1 rfl) ?_
      refine lv_iload_n hx hb dJ1_indexOf_4cfef_32 rfl (lv_at hl 0 rfl) ?_
      refine kcm_i hA hAB hP hD hS [] rfl (fun _ => rfl) (fun hPc hDc => va_runS (As := [.ref v9, .int p2, .int x5, .int x8]) (rest := []) ⟨hx, hb, hml, hown, hts⟩ (k_J1_indexOfChar_4cfef l D κ β k9 v9 H.size p2 x5 x8 (by omega) (by omega)) (va_cwS 4 hts gJ1_indexOf_4cfef_J1_indexOfChar_4cfef rfl rfl rfl (by decide +kernel) ⟨Nat.le_of_ble_eq_true rfl, Nat.le_of_ble_eq_true rfl⟩) (pk_XS hK hS hAB sx) rfl rfl hl.1 rfl (lv_room (Nat.le_of_ble_eq_true rfl)) dJ1_indexOf_4cfef_33 ⟨Nat.le_of_ble_eq_true rfl, Nat.le_of_ble_eq_true rfl⟩) (fun x12 u13 H locs hw hPD hS => ?_)
      have h14 : -1 ≤ x12.toInt ∧ x12.toInt ≤ 7 := hw
      obtain ⟨hP, hD⟩ : PD D A [] H := hPD
      have hpo : -1 ≤ x12.toInt ∧ x12.toInt ≤ 7 := (by omega)
      exact ret _ _ _ _ x12 () dJ1_indexOf_4cfef_36 hpo hP hD hS
    have c11 := ci_nlt c11
    refine lv_iconst (v := (-1)) hx hb dJ1_indexOf_4cfef_27 (by decide) ?_
    have hpo : -1 ≤ ((-1) : Int32).toInt ∧ ((-1) : Int32).toInt ≤ 7 := (by omega)
    exact ret _ _ _ _ (-1) () dJ1_indexOf_4cfef_28 hpo hP hD hS
  have c4 := ci_eq c4
  refine lv_iconst (v := (-1)) hx hb dJ1_indexOf_4cfef_7 (by decide) ?_
  have hpo : -1 ≤ ((-1) : Int32).toInt ∧ ((-1) : Int32).toInt ≤ 7 := (by omega)
  exact ret _ _ _ _ (-1) () dJ1_indexOf_4cfef_8 hpo hP hD hS
set_option maxHeartbeats 4000000 in
set_option maxRecDepth 100000 in
theorem k_J0_isLatin1_aae02 (l : Launch) (D : va_G) (κ : Nat → ClassId) (β : Nat) (k9 : Nat) (v9 : Nat) (sz : Nat) : Met l yJ0_isLatin1_aae02 wsJ0_isLatin1_aae02 ({ frames := 0, cells := 0, slots := 0, locals := 0 } : Room) (PcX D κ β k9 v9 sz [.ref k9]) (QiK D (fun (r : Int32) (u : Unit) => r.toInt = 1) (fun (u : Unit) => []) [] sz) 0 0 (va_A [] sz) := by
  refine ofX (fun r u h => nar_bit (Or.inr h)) (cc := cJ0_isLatin1_aae02) (maxL := 1) (own := RJ0) (by decide) rfl rfl (Nat.le_of_ble_eq_true rfl) ?_
  intro p e s m args below meth c Q A ls hsz hx hb hml hts hown hK hA hAB sx hP hD hl ret
  have sx1 := vk_S.narrow sx hAB
  have hS : va_S A s.heap s.heap [] := va_S.rf
  have hl : lv_has ls 1 [(0, .ref k9)] := hl
  have w0 := hts (.fieldLink RJ0 38 "java/lang/String" "COMPACT_STRINGS" "Z") (List.mem_of_getElem? (i := 1) rfl)
  have w1 := hts (.fieldLink RJ0 15 "java/lang/String" "coder" "B") (List.mem_of_getElem? (i := 2) rfl)
  have l0 : (1 : Int32).toInt = 1 := by decide
  have l1 : (0 : Int32).toInt = 0 := by decide
  refine va_gets (v := .int 1) hx hb ((hK.2.2.2.2.2.2).narrow hAB) hS hown w0 (fun _ h9 => h9) dJ0_isLatin1_aae02_0 ?_
  refine lv_if_eq (tgt := 17) hx hb dJ0_isLatin1_aae02_3 (by decide) (fun c1 => ?_) (fun c1 => ?_)
  · have c1 := ci_eq c1
    exfalso
    omega
  have c1 := ci_ne c1
  refine lv_aload_n hx hb dJ0_isLatin1_aae02_6 rfl (lv_at hl 0 rfl) ?_
  refine vk_getf (v := .int 0) hx hb (sx1.1 0 Nat.zero_lt_one).2.1 hS hown w1 (fun _ h9 => h9) dJ0_isLatin1_aae02_7 ?_
  refine lv_if_ne (tgt := 17) hx hb dJ0_isLatin1_aae02_10 (by decide) (fun c2 => ?_) (fun c2 => ?_)
  · have c2 := ci_ne c2
    exfalso
    omega
  have c2 := ci_eq c2
  refine lv_iconst (v := 1) hx hb dJ0_isLatin1_aae02_13 (by decide) ?_
  refine lv_goto (tgt := 18) hx hb dJ0_isLatin1_aae02_14 (by decide) ?_
  have hpo : (1 : Int32).toInt = 1 := (by omega)
  exact ret _ _ _ _ 1 () dJ0_isLatin1_aae02_18 hpo hP hD hS
set_option maxHeartbeats 4000000 in
set_option maxRecDepth 100000 in
theorem k_J0_coder_7d493 (l : Launch) (D : va_G) (κ : Nat → ClassId) (β : Nat) (k9 : Nat) (v9 : Nat) (sz : Nat) : Met l yJ0_coder_7d493 wsJ0_coder_7d493 ({ frames := 0, cells := 0, slots := 0, locals := 0 } : Room) (PcX D κ β k9 v9 sz [.ref k9]) (QiK D (fun (r : Int32) (u : Unit) => r.toInt = 0) (fun (u : Unit) => []) [] sz) 0 0 (va_A [] sz) := by
  refine ofX (fun r u h => nar_b0 h) (cc := cJ0_coder_7d493) (maxL := 1) (own := RJ0) (by decide) rfl rfl (Nat.le_of_ble_eq_true rfl) ?_
  intro p e s m args below meth c Q A ls hsz hx hb hml hts hown hK hA hAB sx hP hD hl ret
  have sx1 := vk_S.narrow sx hAB
  have hS : va_S A s.heap s.heap [] := va_S.rf
  have hl : lv_has ls 1 [(0, .ref k9)] := hl
  have w0 := hts (.fieldLink RJ0 38 "java/lang/String" "COMPACT_STRINGS" "Z") (List.mem_of_getElem? (i := 1) rfl)
  have w1 := hts (.fieldLink RJ0 15 "java/lang/String" "coder" "B") (List.mem_of_getElem? (i := 2) rfl)
  have l0 : (1 : Int32).toInt = 1 := by decide
  have l1 : (0 : Int32).toInt = 0 := by decide
  refine va_gets (v := .int 1) hx hb ((hK.2.2.2.2.2.2).narrow hAB) hS hown w0 (fun _ h9 => h9) dJ0_coder_7d493_0 ?_
  refine lv_if_eq (tgt := 13) hx hb dJ0_coder_7d493_3 (by decide) (fun c1 => ?_) (fun c1 => ?_)
  · have c1 := ci_eq c1
    exfalso
    omega
  have c1 := ci_ne c1
  refine lv_aload_n hx hb dJ0_coder_7d493_6 rfl (lv_at hl 0 rfl) ?_
  refine vk_getf (v := .int 0) hx hb (sx1.1 0 Nat.zero_lt_one).2.1 hS hown w1 (fun _ h9 => h9) dJ0_coder_7d493_7 ?_
  refine lv_goto (tgt := 14) hx hb dJ0_coder_7d493_10 (by decide) ?_
  have hpo : (0 : Int32).toInt = 0 := (by omega)
  exact ret _ _ _ _ 0 () dJ0_coder_7d493_14 hpo hP hD hS
set_option maxHeartbeats 4000000 in
set_option maxRecDepth 100000 in
theorem k_J0_length_8abf5 (l : Launch) (D : va_G) (κ : Nat → ClassId) (β : Nat) (k9 : Nat) (v9 : Nat) (sz : Nat) : Met l yJ0_length_8abf5 wsJ0_length_8abf5 ({ frames := 1, cells := 0, slots := 0, locals := 20 } : Room) (PcX D κ β k9 v9 sz [.ref k9]) (QiK D (fun (r : Int32) (u : Unit) => r.toInt = 8) (fun (u : Unit) => []) [] sz) 0 0 (va_A [] sz) := by
  refine ofX (fun _ _ _ => rfl) (cc := cJ0_length_8abf5) (maxL := 1) (own := RJ0) (by decide) rfl rfl (Nat.le_of_ble_eq_true rfl) ?_
  intro p e s m args below meth c Q A ls hsz hx hb hml hts hown hK hA hAB sx hP hD hl ret
  have sx1 := vk_S.narrow sx hAB
  have hS : va_S A s.heap s.heap [] := va_S.rf
  have hl : lv_has ls 1 [(0, .ref k9)] := hl
  have w0 := hts (.fieldLink RJ0 9 "java/lang/String" "value" "[B") (List.mem_of_getElem? (i := 1) rfl)
  have l0 : (8 : Int32).toInt = 8 := by decide
  refine lv_aload_n hx hb dJ0_length_8abf5_0 rfl (lv_at hl 0 rfl) ?_
  refine vk_getf (v := .ref v9) hx hb (sx1.1 0 Nat.zero_lt_one).2.2.1 hS hown w0 (fun _ h9 => h9) dJ0_length_8abf5_1 ?_
  refine va_tlen hx hb (sx1.1 0 Nat.zero_lt_one).2.2.2 hS (v := 8) rfl dJ0_length_8abf5_4 ?_
  refine lv_aload_n hx hb dJ0_length_8abf5_5 rfl (lv_at hl 0 rfl) ?_
  refine kcm_i hA hAB hP hD hS [] rfl (fun _ => rfl) (fun hPc hDc => va_runV (As := []) (rest := [.int 8]) ⟨hx, hb, hml, hown, hts⟩ (k_J0_coder_7d493 l D κ β k9 v9 s.heap.size) (cwV 0 hts gJ0_length_8abf5_J0_coder_7d493 rfl rfl rfl (by decide +kernel) ⟨Nat.le_of_ble_eq_true rfl, Nat.le_of_ble_eq_true rfl⟩) (pk_XV hK hS hAB sx) rfl rfl hl.1 rfl (lv_room (Nat.le_of_ble_eq_true rfl)) dJ0_length_8abf5_6 ⟨Nat.le_of_ble_eq_true rfl, Nat.le_of_ble_eq_true rfl⟩) (fun x1 u2 H locs hw hPD hS => ?_)
  have h3 : x1.toInt = 0 := hw
  obtain ⟨hP, hD⟩ : PD D A [] H := hPD
  refine lv_ishr hx hb dJ0_length_8abf5_9 ?_
  refine lv_topi (fun x4 e5 => ?_)
  have hy9 : x4.toInt = 8 := by rw [e5]; exact sh_eight (by omega)
  have hpo : x4.toInt = 8 := (by omega)
  exact ret _ _ _ _ x4 () dJ0_length_8abf5_10 hpo hP hD hS
set_option maxHeartbeats 4000000 in
set_option maxRecDepth 100000 in
theorem k_J0_indexOf_7cf53 (l : Launch) (D : va_G) (κ : Nat → ClassId) (β : Nat) (k9 : Nat) (v9 : Nat) (sz : Nat) (p1 : Int32) (p2 : Int32) : Met l yJ0_indexOf_7cf53 wsJ0_indexOf_7cf53 ({ frames := 2, cells := 0, slots := 0, locals := 48 } : Room) (PcX D κ β k9 v9 sz [.ref k9, .int p1, .int p2]) (QiK D (fun (r : Int32) (u : Unit) => -1 ≤ r.toInt ∧ r.toInt ≤ 7) (fun (u : Unit) => []) [] sz) 0 0 (va_A [] sz) := by
  refine ofX (fun _ _ _ => rfl) (cc := cJ0_indexOf_7cf53) (maxL := 3) (own := RJ0) (by decide) rfl rfl (Nat.le_of_ble_eq_true rfl) ?_
  intro p e s m args below meth c Q A ls hsz hx hb hml hts hown hK hA hAB sx hP hD hl ret
  have sx1 := vk_S.narrow sx hAB
  have hS : va_S A s.heap s.heap [] := va_S.rf
  have hl : lv_has ls 3 [(0, .ref k9), (1, .int p1), (2, .int p2)] := hl
  have w0 := hts (.fieldLink RJ0 9 "java/lang/String" "value" "[B") (List.mem_of_getElem? (i := 1) rfl)
  have l0 : (0 : Int32).toInt = 0 := by decide
  refine lv_aload_n hx hb dJ0_indexOf_7cf53_0 rfl (lv_at hl 0 rfl) ?_
  refine kcm_i hA hAB hP hD hS [] rfl (fun _ => rfl) (fun hPc hDc => va_runV (As := []) (rest := []) ⟨hx, hb, hml, hown, hts⟩ (k_J0_isLatin1_aae02 l D κ β k9 v9 s.heap.size) (cwV 0 hts gJ0_indexOf_7cf53_J0_isLatin1_aae02 rfl rfl rfl (by decide +kernel) ⟨Nat.le_of_ble_eq_true rfl, Nat.le_of_ble_eq_true rfl⟩) (pk_XV hK hS hAB sx) rfl rfl hl.1 rfl (lv_room (Nat.le_of_ble_eq_true rfl)) dJ0_indexOf_7cf53_1 ⟨Nat.le_of_ble_eq_true rfl, Nat.le_of_ble_eq_true rfl⟩) (fun x1 u2 H locs hw hPD hS => ?_)
  have h3 : x1.toInt = 1 := hw
  obtain ⟨hP, hD⟩ : PD D A [] H := hPD
  refine lv_if_eq (tgt := 23) hx hb dJ0_indexOf_7cf53_4 (by decide) (fun c4 => ?_) (fun c4 => ?_)
  · have c4 := ci_eq c4
    exfalso
    omega
  have c4 := ci_ne c4
  refine lv_aload_n hx hb dJ0_indexOf_7cf53_7 rfl (lv_at hl 0 rfl) ?_
  refine vk_getf (v := .ref v9) hx hb (sx1.1 0 Nat.zero_lt_one).2.2.1 hS hown w0 (fun _ h9 => h9) dJ0_indexOf_7cf53_8 ?_
  refine lv_iload_n hx hb dJ0_indexOf_7cf53_11 rfl (lv_at hl 1 rfl) ?_
  refine lv_iload_n hx hb dJ0_indexOf_7cf53_12 rfl (lv_at hl 2 rfl) ?_
  refine lv_aload_n hx hb dJ0_indexOf_7cf53_13 rfl (lv_at hl 0 rfl) ?_
  refine kcm_i hA hAB hP hD hS [] rfl (fun _ => rfl) (fun hPc hDc => va_runV (As := []) (rest := [.int p2, .int p1, .ref v9]) ⟨hx, hb, hml, hown, hts⟩ (k_J0_length_8abf5 l D κ β k9 v9 H.size) (cwV 0 hts gJ0_indexOf_7cf53_J0_length_8abf5 rfl rfl rfl (by decide +kernel) ⟨Nat.le_of_ble_eq_true rfl, Nat.le_of_ble_eq_true rfl⟩) (pk_XV hK hS hAB sx) rfl rfl hl.1 rfl (lv_room (Nat.le_of_ble_eq_true rfl)) dJ0_indexOf_7cf53_14 ⟨Nat.le_of_ble_eq_true rfl, Nat.le_of_ble_eq_true rfl⟩) (fun x5 u6 H locs hw hPD hS => ?_)
  have h7 : x5.toInt = 8 := hw
  obtain ⟨hP, hD⟩ : PD D A [] H := hPD
  refine kcm_i hA hAB hP hD hS [] rfl (fun _ => rfl) (fun hPc hDc => va_runS (As := [.ref v9, .int p1, .int p2, .int x5]) (rest := []) ⟨hx, hb, hml, hown, hts⟩ (k_J1_indexOf_4cfef l D κ β k9 v9 H.size p1 p2 x5) (va_cwS 4 hts gJ0_indexOf_7cf53_J1_indexOf_4cfef rfl rfl rfl (by decide +kernel) ⟨Nat.le_of_ble_eq_true rfl, Nat.le_of_ble_eq_true rfl⟩) (pk_XS hK hS hAB sx) rfl rfl hl.1 rfl (lv_room (Nat.le_of_ble_eq_true rfl)) dJ0_indexOf_7cf53_17 ⟨Nat.le_of_ble_eq_true rfl, Nat.le_of_ble_eq_true rfl⟩) (fun x8 u9 H locs hw hPD hS => ?_)
  have h10 : -1 ≤ x8.toInt ∧ x8.toInt ≤ 7 := hw
  obtain ⟨hP, hD⟩ : PD D A [] H := hPD
  refine lv_goto (tgt := 36) hx hb dJ0_indexOf_7cf53_20 (by decide) ?_
  have hpo : -1 ≤ x8.toInt ∧ x8.toInt ≤ 7 := (by omega)
  exact ret _ _ _ _ x8 () dJ0_indexOf_7cf53_36 hpo hP hD hS
set_option maxHeartbeats 4000000 in
set_option maxRecDepth 100000 in
theorem k_J0_indexOf_0f7a4 (l : Launch) (D : va_G) (κ : Nat → ClassId) (β : Nat) (k9 : Nat) (v9 : Nat) (sz : Nat) (p1 : Int32) : Met l yJ0_indexOf_0f7a4 wsJ0_indexOf_0f7a4 ({ frames := 3, cells := 0, slots := 0, locals := 70 } : Room) (PcX D κ β k9 v9 sz [.ref k9, .int p1]) (QiK D (fun (r : Int32) (u : Unit) => -1 ≤ r.toInt ∧ r.toInt ≤ 7) (fun (u : Unit) => []) [] sz) 0 0 (va_A [] sz) := by
  refine ofX (fun _ _ _ => rfl) (cc := cJ0_indexOf_0f7a4) (maxL := 2) (own := RJ0) (by decide) rfl rfl (Nat.le_of_ble_eq_true rfl) ?_
  intro p e s m args below meth c Q A ls hsz hx hb hml hts hown hK hA hAB sx hP hD hl ret
  have sx1 := vk_S.narrow sx hAB
  have hS : va_S A s.heap s.heap [] := va_S.rf
  have hl : lv_has ls 2 [(0, .ref k9), (1, .int p1)] := hl
  have l0 : (0 : Int32).toInt = 0 := by decide
  refine lv_aload_n hx hb dJ0_indexOf_0f7a4_0 rfl (lv_at hl 0 rfl) ?_
  refine lv_iload_n hx hb dJ0_indexOf_0f7a4_1 rfl (lv_at hl 1 rfl) ?_
  refine lv_iconst (v := 0) hx hb dJ0_indexOf_0f7a4_2 (by decide) ?_
  refine kcm_i hA hAB hP hD hS [] rfl (fun _ => rfl) (fun hPc hDc => va_runV (As := [.int p1, .int 0]) (rest := []) ⟨hx, hb, hml, hown, hts⟩ (k_J0_indexOf_7cf53 l D κ β k9 v9 s.heap.size p1 0) (cwV 2 hts gJ0_indexOf_0f7a4_J0_indexOf_7cf53 rfl rfl rfl (by decide +kernel) ⟨Nat.le_of_ble_eq_true rfl, Nat.le_of_ble_eq_true rfl⟩) (pk_XV hK hS hAB sx) rfl rfl hl.1 rfl (lv_room (Nat.le_of_ble_eq_true rfl)) dJ0_indexOf_0f7a4_3 ⟨Nat.le_of_ble_eq_true rfl, Nat.le_of_ble_eq_true rfl⟩) (fun x1 u2 H locs hw hPD hS => ?_)
  have h3 : -1 ≤ x1.toInt ∧ x1.toInt ≤ 7 := hw
  obtain ⟨hP, hD⟩ : PD D A [] H := hPD
  have hpo : -1 ≤ x1.toInt ∧ x1.toInt ≤ 7 := (by omega)
  exact ret _ _ _ _ x1 () dJ0_indexOf_0f7a4_6 hpo hP hD hS
