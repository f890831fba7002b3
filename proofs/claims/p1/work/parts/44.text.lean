set_option maxHeartbeats 4000000 in
set_option maxRecDepth 100000 in
theorem k_J1_canEncode_9a6ad (l : Launch) (D : va_G) (κ : Nat → ClassId) (β : Nat) (sz : Nat) (p1 : Int32) (i1 : (1 : Int) ≤ 0) : Met l yJ1_canEncode_9a6ad wsJ1_canEncode_9a6ad ({ frames := 1, cells := 0, slots := 0, locals := 30 } : Room) (PcK D κ β [] sz [.int p1]) (QiK D (fun (r : Int32) (u : Unit) => r.toInt = 0 ∨ r.toInt = 1) (fun (u : Unit) => []) [] sz) 0 0 (va_A [] sz) := by
  refine ofK_z (cc := cJ1_canEncode_9a6ad) (maxL := 1) (own := RJ1) (by decide) rfl rfl (Nat.le_of_ble_eq_true rfl) ?_
  intro p e s m args below meth c Q A ls hsz hx hb hml hts hown hK hA hAB hP hD hl ret
  have hS : va_S A s.heap s.heap [] := va_S.rf
  have hl : lv_has ls 1 [(0, .int p1)] := hl
  exfalso
  omega
set_option maxHeartbeats 4000000 in
set_option maxRecDepth 100000 in
theorem k_J1_indexOfChar_4cfef (l : Launch) (D : va_G) (κ : Nat → ClassId) (β : Nat) (k9 : Nat) (v9 : Nat) (sz : Nat) (p2 : Int32) (p3 : Int32) (p4 : Int32) (i1 : (1 : Int) ≤ 0) : Met l yJ1_indexOfChar_4cfef wsJ1_indexOfChar_4cfef ({ frames := 1, cells := 0, slots := 0, locals := 30 } : Room) (PcX D κ β k9 v9 sz [.ref v9, .int p2, .int p3, .int p4]) (QiK D (fun (r : Int32) (u : Unit) => True) (fun (u : Unit) => []) [] sz) 0 0 (va_A [] sz) := by
  refine ofX (fun _ _ _ => rfl) (cc := cJ1_indexOfChar_4cfef) (maxL := 6) (own := RJ1) (by decide) rfl rfl (Nat.le_of_ble_eq_true rfl) ?_
  intro p e s m args below meth c Q A ls hsz hx hb hml hts hown hK hA hAB sx hP hD hl ret
  have sx1 := vk_S.narrow sx hAB
  have hS : va_S A s.heap s.heap [] := va_S.rf
  have hl : lv_has ls 6 [(0, .ref v9), (1, .int p2), (2, .int p3), (3, .int p4)] := hl
  exfalso
  omega
set_option maxHeartbeats 4000000 in
set_option maxRecDepth 100000 in
theorem k_J1_indexOf_4cfef (l : Launch) (D : va_G) (κ : Nat → ClassId) (β : Nat) (k9 : Nat) (v9 : Nat) (sz : Nat) (p2 : Int32) (p3 : Int32) (p4 : Int32) (i1 : (1 : Int) ≤ 0) : Met l yJ1_indexOf_4cfef wsJ1_indexOf_4cfef ({ frames := 1, cells := 0, slots := 0, locals := 30 } : Room) (PcX D κ β k9 v9 sz [.ref v9, .int p2, .int p3, .int p4]) (QiK D (fun (r : Int32) (u : Unit) => True) (fun (u : Unit) => []) [] sz) 0 0 (va_A [] sz) := by
  refine ofX (fun _ _ _ => rfl) (cc := cJ1_indexOf_4cfef) (maxL := 4) (own := RJ1) (by decide) rfl rfl (Nat.le_of_ble_eq_true rfl) ?_
  intro p e s m args below meth c Q A ls hsz hx hb hml hts hown hK hA hAB sx hP hD hl ret
  have sx1 := vk_S.narrow sx hAB
  have hS : va_S A s.heap s.heap [] := va_S.rf
  have hl : lv_has ls 4 [(0, .ref v9), (1, .int p2), (2, .int p3), (3, .int p4)] := hl
  exfalso
  omega
set_option maxHeartbeats 4000000 in
set_option maxRecDepth 100000 in
theorem k_J0_isLatin1_aae02 (l : Launch) (D : va_G) (κ : Nat → ClassId) (β : Nat) (k9 : Nat) (v9 : Nat) (sz : Nat) (i1 : (1 : Int) ≤ 0) : Met l yJ0_isLatin1_aae02 wsJ0_isLatin1_aae02 ({ frames := 1, cells := 0, slots := 0, locals := 30 } : Room) (PcX D κ β k9 v9 sz [.ref k9]) (QiK D (fun (r : Int32) (u : Unit) => r.toInt = 0 ∨ r.toInt = 1) (fun (u : Unit) => []) [] sz) 0 0 (va_A [] sz) := by
  refine ofX (fun r u h => nar_bit h) (cc := cJ0_isLatin1_aae02) (maxL := 1) (own := RJ0) (by decide) rfl rfl (Nat.le_of_ble_eq_true rfl) ?_
  intro p e s m args below meth c Q A ls hsz hx hb hml hts hown hK hA hAB sx hP hD hl ret
  have sx1 := vk_S.narrow sx hAB
  have hS : va_S A s.heap s.heap [] := va_S.rf
  have hl : lv_has ls 1 [(0, .ref k9)] := hl
  exfalso
  omega
set_option maxHeartbeats 4000000 in
set_option maxRecDepth 100000 in
theorem k_J0_coder_7d493 (l : Launch) (D : va_G) (κ : Nat → ClassId) (β : Nat) (k9 : Nat) (v9 : Nat) (sz : Nat) : Met l yJ0_coder_7d493 wsJ0_coder_7d493 ({ frames := 0, cells := 0, slots := 0, locals := 0 } : Room) (PcX D κ β k9 v9 sz [.ref k9]) (QiK D (fun (r : Int32) (u : Unit) => r.toInt = 0) (fun (u : Unit) => []) [] sz) 0 0 (va_A [] sz) := by
  refine ofX (fun r u h => nar_b0 h) (cc := cJ0_coder_7d493) (maxL := 1) (own := RJ0) (by decide) rfl rfl (Nat.le_of_ble_eq_true rfl) ?_
  intro p e s m args below meth c Q A ls hsz hx hb hml hts hown hK hA hAB sx hP hD hl ret
  have sx1 := vk_S.narrow sx hAB
  have hS : va_S A s.heap s.heap [] := va_S.rf
  have hl : lv_has ls 1 [(0, .ref k9)] := hl
  have w0 := hts (.fieldLink RJ0 38 "java/lang/String" "COMPACT_STRINGS" "Z") (List.mem_of_getElem? (i := 1) rfl)
  have w1 := hts (.fieldLink RJ0 15 "java/lang/String" "coder" "B") (List.mem_of_getElem? (i := 2) rfl)
  have l0 : (1 : Int32).toInt = 1 := by decide
  have l1 : (0 : Int32).toInt = 0 := by decide
  refine va_gets (v := .int 1) hx hb ((hK.2.2.2.2.2.2).narrow hAB) hS hown w0 (fun _ h9 => h9) dJ0_coder_7d493_0 ?_
  refine lv_if_eq (tgt := 13) hx hb dJ0_coder_7d493_3 (by decide) (fun c1 => ?_) (fun c1 => ?_)
  · have c1 := ci_eq c1
    refine lv_iconst (v := 1) hx hb dJ0_coder_7d493_13 (by decide) ?_
    have hpo : (1 : Int32).toInt = 0 := (by omega)
    exact ret _ _ _ _ 1 () dJ0_coder_7d493_14 hpo hP hD hS
  have c1 := ci_ne c1
  refine lv_aload_n hx hb dJ0_coder_7d493_6 rfl (lv_at hl 0 rfl) ?_
  refine vk_getf (v := .int 0) hx hb (sx1.1 0 Nat.zero_lt_one).2.1 hS hown w1 (fun _ h9 => h9) dJ0_coder_7d493_7 ?_
  refine lv_goto (tgt := 14) hx hb dJ0_coder_7d493_10 (by decide) ?_
  have hpo : (0 : Int32).toInt = 0 := (by omega)
  exact ret _ _ _ _ 0 () dJ0_coder_7d493_14 hpo hP hD hS
set_option maxHeartbeats 4000000 in
set_option maxRecDepth 100000 in
theorem k_J0_length_8abf5 (l : Launch) (D : va_G) (κ : Nat → ClassId) (β : Nat) (k9 : Nat) (v9 : Nat) (sz : Nat) : Met l yJ0_length_8abf5 wsJ0_length_8abf5 ({ frames := 1, cells := 0, slots := 0, locals := 20 } : Room) (PcX D κ β k9 v9 sz [.ref k9]) (QiK D (fun (r : Int32) (u : Unit) => r.toInt = 8) (fun (u : Unit) => []) [] sz) 0 0 (va_A [] sz) := by
  refine ofX (fun _ _ _ => rfl) (cc := cJ0_length_8abf5) (maxL := 1) (own := RJ0) (by decide) rfl rfl (Nat.le_of_ble_eq_true rfl) ?_
  intro p e s m args below meth c Q A ls hsz hx hb hml hts hown hK hA hAB sx hP hD hl ret
  have sx1 := vk_S.narrow sx hAB
  have hS : va_S A s.heap s.heap [] := va_S.rf
  have hl : lv_has ls 1 [(0, .ref k9)] := hl
  have w0 := hts (.fieldLink RJ0 9 "java/lang/String" "value" "[B") (List.mem_of_getElem? (i := 1) rfl)
  have l0 : (8 : Int32).toInt = 8 := by decide
  refine lv_aload_n hx hb dJ0_length_8abf5_0 rfl (lv_at hl 0 rfl) ?_
  refine vk_getf (v := .ref v9) hx hb (sx1.1 0 Nat.zero_lt_one).2.2.1 hS hown w0 (fun _ h9 => h9) dJ0_length_8abf5_1 ?_
  refine va_tlen hx hb (sx1.1 0 Nat.zero_lt_one).2.2.2 hS (v := 8) rfl dJ0_length_8abf5_4 ?_
  refine lv_aload_n hx hb dJ0_length_8abf5_5 rfl (lv_at hl 0 rfl) ?_
  refine kcm_i hA hAB hP hD hS [] rfl (fun _ => rfl) (fun hPc hDc => va_runV (As := []) (rest := [.int 8]) ⟨hx, hb, hml, hown, hts⟩ (k_J0_coder_7d493 l D κ β k9 v9 s.heap.size) (cwV 0 hts gJ0_length_8abf5_J0_coder_7d493 rfl rfl rfl (by decide +kernel) ⟨Nat.le_of_ble_eq_true rfl, Nat.le_of_ble_eq_true rfl⟩) (pk_XV hK hS hAB sx) rfl rfl hl.1 rfl (lv_room (Nat.le_of_ble_eq_true rfl)) dJ0_length_8abf5_6 ⟨Nat.le_of_ble_eq_true rfl, Nat.le_of_ble_eq_true rfl⟩) (fun x1 u2 H locs hw hPD hS => ?_)
  have h3 : x1.toInt = 0 := hw
  obtain ⟨hP, hD⟩ : PD D A [] H := hPD
  refine lv_ishr hx hb dJ0_length_8abf5_9 ?_
  refine lv_topi (fun x4 e5 => ?_)
  have hy9 : x4.toInt = 8 := by rw [e5]; exact sh_eight (by omega)
  have hpo : x4.toInt = 8 := (by omega)
  exact ret _ _ _ _ x4 () dJ0_length_8abf5_10 hpo hP hD hS
set_option maxHeartbeats 4000000 in
set_option maxRecDepth 100000 in
theorem k_J0_indexOf_7cf53 (l : Launch) (D : va_G) (κ : Nat → ClassId) (β : Nat) (k9 : Nat) (v9 : Nat) (sz : Nat) (p1 : Int32) (p2 : Int32) (i1 : (1 : Int) ≤ 0) : Met l yJ0_indexOf_7cf53 wsJ0_indexOf_7cf53 ({ frames := 1, cells := 0, slots := 0, locals := 30 } : Room) (PcX D κ β k9 v9 sz [.ref k9, .int p1, .int p2]) (QiK D (fun (r : Int32) (u : Unit) => True) (fun (u : Unit) => []) [] sz) 0 0 (va_A [] sz) := by
  refine ofX (fun _ _ _ => rfl) (cc := cJ0_indexOf_7cf53) (maxL := 3) (own := RJ0) (by decide) rfl rfl (Nat.le_of_ble_eq_true rfl) ?_
  intro p e s m args below meth c Q A ls hsz hx hb hml hts hown hK hA hAB sx hP hD hl ret
  have sx1 := vk_S.narrow sx hAB
  have hS : va_S A s.heap s.heap [] := va_S.rf
  have hl : lv_has ls 3 [(0, .ref k9), (1, .int p1), (2, .int p2)] := hl
  exfalso
  omega
set_option maxHeartbeats 4000000 in
set_option maxRecDepth 100000 in
theorem k_J0_indexOf_0f7a4 (l : Launch) (D : va_G) (κ : Nat → ClassId) (β : Nat) (k9 : Nat) (v9 : Nat) (sz : Nat) (p1 : Int32) (i1 : (1 : Int) ≤ 0) : Met l yJ0_indexOf_0f7a4 wsJ0_indexOf_0f7a4 ({ frames := 1, cells := 0, slots := 0, locals := 30 } : Room) (PcX D κ β k9 v9 sz [.ref k9, .int p1]) (QiK D (fun (r : Int32) (u : Unit) => True) (fun (u : Unit) => []) [] sz) 0 0 (va_A [] sz) := by
  refine ofX (fun _ _ _ => rfl) (cc := cJ0_indexOf_0f7a4) (maxL := 2) (own := RJ0) (by decide) rfl rfl (Nat.le_of_ble_eq_true rfl) ?_
  intro p e s m args below meth c Q A ls hsz hx hb hml hts hown hK hA hAB sx hP hD hl ret
  have sx1 := vk_S.narrow sx hAB
  have hS : va_S A s.heap s.heap [] := va_S.rf
  have hl : lv_has ls 2 [(0, .ref k9), (1, .int p1)] := hl
  exfalso
  omega
