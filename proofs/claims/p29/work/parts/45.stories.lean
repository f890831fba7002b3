set_option maxHeartbeats 4000000 in
set_option maxRecDepth 100000 in
theorem k_X9_isStory (l : Launch) (D : va_G) (κ : Nat → ClassId) (β : Nat) (a9 : Nat) (r9 : Nat → Nat) (v9_count : Int32) (sz : Nat) (p1 : Int32) (i1 : Rg 0 6 v9_count) : Met l yX9_isStory wsX9_isStory ({ frames := 1, cells := 0, slots := 0, locals := 22 } : Room) (PcK D κ β [O9 a9 r9 v9_count] sz [.ref a9, .int p1]) (QiK D (fun (r : Int32) (u : Unit) => (r.toInt = 1 ∧ 0 ≤ p1.toInt ∧ p1.toInt < v9_count.toInt) ∨ (r.toInt = 0 ∧ (p1.toInt < 0 ∨ v9_count.toInt ≤ p1.toInt))) (fun (u : Unit) => [O9 a9 r9 v9_count]) [O9 a9 r9 v9_count] sz) 0 0 (va_A [O9 a9 r9 v9_count] sz) := by
  refine ofK_z (cc := cX9_isStory) (maxL := 2) (own := RX9) (by decide) rfl rfl (Nat.le_of_ble_eq_true rfl) ?_
  intro p e s m args below meth c Q A ls hsz hx hb hml hts hown hK hA hAB hP hD hl ret
  have hS : va_S A s.heap s.heap [] := va_S.rf
  have hl : lv_has ls 2 [(0, .ref a9), (1, .int p1)] := hl
  have w0 := hts (.fieldLink RX9 32 "OlderSkin$Stories" "count" "I") (List.mem_of_getElem? (i := 1) rfl)
  have w1 := (fun w h => List.mem_cons_of_mem _ (List.mem_append_right _ h) : ∀ w ∈ u_ws RX9 TX9 7, w ∈ wsX9_isStory)
  have w2 := hts (.initialized RX11) (List.mem_of_getElem? (i := 3) rfl)
  have w3 := hts (.static yX11_within) (List.mem_of_getElem? (i := 2) rfl)
  have w4 := hK.2.1 ("OlderSkin$Stories", 36, ⟨"OlderSkin", "within", "(III)Z"⟩, "OlderSkin") (by decide +kernel)
  have l0 : (0 : Int32).toInt = 0 := by decide
  have l1 : (1 : Int32).toInt = 1 := by decide
  have i1 : 0 ≤ v9_count.toInt ∧ v9_count.toInt ≤ 6 := i1
  refine lv_iload_n hx hb dX9_isStory_0 rfl (lv_at hl 1 rfl) ?_
  refine lv_iconst (v := 0) hx hb dX9_isStory_1 (by decide) ?_
  refine lv_aload_n hx hb dX9_isStory_2 rfl (lv_at hl 0 rfl) ?_
  refine va_get (D := D) (ci := 9) (v := .int v9_count) (C := RX9) (T := TX9) (N := 7) hx hb hts w1 hown hK.1 hP 0 rfl rfl 5 (by decide) w0 (fun _ h9 => h9) rfl dX9_isStory_3 ?_
  refine lv_iconst (v := 1) hx hb dX9_isStory_6 (by decide) ?_
  refine lv_isub hx hb dX9_isStory_7 ?_
  refine lv_topi (fun x1 e2 => ?_)
  try have h3 : x1.toInt = v9_count.toInt - (1 : Int32).toInt := ci_sub e2 (by omega) (by omega)
  refine kcm_i hA hAB hP hD hS [false] rfl (fun _ => rfl) (fun hPc hDc => va_runSN (As := [.int p1, .int 0, .int x1]) (rest := []) ⟨hx, hb, hml, hown, hts⟩ (k_X11_within l D κ β s.heap.size p1 0 x1) ⟨va_cnB 3 hts gX9_isStory_X11_within_n36 rfl rfl rfl w4 w2 (by decide +kernel) ⟨Nat.le_of_ble_eq_true rfl, Nat.le_of_ble_eq_true rfl⟩, w3, trivial⟩ (pk_S hK hS hAB hPc hDc) rfl rfl hl.1 rfl (lv_room (Nat.le_of_ble_eq_true rfl)) dX9_isStory_8 ⟨Nat.le_of_ble_eq_true rfl, Nat.le_of_ble_eq_true rfl⟩) (fun x4 u5 H locs hw hPD hS => ?_)
  have h6 : (x4.toInt = 1 ∧ (0 : Int32).toInt ≤ p1.toInt ∧ p1.toInt ≤ x1.toInt) ∨ (x4.toInt = 0 ∧ (p1.toInt < (0 : Int32).toInt ∨ x1.toInt < p1.toInt)) := hw
  obtain ⟨hP, hD⟩ : PD D A [O9 a9 r9 v9_count] H := hPD
  have hpo : (x4.toInt = 1 ∧ 0 ≤ p1.toInt ∧ p1.toInt < v9_count.toInt) ∨ (x4.toInt = 0 ∧ (p1.toInt < 0 ∨ v9_count.toInt ≤ p1.toInt)) := (by omega)
  exact ret _ _ _ _ x4 () dX9_isStory_11 (by omega) hpo hP hD hS
set_option maxHeartbeats 4000000 in
set_option maxRecDepth 100000 in
theorem k_X9_isFull (l : Launch) (D : va_G) (κ : Nat → ClassId) (β : Nat) (a9 : Nat) (r9 : Nat → Nat) (v9_count : Int32) (f9_years : Nat → Int32) (sz : Nat) (i1 : Rg 0 6 v9_count) : Met l yX9_isFull wsX9_isFull ({ frames := 0, cells := 0, slots := 0, locals := 0 } : Room) (PcK D κ β [O9 a9 r9 v9_count, (cI κ (r9 0) 6 f9_years)] sz [.ref a9]) (QiK D (fun (r : Int32) (u : Unit) => (r.toInt = 1 ∧ v9_count.toInt = 6) ∨ (r.toInt = 0 ∧ v9_count.toInt < 6)) (fun (u : Unit) => [O9 a9 r9 v9_count, (cI κ (r9 0) 6 f9_years)]) [O9 a9 r9 v9_count, (cI κ (r9 0) 6 f9_years)] sz) 0 0 (va_A [O9 a9 r9 v9_count, (cI κ (r9 0) 6 f9_years)] sz) := by
  refine ofK_z (cc := cX9_isFull) (maxL := 1) (own := RX9) (by decide) rfl rfl (Nat.le_of_ble_eq_true rfl) ?_
  intro p e s m args below meth c Q A ls hsz hx hb hml hts hown hK hA hAB hP hD hl ret
  have hS : va_S A s.heap s.heap [] := va_S.rf
  have hl : lv_has ls 1 [(0, .ref a9)] := hl
  have w0 := hts (.fieldLink RX9 32 "OlderSkin$Stories" "count" "I") (List.mem_of_getElem? (i := 1) rfl)
  have w1 := (fun w h => List.mem_cons_of_mem _ (List.mem_append_right _ h) : ∀ w ∈ u_ws RX9 TX9 7, w ∈ wsX9_isFull)
  have w2 := hts (.fieldLink RX9 9 "OlderSkin$Stories" "years" "[I") (List.mem_of_getElem? (i := 2) rfl)
  have l0 : (6 : Int32).toInt = 6 := by decide
  have l1 : (0 : Int32).toInt = 0 := by decide
  have l2 : (1 : Int32).toInt = 1 := by decide
  have i1 : 0 ≤ v9_count.toInt ∧ v9_count.toInt ≤ 6 := i1
  refine lv_aload_n hx hb dX9_isFull_0 rfl (lv_at hl 0 rfl) ?_
  refine va_get (D := D) (ci := 9) (v := .int v9_count) (C := RX9) (T := TX9) (N := 7) hx hb hts w1 hown hK.1 hP 0 rfl rfl 5 (by decide) w0 (fun _ h9 => h9) rfl dX9_isFull_1 ?_
  refine lv_aload_n hx hb dX9_isFull_4 rfl (lv_at hl 0 rfl) ?_
  refine va_get (D := D) (ci := 9) (v := .ref (r9 0)) (C := RX9) (T := TX9) (N := 7) hx hb hts w1 hown hK.1 hP 0 rfl rfl 0 (by decide) w2 (fun _ h9 => h9) rfl dX9_isFull_5 ?_
  refine va_alen hx hb hK.1 hP 1 1 rfl rfl (v := 6) rfl dX9_isFull_8 ?_
  refine lv_icmp_ne (tgt := 16) hx hb dX9_isFull_9 (by decide) (fun c1 => ?_) (fun c1 => ?_)
  · have c1 := ci_ne c1
    refine lv_iconst (v := 0) hx hb dX9_isFull_16 (by decide) ?_
    have hpo : ((0 : Int32).toInt = 1 ∧ v9_count.toInt = 6) ∨ ((0 : Int32).toInt = 0 ∧ v9_count.toInt < 6) := (by omega)
    exact ret _ _ _ _ 0 () dX9_isFull_17 (by omega) hpo hP hD hS
  have c1 := ci_eq c1
  refine lv_iconst (v := 1) hx hb dX9_isFull_12 (by decide) ?_
  refine lv_goto (tgt := 17) hx hb dX9_isFull_13 (by decide) ?_
  have hpo : ((1 : Int32).toInt = 1 ∧ v9_count.toInt = 6) ∨ ((1 : Int32).toInt = 0 ∧ v9_count.toInt < 6) := (by omega)
  exact ret _ _ _ _ 1 () dX9_isFull_17 (by omega) hpo hP hD hS
set_option maxHeartbeats 4000000 in
set_option maxRecDepth 100000 in
theorem k_X9_joined (l : Launch) (D : va_G) (κ : Nat → ClassId) (β : Nat) (sz : Nat) (p1 : Int32) (p2 : Int32) (p3 : Int32) : Met l yX9_joined wsX9_joined ({ frames := 1, cells := 0, slots := 0, locals := 20 } : Room) (PcK D κ β [] sz [.int p1, .int p2, .int p3]) (QiK D (fun (r : Int32) (u : Unit) => True) (fun (u : Unit) => []) [] sz) 0 0 (va_A [] sz) := by
  refine ofK_i (cc := cX9_joined) (maxL := 3) (own := RX9) (by decide) rfl rfl (Nat.le_of_ble_eq_true rfl) ?_
  intro p e s m args below meth c Q A ls hsz hx hb hml hts hown hK hA hAB hP hD hl ret
  have hS : va_S A s.heap s.heap [] := va_S.rf
  have hl : lv_has ls 3 [(0, .int p1), (1, .int p2), (2, .int p3)] := hl
  have w0 := hts (.initialized RX11) (List.mem_of_getElem? (i := 2) rfl)
  have w1 := hts (.static yX11_asBit) (List.mem_of_getElem? (i := 1) rfl)
  have w2 := hK.2.1 ("OlderSkin$Stories", 60, ⟨"OlderSkin", "asBit", "(Z)I"⟩, "OlderSkin") (by decide +kernel)
  have l0 : (0 : Int32).toInt = 0 := by decide
  have l1 : (1 : Int32).toInt = 1 := by decide
  refine lv_iload_n hx hb dX9_joined_0 rfl (lv_at hl 0 rfl) ?_
  by_cases c1 : p1.toInt = 37
  · refine lv_lookup (off := 191) (tgt := 192) hx hb dX9_joined_1 (by decide) (by rw [c1]; decide) (by decide) ?_
    refine lv_iload_n hx hb dX9_joined_192 rfl (lv_at hl 2 rfl) ?_
    refine lv_if_ne (tgt := 200) hx hb dX9_joined_193 (by decide) (fun c2 => ?_) (fun c2 => ?_)
    · have c2 := ci_ne c2
      refine lv_iload_n hx hb dX9_joined_200 rfl (lv_at hl 1 rfl) ?_
      refine lv_iload_n hx hb dX9_joined_201 rfl (lv_at hl 2 rfl) ?_
      refine lv_irem hx hb dX9_joined_202 (fun q3 => by have q3 := ci_eq q3; omega) ?_
      refine lv_topi (fun x4 e5 => ?_)
      try have h6 := ci_remV (by omega) (by omega) e5
      exact ret _ _ _ _ x4 () dX9_joined_203 trivial hP hD hS
    have c2 := ci_eq c2
    refine lv_iconst (v := 0) hx hb dX9_joined_196 (by decide) ?_
    refine lv_goto (tgt := 203) hx hb dX9_joined_197 (by decide) ?_
    exact ret _ _ _ _ 0 () dX9_joined_203 trivial hP hD hS
  by_cases c7 : p1.toInt = 38
  · refine lv_lookup (off := 108) (tgt := 109) hx hb dX9_joined_1 (by decide) (by rw [c7]; decide) (by decide) ?_
    refine lv_iload_n hx hb dX9_joined_109 rfl (lv_at hl 1 rfl) ?_
    refine lv_if_eq (tgt := 121) hx hb dX9_joined_110 (by decide) (fun c8 => ?_) (fun c8 => ?_)
    · have c8 := ci_eq c8
      refine lv_iconst (v := 0) hx hb dX9_joined_121 (by decide) ?_
      refine kcm_i hA hAB hP hD hS [] rfl (fun _ => rfl) (fun hPc hDc => va_runSN (As := [.int 0]) (rest := []) ⟨hx, hb, hml, hown, hts⟩ (k_X11_asBit l D κ β s.heap.size 0) ⟨va_cnB 1 hts gX9_joined_X11_asBit_n60 rfl rfl rfl w2 w0 (by decide +kernel) ⟨Nat.le_of_ble_eq_true rfl, Nat.le_of_ble_eq_true rfl⟩, w1, trivial⟩ (pk_S hK hS hAB hPc hDc) rfl rfl hl.1 rfl (lv_room (Nat.le_of_ble_eq_true rfl)) dX9_joined_122 ⟨Nat.le_of_ble_eq_true rfl, Nat.le_of_ble_eq_true rfl⟩) (fun x9 u10 H locs hw hPD hS => ?_)
      have h11 : (x9.toInt = 1 ∧ (0 : Int32).toInt ≠ 0) ∨ (x9.toInt = 0 ∧ (0 : Int32).toInt = 0) := hw
      obtain ⟨hP, hD⟩ : PD D A [] H := hPD
      exact ret _ _ _ _ x9 () dX9_joined_125 trivial hP hD hS
    have c8 := ci_ne c8
    refine lv_iload_n hx hb dX9_joined_113 rfl (lv_at hl 2 rfl) ?_
    refine lv_if_eq (tgt := 121) hx hb dX9_joined_114 (by decide) (fun c12 => ?_) (fun c12 => ?_)
    · have c12 := ci_eq c12
      refine lv_iconst (v := 0) hx hb dX9_joined_121 (by decide) ?_
      refine kcm_i hA hAB hP hD hS [] rfl (fun _ => rfl) (fun hPc hDc => va_runSN (As := [.int 0]) (rest := []) ⟨hx, hb, hml, hown, hts⟩ (k_X11_asBit l D κ β s.heap.size 0) ⟨va_cnB 1 hts gX9_joined_X11_asBit_n60 rfl rfl rfl w2 w0 (by decide +kernel) ⟨Nat.le_of_ble_eq_true rfl, Nat.le_of_ble_eq_true rfl⟩, w1, trivial⟩ (pk_S hK hS hAB hPc hDc) rfl rfl hl.1 rfl (lv_room (Nat.le_of_ble_eq_true rfl)) dX9_joined_122 ⟨Nat.le_of_ble_eq_true rfl, Nat.le_of_ble_eq_true rfl⟩) (fun x13 u14 H locs hw hPD hS => ?_)
      have h15 : (x13.toInt = 1 ∧ (0 : Int32).toInt ≠ 0) ∨ (x13.toInt = 0 ∧ (0 : Int32).toInt = 0) := hw
      obtain ⟨hP, hD⟩ : PD D A [] H := hPD
      exact ret _ _ _ _ x13 () dX9_joined_125 trivial hP hD hS
    have c12 := ci_ne c12
    refine lv_iconst (v := 1) hx hb dX9_joined_117 (by decide) ?_
    refine lv_goto (tgt := 122) hx hb dX9_joined_118 (by decide) ?_
    refine kcm_i hA hAB hP hD hS [] rfl (fun _ => rfl) (fun hPc hDc => va_runSN (As := [.int 1]) (rest := []) ⟨hx, hb, hml, hown, hts⟩ (k_X11_asBit l D κ β s.heap.size 1) ⟨va_cnB 1 hts gX9_joined_X11_asBit_n60 rfl rfl rfl w2 w0 (by decide +kernel) ⟨Nat.le_of_ble_eq_true rfl, Nat.le_of_ble_eq_true rfl⟩, w1, trivial⟩ (pk_S hK hS hAB hPc hDc) rfl rfl hl.1 rfl (lv_room (Nat.le_of_ble_eq_true rfl)) dX9_joined_122 ⟨Nat.le_of_ble_eq_true rfl, Nat.le_of_ble_eq_true rfl⟩) (fun x16 u17 H locs hw hPD hS => ?_)
    have h18 : (x16.toInt = 1 ∧ (1 : Int32).toInt ≠ 0) ∨ (x16.toInt = 0 ∧ (1 : Int32).toInt = 0) := hw
    obtain ⟨hP, hD⟩ : PD D A [] H := hPD
    exact ret _ _ _ _ x16 () dX9_joined_125 trivial hP hD hS
  by_cases c19 : p1.toInt = 42
  · refine lv_lookup (off := 175) (tgt := 176) hx hb dX9_joined_1 (by decide) (by rw [c19]; decide) (by decide) ?_
    refine lv_iload_n hx hb dX9_joined_176 rfl (lv_at hl 1 rfl) ?_
    refine lv_iload_n hx hb dX9_joined_177 rfl (lv_at hl 2 rfl) ?_
    refine lv_imul hx hb dX9_joined_178 ?_
    refine lv_topi (fun x20 e21 => ?_)
    exact ret _ _ _ _ x20 () dX9_joined_179 trivial hP hD hS
  by_cases c22 : p1.toInt = 43
  · refine lv_lookup (off := 167) (tgt := 168) hx hb dX9_joined_1 (by decide) (by rw [c22]; decide) (by decide) ?_
    refine lv_iload_n hx hb dX9_joined_168 rfl (lv_at hl 1 rfl) ?_
    refine lv_iload_n hx hb dX9_joined_169 rfl (lv_at hl 2 rfl) ?_
    refine lv_iadd hx hb dX9_joined_170 ?_
    refine lv_topi (fun x23 e24 => ?_)
    try have h25 : x23.toInt = p2.toInt + p3.toInt := ci_add e24 (by omega) (by omega)
    exact ret _ _ _ _ x23 () dX9_joined_171 trivial hP hD hS
  by_cases c26 : p1.toInt = 45
  · refine lv_lookup (off := 171) (tgt := 172) hx hb dX9_joined_1 (by decide) (by rw [c26]; decide) (by decide) ?_
    refine lv_iload_n hx hb dX9_joined_172 rfl (lv_at hl 1 rfl) ?_
    refine lv_iload_n hx hb dX9_joined_173 rfl (lv_at hl 2 rfl) ?_
    refine lv_isub hx hb dX9_joined_174 ?_
    refine lv_topi (fun x27 e28 => ?_)
    try have h29 : x27.toInt = p2.toInt - p3.toInt := ci_sub e28 (by omega) (by omega)
    exact ret _ _ _ _ x27 () dX9_joined_175 trivial hP hD hS
  by_cases c30 : p1.toInt = 47
  · refine lv_lookup (off := 179) (tgt := 180) hx hb dX9_joined_1 (by decide) (by rw [c30]; decide) (by decide) ?_
    refine lv_iload_n hx hb dX9_joined_180 rfl (lv_at hl 2 rfl) ?_
    refine lv_if_ne (tgt := 188) hx hb dX9_joined_181 (by decide) (fun c31 => ?_) (fun c31 => ?_)
    · have c31 := ci_ne c31
      refine lv_iload_n hx hb dX9_joined_188 rfl (lv_at hl 1 rfl) ?_
      refine lv_iload_n hx hb dX9_joined_189 rfl (lv_at hl 2 rfl) ?_
      refine lv_idiv hx hb dX9_joined_190 (fun q32 => by have q32 := ci_eq q32; omega) ?_
      refine lv_topi (fun x33 e34 => ?_)
      exact ret _ _ _ _ x33 () dX9_joined_191 trivial hP hD hS
    have c31 := ci_eq c31
    refine lv_iconst (v := 0) hx hb dX9_joined_184 (by decide) ?_
    refine lv_goto (tgt := 191) hx hb dX9_joined_185 (by decide) ?_
    exact ret _ _ _ _ 0 () dX9_joined_191 trivial hP hD hS
  by_cases c35 : p1.toInt = 60
  · refine lv_lookup (off := 125) (tgt := 126) hx hb dX9_joined_1 (by decide) (by rw [c35]; decide) (by decide) ?_
    refine lv_iload_n hx hb dX9_joined_126 rfl (lv_at hl 1 rfl) ?_
    refine lv_iload_n hx hb dX9_joined_127 rfl (lv_at hl 2 rfl) ?_
    refine lv_icmp_ge (tgt := 135) hx hb dX9_joined_128 (by decide) (fun c36 => ?_) (fun c36 => ?_)
    · have c36 := ci_le c36
      refine lv_iconst (v := 0) hx hb dX9_joined_135 (by decide) ?_
      refine kcm_i hA hAB hP hD hS [] rfl (fun _ => rfl) (fun hPc hDc => va_runSN (As := [.int 0]) (rest := []) ⟨hx, hb, hml, hown, hts⟩ (k_X11_asBit l D κ β s.heap.size 0) ⟨va_cnB 1 hts gX9_joined_X11_asBit_n60 rfl rfl rfl w2 w0 (by decide +kernel) ⟨Nat.le_of_ble_eq_true rfl, Nat.le_of_ble_eq_true rfl⟩, w1, trivial⟩ (pk_S hK hS hAB hPc hDc) rfl rfl hl.1 rfl (lv_room (Nat.le_of_ble_eq_true rfl)) dX9_joined_136 ⟨Nat.le_of_ble_eq_true rfl, Nat.le_of_ble_eq_true rfl⟩) (fun x37 u38 H locs hw hPD hS => ?_)
      have h39 : (x37.toInt = 1 ∧ (0 : Int32).toInt ≠ 0) ∨ (x37.toInt = 0 ∧ (0 : Int32).toInt = 0) := hw
      obtain ⟨hP, hD⟩ : PD D A [] H := hPD
      exact ret _ _ _ _ x37 () dX9_joined_139 trivial hP hD hS
    have c36 := ci_nle c36
    refine lv_iconst (v := 1) hx hb dX9_joined_131 (by decide) ?_
    refine lv_goto (tgt := 136) hx hb dX9_joined_132 (by decide) ?_
    refine kcm_i hA hAB hP hD hS [] rfl (fun _ => rfl) (fun hPc hDc => va_runSN (As := [.int 1]) (rest := []) ⟨hx, hb, hml, hown, hts⟩ (k_X11_asBit l D κ β s.heap.size 1) ⟨va_cnB 1 hts gX9_joined_X11_asBit_n60 rfl rfl rfl w2 w0 (by decide +kernel) ⟨Nat.le_of_ble_eq_true rfl, Nat.le_of_ble_eq_true rfl⟩, w1, trivial⟩ (pk_S hK hS hAB hPc hDc) rfl rfl hl.1 rfl (lv_room (Nat.le_of_ble_eq_true rfl)) dX9_joined_136 ⟨Nat.le_of_ble_eq_true rfl, Nat.le_of_ble_eq_true rfl⟩) (fun x40 u41 H locs hw hPD hS => ?_)
    have h42 : (x40.toInt = 1 ∧ (1 : Int32).toInt ≠ 0) ∨ (x40.toInt = 0 ∧ (1 : Int32).toInt = 0) := hw
    obtain ⟨hP, hD⟩ : PD D A [] H := hPD
    exact ret _ _ _ _ x40 () dX9_joined_139 trivial hP hD hS
  by_cases c43 : p1.toInt = 61
  · refine lv_lookup (off := 139) (tgt := 140) hx hb dX9_joined_1 (by decide) (by rw [c43]; decide) (by decide) ?_
    refine lv_iload_n hx hb dX9_joined_140 rfl (lv_at hl 1 rfl) ?_
    refine lv_iload_n hx hb dX9_joined_141 rfl (lv_at hl 2 rfl) ?_
    refine lv_icmp_ne (tgt := 149) hx hb dX9_joined_142 (by decide) (fun c44 => ?_) (fun c44 => ?_)
    · have c44 := ci_ne c44
      refine lv_iconst (v := 0) hx hb dX9_joined_149 (by decide) ?_
      refine kcm_i hA hAB hP hD hS [] rfl (fun _ => rfl) (fun hPc hDc => va_runSN (As := [.int 0]) (rest := []) ⟨hx, hb, hml, hown, hts⟩ (k_X11_asBit l D κ β s.heap.size 0) ⟨va_cnB 1 hts gX9_joined_X11_asBit_n60 rfl rfl rfl w2 w0 (by decide +kernel) ⟨Nat.le_of_ble_eq_true rfl, Nat.le_of_ble_eq_true rfl⟩, w1, trivial⟩ (pk_S hK hS hAB hPc hDc) rfl rfl hl.1 rfl (lv_room (Nat.le_of_ble_eq_true rfl)) dX9_joined_150 ⟨Nat.le_of_ble_eq_true rfl, Nat.le_of_ble_eq_true rfl⟩) (fun x45 u46 H locs hw hPD hS => ?_)
      have h47 : (x45.toInt = 1 ∧ (0 : Int32).toInt ≠ 0) ∨ (x45.toInt = 0 ∧ (0 : Int32).toInt = 0) := hw
      obtain ⟨hP, hD⟩ : PD D A [] H := hPD
      exact ret _ _ _ _ x45 () dX9_joined_153 trivial hP hD hS
    have c44 := ci_eq c44
    refine lv_iconst (v := 1) hx hb dX9_joined_145 (by decide) ?_
    refine lv_goto (tgt := 150) hx hb dX9_joined_146 (by decide) ?_
    refine kcm_i hA hAB hP hD hS [] rfl (fun _ => rfl) (fun hPc hDc => va_runSN (As := [.int 1]) (rest := []) ⟨hx, hb, hml, hown, hts⟩ (k_X11_asBit l D κ β s.heap.size 1) ⟨va_cnB 1 hts gX9_joined_X11_asBit_n60 rfl rfl rfl w2 w0 (by decide +kernel) ⟨Nat.le_of_ble_eq_true rfl, Nat.le_of_ble_eq_true rfl⟩, w1, trivial⟩ (pk_S hK hS hAB hPc hDc) rfl rfl hl.1 rfl (lv_room (Nat.le_of_ble_eq_true rfl)) dX9_joined_150 ⟨Nat.le_of_ble_eq_true rfl, Nat.le_of_ble_eq_true rfl⟩) (fun x48 u49 H locs hw hPD hS => ?_)
    have h50 : (x48.toInt = 1 ∧ (1 : Int32).toInt ≠ 0) ∨ (x48.toInt = 0 ∧ (1 : Int32).toInt = 0) := hw
    obtain ⟨hP, hD⟩ : PD D A [] H := hPD
    exact ret _ _ _ _ x48 () dX9_joined_153 trivial hP hD hS
  by_cases c51 : p1.toInt = 62
  · refine lv_lookup (off := 153) (tgt := 154) hx hb dX9_joined_1 (by decide) (by rw [c51]; decide) (by decide) ?_
    refine lv_iload_n hx hb dX9_joined_154 rfl (lv_at hl 1 rfl) ?_
    refine lv_iload_n hx hb dX9_joined_155 rfl (lv_at hl 2 rfl) ?_
    refine lv_icmp_le (tgt := 163) hx hb dX9_joined_156 (by decide) (fun c52 => ?_) (fun c52 => ?_)
    · have c52 := ci_le c52
      refine lv_iconst (v := 0) hx hb dX9_joined_163 (by decide) ?_
      refine kcm_i hA hAB hP hD hS [] rfl (fun _ => rfl) (fun hPc hDc => va_runSN (As := [.int 0]) (rest := []) ⟨hx, hb, hml, hown, hts⟩ (k_X11_asBit l D κ β s.heap.size 0) ⟨va_cnB 1 hts gX9_joined_X11_asBit_n60 rfl rfl rfl w2 w0 (by decide +kernel) ⟨Nat.le_of_ble_eq_true rfl, Nat.le_of_ble_eq_true rfl⟩, w1, trivial⟩ (pk_S hK hS hAB hPc hDc) rfl rfl hl.1 rfl (lv_room (Nat.le_of_ble_eq_true rfl)) dX9_joined_164 ⟨Nat.le_of_ble_eq_true rfl, Nat.le_of_ble_eq_true rfl⟩) (fun x53 u54 H locs hw hPD hS => ?_)
      have h55 : (x53.toInt = 1 ∧ (0 : Int32).toInt ≠ 0) ∨ (x53.toInt = 0 ∧ (0 : Int32).toInt = 0) := hw
      obtain ⟨hP, hD⟩ : PD D A [] H := hPD
      exact ret _ _ _ _ x53 () dX9_joined_167 trivial hP hD hS
    have c52 := ci_nle c52
    refine lv_iconst (v := 1) hx hb dX9_joined_159 (by decide) ?_
    refine lv_goto (tgt := 164) hx hb dX9_joined_160 (by decide) ?_
    refine kcm_i hA hAB hP hD hS [] rfl (fun _ => rfl) (fun hPc hDc => va_runSN (As := [.int 1]) (rest := []) ⟨hx, hb, hml, hown, hts⟩ (k_X11_asBit l D κ β s.heap.size 1) ⟨va_cnB 1 hts gX9_joined_X11_asBit_n60 rfl rfl rfl w2 w0 (by decide +kernel) ⟨Nat.le_of_ble_eq_true rfl, Nat.le_of_ble_eq_true rfl⟩, w1, trivial⟩ (pk_S hK hS hAB hPc hDc) rfl rfl hl.1 rfl (lv_room (Nat.le_of_ble_eq_true rfl)) dX9_joined_164 ⟨Nat.le_of_ble_eq_true rfl, Nat.le_of_ble_eq_true rfl⟩) (fun x56 u57 H locs hw hPD hS => ?_)
    have h58 : (x56.toInt = 1 ∧ (1 : Int32).toInt ≠ 0) ∨ (x56.toInt = 0 ∧ (1 : Int32).toInt = 0) := hw
    obtain ⟨hP, hD⟩ : PD D A [] H := hPD
    exact ret _ _ _ _ x56 () dX9_joined_167 trivial hP hD hS
  by_cases c59 : p1.toInt = 124
  · refine lv_lookup (off := 91) (tgt := 92) hx hb dX9_joined_1 (by decide) (by rw [c59]; decide) (by decide) ?_
    refine lv_iload_n hx hb dX9_joined_92 rfl (lv_at hl 1 rfl) ?_
    refine lv_if_ne (tgt := 100) hx hb dX9_joined_93 (by decide) (fun c60 => ?_) (fun c60 => ?_)
    · have c60 := ci_ne c60
      refine lv_iconst (v := 1) hx hb dX9_joined_100 (by decide) ?_
      refine lv_goto (tgt := 105) hx hb dX9_joined_101 (by decide) ?_
      refine kcm_i hA hAB hP hD hS [] rfl (fun _ => rfl) (fun hPc hDc => va_runSN (As := [.int 1]) (rest := []) ⟨hx, hb, hml, hown, hts⟩ (k_X11_asBit l D κ β s.heap.size 1) ⟨va_cnB 1 hts gX9_joined_X11_asBit_n60 rfl rfl rfl w2 w0 (by decide +kernel) ⟨Nat.le_of_ble_eq_true rfl, Nat.le_of_ble_eq_true rfl⟩, w1, trivial⟩ (pk_S hK hS hAB hPc hDc) rfl rfl hl.1 rfl (lv_room (Nat.le_of_ble_eq_true rfl)) dX9_joined_105 ⟨Nat.le_of_ble_eq_true rfl, Nat.le_of_ble_eq_true rfl⟩) (fun x61 u62 H locs hw hPD hS => ?_)
      have h63 : (x61.toInt = 1 ∧ (1 : Int32).toInt ≠ 0) ∨ (x61.toInt = 0 ∧ (1 : Int32).toInt = 0) := hw
      obtain ⟨hP, hD⟩ : PD D A [] H := hPD
      exact ret _ _ _ _ x61 () dX9_joined_108 trivial hP hD hS
    have c60 := ci_eq c60
    refine lv_iload_n hx hb dX9_joined_96 rfl (lv_at hl 2 rfl) ?_
    refine lv_if_eq (tgt := 104) hx hb dX9_joined_97 (by decide) (fun c64 => ?_) (fun c64 => ?_)
    · have c64 := ci_eq c64
      refine lv_iconst (v := 0) hx hb dX9_joined_104 (by decide) ?_
      refine kcm_i hA hAB hP hD hS [] rfl (fun _ => rfl) (fun hPc hDc => va_runSN (As := [.int 0]) (rest := []) ⟨hx, hb, hml, hown, hts⟩ (k_X11_asBit l D κ β s.heap.size 0) ⟨va_cnB 1 hts gX9_joined_X11_asBit_n60 rfl rfl rfl w2 w0 (by decide +kernel) ⟨Nat.le_of_ble_eq_true rfl, Nat.le_of_ble_eq_true rfl⟩, w1, trivial⟩ (pk_S hK hS hAB hPc hDc) rfl rfl hl.1 rfl (lv_room (Nat.le_of_ble_eq_true rfl)) dX9_joined_105 ⟨Nat.le_of_ble_eq_true rfl, Nat.le_of_ble_eq_true rfl⟩) (fun x65 u66 H locs hw hPD hS => ?_)
      have h67 : (x65.toInt = 1 ∧ (0 : Int32).toInt ≠ 0) ∨ (x65.toInt = 0 ∧ (0 : Int32).toInt = 0) := hw
      obtain ⟨hP, hD⟩ : PD D A [] H := hPD
      exact ret _ _ _ _ x65 () dX9_joined_108 trivial hP hD hS
    have c64 := ci_ne c64
    refine lv_iconst (v := 1) hx hb dX9_joined_100 (by decide) ?_
    refine lv_goto (tgt := 105) hx hb dX9_joined_101 (by decide) ?_
    refine kcm_i hA hAB hP hD hS [] rfl (fun _ => rfl) (fun hPc hDc => va_runSN (As := [.int 1]) (rest := []) ⟨hx, hb, hml, hown, hts⟩ (k_X11_asBit l D κ β s.heap.size 1) ⟨va_cnB 1 hts gX9_joined_X11_asBit_n60 rfl rfl rfl w2 w0 (by decide +kernel) ⟨Nat.le_of_ble_eq_true rfl, Nat.le_of_ble_eq_true rfl⟩, w1, trivial⟩ (pk_S hK hS hAB hPc hDc) rfl rfl hl.1 rfl (lv_room (Nat.le_of_ble_eq_true rfl)) dX9_joined_105 ⟨Nat.le_of_ble_eq_true rfl, Nat.le_of_ble_eq_true rfl⟩) (fun x68 u69 H locs hw hPD hS => ?_)
    have h70 : (x68.toInt = 1 ∧ (1 : Int32).toInt ≠ 0) ∨ (x68.toInt = 0 ∧ (1 : Int32).toInt = 0) := hw
    obtain ⟨hP, hD⟩ : PD D A [] H := hPD
    exact ret _ _ _ _ x68 () dX9_joined_108 trivial hP hD hS
  refine lv_lookup (off := 203) (tgt := 204) hx hb dX9_joined_1 (by decide) (by show Op.lookupswitch.offset [(37, 191), (38, 108), (42, 175), (43, 167), (45, 171), (47, 179), (60, 125), (61, 139), (62, 153), (124, 91)] 203 p1.toInt = 203; rw [Op.lookupswitch.offset_cons, if_neg (by omega), Op.lookupswitch.offset_cons, if_neg (by omega), Op.lookupswitch.offset_cons, if_neg (by omega), Op.lookupswitch.offset_cons, if_neg (by omega), Op.lookupswitch.offset_cons, if_neg (by omega), Op.lookupswitch.offset_cons, if_neg (by omega), Op.lookupswitch.offset_cons, if_neg (by omega), Op.lookupswitch.offset_cons, if_neg (by omega), Op.lookupswitch.offset_cons, if_neg (by omega), Op.lookupswitch.offset_cons, if_neg (by omega), Op.lookupswitch.offset_nil]) (by decide) ?_
  refine lv_iconst (v := 0) hx hb dX9_joined_204 (by decide) ?_
  exact ret _ _ _ _ 0 () dX9_joined_205 trivial hP hD hS
set_option maxHeartbeats 4000000 in
set_option maxRecDepth 100000 in
theorem k_X9_work (l : Launch) (D : va_G) (κ : Nat → ClassId) (β : Nat) (a9 : Nat) (r9 : Nat → Nat) (v9_count : Int32) (f9_stack : Nat → Int32) (sz : Nat) (p1 : Int32) (p2 : Int32) (i1 : Rg 0 6 v9_count) (i2 : 0 ≤ p2.toInt ∧ p2.toInt ≤ 40) : Met l yX9_work wsX9_work ({ frames := 2, cells := 0, slots := 0, locals := 42 } : Room) (PcK D κ β [O9 a9 r9 v9_count, (cI κ (r9 6) 40 f9_stack)] sz [.ref a9, .int p1, .int p2]) (QiK D (fun (r : Int32) (u : (Nat → Int32)) => 0 ≤ r.toInt ∧ r.toInt ≤ 40) (fun (u : (Nat → Int32)) => [O9 a9 r9 v9_count, (cI κ (r9 6) 40 u)]) [O9 a9 r9 v9_count, (cI κ (r9 6) 40 f9_stack)] sz) 0 0 (va_A [O9 a9 r9 v9_count, (cI κ (r9 6) 40 f9_stack)] sz) := by
  refine ofK_i (cc := cX9_work) (maxL := 3) (own := RX9) (by decide) rfl rfl (Nat.le_of_ble_eq_true rfl) ?_
  intro p e s m args below meth c Q A ls hsz hx hb hml hts hown hK hA hAB hP hD hl ret
  have hS : va_S A s.heap s.heap [] := va_S.rf
  have hl : lv_has ls 3 [(0, .ref a9), (1, .int p1), (2, .int p2)] := hl
  have w0 := hts (.fieldLink RX9 29 "OlderSkin$Stories" "stack" "[I") (List.mem_of_getElem? (i := 1) rfl)
  have w1 := (fun w h => List.mem_cons_of_mem _ (List.mem_append_right _ h) : ∀ w ∈ u_ws RX9 TX9 7, w ∈ wsX9_work)
  have w2 := hts (.initialized RX11) (List.mem_of_getElem? (i := 3) rfl)
  have w3 := hts (.static yX11_asBit) (List.mem_of_getElem? (i := 2) rfl)
  have w4 := hK.2.1 ("OlderSkin$Stories", 60, ⟨"OlderSkin", "asBit", "(Z)I"⟩, "OlderSkin") (by decide +kernel)
  have l0 : (1 : Int32).toInt = 1 := by decide
  have l1 : (0 : Int32).toInt = 0 := by decide
  have l2 : (2 : Int32).toInt = 2 := by decide
  have l3 : (126 : Int32).toInt = 126 := by decide
  have l4 : (33 : Int32).toInt = 33 := by decide
  refine lv_iload_n hx hb dX9_work_0 rfl (lv_at hl 2 rfl) ?_
  refine lv_iconst (v := 1) hx hb dX9_work_1 (by decide) ?_
  refine lv_icmp_lt (tgt := 40) hx hb dX9_work_2 (by decide) (fun c1 => ?_) (fun c1 => ?_)
  · have c1 := ci_lt c1
    refine lv_iload_n hx hb dX9_work_40 rfl (lv_at hl 2 rfl) ?_
    refine lv_iconst (v := 1) hx hb dX9_work_41 (by decide) ?_
    refine lv_icmp_lt (tgt := 70) hx hb dX9_work_42 (by decide) (fun c2 => ?_) (fun c2 => ?_)
    · have c2 := ci_lt c2
      refine lv_iload_n hx hb dX9_work_70 rfl (lv_at hl 2 rfl) ?_
      refine lv_iconst (v := 2) hx hb dX9_work_71 (by decide) ?_
      refine lv_icmp_lt (tgt := 107) hx hb dX9_work_72 (by decide) (fun c3 => ?_) (fun c3 => ?_)
      · have c3 := ci_lt c3
        refine lv_iload_n hx hb dX9_work_107 rfl (lv_at hl 2 rfl) ?_
        have hpo : 0 ≤ p2.toInt ∧ p2.toInt ≤ 40 := (by omega)
        exact ret _ _ _ _ p2 f9_stack dX9_work_108 hpo hP hD hS
      have c3 := ci_nlt c3
      refine lv_aload_n hx hb dX9_work_75 rfl (lv_at hl 0 rfl) ?_
      refine va_get (D := D) (ci := 9) (v := .ref (r9 6)) (C := RX9) (T := TX9) (N := 7) hx hb hts w1 hown hK.1 hP 0 rfl rfl 6 (by decide) w0 (fun _ h9 => h9) rfl dX9_work_76 ?_
      refine lv_iload_n hx hb dX9_work_79 rfl (lv_at hl 2 rfl) ?_
      refine lv_iconst (v := 2) hx hb dX9_work_80 (by decide) ?_
      refine lv_isub hx hb dX9_work_81 ?_
      refine lv_topi (fun x4 e5 => ?_)
      try have h6 : x4.toInt = p2.toInt - (2 : Int32).toInt := ci_sub e5 (by omega) (by omega)
      refine lv_iload_n hx hb dX9_work_82 rfl (lv_at hl 1 rfl) ?_
      refine lv_aload_n hx hb dX9_work_83 rfl (lv_at hl 0 rfl) ?_
      refine va_get (D := D) (ci := 9) (v := .ref (r9 6)) (C := RX9) (T := TX9) (N := 7) hx hb hts w1 hown hK.1 hP 0 rfl rfl 6 (by decide) w0 (fun _ h9 => h9) rfl dX9_work_84 ?_
      refine lv_iload_n hx hb dX9_work_87 rfl (lv_at hl 2 rfl) ?_
      refine lv_iconst (v := 2) hx hb dX9_work_88 (by decide) ?_
      refine lv_isub hx hb dX9_work_89 ?_
      refine lv_topi (fun x7 e8 => ?_)
      try have h9 : x7.toInt = p2.toInt - (2 : Int32).toInt := ci_sub e8 (by omega) (by omega)
      refine va_iald hx hb hK.1 hP 1 1 rfl rfl (i := x7) (ix (by omega) (by omega)) dX9_work_90 ?_
      refine lv_topi (fun x10 e11 => ?_)
      refine lv_aload_n hx hb dX9_work_91 rfl (lv_at hl 0 rfl) ?_
      refine va_get (D := D) (ci := 9) (v := .ref (r9 6)) (C := RX9) (T := TX9) (N := 7) hx hb hts w1 hown hK.1 hP 0 rfl rfl 6 (by decide) w0 (fun _ h9 => h9) rfl dX9_work_92 ?_
      refine lv_iload_n hx hb dX9_work_95 rfl (lv_at hl 2 rfl) ?_
      refine lv_iconst (v := 1) hx hb dX9_work_96 (by decide) ?_
      refine lv_isub hx hb dX9_work_97 ?_
      refine lv_topi (fun x12 e13 => ?_)
      try have h14 : x12.toInt = p2.toInt - (1 : Int32).toInt := ci_sub e13 (by omega) (by omega)
      refine va_iald hx hb hK.1 hP 1 1 rfl rfl (i := x12) (ix (by omega) (by omega)) dX9_work_98 ?_
      refine lv_topi (fun x15 e16 => ?_)
      refine kcm_i hA hAB hP hD hS [false, false] rfl (fun _ => rfl) (fun hPc hDc => va_runS (As := [.int p1, .int x10, .int x15]) (rest := [.int x4, .ref (r9 6)]) ⟨hx, hb, hml, hown, hts⟩ (k_X9_joined l D κ β s.heap.size p1 x10 x15) (va_cwS 3 hts gX9_work_X9_joined rfl rfl rfl (by decide +kernel) ⟨Nat.le_of_ble_eq_true rfl, Nat.le_of_ble_eq_true rfl⟩) (pk_S hK hS hAB hPc hDc) rfl rfl hl.1 rfl (lv_room (Nat.le_of_ble_eq_true rfl)) dX9_work_99 ⟨Nat.le_of_ble_eq_true rfl, Nat.le_of_ble_eq_true rfl⟩) (fun x17 u18 H locs hw hPD hS => ?_)
      obtain ⟨hP, hD⟩ : PD D A [O9 a9 r9 v9_count, (cI κ (r9 6) 40 f9_stack)] H := hPD
      refine va_iast hx hb hK.1 hP hD hS 1 1 rfl rfl (i := x4) (ix (by omega) (by omega)) dX9_work_102 (fun H locs hP hD hS => ?_)
      obtain ⟨g19, e20⟩ : ∃ y : Nat → Int32, y = upd f9_stack x4.toNatClampNeg x17 := ⟨_, rfl⟩
      rw [← e20] at hP hD
      obtain ⟨hP, hD⟩ : PD D A [O9 a9 r9 v9_count, (cI κ (r9 6) 40 g19)] H := ⟨hP, hD⟩
      refine lv_iload_n hx hb dX9_work_103 rfl (lv_at hl 2 rfl) ?_
      refine lv_iconst (v := 1) hx hb dX9_work_104 (by decide) ?_
      refine lv_isub hx hb dX9_work_105 ?_
      refine lv_topi (fun x21 e22 => ?_)
      try have h23 : x21.toInt = p2.toInt - (1 : Int32).toInt := ci_sub e22 (by omega) (by omega)
      have hpo : 0 ≤ x21.toInt ∧ x21.toInt ≤ 40 := (by omega)
      exact ret _ _ _ _ x21 g19 dX9_work_106 hpo hP hD hS
    have c2 := ci_nlt c2
    refine lv_iload_n hx hb dX9_work_45 rfl (lv_at hl 1 rfl) ?_
    refine lv_bipush (v := 126) hx hb dX9_work_46 (by decide) ?_
    refine lv_icmp_ne (tgt := 70) hx hb dX9_work_48 (by decide) (fun c24 => ?_) (fun c24 => ?_)
    · have c24 := ci_ne c24
      refine lv_iload_n hx hb dX9_work_70 rfl (lv_at hl 2 rfl) ?_
      refine lv_iconst (v := 2) hx hb dX9_work_71 (by decide) ?_
      refine lv_icmp_lt (tgt := 107) hx hb dX9_work_72 (by decide) (fun c25 => ?_) (fun c25 => ?_)
      · have c25 := ci_lt c25
        refine lv_iload_n hx hb dX9_work_107 rfl (lv_at hl 2 rfl) ?_
        have hpo : 0 ≤ p2.toInt ∧ p2.toInt ≤ 40 := (by omega)
        exact ret _ _ _ _ p2 f9_stack dX9_work_108 hpo hP hD hS
      have c25 := ci_nlt c25
      refine lv_aload_n hx hb dX9_work_75 rfl (lv_at hl 0 rfl) ?_
      refine va_get (D := D) (ci := 9) (v := .ref (r9 6)) (C := RX9) (T := TX9) (N := 7) hx hb hts w1 hown hK.1 hP 0 rfl rfl 6 (by decide) w0 (fun _ h9 => h9) rfl dX9_work_76 ?_
      refine lv_iload_n hx hb dX9_work_79 rfl (lv_at hl 2 rfl) ?_
      refine lv_iconst (v := 2) hx hb dX9_work_80 (by decide) ?_
      refine lv_isub hx hb dX9_work_81 ?_
      refine lv_topi (fun x26 e27 => ?_)
      try have h28 : x26.toInt = p2.toInt - (2 : Int32).toInt := ci_sub e27 (by omega) (by omega)
      refine lv_iload_n hx hb dX9_work_82 rfl (lv_at hl 1 rfl) ?_
      refine lv_aload_n hx hb dX9_work_83 rfl (lv_at hl 0 rfl) ?_
      refine va_get (D := D) (ci := 9) (v := .ref (r9 6)) (C := RX9) (T := TX9) (N := 7) hx hb hts w1 hown hK.1 hP 0 rfl rfl 6 (by decide) w0 (fun _ h9 => h9) rfl dX9_work_84 ?_
      refine lv_iload_n hx hb dX9_work_87 rfl (lv_at hl 2 rfl) ?_
      refine lv_iconst (v := 2) hx hb dX9_work_88 (by decide) ?_
      refine lv_isub hx hb dX9_work_89 ?_
      refine lv_topi (fun x29 e30 => ?_)
      try have h31 : x29.toInt = p2.toInt - (2 : Int32).toInt := ci_sub e30 (by omega) (by omega)
      refine va_iald hx hb hK.1 hP 1 1 rfl rfl (i := x29) (ix (by omega) (by omega)) dX9_work_90 ?_
      refine lv_topi (fun x32 e33 => ?_)
      refine lv_aload_n hx hb dX9_work_91 rfl (lv_at hl 0 rfl) ?_
      refine va_get (D := D) (ci := 9) (v := .ref (r9 6)) (C := RX9) (T := TX9) (N := 7) hx hb hts w1 hown hK.1 hP 0 rfl rfl 6 (by decide) w0 (fun _ h9 => h9) rfl dX9_work_92 ?_
      refine lv_iload_n hx hb dX9_work_95 rfl (lv_at hl 2 rfl) ?_
      refine lv_iconst (v := 1) hx hb dX9_work_96 (by decide) ?_
      refine lv_isub hx hb dX9_work_97 ?_
      refine lv_topi (fun x34 e35 => ?_)
      try have h36 : x34.toInt = p2.toInt - (1 : Int32).toInt := ci_sub e35 (by omega) (by omega)
      refine va_iald hx hb hK.1 hP 1 1 rfl rfl (i := x34) (ix (by omega) (by omega)) dX9_work_98 ?_
      refine lv_topi (fun x37 e38 => ?_)
      refine kcm_i hA hAB hP hD hS [false, false] rfl (fun _ => rfl) (fun hPc hDc => va_runS (As := [.int p1, .int x32, .int x37]) (rest := [.int x26, .ref (r9 6)]) ⟨hx, hb, hml, hown, hts⟩ (k_X9_joined l D κ β s.heap.size p1 x32 x37) (va_cwS 3 hts gX9_work_X9_joined rfl rfl rfl (by decide +kernel) ⟨Nat.le_of_ble_eq_true rfl, Nat.le_of_ble_eq_true rfl⟩) (pk_S hK hS hAB hPc hDc) rfl rfl hl.1 rfl (lv_room (Nat.le_of_ble_eq_true rfl)) dX9_work_99 ⟨Nat.le_of_ble_eq_true rfl, Nat.le_of_ble_eq_true rfl⟩) (fun x39 u40 H locs hw hPD hS => ?_)
      obtain ⟨hP, hD⟩ : PD D A [O9 a9 r9 v9_count, (cI κ (r9 6) 40 f9_stack)] H := hPD
      refine va_iast hx hb hK.1 hP hD hS 1 1 rfl rfl (i := x26) (ix (by omega) (by omega)) dX9_work_102 (fun H locs hP hD hS => ?_)
      obtain ⟨g41, e42⟩ : ∃ y : Nat → Int32, y = upd f9_stack x26.toNatClampNeg x39 := ⟨_, rfl⟩
      rw [← e42] at hP hD
      obtain ⟨hP, hD⟩ : PD D A [O9 a9 r9 v9_count, (cI κ (r9 6) 40 g41)] H := ⟨hP, hD⟩
      refine lv_iload_n hx hb dX9_work_103 rfl (lv_at hl 2 rfl) ?_
      refine lv_iconst (v := 1) hx hb dX9_work_104 (by decide) ?_
      refine lv_isub hx hb dX9_work_105 ?_
      refine lv_topi (fun x43 e44 => ?_)
      try have h45 : x43.toInt = p2.toInt - (1 : Int32).toInt := ci_sub e44 (by omega) (by omega)
      have hpo : 0 ≤ x43.toInt ∧ x43.toInt ≤ 40 := (by omega)
      exact ret _ _ _ _ x43 g41 dX9_work_106 hpo hP hD hS
    have c24 := ci_eq c24
    refine lv_aload_n hx hb dX9_work_51 rfl (lv_at hl 0 rfl) ?_
    refine va_get (D := D) (ci := 9) (v := .ref (r9 6)) (C := RX9) (T := TX9) (N := 7) hx hb hts w1 hown hK.1 hP 0 rfl rfl 6 (by decide) w0 (fun _ h9 => h9) rfl dX9_work_52 ?_
    refine lv_iload_n hx hb dX9_work_55 rfl (lv_at hl 2 rfl) ?_
    refine lv_iconst (v := 1) hx hb dX9_work_56 (by decide) ?_
    refine lv_isub hx hb dX9_work_57 ?_
    refine lv_topi (fun x46 e47 => ?_)
    try have h48 : x46.toInt = p2.toInt - (1 : Int32).toInt := ci_sub e47 (by omega) (by omega)
    refine lv_aload_n hx hb dX9_work_58 rfl (lv_at hl 0 rfl) ?_
    refine va_get (D := D) (ci := 9) (v := .ref (r9 6)) (C := RX9) (T := TX9) (N := 7) hx hb hts w1 hown hK.1 hP 0 rfl rfl 6 (by decide) w0 (fun _ h9 => h9) rfl dX9_work_59 ?_
    refine lv_iload_n hx hb dX9_work_62 rfl (lv_at hl 2 rfl) ?_
    refine lv_iconst (v := 1) hx hb dX9_work_63 (by decide) ?_
    refine lv_isub hx hb dX9_work_64 ?_
    refine lv_topi (fun x49 e50 => ?_)
    try have h51 : x49.toInt = p2.toInt - (1 : Int32).toInt := ci_sub e50 (by omega) (by omega)
    refine va_iald hx hb hK.1 hP 1 1 rfl rfl (i := x49) (ix (by omega) (by omega)) dX9_work_65 ?_
    refine lv_topi (fun x52 e53 => ?_)
    refine lv_ineg hx hb dX9_work_66 ?_
    refine lv_topi (fun x54 e55 => ?_)
    try have h56 : x54.toInt = -x52.toInt := ci_neg e55 (by omega)
    refine va_iast hx hb hK.1 hP hD hS 1 1 rfl rfl (i := x46) (ix (by omega) (by omega)) dX9_work_67 (fun H locs hP hD hS => ?_)
    obtain ⟨g57, e58⟩ : ∃ y : Nat → Int32, y = upd f9_stack x46.toNatClampNeg x54 := ⟨_, rfl⟩
    rw [← e58] at hP hD
    obtain ⟨hP, hD⟩ : PD D A [O9 a9 r9 v9_count, (cI κ (r9 6) 40 g57)] H := ⟨hP, hD⟩
    refine lv_iload_n hx hb dX9_work_68 rfl (lv_at hl 2 rfl) ?_
    have hpo : 0 ≤ p2.toInt ∧ p2.toInt ≤ 40 := (by omega)
    exact ret _ _ _ _ p2 g57 dX9_work_69 hpo hP hD hS
  have c1 := ci_nlt c1
  refine lv_iload_n hx hb dX9_work_5 rfl (lv_at hl 1 rfl) ?_
  refine lv_bipush (v := 33) hx hb dX9_work_6 (by decide) ?_
  refine lv_icmp_ne (tgt := 40) hx hb dX9_work_8 (by decide) (fun c59 => ?_) (fun c59 => ?_)
  · have c59 := ci_ne c59
    refine lv_iload_n hx hb dX9_work_40 rfl (lv_at hl 2 rfl) ?_
    refine lv_iconst (v := 1) hx hb dX9_work_41 (by decide) ?_
    refine lv_icmp_lt (tgt := 70) hx hb dX9_work_42 (by decide) (fun c60 => ?_) (fun c60 => ?_)
    · have c60 := ci_lt c60
      refine lv_iload_n hx hb dX9_work_70 rfl (lv_at hl 2 rfl) ?_
      refine lv_iconst (v := 2) hx hb dX9_work_71 (by decide) ?_
      refine lv_icmp_lt (tgt := 107) hx hb dX9_work_72 (by decide) (fun c61 => ?_) (fun c61 => ?_)
      · have c61 := ci_lt c61
        refine lv_iload_n hx hb dX9_work_107 rfl (lv_at hl 2 rfl) ?_
        have hpo : 0 ≤ p2.toInt ∧ p2.toInt ≤ 40 := (by omega)
        exact ret _ _ _ _ p2 f9_stack dX9_work_108 hpo hP hD hS
      have c61 := ci_nlt c61
      refine lv_aload_n hx hb dX9_work_75 rfl (lv_at hl 0 rfl) ?_
      refine va_get (D := D) (ci := 9) (v := .ref (r9 6)) (C := RX9) (T := TX9) (N := 7) hx hb hts w1 hown hK.1 hP 0 rfl rfl 6 (by decide) w0 (fun _ h9 => h9) rfl dX9_work_76 ?_
      refine lv_iload_n hx hb dX9_work_79 rfl (lv_at hl 2 rfl) ?_
      refine lv_iconst (v := 2) hx hb dX9_work_80 (by decide) ?_
      refine lv_isub hx hb dX9_work_81 ?_
      refine lv_topi (fun x62 e63 => ?_)
      try have h64 : x62.toInt = p2.toInt - (2 : Int32).toInt := ci_sub e63 (by omega) (by omega)
      refine lv_iload_n hx hb dX9_work_82 rfl (lv_at hl 1 rfl) ?_
      refine lv_aload_n hx hb dX9_work_83 rfl (lv_at hl 0 rfl) ?_
      refine va_get (D := D) (ci := 9) (v := .ref (r9 6)) (C := RX9) (T := TX9) (N := 7) hx hb hts w1 hown hK.1 hP 0 rfl rfl 6 (by decide) w0 (fun _ h9 => h9) rfl dX9_work_84 ?_
      refine lv_iload_n hx hb dX9_work_87 rfl (lv_at hl 2 rfl) ?_
      refine lv_iconst (v := 2) hx hb dX9_work_88 (by decide) ?_
      refine lv_isub hx hb dX9_work_89 ?_
      refine lv_topi (fun x65 e66 => ?_)
      try have h67 : x65.toInt = p2.toInt - (2 : Int32).toInt := ci_sub e66 (by omega) (by omega)
      refine va_iald hx hb hK.1 hP 1 1 rfl rfl (i := x65) (ix (by omega) (by omega)) dX9_work_90 ?_
      refine lv_topi (fun x68 e69 => ?_)
      refine lv_aload_n hx hb dX9_work_91 rfl (lv_at hl 0 rfl) ?_
      refine va_get (D := D) (ci := 9) (v := .ref (r9 6)) (C := RX9) (T := TX9) (N := 7) hx hb hts w1 hown hK.1 hP 0 rfl rfl 6 (by decide) w0 (fun _ h9 => h9) rfl dX9_work_92 ?_
      refine lv_iload_n hx hb dX9_work_95 rfl (lv_at hl 2 rfl) ?_
      refine lv_iconst (v := 1) hx hb dX9_work_96 (by decide) ?_
      refine lv_isub hx hb dX9_work_97 ?_
      refine lv_topi (fun x70 e71 => ?_)
      try have h72 : x70.toInt = p2.toInt - (1 : Int32).toInt := ci_sub e71 (by omega) (by omega)
      refine va_iald hx hb hK.1 hP 1 1 rfl rfl (i := x70) (ix (by omega) (by omega)) dX9_work_98 ?_
      refine lv_topi (fun x73 e74 => ?_)
      refine kcm_i hA hAB hP hD hS [false, false] rfl (fun _ => rfl) (fun hPc hDc => va_runS (As := [.int p1, .int x68, .int x73]) (rest := [.int x62, .ref (r9 6)]) ⟨hx, hb, hml, hown, hts⟩ (k_X9_joined l D κ β s.heap.size p1 x68 x73) (va_cwS 3 hts gX9_work_X9_joined rfl rfl rfl (by decide +kernel) ⟨Nat.le_of_ble_eq_true rfl, Nat.le_of_ble_eq_true rfl⟩) (pk_S hK hS hAB hPc hDc) rfl rfl hl.1 rfl (lv_room (Nat.le_of_ble_eq_true rfl)) dX9_work_99 ⟨Nat.le_of_ble_eq_true rfl, Nat.le_of_ble_eq_true rfl⟩) (fun x75 u76 H locs hw hPD hS => ?_)
      obtain ⟨hP, hD⟩ : PD D A [O9 a9 r9 v9_count, (cI κ (r9 6) 40 f9_stack)] H := hPD
      refine va_iast hx hb hK.1 hP hD hS 1 1 rfl rfl (i := x62) (ix (by omega) (by omega)) dX9_work_102 (fun H locs hP hD hS => ?_)
      obtain ⟨g77, e78⟩ : ∃ y : Nat → Int32, y = upd f9_stack x62.toNatClampNeg x75 := ⟨_, rfl⟩
      rw [← e78] at hP hD
      obtain ⟨hP, hD⟩ : PD D A [O9 a9 r9 v9_count, (cI κ (r9 6) 40 g77)] H := ⟨hP, hD⟩
      refine lv_iload_n hx hb dX9_work_103 rfl (lv_at hl 2 rfl) ?_
      refine lv_iconst (v := 1) hx hb dX9_work_104 (by decide) ?_
      refine lv_isub hx hb dX9_work_105 ?_
      refine lv_topi (fun x79 e80 => ?_)
      try have h81 : x79.toInt = p2.toInt - (1 : Int32).toInt := ci_sub e80 (by omega) (by omega)
      have hpo : 0 ≤ x79.toInt ∧ x79.toInt ≤ 40 := (by omega)
      exact ret _ _ _ _ x79 g77 dX9_work_106 hpo hP hD hS
    have c60 := ci_nlt c60
    refine lv_iload_n hx hb dX9_work_45 rfl (lv_at hl 1 rfl) ?_
    refine lv_bipush (v := 126) hx hb dX9_work_46 (by decide) ?_
    refine lv_icmp_ne (tgt := 70) hx hb dX9_work_48 (by decide) (fun c82 => ?_) (fun c82 => ?_)
    · have c82 := ci_ne c82
      refine lv_iload_n hx hb dX9_work_70 rfl (lv_at hl 2 rfl) ?_
      refine lv_iconst (v := 2) hx hb dX9_work_71 (by decide) ?_
      refine lv_icmp_lt (tgt := 107) hx hb dX9_work_72 (by decide) (fun c83 => ?_) (fun c83 => ?_)
      · have c83 := ci_lt c83
        refine lv_iload_n hx hb dX9_work_107 rfl (lv_at hl 2 rfl) ?_
        have hpo : 0 ≤ p2.toInt ∧ p2.toInt ≤ 40 := (by omega)
        exact ret _ _ _ _ p2 f9_stack dX9_work_108 hpo hP hD hS
      have c83 := ci_nlt c83
      refine lv_aload_n hx hb dX9_work_75 rfl (lv_at hl 0 rfl) ?_
      refine va_get (D := D) (ci := 9) (v := .ref (r9 6)) (C := RX9) (T := TX9) (N := 7) hx hb hts w1 hown hK.1 hP 0 rfl rfl 6 (by decide) w0 (fun _ h9 => h9) rfl dX9_work_76 ?_
      refine lv_iload_n hx hb dX9_work_79 rfl (lv_at hl 2 rfl) ?_
      refine lv_iconst (v := 2) hx hb dX9_work_80 (by decide) ?_
      refine lv_isub hx hb dX9_work_81 ?_
      refine lv_topi (fun x84 e85 => ?_)
      try have h86 : x84.toInt = p2.toInt - (2 : Int32).toInt := ci_sub e85 (by omega) (by omega)
      refine lv_iload_n hx hb dX9_work_82 rfl (lv_at hl 1 rfl) ?_
      refine lv_aload_n hx hb dX9_work_83 rfl (lv_at hl 0 rfl) ?_
      refine va_get (D := D) (ci := 9) (v := .ref (r9 6)) (C := RX9) (T := TX9) (N := 7) hx hb hts w1 hown hK.1 hP 0 rfl rfl 6 (by decide) w0 (fun _ h9 => h9) rfl dX9_work_84 ?_
      refine lv_iload_n hx hb dX9_work_87 rfl (lv_at hl 2 rfl) ?_
      refine lv_iconst (v := 2) hx hb dX9_work_88 (by decide) ?_
      refine lv_isub hx hb dX9_work_89 ?_
      refine lv_topi (fun x87 e88 => ?_)
      try have h89 : x87.toInt = p2.toInt - (2 : Int32).toInt := ci_sub e88 (by omega) (by omega)
      refine va_iald hx hb hK.1 hP 1 1 rfl rfl (i := x87) (ix (by omega) (by omega)) dX9_work_90 ?_
      refine lv_topi (fun x90 e91 => ?_)
      refine lv_aload_n hx hb dX9_work_91 rfl (lv_at hl 0 rfl) ?_
      refine va_get (D := D) (ci := 9) (v := .ref (r9 6)) (C := RX9) (T := TX9) (N := 7) hx hb hts w1 hown hK.1 hP 0 rfl rfl 6 (by decide) w0 (fun _ h9 => h9) rfl dX9_work_92 ?_
      refine lv_iload_n hx hb dX9_work_95 rfl (lv_at hl 2 rfl) ?_
      refine lv_iconst (v := 1) hx hb dX9_work_96 (by decide) ?_
      refine lv_isub hx hb dX9_work_97 ?_
      refine lv_topi (fun x92 e93 => ?_)
      try have h94 : x92.toInt = p2.toInt - (1 : Int32).toInt := ci_sub e93 (by omega) (by omega)
      refine va_iald hx hb hK.1 hP 1 1 rfl rfl (i := x92) (ix (by omega) (by omega)) dX9_work_98 ?_
      refine lv_topi (fun x95 e96 => ?_)
      refine kcm_i hA hAB hP hD hS [false, false] rfl (fun _ => rfl) (fun hPc hDc => va_runS (As := [.int p1, .int x90, .int x95]) (rest := [.int x84, .ref (r9 6)]) ⟨hx, hb, hml, hown, hts⟩ (k_X9_joined l D κ β s.heap.size p1 x90 x95) (va_cwS 3 hts gX9_work_X9_joined rfl rfl rfl (by decide +kernel) ⟨Nat.le_of_ble_eq_true rfl, Nat.le_of_ble_eq_true rfl⟩) (pk_S hK hS hAB hPc hDc) rfl rfl hl.1 rfl (lv_room (Nat.le_of_ble_eq_true rfl)) dX9_work_99 ⟨Nat.le_of_ble_eq_true rfl, Nat.le_of_ble_eq_true rfl⟩) (fun x97 u98 H locs hw hPD hS => ?_)
      obtain ⟨hP, hD⟩ : PD D A [O9 a9 r9 v9_count, (cI κ (r9 6) 40 f9_stack)] H := hPD
      refine va_iast hx hb hK.1 hP hD hS 1 1 rfl rfl (i := x84) (ix (by omega) (by omega)) dX9_work_102 (fun H locs hP hD hS => ?_)
      obtain ⟨g99, e100⟩ : ∃ y : Nat → Int32, y = upd f9_stack x84.toNatClampNeg x97 := ⟨_, rfl⟩
      rw [← e100] at hP hD
      obtain ⟨hP, hD⟩ : PD D A [O9 a9 r9 v9_count, (cI κ (r9 6) 40 g99)] H := ⟨hP, hD⟩
      refine lv_iload_n hx hb dX9_work_103 rfl (lv_at hl 2 rfl) ?_
      refine lv_iconst (v := 1) hx hb dX9_work_104 (by decide) ?_
      refine lv_isub hx hb dX9_work_105 ?_
      refine lv_topi (fun x101 e102 => ?_)
      try have h103 : x101.toInt = p2.toInt - (1 : Int32).toInt := ci_sub e102 (by omega) (by omega)
      have hpo : 0 ≤ x101.toInt ∧ x101.toInt ≤ 40 := (by omega)
      exact ret _ _ _ _ x101 g99 dX9_work_106 hpo hP hD hS
    have c82 := ci_eq c82
    refine lv_aload_n hx hb dX9_work_51 rfl (lv_at hl 0 rfl) ?_
    refine va_get (D := D) (ci := 9) (v := .ref (r9 6)) (C := RX9) (T := TX9) (N := 7) hx hb hts w1 hown hK.1 hP 0 rfl rfl 6 (by decide) w0 (fun _ h9 => h9) rfl dX9_work_52 ?_
    refine lv_iload_n hx hb dX9_work_55 rfl (lv_at hl 2 rfl) ?_
    refine lv_iconst (v := 1) hx hb dX9_work_56 (by decide) ?_
    refine lv_isub hx hb dX9_work_57 ?_
    refine lv_topi (fun x104 e105 => ?_)
    try have h106 : x104.toInt = p2.toInt - (1 : Int32).toInt := ci_sub e105 (by omega) (by omega)
    refine lv_aload_n hx hb dX9_work_58 rfl (lv_at hl 0 rfl) ?_
    refine va_get (D := D) (ci := 9) (v := .ref (r9 6)) (C := RX9) (T := TX9) (N := 7) hx hb hts w1 hown hK.1 hP 0 rfl rfl 6 (by decide) w0 (fun _ h9 => h9) rfl dX9_work_59 ?_
    refine lv_iload_n hx hb dX9_work_62 rfl (lv_at hl 2 rfl) ?_
    refine lv_iconst (v := 1) hx hb dX9_work_63 (by decide) ?_
    refine lv_isub hx hb dX9_work_64 ?_
    refine lv_topi (fun x107 e108 => ?_)
    try have h109 : x107.toInt = p2.toInt - (1 : Int32).toInt := ci_sub e108 (by omega) (by omega)
    refine va_iald hx hb hK.1 hP 1 1 rfl rfl (i := x107) (ix (by omega) (by omega)) dX9_work_65 ?_
    refine lv_topi (fun x110 e111 => ?_)
    refine lv_ineg hx hb dX9_work_66 ?_
    refine lv_topi (fun x112 e113 => ?_)
    try have h114 : x112.toInt = -x110.toInt := ci_neg e113 (by omega)
    refine va_iast hx hb hK.1 hP hD hS 1 1 rfl rfl (i := x104) (ix (by omega) (by omega)) dX9_work_67 (fun H locs hP hD hS => ?_)
    obtain ⟨g115, e116⟩ : ∃ y : Nat → Int32, y = upd f9_stack x104.toNatClampNeg x112 := ⟨_, rfl⟩
    rw [← e116] at hP hD
    obtain ⟨hP, hD⟩ : PD D A [O9 a9 r9 v9_count, (cI κ (r9 6) 40 g115)] H := ⟨hP, hD⟩
    refine lv_iload_n hx hb dX9_work_68 rfl (lv_at hl 2 rfl) ?_
    have hpo : 0 ≤ p2.toInt ∧ p2.toInt ≤ 40 := (by omega)
    exact ret _ _ _ _ p2 g115 dX9_work_69 hpo hP hD hS
  have c59 := ci_eq c59
  refine lv_aload_n hx hb dX9_work_11 rfl (lv_at hl 0 rfl) ?_
  refine va_get (D := D) (ci := 9) (v := .ref (r9 6)) (C := RX9) (T := TX9) (N := 7) hx hb hts w1 hown hK.1 hP 0 rfl rfl 6 (by decide) w0 (fun _ h9 => h9) rfl dX9_work_12 ?_
  refine lv_iload_n hx hb dX9_work_15 rfl (lv_at hl 2 rfl) ?_
  refine lv_iconst (v := 1) hx hb dX9_work_16 (by decide) ?_
  refine lv_isub hx hb dX9_work_17 ?_
  refine lv_topi (fun x117 e118 => ?_)
  try have h119 : x117.toInt = p2.toInt - (1 : Int32).toInt := ci_sub e118 (by omega) (by omega)
  refine lv_aload_n hx hb dX9_work_18 rfl (lv_at hl 0 rfl) ?_
  refine va_get (D := D) (ci := 9) (v := .ref (r9 6)) (C := RX9) (T := TX9) (N := 7) hx hb hts w1 hown hK.1 hP 0 rfl rfl 6 (by decide) w0 (fun _ h9 => h9) rfl dX9_work_19 ?_
  refine lv_iload_n hx hb dX9_work_22 rfl (lv_at hl 2 rfl) ?_
  refine lv_iconst (v := 1) hx hb dX9_work_23 (by decide) ?_
  refine lv_isub hx hb dX9_work_24 ?_
  refine lv_topi (fun x120 e121 => ?_)
  try have h122 : x120.toInt = p2.toInt - (1 : Int32).toInt := ci_sub e121 (by omega) (by omega)
  refine va_iald hx hb hK.1 hP 1 1 rfl rfl (i := x120) (ix (by omega) (by omega)) dX9_work_25 ?_
  refine lv_topi (fun x123 e124 => ?_)
  refine lv_if_ne (tgt := 33) hx hb dX9_work_26 (by decide) (fun c125 => ?_) (fun c125 => ?_)
  · have c125 := ci_ne c125
    refine lv_iconst (v := 0) hx hb dX9_work_33 (by decide) ?_
    refine kcm_i hA hAB hP hD hS [false, false] rfl (fun _ => rfl) (fun hPc hDc => va_runSN (As := [.int 0]) (rest := [.int x117, .ref (r9 6)]) ⟨hx, hb, hml, hown, hts⟩ (k_X11_asBit l D κ β s.heap.size 0) ⟨va_cnB 1 hts gX9_work_X11_asBit_n60 rfl rfl rfl w4 w2 (by decide +kernel) ⟨Nat.le_of_ble_eq_true rfl, Nat.le_of_ble_eq_true rfl⟩, w3, trivial⟩ (pk_S hK hS hAB hPc hDc) rfl rfl hl.1 rfl (lv_room (Nat.le_of_ble_eq_true rfl)) dX9_work_34 ⟨Nat.le_of_ble_eq_true rfl, Nat.le_of_ble_eq_true rfl⟩) (fun x126 u127 H locs hw hPD hS => ?_)
    have h128 : (x126.toInt = 1 ∧ (0 : Int32).toInt ≠ 0) ∨ (x126.toInt = 0 ∧ (0 : Int32).toInt = 0) := hw
    obtain ⟨hP, hD⟩ : PD D A [O9 a9 r9 v9_count, (cI κ (r9 6) 40 f9_stack)] H := hPD
    refine va_iast hx hb hK.1 hP hD hS 1 1 rfl rfl (i := x117) (ix (by omega) (by omega)) dX9_work_37 (fun H locs hP hD hS => ?_)
    obtain ⟨g129, e130⟩ : ∃ y : Nat → Int32, y = upd f9_stack x117.toNatClampNeg x126 := ⟨_, rfl⟩
    rw [← e130] at hP hD
    obtain ⟨hP, hD⟩ : PD D A [O9 a9 r9 v9_count, (cI κ (r9 6) 40 g129)] H := ⟨hP, hD⟩
    refine lv_iload_n hx hb dX9_work_38 rfl (lv_at hl 2 rfl) ?_
    have hpo : 0 ≤ p2.toInt ∧ p2.toInt ≤ 40 := (by omega)
    exact ret _ _ _ _ p2 g129 dX9_work_39 hpo hP hD hS
  have c125 := ci_eq c125
  refine lv_iconst (v := 1) hx hb dX9_work_29 (by decide) ?_
  refine lv_goto (tgt := 34) hx hb dX9_work_30 (by decide) ?_
  refine kcm_i hA hAB hP hD hS [false, false] rfl (fun _ => rfl) (fun hPc hDc => va_runSN (As := [.int 1]) (rest := [.int x117, .ref (r9 6)]) ⟨hx, hb, hml, hown, hts⟩ (k_X11_asBit l D κ β s.heap.size 1) ⟨va_cnB 1 hts gX9_work_X11_asBit_n60 rfl rfl rfl w4 w2 (by decide +kernel) ⟨Nat.le_of_ble_eq_true rfl, Nat.le_of_ble_eq_true rfl⟩, w3, trivial⟩ (pk_S hK hS hAB hPc hDc) rfl rfl hl.1 rfl (lv_room (Nat.le_of_ble_eq_true rfl)) dX9_work_34 ⟨Nat.le_of_ble_eq_true rfl, Nat.le_of_ble_eq_true rfl⟩) (fun x131 u132 H locs hw hPD hS => ?_)
  have h133 : (x131.toInt = 1 ∧ (1 : Int32).toInt ≠ 0) ∨ (x131.toInt = 0 ∧ (1 : Int32).toInt = 0) := hw
  obtain ⟨hP, hD⟩ : PD D A [O9 a9 r9 v9_count, (cI κ (r9 6) 40 f9_stack)] H := hPD
  refine va_iast hx hb hK.1 hP hD hS 1 1 rfl rfl (i := x117) (ix (by omega) (by omega)) dX9_work_37 (fun H locs hP hD hS => ?_)
  obtain ⟨g134, e135⟩ : ∃ y : Nat → Int32, y = upd f9_stack x117.toNatClampNeg x131 := ⟨_, rfl⟩
  rw [← e135] at hP hD
  obtain ⟨hP, hD⟩ : PD D A [O9 a9 r9 v9_count, (cI κ (r9 6) 40 g134)] H := ⟨hP, hD⟩
  refine lv_iload_n hx hb dX9_work_38 rfl (lv_at hl 2 rfl) ?_
  have hpo : 0 ≤ p2.toInt ∧ p2.toInt ≤ 40 := (by omega)
  exact ret _ _ _ _ p2 g134 dX9_work_39 hpo hP hD hS
set_option maxHeartbeats 4000000 in
set_option maxRecDepth 100000 in
theorem k_X9_valueOf (l : Launch) (D : va_G) (κ : Nat → ClassId) (β : Nat) (a9 : Nat) (r9 : Nat → Nat) (v9_count : Int32) (f9_stack : Nat → Int32) (nq1 : Nat) (fq1 : Nat → Int32) (fq3 : Nat → Int32) (sz : Nat) (q1 : Nat) (p2 : Int32) (q3 : Nat) (i1 : Rg 0 6 v9_count) (i2 : p2.toInt ≤ ((nq1 : Nat) : Int)) : Met l yX9_valueOf wsX9_valueOf ({ frames := 3, cells := 0, slots := 0, locals := 64 } : Room) (PcK D κ β [O9 a9 r9 v9_count, (cI κ (r9 6) 40 f9_stack), (cI κ q1 nq1 fq1), (cI κ q3 8 fq3)] sz [.ref a9, .ref q1, .int p2, .ref q3]) (QiK D (fun (r : Int32) (u : (Nat → Int32)) => True) (fun (u : (Nat → Int32)) => [O9 a9 r9 v9_count, (cI κ (r9 6) 40 u), (cI κ q1 nq1 fq1), (cI κ q3 8 fq3)]) [O9 a9 r9 v9_count, (cI κ (r9 6) 40 f9_stack), (cI κ q1 nq1 fq1), (cI κ q3 8 fq3)] sz) 0 0 (va_A [O9 a9 r9 v9_count, (cI κ (r9 6) 40 f9_stack), (cI κ q1 nq1 fq1), (cI κ q3 8 fq3)] sz) := by
  refine ofK_i (cc := cX9_valueOf) (maxL := 8) (own := RX9) (by decide) rfl rfl (Nat.le_of_ble_eq_true rfl) ?_
  intro p e s m args below meth c Q A ls hsz hx hb hml hts hown hK hA hAB hP hD hl ret
  have hS : va_S A s.heap s.heap [] := va_S.rf
  have hl : lv_has ls 8 [(0, .ref a9), (1, .ref q1), (2, .int p2), (3, .ref q3)] := hl
  have w0 := hts (.fieldLink RX9 29 "OlderSkin$Stories" "stack" "[I") (List.mem_of_getElem? (i := 1) rfl)
  have w1 := (fun w h => List.mem_cons_of_mem _ (List.mem_append_right _ h) : ∀ w ∈ u_ws RX9 TX9 7, w ∈ wsX9_valueOf)
  have l0 : (0 : Int32).toInt = 0 := by decide
  have l1 : ((-59) : Int32).toInt = -59 := by decide
  have l2 : ((-63) : Int32).toInt = -63 := by decide
  have l3 : (8 : Int32).toInt = 8 := by decide
  have l4 : (1 : Int32).toInt = 1 := by decide
  have l5 : (40 : Int32).toInt = 40 := by decide
  have l6 : ((-1) : Int32).toInt = -1 := by decide
  have rg2 := ci_rng p2
  refine lv_iconst (v := 0) hx hb dX9_valueOf_0 (by decide) ?_
  refine lv_istore (lv' := [(4, .int 0), (0, .ref a9), (1, .ref q1), (2, .int p2), (3, .ref q3)]) hx hb dX9_valueOf_1 hl (by decide) rfl (fun ls hl => ?_)
  refine lv_iconst (v := 0) hx hb dX9_valueOf_3 (by decide) ?_
  refine lv_istore (lv' := [(5, .int 0), (4, .int 0), (0, .ref a9), (1, .ref q1), (2, .int p2), (3, .ref q3)]) hx hb dX9_valueOf_4 hl (by decide) rfl (fun ls hl => ?_)
  refine lv_iconst (v := 0) hx hb dX9_valueOf_6 (by decide) ?_
  refine lv_istore (lv' := [(6, .int 0), (5, .int 0), (4, .int 0), (0, .ref a9), (1, .ref q1), (2, .int p2), (3, .ref q3)]) hx hb dX9_valueOf_7 hl (by decide) rfl (fun ls hl => ?_)
  have lp9 : ∀ (n9 : Nat) (k1 : Int32) (k2 : Int32) (k3 : Int32) (g4 : Nat → Int32), (0 ≤ k3.toInt ∧ k3.toInt ≤ 40) → (0 ≤ k1.toInt) → (p2.toInt - k1.toInt).toNat < n9 → ∀ (H : Heap) (locs : List Loc), va_P D vwCl [O9 a9 r9 v9_count, (cI κ (r9 6) 40 g4), (cI κ q1 nq1 fq1), (cI κ q3 8 fq3)] H → va_D A [O9 a9 r9 v9_count, (cI κ (r9 6) 40 g4), (cI κ q1 nq1 fq1), (cI κ q3 8 fq3)] → va_S A s.heap H locs → ∀ ls : Array Slot, lv_has ls 8 [(6, .int k1), (5, .int k2), (4, .int k3), (0, .ref a9), (1, .ref q1), (2, .int p2), (3, .ref q3)] → W p l e ({ frames := 3, cells := 0, slots := 0, locals := 64 } : Room) s m args below meth c H locs 0 0 Q (F0 m 9 ls []) := by
    intro n9
    induction n9 with
    | zero =>
      intro k1 k2 k3 g4 h5 h6 m7
      exact absurd m7 (Nat.not_lt_zero _)
    | succ n9 ih9 =>
      intro k1 k2 k3 g4 h5 h6 m7 H locs hP hD hS ls hl
      refine lv_iload hx hb dX9_valueOf_9 (lv_at hl 0 rfl) ?_
      refine lv_iload_n hx hb dX9_valueOf_11 rfl (lv_at hl 5 rfl) ?_
      refine lv_icmp_ge (tgt := 152) hx hb dX9_valueOf_12 (by decide) (fun c8 => ?_) (fun c8 => ?_)
      · have c8 := ci_le c8
        refine lv_iconst (v := 0) hx hb dX9_valueOf_152 (by decide) ?_
        exact ret _ _ _ _ 0 g4 dX9_valueOf_153 trivial hP hD hS
      have c8 := ci_nle c8
      refine lv_aload_n hx hb dX9_valueOf_15 rfl (lv_at hl 4 rfl) ?_
      refine lv_iload hx hb dX9_valueOf_16 (lv_at hl 0 rfl) ?_
      refine va_iald hx hb hK.1 hP 2 1 rfl rfl (i := k1) (ix (by omega) (by omega)) dX9_valueOf_18 ?_
      refine lv_topi (fun x9 e10 => ?_)
      refine lv_istore (lv' := [(7, .int x9), (6, .int k1), (5, .int k2), (4, .int k3), (0, .ref a9), (1, .ref q1), (2, .int p2), (3, .ref q3)]) hx hb dX9_valueOf_19 hl (by decide) rfl (fun ls hl => ?_)
      refine lv_iload hx hb dX9_valueOf_21 (lv_at hl 2 rfl) ?_
      refine lv_if_eq (tgt := 43) hx hb dX9_valueOf_23 (by decide) (fun c11 => ?_) (fun c11 => ?_)
      · have c11 := ci_eq c11
        refine lv_iload hx hb dX9_valueOf_43 (lv_at hl 0 rfl) ?_
        refine lv_bipush (v := (-59)) hx hb dX9_valueOf_45 (by decide) ?_
        refine lv_icmp_ne (tgt := 57) hx hb dX9_valueOf_47 (by decide) (fun c12 => ?_) (fun c12 => ?_)
        · have c12 := ci_ne c12
          refine lv_iload hx hb dX9_valueOf_57 (lv_at hl 0 rfl) ?_
          refine lv_bipush (v := (-63)) hx hb dX9_valueOf_59 (by decide) ?_
          refine lv_icmp_ne (tgt := 86) hx hb dX9_valueOf_61 (by decide) (fun c13 => ?_) (fun c13 => ?_)
          · have c13 := ci_ne c13
            refine lv_iload hx hb dX9_valueOf_86 (lv_at hl 0 rfl) ?_
            refine lv_aload_n hx hb dX9_valueOf_88 rfl (lv_at hl 7 rfl) ?_
            refine va_alen hx hb hK.1 hP 3 1 rfl rfl (v := 8) rfl dX9_valueOf_89 ?_
            refine lv_ineg hx hb dX9_valueOf_90 ?_
            refine lv_topi (fun x14 e15 => ?_)
            try have h16 : x14.toInt = -(8 : Int32).toInt := ci_neg e15 (by omega)
            refine lv_icmp_lt (tgt := 135) hx hb dX9_valueOf_91 (by decide) (fun c17 => ?_) (fun c17 => ?_)
            · have c17 := ci_lt c17
              refine lv_aload_n hx hb dX9_valueOf_135 rfl (lv_at hl 4 rfl) ?_
              refine lv_iload hx hb dX9_valueOf_136 (lv_at hl 0 rfl) ?_
              refine lv_ineg hx hb dX9_valueOf_138 ?_
              refine lv_topi (fun x18 e19 => ?_)
              try have h20 : x18.toInt = -x9.toInt := ci_neg e19 (by omega)
              refine lv_iload hx hb dX9_valueOf_139 (lv_at hl 3 rfl) ?_
              refine kcm_i hA hAB hP hD hS [true, true, false, false] rfl (fun _ => rfl) (fun hPc hDc => va_runV (As := [.int x18, .int k3]) (rest := []) ⟨hx, hb, hml, hown, hts⟩ (k_X9_work l D κ β a9 r9 v9_count g4 H.size x18 k3 i1 (by omega)) (cwV 2 hts gX9_valueOf_X9_work rfl rfl rfl (by decide +kernel) ⟨Nat.le_of_ble_eq_true rfl, Nat.le_of_ble_eq_true rfl⟩) (pk_V hK hS hAB hPc hDc 0 (ci := 9) rfl rfl rfl) rfl rfl hl.1 rfl (lv_room (Nat.le_of_ble_eq_true rfl)) dX9_valueOf_141 ⟨Nat.le_of_ble_eq_true rfl, Nat.le_of_ble_eq_true rfl⟩) (fun x22 g21 H locs hw hPD hS => ?_)
              have h23 : 0 ≤ x22.toInt ∧ x22.toInt ≤ 40 := hw
              obtain ⟨hP, hD⟩ : PD D A [O9 a9 r9 v9_count, (cI κ (r9 6) 40 g21), (cI κ q1 nq1 fq1), (cI κ q3 8 fq3)] H := hPD
              refine lv_istore (lv' := [(4, .int x22), (7, .int x9), (6, .int k1), (5, .int k2), (0, .ref a9), (1, .ref q1), (2, .int p2), (3, .ref q3)]) hx hb dX9_valueOf_144 hl (by decide) rfl (fun ls hl => ?_)
              obtain ⟨x24, e25⟩ : ∃ y : Int32, y = k1 + 1 := ⟨_, rfl⟩
              refine lv_iinc (v := x24) (lv' := [(6, .int x24), (4, .int x22), (7, .int x9), (5, .int k2), (0, .ref a9), (1, .ref q1), (2, .int p2), (3, .ref q3)]) hx hb dX9_valueOf_146 hl (k := 2) rfl (by rw [e25]; rfl) (by decide) rfl (fun ls hl => ?_)
              try have h26 : x24.toInt = k1.toInt + (1 : Int32).toInt := ci_add e25 (by omega) (by omega)
              refine lv_goto (tgt := 9) hx hb dX9_valueOf_149 (by decide) ?_
              exact ih9 x24 k2 x22 g21 (by omega) (by omega) (by omega) _ _ hP hD hS _ (lv_sub hl [0, 3, 1, 4, 5, 6, 7] rfl)
            have c17 := ci_nlt c17
            refine lv_iload hx hb dX9_valueOf_94 (lv_at hl 3 rfl) ?_
            refine lv_aload_n hx hb dX9_valueOf_96 rfl (lv_at hl 4 rfl) ?_
            refine va_get (D := D) (ci := 9) (v := .ref (r9 6)) (C := RX9) (T := TX9) (N := 7) hx hb hts w1 hown hK.1 hP 0 rfl rfl 6 (by decide) w0 (fun _ h9 => h9) rfl dX9_valueOf_97 ?_
            refine va_alen hx hb hK.1 hP 1 1 rfl rfl (v := 40) rfl dX9_valueOf_100 ?_
            refine lv_icmp_ne (tgt := 106) hx hb dX9_valueOf_101 (by decide) (fun c27 => ?_) (fun c27 => ?_)
            · have c27 := ci_ne c27
              refine lv_aload_n hx hb dX9_valueOf_106 rfl (lv_at hl 4 rfl) ?_
              refine va_get (D := D) (ci := 9) (v := .ref (r9 6)) (C := RX9) (T := TX9) (N := 7) hx hb hts w1 hown hK.1 hP 0 rfl rfl 6 (by decide) w0 (fun _ h9 => h9) rfl dX9_valueOf_107 ?_
              refine lv_iload hx hb dX9_valueOf_110 (lv_at hl 3 rfl) ?_
              refine lv_iload hx hb dX9_valueOf_112 (lv_at hl 0 rfl) ?_
              refine lv_if_lt (tgt := 122) hx hb dX9_valueOf_114 (by decide) (fun c28 => ?_) (fun c28 => ?_)
              · have c28 := ci_lt c28
                refine lv_aload_n hx hb dX9_valueOf_122 rfl (lv_at hl 7 rfl) ?_
                refine lv_iconst (v := (-1)) hx hb dX9_valueOf_123 (by decide) ?_
                refine lv_iload hx hb dX9_valueOf_124 (lv_at hl 0 rfl) ?_
                refine lv_isub hx hb dX9_valueOf_126 ?_
                refine lv_topi (fun x29 e30 => ?_)
                try have h31 : x29.toInt = ((-1) : Int32).toInt - x9.toInt := ci_sub e30 (by omega) (by omega)
                refine va_iald hx hb hK.1 hP 3 1 rfl rfl (i := x29) (ix (by omega) (by omega)) dX9_valueOf_127 ?_
                refine lv_topi (fun x32 e33 => ?_)
                refine va_iast hx hb hK.1 hP hD hS 1 1 rfl rfl (i := k3) (ix (by omega) (by omega)) dX9_valueOf_128 (fun H locs hP hD hS => ?_)
                obtain ⟨g34, e35⟩ : ∃ y : Nat → Int32, y = upd g4 k3.toNatClampNeg x32 := ⟨_, rfl⟩
                rw [← e35] at hP hD
                obtain ⟨hP, hD⟩ : PD D A [O9 a9 r9 v9_count, (cI κ (r9 6) 40 g34), (cI κ q1 nq1 fq1), (cI κ q3 8 fq3)] H := ⟨hP, hD⟩
                obtain ⟨x36, e37⟩ : ∃ y : Int32, y = k3 + 1 := ⟨_, rfl⟩
                refine lv_iinc (v := x36) (lv' := [(4, .int x36), (7, .int x9), (6, .int k1), (5, .int k2), (0, .ref a9), (1, .ref q1), (2, .int p2), (3, .ref q3)]) hx hb dX9_valueOf_129 hl (k := 3) rfl (by rw [e37]; rfl) (by decide) rfl (fun ls hl => ?_)
                try have h38 : x36.toInt = k3.toInt + (1 : Int32).toInt := ci_add e37 (by omega) (by omega)
                refine lv_goto (tgt := 146) hx hb dX9_valueOf_132 (by decide) ?_
                obtain ⟨x39, e40⟩ : ∃ y : Int32, y = k1 + 1 := ⟨_, rfl⟩
                refine lv_iinc (v := x39) (lv' := [(6, .int x39), (4, .int x36), (7, .int x9), (5, .int k2), (0, .ref a9), (1, .ref q1), (2, .int p2), (3, .ref q3)]) hx hb dX9_valueOf_146 hl (k := 2) rfl (by rw [e40]; rfl) (by decide) rfl (fun ls hl => ?_)
                try have h41 : x39.toInt = k1.toInt + (1 : Int32).toInt := ci_add e40 (by omega) (by omega)
                refine lv_goto (tgt := 9) hx hb dX9_valueOf_149 (by decide) ?_
                exact ih9 x39 k2 x36 g34 (by omega) (by omega) (by omega) _ _ hP hD hS _ (lv_sub hl [0, 3, 1, 4, 5, 6, 7] rfl)
              have c28 := ci_nlt c28
              refine lv_iload hx hb dX9_valueOf_117 (lv_at hl 0 rfl) ?_
              refine lv_goto (tgt := 128) hx hb dX9_valueOf_119 (by decide) ?_
              refine va_iast hx hb hK.1 hP hD hS 1 1 rfl rfl (i := k3) (ix (by omega) (by omega)) dX9_valueOf_128 (fun H locs hP hD hS => ?_)
              obtain ⟨g42, e43⟩ : ∃ y : Nat → Int32, y = upd g4 k3.toNatClampNeg x9 := ⟨_, rfl⟩
              rw [← e43] at hP hD
              obtain ⟨hP, hD⟩ : PD D A [O9 a9 r9 v9_count, (cI κ (r9 6) 40 g42), (cI κ q1 nq1 fq1), (cI κ q3 8 fq3)] H := ⟨hP, hD⟩
              obtain ⟨x44, e45⟩ : ∃ y : Int32, y = k3 + 1 := ⟨_, rfl⟩
              refine lv_iinc (v := x44) (lv' := [(4, .int x44), (7, .int x9), (6, .int k1), (5, .int k2), (0, .ref a9), (1, .ref q1), (2, .int p2), (3, .ref q3)]) hx hb dX9_valueOf_129 hl (k := 3) rfl (by rw [e45]; rfl) (by decide) rfl (fun ls hl => ?_)
              try have h46 : x44.toInt = k3.toInt + (1 : Int32).toInt := ci_add e45 (by omega) (by omega)
              refine lv_goto (tgt := 146) hx hb dX9_valueOf_132 (by decide) ?_
              obtain ⟨x47, e48⟩ : ∃ y : Int32, y = k1 + 1 := ⟨_, rfl⟩
              refine lv_iinc (v := x47) (lv' := [(6, .int x47), (4, .int x44), (7, .int x9), (5, .int k2), (0, .ref a9), (1, .ref q1), (2, .int p2), (3, .ref q3)]) hx hb dX9_valueOf_146 hl (k := 2) rfl (by rw [e48]; rfl) (by decide) rfl (fun ls hl => ?_)
              try have h49 : x47.toInt = k1.toInt + (1 : Int32).toInt := ci_add e48 (by omega) (by omega)
              refine lv_goto (tgt := 9) hx hb dX9_valueOf_149 (by decide) ?_
              exact ih9 x47 k2 x44 g42 (by omega) (by omega) (by omega) _ _ hP hD hS _ (lv_sub hl [0, 3, 1, 4, 5, 6, 7] rfl)
            have c27 := ci_eq c27
            refine lv_iconst (v := 0) hx hb dX9_valueOf_104 (by decide) ?_
            exact ret _ _ _ _ 0 g4 dX9_valueOf_105 trivial hP hD hS
          have c13 := ci_eq c13
          refine lv_aload_n hx hb dX9_valueOf_64 rfl (lv_at hl 4 rfl) ?_
          refine va_get (D := D) (ci := 9) (v := .ref (r9 6)) (C := RX9) (T := TX9) (N := 7) hx hb hts w1 hown hK.1 hP 0 rfl rfl 6 (by decide) w0 (fun _ h9 => h9) rfl dX9_valueOf_65 ?_
          refine lv_iconst (v := 0) hx hb dX9_valueOf_68 (by decide) ?_
          refine va_iald hx hb hK.1 hP 1 1 rfl rfl (i := 0) (ix (by omega) (by omega)) dX9_valueOf_69 ?_
          refine lv_topi (fun x50 e51 => ?_)
          refine lv_if_ne (tgt := 77) hx hb dX9_valueOf_70 (by decide) (fun c52 => ?_) (fun c52 => ?_)
          · have c52 := ci_ne c52
            refine lv_iconst (v := 0) hx hb dX9_valueOf_77 (by decide) ?_
            refine lv_istore (lv' := [(5, .int 0), (7, .int x9), (6, .int k1), (4, .int k3), (0, .ref a9), (1, .ref q1), (2, .int p2), (3, .ref q3)]) hx hb dX9_valueOf_78 hl (by decide) rfl (fun ls hl => ?_)
            refine lv_iconst (v := 0) hx hb dX9_valueOf_80 (by decide) ?_
            refine lv_istore (lv' := [(4, .int 0), (5, .int 0), (7, .int x9), (6, .int k1), (0, .ref a9), (1, .ref q1), (2, .int p2), (3, .ref q3)]) hx hb dX9_valueOf_81 hl (by decide) rfl (fun ls hl => ?_)
            refine lv_goto (tgt := 146) hx hb dX9_valueOf_83 (by decide) ?_
            obtain ⟨x53, e54⟩ : ∃ y : Int32, y = k1 + 1 := ⟨_, rfl⟩
            refine lv_iinc (v := x53) (lv' := [(6, .int x53), (4, .int 0), (5, .int 0), (7, .int x9), (0, .ref a9), (1, .ref q1), (2, .int p2), (3, .ref q3)]) hx hb dX9_valueOf_146 hl (k := 3) rfl (by rw [e54]; rfl) (by decide) rfl (fun ls hl => ?_)
            try have h55 : x53.toInt = k1.toInt + (1 : Int32).toInt := ci_add e54 (by omega) (by omega)
            refine lv_goto (tgt := 9) hx hb dX9_valueOf_149 (by decide) ?_
            exact ih9 x53 0 0 g4 (by omega) (by omega) (by omega) _ _ hP hD hS _ (lv_sub hl [0, 2, 1, 4, 5, 6, 7] rfl)
          have c52 := ci_eq c52
          refine lv_iconst (v := 1) hx hb dX9_valueOf_73 (by decide) ?_
          refine lv_goto (tgt := 78) hx hb dX9_valueOf_74 (by decide) ?_
          refine lv_istore (lv' := [(5, .int 1), (7, .int x9), (6, .int k1), (4, .int k3), (0, .ref a9), (1, .ref q1), (2, .int p2), (3, .ref q3)]) hx hb dX9_valueOf_78 hl (by decide) rfl (fun ls hl => ?_)
          refine lv_iconst (v := 0) hx hb dX9_valueOf_80 (by decide) ?_
          refine lv_istore (lv' := [(4, .int 0), (5, .int 1), (7, .int x9), (6, .int k1), (0, .ref a9), (1, .ref q1), (2, .int p2), (3, .ref q3)]) hx hb dX9_valueOf_81 hl (by decide) rfl (fun ls hl => ?_)
          refine lv_goto (tgt := 146) hx hb dX9_valueOf_83 (by decide) ?_
          obtain ⟨x56, e57⟩ : ∃ y : Int32, y = k1 + 1 := ⟨_, rfl⟩
          refine lv_iinc (v := x56) (lv' := [(6, .int x56), (4, .int 0), (5, .int 1), (7, .int x9), (0, .ref a9), (1, .ref q1), (2, .int p2), (3, .ref q3)]) hx hb dX9_valueOf_146 hl (k := 3) rfl (by rw [e57]; rfl) (by decide) rfl (fun ls hl => ?_)
          try have h58 : x56.toInt = k1.toInt + (1 : Int32).toInt := ci_add e57 (by omega) (by omega)
          refine lv_goto (tgt := 9) hx hb dX9_valueOf_149 (by decide) ?_
          exact ih9 x56 1 0 g4 (by omega) (by omega) (by omega) _ _ hP hD hS _ (lv_sub hl [0, 2, 1, 4, 5, 6, 7] rfl)
        have c12 := ci_eq c12
        refine lv_aload_n hx hb dX9_valueOf_50 rfl (lv_at hl 4 rfl) ?_
        refine va_get (D := D) (ci := 9) (v := .ref (r9 6)) (C := RX9) (T := TX9) (N := 7) hx hb hts w1 hown hK.1 hP 0 rfl rfl 6 (by decide) w0 (fun _ h9 => h9) rfl dX9_valueOf_51 ?_
        refine lv_iconst (v := 0) hx hb dX9_valueOf_54 (by decide) ?_
        refine va_iald hx hb hK.1 hP 1 1 rfl rfl (i := 0) (ix (by omega) (by omega)) dX9_valueOf_55 ?_
        refine lv_topi (fun x59 e60 => ?_)
        exact ret _ _ _ _ x59 g4 dX9_valueOf_56 trivial hP hD hS
      have c11 := ci_ne c11
      refine lv_iload hx hb dX9_valueOf_26 (lv_at hl 0 rfl) ?_
      refine lv_bipush (v := (-59)) hx hb dX9_valueOf_28 (by decide) ?_
      refine lv_icmp_eq (tgt := 37) hx hb dX9_valueOf_30 (by decide) (fun c61 => ?_) (fun c61 => ?_)
      · have c61 := ci_eq c61
        refine lv_iconst (v := 0) hx hb dX9_valueOf_37 (by decide) ?_
        refine lv_istore (lv' := [(5, .int 0), (7, .int x9), (6, .int k1), (4, .int k3), (0, .ref a9), (1, .ref q1), (2, .int p2), (3, .ref q3)]) hx hb dX9_valueOf_38 hl (by decide) rfl (fun ls hl => ?_)
        refine lv_goto (tgt := 146) hx hb dX9_valueOf_40 (by decide) ?_
        obtain ⟨x62, e63⟩ : ∃ y : Int32, y = k1 + 1 := ⟨_, rfl⟩
        refine lv_iinc (v := x62) (lv' := [(6, .int x62), (5, .int 0), (7, .int x9), (4, .int k3), (0, .ref a9), (1, .ref q1), (2, .int p2), (3, .ref q3)]) hx hb dX9_valueOf_146 hl (k := 2) rfl (by rw [e63]; rfl) (by decide) rfl (fun ls hl => ?_)
        try have h64 : x62.toInt = k1.toInt + (1 : Int32).toInt := ci_add e63 (by omega) (by omega)
        refine lv_goto (tgt := 9) hx hb dX9_valueOf_149 (by decide) ?_
        exact ih9 x62 0 k3 g4 (by omega) (by omega) (by omega) _ _ hP hD hS _ (lv_sub hl [0, 1, 3, 4, 5, 6, 7] rfl)
      have c61 := ci_ne c61
      refine lv_iconst (v := 1) hx hb dX9_valueOf_33 (by decide) ?_
      refine lv_goto (tgt := 38) hx hb dX9_valueOf_34 (by decide) ?_
      refine lv_istore (lv' := [(5, .int 1), (7, .int x9), (6, .int k1), (4, .int k3), (0, .ref a9), (1, .ref q1), (2, .int p2), (3, .ref q3)]) hx hb dX9_valueOf_38 hl (by decide) rfl (fun ls hl => ?_)
      refine lv_goto (tgt := 146) hx hb dX9_valueOf_40 (by decide) ?_
      obtain ⟨x65, e66⟩ : ∃ y : Int32, y = k1 + 1 := ⟨_, rfl⟩
      refine lv_iinc (v := x65) (lv' := [(6, .int x65), (5, .int 1), (7, .int x9), (4, .int k3), (0, .ref a9), (1, .ref q1), (2, .int p2), (3, .ref q3)]) hx hb dX9_valueOf_146 hl (k := 2) rfl (by rw [e66]; rfl) (by decide) rfl (fun ls hl => ?_)
      try have h67 : x65.toInt = k1.toInt + (1 : Int32).toInt := ci_add e66 (by omega) (by omega)
      refine lv_goto (tgt := 9) hx hb dX9_valueOf_149 (by decide) ?_
      exact ih9 x65 1 k3 g4 (by omega) (by omega) (by omega) _ _ hP hD hS _ (lv_sub hl [0, 1, 3, 4, 5, 6, 7] rfl)
  exact lp9 ((p2.toInt - (0 : Int32).toInt).toNat + 1) 0 0 0 f9_stack (by omega) (by omega) (by omega) _ _ hP hD hS _ hl
set_option maxHeartbeats 4000000 in
set_option maxRecDepth 100000 in
theorem k_X9_weigh (l : Launch) (D : va_G) (κ : Nat → ClassId) (β : Nat) (a9 : Nat) (r9 : Nat → Nat) (v9_count : Int32) (f9_weights : Nat → Int32) (g9 : Nat → Nat) (n9_rows : Nat → Nat) (F9 : Nat → Nat → Int32) (f9_sizes : Nat → Int32) (f9_stack : Nat → Int32) (fq2 : Nat → Int32) (sz : Nat) (p1 : Int32) (q2 : Nat) (i1 : Rg 0 6 v9_count) (hf9_sizes : ∀ j : Nat, (f9_sizes j).toInt ≤ 4096) (hszr : ∀ j : Nat, (f9_sizes j).toInt ≤ ((n9_rows j : Nat) : Int)) (i2 : 0 ≤ p1.toInt ∧ p1.toInt ≤ 5) : Met l yX9_weigh wsX9_weigh ({ frames := 4, cells := 0, slots := 0, locals := 91 } : Room) (PcK D κ β [O9 a9 r9 v9_count, (cI κ (r9 2) 6 f9_weights), (cRI κ (r9 3) 6 (fun i => some (g9 i))), (cI κ (g9 0) (n9_rows 0) (F9 0)), (cI κ (g9 1) (n9_rows 1) (F9 1)), (cI κ (g9 2) (n9_rows 2) (F9 2)), (cI κ (g9 3) (n9_rows 3) (F9 3)), (cI κ (g9 4) (n9_rows 4) (F9 4)), (cI κ (g9 5) (n9_rows 5) (F9 5)), (cI κ (r9 4) 6 f9_sizes), (cI κ (r9 6) 40 f9_stack), (cI κ q2 8 fq2)] sz [.ref a9, .int p1, .ref q2]) (QvK D (fun (u : (Nat → Int32) × (Nat → Int32)) => True) (fun (u : (Nat → Int32) × (Nat → Int32)) => [O9 a9 r9 v9_count, (cI κ (r9 2) 6 u.1), (cRI κ (r9 3) 6 (fun i => some (g9 i))), (cI κ (g9 0) (n9_rows 0) (F9 0)), (cI κ (g9 1) (n9_rows 1) (F9 1)), (cI κ (g9 2) (n9_rows 2) (F9 2)), (cI κ (g9 3) (n9_rows 3) (F9 3)), (cI κ (g9 4) (n9_rows 4) (F9 4)), (cI κ (g9 5) (n9_rows 5) (F9 5)), (cI κ (r9 4) 6 f9_sizes), (cI κ (r9 6) 40 u.2), (cI κ q2 8 fq2)]) [O9 a9 r9 v9_count, (cI κ (r9 2) 6 f9_weights), (cRI κ (r9 3) 6 (fun i => some (g9 i))), (cI κ (g9 0) (n9_rows 0) (F9 0)), (cI κ (g9 1) (n9_rows 1) (F9 1)), (cI κ (g9 2) (n9_rows 2) (F9 2)), (cI κ (g9 3) (n9_rows 3) (F9 3)), (cI κ (g9 4) (n9_rows 4) (F9 4)), (cI κ (g9 5) (n9_rows 5) (F9 5)), (cI κ (r9 4) 6 f9_sizes), (cI κ (r9 6) 40 f9_stack), (cI κ q2 8 fq2)] sz) 0 0 (va_A [O9 a9 r9 v9_count, (cI κ (r9 2) 6 f9_weights), (cRI κ (r9 3) 6 (fun i => some (g9 i))), (cI κ (g9 0) (n9_rows 0) (F9 0)), (cI κ (g9 1) (n9_rows 1) (F9 1)), (cI κ (g9 2) (n9_rows 2) (F9 2)), (cI κ (g9 3) (n9_rows 3) (F9 3)), (cI κ (g9 4) (n9_rows 4) (F9 4)), (cI κ (g9 5) (n9_rows 5) (F9 5)), (cI κ (r9 4) 6 f9_sizes), (cI κ (r9 6) 40 f9_stack), (cI κ q2 8 fq2)] sz) := by
  refine ofK_v (cc := cX9_weigh) (maxL := 3) (own := RX9) (by decide) rfl rfl (Nat.le_of_ble_eq_true rfl) ?_
  intro p e s m args below meth c Q A ls hsz hx hb hml hts hown hK hA hAB hP hD hl hname ret
  have hS : va_S A s.heap s.heap [] := va_S.rf
  have hl : lv_has ls 3 [(0, .ref a9), (1, .int p1), (2, .ref q2)] := hl
  have w0 := hts (.fieldLink RX9 18 "OlderSkin$Stories" "weights" "[I") (List.mem_of_getElem? (i := 1) rfl)
  have w1 := (fun w h => List.mem_cons_of_mem _ (List.mem_append_right _ h) : ∀ w ∈ u_ws RX9 TX9 7, w ∈ wsX9_weigh)
  have w2 := hts (.fieldLink RX9 23 "OlderSkin$Stories" "steps" "[[I") (List.mem_of_getElem? (i := 2) rfl)
  have w3 := hts (.fieldLink RX9 26 "OlderSkin$Stories" "sizes" "[I") (List.mem_of_getElem? (i := 3) rfl)
  have w4 := hts (.methodLink RX9 48 Lib.Math.min.name) (List.mem_of_getElem? (i := 4) rfl)
  have w5 := hts (.static Lib.Math.min.name) (List.mem_of_getElem? (i := 5) rfl)
  have w6 := hts (.initialized "java/lang/Math") (List.mem_of_getElem? (i := 6) rfl)
  have w7 := hts (.code Lib.Math.min.name Lib.Math.min.code 2 (some .int)) (List.mem_of_getElem? (i := 7) rfl)
  have w8 := hts (.methodLink RX9 54 Lib.Math.max.name) (List.mem_of_getElem? (i := 8) rfl)
  have w9 := hts (.static Lib.Math.max.name) (List.mem_of_getElem? (i := 9) rfl)
  have w10 := hts (.code Lib.Math.max.name Lib.Math.max.code 2 (some .int)) (List.mem_of_getElem? (i := 10) rfl)
  have l0 : (0 : Int32).toInt = 0 := by decide
  have l1 : (9999 : Int32).toInt = 9999 := by decide
  refine lv_aload_n hx hb dX9_weigh_0 rfl (lv_at hl 0 rfl) ?_
  refine va_get (D := D) (ci := 9) (v := .ref (r9 2)) (C := RX9) (T := TX9) (N := 7) hx hb hts w1 hown hK.1 hP 0 rfl rfl 2 (by decide) w0 (fun _ h9 => h9) rfl dX9_weigh_1 ?_
  refine lv_iload_n hx hb dX9_weigh_4 rfl (lv_at hl 1 rfl) ?_
  refine lv_iconst (v := 0) hx hb dX9_weigh_5 (by decide) ?_
  refine lv_aload_n hx hb dX9_weigh_6 rfl (lv_at hl 0 rfl) ?_
  refine lv_aload_n hx hb dX9_weigh_7 rfl (lv_at hl 0 rfl) ?_
  refine va_get (D := D) (ci := 9) (v := .ref (r9 3)) (C := RX9) (T := TX9) (N := 7) hx hb hts w1 hown hK.1 hP 0 rfl rfl 3 (by decide) w2 (fun _ h9 => h9) rfl dX9_weigh_8 ?_
  refine lv_iload_n hx hb dX9_weigh_11 rfl (lv_at hl 1 rfl) ?_
  obtain ⟨j1, hj1, ej1⟩ : ∃ y : Nat, y < 6 ∧ p1.toNatClampNeg = y := ⟨_, by have := ci_clamp (i := p1) (by omega); omega, rfl⟩
  refine va_aldG rfl hx hb hK.1 hP 2 4 rfl rfl (i := p1) (j := j1) ej1 (ix (by omega) (by omega)) dX9_weigh_12 ?_
  refine lv_aload_n hx hb dX9_weigh_13 rfl (lv_at hl 0 rfl) ?_
  refine va_get (D := D) (ci := 9) (v := .ref (r9 4)) (C := RX9) (T := TX9) (N := 7) hx hb hts w1 hown hK.1 hP 0 rfl rfl 4 (by decide) w3 (fun _ h9 => h9) rfl dX9_weigh_14 ?_
  refine lv_iload_n hx hb dX9_weigh_17 rfl (lv_at hl 1 rfl) ?_
  refine va_iald hx hb hK.1 hP 9 1 rfl rfl (i := p1) (ix (by omega) (by omega)) dX9_weigh_18 ?_
  refine lv_topi (fun x2 e3 => ?_)
  have h4 : x2.toInt ≤ ((n9_rows j1 : Nat) : Int) := by rw [e3, ej1]; exact hszr j1
  have h5 : x2.toInt ≤ 4096 := by rw [e3]; exact hf9_sizes _
  refine lv_aload_n hx hb dX9_weigh_19 rfl (lv_at hl 2 rfl) ?_
  rcases six hj1 with h | h | h | h | h | h
  · subst h
    refine kc_i hA hAB hP hD hS (wc := [O9 a9 r9 v9_count, (cI κ (r9 6) 40 f9_stack), (cI κ (g9 0) (n9_rows 0) (F9 0)), (cI κ q2 8 fq2)]) (wr := [(cI κ (r9 2) 6 f9_weights), (cRI κ (r9 3) 6 (fun i => some (g9 i))), (cI κ (g9 1) (n9_rows 1) (F9 1)), (cI κ (g9 2) (n9_rows 2) (F9 2)), (cI κ (g9 3) (n9_rows 3) (F9 3)), (cI κ (g9 4) (n9_rows 4) (F9 4)), (cI κ (g9 5) (n9_rows 5) (F9 5)), (cI κ (r9 4) 6 f9_sizes)]) [0, 10, 3, 11] [1, 2, 4, 5, 6, 7, 8, 9] rfl rfl (by decide) (by decide) (by decide) (fun hPc hDc => va_runV (As := [.ref (g9 0), .int x2, .ref q2]) (rest := [.int 0, .int p1, .ref (r9 2)]) ⟨hx, hb, hml, hown, hts⟩ (k_X9_valueOf l D κ β a9 r9 v9_count f9_stack (n9_rows 0) (F9 0) fq2 s.heap.size (g9 0) x2 q2 i1 (by omega)) (cwV 3 hts gX9_weigh_X9_valueOf rfl rfl rfl (by decide +kernel) ⟨Nat.le_of_ble_eq_true rfl, Nat.le_of_ble_eq_true rfl⟩) (pk_V hK hS hAB hPc hDc 0 (ci := 9) rfl rfl rfl) rfl rfl hl.1 rfl (lv_room (Nat.le_of_ble_eq_true rfl)) dX9_weigh_20 ⟨Nat.le_of_ble_eq_true rfl, Nat.le_of_ble_eq_true rfl⟩) (fun x7 g6 H locs hw hP hD hS => ?_)
    obtain ⟨hP, hD⟩ : PD D A [(cI κ (r9 2) 6 f9_weights), (cRI κ (r9 3) 6 (fun i => some (g9 i))), (cI κ (g9 1) (n9_rows 1) (F9 1)), (cI κ (g9 2) (n9_rows 2) (F9 2)), (cI κ (g9 3) (n9_rows 3) (F9 3)), (cI κ (g9 4) (n9_rows 4) (F9 4)), (cI κ (g9 5) (n9_rows 5) (F9 5)), (cI κ (r9 4) 6 f9_sizes), O9 a9 r9 v9_count, (cI κ (r9 6) 40 g6), (cI κ (g9 0) (n9_rows 0) (F9 0)), (cI κ q2 8 fq2)] H := ⟨hP, hD⟩
    have hP : va_P D vwCl [(cI κ (r9 2) 6 f9_weights), (cRI κ (r9 3) 6 (fun i => some (g9 i))), (cI κ (r9 4) 6 f9_sizes), O9 a9 r9 v9_count, (cI κ (r9 6) 40 g6), (cI κ q2 8 fq2), (cI κ (g9 0) (n9_rows 0) (F9 0)), (cI κ (g9 1) (n9_rows 1) (F9 1)), (cI κ (g9 2) (n9_rows 2) (F9 2)), (cI κ (g9 3) (n9_rows 3) (F9 3)), (cI κ (g9 4) (n9_rows 4) (F9 4)), (cI κ (g9 5) (n9_rows 5) (F9 5))] H := hP.sub [0, 1, 7, 8, 9, 11, 10, 2, 3, 4, 5, 6] rfl
    have hD : va_D A [(cI κ (r9 2) 6 f9_weights), (cRI κ (r9 3) 6 (fun i => some (g9 i))), (cI κ (r9 4) 6 f9_sizes), O9 a9 r9 v9_count, (cI κ (r9 6) 40 g6), (cI κ q2 8 fq2), (cI κ (g9 0) (n9_rows 0) (F9 0)), (cI κ (g9 1) (n9_rows 1) (F9 1)), (cI κ (g9 2) (n9_rows 2) (F9 2)), (cI κ (g9 3) (n9_rows 3) (F9 3)), (cI κ (g9 4) (n9_rows 4) (F9 4)), (cI κ (g9 5) (n9_rows 5) (F9 5))] := hD.sub [0, 1, 7, 8, 9, 11, 10, 2, 3, 4, 5, 6] (by decide) rfl
    refine lv_sipush (v := 9999) hx hb dX9_weigh_23 (by decide) ?_
    refine va_mmin hx hb (hml.trans hl.1.symm) hown w4 w5 w6 w7 (Nat.le_of_ble_eq_true rfl) (Nat.le_of_ble_eq_true rfl) (Nat.le_of_ble_eq_true rfl) (Nat.le_of_ble_eq_true rfl) dX9_weigh_26 ?_
    refine lv_topi (fun x8 e9 => ?_)
    have h10 := ci_min e9
    refine va_mmax hx hb (hml.trans hl.1.symm) hown w8 w9 w6 w10 (Nat.le_of_ble_eq_true rfl) (Nat.le_of_ble_eq_true rfl) (Nat.le_of_ble_eq_true rfl) (Nat.le_of_ble_eq_true rfl) dX9_weigh_29 ?_
    refine lv_topi (fun x11 e12 => ?_)
    have h13 := ci_max e12
    refine va_iast hx hb hK.1 hP hD hS 0 1 rfl rfl (i := p1) (ix (by omega) (by omega)) dX9_weigh_32 (fun H locs hP hD hS => ?_)
    obtain ⟨g14, e15⟩ : ∃ y : Nat → Int32, y = upd f9_weights p1.toNatClampNeg x11 := ⟨_, rfl⟩
    rw [← e15] at hP hD
    obtain ⟨hP, hD⟩ : PD D A [(cI κ (r9 2) 6 g14), (cRI κ (r9 3) 6 (fun i => some (g9 i))), (cI κ (r9 4) 6 f9_sizes), O9 a9 r9 v9_count, (cI κ (r9 6) 40 g6), (cI κ q2 8 fq2), (cI κ (g9 0) (n9_rows 0) (F9 0)), (cI κ (g9 1) (n9_rows 1) (F9 1)), (cI κ (g9 2) (n9_rows 2) (F9 2)), (cI κ (g9 3) (n9_rows 3) (F9 3)), (cI κ (g9 4) (n9_rows 4) (F9 4)), (cI κ (g9 5) (n9_rows 5) (F9 5))] H := ⟨hP, hD⟩
    obtain ⟨hP, hD⟩ : PD D A [O9 a9 r9 v9_count, (cI κ (r9 2) 6 g14), (cRI κ (r9 3) 6 (fun i => some (g9 i))), (cI κ (g9 0) (n9_rows 0) (F9 0)), (cI κ (g9 1) (n9_rows 1) (F9 1)), (cI κ (g9 2) (n9_rows 2) (F9 2)), (cI κ (g9 3) (n9_rows 3) (F9 3)), (cI κ (g9 4) (n9_rows 4) (F9 4)), (cI κ (g9 5) (n9_rows 5) (F9 5)), (cI κ (r9 4) 6 f9_sizes), (cI κ (r9 6) 40 g6), (cI κ q2 8 fq2)] H := ⟨hP.sub [3, 0, 1, 6, 7, 8, 9, 10, 11, 2, 4, 5] rfl, hD.sub [3, 0, 1, 6, 7, 8, 9, 10, 11, 2, 4, 5] (by decide) rfl⟩
    exact ret _ _ _ _ (g14, g6) dX9_weigh_33 trivial hP hD hS
  · subst h
    refine kc_i hA hAB hP hD hS (wc := [O9 a9 r9 v9_count, (cI κ (r9 6) 40 f9_stack), (cI κ (g9 1) (n9_rows 1) (F9 1)), (cI κ q2 8 fq2)]) (wr := [(cI κ (r9 2) 6 f9_weights), (cRI κ (r9 3) 6 (fun i => some (g9 i))), (cI κ (g9 0) (n9_rows 0) (F9 0)), (cI κ (g9 2) (n9_rows 2) (F9 2)), (cI κ (g9 3) (n9_rows 3) (F9 3)), (cI κ (g9 4) (n9_rows 4) (F9 4)), (cI κ (g9 5) (n9_rows 5) (F9 5)), (cI κ (r9 4) 6 f9_sizes)]) [0, 10, 4, 11] [1, 2, 3, 5, 6, 7, 8, 9] rfl rfl (by decide) (by decide) (by decide) (fun hPc hDc => va_runV (As := [.ref (g9 1), .int x2, .ref q2]) (rest := [.int 0, .int p1, .ref (r9 2)]) ⟨hx, hb, hml, hown, hts⟩ (k_X9_valueOf l D κ β a9 r9 v9_count f9_stack (n9_rows 1) (F9 1) fq2 s.heap.size (g9 1) x2 q2 i1 (by omega)) (cwV 3 hts gX9_weigh_X9_valueOf rfl rfl rfl (by decide +kernel) ⟨Nat.le_of_ble_eq_true rfl, Nat.le_of_ble_eq_true rfl⟩) (pk_V hK hS hAB hPc hDc 0 (ci := 9) rfl rfl rfl) rfl rfl hl.1 rfl (lv_room (Nat.le_of_ble_eq_true rfl)) dX9_weigh_20 ⟨Nat.le_of_ble_eq_true rfl, Nat.le_of_ble_eq_true rfl⟩) (fun x17 g16 H locs hw hP hD hS => ?_)
    obtain ⟨hP, hD⟩ : PD D A [(cI κ (r9 2) 6 f9_weights), (cRI κ (r9 3) 6 (fun i => some (g9 i))), (cI κ (g9 0) (n9_rows 0) (F9 0)), (cI κ (g9 2) (n9_rows 2) (F9 2)), (cI κ (g9 3) (n9_rows 3) (F9 3)), (cI κ (g9 4) (n9_rows 4) (F9 4)), (cI κ (g9 5) (n9_rows 5) (F9 5)), (cI κ (r9 4) 6 f9_sizes), O9 a9 r9 v9_count, (cI κ (r9 6) 40 g16), (cI κ (g9 1) (n9_rows 1) (F9 1)), (cI κ q2 8 fq2)] H := ⟨hP, hD⟩
    have hP : va_P D vwCl [(cI κ (r9 2) 6 f9_weights), (cRI κ (r9 3) 6 (fun i => some (g9 i))), (cI κ (r9 4) 6 f9_sizes), O9 a9 r9 v9_count, (cI κ (r9 6) 40 g16), (cI κ q2 8 fq2), (cI κ (g9 0) (n9_rows 0) (F9 0)), (cI κ (g9 1) (n9_rows 1) (F9 1)), (cI κ (g9 2) (n9_rows 2) (F9 2)), (cI κ (g9 3) (n9_rows 3) (F9 3)), (cI κ (g9 4) (n9_rows 4) (F9 4)), (cI κ (g9 5) (n9_rows 5) (F9 5))] H := hP.sub [0, 1, 7, 8, 9, 11, 2, 10, 3, 4, 5, 6] rfl
    have hD : va_D A [(cI κ (r9 2) 6 f9_weights), (cRI κ (r9 3) 6 (fun i => some (g9 i))), (cI κ (r9 4) 6 f9_sizes), O9 a9 r9 v9_count, (cI κ (r9 6) 40 g16), (cI κ q2 8 fq2), (cI κ (g9 0) (n9_rows 0) (F9 0)), (cI κ (g9 1) (n9_rows 1) (F9 1)), (cI κ (g9 2) (n9_rows 2) (F9 2)), (cI κ (g9 3) (n9_rows 3) (F9 3)), (cI κ (g9 4) (n9_rows 4) (F9 4)), (cI κ (g9 5) (n9_rows 5) (F9 5))] := hD.sub [0, 1, 7, 8, 9, 11, 2, 10, 3, 4, 5, 6] (by decide) rfl
    refine lv_sipush (v := 9999) hx hb dX9_weigh_23 (by decide) ?_
    refine va_mmin hx hb (hml.trans hl.1.symm) hown w4 w5 w6 w7 (Nat.le_of_ble_eq_true rfl) (Nat.le_of_ble_eq_true rfl) (Nat.le_of_ble_eq_true rfl) (Nat.le_of_ble_eq_true rfl) dX9_weigh_26 ?_
    refine lv_topi (fun x18 e19 => ?_)
    have h20 := ci_min e19
    refine va_mmax hx hb (hml.trans hl.1.symm) hown w8 w9 w6 w10 (Nat.le_of_ble_eq_true rfl) (Nat.le_of_ble_eq_true rfl) (Nat.le_of_ble_eq_true rfl) (Nat.le_of_ble_eq_true rfl) dX9_weigh_29 ?_
    refine lv_topi (fun x21 e22 => ?_)
    have h23 := ci_max e22
    refine va_iast hx hb hK.1 hP hD hS 0 1 rfl rfl (i := p1) (ix (by omega) (by omega)) dX9_weigh_32 (fun H locs hP hD hS => ?_)
    obtain ⟨g24, e25⟩ : ∃ y : Nat → Int32, y = upd f9_weights p1.toNatClampNeg x21 := ⟨_, rfl⟩
    rw [← e25] at hP hD
    obtain ⟨hP, hD⟩ : PD D A [(cI κ (r9 2) 6 g24), (cRI κ (r9 3) 6 (fun i => some (g9 i))), (cI κ (r9 4) 6 f9_sizes), O9 a9 r9 v9_count, (cI κ (r9 6) 40 g16), (cI κ q2 8 fq2), (cI κ (g9 0) (n9_rows 0) (F9 0)), (cI κ (g9 1) (n9_rows 1) (F9 1)), (cI κ (g9 2) (n9_rows 2) (F9 2)), (cI κ (g9 3) (n9_rows 3) (F9 3)), (cI κ (g9 4) (n9_rows 4) (F9 4)), (cI κ (g9 5) (n9_rows 5) (F9 5))] H := ⟨hP, hD⟩
    obtain ⟨hP, hD⟩ : PD D A [O9 a9 r9 v9_count, (cI κ (r9 2) 6 g24), (cRI κ (r9 3) 6 (fun i => some (g9 i))), (cI κ (g9 0) (n9_rows 0) (F9 0)), (cI κ (g9 1) (n9_rows 1) (F9 1)), (cI κ (g9 2) (n9_rows 2) (F9 2)), (cI κ (g9 3) (n9_rows 3) (F9 3)), (cI κ (g9 4) (n9_rows 4) (F9 4)), (cI κ (g9 5) (n9_rows 5) (F9 5)), (cI κ (r9 4) 6 f9_sizes), (cI κ (r9 6) 40 g16), (cI κ q2 8 fq2)] H := ⟨hP.sub [3, 0, 1, 6, 7, 8, 9, 10, 11, 2, 4, 5] rfl, hD.sub [3, 0, 1, 6, 7, 8, 9, 10, 11, 2, 4, 5] (by decide) rfl⟩
    exact ret _ _ _ _ (g24, g16) dX9_weigh_33 trivial hP hD hS
  · subst h
    refine kc_i hA hAB hP hD hS (wc := [O9 a9 r9 v9_count, (cI κ (r9 6) 40 f9_stack), (cI κ (g9 2) (n9_rows 2) (F9 2)), (cI κ q2 8 fq2)]) (wr := [(cI κ (r9 2) 6 f9_weights), (cRI κ (r9 3) 6 (fun i => some (g9 i))), (cI κ (g9 0) (n9_rows 0) (F9 0)), (cI κ (g9 1) (n9_rows 1) (F9 1)), (cI κ (g9 3) (n9_rows 3) (F9 3)), (cI κ (g9 4) (n9_rows 4) (F9 4)), (cI κ (g9 5) (n9_rows 5) (F9 5)), (cI κ (r9 4) 6 f9_sizes)]) [0, 10, 5, 11] [1, 2, 3, 4, 6, 7, 8, 9] rfl rfl (by decide) (by decide) (by decide) (fun hPc hDc => va_runV (As := [.ref (g9 2), .int x2, .ref q2]) (rest := [.int 0, .int p1, .ref (r9 2)]) ⟨hx, hb, hml, hown, hts⟩ (k_X9_valueOf l D κ β a9 r9 v9_count f9_stack (n9_rows 2) (F9 2) fq2 s.heap.size (g9 2) x2 q2 i1 (by omega)) (cwV 3 hts gX9_weigh_X9_valueOf rfl rfl rfl (by decide +kernel) ⟨Nat.le_of_ble_eq_true rfl, Nat.le_of_ble_eq_true rfl⟩) (pk_V hK hS hAB hPc hDc 0 (ci := 9) rfl rfl rfl) rfl rfl hl.1 rfl (lv_room (Nat.le_of_ble_eq_true rfl)) dX9_weigh_20 ⟨Nat.le_of_ble_eq_true rfl, Nat.le_of_ble_eq_true rfl⟩) (fun x27 g26 H locs hw hP hD hS => ?_)
    obtain ⟨hP, hD⟩ : PD D A [(cI κ (r9 2) 6 f9_weights), (cRI κ (r9 3) 6 (fun i => some (g9 i))), (cI κ (g9 0) (n9_rows 0) (F9 0)), (cI κ (g9 1) (n9_rows 1) (F9 1)), (cI κ (g9 3) (n9_rows 3) (F9 3)), (cI κ (g9 4) (n9_rows 4) (F9 4)), (cI κ (g9 5) (n9_rows 5) (F9 5)), (cI κ (r9 4) 6 f9_sizes), O9 a9 r9 v9_count, (cI κ (r9 6) 40 g26), (cI κ (g9 2) (n9_rows 2) (F9 2)), (cI κ q2 8 fq2)] H := ⟨hP, hD⟩
    have hP : va_P D vwCl [(cI κ (r9 2) 6 f9_weights), (cRI κ (r9 3) 6 (fun i => some (g9 i))), (cI κ (r9 4) 6 f9_sizes), O9 a9 r9 v9_count, (cI κ (r9 6) 40 g26), (cI κ q2 8 fq2), (cI κ (g9 0) (n9_rows 0) (F9 0)), (cI κ (g9 1) (n9_rows 1) (F9 1)), (cI κ (g9 2) (n9_rows 2) (F9 2)), (cI κ (g9 3) (n9_rows 3) (F9 3)), (cI κ (g9 4) (n9_rows 4) (F9 4)), (cI κ (g9 5) (n9_rows 5) (F9 5))] H := hP.sub [0, 1, 7, 8, 9, 11, 2, 3, 10, 4, 5, 6] rfl
    have hD : va_D A [(cI κ (r9 2) 6 f9_weights), (cRI κ (r9 3) 6 (fun i => some (g9 i))), (cI κ (r9 4) 6 f9_sizes), O9 a9 r9 v9_count, (cI κ (r9 6) 40 g26), (cI κ q2 8 fq2), (cI κ (g9 0) (n9_rows 0) (F9 0)), (cI κ (g9 1) (n9_rows 1) (F9 1)), (cI κ (g9 2) (n9_rows 2) (F9 2)), (cI κ (g9 3) (n9_rows 3) (F9 3)), (cI κ (g9 4) (n9_rows 4) (F9 4)), (cI κ (g9 5) (n9_rows 5) (F9 5))] := hD.sub [0, 1, 7, 8, 9, 11, 2, 3, 10, 4, 5, 6] (by decide) rfl
    refine lv_sipush (v := 9999) hx hb dX9_weigh_23 (by decide) ?_
    refine va_mmin hx hb (hml.trans hl.1.symm) hown w4 w5 w6 w7 (Nat.le_of_ble_eq_true rfl) (Nat.le_of_ble_eq_true rfl) (Nat.le_of_ble_eq_true rfl) (Nat.le_of_ble_eq_true rfl) dX9_weigh_26 ?_
    refine lv_topi (fun x28 e29 => ?_)
    have h30 := ci_min e29
    refine va_mmax hx hb (hml.trans hl.1.symm) hown w8 w9 w6 w10 (Nat.le_of_ble_eq_true rfl) (Nat.le_of_ble_eq_true rfl) (Nat.le_of_ble_eq_true rfl) (Nat.le_of_ble_eq_true rfl) dX9_weigh_29 ?_
    refine lv_topi (fun x31 e32 => ?_)
    have h33 := ci_max e32
    refine va_iast hx hb hK.1 hP hD hS 0 1 rfl rfl (i := p1) (ix (by omega) (by omega)) dX9_weigh_32 (fun H locs hP hD hS => ?_)
    obtain ⟨g34, e35⟩ : ∃ y : Nat → Int32, y = upd f9_weights p1.toNatClampNeg x31 := ⟨_, rfl⟩
    rw [← e35] at hP hD
    obtain ⟨hP, hD⟩ : PD D A [(cI κ (r9 2) 6 g34), (cRI κ (r9 3) 6 (fun i => some (g9 i))), (cI κ (r9 4) 6 f9_sizes), O9 a9 r9 v9_count, (cI κ (r9 6) 40 g26), (cI κ q2 8 fq2), (cI κ (g9 0) (n9_rows 0) (F9 0)), (cI κ (g9 1) (n9_rows 1) (F9 1)), (cI κ (g9 2) (n9_rows 2) (F9 2)), (cI κ (g9 3) (n9_rows 3) (F9 3)), (cI κ (g9 4) (n9_rows 4) (F9 4)), (cI κ (g9 5) (n9_rows 5) (F9 5))] H := ⟨hP, hD⟩
    obtain ⟨hP, hD⟩ : PD D A [O9 a9 r9 v9_count, (cI κ (r9 2) 6 g34), (cRI κ (r9 3) 6 (fun i => some (g9 i))), (cI κ (g9 0) (n9_rows 0) (F9 0)), (cI κ (g9 1) (n9_rows 1) (F9 1)), (cI κ (g9 2) (n9_rows 2) (F9 2)), (cI κ (g9 3) (n9_rows 3) (F9 3)), (cI κ (g9 4) (n9_rows 4) (F9 4)), (cI κ (g9 5) (n9_rows 5) (F9 5)), (cI κ (r9 4) 6 f9_sizes), (cI κ (r9 6) 40 g26), (cI κ q2 8 fq2)] H := ⟨hP.sub [3, 0, 1, 6, 7, 8, 9, 10, 11, 2, 4, 5] rfl, hD.sub [3, 0, 1, 6, 7, 8, 9, 10, 11, 2, 4, 5] (by decide) rfl⟩
    exact ret _ _ _ _ (g34, g26) dX9_weigh_33 trivial hP hD hS
  · subst h
    refine kc_i hA hAB hP hD hS (wc := [O9 a9 r9 v9_count, (cI κ (r9 6) 40 f9_stack), (cI κ (g9 3) (n9_rows 3) (F9 3)), (cI κ q2 8 fq2)]) (wr := [(cI κ (r9 2) 6 f9_weights), (cRI κ (r9 3) 6 (fun i => some (g9 i))), (cI κ (g9 0) (n9_rows 0) (F9 0)), (cI κ (g9 1) (n9_rows 1) (F9 1)), (cI κ (g9 2) (n9_rows 2) (F9 2)), (cI κ (g9 4) (n9_rows 4) (F9 4)), (cI κ (g9 5) (n9_rows 5) (F9 5)), (cI κ (r9 4) 6 f9_sizes)]) [0, 10, 6, 11] [1, 2, 3, 4, 5, 7, 8, 9] rfl rfl (by decide) (by decide) (by decide) (fun hPc hDc => va_runV (As := [.ref (g9 3), .int x2, .ref q2]) (rest := [.int 0, .int p1, .ref (r9 2)]) ⟨hx, hb, hml, hown, hts⟩ (k_X9_valueOf l D κ β a9 r9 v9_count f9_stack (n9_rows 3) (F9 3) fq2 s.heap.size (g9 3) x2 q2 i1 (by omega)) (cwV 3 hts gX9_weigh_X9_valueOf rfl rfl rfl (by decide +kernel) ⟨Nat.le_of_ble_eq_true rfl, Nat.le_of_ble_eq_true rfl⟩) (pk_V hK hS hAB hPc hDc 0 (ci := 9) rfl rfl rfl) rfl rfl hl.1 rfl (lv_room (Nat.le_of_ble_eq_true rfl)) dX9_weigh_20 ⟨Nat.le_of_ble_eq_true rfl, Nat.le_of_ble_eq_true rfl⟩) (fun x37 g36 H locs hw hP hD hS => ?_)
    obtain ⟨hP, hD⟩ : PD D A [(cI κ (r9 2) 6 f9_weights), (cRI κ (r9 3) 6 (fun i => some (g9 i))), (cI κ (g9 0) (n9_rows 0) (F9 0)), (cI κ (g9 1) (n9_rows 1) (F9 1)), (cI κ (g9 2) (n9_rows 2) (F9 2)), (cI κ (g9 4) (n9_rows 4) (F9 4)), (cI κ (g9 5) (n9_rows 5) (F9 5)), (cI κ (r9 4) 6 f9_sizes), O9 a9 r9 v9_count, (cI κ (r9 6) 40 g36), (cI κ (g9 3) (n9_rows 3) (F9 3)), (cI κ q2 8 fq2)] H := ⟨hP, hD⟩
    have hP : va_P D vwCl [(cI κ (r9 2) 6 f9_weights), (cRI κ (r9 3) 6 (fun i => some (g9 i))), (cI κ (r9 4) 6 f9_sizes), O9 a9 r9 v9_count, (cI κ (r9 6) 40 g36), (cI κ q2 8 fq2), (cI κ (g9 0) (n9_rows 0) (F9 0)), (cI κ (g9 1) (n9_rows 1) (F9 1)), (cI κ (g9 2) (n9_rows 2) (F9 2)), (cI κ (g9 3) (n9_rows 3) (F9 3)), (cI κ (g9 4) (n9_rows 4) (F9 4)), (cI κ (g9 5) (n9_rows 5) (F9 5))] H := hP.sub [0, 1, 7, 8, 9, 11, 2, 3, 4, 10, 5, 6] rfl
    have hD : va_D A [(cI κ (r9 2) 6 f9_weights), (cRI κ (r9 3) 6 (fun i => some (g9 i))), (cI κ (r9 4) 6 f9_sizes), O9 a9 r9 v9_count, (cI κ (r9 6) 40 g36), (cI κ q2 8 fq2), (cI κ (g9 0) (n9_rows 0) (F9 0)), (cI κ (g9 1) (n9_rows 1) (F9 1)), (cI κ (g9 2) (n9_rows 2) (F9 2)), (cI κ (g9 3) (n9_rows 3) (F9 3)), (cI κ (g9 4) (n9_rows 4) (F9 4)), (cI κ (g9 5) (n9_rows 5) (F9 5))] := hD.sub [0, 1, 7, 8, 9, 11, 2, 3, 4, 10, 5, 6] (by decide) rfl
    refine lv_sipush (v := 9999) hx hb dX9_weigh_23 (by decide) ?_
    refine va_mmin hx hb (hml.trans hl.1.symm) hown w4 w5 w6 w7 (Nat.le_of_ble_eq_true rfl) (Nat.le_of_ble_eq_true rfl) (Nat.le_of_ble_eq_true rfl) (Nat.le_of_ble_eq_true rfl) dX9_weigh_26 ?_
    refine lv_topi (fun x38 e39 => ?_)
    have h40 := ci_min e39
    refine va_mmax hx hb (hml.trans hl.1.symm) hown w8 w9 w6 w10 (Nat.le_of_ble_eq_true rfl) (Nat.le_of_ble_eq_true rfl) (Nat.le_of_ble_eq_true rfl) (Nat.le_of_ble_eq_true rfl) dX9_weigh_29 ?_
    refine lv_topi (fun x41 e42 => ?_)
    have h43 := ci_max e42
    refine va_iast hx hb hK.1 hP hD hS 0 1 rfl rfl (i := p1) (ix (by omega) (by omega)) dX9_weigh_32 (fun H locs hP hD hS => ?_)
    obtain ⟨g44, e45⟩ : ∃ y : Nat → Int32, y = upd f9_weights p1.toNatClampNeg x41 := ⟨_, rfl⟩
    rw [← e45] at hP hD
    obtain ⟨hP, hD⟩ : PD D A [(cI κ (r9 2) 6 g44), (cRI κ (r9 3) 6 (fun i => some (g9 i))), (cI κ (r9 4) 6 f9_sizes), O9 a9 r9 v9_count, (cI κ (r9 6) 40 g36), (cI κ q2 8 fq2), (cI κ (g9 0) (n9_rows 0) (F9 0)), (cI κ (g9 1) (n9_rows 1) (F9 1)), (cI κ (g9 2) (n9_rows 2) (F9 2)), (cI κ (g9 3) (n9_rows 3) (F9 3)), (cI κ (g9 4) (n9_rows 4) (F9 4)), (cI κ (g9 5) (n9_rows 5) (F9 5))] H := ⟨hP, hD⟩
    obtain ⟨hP, hD⟩ : PD D A [O9 a9 r9 v9_count, (cI κ (r9 2) 6 g44), (cRI κ (r9 3) 6 (fun i => some (g9 i))), (cI κ (g9 0) (n9_rows 0) (F9 0)), (cI κ (g9 1) (n9_rows 1) (F9 1)), (cI κ (g9 2) (n9_rows 2) (F9 2)), (cI κ (g9 3) (n9_rows 3) (F9 3)), (cI κ (g9 4) (n9_rows 4) (F9 4)), (cI κ (g9 5) (n9_rows 5) (F9 5)), (cI κ (r9 4) 6 f9_sizes), (cI κ (r9 6) 40 g36), (cI κ q2 8 fq2)] H := ⟨hP.sub [3, 0, 1, 6, 7, 8, 9, 10, 11, 2, 4, 5] rfl, hD.sub [3, 0, 1, 6, 7, 8, 9, 10, 11, 2, 4, 5] (by decide) rfl⟩
    exact ret _ _ _ _ (g44, g36) dX9_weigh_33 trivial hP hD hS
  · subst h
    refine kc_i hA hAB hP hD hS (wc := [O9 a9 r9 v9_count, (cI κ (r9 6) 40 f9_stack), (cI κ (g9 4) (n9_rows 4) (F9 4)), (cI κ q2 8 fq2)]) (wr := [(cI κ (r9 2) 6 f9_weights), (cRI κ (r9 3) 6 (fun i => some (g9 i))), (cI κ (g9 0) (n9_rows 0) (F9 0)), (cI κ (g9 1) (n9_rows 1) (F9 1)), (cI κ (g9 2) (n9_rows 2) (F9 2)), (cI κ (g9 3) (n9_rows 3) (F9 3)), (cI κ (g9 5) (n9_rows 5) (F9 5)), (cI κ (r9 4) 6 f9_sizes)]) [0, 10, 7, 11] [1, 2, 3, 4, 5, 6, 8, 9] rfl rfl (by decide) (by decide) (by decide) (fun hPc hDc => va_runV (As := [.ref (g9 4), .int x2, .ref q2]) (rest := [.int 0, .int p1, .ref (r9 2)]) ⟨hx, hb, hml, hown, hts⟩ (k_X9_valueOf l D κ β a9 r9 v9_count f9_stack (n9_rows 4) (F9 4) fq2 s.heap.size (g9 4) x2 q2 i1 (by omega)) (cwV 3 hts gX9_weigh_X9_valueOf rfl rfl rfl (by decide +kernel) ⟨Nat.le_of_ble_eq_true rfl, Nat.le_of_ble_eq_true rfl⟩) (pk_V hK hS hAB hPc hDc 0 (ci := 9) rfl rfl rfl) rfl rfl hl.1 rfl (lv_room (Nat.le_of_ble_eq_true rfl)) dX9_weigh_20 ⟨Nat.le_of_ble_eq_true rfl, Nat.le_of_ble_eq_true rfl⟩) (fun x47 g46 H locs hw hP hD hS => ?_)
    obtain ⟨hP, hD⟩ : PD D A [(cI κ (r9 2) 6 f9_weights), (cRI κ (r9 3) 6 (fun i => some (g9 i))), (cI κ (g9 0) (n9_rows 0) (F9 0)), (cI κ (g9 1) (n9_rows 1) (F9 1)), (cI κ (g9 2) (n9_rows 2) (F9 2)), (cI κ (g9 3) (n9_rows 3) (F9 3)), (cI κ (g9 5) (n9_rows 5) (F9 5)), (cI κ (r9 4) 6 f9_sizes), O9 a9 r9 v9_count, (cI κ (r9 6) 40 g46), (cI κ (g9 4) (n9_rows 4) (F9 4)), (cI κ q2 8 fq2)] H := ⟨hP, hD⟩
    have hP : va_P D vwCl [(cI κ (r9 2) 6 f9_weights), (cRI κ (r9 3) 6 (fun i => some (g9 i))), (cI κ (r9 4) 6 f9_sizes), O9 a9 r9 v9_count, (cI κ (r9 6) 40 g46), (cI κ q2 8 fq2), (cI κ (g9 0) (n9_rows 0) (F9 0)), (cI κ (g9 1) (n9_rows 1) (F9 1)), (cI κ (g9 2) (n9_rows 2) (F9 2)), (cI κ (g9 3) (n9_rows 3) (F9 3)), (cI κ (g9 4) (n9_rows 4) (F9 4)), (cI κ (g9 5) (n9_rows 5) (F9 5))] H := hP.sub [0, 1, 7, 8, 9, 11, 2, 3, 4, 5, 10, 6] rfl
    have hD : va_D A [(cI κ (r9 2) 6 f9_weights), (cRI κ (r9 3) 6 (fun i => some (g9 i))), (cI κ (r9 4) 6 f9_sizes), O9 a9 r9 v9_count, (cI κ (r9 6) 40 g46), (cI κ q2 8 fq2), (cI κ (g9 0) (n9_rows 0) (F9 0)), (cI κ (g9 1) (n9_rows 1) (F9 1)), (cI κ (g9 2) (n9_rows 2) (F9 2)), (cI κ (g9 3) (n9_rows 3) (F9 3)), (cI κ (g9 4) (n9_rows 4) (F9 4)), (cI κ (g9 5) (n9_rows 5) (F9 5))] := hD.sub [0, 1, 7, 8, 9, 11, 2, 3, 4, 5, 10, 6] (by decide) rfl
    refine lv_sipush (v := 9999) hx hb dX9_weigh_23 (by decide) ?_
    refine va_mmin hx hb (hml.trans hl.1.symm) hown w4 w5 w6 w7 (Nat.le_of_ble_eq_true rfl) (Nat.le_of_ble_eq_true rfl) (Nat.le_of_ble_eq_true rfl) (Nat.le_of_ble_eq_true rfl) dX9_weigh_26 ?_
    refine lv_topi (fun x48 e49 => ?_)
    have h50 := ci_min e49
    refine va_mmax hx hb (hml.trans hl.1.symm) hown w8 w9 w6 w10 (Nat.le_of_ble_eq_true rfl) (Nat.le_of_ble_eq_true rfl) (Nat.le_of_ble_eq_true rfl) (Nat.le_of_ble_eq_true rfl) dX9_weigh_29 ?_
    refine lv_topi (fun x51 e52 => ?_)
    have h53 := ci_max e52
    refine va_iast hx hb hK.1 hP hD hS 0 1 rfl rfl (i := p1) (ix (by omega) (by omega)) dX9_weigh_32 (fun H locs hP hD hS => ?_)
    obtain ⟨g54, e55⟩ : ∃ y : Nat → Int32, y = upd f9_weights p1.toNatClampNeg x51 := ⟨_, rfl⟩
    rw [← e55] at hP hD
    obtain ⟨hP, hD⟩ : PD D A [(cI κ (r9 2) 6 g54), (cRI κ (r9 3) 6 (fun i => some (g9 i))), (cI κ (r9 4) 6 f9_sizes), O9 a9 r9 v9_count, (cI κ (r9 6) 40 g46), (cI κ q2 8 fq2), (cI κ (g9 0) (n9_rows 0) (F9 0)), (cI κ (g9 1) (n9_rows 1) (F9 1)), (cI κ (g9 2) (n9_rows 2) (F9 2)), (cI κ (g9 3) (n9_rows 3) (F9 3)), (cI κ (g9 4) (n9_rows 4) (F9 4)), (cI κ (g9 5) (n9_rows 5) (F9 5))] H := ⟨hP, hD⟩
    obtain ⟨hP, hD⟩ : PD D A [O9 a9 r9 v9_count, (cI κ (r9 2) 6 g54), (cRI κ (r9 3) 6 (fun i => some (g9 i))), (cI κ (g9 0) (n9_rows 0) (F9 0)), (cI κ (g9 1) (n9_rows 1) (F9 1)), (cI κ (g9 2) (n9_rows 2) (F9 2)), (cI κ (g9 3) (n9_rows 3) (F9 3)), (cI κ (g9 4) (n9_rows 4) (F9 4)), (cI κ (g9 5) (n9_rows 5) (F9 5)), (cI κ (r9 4) 6 f9_sizes), (cI κ (r9 6) 40 g46), (cI κ q2 8 fq2)] H := ⟨hP.sub [3, 0, 1, 6, 7, 8, 9, 10, 11, 2, 4, 5] rfl, hD.sub [3, 0, 1, 6, 7, 8, 9, 10, 11, 2, 4, 5] (by decide) rfl⟩
    exact ret _ _ _ _ (g54, g46) dX9_weigh_33 trivial hP hD hS
  · subst h
    refine kc_i hA hAB hP hD hS (wc := [O9 a9 r9 v9_count, (cI κ (r9 6) 40 f9_stack), (cI κ (g9 5) (n9_rows 5) (F9 5)), (cI κ q2 8 fq2)]) (wr := [(cI κ (r9 2) 6 f9_weights), (cRI κ (r9 3) 6 (fun i => some (g9 i))), (cI κ (g9 0) (n9_rows 0) (F9 0)), (cI κ (g9 1) (n9_rows 1) (F9 1)), (cI κ (g9 2) (n9_rows 2) (F9 2)), (cI κ (g9 3) (n9_rows 3) (F9 3)), (cI κ (g9 4) (n9_rows 4) (F9 4)), (cI κ (r9 4) 6 f9_sizes)]) [0, 10, 8, 11] [1, 2, 3, 4, 5, 6, 7, 9] rfl rfl (by decide) (by decide) (by decide) (fun hPc hDc => va_runV (As := [.ref (g9 5), .int x2, .ref q2]) (rest := [.int 0, .int p1, .ref (r9 2)]) ⟨hx, hb, hml, hown, hts⟩ (k_X9_valueOf l D κ β a9 r9 v9_count f9_stack (n9_rows 5) (F9 5) fq2 s.heap.size (g9 5) x2 q2 i1 (by omega)) (cwV 3 hts gX9_weigh_X9_valueOf rfl rfl rfl (by decide +kernel) ⟨Nat.le_of_ble_eq_true rfl, Nat.le_of_ble_eq_true rfl⟩) (pk_V hK hS hAB hPc hDc 0 (ci := 9) rfl rfl rfl) rfl rfl hl.1 rfl (lv_room (Nat.le_of_ble_eq_true rfl)) dX9_weigh_20 ⟨Nat.le_of_ble_eq_true rfl, Nat.le_of_ble_eq_true rfl⟩) (fun x57 g56 H locs hw hP hD hS => ?_)
    obtain ⟨hP, hD⟩ : PD D A [(cI κ (r9 2) 6 f9_weights), (cRI κ (r9 3) 6 (fun i => some (g9 i))), (cI κ (g9 0) (n9_rows 0) (F9 0)), (cI κ (g9 1) (n9_rows 1) (F9 1)), (cI κ (g9 2) (n9_rows 2) (F9 2)), (cI κ (g9 3) (n9_rows 3) (F9 3)), (cI κ (g9 4) (n9_rows 4) (F9 4)), (cI κ (r9 4) 6 f9_sizes), O9 a9 r9 v9_count, (cI κ (r9 6) 40 g56), (cI κ (g9 5) (n9_rows 5) (F9 5)), (cI κ q2 8 fq2)] H := ⟨hP, hD⟩
    have hP : va_P D vwCl [(cI κ (r9 2) 6 f9_weights), (cRI κ (r9 3) 6 (fun i => some (g9 i))), (cI κ (r9 4) 6 f9_sizes), O9 a9 r9 v9_count, (cI κ (r9 6) 40 g56), (cI κ q2 8 fq2), (cI κ (g9 0) (n9_rows 0) (F9 0)), (cI κ (g9 1) (n9_rows 1) (F9 1)), (cI κ (g9 2) (n9_rows 2) (F9 2)), (cI κ (g9 3) (n9_rows 3) (F9 3)), (cI κ (g9 4) (n9_rows 4) (F9 4)), (cI κ (g9 5) (n9_rows 5) (F9 5))] H := hP.sub [0, 1, 7, 8, 9, 11, 2, 3, 4, 5, 6, 10] rfl
    have hD : va_D A [(cI κ (r9 2) 6 f9_weights), (cRI κ (r9 3) 6 (fun i => some (g9 i))), (cI κ (r9 4) 6 f9_sizes), O9 a9 r9 v9_count, (cI κ (r9 6) 40 g56), (cI κ q2 8 fq2), (cI κ (g9 0) (n9_rows 0) (F9 0)), (cI κ (g9 1) (n9_rows 1) (F9 1)), (cI κ (g9 2) (n9_rows 2) (F9 2)), (cI κ (g9 3) (n9_rows 3) (F9 3)), (cI κ (g9 4) (n9_rows 4) (F9 4)), (cI κ (g9 5) (n9_rows 5) (F9 5))] := hD.sub [0, 1, 7, 8, 9, 11, 2, 3, 4, 5, 6, 10] (by decide) rfl
    refine lv_sipush (v := 9999) hx hb dX9_weigh_23 (by decide) ?_
    refine va_mmin hx hb (hml.trans hl.1.symm) hown w4 w5 w6 w7 (Nat.le_of_ble_eq_true rfl) (Nat.le_of_ble_eq_true rfl) (Nat.le_of_ble_eq_true rfl) (Nat.le_of_ble_eq_true rfl) dX9_weigh_26 ?_
    refine lv_topi (fun x58 e59 => ?_)
    have h60 := ci_min e59
    refine va_mmax hx hb (hml.trans hl.1.symm) hown w8 w9 w6 w10 (Nat.le_of_ble_eq_true rfl) (Nat.le_of_ble_eq_true rfl) (Nat.le_of_ble_eq_true rfl) (Nat.le_of_ble_eq_true rfl) dX9_weigh_29 ?_
    refine lv_topi (fun x61 e62 => ?_)
    have h63 := ci_max e62
    refine va_iast hx hb hK.1 hP hD hS 0 1 rfl rfl (i := p1) (ix (by omega) (by omega)) dX9_weigh_32 (fun H locs hP hD hS => ?_)
    obtain ⟨g64, e65⟩ : ∃ y : Nat → Int32, y = upd f9_weights p1.toNatClampNeg x61 := ⟨_, rfl⟩
    rw [← e65] at hP hD
    obtain ⟨hP, hD⟩ : PD D A [(cI κ (r9 2) 6 g64), (cRI κ (r9 3) 6 (fun i => some (g9 i))), (cI κ (r9 4) 6 f9_sizes), O9 a9 r9 v9_count, (cI κ (r9 6) 40 g56), (cI κ q2 8 fq2), (cI κ (g9 0) (n9_rows 0) (F9 0)), (cI κ (g9 1) (n9_rows 1) (F9 1)), (cI κ (g9 2) (n9_rows 2) (F9 2)), (cI κ (g9 3) (n9_rows 3) (F9 3)), (cI κ (g9 4) (n9_rows 4) (F9 4)), (cI κ (g9 5) (n9_rows 5) (F9 5))] H := ⟨hP, hD⟩
    obtain ⟨hP, hD⟩ : PD D A [O9 a9 r9 v9_count, (cI κ (r9 2) 6 g64), (cRI κ (r9 3) 6 (fun i => some (g9 i))), (cI κ (g9 0) (n9_rows 0) (F9 0)), (cI κ (g9 1) (n9_rows 1) (F9 1)), (cI κ (g9 2) (n9_rows 2) (F9 2)), (cI κ (g9 3) (n9_rows 3) (F9 3)), (cI κ (g9 4) (n9_rows 4) (F9 4)), (cI κ (g9 5) (n9_rows 5) (F9 5)), (cI κ (r9 4) 6 f9_sizes), (cI κ (r9 6) 40 g56), (cI κ q2 8 fq2)] H := ⟨hP.sub [3, 0, 1, 6, 7, 8, 9, 10, 11, 2, 4, 5] rfl, hD.sub [3, 0, 1, 6, 7, 8, 9, 10, 11, 2, 4, 5] (by decide) rfl⟩
    exact ret _ _ _ _ (g64, g56) dX9_weigh_33 trivial hP hD hS
set_option maxHeartbeats 4000000 in
set_option maxRecDepth 100000 in
theorem k_X9_oddsOf (l : Launch) (D : va_G) (κ : Nat → ClassId) (β : Nat) (a9 : Nat) (r9 : Nat → Nat) (v9_count : Int32) (f9_priors : Nat → Int32) (f9_weights : Nat → Int32) (sz : Nat) (p1 : Int32) (i1 : Rg 0 6 v9_count) (i2 : 0 ≤ p1.toInt ∧ p1.toInt ≤ 5) : Met l yX9_oddsOf wsX9_oddsOf ({ frames := 0, cells := 0, slots := 0, locals := 0 } : Room) (PcK D κ β [O9 a9 r9 v9_count, (cI κ (r9 1) 6 f9_priors), (cI κ (r9 2) 6 f9_weights)] sz [.ref a9, .int p1]) (QiK D (fun (r : Int32) (u : Unit) => True) (fun (u : Unit) => [O9 a9 r9 v9_count, (cI κ (r9 1) 6 f9_priors), (cI κ (r9 2) 6 f9_weights)]) [O9 a9 r9 v9_count, (cI κ (r9 1) 6 f9_priors), (cI κ (r9 2) 6 f9_weights)] sz) 0 0 (va_A [O9 a9 r9 v9_count, (cI κ (r9 1) 6 f9_priors), (cI κ (r9 2) 6 f9_weights)] sz) := by
  refine ofK_i (cc := cX9_oddsOf) (maxL := 4) (own := RX9) (by decide) rfl rfl (Nat.le_of_ble_eq_true rfl) ?_
  intro p e s m args below meth c Q A ls hsz hx hb hml hts hown hK hA hAB hP hD hl ret
  have hS : va_S A s.heap s.heap [] := va_S.rf
  have hl : lv_has ls 4 [(0, .ref a9), (1, .int p1)] := hl
  have w0 := hts (.fieldLink RX9 32 "OlderSkin$Stories" "count" "I") (List.mem_of_getElem? (i := 1) rfl)
  have w1 := (fun w h => List.mem_cons_of_mem _ (List.mem_append_right _ h) : ∀ w ∈ u_ws RX9 TX9 7, w ∈ wsX9_oddsOf)
  have w2 := hts (.fieldLink RX9 15 "OlderSkin$Stories" "priors" "[I") (List.mem_of_getElem? (i := 2) rfl)
  have w3 := hts (.fieldLink RX9 18 "OlderSkin$Stories" "weights" "[I") (List.mem_of_getElem? (i := 3) rfl)
  have l0 : (0 : Int32).toInt = 0 := by decide
  have l1 : (1000 : Int32).toInt = 1000 := by decide
  have l2 : ((-2) : Int32).toInt = -2 := by decide
  have l3 : (1 : Int32).toInt = 1 := by decide
  have i1 : 0 ≤ v9_count.toInt ∧ v9_count.toInt ≤ 6 := i1
  refine lv_iconst (v := 0) hx hb dX9_oddsOf_0 (by decide) ?_
  refine lv_istore_n (lv' := [(2, .int 0), (0, .ref a9), (1, .int p1)]) hx hb dX9_oddsOf_1 rfl hl (by decide) rfl (fun ls hl => ?_)
  refine lv_iconst (v := 0) hx hb dX9_oddsOf_2 (by decide) ?_
  refine lv_istore_n (lv' := [(3, .int 0), (2, .int 0), (0, .ref a9), (1, .int p1)]) hx hb dX9_oddsOf_3 rfl hl (by decide) rfl (fun ls hl => ?_)
  have lp4 : ∀ (n4 : Nat) (k1 : Int32) (k2 : Int32), (0 ≤ k1.toInt) → (v9_count.toInt - k1.toInt).toNat < n4 → ∀ (H : Heap) (locs : List Loc), va_P D vwCl [O9 a9 r9 v9_count, (cI κ (r9 1) 6 f9_priors), (cI κ (r9 2) 6 f9_weights)] H → va_D A [O9 a9 r9 v9_count, (cI κ (r9 1) 6 f9_priors), (cI κ (r9 2) 6 f9_weights)] → va_S A s.heap H locs → ∀ ls : Array Slot, lv_has ls 4 [(3, .int k1), (2, .int k2), (0, .ref a9), (1, .int p1)] → W p l e ({ frames := 0, cells := 0, slots := 0, locals := 0 } : Room) s m args below meth c H locs 0 0 Q (F0 m 4 ls []) := by
    intro n4
    induction n4 with
    | zero =>
      intro k1 k2 h3 m4
      exact absurd m4 (Nat.not_lt_zero _)
    | succ n4 ih4 =>
      intro k1 k2 h3 m4 H locs hP hD hS ls hl
      refine lv_iload_n hx hb dX9_oddsOf_4 rfl (lv_at hl 0 rfl) ?_
      refine lv_aload_n hx hb dX9_oddsOf_5 rfl (lv_at hl 2 rfl) ?_
      refine va_get (D := D) (ci := 9) (v := .int v9_count) (C := RX9) (T := TX9) (N := 7) hx hb hts w1 hown hK.1 hP 0 rfl rfl 5 (by decide) w0 (fun _ h9 => h9) rfl dX9_oddsOf_6 ?_
      refine lv_icmp_ge (tgt := 34) hx hb dX9_oddsOf_9 (by decide) (fun c5 => ?_) (fun c5 => ?_)
      · have c5 := ci_le c5
        refine lv_iload_n hx hb dX9_oddsOf_34 rfl (lv_at hl 1 rfl) ?_
        refine lv_if_ne (tgt := 43) hx hb dX9_oddsOf_35 (by decide) (fun c6 => ?_) (fun c6 => ?_)
        · have c6 := ci_ne c6
          refine lv_aload_n hx hb dX9_oddsOf_43 rfl (lv_at hl 2 rfl) ?_
          refine va_get (D := D) (ci := 9) (v := .ref (r9 1)) (C := RX9) (T := TX9) (N := 7) hx hb hts w1 hown hK.1 hP 0 rfl rfl 1 (by decide) w2 (fun _ h9 => h9) rfl dX9_oddsOf_44 ?_
          refine lv_iload_n hx hb dX9_oddsOf_47 rfl (lv_at hl 3 rfl) ?_
          refine va_iald hx hb hK.1 hP 1 1 rfl rfl (i := p1) (ix (by omega) (by omega)) dX9_oddsOf_48 ?_
          refine lv_topi (fun x7 e8 => ?_)
          refine lv_aload_n hx hb dX9_oddsOf_49 rfl (lv_at hl 2 rfl) ?_
          refine va_get (D := D) (ci := 9) (v := .ref (r9 2)) (C := RX9) (T := TX9) (N := 7) hx hb hts w1 hown hK.1 hP 0 rfl rfl 2 (by decide) w3 (fun _ h9 => h9) rfl dX9_oddsOf_50 ?_
          refine lv_iload_n hx hb dX9_oddsOf_53 rfl (lv_at hl 3 rfl) ?_
          refine va_iald hx hb hK.1 hP 2 1 rfl rfl (i := p1) (ix (by omega) (by omega)) dX9_oddsOf_54 ?_
          refine lv_topi (fun x9 e10 => ?_)
          refine lv_imul hx hb dX9_oddsOf_55 ?_
          refine lv_topi (fun x11 e12 => ?_)
          refine lv_sipush (v := 1000) hx hb dX9_oddsOf_56 (by decide) ?_
          refine lv_imul hx hb dX9_oddsOf_59 ?_
          refine lv_topi (fun x13 e14 => ?_)
          try have h15 : x13.toInt = 1000 * x11.toInt := ci_mulR (n := 1000) (by decide) e14 (by omega) (by omega)
          refine lv_iload_n hx hb dX9_oddsOf_60 rfl (lv_at hl 1 rfl) ?_
          refine lv_idiv hx hb dX9_oddsOf_61 (fun q16 => by have q16 := ci_eq q16; omega) ?_
          refine lv_topi (fun x17 e18 => ?_)
          exact ret _ _ _ _ x17 () dX9_oddsOf_62 trivial hP hD hS
        have c6 := ci_eq c6
        refine lv_bipush (v := (-2)) hx hb dX9_oddsOf_38 (by decide) ?_
        refine lv_goto (tgt := 62) hx hb dX9_oddsOf_40 (by decide) ?_
        exact ret _ _ _ _ (-2) () dX9_oddsOf_62 trivial hP hD hS
      have c5 := ci_nle c5
      refine lv_iload_n hx hb dX9_oddsOf_12 rfl (lv_at hl 1 rfl) ?_
      refine lv_aload_n hx hb dX9_oddsOf_13 rfl (lv_at hl 2 rfl) ?_
      refine va_get (D := D) (ci := 9) (v := .ref (r9 1)) (C := RX9) (T := TX9) (N := 7) hx hb hts w1 hown hK.1 hP 0 rfl rfl 1 (by decide) w2 (fun _ h9 => h9) rfl dX9_oddsOf_14 ?_
      refine lv_iload_n hx hb dX9_oddsOf_17 rfl (lv_at hl 0 rfl) ?_
      refine va_iald hx hb hK.1 hP 1 1 rfl rfl (i := k1) (ix (by omega) (by omega)) dX9_oddsOf_18 ?_
      refine lv_topi (fun x19 e20 => ?_)
      refine lv_aload_n hx hb dX9_oddsOf_19 rfl (lv_at hl 2 rfl) ?_
      refine va_get (D := D) (ci := 9) (v := .ref (r9 2)) (C := RX9) (T := TX9) (N := 7) hx hb hts w1 hown hK.1 hP 0 rfl rfl 2 (by decide) w3 (fun _ h9 => h9) rfl dX9_oddsOf_20 ?_
      refine lv_iload_n hx hb dX9_oddsOf_23 rfl (lv_at hl 0 rfl) ?_
      refine va_iald hx hb hK.1 hP 2 1 rfl rfl (i := k1) (ix (by omega) (by omega)) dX9_oddsOf_24 ?_
      refine lv_topi (fun x21 e22 => ?_)
      refine lv_imul hx hb dX9_oddsOf_25 ?_
      refine lv_topi (fun x23 e24 => ?_)
      refine lv_iadd hx hb dX9_oddsOf_26 ?_
      refine lv_topi (fun x25 e26 => ?_)
      try have h27 : x25.toInt = k2.toInt + x23.toInt := ci_add e26 (by omega) (by omega)
      refine lv_istore_n (lv' := [(2, .int x25), (3, .int k1), (0, .ref a9), (1, .int p1)]) hx hb dX9_oddsOf_27 rfl hl (by decide) rfl (fun ls hl => ?_)
      obtain ⟨x28, e29⟩ : ∃ y : Int32, y = k1 + 1 := ⟨_, rfl⟩
      refine lv_iinc (v := x28) (lv' := [(3, .int x28), (2, .int x25), (0, .ref a9), (1, .int p1)]) hx hb dX9_oddsOf_28 hl (k := 1) rfl (by rw [e29]; rfl) (by decide) rfl (fun ls hl => ?_)
      try have h30 : x28.toInt = k1.toInt + (1 : Int32).toInt := ci_add e29 (by omega) (by omega)
      refine lv_goto (tgt := 4) hx hb dX9_oddsOf_31 (by decide) ?_
      exact ih4 x28 x25 (by omega) (by omega) _ _ hP hD hS _ hl
  exact lp4 ((v9_count.toInt - (0 : Int32).toInt).toNat + 1) 0 0 (by omega) (by omega) _ _ hP hD hS _ hl
set_option maxHeartbeats 4000000 in
set_option maxRecDepth 100000 in
theorem k_X9_bestOne (l : Launch) (D : va_G) (κ : Nat → ClassId) (β : Nat) (a9 : Nat) (r9 : Nat → Nat) (v9_count : Int32) (f9_priors : Nat → Int32) (f9_weights : Nat → Int32) (sz : Nat) (i1 : Rg 0 6 v9_count) : Met l yX9_bestOne wsX9_bestOne ({ frames := 0, cells := 0, slots := 0, locals := 0 } : Room) (PcK D κ β [O9 a9 r9 v9_count, (cI κ (r9 1) 6 f9_priors), (cI κ (r9 2) 6 f9_weights)] sz [.ref a9]) (QiK D (fun (r : Int32) (u : Unit) => 0 ≤ r.toInt ∧ (r.toInt < v9_count.toInt ∨ r.toInt = 0)) (fun (u : Unit) => [O9 a9 r9 v9_count, (cI κ (r9 1) 6 f9_priors), (cI κ (r9 2) 6 f9_weights)]) [O9 a9 r9 v9_count, (cI κ (r9 1) 6 f9_priors), (cI κ (r9 2) 6 f9_weights)] sz) 0 0 (va_A [O9 a9 r9 v9_count, (cI κ (r9 1) 6 f9_priors), (cI κ (r9 2) 6 f9_weights)] sz) := by
  refine ofK_i (cc := cX9_bestOne) (maxL := 3) (own := RX9) (by decide) rfl rfl (Nat.le_of_ble_eq_true rfl) ?_
  intro p e s m args below meth c Q A ls hsz hx hb hml hts hown hK hA hAB hP hD hl ret
  have hS : va_S A s.heap s.heap [] := va_S.rf
  have hl : lv_has ls 3 [(0, .ref a9)] := hl
  have w0 := hts (.fieldLink RX9 32 "OlderSkin$Stories" "count" "I") (List.mem_of_getElem? (i := 1) rfl)
  have w1 := (fun w h => List.mem_cons_of_mem _ (List.mem_append_right _ h) : ∀ w ∈ u_ws RX9 TX9 7, w ∈ wsX9_bestOne)
  have w2 := hts (.fieldLink RX9 15 "OlderSkin$Stories" "priors" "[I") (List.mem_of_getElem? (i := 2) rfl)
  have w3 := hts (.fieldLink RX9 18 "OlderSkin$Stories" "weights" "[I") (List.mem_of_getElem? (i := 3) rfl)
  have l0 : (0 : Int32).toInt = 0 := by decide
  have l1 : (1 : Int32).toInt = 1 := by decide
  have i1 : 0 ≤ v9_count.toInt ∧ v9_count.toInt ≤ 6 := i1
  refine lv_iconst (v := 0) hx hb dX9_bestOne_0 (by decide) ?_
  refine lv_istore_n (lv' := [(1, .int 0), (0, .ref a9)]) hx hb dX9_bestOne_1 rfl hl (by decide) rfl (fun ls hl => ?_)
  refine lv_iconst (v := 1) hx hb dX9_bestOne_2 (by decide) ?_
  refine lv_istore_n (lv' := [(2, .int 1), (1, .int 0), (0, .ref a9)]) hx hb dX9_bestOne_3 rfl hl (by decide) rfl (fun ls hl => ?_)
  have lp4 : ∀ (n4 : Nat) (k1 : Int32) (k2 : Int32), (0 ≤ k2.toInt ∧ (k2.toInt < v9_count.toInt ∨ k2.toInt = 0)) → (0 ≤ k1.toInt) → (v9_count.toInt - k1.toInt).toNat < n4 → ∀ (H : Heap) (locs : List Loc), va_P D vwCl [O9 a9 r9 v9_count, (cI κ (r9 1) 6 f9_priors), (cI κ (r9 2) 6 f9_weights)] H → va_D A [O9 a9 r9 v9_count, (cI κ (r9 1) 6 f9_priors), (cI κ (r9 2) 6 f9_weights)] → va_S A s.heap H locs → ∀ ls : Array Slot, lv_has ls 3 [(2, .int k1), (1, .int k2), (0, .ref a9)] → W p l e ({ frames := 0, cells := 0, slots := 0, locals := 0 } : Room) s m args below meth c H locs 0 0 Q (F0 m 4 ls []) := by
    intro n4
    induction n4 with
    | zero =>
      intro k1 k2 h3 h4 m5
      exact absurd m5 (Nat.not_lt_zero _)
    | succ n4 ih4 =>
      intro k1 k2 h3 h4 m5 H locs hP hD hS ls hl
      refine lv_iload_n hx hb dX9_bestOne_4 rfl (lv_at hl 0 rfl) ?_
      refine lv_aload_n hx hb dX9_bestOne_5 rfl (lv_at hl 2 rfl) ?_
      refine va_get (D := D) (ci := 9) (v := .int v9_count) (C := RX9) (T := TX9) (N := 7) hx hb hts w1 hown hK.1 hP 0 rfl rfl 5 (by decide) w0 (fun _ h9 => h9) rfl dX9_bestOne_6 ?_
      refine lv_icmp_ge (tgt := 49) hx hb dX9_bestOne_9 (by decide) (fun c6 => ?_) (fun c6 => ?_)
      · have c6 := ci_le c6
        refine lv_iload_n hx hb dX9_bestOne_49 rfl (lv_at hl 1 rfl) ?_
        have hpo : 0 ≤ k2.toInt ∧ (k2.toInt < v9_count.toInt ∨ k2.toInt = 0) := (by omega)
        exact ret _ _ _ _ k2 () dX9_bestOne_50 hpo hP hD hS
      have c6 := ci_nle c6
      refine lv_aload_n hx hb dX9_bestOne_12 rfl (lv_at hl 2 rfl) ?_
      refine va_get (D := D) (ci := 9) (v := .ref (r9 1)) (C := RX9) (T := TX9) (N := 7) hx hb hts w1 hown hK.1 hP 0 rfl rfl 1 (by decide) w2 (fun _ h9 => h9) rfl dX9_bestOne_13 ?_
      refine lv_iload_n hx hb dX9_bestOne_16 rfl (lv_at hl 0 rfl) ?_
      refine va_iald hx hb hK.1 hP 1 1 rfl rfl (i := k1) (ix (by omega) (by omega)) dX9_bestOne_17 ?_
      refine lv_topi (fun x7 e8 => ?_)
      refine lv_aload_n hx hb dX9_bestOne_18 rfl (lv_at hl 2 rfl) ?_
      refine va_get (D := D) (ci := 9) (v := .ref (r9 2)) (C := RX9) (T := TX9) (N := 7) hx hb hts w1 hown hK.1 hP 0 rfl rfl 2 (by decide) w3 (fun _ h9 => h9) rfl dX9_bestOne_19 ?_
      refine lv_iload_n hx hb dX9_bestOne_22 rfl (lv_at hl 0 rfl) ?_
      refine va_iald hx hb hK.1 hP 2 1 rfl rfl (i := k1) (ix (by omega) (by omega)) dX9_bestOne_23 ?_
      refine lv_topi (fun x9 e10 => ?_)
      refine lv_imul hx hb dX9_bestOne_24 ?_
      refine lv_topi (fun x11 e12 => ?_)
      refine lv_aload_n hx hb dX9_bestOne_25 rfl (lv_at hl 2 rfl) ?_
      refine va_get (D := D) (ci := 9) (v := .ref (r9 1)) (C := RX9) (T := TX9) (N := 7) hx hb hts w1 hown hK.1 hP 0 rfl rfl 1 (by decide) w2 (fun _ h9 => h9) rfl dX9_bestOne_26 ?_
      refine lv_iload_n hx hb dX9_bestOne_29 rfl (lv_at hl 1 rfl) ?_
      refine va_iald hx hb hK.1 hP 1 1 rfl rfl (i := k2) (ix (by omega) (by omega)) dX9_bestOne_30 ?_
      refine lv_topi (fun x13 e14 => ?_)
      refine lv_aload_n hx hb dX9_bestOne_31 rfl (lv_at hl 2 rfl) ?_
      refine va_get (D := D) (ci := 9) (v := .ref (r9 2)) (C := RX9) (T := TX9) (N := 7) hx hb hts w1 hown hK.1 hP 0 rfl rfl 2 (by decide) w3 (fun _ h9 => h9) rfl dX9_bestOne_32 ?_
      refine lv_iload_n hx hb dX9_bestOne_35 rfl (lv_at hl 1 rfl) ?_
      refine va_iald hx hb hK.1 hP 2 1 rfl rfl (i := k2) (ix (by omega) (by omega)) dX9_bestOne_36 ?_
      refine lv_topi (fun x15 e16 => ?_)
      refine lv_imul hx hb dX9_bestOne_37 ?_
      refine lv_topi (fun x17 e18 => ?_)
      refine lv_icmp_le (tgt := 43) hx hb dX9_bestOne_38 (by decide) (fun c19 => ?_) (fun c19 => ?_)
      · have c19 := ci_le c19
        obtain ⟨x20, e21⟩ : ∃ y : Int32, y = k1 + 1 := ⟨_, rfl⟩
        refine lv_iinc (v := x20) (lv' := [(2, .int x20), (1, .int k2), (0, .ref a9)]) hx hb dX9_bestOne_43 hl (k := 0) rfl (by rw [e21]; rfl) (by decide) rfl (fun ls hl => ?_)
        try have h22 : x20.toInt = k1.toInt + (1 : Int32).toInt := ci_add e21 (by omega) (by omega)
        refine lv_goto (tgt := 4) hx hb dX9_bestOne_46 (by decide) ?_
        exact ih4 x20 k2 (by omega) (by omega) (by omega) _ _ hP hD hS _ hl
      have c19 := ci_nle c19
      refine lv_iload_n hx hb dX9_bestOne_41 rfl (lv_at hl 0 rfl) ?_
      refine lv_istore_n (lv' := [(1, .int k1), (2, .int k1), (0, .ref a9)]) hx hb dX9_bestOne_42 rfl hl (by decide) rfl (fun ls hl => ?_)
      obtain ⟨x23, e24⟩ : ∃ y : Int32, y = k1 + 1 := ⟨_, rfl⟩
      refine lv_iinc (v := x23) (lv' := [(2, .int x23), (1, .int k1), (0, .ref a9)]) hx hb dX9_bestOne_43 hl (k := 1) rfl (by rw [e24]; rfl) (by decide) rfl (fun ls hl => ?_)
      try have h25 : x23.toInt = k1.toInt + (1 : Int32).toInt := ci_add e24 (by omega) (by omega)
      refine lv_goto (tgt := 4) hx hb dX9_bestOne_46 (by decide) ?_
      exact ih4 x23 k1 (by omega) (by omega) (by omega) _ _ hP hD hS _ hl
  exact lp4 ((v9_count.toInt - (1 : Int32).toInt).toNat + 1) 1 0 (by omega) (by omega) (by omega) _ _ hP hD hS _ hl
set_option maxHeartbeats 4000000 in
set_option maxRecDepth 100000 in
theorem k_X9_add (l : Launch) (D : va_G) (κ : Nat → ClassId) (β : Nat) (a9 : Nat) (r9 : Nat → Nat) (v9_count : Int32) (f9_years : Nat → Int32) (f9_priors : Nat → Int32) (g9 : Nat → Nat) (n9_rows : Nat → Nat) (F9 : Nat → Nat → Int32) (f9_sizes : Nat → Int32) (nq3 : Nat) (fq3 : Nat → Int32) (sz : Nat) (p1 : Int32) (p2 : Int32) (q3 : Nat) (p4 : Int32) (i1 : Rg 0 6 v9_count) (hf9_sizes : ∀ j : Nat, (f9_sizes j).toInt ≤ 4096) (hszr : ∀ j : Nat, (f9_sizes j).toInt ≤ ((n9_rows j : Nat) : Int)) (i2 : p4.toInt ≤ 4096) (i3 : ((nq3 : Nat) : Int) ≤ 4096) : Met l yX9_add wsX9_add ({ frames := 1, cells := 0, slots := 0, locals := 20 } : Room) (PcK D κ β [O9 a9 r9 v9_count, (cI κ (r9 0) 6 f9_years), (cI κ (r9 1) 6 f9_priors), (cRI κ (r9 3) 6 (fun i => some (g9 i))), (cI κ (g9 0) (n9_rows 0) (F9 0)), (cI κ (g9 1) (n9_rows 1) (F9 1)), (cI κ (g9 2) (n9_rows 2) (F9 2)), (cI κ (g9 3) (n9_rows 3) (F9 3)), (cI κ (g9 4) (n9_rows 4) (F9 4)), (cI κ (g9 5) (n9_rows 5) (F9 5)), (cI κ (r9 4) 6 f9_sizes), (cI κ q3 nq3 fq3)] sz [.ref a9, .int p1, .int p2, .ref q3, .int p4]) (QiK D (fun (r : Int32) (u : Int32 × (Nat → Int32) × (Nat → Int32) × (Nat → Nat) × (Nat → Nat) × (Nat → Nat → Int32) × (Nat → Int32)) => (0 ≤ u.1.toInt ∧ u.1.toInt ≤ 6) ∧ (∀ j : Nat, (u.2.2.2.2.2.2 j).toInt ≤ 4096) ∧ (∀ j : Nat, (u.2.2.2.2.2.2 j).toInt ≤ ((u.2.2.2.2.1 j : Nat) : Int))) (fun (u : Int32 × (Nat → Int32) × (Nat → Int32) × (Nat → Nat) × (Nat → Nat) × (Nat → Nat → Int32) × (Nat → Int32)) => [O9 a9 r9 u.1, (cI κ (r9 0) 6 u.2.1), (cI κ (r9 1) 6 u.2.2.1), (cRI κ (r9 3) 6 (fun i => some (u.2.2.2.1 i))), (cI κ (u.2.2.2.1 0) (u.2.2.2.2.1 0) (u.2.2.2.2.2.1 0)), (cI κ (u.2.2.2.1 1) (u.2.2.2.2.1 1) (u.2.2.2.2.2.1 1)), (cI κ (u.2.2.2.1 2) (u.2.2.2.2.1 2) (u.2.2.2.2.2.1 2)), (cI κ (u.2.2.2.1 3) (u.2.2.2.2.1 3) (u.2.2.2.2.2.1 3)), (cI κ (u.2.2.2.1 4) (u.2.2.2.2.1 4) (u.2.2.2.2.2.1 4)), (cI κ (u.2.2.2.1 5) (u.2.2.2.2.1 5) (u.2.2.2.2.2.1 5)), (cI κ (r9 4) 6 u.2.2.2.2.2.2)]) [O9 a9 r9 v9_count, (cI κ (r9 0) 6 f9_years), (cI κ (r9 1) 6 f9_priors), (cRI κ (r9 3) 6 (fun i => some (g9 i))), (cI κ (g9 0) (n9_rows 0) (F9 0)), (cI κ (g9 1) (n9_rows 1) (F9 1)), (cI κ (g9 2) (n9_rows 2) (F9 2)), (cI κ (g9 3) (n9_rows 3) (F9 3)), (cI κ (g9 4) (n9_rows 4) (F9 4)), (cI κ (g9 5) (n9_rows 5) (F9 5)), (cI κ (r9 4) 6 f9_sizes), (cI κ q3 nq3 fq3)] sz) 0 0 (va_A [O9 a9 r9 v9_count, (cI κ (r9 0) 6 f9_years), (cI κ (r9 1) 6 f9_priors), (cRI κ (r9 3) 6 (fun i => some (g9 i))), (cI κ (g9 0) (n9_rows 0) (F9 0)), (cI κ (g9 1) (n9_rows 1) (F9 1)), (cI κ (g9 2) (n9_rows 2) (F9 2)), (cI κ (g9 3) (n9_rows 3) (F9 3)), (cI κ (g9 4) (n9_rows 4) (F9 4)), (cI κ (g9 5) (n9_rows 5) (F9 5)), (cI κ (r9 4) 6 f9_sizes), (cI κ q3 nq3 fq3)] sz) := by
  refine ofK_i (cc := cX9_add) (maxL := 5) (own := RX9) (by decide) rfl rfl (Nat.le_of_ble_eq_true rfl) ?_
  intro p e s m args below meth c Q A ls hsz hx hb hml hts hown hK hA hAB hP hD hl ret
  have hS : va_S A s.heap s.heap [] := va_S.rf
  have hl : lv_has ls 5 [(0, .ref a9), (1, .int p1), (2, .int p2), (3, .ref q3), (4, .int p4)] := hl
  have w0 := hts (.fieldLink RX9 9 "OlderSkin$Stories" "years" "[I") (List.mem_of_getElem? (i := 1) rfl)
  have w1 := (fun w h => List.mem_cons_of_mem _ (List.mem_append_right _ h) : ∀ w ∈ u_ws RX9 TX9 7, w ∈ wsX9_add)
  have w2 := hts (.fieldLink RX9 32 "OlderSkin$Stories" "count" "I") (List.mem_of_getElem? (i := 2) rfl)
  have w3 := hts (.fieldLink RX9 15 "OlderSkin$Stories" "priors" "[I") (List.mem_of_getElem? (i := 3) rfl)
  have w4 := hts (.fieldLink RX9 23 "OlderSkin$Stories" "steps" "[[I") (List.mem_of_getElem? (i := 4) rfl)
  have w5 := hts (.fieldLink RX9 26 "OlderSkin$Stories" "sizes" "[I") (List.mem_of_getElem? (i := 5) rfl)
  have l0 : (0 : Int32).toInt = 0 := by decide
  have l1 : ((-3) : Int32).toInt = -3 := by decide
  have l2 : (1 : Int32).toInt = 1 := by decide
  have i1 : 0 ≤ v9_count.toInt ∧ v9_count.toInt ≤ 6 := i1
  refine lv_aload_n hx hb dX9_add_0 rfl (lv_at hl 0 rfl) ?_
  refine kcm_i hA hAB hP hD hS [true, true, false, false, false, false, false, false, false, false, false, false] rfl (fun _ => rfl) (fun hPc hDc => va_runV (As := []) (rest := []) ⟨hx, hb, hml, hown, hts⟩ (k_X9_isFull l D κ β a9 r9 v9_count f9_years s.heap.size i1) (cwV 0 hts gX9_add_X9_isFull rfl rfl rfl (by decide +kernel) ⟨Nat.le_of_ble_eq_true rfl, Nat.le_of_ble_eq_true rfl⟩) (pk_V hK hS hAB hPc hDc 0 (ci := 9) rfl rfl rfl) rfl rfl hl.1 rfl (lv_room (Nat.le_of_ble_eq_true rfl)) dX9_add_1 ⟨Nat.le_of_ble_eq_true rfl, Nat.le_of_ble_eq_true rfl⟩) (fun x1 u2 H locs hw hPD hS => ?_)
  have h3 : (x1.toInt = 1 ∧ v9_count.toInt = 6) ∨ (x1.toInt = 0 ∧ v9_count.toInt < 6) := hw
  obtain ⟨hP, hD⟩ : PD D A [O9 a9 r9 v9_count, (cI κ (r9 0) 6 f9_years), (cI κ (r9 1) 6 f9_priors), (cRI κ (r9 3) 6 (fun i => some (g9 i))), (cI κ (g9 0) (n9_rows 0) (F9 0)), (cI κ (g9 1) (n9_rows 1) (F9 1)), (cI κ (g9 2) (n9_rows 2) (F9 2)), (cI κ (g9 3) (n9_rows 3) (F9 3)), (cI κ (g9 4) (n9_rows 4) (F9 4)), (cI κ (g9 5) (n9_rows 5) (F9 5)), (cI κ (r9 4) 6 f9_sizes), (cI κ q3 nq3 fq3)] H := hPD
  refine lv_if_ne (tgt := 14) hx hb dX9_add_4 (by decide) (fun c4 => ?_) (fun c4 => ?_)
  · have c4 := ci_ne c4
    refine lv_bipush (v := (-3)) hx hb dX9_add_14 (by decide) ?_
    obtain ⟨hP, hD⟩ : PD D A [O9 a9 r9 v9_count, (cI κ (r9 0) 6 f9_years), (cI κ (r9 1) 6 f9_priors), (cRI κ (r9 3) 6 (fun i => some (g9 i))), (cI κ (g9 0) (n9_rows 0) (F9 0)), (cI κ (g9 1) (n9_rows 1) (F9 1)), (cI κ (g9 2) (n9_rows 2) (F9 2)), (cI κ (g9 3) (n9_rows 3) (F9 3)), (cI κ (g9 4) (n9_rows 4) (F9 4)), (cI κ (g9 5) (n9_rows 5) (F9 5)), (cI κ (r9 4) 6 f9_sizes)] H := ⟨hP.sub [0, 1, 2, 3, 4, 5, 6, 7, 8, 9, 10] rfl, hD.sub [0, 1, 2, 3, 4, 5, 6, 7, 8, 9, 10] (by decide) rfl⟩
    have hpo : (0 ≤ v9_count.toInt ∧ v9_count.toInt ≤ 6) ∧ (∀ j : Nat, (f9_sizes j).toInt ≤ 4096) ∧ (∀ j : Nat, (f9_sizes j).toInt ≤ ((n9_rows j : Nat) : Int)) := ⟨i1, hf9_sizes, hszr⟩
    exact ret _ _ _ _ (-3) (v9_count, f9_years, f9_priors, g9, n9_rows, F9, f9_sizes) dX9_add_16 hpo hP hD hS
  have c4 := ci_eq c4
  refine lv_iload hx hb dX9_add_7 (lv_at hl 4 rfl) ?_
  refine lv_aload_n hx hb dX9_add_9 rfl (lv_at hl 3 rfl) ?_
  refine va_alen hx hb hK.1 hP 11 1 rfl rfl rfl dX9_add_10 ?_
  refine lv_topi (fun x5 e6 => ?_)
  have h7 : x5.toInt = ((nq3 : Nat) : Int) := ci_len e6 (by omega)
  refine lv_icmp_le (tgt := 17) hx hb dX9_add_11 (by decide) (fun c8 => ?_) (fun c8 => ?_)
  · have c8 := ci_le c8
    refine lv_aload_n hx hb dX9_add_17 rfl (lv_at hl 0 rfl) ?_
    refine va_get (D := D) (ci := 9) (v := .ref (r9 0)) (C := RX9) (T := TX9) (N := 7) hx hb hts w1 hown hK.1 hP 0 rfl rfl 0 (by decide) w0 (fun _ h9 => h9) rfl dX9_add_18 ?_
    refine lv_aload_n hx hb dX9_add_21 rfl (lv_at hl 0 rfl) ?_
    refine va_get (D := D) (ci := 9) (v := .int v9_count) (C := RX9) (T := TX9) (N := 7) hx hb hts w1 hown hK.1 hP 0 rfl rfl 5 (by decide) w2 (fun _ h9 => h9) rfl dX9_add_22 ?_
    refine lv_iload_n hx hb dX9_add_25 rfl (lv_at hl 1 rfl) ?_
    refine va_iast hx hb hK.1 hP hD hS 1 1 rfl rfl (i := v9_count) (ix (by omega) (by omega)) dX9_add_26 (fun H locs hP hD hS => ?_)
    obtain ⟨g10, e11⟩ : ∃ y : Nat → Int32, y = upd f9_years v9_count.toNatClampNeg p1 := ⟨_, rfl⟩
    rw [← e11] at hP hD
    obtain ⟨hP, hD⟩ : PD D A [O9 a9 r9 v9_count, (cI κ (r9 0) 6 g10), (cI κ (r9 1) 6 f9_priors), (cRI κ (r9 3) 6 (fun i => some (g9 i))), (cI κ (g9 0) (n9_rows 0) (F9 0)), (cI κ (g9 1) (n9_rows 1) (F9 1)), (cI κ (g9 2) (n9_rows 2) (F9 2)), (cI κ (g9 3) (n9_rows 3) (F9 3)), (cI κ (g9 4) (n9_rows 4) (F9 4)), (cI κ (g9 5) (n9_rows 5) (F9 5)), (cI κ (r9 4) 6 f9_sizes), (cI κ q3 nq3 fq3)] H := ⟨hP, hD⟩
    refine lv_aload_n hx hb dX9_add_27 rfl (lv_at hl 0 rfl) ?_
    refine va_get (D := D) (ci := 9) (v := .ref (r9 1)) (C := RX9) (T := TX9) (N := 7) hx hb hts w1 hown hK.1 hP 0 rfl rfl 1 (by decide) w3 (fun _ h9 => h9) rfl dX9_add_28 ?_
    refine lv_aload_n hx hb dX9_add_31 rfl (lv_at hl 0 rfl) ?_
    refine va_get (D := D) (ci := 9) (v := .int v9_count) (C := RX9) (T := TX9) (N := 7) hx hb hts w1 hown hK.1 hP 0 rfl rfl 5 (by decide) w2 (fun _ h9 => h9) rfl dX9_add_32 ?_
    refine lv_iload_n hx hb dX9_add_35 rfl (lv_at hl 2 rfl) ?_
    refine va_iast hx hb hK.1 hP hD hS 2 1 rfl rfl (i := v9_count) (ix (by omega) (by omega)) dX9_add_36 (fun H locs hP hD hS => ?_)
    obtain ⟨g12, e13⟩ : ∃ y : Nat → Int32, y = upd f9_priors v9_count.toNatClampNeg p2 := ⟨_, rfl⟩
    rw [← e13] at hP hD
    obtain ⟨hP, hD⟩ : PD D A [O9 a9 r9 v9_count, (cI κ (r9 0) 6 g10), (cI κ (r9 1) 6 g12), (cRI κ (r9 3) 6 (fun i => some (g9 i))), (cI κ (g9 0) (n9_rows 0) (F9 0)), (cI κ (g9 1) (n9_rows 1) (F9 1)), (cI κ (g9 2) (n9_rows 2) (F9 2)), (cI κ (g9 3) (n9_rows 3) (F9 3)), (cI κ (g9 4) (n9_rows 4) (F9 4)), (cI κ (g9 5) (n9_rows 5) (F9 5)), (cI κ (r9 4) 6 f9_sizes), (cI κ q3 nq3 fq3)] H := ⟨hP, hD⟩
    refine lv_aload_n hx hb dX9_add_37 rfl (lv_at hl 0 rfl) ?_
    refine va_get (D := D) (ci := 9) (v := .ref (r9 3)) (C := RX9) (T := TX9) (N := 7) hx hb hts w1 hown hK.1 hP 0 rfl rfl 3 (by decide) w4 (fun _ h9 => h9) rfl dX9_add_38 ?_
    refine lv_aload_n hx hb dX9_add_41 rfl (lv_at hl 0 rfl) ?_
    refine va_get (D := D) (ci := 9) (v := .int v9_count) (C := RX9) (T := TX9) (N := 7) hx hb hts w1 hown hK.1 hP 0 rfl rfl 5 (by decide) w2 (fun _ h9 => h9) rfl dX9_add_42 ?_
    refine lv_aload_n hx hb dX9_add_45 rfl (lv_at hl 3 rfl) ?_
    obtain ⟨j14, hj14, ej14⟩ : ∃ y : Nat, y < 6 ∧ v9_count.toNatClampNeg = y := ⟨_, by have := ci_clamp (i := v9_count) (by omega); omega, rfl⟩
    refine va_astR hx hb hK.1 hP hD hS 3 1 11 hK.2.2.1 rfl rfl rfl (i := v9_count) (ix (by omega) (by omega)) dX9_add_46 (fun H locs hP hD hS => ?_)
    rw [ej14, up_some] at hP hD
    obtain ⟨g15, e18⟩ : ∃ y : Nat → Nat, y = upF g9 j14 q3 := ⟨_, rfl⟩
    obtain ⟨g16, e19⟩ : ∃ y : Nat → Nat, y = upF n9_rows j14 nq3 := ⟨_, rfl⟩
    obtain ⟨F17, e20⟩ : ∃ y : Nat → Nat → Int32, y = upF F9 j14 fq3 := ⟨_, rfl⟩
    have hP : va_P D vwCl [O9 a9 r9 v9_count, (cI κ (r9 0) 6 g10), (cI κ (r9 1) 6 g12), (cRI κ (r9 3) 6 (fun i => some (g15 i))), (cI κ (g15 0) (g16 0) (F17 0)), (cI κ (g15 1) (g16 1) (F17 1)), (cI κ (g15 2) (g16 2) (F17 2)), (cI κ (g15 3) (g16 3) (F17 3)), (cI κ (g15 4) (g16 4) (F17 4)), (cI κ (g15 5) (g16 5) (F17 5)), (cI κ (r9 4) 6 f9_sizes)] H := by
      rw [e18, e19, e20]
      rcases six hj14 with h | h | h | h | h | h
      · subst h; exact hP.sub [0, 1, 2, 3, 11, 5, 6, 7, 8, 9, 10] rfl
      · subst h; exact hP.sub [0, 1, 2, 3, 4, 11, 6, 7, 8, 9, 10] rfl
      · subst h; exact hP.sub [0, 1, 2, 3, 4, 5, 11, 7, 8, 9, 10] rfl
      · subst h; exact hP.sub [0, 1, 2, 3, 4, 5, 6, 11, 8, 9, 10] rfl
      · subst h; exact hP.sub [0, 1, 2, 3, 4, 5, 6, 7, 11, 9, 10] rfl
      · subst h; exact hP.sub [0, 1, 2, 3, 4, 5, 6, 7, 8, 11, 10] rfl
    have hD : va_D A [O9 a9 r9 v9_count, (cI κ (r9 0) 6 g10), (cI κ (r9 1) 6 g12), (cRI κ (r9 3) 6 (fun i => some (g15 i))), (cI κ (g15 0) (g16 0) (F17 0)), (cI κ (g15 1) (g16 1) (F17 1)), (cI κ (g15 2) (g16 2) (F17 2)), (cI κ (g15 3) (g16 3) (F17 3)), (cI κ (g15 4) (g16 4) (F17 4)), (cI κ (g15 5) (g16 5) (F17 5)), (cI κ (r9 4) 6 f9_sizes)] := by
      rw [e18, e19, e20]
      rcases six hj14 with h | h | h | h | h | h
      · subst h; exact hD.sub [0, 1, 2, 3, 11, 5, 6, 7, 8, 9, 10] (by decide) rfl
      · subst h; exact hD.sub [0, 1, 2, 3, 4, 11, 6, 7, 8, 9, 10] (by decide) rfl
      · subst h; exact hD.sub [0, 1, 2, 3, 4, 5, 11, 7, 8, 9, 10] (by decide) rfl
      · subst h; exact hD.sub [0, 1, 2, 3, 4, 5, 6, 11, 8, 9, 10] (by decide) rfl
      · subst h; exact hD.sub [0, 1, 2, 3, 4, 5, 6, 7, 11, 9, 10] (by decide) rfl
      · subst h; exact hD.sub [0, 1, 2, 3, 4, 5, 6, 7, 8, 11, 10] (by decide) rfl
    refine lv_aload_n hx hb dX9_add_47 rfl (lv_at hl 0 rfl) ?_
    refine va_get (D := D) (ci := 9) (v := .ref (r9 4)) (C := RX9) (T := TX9) (N := 7) hx hb hts w1 hown hK.1 hP 0 rfl rfl 4 (by decide) w5 (fun _ h9 => h9) rfl dX9_add_48 ?_
    refine lv_aload_n hx hb dX9_add_51 rfl (lv_at hl 0 rfl) ?_
    refine va_get (D := D) (ci := 9) (v := .int v9_count) (C := RX9) (T := TX9) (N := 7) hx hb hts w1 hown hK.1 hP 0 rfl rfl 5 (by decide) w2 (fun _ h9 => h9) rfl dX9_add_52 ?_
    refine lv_iload hx hb dX9_add_55 (lv_at hl 4 rfl) ?_
    refine va_iast hx hb hK.1 hP hD hS 10 1 rfl rfl (i := v9_count) (ix (by omega) (by omega)) dX9_add_57 (fun H locs hP hD hS => ?_)
    obtain ⟨g21, e22⟩ : ∃ y : Nat → Int32, y = upd f9_sizes v9_count.toNatClampNeg p4 := ⟨_, rfl⟩
    rw [← e22] at hP hD
    obtain ⟨hP, hD⟩ : PD D A [O9 a9 r9 v9_count, (cI κ (r9 0) 6 g10), (cI κ (r9 1) 6 g12), (cRI κ (r9 3) 6 (fun i => some (g15 i))), (cI κ (g15 0) (g16 0) (F17 0)), (cI κ (g15 1) (g16 1) (F17 1)), (cI κ (g15 2) (g16 2) (F17 2)), (cI κ (g15 3) (g16 3) (F17 3)), (cI κ (g15 4) (g16 4) (F17 4)), (cI κ (g15 5) (g16 5) (F17 5)), (cI κ (r9 4) 6 g21)] H := ⟨hP, hD⟩
    have h23 : ∀ j : Nat, (g21 j).toInt ≤ 4096 := by rw [e22]; exact all_upd (P := fun z => z.toInt ≤ 4096) hf9_sizes (by omega)
    have hszN : ∀ y : Nat, (g21 y).toInt ≤ ((g16 y : Nat) : Int) := by rw [e22, ej14, e19]; exact hsz_up hszr (by omega)
    refine lv_aload_n hx hb dX9_add_58 rfl (lv_at hl 0 rfl) ?_
    refine lv_dup hx hb dX9_add_59 rfl ?_
    refine va_get (D := D) (ci := 9) (v := .int v9_count) (C := RX9) (T := TX9) (N := 7) hx hb hts w1 hown hK.1 hP 0 rfl rfl 5 (by decide) w2 (fun _ h9 => h9) rfl dX9_add_60 ?_
    refine lv_dup_x1 hx hb dX9_add_63 rfl rfl ?_
    refine lv_iconst (v := 1) hx hb dX9_add_64 (by decide) ?_
    refine lv_iadd hx hb dX9_add_65 ?_
    refine lv_topi (fun x24 e25 => ?_)
    try have h26 : x24.toInt = v9_count.toInt + (1 : Int32).toInt := ci_add e25 (by omega) (by omega)
    refine va_put (D := D) (ci := 9) (v := .int x24) (ty := .int) (C := RX9) (T := TX9) (N := 7) hx hb hts w1 tyX9 tyX9_ok nmX9 hown hK.1 hP hD hS 0 rfl rfl 5 (by decide) w2 (fun _ h9 => h9) rfl (by decide +kernel) rfl rfl (Nat.le_of_ble_eq_true rfl) dX9_add_66 (fun H locs hP hD hS => ?_)
    obtain ⟨hP, hD⟩ : PD D A [O9 a9 r9 x24, (cI κ (r9 0) 6 g10), (cI κ (r9 1) 6 g12), (cRI κ (r9 3) 6 (fun i => some (g15 i))), (cI κ (g15 0) (g16 0) (F17 0)), (cI κ (g15 1) (g16 1) (F17 1)), (cI κ (g15 2) (g16 2) (F17 2)), (cI κ (g15 3) (g16 3) (F17 3)), (cI κ (g15 4) (g16 4) (F17 4)), (cI κ (g15 5) (g16 5) (F17 5)), (cI κ (r9 4) 6 g21)] H := ⟨hP, hD⟩
    have h27 : 0 ≤ x24.toInt ∧ x24.toInt ≤ 6 := by omega
    have hpo : (0 ≤ x24.toInt ∧ x24.toInt ≤ 6) ∧ (∀ j : Nat, (g21 j).toInt ≤ 4096) ∧ (∀ j : Nat, (g21 j).toInt ≤ ((g16 j : Nat) : Int)) := ⟨h27, h23, hszN⟩
    exact ret _ _ _ _ v9_count (x24, g10, g12, g15, g16, F17, g21) dX9_add_69 hpo hP hD hS
  have c8 := ci_nle c8
  refine lv_bipush (v := (-3)) hx hb dX9_add_14 (by decide) ?_
  obtain ⟨hP, hD⟩ : PD D A [O9 a9 r9 v9_count, (cI κ (r9 0) 6 f9_years), (cI κ (r9 1) 6 f9_priors), (cRI κ (r9 3) 6 (fun i => some (g9 i))), (cI κ (g9 0) (n9_rows 0) (F9 0)), (cI κ (g9 1) (n9_rows 1) (F9 1)), (cI κ (g9 2) (n9_rows 2) (F9 2)), (cI κ (g9 3) (n9_rows 3) (F9 3)), (cI κ (g9 4) (n9_rows 4) (F9 4)), (cI κ (g9 5) (n9_rows 5) (F9 5)), (cI κ (r9 4) 6 f9_sizes)] H := ⟨hP.sub [0, 1, 2, 3, 4, 5, 6, 7, 8, 9, 10] rfl, hD.sub [0, 1, 2, 3, 4, 5, 6, 7, 8, 9, 10] (by decide) rfl⟩
  have hpo : (0 ≤ v9_count.toInt ∧ v9_count.toInt ≤ 6) ∧ (∀ j : Nat, (f9_sizes j).toInt ≤ 4096) ∧ (∀ j : Nat, (f9_sizes j).toInt ≤ ((n9_rows j : Nat) : Int)) := ⟨i1, hf9_sizes, hszr⟩
  exact ret _ _ _ _ (-3) (v9_count, f9_years, f9_priors, g9, n9_rows, F9, f9_sizes) dX9_add_16 hpo hP hD hS
