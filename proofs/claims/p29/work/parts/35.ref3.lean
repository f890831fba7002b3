theorem dec_and {x y z : Int32} (e1 : y = x - 1) (e2 : z = x &&& y) (h : x.toInt ≠ 0) : (z.toBitVec.toNat : Int) < (x.toBitVec.toNat : Int) := by
  have h0 : x.toBitVec ≠ 0#32 := fun q => h (by
    have : x = 0 := Int32.toBitVec_inj.mp q
    rw [this]; decide)
  have hn : x.toBitVec.toNat ≠ 0 := fun q => h0 (BitVec.eq_of_toNat_eq q)
  have hy : y.toBitVec = x.toBitVec - 1#32 := by rw [e1]; rfl
  have hy2 : y.toBitVec.toNat = x.toBitVec.toNat - 1 := by
    rw [hy, BitVec.toNat_sub]
    have := x.toBitVec.isLt
    show (2 ^ 32 - 1 + x.toBitVec.toNat) % 2 ^ 32 = _
    omega
  have hz : z.toBitVec.toNat = x.toBitVec.toNat &&& y.toBitVec.toNat := by
    rw [e2]
    exact BitVec.toNat_and _ _
  have h2 : x.toBitVec.toNat &&& y.toBitVec.toNat ≤ y.toBitVec.toNat := Nat.and_le_right
  omega
def noF (f : Nat → Int32) (y n : Int) : Prop := ∀ j : Nat, (j : Int) < n → ¬ (f j).toInt < y
theorem noF_zero {f : Nat → Int32} {y n : Int} (h : n ≤ 0) : noF f y n := fun j q => by omega
theorem noF_step {f : Nat → Int32} {y : Int} {z k k' : Int32} (h : 0 ≤ z.toInt ∨ noF f y k.toInt) (hk : 0 ≤ k.toInt) (h1 : k'.toInt ≤ k.toInt + 1) (h2 : y ≤ (f k.toNatClampNeg).toInt) : 0 ≤ z.toInt ∨ noF f y k'.toInt := by
  rcases h with h | h
  · exact Or.inl h
  · refine Or.inr (fun j q => ?_)
    by_cases e : (j : Int) < k.toInt
    · exact h j e
    · have e2 := ci_clamp (i := k) hk
      have e3 : j = k.toNatClampNeg := by omega
      rw [e3]; omega
theorem noF_le {f : Nat → Int32} {y n : Int} {z k : Int32} (h : 0 ≤ z.toInt ∨ noF f y k.toInt) (h1 : n ≤ k.toInt) : 0 ≤ z.toInt ∨ noF f y n :=
  h.imp id (fun h j q => h j (by omega))
theorem noF_no {f : Nat → Int32} {y n : Int} {z r : Int32} (h : 0 ≤ z.toInt ∨ noF f y n) (hr : r.toInt < 0 ∨ 0 ≤ r.toInt ∧ r.toInt < n ∧ (f r.toNatClampNeg).toInt < y) (h0 : ¬ r.toInt < 0) : 0 ≤ z.toInt := by
  rcases h with h | h
  · exact h
  · rcases hr with q | ⟨q1, q2, q3⟩
    · exact absurd q h0
    · have e2 := ci_clamp (i := r) q1
      exact absurd q3 (h _ (by omega))
set_option maxHeartbeats 4000000 in
set_option maxRecDepth 100000 in
theorem k_X12_bitsOf (l : Launch) (D : va_G) (κ : Nat → ClassId) (β : Nat) (sz : Nat) (p1 : Int32) (i1 : nb p1 < 65536) : Met l yX12_bitsOf wsX12_bitsOf ({ frames := 0, cells := 0, slots := 0, locals := 0 } : Room) (PcK D κ β [] sz [.int p1]) (QiK D (fun (r : Int32) (u : Unit) => r.toInt = ((popN (nb p1) : Nat) : Int)) (fun (u : Unit) => []) [] sz) 0 0 (va_A [] sz) := by
  refine ofK_i (cc := cX12_bitsOf) (maxL := 3) (own := RX12) (by decide) rfl rfl (Nat.le_of_ble_eq_true rfl) ?_
  intro p e s m args below meth c Q A ls hsz hx hb hml hts hown hK hA hAB hP hD hl ret
  have hS : va_S A s.heap s.heap [] := va_S.rf
  have hl : lv_has ls 3 [(0, .int p1)] := hl
  have l0 : (0 : Int32).toInt = 0 := by decide
  have l1 : (1 : Int32).toInt = 1 := by decide
  refine lv_iconst (v := 0) hx hb dX12_bitsOf_0 (by decide) ?_
  refine lv_istore_n (lv' := [(1, .int 0), (0, .int p1)]) hx hb dX12_bitsOf_1 rfl hl (by decide) rfl (fun ls hl => ?_)
  refine lv_iload_n hx hb dX12_bitsOf_2 rfl (lv_at hl 1 rfl) ?_
  refine lv_istore_n (lv' := [(2, .int p1), (1, .int 0), (0, .int p1)]) hx hb dX12_bitsOf_3 rfl hl (by decide) rfl (fun ls hl => ?_)
  have lp4 : ∀ (n4 : Nat) (k1 : Int32) (k2 : Int32), (nb k1 < 65536 ∧ k2.toInt + ((popN (nb k1) : Nat) : Int) = ((popN (nb p1) : Nat) : Int) ∧ 0 ≤ k2.toInt) → ((k1.toBitVec.toNat : Int)).toNat < n4 → ∀ (H : Heap) (locs : List Loc), va_P D vwCl [] H → va_D A [] → va_S A s.heap H locs → ∀ ls : Array Slot, lv_has ls 3 [(2, .int k1), (1, .int k2), (0, .int p1)] → W p l e ({ frames := 0, cells := 0, slots := 0, locals := 0 } : Room) s m args below meth c H locs 0 0 Q (F0 m 4 ls []) := by
    intro n4
    induction n4 with
    | zero =>
      intro k1 k2 h3 m4
      exact absurd m4 (Nat.not_lt_zero _)
    | succ n4 ih4 =>
      intro k1 k2 h3 m4 H locs hP hD hS ls hl
      have hBI : nb k1 < 65536 ∧ k2.toInt + ((popN (nb k1) : Nat) : Int) = ((popN (nb p1) : Nat) : Int) ∧ 0 ≤ k2.toInt := by assumption
      have hpl := popN_le (nb p1)
      refine lv_iload_n hx hb dX12_bitsOf_4 rfl (lv_at hl 0 rfl) ?_
      refine lv_if_eq (tgt := 20) hx hb dX12_bitsOf_5 (by decide) (fun c5 => ?_) (fun c5 => ?_)
      · have c5 := ci_eq c5
        refine lv_iload_n hx hb dX12_bitsOf_20 rfl (lv_at hl 1 rfl) ?_
        have hpo : k2.toInt = ((popN (nb p1) : Nat) : Int) := (by have h9 : nb k1 = 0 := nb_zero.mp (by omega); have h8 := hBI.2.1; rw [h9] at h8; have h7 : popN 0 = 0 := (by decide +kernel); omega)
        exact ret _ _ _ _ k2 () dX12_bitsOf_21 hpo hP hD hS
      have c5 := ci_ne c5
      obtain ⟨x6, e7⟩ : ∃ y : Int32, y = k2 + 1 := ⟨_, rfl⟩
      refine lv_iinc (v := x6) (lv' := [(1, .int x6), (2, .int k1), (0, .int p1)]) hx hb dX12_bitsOf_8 hl (k := 1) rfl (by rw [e7]; rfl) (by decide) rfl (fun ls hl => ?_)
      try have h8 : x6.toInt = k2.toInt + (1 : Int32).toInt := ci_add e7 (by omega) (by omega)
      refine lv_iload_n hx hb dX12_bitsOf_11 rfl (lv_at hl 1 rfl) ?_
      refine lv_iload_n hx hb dX12_bitsOf_12 rfl (lv_at hl 1 rfl) ?_
      refine lv_iconst (v := 1) hx hb dX12_bitsOf_13 (by decide) ?_
      refine lv_isub hx hb dX12_bitsOf_14 ?_
      refine lv_topi (fun x9 e10 => ?_)
      try have h11 : x9.toInt = k1.toInt - (1 : Int32).toInt := ci_sub e10 (by omega) (by omega)
      refine lv_iand hx hb dX12_bitsOf_15 ?_
      refine lv_topi (fun x12 e13 => ?_)
      have hz9 := dec_and e10 e13 (by omega)
      have hbd : nb k1 ≠ 0 := fun h => absurd (nb_zero.mpr h) (by omega)
      have hb1 : nb x12 = nb k1 &&& (nb k1 - 1) := by rw [nb_and e13, nb_sub e10]; show _ &&& ((4294967296 - 1 + nb k1) % 4294967296) = _; rw [show (4294967296 - 1 + nb k1) % 4294967296 = nb k1 - 1 from by have := hBI.1; omega]
      have hb2 := drop_pop hBI.1 hbd
      have hb3 : nb k1 &&& (nb k1 - 1) ≤ nb k1 := Nat.and_le_left
      have hbi : nb x12 < 65536 ∧ x6.toInt + ((popN (nb x12) : Nat) : Int) = ((popN (nb p1) : Nat) : Int) ∧ 0 ≤ x6.toInt := by rw [hb1]; omega
      refine lv_istore_n (lv' := [(2, .int x12), (1, .int x6), (0, .int p1)]) hx hb dX12_bitsOf_16 rfl hl (by decide) rfl (fun ls hl => ?_)
      refine lv_goto (tgt := 4) hx hb dX12_bitsOf_17 (by decide) ?_
      exact ih4 x12 x6 (by first | exact hbi | exact ⟨by assumption, by omega, by omega⟩) (by omega) _ _ hP hD hS _ hl
  exact lp4 (((p1.toBitVec.toNat : Int)).toNat + 1) p1 0 (by first | exact hbi | exact ⟨by assumption, by omega, by omega⟩) (by omega) _ _ hP hD hS _ hl
set_option maxHeartbeats 4000000 in
set_option maxRecDepth 100000 in
theorem k_X12_unlike (l : Launch) (D : va_G) (κ : Nat → ClassId) (β : Nat) (a12 : Nat) (r12 : Nat → Nat) (v12_keptMany : Int32) (v12_done : Int32) (v12_sheets : Int32) (v12_holes : Int32) (v12_worms : Int32) (v12_laidMany : Int32) (v12_wanted : Int32) (v12_orderMany : Int32) (v12_firstOrder : Int32) (v12_lines : Int32) (v12_marks : Int32) (v12_dots : Int32) (v12_madeIn : Int32) (v12_bound : Int32) (v12_places : Int32) (v12_maps : Int32) (v12_tapeMany : Int32) (v12_stories : Int32) (v12_base : Int32) (v12_at : Int32) (v12_ends : Int32) (v12_fault : Int32) (v12_opened : Int32) (v12_bodies : Int32) (v12_ran : Int32) (v12_ownKind : Int32) (v12_ownNumber : Int32) (f12_slips : Nat → Int32) (sz : Nat) (p1 : Int32) (p2 : Int32) (i1 : Rg 0 40 v12_keptMany) (i2 : Rg 0 40 v12_done) (i3 : Rg 0 8 v12_sheets) (i4 : Rg 0 40 v12_holes) (i5 : Rg 0 40 v12_worms) (i6 : Rg 0 8 v12_laidMany) (i7 : Rg 0 8 v12_wanted) (i8 : Rg 0 20 v12_lines) (i9 : Rg 0 60 v12_marks) (i10 : Rg 0 40 v12_dots) (i11 : Rg 0 20 v12_places) (i12 : Rg 0 8 v12_maps) (i13 : Rg 0 120 v12_tapeMany) (i14 : Rg 0 6 v12_stories) (i15 : Rg 0 50 v12_bodies) (i16 : Rg 0 1000 v12_ran) (hf12_slips : ∀ j : Nat, 0 ≤ (f12_slips j).toInt ∧ (f12_slips j).toInt ≤ 65535) (i17 : v12_done.toInt ≤ v12_keptMany.toInt) (i18 : 0 ≤ p1.toInt ∧ p1.toInt ≤ 7) (i19 : 0 ≤ p2.toInt ∧ p2.toInt ≤ 7) : Met l yX12_unlike wsX12_unlike ({ frames := 1, cells := 0, slots := 0, locals := 22 } : Room) (PcK D κ β [O12 a12 r12 v12_keptMany v12_done v12_sheets v12_holes v12_worms v12_laidMany v12_wanted v12_orderMany v12_firstOrder v12_lines v12_marks v12_dots v12_madeIn v12_bound v12_places v12_maps v12_tapeMany v12_stories v12_base v12_at v12_ends v12_fault v12_opened v12_bodies v12_ran v12_ownKind v12_ownNumber, (cI κ (r12 40) 8 f12_slips)] sz [.ref a12, .int p1, .int p2]) (QiK D (fun (r : Int32) (u : Unit) => r.toInt = apF f12_slips p1.toNatClampNeg p2.toNatClampNeg) (fun (u : Unit) => [O12 a12 r12 v12_keptMany v12_done v12_sheets v12_holes v12_worms v12_laidMany v12_wanted v12_orderMany v12_firstOrder v12_lines v12_marks v12_dots v12_madeIn v12_bound v12_places v12_maps v12_tapeMany v12_stories v12_base v12_at v12_ends v12_fault v12_opened v12_bodies v12_ran v12_ownKind v12_ownNumber, (cI κ (r12 40) 8 f12_slips)]) [O12 a12 r12 v12_keptMany v12_done v12_sheets v12_holes v12_worms v12_laidMany v12_wanted v12_orderMany v12_firstOrder v12_lines v12_marks v12_dots v12_madeIn v12_bound v12_places v12_maps v12_tapeMany v12_stories v12_base v12_at v12_ends v12_fault v12_opened v12_bodies v12_ran v12_ownKind v12_ownNumber, (cI κ (r12 40) 8 f12_slips)] sz) 0 0 (va_A [O12 a12 r12 v12_keptMany v12_done v12_sheets v12_holes v12_worms v12_laidMany v12_wanted v12_orderMany v12_firstOrder v12_lines v12_marks v12_dots v12_madeIn v12_bound v12_places v12_maps v12_tapeMany v12_stories v12_base v12_at v12_ends v12_fault v12_opened v12_bodies v12_ran v12_ownKind v12_ownNumber, (cI κ (r12 40) 8 f12_slips)] sz) := by
  refine ofK_i (cc := cX12_unlike) (maxL := 3) (own := RX12) (by decide) rfl rfl (Nat.le_of_ble_eq_true rfl) ?_
  intro p e s m args below meth c Q A ls hsz hx hb hml hts hown hK hA hAB hP hD hl ret
  have hS : va_S A s.heap s.heap [] := va_S.rf
  have hl : lv_has ls 3 [(0, .ref a12), (1, .int p1), (2, .int p2)] := hl
  have w0 := hts (.fieldLink RX12 83 "OlderSkinModel" "slips" "[I") (List.mem_of_getElem? (i := 1) rfl)
  have w1 := (fun w h => List.mem_cons_of_mem _ (List.mem_append_right _ h) : ∀ w ∈ u_ws RX12 TX12 63, w ∈ wsX12_unlike)
  refine lv_aload_n hx hb dX12_unlike_0 rfl (lv_at hl 0 rfl) ?_
  refine va_get (D := D) (ci := 12) (v := .ref (r12 40)) (C := RX12) (T := TX12) (N := 63) hx hb hts w1 hown hK.1 hP 0 rfl rfl 40 (by decide) w0 (fun _ h9 => h9) rfl dX12_unlike_1 ?_
  refine lv_iload_n hx hb dX12_unlike_4 rfl (lv_at hl 1 rfl) ?_
  refine va_iald hx hb hK.1 hP 1 1 rfl rfl (i := p1) (ix (by omega) (by omega)) dX12_unlike_5 ?_
  refine lv_topi (fun x1 e2 => ?_)
  have h3 : 0 ≤ x1.toInt ∧ x1.toInt ≤ 65535 := by rw [e2]; exact hf12_slips _
  have hy1 : x1 = f12_slips p1.toNatClampNeg := e2
  refine lv_aload_n hx hb dX12_unlike_6 rfl (lv_at hl 0 rfl) ?_
  refine va_get (D := D) (ci := 12) (v := .ref (r12 40)) (C := RX12) (T := TX12) (N := 63) hx hb hts w1 hown hK.1 hP 0 rfl rfl 40 (by decide) w0 (fun _ h9 => h9) rfl dX12_unlike_7 ?_
  refine lv_iload_n hx hb dX12_unlike_10 rfl (lv_at hl 2 rfl) ?_
  refine va_iald hx hb hK.1 hP 1 1 rfl rfl (i := p2) (ix (by omega) (by omega)) dX12_unlike_11 ?_
  refine lv_topi (fun x4 e5 => ?_)
  have h6 : 0 ≤ x4.toInt ∧ x4.toInt ≤ 65535 := by rw [e5]; exact hf12_slips _
  have hy2 : x4 = f12_slips p2.toNatClampNeg := e5
  refine lv_ixor hx hb dX12_unlike_12 ?_
  refine lv_topi (fun x7 e8 => ?_)
  have hx9 : x7 = f12_slips p1.toNatClampNeg ^^^ f12_slips p2.toNatClampNeg := by rw [e8, hy1, hy2]
  have hx8 := xor_16 e8 (by omega) (by omega) (by omega) (by omega)
  refine kcm_i hA hAB hP hD hS [false, false] rfl (fun _ => rfl) (fun hPc hDc => va_runS (As := [.int x7]) (rest := []) ⟨hx, hb, hml, hown, hts⟩ (k_X12_bitsOf l D κ β s.heap.size x7 (by omega)) (va_cwS 1 hts gX12_unlike_X12_bitsOf rfl rfl rfl (by decide +kernel) ⟨Nat.le_of_ble_eq_true rfl, Nat.le_of_ble_eq_true rfl⟩) (pk_S hK hS hAB hPc hDc) rfl rfl hl.1 rfl (lv_room (Nat.le_of_ble_eq_true rfl)) dX12_unlike_13 ⟨Nat.le_of_ble_eq_true rfl, Nat.le_of_ble_eq_true rfl⟩) (fun x9 u10 H locs hw hPD hS => ?_)
  have h11 : x9.toInt = ((popN (nb x7) : Nat) : Int) := hw
  obtain ⟨hP, hD⟩ : PD D A [O12 a12 r12 v12_keptMany v12_done v12_sheets v12_holes v12_worms v12_laidMany v12_wanted v12_orderMany v12_firstOrder v12_lines v12_marks v12_dots v12_madeIn v12_bound v12_places v12_maps v12_tapeMany v12_stories v12_base v12_at v12_ends v12_fault v12_opened v12_bodies v12_ran v12_ownKind v12_ownNumber, (cI κ (r12 40) 8 f12_slips)] H := hPD
  have hpo : x9.toInt = apF f12_slips p1.toNatClampNeg p2.toNatClampNeg := (by unfold apF; rw [← hx9]; omega)
  exact ret _ _ _ _ x9 () dX12_unlike_16 hpo hP hD hS
set_option maxHeartbeats 4000000 in
set_option maxRecDepth 100000 in
theorem k_X12_fatherOf (l : Launch) (D : va_G) (κ : Nat → ClassId) (β : Nat) (a12 : Nat) (r12 : Nat → Nat) (v12_keptMany : Int32) (v12_done : Int32) (v12_sheets : Int32) (v12_holes : Int32) (v12_worms : Int32) (v12_laidMany : Int32) (v12_wanted : Int32) (v12_orderMany : Int32) (v12_firstOrder : Int32) (v12_lines : Int32) (v12_marks : Int32) (v12_dots : Int32) (v12_madeIn : Int32) (v12_bound : Int32) (v12_places : Int32) (v12_maps : Int32) (v12_tapeMany : Int32) (v12_stories : Int32) (v12_base : Int32) (v12_at : Int32) (v12_ends : Int32) (v12_fault : Int32) (v12_opened : Int32) (v12_bodies : Int32) (v12_ran : Int32) (v12_ownKind : Int32) (v12_ownNumber : Int32) (f12_yearOf : Nat → Int32) (f12_slips : Nat → Int32) (sz : Nat) (p1 : Int32) (i1 : Rg 0 40 v12_keptMany) (i2 : Rg 0 40 v12_done) (i3 : Rg 0 8 v12_sheets) (i4 : Rg 0 40 v12_holes) (i5 : Rg 0 40 v12_worms) (i6 : Rg 0 8 v12_laidMany) (i7 : Rg 0 8 v12_wanted) (i8 : Rg 0 20 v12_lines) (i9 : Rg 0 60 v12_marks) (i10 : Rg 0 40 v12_dots) (i11 : Rg 0 20 v12_places) (i12 : Rg 0 8 v12_maps) (i13 : Rg 0 120 v12_tapeMany) (i14 : Rg 0 6 v12_stories) (i15 : Rg 0 50 v12_bodies) (i16 : Rg 0 1000 v12_ran) (hf12_slips : ∀ j : Nat, 0 ≤ (f12_slips j).toInt ∧ (f12_slips j).toInt ≤ 65535) (i17 : v12_done.toInt ≤ v12_keptMany.toInt) (i18 : 0 ≤ p1.toInt ∧ p1.toInt ≤ 7) : Met l yX12_fatherOf wsX12_fatherOf ({ frames := 2, cells := 0, slots := 0, locals := 44 } : Room) (PcK D κ β [O12 a12 r12 v12_keptMany v12_done v12_sheets v12_holes v12_worms v12_laidMany v12_wanted v12_orderMany v12_firstOrder v12_lines v12_marks v12_dots v12_madeIn v12_bound v12_places v12_maps v12_tapeMany v12_stories v12_base v12_at v12_ends v12_fault v12_opened v12_bodies v12_ran v12_ownKind v12_ownNumber, (cI κ (r12 39) 8 f12_yearOf), (cI κ (r12 40) 8 f12_slips)] sz [.ref a12, .int p1]) (QiK D (fun (r : Int32) (u : Unit) => (-2 ≤ r.toInt ∧ r.toInt < v12_maps.toInt) ∧ (r.toInt < 0 ∨ (f12_yearOf r.toNatClampNeg).toInt < (f12_yearOf p1.toNatClampNeg).toInt) ∧ (0 ≤ r.toInt ∨ noF f12_yearOf (f12_yearOf p1.toNatClampNeg).toInt v12_maps.toInt) ∧ (faF f12_yearOf f12_slips p1.toNatClampNeg v12_maps.toInt.toNat = r.toInt ∨ (r.toInt = -2 ∧ faF f12_yearOf f12_slips p1.toNatClampNeg v12_maps.toInt.toNat = -1))) (fun (u : Unit) => [O12 a12 r12 v12_keptMany v12_done v12_sheets v12_holes v12_worms v12_laidMany v12_wanted v12_orderMany v12_firstOrder v12_lines v12_marks v12_dots v12_madeIn v12_bound v12_places v12_maps v12_tapeMany v12_stories v12_base v12_at v12_ends v12_fault v12_opened v12_bodies v12_ran v12_ownKind v12_ownNumber, (cI κ (r12 39) 8 f12_yearOf), (cI κ (r12 40) 8 f12_slips)]) [O12 a12 r12 v12_keptMany v12_done v12_sheets v12_holes v12_worms v12_laidMany v12_wanted v12_orderMany v12_firstOrder v12_lines v12_marks v12_dots v12_madeIn v12_bound v12_places v12_maps v12_tapeMany v12_stories v12_base v12_at v12_ends v12_fault v12_opened v12_bodies v12_ran v12_ownKind v12_ownNumber, (cI κ (r12 39) 8 f12_yearOf), (cI κ (r12 40) 8 f12_slips)] sz) 0 0 (va_A [O12 a12 r12 v12_keptMany v12_done v12_sheets v12_holes v12_worms v12_laidMany v12_wanted v12_orderMany v12_firstOrder v12_lines v12_marks v12_dots v12_madeIn v12_bound v12_places v12_maps v12_tapeMany v12_stories v12_base v12_at v12_ends v12_fault v12_opened v12_bodies v12_ran v12_ownKind v12_ownNumber, (cI κ (r12 39) 8 f12_yearOf), (cI κ (r12 40) 8 f12_slips)] sz) := by
  refine ofK_i (cc := cX12_fatherOf) (maxL := 5) (own := RX12) (by decide) rfl rfl (Nat.le_of_ble_eq_true rfl) ?_
  intro p e s m args below meth c Q A ls hsz hx hb hml hts hown hK hA hAB hP hD hl ret
  have hS : va_S A s.heap s.heap [] := va_S.rf
  have hl : lv_has ls 5 [(0, .ref a12), (1, .int p1)] := hl
  have w0 := hts (.fieldLink RX12 277 "OlderSkinModel" "maps" "I") (List.mem_of_getElem? (i := 1) rfl)
  have w1 := (fun w h => List.mem_cons_of_mem _ (List.mem_append_right _ h) : ∀ w ∈ u_ws RX12 TX12 63, w ∈ wsX12_fatherOf)
  have w2 := hts (.fieldLink RX12 80 "OlderSkinModel" "yearOf" "[I") (List.mem_of_getElem? (i := 2) rfl)
  have l0 : ((-2) : Int32).toInt = -2 := by decide
  have l1 : (0 : Int32).toInt = 0 := by decide
  have l2 : (1 : Int32).toInt = 1 := by decide
  have i12 : 0 ≤ v12_maps.toInt ∧ v12_maps.toInt ≤ 8 := i12
  refine lv_bipush (v := (-2)) hx hb dX12_fatherOf_0 (by decide) ?_
  refine lv_istore_n (lv' := [(2, .int (-2)), (0, .ref a12), (1, .int p1)]) hx hb dX12_fatherOf_2 rfl hl (by decide) rfl (fun ls hl => ?_)
  refine lv_iconst (v := 0) hx hb dX12_fatherOf_3 (by decide) ?_
  refine lv_istore_n (lv' := [(3, .int 0), (2, .int (-2)), (0, .ref a12), (1, .int p1)]) hx hb dX12_fatherOf_4 rfl hl (by decide) rfl (fun ls hl => ?_)
  have lp5 : ∀ (n5 : Nat) (k1 : Int32) (k2 : Int32), (-2 ≤ k2.toInt ∧ k2.toInt < v12_maps.toInt) → (k2.toInt < 0 ∨ (f12_yearOf k2.toNatClampNeg).toInt < (f12_yearOf p1.toNatClampNeg).toInt) → (0 ≤ k2.toInt ∨ noF f12_yearOf (f12_yearOf p1.toNatClampNeg).toInt k1.toInt) → (k1.toInt ≤ v12_maps.toInt) → (faF f12_yearOf f12_slips p1.toNatClampNeg k1.toInt.toNat = k2.toInt ∨ (k2.toInt = -2 ∧ faF f12_yearOf f12_slips p1.toNatClampNeg k1.toInt.toNat = -1)) → (0 ≤ k1.toInt) → (v12_maps.toInt - k1.toInt).toNat < n5 → ∀ (H : Heap) (locs : List Loc), va_P D vwCl [O12 a12 r12 v12_keptMany v12_done v12_sheets v12_holes v12_worms v12_laidMany v12_wanted v12_orderMany v12_firstOrder v12_lines v12_marks v12_dots v12_madeIn v12_bound v12_places v12_maps v12_tapeMany v12_stories v12_base v12_at v12_ends v12_fault v12_opened v12_bodies v12_ran v12_ownKind v12_ownNumber, (cI κ (r12 39) 8 f12_yearOf), (cI κ (r12 40) 8 f12_slips)] H → va_D A [O12 a12 r12 v12_keptMany v12_done v12_sheets v12_holes v12_worms v12_laidMany v12_wanted v12_orderMany v12_firstOrder v12_lines v12_marks v12_dots v12_madeIn v12_bound v12_places v12_maps v12_tapeMany v12_stories v12_base v12_at v12_ends v12_fault v12_opened v12_bodies v12_ran v12_ownKind v12_ownNumber, (cI κ (r12 39) 8 f12_yearOf), (cI κ (r12 40) 8 f12_slips)] → va_S A s.heap H locs → ∀ ls : Array Slot, lv_has ls 5 [(3, .int k1), (2, .int k2), (0, .ref a12), (1, .int p1)] → W p l e ({ frames := 2, cells := 0, slots := 0, locals := 44 } : Room) s m args below meth c H locs 0 0 Q (F0 m 5 ls []) := by
    intro n5
    induction n5 with
    | zero =>
      intro k1 k2 h3 h4 h5 h6 h7 h8 m9
      exact absurd m9 (Nat.not_lt_zero _)
    | succ n5 ih5 =>
      intro k1 k2 h3 h4 h5 h6 h7 h8 m9 H locs hP hD hS ls hl
      have hNF : 0 ≤ k2.toInt ∨ noF f12_yearOf (f12_yearOf p1.toNatClampNeg).toInt k1.toInt := by assumption
      have hFA : faF f12_yearOf f12_slips p1.toNatClampNeg k1.toInt.toNat = k2.toInt ∨ (k2.toInt = -2 ∧ faF f12_yearOf f12_slips p1.toNatClampNeg k1.toInt.toNat = -1) := by assumption
      have hst := fun (kz9 : Int32) (hz9 : kz9.toInt = k1.toInt + 1) => faF_step (y := f12_yearOf) (s := f12_slips) (m := p1.toNatClampNeg) (k := k1) (k' := kz9) (b := k2) hFA (by omega) hz9
      refine lv_iload_n hx hb dX12_fatherOf_5 rfl (lv_at hl 0 rfl) ?_
      refine lv_aload_n hx hb dX12_fatherOf_6 rfl (lv_at hl 2 rfl) ?_
      refine va_get (D := D) (ci := 12) (v := .int v12_maps) (C := RX12) (T := TX12) (N := 63) hx hb hts w1 hown hK.1 hP 0 rfl rfl 38 (by decide) w0 (fun _ h9 => h9) rfl dX12_fatherOf_7 ?_
      refine lv_icmp_ge (tgt := 104) hx hb dX12_fatherOf_10 (by decide) (fun c10 => ?_) (fun c10 => ?_)
      · have c10 := ci_le c10
        refine lv_iload_n hx hb dX12_fatherOf_104 rfl (lv_at hl 1 rfl) ?_
        have hpo : (-2 ≤ k2.toInt ∧ k2.toInt < v12_maps.toInt) ∧ (k2.toInt < 0 ∨ (f12_yearOf k2.toNatClampNeg).toInt < (f12_yearOf p1.toNatClampNeg).toInt) ∧ (0 ≤ k2.toInt ∨ noF f12_yearOf (f12_yearOf p1.toNatClampNeg).toInt v12_maps.toInt) ∧ (faF f12_yearOf f12_slips p1.toNatClampNeg v12_maps.toInt.toNat = k2.toInt ∨ (k2.toInt = -2 ∧ faF f12_yearOf f12_slips p1.toNatClampNeg v12_maps.toInt.toNat = -1)) := ⟨(by omega), (by omega), (noF_le hNF (by omega)), (by rw [← (show k1.toInt.toNat = v12_maps.toInt.toNat from by omega)]; omega)⟩
        exact ret _ _ _ _ k2 () dX12_fatherOf_105 hpo hP hD hS
      have c10 := ci_nle c10
      refine lv_aload_n hx hb dX12_fatherOf_13 rfl (lv_at hl 2 rfl) ?_
      refine va_get (D := D) (ci := 12) (v := .ref (r12 39)) (C := RX12) (T := TX12) (N := 63) hx hb hts w1 hown hK.1 hP 0 rfl rfl 39 (by decide) w2 (fun _ h9 => h9) rfl dX12_fatherOf_14 ?_
      refine lv_iload_n hx hb dX12_fatherOf_17 rfl (lv_at hl 0 rfl) ?_
      refine va_iald hx hb hK.1 hP 1 1 rfl rfl (i := k1) (ix (by omega) (by omega)) dX12_fatherOf_18 ?_
      refine lv_topi (fun x11 e12 => ?_)
      have hya := congrArg Int32.toInt e12
      have hz1 : x11.toInt = (f12_yearOf k1.toNatClampNeg).toInt := congrArg Int32.toInt e12
      refine lv_aload_n hx hb dX12_fatherOf_19 rfl (lv_at hl 2 rfl) ?_
      refine va_get (D := D) (ci := 12) (v := .ref (r12 39)) (C := RX12) (T := TX12) (N := 63) hx hb hts w1 hown hK.1 hP 0 rfl rfl 39 (by decide) w2 (fun _ h9 => h9) rfl dX12_fatherOf_20 ?_
      refine lv_iload_n hx hb dX12_fatherOf_23 rfl (lv_at hl 3 rfl) ?_
      refine va_iald hx hb hK.1 hP 1 1 rfl rfl (i := p1) (ix (by omega) (by omega)) dX12_fatherOf_24 ?_
      refine lv_topi (fun x13 e14 => ?_)
      have hyb := congrArg Int32.toInt e14
      have hz2 : x13.toInt = (f12_yearOf p1.toNatClampNeg).toInt := congrArg Int32.toInt e14
      refine lv_icmp_lt (tgt := 31) hx hb dX12_fatherOf_25 (by decide) (fun c15 => ?_) (fun c15 => ?_)
      · have c15 := ci_lt c15
        refine lv_iload_n hx hb dX12_fatherOf_31 rfl (lv_at hl 1 rfl) ?_
        refine lv_if_lt (tgt := 80) hx hb dX12_fatherOf_32 (by decide) (fun c16 => ?_) (fun c16 => ?_)
        · have c16 := ci_lt c16
          refine lv_iconst (v := 1) hx hb dX12_fatherOf_80 (by decide) ?_
          refine lv_goto (tgt := 85) hx hb dX12_fatherOf_81 (by decide) ?_
          refine lv_istore (lv' := [(4, .int 1), (3, .int k1), (2, .int k2), (0, .ref a12), (1, .int p1)]) hx hb dX12_fatherOf_85 hl (by decide) rfl (fun ls hl => ?_)
          refine lv_iload hx hb dX12_fatherOf_87 (lv_at hl 0 rfl) ?_
          refine lv_if_eq (tgt := 96) hx hb dX12_fatherOf_89 (by decide) (fun c17 => ?_) (fun c17 => ?_)
          · have c17 := ci_eq c17
            exfalso
            omega
          have c17 := ci_ne c17
          refine lv_iload_n hx hb dX12_fatherOf_92 rfl (lv_at hl 1 rfl) ?_
          refine lv_goto (tgt := 97) hx hb dX12_fatherOf_93 (by decide) ?_
          refine lv_istore_n (lv' := [(2, .int k1), (4, .int 1), (3, .int k1), (0, .ref a12), (1, .int p1)]) hx hb dX12_fatherOf_97 rfl hl (by decide) rfl (fun ls hl => ?_)
          obtain ⟨x18, e19⟩ : ∃ y : Int32, y = k1 + 1 := ⟨_, rfl⟩
          refine lv_iinc (v := x18) (lv' := [(3, .int x18), (2, .int k1), (4, .int 1), (0, .ref a12), (1, .int p1)]) hx hb dX12_fatherOf_98 hl (k := 2) rfl (by rw [e19]; rfl) (by decide) rfl (fun ls hl => ?_)
          try have h20 : x18.toInt = k1.toInt + (1 : Int32).toInt := ci_add e19 (by omega) (by omega)
          refine lv_goto (tgt := 5) hx hb dX12_fatherOf_101 (by decide) ?_
          exact ih5 x18 k1 (by omega) (by omega) (by first | exact Or.inr (noF_zero (by decide)) | exact Or.inl (by omega) | exact noF_step hNF (by omega) (by omega) (by omega)) (by omega) (by first | exact Or.inr ⟨by omega, by rw [show x18.toInt.toNat = 0 from by omega]; rfl⟩ | (rw [hst x18 (by omega), if_pos (by omega)]; exact Or.inl (by omega)) | (rw [hst x18 (by omega), if_neg (by omega)]; omega)) (by omega) (by omega) _ _ hP hD hS _ (lv_sub hl [0, 1, 3, 4] rfl)
        have c16 := ci_nlt c16
        refine lv_aload_n hx hb dX12_fatherOf_35 rfl (lv_at hl 2 rfl) ?_
        refine lv_iload_n hx hb dX12_fatherOf_36 rfl (lv_at hl 3 rfl) ?_
        refine lv_iload_n hx hb dX12_fatherOf_37 rfl (lv_at hl 0 rfl) ?_
        refine kcm_i hA hAB hP hD hS [true, false, true] rfl (fun _ => rfl) (fun hPc hDc => va_runV (As := [.int p1, .int k1]) (rest := []) ⟨hx, hb, hml, hown, hts⟩ (k_X12_unlike l D κ β a12 r12 v12_keptMany v12_done v12_sheets v12_holes v12_worms v12_laidMany v12_wanted v12_orderMany v12_firstOrder v12_lines v12_marks v12_dots v12_madeIn v12_bound v12_places v12_maps v12_tapeMany v12_stories v12_base v12_at v12_ends v12_fault v12_opened v12_bodies v12_ran v12_ownKind v12_ownNumber f12_slips H.size p1 k1 i1 i2 i3 i4 i5 i6 i7 i8 i9 i10 i11 i12 i13 i14 i15 i16 hf12_slips i17 (by omega) (by omega)) (cwV 2 hts gX12_fatherOf_X12_unlike rfl rfl rfl (by decide +kernel) ⟨Nat.le_of_ble_eq_true rfl, Nat.le_of_ble_eq_true rfl⟩) (pk_V hK hS hAB hPc hDc 0 (ci := 12) rfl rfl rfl) rfl rfl hl.1 rfl (lv_room (Nat.le_of_ble_eq_true rfl)) dX12_fatherOf_38 ⟨Nat.le_of_ble_eq_true rfl, Nat.le_of_ble_eq_true rfl⟩) (fun x21 u22 H locs hw hPD hS => ?_)
        have h23 : x21.toInt = apF f12_slips p1.toNatClampNeg k1.toNatClampNeg := hw
        obtain ⟨hP, hD⟩ : PD D A [O12 a12 r12 v12_keptMany v12_done v12_sheets v12_holes v12_worms v12_laidMany v12_wanted v12_orderMany v12_firstOrder v12_lines v12_marks v12_dots v12_madeIn v12_bound v12_places v12_maps v12_tapeMany v12_stories v12_base v12_at v12_ends v12_fault v12_opened v12_bodies v12_ran v12_ownKind v12_ownNumber, (cI κ (r12 39) 8 f12_yearOf), (cI κ (r12 40) 8 f12_slips)] H := hPD
        refine lv_aload_n hx hb dX12_fatherOf_41 rfl (lv_at hl 2 rfl) ?_
        refine lv_iload_n hx hb dX12_fatherOf_42 rfl (lv_at hl 3 rfl) ?_
        refine lv_iload_n hx hb dX12_fatherOf_43 rfl (lv_at hl 1 rfl) ?_
        refine kcm_i hA hAB hP hD hS [true, false, true] rfl (fun _ => rfl) (fun hPc hDc => va_runV (As := [.int p1, .int k2]) (rest := [.int x21]) ⟨hx, hb, hml, hown, hts⟩ (k_X12_unlike l D κ β a12 r12 v12_keptMany v12_done v12_sheets v12_holes v12_worms v12_laidMany v12_wanted v12_orderMany v12_firstOrder v12_lines v12_marks v12_dots v12_madeIn v12_bound v12_places v12_maps v12_tapeMany v12_stories v12_base v12_at v12_ends v12_fault v12_opened v12_bodies v12_ran v12_ownKind v12_ownNumber f12_slips H.size p1 k2 i1 i2 i3 i4 i5 i6 i7 i8 i9 i10 i11 i12 i13 i14 i15 i16 hf12_slips i17 (by omega) (by omega)) (cwV 2 hts gX12_fatherOf_X12_unlike rfl rfl rfl (by decide +kernel) ⟨Nat.le_of_ble_eq_true rfl, Nat.le_of_ble_eq_true rfl⟩) (pk_V hK hS hAB hPc hDc 0 (ci := 12) rfl rfl rfl) rfl rfl hl.1 rfl (lv_room (Nat.le_of_ble_eq_true rfl)) dX12_fatherOf_44 ⟨Nat.le_of_ble_eq_true rfl, Nat.le_of_ble_eq_true rfl⟩) (fun x24 u25 H locs hw hPD hS => ?_)
        have h26 : x24.toInt = apF f12_slips p1.toNatClampNeg k2.toNatClampNeg := hw
        obtain ⟨hP, hD⟩ : PD D A [O12 a12 r12 v12_keptMany v12_done v12_sheets v12_holes v12_worms v12_laidMany v12_wanted v12_orderMany v12_firstOrder v12_lines v12_marks v12_dots v12_madeIn v12_bound v12_places v12_maps v12_tapeMany v12_stories v12_base v12_at v12_ends v12_fault v12_opened v12_bodies v12_ran v12_ownKind v12_ownNumber, (cI κ (r12 39) 8 f12_yearOf), (cI κ (r12 40) 8 f12_slips)] H := hPD
        refine lv_icmp_lt (tgt := 80) hx hb dX12_fatherOf_47 (by decide) (fun c27 => ?_) (fun c27 => ?_)
        · have c27 := ci_lt c27
          refine lv_iconst (v := 1) hx hb dX12_fatherOf_80 (by decide) ?_
          refine lv_goto (tgt := 85) hx hb dX12_fatherOf_81 (by decide) ?_
          refine lv_istore (lv' := [(4, .int 1), (3, .int k1), (2, .int k2), (0, .ref a12), (1, .int p1)]) hx hb dX12_fatherOf_85 hl (by decide) rfl (fun ls hl => ?_)
          refine lv_iload hx hb dX12_fatherOf_87 (lv_at hl 0 rfl) ?_
          refine lv_if_eq (tgt := 96) hx hb dX12_fatherOf_89 (by decide) (fun c28 => ?_) (fun c28 => ?_)
          · have c28 := ci_eq c28
            exfalso
            omega
          have c28 := ci_ne c28
          refine lv_iload_n hx hb dX12_fatherOf_92 rfl (lv_at hl 1 rfl) ?_
          refine lv_goto (tgt := 97) hx hb dX12_fatherOf_93 (by decide) ?_
          refine lv_istore_n (lv' := [(2, .int k1), (4, .int 1), (3, .int k1), (0, .ref a12), (1, .int p1)]) hx hb dX12_fatherOf_97 rfl hl (by decide) rfl (fun ls hl => ?_)
          obtain ⟨x29, e30⟩ : ∃ y : Int32, y = k1 + 1 := ⟨_, rfl⟩
          refine lv_iinc (v := x29) (lv' := [(3, .int x29), (2, .int k1), (4, .int 1), (0, .ref a12), (1, .int p1)]) hx hb dX12_fatherOf_98 hl (k := 2) rfl (by rw [e30]; rfl) (by decide) rfl (fun ls hl => ?_)
          try have h31 : x29.toInt = k1.toInt + (1 : Int32).toInt := ci_add e30 (by omega) (by omega)
          refine lv_goto (tgt := 5) hx hb dX12_fatherOf_101 (by decide) ?_
          exact ih5 x29 k1 (by omega) (by omega) (by first | exact Or.inr (noF_zero (by decide)) | exact Or.inl (by omega) | exact noF_step hNF (by omega) (by omega) (by omega)) (by omega) (by first | exact Or.inr ⟨by omega, by rw [show x29.toInt.toNat = 0 from by omega]; rfl⟩ | (rw [hst x29 (by omega), if_pos (by omega)]; exact Or.inl (by omega)) | (rw [hst x29 (by omega), if_neg (by omega)]; omega)) (by omega) (by omega) _ _ hP hD hS _ (lv_sub hl [0, 1, 3, 4] rfl)
        have c27 := ci_nlt c27
        refine lv_aload_n hx hb dX12_fatherOf_50 rfl (lv_at hl 2 rfl) ?_
        refine lv_iload_n hx hb dX12_fatherOf_51 rfl (lv_at hl 3 rfl) ?_
        refine lv_iload_n hx hb dX12_fatherOf_52 rfl (lv_at hl 0 rfl) ?_
        refine kcm_i hA hAB hP hD hS [true, false, true] rfl (fun _ => rfl) (fun hPc hDc => va_runV (As := [.int p1, .int k1]) (rest := []) ⟨hx, hb, hml, hown, hts⟩ (k_X12_unlike l D κ β a12 r12 v12_keptMany v12_done v12_sheets v12_holes v12_worms v12_laidMany v12_wanted v12_orderMany v12_firstOrder v12_lines v12_marks v12_dots v12_madeIn v12_bound v12_places v12_maps v12_tapeMany v12_stories v12_base v12_at v12_ends v12_fault v12_opened v12_bodies v12_ran v12_ownKind v12_ownNumber f12_slips H.size p1 k1 i1 i2 i3 i4 i5 i6 i7 i8 i9 i10 i11 i12 i13 i14 i15 i16 hf12_slips i17 (by omega) (by omega)) (cwV 2 hts gX12_fatherOf_X12_unlike rfl rfl rfl (by decide +kernel) ⟨Nat.le_of_ble_eq_true rfl, Nat.le_of_ble_eq_true rfl⟩) (pk_V hK hS hAB hPc hDc 0 (ci := 12) rfl rfl rfl) rfl rfl hl.1 rfl (lv_room (Nat.le_of_ble_eq_true rfl)) dX12_fatherOf_53 ⟨Nat.le_of_ble_eq_true rfl, Nat.le_of_ble_eq_true rfl⟩) (fun x32 u33 H locs hw hPD hS => ?_)
        have h34 : x32.toInt = apF f12_slips p1.toNatClampNeg k1.toNatClampNeg := hw
        obtain ⟨hP, hD⟩ : PD D A [O12 a12 r12 v12_keptMany v12_done v12_sheets v12_holes v12_worms v12_laidMany v12_wanted v12_orderMany v12_firstOrder v12_lines v12_marks v12_dots v12_madeIn v12_bound v12_places v12_maps v12_tapeMany v12_stories v12_base v12_at v12_ends v12_fault v12_opened v12_bodies v12_ran v12_ownKind v12_ownNumber, (cI κ (r12 39) 8 f12_yearOf), (cI κ (r12 40) 8 f12_slips)] H := hPD
        refine lv_aload_n hx hb dX12_fatherOf_56 rfl (lv_at hl 2 rfl) ?_
        refine lv_iload_n hx hb dX12_fatherOf_57 rfl (lv_at hl 3 rfl) ?_
        refine lv_iload_n hx hb dX12_fatherOf_58 rfl (lv_at hl 1 rfl) ?_
        refine kcm_i hA hAB hP hD hS [true, false, true] rfl (fun _ => rfl) (fun hPc hDc => va_runV (As := [.int p1, .int k2]) (rest := [.int x32]) ⟨hx, hb, hml, hown, hts⟩ (k_X12_unlike l D κ β a12 r12 v12_keptMany v12_done v12_sheets v12_holes v12_worms v12_laidMany v12_wanted v12_orderMany v12_firstOrder v12_lines v12_marks v12_dots v12_madeIn v12_bound v12_places v12_maps v12_tapeMany v12_stories v12_base v12_at v12_ends v12_fault v12_opened v12_bodies v12_ran v12_ownKind v12_ownNumber f12_slips H.size p1 k2 i1 i2 i3 i4 i5 i6 i7 i8 i9 i10 i11 i12 i13 i14 i15 i16 hf12_slips i17 (by omega) (by omega)) (cwV 2 hts gX12_fatherOf_X12_unlike rfl rfl rfl (by decide +kernel) ⟨Nat.le_of_ble_eq_true rfl, Nat.le_of_ble_eq_true rfl⟩) (pk_V hK hS hAB hPc hDc 0 (ci := 12) rfl rfl rfl) rfl rfl hl.1 rfl (lv_room (Nat.le_of_ble_eq_true rfl)) dX12_fatherOf_59 ⟨Nat.le_of_ble_eq_true rfl, Nat.le_of_ble_eq_true rfl⟩) (fun x35 u36 H locs hw hPD hS => ?_)
        have h37 : x35.toInt = apF f12_slips p1.toNatClampNeg k2.toNatClampNeg := hw
        obtain ⟨hP, hD⟩ : PD D A [O12 a12 r12 v12_keptMany v12_done v12_sheets v12_holes v12_worms v12_laidMany v12_wanted v12_orderMany v12_firstOrder v12_lines v12_marks v12_dots v12_madeIn v12_bound v12_places v12_maps v12_tapeMany v12_stories v12_base v12_at v12_ends v12_fault v12_opened v12_bodies v12_ran v12_ownKind v12_ownNumber, (cI κ (r12 39) 8 f12_yearOf), (cI κ (r12 40) 8 f12_slips)] H := hPD
        refine lv_icmp_ne (tgt := 84) hx hb dX12_fatherOf_62 (by decide) (fun c38 => ?_) (fun c38 => ?_)
        · have c38 := ci_ne c38
          refine lv_iconst (v := 0) hx hb dX12_fatherOf_84 (by decide) ?_
          refine lv_istore (lv' := [(4, .int 0), (3, .int k1), (2, .int k2), (0, .ref a12), (1, .int p1)]) hx hb dX12_fatherOf_85 hl (by decide) rfl (fun ls hl => ?_)
          refine lv_iload hx hb dX12_fatherOf_87 (lv_at hl 0 rfl) ?_
          refine lv_if_eq (tgt := 96) hx hb dX12_fatherOf_89 (by decide) (fun c39 => ?_) (fun c39 => ?_)
          · have c39 := ci_eq c39
            refine lv_iload_n hx hb dX12_fatherOf_96 rfl (lv_at hl 2 rfl) ?_
            refine lv_istore_n (lv' := [(2, .int k2), (4, .int 0), (3, .int k1), (0, .ref a12), (1, .int p1)]) hx hb dX12_fatherOf_97 rfl hl (by decide) rfl (fun ls hl => ?_)
            obtain ⟨x40, e41⟩ : ∃ y : Int32, y = k1 + 1 := ⟨_, rfl⟩
            refine lv_iinc (v := x40) (lv' := [(3, .int x40), (2, .int k2), (4, .int 0), (0, .ref a12), (1, .int p1)]) hx hb dX12_fatherOf_98 hl (k := 2) rfl (by rw [e41]; rfl) (by decide) rfl (fun ls hl => ?_)
            try have h42 : x40.toInt = k1.toInt + (1 : Int32).toInt := ci_add e41 (by omega) (by omega)
            refine lv_goto (tgt := 5) hx hb dX12_fatherOf_101 (by decide) ?_
            exact ih5 x40 k2 (by omega) (by omega) (by first | exact Or.inr (noF_zero (by decide)) | exact Or.inl (by omega) | exact noF_step hNF (by omega) (by omega) (by omega)) (by omega) (by first | exact Or.inr ⟨by omega, by rw [show x40.toInt.toNat = 0 from by omega]; rfl⟩ | (rw [hst x40 (by omega), if_pos (by omega)]; exact Or.inl (by omega)) | (rw [hst x40 (by omega), if_neg (by omega)]; omega)) (by omega) (by omega) _ _ hP hD hS _ (lv_sub hl [0, 1, 3, 4] rfl)
          have c39 := ci_ne c39
          exfalso
          omega
        have c38 := ci_eq c38
        refine lv_aload_n hx hb dX12_fatherOf_65 rfl (lv_at hl 2 rfl) ?_
        refine va_get (D := D) (ci := 12) (v := .ref (r12 39)) (C := RX12) (T := TX12) (N := 63) hx hb hts w1 hown hK.1 hP 0 rfl rfl 39 (by decide) w2 (fun _ h9 => h9) rfl dX12_fatherOf_66 ?_
        refine lv_iload_n hx hb dX12_fatherOf_69 rfl (lv_at hl 0 rfl) ?_
        refine va_iald hx hb hK.1 hP 1 1 rfl rfl (i := k1) (ix (by omega) (by omega)) dX12_fatherOf_70 ?_
        refine lv_topi (fun x43 e44 => ?_)
        have hz3 : x43.toInt = (f12_yearOf k1.toNatClampNeg).toInt := congrArg Int32.toInt e44
        refine lv_aload_n hx hb dX12_fatherOf_71 rfl (lv_at hl 2 rfl) ?_
        refine va_get (D := D) (ci := 12) (v := .ref (r12 39)) (C := RX12) (T := TX12) (N := 63) hx hb hts w1 hown hK.1 hP 0 rfl rfl 39 (by decide) w2 (fun _ h9 => h9) rfl dX12_fatherOf_72 ?_
        refine lv_iload_n hx hb dX12_fatherOf_75 rfl (lv_at hl 1 rfl) ?_
        refine va_iald hx hb hK.1 hP 1 1 rfl rfl (i := k2) (ix (by omega) (by omega)) dX12_fatherOf_76 ?_
        refine lv_topi (fun x45 e46 => ?_)
        have hz4 : x45.toInt = (f12_yearOf k2.toNatClampNeg).toInt := congrArg Int32.toInt e46
        refine lv_icmp_le (tgt := 84) hx hb dX12_fatherOf_77 (by decide) (fun c47 => ?_) (fun c47 => ?_)
        · have c47 := ci_le c47
          refine lv_iconst (v := 0) hx hb dX12_fatherOf_84 (by decide) ?_
          refine lv_istore (lv' := [(4, .int 0), (3, .int k1), (2, .int k2), (0, .ref a12), (1, .int p1)]) hx hb dX12_fatherOf_85 hl (by decide) rfl (fun ls hl => ?_)
          refine lv_iload hx hb dX12_fatherOf_87 (lv_at hl 0 rfl) ?_
          refine lv_if_eq (tgt := 96) hx hb dX12_fatherOf_89 (by decide) (fun c48 => ?_) (fun c48 => ?_)
          · have c48 := ci_eq c48
            refine lv_iload_n hx hb dX12_fatherOf_96 rfl (lv_at hl 2 rfl) ?_
            refine lv_istore_n (lv' := [(2, .int k2), (4, .int 0), (3, .int k1), (0, .ref a12), (1, .int p1)]) hx hb dX12_fatherOf_97 rfl hl (by decide) rfl (fun ls hl => ?_)
            obtain ⟨x49, e50⟩ : ∃ y : Int32, y = k1 + 1 := ⟨_, rfl⟩
            refine lv_iinc (v := x49) (lv' := [(3, .int x49), (2, .int k2), (4, .int 0), (0, .ref a12), (1, .int p1)]) hx hb dX12_fatherOf_98 hl (k := 2) rfl (by rw [e50]; rfl) (by decide) rfl (fun ls hl => ?_)
            try have h51 : x49.toInt = k1.toInt + (1 : Int32).toInt := ci_add e50 (by omega) (by omega)
            refine lv_goto (tgt := 5) hx hb dX12_fatherOf_101 (by decide) ?_
            exact ih5 x49 k2 (by omega) (by omega) (by first | exact Or.inr (noF_zero (by decide)) | exact Or.inl (by omega) | exact noF_step hNF (by omega) (by omega) (by omega)) (by omega) (by first | exact Or.inr ⟨by omega, by rw [show x49.toInt.toNat = 0 from by omega]; rfl⟩ | (rw [hst x49 (by omega), if_pos (by omega)]; exact Or.inl (by omega)) | (rw [hst x49 (by omega), if_neg (by omega)]; omega)) (by omega) (by omega) _ _ hP hD hS _ (lv_sub hl [0, 1, 3, 4] rfl)
          have c48 := ci_ne c48
          exfalso
          omega
        have c47 := ci_nle c47
        refine lv_iconst (v := 1) hx hb dX12_fatherOf_80 (by decide) ?_
        refine lv_goto (tgt := 85) hx hb dX12_fatherOf_81 (by decide) ?_
        refine lv_istore (lv' := [(4, .int 1), (3, .int k1), (2, .int k2), (0, .ref a12), (1, .int p1)]) hx hb dX12_fatherOf_85 hl (by decide) rfl (fun ls hl => ?_)
        refine lv_iload hx hb dX12_fatherOf_87 (lv_at hl 0 rfl) ?_
        refine lv_if_eq (tgt := 96) hx hb dX12_fatherOf_89 (by decide) (fun c52 => ?_) (fun c52 => ?_)
        · have c52 := ci_eq c52
          exfalso
          omega
        have c52 := ci_ne c52
        refine lv_iload_n hx hb dX12_fatherOf_92 rfl (lv_at hl 1 rfl) ?_
        refine lv_goto (tgt := 97) hx hb dX12_fatherOf_93 (by decide) ?_
        refine lv_istore_n (lv' := [(2, .int k1), (4, .int 1), (3, .int k1), (0, .ref a12), (1, .int p1)]) hx hb dX12_fatherOf_97 rfl hl (by decide) rfl (fun ls hl => ?_)
        obtain ⟨x53, e54⟩ : ∃ y : Int32, y = k1 + 1 := ⟨_, rfl⟩
        refine lv_iinc (v := x53) (lv' := [(3, .int x53), (2, .int k1), (4, .int 1), (0, .ref a12), (1, .int p1)]) hx hb dX12_fatherOf_98 hl (k := 2) rfl (by rw [e54]; rfl) (by decide) rfl (fun ls hl => ?_)
        try have h55 : x53.toInt = k1.toInt + (1 : Int32).toInt := ci_add e54 (by omega) (by omega)
        refine lv_goto (tgt := 5) hx hb dX12_fatherOf_101 (by decide) ?_
        exact ih5 x53 k1 (by omega) (by omega) (by first | exact Or.inr (noF_zero (by decide)) | exact Or.inl (by omega) | exact noF_step hNF (by omega) (by omega) (by omega)) (by omega) (by first | exact Or.inr ⟨by omega, by rw [show x53.toInt.toNat = 0 from by omega]; rfl⟩ | (rw [hst x53 (by omega), if_pos (by omega)]; exact Or.inl (by omega)) | (rw [hst x53 (by omega), if_neg (by omega)]; omega)) (by omega) (by omega) _ _ hP hD hS _ (lv_sub hl [0, 1, 3, 4] rfl)
      have c15 := ci_nlt c15
      refine lv_goto (tgt := 98) hx hb dX12_fatherOf_28 (by decide) ?_
      obtain ⟨x56, e57⟩ : ∃ y : Int32, y = k1 + 1 := ⟨_, rfl⟩
      refine lv_iinc (v := x56) (lv' := [(3, .int x56), (2, .int k2), (0, .ref a12), (1, .int p1)]) hx hb dX12_fatherOf_98 hl (k := 0) rfl (by rw [e57]; rfl) (by decide) rfl (fun ls hl => ?_)
      try have h58 : x56.toInt = k1.toInt + (1 : Int32).toInt := ci_add e57 (by omega) (by omega)
      refine lv_goto (tgt := 5) hx hb dX12_fatherOf_101 (by decide) ?_
      exact ih5 x56 k2 (by omega) (by omega) (by first | exact Or.inr (noF_zero (by decide)) | exact Or.inl (by omega) | exact noF_step hNF (by omega) (by omega) (by omega)) (by omega) (by first | exact Or.inr ⟨by omega, by rw [show x56.toInt.toNat = 0 from by omega]; rfl⟩ | (rw [hst x56 (by omega), if_pos (by omega)]; exact Or.inl (by omega)) | (rw [hst x56 (by omega), if_neg (by omega)]; omega)) (by omega) (by omega) _ _ hP hD hS _ hl
  exact lp5 ((v12_maps.toInt - (0 : Int32).toInt).toNat + 1) 0 (-2) (by omega) (by omega) (by first | exact Or.inr (noF_zero (by decide)) | exact Or.inl (by omega) | exact noF_step hNF (by omega) (by omega) (by omega)) (by omega) (by first | exact Or.inr ⟨by omega, by rw [show (0 : Int32).toInt.toNat = 0 from by omega]; rfl⟩ | (rw [hst (0 : Int32) (by omega), if_pos (by omega)]; exact Or.inl (by omega)) | (rw [hst (0 : Int32) (by omega), if_neg (by omega)]; omega)) (by omega) (by omega) _ _ hP hD hS _ hl
set_option maxHeartbeats 4000000 in
set_option maxRecDepth 100000 in
theorem k_X12_father (l : Launch) (D : va_G) (κ : Nat → ClassId) (β : Nat) (a12 : Nat) (r12 : Nat → Nat) (v12_keptMany : Int32) (v12_done : Int32) (v12_sheets : Int32) (v12_holes : Int32) (v12_worms : Int32) (v12_laidMany : Int32) (v12_wanted : Int32) (v12_orderMany : Int32) (v12_firstOrder : Int32) (v12_lines : Int32) (v12_marks : Int32) (v12_dots : Int32) (v12_madeIn : Int32) (v12_bound : Int32) (v12_places : Int32) (v12_maps : Int32) (v12_tapeMany : Int32) (v12_stories : Int32) (v12_base : Int32) (v12_at : Int32) (v12_ends : Int32) (v12_fault : Int32) (v12_opened : Int32) (v12_bodies : Int32) (v12_ran : Int32) (v12_ownKind : Int32) (v12_ownNumber : Int32) (f12_yearOf : Nat → Int32) (f12_slips : Nat → Int32) (sz : Nat) (p1 : Int32) (p2 : Int32) (i1 : Rg 0 40 v12_keptMany) (i2 : Rg 0 40 v12_done) (i3 : Rg 0 8 v12_sheets) (i4 : Rg 0 40 v12_holes) (i5 : Rg 0 40 v12_worms) (i6 : Rg 0 8 v12_laidMany) (i7 : Rg 0 8 v12_wanted) (i8 : Rg 0 20 v12_lines) (i9 : Rg 0 60 v12_marks) (i10 : Rg 0 40 v12_dots) (i11 : Rg 0 20 v12_places) (i12 : Rg 0 8 v12_maps) (i13 : Rg 0 120 v12_tapeMany) (i14 : Rg 0 6 v12_stories) (i15 : Rg 0 50 v12_bodies) (i16 : Rg 0 1000 v12_ran) (hf12_slips : ∀ j : Nat, 0 ≤ (f12_slips j).toInt ∧ (f12_slips j).toInt ≤ 65535) (i17 : v12_done.toInt ≤ v12_keptMany.toInt) : Met l yX12_father wsX12_father ({ frames := 3, cells := 0, slots := 0, locals := 68 } : Room) (PcK D κ β [O12 a12 r12 v12_keptMany v12_done v12_sheets v12_holes v12_worms v12_laidMany v12_wanted v12_orderMany v12_firstOrder v12_lines v12_marks v12_dots v12_madeIn v12_bound v12_places v12_maps v12_tapeMany v12_stories v12_base v12_at v12_ends v12_fault v12_opened v12_bodies v12_ran v12_ownKind v12_ownNumber, (cI κ (r12 39) 8 f12_yearOf), (cI κ (r12 40) 8 f12_slips)] sz [.ref a12, .int p1, .int p2]) (QiK D (fun (r : Int32) (u : Unit) => (¬ (0 ≤ p1.toInt ∧ p1.toInt < v12_maps.toInt ∧ 0 ≤ p2.toInt ∧ p2.toInt ≤ 1) ∧ r.toInt = -1) ∨ ((0 ≤ p1.toInt ∧ p1.toInt < v12_maps.toInt ∧ 0 ≤ p2.toInt ∧ p2.toInt ≤ 1) ∧ faF f12_yearOf f12_slips p1.toNatClampNeg v12_maps.toInt.toNat < 0 ∧ r.toInt = -2) ∨ ((0 ≤ p1.toInt ∧ p1.toInt < v12_maps.toInt ∧ 0 ≤ p2.toInt ∧ p2.toInt ≤ 1) ∧ 0 ≤ faF f12_yearOf f12_slips p1.toNatClampNeg v12_maps.toInt.toNat ∧ p2.toInt = 0 ∧ r.toInt = faF f12_yearOf f12_slips p1.toNatClampNeg v12_maps.toInt.toNat) ∨ ((0 ≤ p1.toInt ∧ p1.toInt < v12_maps.toInt ∧ 0 ≤ p2.toInt ∧ p2.toInt ≤ 1) ∧ 0 ≤ faF f12_yearOf f12_slips p1.toNatClampNeg v12_maps.toInt.toNat ∧ p2.toInt = 1 ∧ r.toInt = apF f12_slips p1.toNatClampNeg (faF f12_yearOf f12_slips p1.toNatClampNeg v12_maps.toInt.toNat).toNat)) (fun (u : Unit) => [O12 a12 r12 v12_keptMany v12_done v12_sheets v12_holes v12_worms v12_laidMany v12_wanted v12_orderMany v12_firstOrder v12_lines v12_marks v12_dots v12_madeIn v12_bound v12_places v12_maps v12_tapeMany v12_stories v12_base v12_at v12_ends v12_fault v12_opened v12_bodies v12_ran v12_ownKind v12_ownNumber, (cI κ (r12 39) 8 f12_yearOf), (cI κ (r12 40) 8 f12_slips)]) [O12 a12 r12 v12_keptMany v12_done v12_sheets v12_holes v12_worms v12_laidMany v12_wanted v12_orderMany v12_firstOrder v12_lines v12_marks v12_dots v12_madeIn v12_bound v12_places v12_maps v12_tapeMany v12_stories v12_base v12_at v12_ends v12_fault v12_opened v12_bodies v12_ran v12_ownKind v12_ownNumber, (cI κ (r12 39) 8 f12_yearOf), (cI κ (r12 40) 8 f12_slips)] sz) 0 0 (va_A [O12 a12 r12 v12_keptMany v12_done v12_sheets v12_holes v12_worms v12_laidMany v12_wanted v12_orderMany v12_firstOrder v12_lines v12_marks v12_dots v12_madeIn v12_bound v12_places v12_maps v12_tapeMany v12_stories v12_base v12_at v12_ends v12_fault v12_opened v12_bodies v12_ran v12_ownKind v12_ownNumber, (cI κ (r12 39) 8 f12_yearOf), (cI κ (r12 40) 8 f12_slips)] sz) := by
  refine ofK_i (cc := cX12_father) (maxL := 4) (own := RX12) (by decide) rfl rfl (Nat.le_of_ble_eq_true rfl) ?_
  intro p e s m args below meth c Q A ls hsz hx hb hml hts hown hK hA hAB hP hD hl ret
  have hS : va_S A s.heap s.heap [] := va_S.rf
  have hl : lv_has ls 4 [(0, .ref a12), (1, .int p1), (2, .int p2)] := hl
  have l0 : (0 : Int32).toInt = 0 := by decide
  have l1 : ((-1) : Int32).toInt = -1 := by decide
  have l2 : (0 : Int64).toInt = 0 := by decide
  have l3 : (1 : Int64).toInt = 1 := by decide
  have l4 : ((-2) : Int32).toInt = -2 := by decide
  have i12 : 0 ≤ v12_maps.toInt ∧ v12_maps.toInt ≤ 8 := i12
  refine lv_aload_n hx hb dX12_father_0 rfl (lv_at hl 0 rfl) ?_
  refine lv_iload_n hx hb dX12_father_1 rfl (lv_at hl 1 rfl) ?_
  refine kcm_i hA hAB hP hD hS [true, false, false] rfl (fun _ => rfl) (fun hPc hDc => va_runV (As := [.int p1]) (rest := []) ⟨hx, hb, hml, hown, hts⟩ (k_X12_isMap l D κ β a12 r12 v12_keptMany v12_done v12_sheets v12_holes v12_worms v12_laidMany v12_wanted v12_orderMany v12_firstOrder v12_lines v12_marks v12_dots v12_madeIn v12_bound v12_places v12_maps v12_tapeMany v12_stories v12_base v12_at v12_ends v12_fault v12_opened v12_bodies v12_ran v12_ownKind v12_ownNumber s.heap.size p1 i1 i2 i3 i4 i5 i6 i7 i8 i9 i10 i11 i12 i13 i14 i15 i16 i17) (cwV 1 hts gX12_father_X12_isMap rfl rfl rfl (by decide +kernel) ⟨Nat.le_of_ble_eq_true rfl, Nat.le_of_ble_eq_true rfl⟩) (pk_V hK hS hAB hPc hDc 0 (ci := 12) rfl rfl rfl) rfl rfl hl.1 rfl (lv_room (Nat.le_of_ble_eq_true rfl)) dX12_father_2 ⟨Nat.le_of_ble_eq_true rfl, Nat.le_of_ble_eq_true rfl⟩) (fun x1 u2 H locs hw hPD hS => ?_)
  have h3 : (x1.toInt = 1 ∧ 0 ≤ p1.toInt ∧ p1.toInt < v12_maps.toInt) ∨ (x1.toInt = 0 ∧ (p1.toInt < 0 ∨ v12_maps.toInt ≤ p1.toInt)) := hw
  obtain ⟨hP, hD⟩ : PD D A [O12 a12 r12 v12_keptMany v12_done v12_sheets v12_holes v12_worms v12_laidMany v12_wanted v12_orderMany v12_firstOrder v12_lines v12_marks v12_dots v12_madeIn v12_bound v12_places v12_maps v12_tapeMany v12_stories v12_base v12_at v12_ends v12_fault v12_opened v12_bodies v12_ran v12_ownKind v12_ownNumber, (cI κ (r12 39) 8 f12_yearOf), (cI κ (r12 40) 8 f12_slips)] H := hPD
  refine lv_if_eq (tgt := 18) hx hb dX12_father_5 (by decide) (fun c4 => ?_) (fun c4 => ?_)
  · have c4 := ci_eq c4
    refine lv_iconst (v := (-1)) hx hb dX12_father_18 (by decide) ?_
    have hpo : (¬ (0 ≤ p1.toInt ∧ p1.toInt < v12_maps.toInt ∧ 0 ≤ p2.toInt ∧ p2.toInt ≤ 1) ∧ ((-1) : Int32).toInt = -1) ∨ ((0 ≤ p1.toInt ∧ p1.toInt < v12_maps.toInt ∧ 0 ≤ p2.toInt ∧ p2.toInt ≤ 1) ∧ faF f12_yearOf f12_slips p1.toNatClampNeg v12_maps.toInt.toNat < 0 ∧ ((-1) : Int32).toInt = -2) ∨ ((0 ≤ p1.toInt ∧ p1.toInt < v12_maps.toInt ∧ 0 ≤ p2.toInt ∧ p2.toInt ≤ 1) ∧ 0 ≤ faF f12_yearOf f12_slips p1.toNatClampNeg v12_maps.toInt.toNat ∧ p2.toInt = 0 ∧ ((-1) : Int32).toInt = faF f12_yearOf f12_slips p1.toNatClampNeg v12_maps.toInt.toNat) ∨ ((0 ≤ p1.toInt ∧ p1.toInt < v12_maps.toInt ∧ 0 ≤ p2.toInt ∧ p2.toInt ≤ 1) ∧ 0 ≤ faF f12_yearOf f12_slips p1.toNatClampNeg v12_maps.toInt.toNat ∧ p2.toInt = 1 ∧ ((-1) : Int32).toInt = apF f12_slips p1.toNatClampNeg (faF f12_yearOf f12_slips p1.toNatClampNeg v12_maps.toInt.toNat).toNat) := (by omega)
    exact ret _ _ _ _ (-1) () dX12_father_19 hpo hP hD hS
  have c4 := ci_ne c4
  refine lv_iload_n hx hb dX12_father_8 rfl (lv_at hl 2 rfl) ?_
  refine lv_i2l hx hb dX12_father_9 rfl ?_
  refine lv_topl (fun x5 e6 => ?_)
  have h7 : x5.toInt = p2.toInt := cl_i2l e6
  refine lv_lconst (v := (0 : Int64)) hx hb dX12_father_10 (by decide) ?_
  refine lv_lconst (v := (1 : Int64)) hx hb dX12_father_11 (by decide) ?_
  refine kcm_i hA hAB hP hD hS [false, false, false] rfl (fun _ => rfl) (fun hPc hDc => va_runS (As := [.long x5, .long (0 : Int64), .long (1 : Int64)]) (rest := []) ⟨hx, hb, hml, hown, hts⟩ (k_X12_within l D κ β H.size x5 (0 : Int64) (1 : Int64)) (va_cwS 3 hts gX12_father_X12_within rfl rfl rfl (by decide +kernel) ⟨Nat.le_of_ble_eq_true rfl, Nat.le_of_ble_eq_true rfl⟩) (pk_S hK hS hAB hPc hDc) rfl rfl hl.1 rfl (lv_room (Nat.le_of_ble_eq_true rfl)) dX12_father_12 ⟨Nat.le_of_ble_eq_true rfl, Nat.le_of_ble_eq_true rfl⟩) (fun x8 u9 H locs hw hPD hS => ?_)
  have h10 : (x8.toInt = 1 ∧ (0 : Int64).toInt ≤ x5.toInt ∧ x5.toInt ≤ (1 : Int64).toInt) ∨ (x8.toInt = 0 ∧ (x5.toInt < (0 : Int64).toInt ∨ (1 : Int64).toInt < x5.toInt)) := hw
  obtain ⟨hP, hD⟩ : PD D A [O12 a12 r12 v12_keptMany v12_done v12_sheets v12_holes v12_worms v12_laidMany v12_wanted v12_orderMany v12_firstOrder v12_lines v12_marks v12_dots v12_madeIn v12_bound v12_places v12_maps v12_tapeMany v12_stories v12_base v12_at v12_ends v12_fault v12_opened v12_bodies v12_ran v12_ownKind v12_ownNumber, (cI κ (r12 39) 8 f12_yearOf), (cI κ (r12 40) 8 f12_slips)] H := hPD
  refine lv_if_ne (tgt := 20) hx hb dX12_father_15 (by decide) (fun c11 => ?_) (fun c11 => ?_)
  · have c11 := ci_ne c11
    refine lv_aload_n hx hb dX12_father_20 rfl (lv_at hl 0 rfl) ?_
    refine lv_iload_n hx hb dX12_father_21 rfl (lv_at hl 1 rfl) ?_
    refine kcm_i hA hAB hP hD hS [true, true, true] rfl (fun _ => rfl) (fun hPc hDc => va_runV (As := [.int p1]) (rest := []) ⟨hx, hb, hml, hown, hts⟩ (k_X12_fatherOf l D κ β a12 r12 v12_keptMany v12_done v12_sheets v12_holes v12_worms v12_laidMany v12_wanted v12_orderMany v12_firstOrder v12_lines v12_marks v12_dots v12_madeIn v12_bound v12_places v12_maps v12_tapeMany v12_stories v12_base v12_at v12_ends v12_fault v12_opened v12_bodies v12_ran v12_ownKind v12_ownNumber f12_yearOf f12_slips H.size p1 i1 i2 i3 i4 i5 i6 i7 i8 i9 i10 i11 i12 i13 i14 i15 i16 hf12_slips i17 (by omega)) (cwV 1 hts gX12_father_X12_fatherOf rfl rfl rfl (by decide +kernel) ⟨Nat.le_of_ble_eq_true rfl, Nat.le_of_ble_eq_true rfl⟩) (pk_V hK hS hAB hPc hDc 0 (ci := 12) rfl rfl rfl) rfl rfl hl.1 rfl (lv_room (Nat.le_of_ble_eq_true rfl)) dX12_father_22 ⟨Nat.le_of_ble_eq_true rfl, Nat.le_of_ble_eq_true rfl⟩) (fun x12 u13 H locs hw hPD hS => ?_)
    obtain ⟨h14, h15, h16, h17⟩ : (-2 ≤ x12.toInt ∧ x12.toInt < v12_maps.toInt) ∧ (x12.toInt < 0 ∨ (f12_yearOf x12.toNatClampNeg).toInt < (f12_yearOf p1.toNatClampNeg).toInt) ∧ (0 ≤ x12.toInt ∨ noF f12_yearOf (f12_yearOf p1.toNatClampNeg).toInt v12_maps.toInt) ∧ (faF f12_yearOf f12_slips p1.toNatClampNeg v12_maps.toInt.toNat = x12.toInt ∨ (x12.toInt = -2 ∧ faF f12_yearOf f12_slips p1.toNatClampNeg v12_maps.toInt.toNat = -1)) := hw
    obtain ⟨hP, hD⟩ : PD D A [O12 a12 r12 v12_keptMany v12_done v12_sheets v12_holes v12_worms v12_laidMany v12_wanted v12_orderMany v12_firstOrder v12_lines v12_marks v12_dots v12_madeIn v12_bound v12_places v12_maps v12_tapeMany v12_stories v12_base v12_at v12_ends v12_fault v12_opened v12_bodies v12_ran v12_ownKind v12_ownNumber, (cI κ (r12 39) 8 f12_yearOf), (cI κ (r12 40) 8 f12_slips)] H := hPD
    refine lv_istore_n (lv' := [(3, .int x12), (0, .ref a12), (1, .int p1), (2, .int p2)]) hx hb dX12_father_25 rfl hl (by decide) rfl (fun ls hl => ?_)
    refine lv_iload_n hx hb dX12_father_26 rfl (lv_at hl 0 rfl) ?_
    refine lv_if_ge (tgt := 35) hx hb dX12_father_27 (by decide) (fun c18 => ?_) (fun c18 => ?_)
    · have c18 := ci_le c18
      refine lv_iload_n hx hb dX12_father_35 rfl (lv_at hl 3 rfl) ?_
      refine lv_if_ne (tgt := 43) hx hb dX12_father_36 (by decide) (fun c19 => ?_) (fun c19 => ?_)
      · have c19 := ci_ne c19
        refine lv_aload_n hx hb dX12_father_43 rfl (lv_at hl 1 rfl) ?_
        refine lv_iload_n hx hb dX12_father_44 rfl (lv_at hl 2 rfl) ?_
        refine lv_iload_n hx hb dX12_father_45 rfl (lv_at hl 0 rfl) ?_
        refine kcm_i hA hAB hP hD hS [true, false, true] rfl (fun _ => rfl) (fun hPc hDc => va_runV (As := [.int p1, .int x12]) (rest := []) ⟨hx, hb, hml, hown, hts⟩ (k_X12_unlike l D κ β a12 r12 v12_keptMany v12_done v12_sheets v12_holes v12_worms v12_laidMany v12_wanted v12_orderMany v12_firstOrder v12_lines v12_marks v12_dots v12_madeIn v12_bound v12_places v12_maps v12_tapeMany v12_stories v12_base v12_at v12_ends v12_fault v12_opened v12_bodies v12_ran v12_ownKind v12_ownNumber f12_slips H.size p1 x12 i1 i2 i3 i4 i5 i6 i7 i8 i9 i10 i11 i12 i13 i14 i15 i16 hf12_slips i17 (by omega) (by omega)) (cwV 2 hts gX12_father_X12_unlike rfl rfl rfl (by decide +kernel) ⟨Nat.le_of_ble_eq_true rfl, Nat.le_of_ble_eq_true rfl⟩) (pk_V hK hS hAB hPc hDc 0 (ci := 12) rfl rfl rfl) rfl rfl hl.1 rfl (lv_room (Nat.le_of_ble_eq_true rfl)) dX12_father_46 ⟨Nat.le_of_ble_eq_true rfl, Nat.le_of_ble_eq_true rfl⟩) (fun x20 u21 H locs hw hPD hS => ?_)
        have h22 : x20.toInt = apF f12_slips p1.toNatClampNeg x12.toNatClampNeg := hw
        obtain ⟨hP, hD⟩ : PD D A [O12 a12 r12 v12_keptMany v12_done v12_sheets v12_holes v12_worms v12_laidMany v12_wanted v12_orderMany v12_firstOrder v12_lines v12_marks v12_dots v12_madeIn v12_bound v12_places v12_maps v12_tapeMany v12_stories v12_base v12_at v12_ends v12_fault v12_opened v12_bodies v12_ran v12_ownKind v12_ownNumber, (cI κ (r12 39) 8 f12_yearOf), (cI κ (r12 40) 8 f12_slips)] H := hPD
        have hfn : (faF f12_yearOf f12_slips p1.toNatClampNeg v12_maps.toInt.toNat).toNat = x12.toNatClampNeg := by rw [show faF f12_yearOf f12_slips p1.toNatClampNeg v12_maps.toInt.toNat = x12.toInt from by omega]; rfl
        have hfa : x20.toInt = apF f12_slips p1.toNatClampNeg (faF f12_yearOf f12_slips p1.toNatClampNeg v12_maps.toInt.toNat).toNat := by rw [hfn]; assumption
        have hpo : (¬ (0 ≤ p1.toInt ∧ p1.toInt < v12_maps.toInt ∧ 0 ≤ p2.toInt ∧ p2.toInt ≤ 1) ∧ x20.toInt = -1) ∨ ((0 ≤ p1.toInt ∧ p1.toInt < v12_maps.toInt ∧ 0 ≤ p2.toInt ∧ p2.toInt ≤ 1) ∧ faF f12_yearOf f12_slips p1.toNatClampNeg v12_maps.toInt.toNat < 0 ∧ x20.toInt = -2) ∨ ((0 ≤ p1.toInt ∧ p1.toInt < v12_maps.toInt ∧ 0 ≤ p2.toInt ∧ p2.toInt ≤ 1) ∧ 0 ≤ faF f12_yearOf f12_slips p1.toNatClampNeg v12_maps.toInt.toNat ∧ p2.toInt = 0 ∧ x20.toInt = faF f12_yearOf f12_slips p1.toNatClampNeg v12_maps.toInt.toNat) ∨ ((0 ≤ p1.toInt ∧ p1.toInt < v12_maps.toInt ∧ 0 ≤ p2.toInt ∧ p2.toInt ≤ 1) ∧ 0 ≤ faF f12_yearOf f12_slips p1.toNatClampNeg v12_maps.toInt.toNat ∧ p2.toInt = 1 ∧ x20.toInt = apF f12_slips p1.toNatClampNeg (faF f12_yearOf f12_slips p1.toNatClampNeg v12_maps.toInt.toNat).toNat) := (by omega)
        exact ret _ _ _ _ x20 () dX12_father_49 hpo hP hD hS
      have c19 := ci_eq c19
      refine lv_iload_n hx hb dX12_father_39 rfl (lv_at hl 0 rfl) ?_
      refine lv_goto (tgt := 49) hx hb dX12_father_40 (by decide) ?_
      have hpo : (¬ (0 ≤ p1.toInt ∧ p1.toInt < v12_maps.toInt ∧ 0 ≤ p2.toInt ∧ p2.toInt ≤ 1) ∧ x12.toInt = -1) ∨ ((0 ≤ p1.toInt ∧ p1.toInt < v12_maps.toInt ∧ 0 ≤ p2.toInt ∧ p2.toInt ≤ 1) ∧ faF f12_yearOf f12_slips p1.toNatClampNeg v12_maps.toInt.toNat < 0 ∧ x12.toInt = -2) ∨ ((0 ≤ p1.toInt ∧ p1.toInt < v12_maps.toInt ∧ 0 ≤ p2.toInt ∧ p2.toInt ≤ 1) ∧ 0 ≤ faF f12_yearOf f12_slips p1.toNatClampNeg v12_maps.toInt.toNat ∧ p2.toInt = 0 ∧ x12.toInt = faF f12_yearOf f12_slips p1.toNatClampNeg v12_maps.toInt.toNat) ∨ ((0 ≤ p1.toInt ∧ p1.toInt < v12_maps.toInt ∧ 0 ≤ p2.toInt ∧ p2.toInt ≤ 1) ∧ 0 ≤ faF f12_yearOf f12_slips p1.toNatClampNeg v12_maps.toInt.toNat ∧ p2.toInt = 1 ∧ x12.toInt = apF f12_slips p1.toNatClampNeg (faF f12_yearOf f12_slips p1.toNatClampNeg v12_maps.toInt.toNat).toNat) := (by omega)
      exact ret _ _ _ _ x12 () dX12_father_49 hpo hP hD hS
    have c18 := ci_nle c18
    refine lv_bipush (v := (-2)) hx hb dX12_father_30 (by decide) ?_
    refine lv_goto (tgt := 49) hx hb dX12_father_32 (by decide) ?_
    have hpo : (¬ (0 ≤ p1.toInt ∧ p1.toInt < v12_maps.toInt ∧ 0 ≤ p2.toInt ∧ p2.toInt ≤ 1) ∧ ((-2) : Int32).toInt = -1) ∨ ((0 ≤ p1.toInt ∧ p1.toInt < v12_maps.toInt ∧ 0 ≤ p2.toInt ∧ p2.toInt ≤ 1) ∧ faF f12_yearOf f12_slips p1.toNatClampNeg v12_maps.toInt.toNat < 0 ∧ ((-2) : Int32).toInt = -2) ∨ ((0 ≤ p1.toInt ∧ p1.toInt < v12_maps.toInt ∧ 0 ≤ p2.toInt ∧ p2.toInt ≤ 1) ∧ 0 ≤ faF f12_yearOf f12_slips p1.toNatClampNeg v12_maps.toInt.toNat ∧ p2.toInt = 0 ∧ ((-2) : Int32).toInt = faF f12_yearOf f12_slips p1.toNatClampNeg v12_maps.toInt.toNat) ∨ ((0 ≤ p1.toInt ∧ p1.toInt < v12_maps.toInt ∧ 0 ≤ p2.toInt ∧ p2.toInt ≤ 1) ∧ 0 ≤ faF f12_yearOf f12_slips p1.toNatClampNeg v12_maps.toInt.toNat ∧ p2.toInt = 1 ∧ ((-2) : Int32).toInt = apF f12_slips p1.toNatClampNeg (faF f12_yearOf f12_slips p1.toNatClampNeg v12_maps.toInt.toNat).toNat) := (by omega)
    exact ret _ _ _ _ (-2) () dX12_father_49 hpo hP hD hS
  have c11 := ci_eq c11
  refine lv_iconst (v := (-1)) hx hb dX12_father_18 (by decide) ?_
  have hpo : (¬ (0 ≤ p1.toInt ∧ p1.toInt < v12_maps.toInt ∧ 0 ≤ p2.toInt ∧ p2.toInt ≤ 1) ∧ ((-1) : Int32).toInt = -1) ∨ ((0 ≤ p1.toInt ∧ p1.toInt < v12_maps.toInt ∧ 0 ≤ p2.toInt ∧ p2.toInt ≤ 1) ∧ faF f12_yearOf f12_slips p1.toNatClampNeg v12_maps.toInt.toNat < 0 ∧ ((-1) : Int32).toInt = -2) ∨ ((0 ≤ p1.toInt ∧ p1.toInt < v12_maps.toInt ∧ 0 ≤ p2.toInt ∧ p2.toInt ≤ 1) ∧ 0 ≤ faF f12_yearOf f12_slips p1.toNatClampNeg v12_maps.toInt.toNat ∧ p2.toInt = 0 ∧ ((-1) : Int32).toInt = faF f12_yearOf f12_slips p1.toNatClampNeg v12_maps.toInt.toNat) ∨ ((0 ≤ p1.toInt ∧ p1.toInt < v12_maps.toInt ∧ 0 ≤ p2.toInt ∧ p2.toInt ≤ 1) ∧ 0 ≤ faF f12_yearOf f12_slips p1.toNatClampNeg v12_maps.toInt.toNat ∧ p2.toInt = 1 ∧ ((-1) : Int32).toInt = apF f12_slips p1.toNatClampNeg (faF f12_yearOf f12_slips p1.toNatClampNeg v12_maps.toInt.toNat).toNat) := (by omega)
  exact ret _ _ _ _ (-1) () dX12_father_19 hpo hP hD hS
set_option maxHeartbeats 4000000 in
set_option maxRecDepth 100000 in
theorem k_X12_hangs (l : Launch) (D : va_G) (κ : Nat → ClassId) (β : Nat) (a12 : Nat) (r12 : Nat → Nat) (v12_keptMany : Int32) (v12_done : Int32) (v12_sheets : Int32) (v12_holes : Int32) (v12_worms : Int32) (v12_laidMany : Int32) (v12_wanted : Int32) (v12_orderMany : Int32) (v12_firstOrder : Int32) (v12_lines : Int32) (v12_marks : Int32) (v12_dots : Int32) (v12_madeIn : Int32) (v12_bound : Int32) (v12_places : Int32) (v12_maps : Int32) (v12_tapeMany : Int32) (v12_stories : Int32) (v12_base : Int32) (v12_at : Int32) (v12_ends : Int32) (v12_fault : Int32) (v12_opened : Int32) (v12_bodies : Int32) (v12_ran : Int32) (v12_ownKind : Int32) (v12_ownNumber : Int32) (f12_yearOf : Nat → Int32) (f12_slips : Nat → Int32) (sz : Nat) (p1 : Int32) (i1 : Rg 0 40 v12_keptMany) (i2 : Rg 0 40 v12_done) (i3 : Rg 0 8 v12_sheets) (i4 : Rg 0 40 v12_holes) (i5 : Rg 0 40 v12_worms) (i6 : Rg 0 8 v12_laidMany) (i7 : Rg 0 8 v12_wanted) (i8 : Rg 0 20 v12_lines) (i9 : Rg 0 60 v12_marks) (i10 : Rg 0 40 v12_dots) (i11 : Rg 0 20 v12_places) (i12 : Rg 0 8 v12_maps) (i13 : Rg 0 120 v12_tapeMany) (i14 : Rg 0 6 v12_stories) (i15 : Rg 0 50 v12_bodies) (i16 : Rg 0 1000 v12_ran) (hf12_slips : ∀ j : Nat, 0 ≤ (f12_slips j).toInt ∧ (f12_slips j).toInt ≤ 65535) (i17 : v12_done.toInt ≤ v12_keptMany.toInt) : Met l yX12_hangs wsX12_hangs ({ frames := 3, cells := 0, slots := 0, locals := 68 } : Room) (PcK D κ β [O12 a12 r12 v12_keptMany v12_done v12_sheets v12_holes v12_worms v12_laidMany v12_wanted v12_orderMany v12_firstOrder v12_lines v12_marks v12_dots v12_madeIn v12_bound v12_places v12_maps v12_tapeMany v12_stories v12_base v12_at v12_ends v12_fault v12_opened v12_bodies v12_ran v12_ownKind v12_ownNumber, (cI κ (r12 39) 8 f12_yearOf), (cI κ (r12 40) 8 f12_slips)] sz [.ref a12, .int p1]) (QiK D (fun (r : Int32) (u : Unit) => (¬ (0 ≤ p1.toInt ∧ p1.toInt / 10 < v12_maps.toInt ∧ p1.toInt % 10 < v12_maps.toInt) ∧ r.toInt = -1) ∨ ((0 ≤ p1.toInt ∧ p1.toInt / 10 < v12_maps.toInt ∧ p1.toInt % 10 < v12_maps.toInt) ∧ r.toInt = 1 ∧ rcF f12_yearOf f12_slips v12_maps.toInt.toNat (p1 - p1 / 10 * 10).toInt v12_maps.toInt.toNat (faF f12_yearOf f12_slips (p1 / 10).toNatClampNeg v12_maps.toInt.toNat) = 1) ∨ ((0 ≤ p1.toInt ∧ p1.toInt / 10 < v12_maps.toInt ∧ p1.toInt % 10 < v12_maps.toInt) ∧ r.toInt = 0 ∧ rcF f12_yearOf f12_slips v12_maps.toInt.toNat (p1 - p1 / 10 * 10).toInt v12_maps.toInt.toNat (faF f12_yearOf f12_slips (p1 / 10).toNatClampNeg v12_maps.toInt.toNat) = 0)) (fun (u : Unit) => [O12 a12 r12 v12_keptMany v12_done v12_sheets v12_holes v12_worms v12_laidMany v12_wanted v12_orderMany v12_firstOrder v12_lines v12_marks v12_dots v12_madeIn v12_bound v12_places v12_maps v12_tapeMany v12_stories v12_base v12_at v12_ends v12_fault v12_opened v12_bodies v12_ran v12_ownKind v12_ownNumber, (cI κ (r12 39) 8 f12_yearOf), (cI κ (r12 40) 8 f12_slips)]) [O12 a12 r12 v12_keptMany v12_done v12_sheets v12_holes v12_worms v12_laidMany v12_wanted v12_orderMany v12_firstOrder v12_lines v12_marks v12_dots v12_madeIn v12_bound v12_places v12_maps v12_tapeMany v12_stories v12_base v12_at v12_ends v12_fault v12_opened v12_bodies v12_ran v12_ownKind v12_ownNumber, (cI κ (r12 39) 8 f12_yearOf), (cI κ (r12 40) 8 f12_slips)] sz) 0 0 (va_A [O12 a12 r12 v12_keptMany v12_done v12_sheets v12_holes v12_worms v12_laidMany v12_wanted v12_orderMany v12_firstOrder v12_lines v12_marks v12_dots v12_madeIn v12_bound v12_places v12_maps v12_tapeMany v12_stories v12_base v12_at v12_ends v12_fault v12_opened v12_bodies v12_ran v12_ownKind v12_ownNumber, (cI κ (r12 39) 8 f12_yearOf), (cI κ (r12 40) 8 f12_slips)] sz) := by
  refine ofK_i (cc := cX12_hangs) (maxL := 3) (own := RX12) (by decide) rfl rfl (Nat.le_of_ble_eq_true rfl) ?_
  intro p e s m args below meth c Q A ls hsz hx hb hml hts hown hK hA hAB hP hD hl ret
  have hS : va_S A s.heap s.heap [] := va_S.rf
  have hl : lv_has ls 3 [(0, .ref a12), (1, .int p1)] := hl
  have l0 : (0 : Int32).toInt = 0 := by decide
  have l1 : ((-1) : Int32).toInt = -1 := by decide
  have l2 : (10 : Int32).toInt = 10 := by decide
  have l3 : (1 : Int32).toInt = 1 := by decide
  have i12 : 0 ≤ v12_maps.toInt ∧ v12_maps.toInt ≤ 8 := i12
  refine lv_iload_n hx hb dX12_hangs_0 rfl (lv_at hl 1 rfl) ?_
  refine lv_if_lt (tgt := 26) hx hb dX12_hangs_1 (by decide) (fun c1 => ?_) (fun c1 => ?_)
  · have c1 := ci_lt c1
    refine lv_iconst (v := (-1)) hx hb dX12_hangs_26 (by decide) ?_
    have hpo : (¬ (0 ≤ p1.toInt ∧ p1.toInt / 10 < v12_maps.toInt ∧ p1.toInt % 10 < v12_maps.toInt) ∧ ((-1) : Int32).toInt = -1) ∨ ((0 ≤ p1.toInt ∧ p1.toInt / 10 < v12_maps.toInt ∧ p1.toInt % 10 < v12_maps.toInt) ∧ ((-1) : Int32).toInt = 1 ∧ rcF f12_yearOf f12_slips v12_maps.toInt.toNat (p1 - p1 / 10 * 10).toInt v12_maps.toInt.toNat (faF f12_yearOf f12_slips (p1 / 10).toNatClampNeg v12_maps.toInt.toNat) = 1) ∨ ((0 ≤ p1.toInt ∧ p1.toInt / 10 < v12_maps.toInt ∧ p1.toInt % 10 < v12_maps.toInt) ∧ ((-1) : Int32).toInt = 0 ∧ rcF f12_yearOf f12_slips v12_maps.toInt.toNat (p1 - p1 / 10 * 10).toInt v12_maps.toInt.toNat (faF f12_yearOf f12_slips (p1 / 10).toNatClampNeg v12_maps.toInt.toNat) = 0) := (by omega)
    exact ret _ _ _ _ (-1) () dX12_hangs_27 hpo hP hD hS
  have c1 := ci_nlt c1
  refine lv_aload_n hx hb dX12_hangs_4 rfl (lv_at hl 0 rfl) ?_
  refine lv_iload_n hx hb dX12_hangs_5 rfl (lv_at hl 1 rfl) ?_
  refine lv_bipush (v := 10) hx hb dX12_hangs_6 (by decide) ?_
  refine lv_idiv hx hb dX12_hangs_8 (by decide) ?_
  refine lv_topi (fun x2 e3 => ?_)
  have h4 := ci_divL (n := 10) (by decide) (by decide) e3
  have hd0 : x2 = p1 / 10 := e3
  have hd1 : x2.toInt = (p1 / 10).toInt := congrArg Int32.toInt e3
  have hd2 := fr_div (n := 10) (by decide) (by decide) e3
  refine kcm_i hA hAB hP hD hS [true, false, false] rfl (fun _ => rfl) (fun hPc hDc => va_runV (As := [.int x2]) (rest := []) ⟨hx, hb, hml, hown, hts⟩ (k_X12_isMap l D κ β a12 r12 v12_keptMany v12_done v12_sheets v12_holes v12_worms v12_laidMany v12_wanted v12_orderMany v12_firstOrder v12_lines v12_marks v12_dots v12_madeIn v12_bound v12_places v12_maps v12_tapeMany v12_stories v12_base v12_at v12_ends v12_fault v12_opened v12_bodies v12_ran v12_ownKind v12_ownNumber s.heap.size x2 i1 i2 i3 i4 i5 i6 i7 i8 i9 i10 i11 i12 i13 i14 i15 i16 i17) (cwV 1 hts gX12_hangs_X12_isMap rfl rfl rfl (by decide +kernel) ⟨Nat.le_of_ble_eq_true rfl, Nat.le_of_ble_eq_true rfl⟩) (pk_V hK hS hAB hPc hDc 0 (ci := 12) rfl rfl rfl) rfl rfl hl.1 rfl (lv_room (Nat.le_of_ble_eq_true rfl)) dX12_hangs_9 ⟨Nat.le_of_ble_eq_true rfl, Nat.le_of_ble_eq_true rfl⟩) (fun x5 u6 H locs hw hPD hS => ?_)
  have h7 : (x5.toInt = 1 ∧ 0 ≤ x2.toInt ∧ x2.toInt < v12_maps.toInt) ∨ (x5.toInt = 0 ∧ (x2.toInt < 0 ∨ v12_maps.toInt ≤ x2.toInt)) := hw
  obtain ⟨hP, hD⟩ : PD D A [O12 a12 r12 v12_keptMany v12_done v12_sheets v12_holes v12_worms v12_laidMany v12_wanted v12_orderMany v12_firstOrder v12_lines v12_marks v12_dots v12_madeIn v12_bound v12_places v12_maps v12_tapeMany v12_stories v12_base v12_at v12_ends v12_fault v12_opened v12_bodies v12_ran v12_ownKind v12_ownNumber, (cI κ (r12 39) 8 f12_yearOf), (cI κ (r12 40) 8 f12_slips)] H := hPD
  refine lv_if_eq (tgt := 26) hx hb dX12_hangs_12 (by decide) (fun c8 => ?_) (fun c8 => ?_)
  · have c8 := ci_eq c8
    refine lv_iconst (v := (-1)) hx hb dX12_hangs_26 (by decide) ?_
    have hpo : (¬ (0 ≤ p1.toInt ∧ p1.toInt / 10 < v12_maps.toInt ∧ p1.toInt % 10 < v12_maps.toInt) ∧ ((-1) : Int32).toInt = -1) ∨ ((0 ≤ p1.toInt ∧ p1.toInt / 10 < v12_maps.toInt ∧ p1.toInt % 10 < v12_maps.toInt) ∧ ((-1) : Int32).toInt = 1 ∧ rcF f12_yearOf f12_slips v12_maps.toInt.toNat (p1 - p1 / 10 * 10).toInt v12_maps.toInt.toNat (faF f12_yearOf f12_slips (p1 / 10).toNatClampNeg v12_maps.toInt.toNat) = 1) ∨ ((0 ≤ p1.toInt ∧ p1.toInt / 10 < v12_maps.toInt ∧ p1.toInt % 10 < v12_maps.toInt) ∧ ((-1) : Int32).toInt = 0 ∧ rcF f12_yearOf f12_slips v12_maps.toInt.toNat (p1 - p1 / 10 * 10).toInt v12_maps.toInt.toNat (faF f12_yearOf f12_slips (p1 / 10).toNatClampNeg v12_maps.toInt.toNat) = 0) := (by omega)
    exact ret _ _ _ _ (-1) () dX12_hangs_27 hpo hP hD hS
  have c8 := ci_ne c8
  refine lv_aload_n hx hb dX12_hangs_15 rfl (lv_at hl 0 rfl) ?_
  refine lv_iload_n hx hb dX12_hangs_16 rfl (lv_at hl 1 rfl) ?_
  refine lv_bipush (v := 10) hx hb dX12_hangs_17 (by decide) ?_
  refine lv_irem hx hb dX12_hangs_19 (by decide) ?_
  refine lv_topi (fun x9 e10 => ?_)
  have h11 := ci_remL (n := 10) (by decide) (by decide) e10
  have hr0 : x9 = p1 - p1 / 10 * 10 := e10
  have hr1 : x9.toInt = (p1 - p1 / 10 * 10).toInt := congrArg Int32.toInt e10
  have hr2 := fr_rem (n := 10) (by decide) (by decide) e10
  refine kcm_i hA hAB hP hD hS [true, false, false] rfl (fun _ => rfl) (fun hPc hDc => va_runV (As := [.int x9]) (rest := []) ⟨hx, hb, hml, hown, hts⟩ (k_X12_isMap l D κ β a12 r12 v12_keptMany v12_done v12_sheets v12_holes v12_worms v12_laidMany v12_wanted v12_orderMany v12_firstOrder v12_lines v12_marks v12_dots v12_madeIn v12_bound v12_places v12_maps v12_tapeMany v12_stories v12_base v12_at v12_ends v12_fault v12_opened v12_bodies v12_ran v12_ownKind v12_ownNumber H.size x9 i1 i2 i3 i4 i5 i6 i7 i8 i9 i10 i11 i12 i13 i14 i15 i16 i17) (cwV 1 hts gX12_hangs_X12_isMap rfl rfl rfl (by decide +kernel) ⟨Nat.le_of_ble_eq_true rfl, Nat.le_of_ble_eq_true rfl⟩) (pk_V hK hS hAB hPc hDc 0 (ci := 12) rfl rfl rfl) rfl rfl hl.1 rfl (lv_room (Nat.le_of_ble_eq_true rfl)) dX12_hangs_20 ⟨Nat.le_of_ble_eq_true rfl, Nat.le_of_ble_eq_true rfl⟩) (fun x12 u13 H locs hw hPD hS => ?_)
  have h14 : (x12.toInt = 1 ∧ 0 ≤ x9.toInt ∧ x9.toInt < v12_maps.toInt) ∨ (x12.toInt = 0 ∧ (x9.toInt < 0 ∨ v12_maps.toInt ≤ x9.toInt)) := hw
  obtain ⟨hP, hD⟩ : PD D A [O12 a12 r12 v12_keptMany v12_done v12_sheets v12_holes v12_worms v12_laidMany v12_wanted v12_orderMany v12_firstOrder v12_lines v12_marks v12_dots v12_madeIn v12_bound v12_places v12_maps v12_tapeMany v12_stories v12_base v12_at v12_ends v12_fault v12_opened v12_bodies v12_ran v12_ownKind v12_ownNumber, (cI κ (r12 39) 8 f12_yearOf), (cI κ (r12 40) 8 f12_slips)] H := hPD
  refine lv_if_ne (tgt := 28) hx hb dX12_hangs_23 (by decide) (fun c15 => ?_) (fun c15 => ?_)
  · have c15 := ci_ne c15
    refine lv_aload_n hx hb dX12_hangs_28 rfl (lv_at hl 0 rfl) ?_
    refine lv_iload_n hx hb dX12_hangs_29 rfl (lv_at hl 1 rfl) ?_
    refine lv_bipush (v := 10) hx hb dX12_hangs_30 (by decide) ?_
    refine lv_idiv hx hb dX12_hangs_32 (by decide) ?_
    refine lv_re e3 ?_
    refine kcm_i hA hAB hP hD hS [true, true, true] rfl (fun _ => rfl) (fun hPc hDc => va_runV (As := [.int x2]) (rest := []) ⟨hx, hb, hml, hown, hts⟩ (k_X12_fatherOf l D κ β a12 r12 v12_keptMany v12_done v12_sheets v12_holes v12_worms v12_laidMany v12_wanted v12_orderMany v12_firstOrder v12_lines v12_marks v12_dots v12_madeIn v12_bound v12_places v12_maps v12_tapeMany v12_stories v12_base v12_at v12_ends v12_fault v12_opened v12_bodies v12_ran v12_ownKind v12_ownNumber f12_yearOf f12_slips H.size x2 i1 i2 i3 i4 i5 i6 i7 i8 i9 i10 i11 i12 i13 i14 i15 i16 hf12_slips i17 (by omega)) (cwV 1 hts gX12_hangs_X12_fatherOf rfl rfl rfl (by decide +kernel) ⟨Nat.le_of_ble_eq_true rfl, Nat.le_of_ble_eq_true rfl⟩) (pk_V hK hS hAB hPc hDc 0 (ci := 12) rfl rfl rfl) rfl rfl hl.1 rfl (lv_room (Nat.le_of_ble_eq_true rfl)) dX12_hangs_33 ⟨Nat.le_of_ble_eq_true rfl, Nat.le_of_ble_eq_true rfl⟩) (fun x16 u17 H locs hw hPD hS => ?_)
    obtain ⟨h18, h19, h20, h21⟩ : (-2 ≤ x16.toInt ∧ x16.toInt < v12_maps.toInt) ∧ (x16.toInt < 0 ∨ (f12_yearOf x16.toNatClampNeg).toInt < (f12_yearOf x2.toNatClampNeg).toInt) ∧ (0 ≤ x16.toInt ∨ noF f12_yearOf (f12_yearOf x2.toNatClampNeg).toInt v12_maps.toInt) ∧ (faF f12_yearOf f12_slips x2.toNatClampNeg v12_maps.toInt.toNat = x16.toInt ∨ (x16.toInt = -2 ∧ faF f12_yearOf f12_slips x2.toNatClampNeg v12_maps.toInt.toNat = -1)) := hw
    obtain ⟨hP, hD⟩ : PD D A [O12 a12 r12 v12_keptMany v12_done v12_sheets v12_holes v12_worms v12_laidMany v12_wanted v12_orderMany v12_firstOrder v12_lines v12_marks v12_dots v12_madeIn v12_bound v12_places v12_maps v12_tapeMany v12_stories v12_base v12_at v12_ends v12_fault v12_opened v12_bodies v12_ran v12_ownKind v12_ownNumber, (cI κ (r12 39) 8 f12_yearOf), (cI κ (r12 40) 8 f12_slips)] H := hPD
    have hf0 : faF f12_yearOf f12_slips (p1 / 10).toNatClampNeg v12_maps.toInt.toNat = x16.toInt ∨ (x16.toInt = -2 ∧ faF f12_yearOf f12_slips (p1 / 10).toNatClampNeg v12_maps.toInt.toNat = -1) := by rw [← hd0]; assumption
    refine lv_istore_n (lv' := [(2, .int x16), (0, .ref a12), (1, .int p1)]) hx hb dX12_hangs_36 rfl hl (by decide) rfl (fun ls hl => ?_)
    have lp37 : ∀ (n37 : Nat) (k22 : Int32), (-2 ≤ k22.toInt ∧ k22.toInt < v12_maps.toInt) → ((k22.toInt < 0 ∧ rcF f12_yearOf f12_slips v12_maps.toInt.toNat (p1 - p1 / 10 * 10).toInt v12_maps.toInt.toNat (faF f12_yearOf f12_slips (p1 / 10).toNatClampNeg v12_maps.toInt.toNat) = 0) ∨ (0 ≤ k22.toInt ∧ rcF f12_yearOf f12_slips v12_maps.toInt.toNat (p1 - p1 / 10 * 10).toInt v12_maps.toInt.toNat k22.toInt = rcF f12_yearOf f12_slips v12_maps.toInt.toNat (p1 - p1 / 10 * 10).toInt v12_maps.toInt.toNat (faF f12_yearOf f12_slips (p1 / 10).toNatClampNeg v12_maps.toInt.toNat))) → ((if k22.toInt < 0 then 0 else (f12_yearOf k22.toNatClampNeg).toInt + 2147483649)).toNat < n37 → ∀ (H : Heap) (locs : List Loc), va_P D vwCl [O12 a12 r12 v12_keptMany v12_done v12_sheets v12_holes v12_worms v12_laidMany v12_wanted v12_orderMany v12_firstOrder v12_lines v12_marks v12_dots v12_madeIn v12_bound v12_places v12_maps v12_tapeMany v12_stories v12_base v12_at v12_ends v12_fault v12_opened v12_bodies v12_ran v12_ownKind v12_ownNumber, (cI κ (r12 39) 8 f12_yearOf), (cI κ (r12 40) 8 f12_slips)] H → va_D A [O12 a12 r12 v12_keptMany v12_done v12_sheets v12_holes v12_worms v12_laidMany v12_wanted v12_orderMany v12_firstOrder v12_lines v12_marks v12_dots v12_madeIn v12_bound v12_places v12_maps v12_tapeMany v12_stories v12_base v12_at v12_ends v12_fault v12_opened v12_bodies v12_ran v12_ownKind v12_ownNumber, (cI κ (r12 39) 8 f12_yearOf), (cI κ (r12 40) 8 f12_slips)] → va_S A s.heap H locs → ∀ ls : Array Slot, lv_has ls 3 [(2, .int k22), (0, .ref a12), (1, .int p1)] → W p l e ({ frames := 3, cells := 0, slots := 0, locals := 68 } : Room) s m args below meth c H locs 0 0 Q (F0 m 37 ls []) := by
      intro n37
      induction n37 with
      | zero =>
        intro k22 h23 h24 m25
        exact absurd m25 (Nat.not_lt_zero _)
      | succ n37 ih37 =>
        intro k22 h23 h24 m25 H locs hP hD hS ls hl
        have hyr := ci_rng (f12_yearOf k22.toNatClampNeg)
        have hTH : (k22.toInt < 0 ∧ rcF f12_yearOf f12_slips v12_maps.toInt.toNat (p1 - p1 / 10 * 10).toInt v12_maps.toInt.toNat (faF f12_yearOf f12_slips (p1 / 10).toNatClampNeg v12_maps.toInt.toNat) = 0) ∨ (0 ≤ k22.toInt ∧ rcF f12_yearOf f12_slips v12_maps.toInt.toNat (p1 - p1 / 10 * 10).toInt v12_maps.toInt.toNat k22.toInt = rcF f12_yearOf f12_slips v12_maps.toInt.toNat (p1 - p1 / 10 * 10).toInt v12_maps.toInt.toNat (faF f12_yearOf f12_slips (p1 / 10).toNatClampNeg v12_maps.toInt.toNat)) := by assumption
        have hR7 : 0 ≤ k22.toInt → rcF f12_yearOf f12_slips v12_maps.toInt.toNat (p1 - p1 / 10 * 10).toInt v12_maps.toInt.toNat k22.toInt = rcF f12_yearOf f12_slips v12_maps.toInt.toNat (p1 - p1 / 10 * 10).toInt v12_maps.toInt.toNat (faF f12_yearOf f12_slips (p1 / 10).toNatClampNeg v12_maps.toInt.toNat) := fun h9 => by omega
        refine lv_iload_n hx hb dX12_hangs_37 rfl (lv_at hl 0 rfl) ?_
        refine lv_if_lt (tgt := 58) hx hb dX12_hangs_38 (by decide) (fun c26 => ?_) (fun c26 => ?_)
        · have c26 := ci_lt c26
          refine lv_iload_n hx hb dX12_hangs_58 rfl (lv_at hl 0 rfl) ?_
          refine lv_if_lt (tgt := 66) hx hb dX12_hangs_59 (by decide) (fun c27 => ?_) (fun c27 => ?_)
          · have c27 := ci_lt c27
            refine lv_iconst (v := 0) hx hb dX12_hangs_66 (by decide) ?_
            have hpo : (¬ (0 ≤ p1.toInt ∧ p1.toInt / 10 < v12_maps.toInt ∧ p1.toInt % 10 < v12_maps.toInt) ∧ (0 : Int32).toInt = -1) ∨ ((0 ≤ p1.toInt ∧ p1.toInt / 10 < v12_maps.toInt ∧ p1.toInt % 10 < v12_maps.toInt) ∧ (0 : Int32).toInt = 1 ∧ rcF f12_yearOf f12_slips v12_maps.toInt.toNat (p1 - p1 / 10 * 10).toInt v12_maps.toInt.toNat (faF f12_yearOf f12_slips (p1 / 10).toNatClampNeg v12_maps.toInt.toNat) = 1) ∨ ((0 ≤ p1.toInt ∧ p1.toInt / 10 < v12_maps.toInt ∧ p1.toInt % 10 < v12_maps.toInt) ∧ (0 : Int32).toInt = 0 ∧ rcF f12_yearOf f12_slips v12_maps.toInt.toNat (p1 - p1 / 10 * 10).toInt v12_maps.toInt.toNat (faF f12_yearOf f12_slips (p1 / 10).toNatClampNeg v12_maps.toInt.toNat) = 0) := (by first | omega | (have h7 : rcF f12_yearOf f12_slips v12_maps.toInt.toNat (p1 - p1 / 10 * 10).toInt v12_maps.toInt.toNat k22.toInt = 1 := rc_hit (by omega) (by omega) (by omega); omega))
            exact ret _ _ _ _ 0 () dX12_hangs_67 hpo hP hD hS
          have c27 := ci_nlt c27
          refine lv_iconst (v := 1) hx hb dX12_hangs_62 (by decide) ?_
          refine lv_goto (tgt := 67) hx hb dX12_hangs_63 (by decide) ?_
          have hpo : (¬ (0 ≤ p1.toInt ∧ p1.toInt / 10 < v12_maps.toInt ∧ p1.toInt % 10 < v12_maps.toInt) ∧ (1 : Int32).toInt = -1) ∨ ((0 ≤ p1.toInt ∧ p1.toInt / 10 < v12_maps.toInt ∧ p1.toInt % 10 < v12_maps.toInt) ∧ (1 : Int32).toInt = 1 ∧ rcF f12_yearOf f12_slips v12_maps.toInt.toNat (p1 - p1 / 10 * 10).toInt v12_maps.toInt.toNat (faF f12_yearOf f12_slips (p1 / 10).toNatClampNeg v12_maps.toInt.toNat) = 1) ∨ ((0 ≤ p1.toInt ∧ p1.toInt / 10 < v12_maps.toInt ∧ p1.toInt % 10 < v12_maps.toInt) ∧ (1 : Int32).toInt = 0 ∧ rcF f12_yearOf f12_slips v12_maps.toInt.toNat (p1 - p1 / 10 * 10).toInt v12_maps.toInt.toNat (faF f12_yearOf f12_slips (p1 / 10).toNatClampNeg v12_maps.toInt.toNat) = 0) := (by first | omega | (have h7 : rcF f12_yearOf f12_slips v12_maps.toInt.toNat (p1 - p1 / 10 * 10).toInt v12_maps.toInt.toNat k22.toInt = 1 := rc_hit (by omega) (by omega) (by omega); omega))
          exact ret _ _ _ _ 1 () dX12_hangs_67 hpo hP hD hS
        have c26 := ci_nlt c26
        refine lv_iload_n hx hb dX12_hangs_41 rfl (lv_at hl 0 rfl) ?_
        refine lv_iload_n hx hb dX12_hangs_42 rfl (lv_at hl 2 rfl) ?_
        refine lv_bipush (v := 10) hx hb dX12_hangs_43 (by decide) ?_
        refine lv_irem hx hb dX12_hangs_45 (by decide) ?_
        refine lv_re e10 ?_
        refine lv_icmp_eq (tgt := 58) hx hb dX12_hangs_46 (by decide) (fun c28 => ?_) (fun c28 => ?_)
        · have c28 := ci_eq c28
          refine lv_iload_n hx hb dX12_hangs_58 rfl (lv_at hl 0 rfl) ?_
          refine lv_if_lt (tgt := 66) hx hb dX12_hangs_59 (by decide) (fun c29 => ?_) (fun c29 => ?_)
          · have c29 := ci_lt c29
            refine lv_iconst (v := 0) hx hb dX12_hangs_66 (by decide) ?_
            have hpo : (¬ (0 ≤ p1.toInt ∧ p1.toInt / 10 < v12_maps.toInt ∧ p1.toInt % 10 < v12_maps.toInt) ∧ (0 : Int32).toInt = -1) ∨ ((0 ≤ p1.toInt ∧ p1.toInt / 10 < v12_maps.toInt ∧ p1.toInt % 10 < v12_maps.toInt) ∧ (0 : Int32).toInt = 1 ∧ rcF f12_yearOf f12_slips v12_maps.toInt.toNat (p1 - p1 / 10 * 10).toInt v12_maps.toInt.toNat (faF f12_yearOf f12_slips (p1 / 10).toNatClampNeg v12_maps.toInt.toNat) = 1) ∨ ((0 ≤ p1.toInt ∧ p1.toInt / 10 < v12_maps.toInt ∧ p1.toInt % 10 < v12_maps.toInt) ∧ (0 : Int32).toInt = 0 ∧ rcF f12_yearOf f12_slips v12_maps.toInt.toNat (p1 - p1 / 10 * 10).toInt v12_maps.toInt.toNat (faF f12_yearOf f12_slips (p1 / 10).toNatClampNeg v12_maps.toInt.toNat) = 0) := (by first | omega | (have h7 : rcF f12_yearOf f12_slips v12_maps.toInt.toNat (p1 - p1 / 10 * 10).toInt v12_maps.toInt.toNat k22.toInt = 1 := rc_hit (by omega) (by omega) (by omega); omega))
            exact ret _ _ _ _ 0 () dX12_hangs_67 hpo hP hD hS
          have c29 := ci_nlt c29
          refine lv_iconst (v := 1) hx hb dX12_hangs_62 (by decide) ?_
          refine lv_goto (tgt := 67) hx hb dX12_hangs_63 (by decide) ?_
          have hpo : (¬ (0 ≤ p1.toInt ∧ p1.toInt / 10 < v12_maps.toInt ∧ p1.toInt % 10 < v12_maps.toInt) ∧ (1 : Int32).toInt = -1) ∨ ((0 ≤ p1.toInt ∧ p1.toInt / 10 < v12_maps.toInt ∧ p1.toInt % 10 < v12_maps.toInt) ∧ (1 : Int32).toInt = 1 ∧ rcF f12_yearOf f12_slips v12_maps.toInt.toNat (p1 - p1 / 10 * 10).toInt v12_maps.toInt.toNat (faF f12_yearOf f12_slips (p1 / 10).toNatClampNeg v12_maps.toInt.toNat) = 1) ∨ ((0 ≤ p1.toInt ∧ p1.toInt / 10 < v12_maps.toInt ∧ p1.toInt % 10 < v12_maps.toInt) ∧ (1 : Int32).toInt = 0 ∧ rcF f12_yearOf f12_slips v12_maps.toInt.toNat (p1 - p1 / 10 * 10).toInt v12_maps.toInt.toNat (faF f12_yearOf f12_slips (p1 / 10).toNatClampNeg v12_maps.toInt.toNat) = 0) := (by first | omega | (have h7 : rcF f12_yearOf f12_slips v12_maps.toInt.toNat (p1 - p1 / 10 * 10).toInt v12_maps.toInt.toNat k22.toInt = 1 := rc_hit (by omega) (by omega) (by omega); omega))
          exact ret _ _ _ _ 1 () dX12_hangs_67 hpo hP hD hS
        have c28 := ci_ne c28
        refine lv_aload_n hx hb dX12_hangs_49 rfl (lv_at hl 1 rfl) ?_
        refine lv_iload_n hx hb dX12_hangs_50 rfl (lv_at hl 0 rfl) ?_
        refine kcm_i hA hAB hP hD hS [true, true, true] rfl (fun _ => rfl) (fun hPc hDc => va_runV (As := [.int k22]) (rest := []) ⟨hx, hb, hml, hown, hts⟩ (k_X12_fatherOf l D κ β a12 r12 v12_keptMany v12_done v12_sheets v12_holes v12_worms v12_laidMany v12_wanted v12_orderMany v12_firstOrder v12_lines v12_marks v12_dots v12_madeIn v12_bound v12_places v12_maps v12_tapeMany v12_stories v12_base v12_at v12_ends v12_fault v12_opened v12_bodies v12_ran v12_ownKind v12_ownNumber f12_yearOf f12_slips H.size k22 i1 i2 i3 i4 i5 i6 i7 i8 i9 i10 i11 i12 i13 i14 i15 i16 hf12_slips i17 (by omega)) (cwV 1 hts gX12_hangs_X12_fatherOf rfl rfl rfl (by decide +kernel) ⟨Nat.le_of_ble_eq_true rfl, Nat.le_of_ble_eq_true rfl⟩) (pk_V hK hS hAB hPc hDc 0 (ci := 12) rfl rfl rfl) rfl rfl hl.1 rfl (lv_room (Nat.le_of_ble_eq_true rfl)) dX12_hangs_51 ⟨Nat.le_of_ble_eq_true rfl, Nat.le_of_ble_eq_true rfl⟩) (fun x30 u31 H locs hw hPD hS => ?_)
        obtain ⟨h32, h33, h34, h35⟩ : (-2 ≤ x30.toInt ∧ x30.toInt < v12_maps.toInt) ∧ (x30.toInt < 0 ∨ (f12_yearOf x30.toNatClampNeg).toInt < (f12_yearOf k22.toNatClampNeg).toInt) ∧ (0 ≤ x30.toInt ∨ noF f12_yearOf (f12_yearOf k22.toNatClampNeg).toInt v12_maps.toInt) ∧ (faF f12_yearOf f12_slips k22.toNatClampNeg v12_maps.toInt.toNat = x30.toInt ∨ (x30.toInt = -2 ∧ faF f12_yearOf f12_slips k22.toNatClampNeg v12_maps.toInt.toNat = -1)) := hw
        obtain ⟨hP, hD⟩ : PD D A [O12 a12 r12 v12_keptMany v12_done v12_sheets v12_holes v12_worms v12_laidMany v12_wanted v12_orderMany v12_firstOrder v12_lines v12_marks v12_dots v12_madeIn v12_bound v12_places v12_maps v12_tapeMany v12_stories v12_base v12_at v12_ends v12_fault v12_opened v12_bodies v12_ran v12_ownKind v12_ownNumber, (cI κ (r12 39) 8 f12_yearOf), (cI κ (r12 40) 8 f12_slips)] H := hPD
        have hf1 : faF f12_yearOf f12_slips k22.toNatClampNeg v12_maps.toInt.toNat = x30.toInt ∨ (x30.toInt = -2 ∧ faF f12_yearOf f12_slips k22.toNatClampNeg v12_maps.toInt.toNat = -1) := by assumption
        have hsm : rcF f12_yearOf f12_slips v12_maps.toInt.toNat (p1 - p1 / 10 * 10).toInt v12_maps.toInt.toNat k22.toInt = rcF f12_yearOf f12_slips v12_maps.toInt.toNat (p1 - p1 / 10 * 10).toInt v12_maps.toInt.toNat (faF f12_yearOf f12_slips k22.toNatClampNeg v12_maps.toInt.toNat) := rc_same (by omega) (by omega) (by omega)
        refine lv_istore_n (lv' := [(2, .int x30), (0, .ref a12), (1, .int p1)]) hx hb dX12_hangs_54 rfl hl (by decide) rfl (fun ls hl => ?_)
        refine lv_goto (tgt := 37) hx hb dX12_hangs_55 (by decide) ?_
        exact ih37 x30 (by omega) (by first | (rcases hf1 with h9 | ⟨h9, h8⟩; (by_cases c9 : x30.toInt < 0; exact Or.inl ⟨c9, by rw [← hR7 (by omega), hsm, h9]; exact rc_neg c9 _⟩; exact Or.inr ⟨by omega, by rw [← hR7 (by omega), hsm, h9]⟩); exact Or.inl ⟨by omega, by rw [← hR7 (by omega), hsm, h8]; exact rc_neg (by decide) _⟩) | (rcases hf0 with h9 | ⟨h9, h8⟩; (by_cases c9 : x30.toInt < 0; exact Or.inl ⟨c9, by rw [h9]; exact rc_neg c9 _⟩; exact Or.inr ⟨by omega, by rw [h9]⟩); exact Or.inl ⟨by omega, by rw [h8]; exact rc_neg (by decide) _⟩)) (by omega) _ _ hP hD hS _ hl
    exact lp37 (((if x16.toInt < 0 then 0 else (f12_yearOf x16.toNatClampNeg).toInt + 2147483649)).toNat + 1) x16 (by omega) (by first | (rcases hf1 with h9 | ⟨h9, h8⟩; (by_cases c9 : x16.toInt < 0; exact Or.inl ⟨c9, by rw [← hR7 (by omega), hsm, h9]; exact rc_neg c9 _⟩; exact Or.inr ⟨by omega, by rw [← hR7 (by omega), hsm, h9]⟩); exact Or.inl ⟨by omega, by rw [← hR7 (by omega), hsm, h8]; exact rc_neg (by decide) _⟩) | (rcases hf0 with h9 | ⟨h9, h8⟩; (by_cases c9 : x16.toInt < 0; exact Or.inl ⟨c9, by rw [h9]; exact rc_neg c9 _⟩; exact Or.inr ⟨by omega, by rw [h9]⟩); exact Or.inl ⟨by omega, by rw [h8]; exact rc_neg (by decide) _⟩)) (by omega) _ _ hP hD hS _ hl
  have c15 := ci_eq c15
  refine lv_iconst (v := (-1)) hx hb dX12_hangs_26 (by decide) ?_
  have hpo : (¬ (0 ≤ p1.toInt ∧ p1.toInt / 10 < v12_maps.toInt ∧ p1.toInt % 10 < v12_maps.toInt) ∧ ((-1) : Int32).toInt = -1) ∨ ((0 ≤ p1.toInt ∧ p1.toInt / 10 < v12_maps.toInt ∧ p1.toInt % 10 < v12_maps.toInt) ∧ ((-1) : Int32).toInt = 1 ∧ rcF f12_yearOf f12_slips v12_maps.toInt.toNat (p1 - p1 / 10 * 10).toInt v12_maps.toInt.toNat (faF f12_yearOf f12_slips (p1 / 10).toNatClampNeg v12_maps.toInt.toNat) = 1) ∨ ((0 ≤ p1.toInt ∧ p1.toInt / 10 < v12_maps.toInt ∧ p1.toInt % 10 < v12_maps.toInt) ∧ ((-1) : Int32).toInt = 0 ∧ rcF f12_yearOf f12_slips v12_maps.toInt.toNat (p1 - p1 / 10 * 10).toInt v12_maps.toInt.toNat (faF f12_yearOf f12_slips (p1 / 10).toNatClampNeg v12_maps.toInt.toNat) = 0) := (by omega)
  exact ret _ _ _ _ (-1) () dX12_hangs_27 hpo hP hD hS
set_option maxHeartbeats 4000000 in
set_option maxRecDepth 100000 in
theorem k_X12_shared (l : Launch) (D : va_G) (κ : Nat → ClassId) (β : Nat) (a12 : Nat) (r12 : Nat → Nat) (v12_keptMany : Int32) (v12_done : Int32) (v12_sheets : Int32) (v12_holes : Int32) (v12_worms : Int32) (v12_laidMany : Int32) (v12_wanted : Int32) (v12_orderMany : Int32) (v12_firstOrder : Int32) (v12_lines : Int32) (v12_marks : Int32) (v12_dots : Int32) (v12_madeIn : Int32) (v12_bound : Int32) (v12_places : Int32) (v12_maps : Int32) (v12_tapeMany : Int32) (v12_stories : Int32) (v12_base : Int32) (v12_at : Int32) (v12_ends : Int32) (v12_fault : Int32) (v12_opened : Int32) (v12_bodies : Int32) (v12_ran : Int32) (v12_ownKind : Int32) (v12_ownNumber : Int32) (f12_yearOf : Nat → Int32) (f12_slips : Nat → Int32) (sz : Nat) (p1 : Int32) (i1 : Rg 0 40 v12_keptMany) (i2 : Rg 0 40 v12_done) (i3 : Rg 0 8 v12_sheets) (i4 : Rg 0 40 v12_holes) (i5 : Rg 0 40 v12_worms) (i6 : Rg 0 8 v12_laidMany) (i7 : Rg 0 8 v12_wanted) (i8 : Rg 0 20 v12_lines) (i9 : Rg 0 60 v12_marks) (i10 : Rg 0 40 v12_dots) (i11 : Rg 0 20 v12_places) (i12 : Rg 0 8 v12_maps) (i13 : Rg 0 120 v12_tapeMany) (i14 : Rg 0 6 v12_stories) (i15 : Rg 0 50 v12_bodies) (i16 : Rg 0 1000 v12_ran) (hf12_slips : ∀ j : Nat, 0 ≤ (f12_slips j).toInt ∧ (f12_slips j).toInt ≤ 65535) (i17 : v12_done.toInt ≤ v12_keptMany.toInt) : Met l yX12_shared wsX12_shared ({ frames := 3, cells := 0, slots := 0, locals := 68 } : Room) (PcK D κ β [O12 a12 r12 v12_keptMany v12_done v12_sheets v12_holes v12_worms v12_laidMany v12_wanted v12_orderMany v12_firstOrder v12_lines v12_marks v12_dots v12_madeIn v12_bound v12_places v12_maps v12_tapeMany v12_stories v12_base v12_at v12_ends v12_fault v12_opened v12_bodies v12_ran v12_ownKind v12_ownNumber, (cI κ (r12 39) 8 f12_yearOf), (cI κ (r12 40) 8 f12_slips)] sz [.ref a12, .int p1]) (QiK D (fun (r : Int32) (u : Unit) => (p1.toInt = -1 ∧ r.toInt = trF f12_yearOf f12_slips v12_maps.toInt.toNat v12_maps.toInt.toNat) ∨ (p1.toInt ≠ -1 ∧ ¬ (0 ≤ p1.toInt ∧ p1.toInt / 10 < v12_maps.toInt ∧ p1.toInt % 10 < v12_maps.toInt ∧ p1.toInt / 10 ≠ p1.toInt % 10) ∧ r.toInt = -1) ∨ (p1.toInt ≠ -1 ∧ (0 ≤ p1.toInt ∧ p1.toInt / 10 < v12_maps.toInt ∧ p1.toInt % 10 < v12_maps.toInt ∧ p1.toInt / 10 ≠ p1.toInt % 10) ∧ r.toInt = (shF f12_slips (p1 / 10) (p1 - p1 / 10 * 10) v12_maps.toInt.toNat).toInt)) (fun (u : Unit) => [O12 a12 r12 v12_keptMany v12_done v12_sheets v12_holes v12_worms v12_laidMany v12_wanted v12_orderMany v12_firstOrder v12_lines v12_marks v12_dots v12_madeIn v12_bound v12_places v12_maps v12_tapeMany v12_stories v12_base v12_at v12_ends v12_fault v12_opened v12_bodies v12_ran v12_ownKind v12_ownNumber, (cI κ (r12 39) 8 f12_yearOf), (cI κ (r12 40) 8 f12_slips)]) [O12 a12 r12 v12_keptMany v12_done v12_sheets v12_holes v12_worms v12_laidMany v12_wanted v12_orderMany v12_firstOrder v12_lines v12_marks v12_dots v12_madeIn v12_bound v12_places v12_maps v12_tapeMany v12_stories v12_base v12_at v12_ends v12_fault v12_opened v12_bodies v12_ran v12_ownKind v12_ownNumber, (cI κ (r12 39) 8 f12_yearOf), (cI κ (r12 40) 8 f12_slips)] sz) 0 0 (va_A [O12 a12 r12 v12_keptMany v12_done v12_sheets v12_holes v12_worms v12_laidMany v12_wanted v12_orderMany v12_firstOrder v12_lines v12_marks v12_dots v12_madeIn v12_bound v12_places v12_maps v12_tapeMany v12_stories v12_base v12_at v12_ends v12_fault v12_opened v12_bodies v12_ran v12_ownKind v12_ownNumber, (cI κ (r12 39) 8 f12_yearOf), (cI κ (r12 40) 8 f12_slips)] sz) := by
  refine ofK_i (cc := cX12_shared) (maxL := 4) (own := RX12) (by decide) rfl rfl (Nat.le_of_ble_eq_true rfl) ?_
  intro p e s m args below meth c Q A ls hsz hx hb hml hts hown hK hA hAB hP hD hl ret
  have hS : va_S A s.heap s.heap [] := va_S.rf
  have hl : lv_has ls 4 [(0, .ref a12), (1, .int p1)] := hl
  have w0 := hts (.fieldLink RX12 83 "OlderSkinModel" "slips" "[I") (List.mem_of_getElem? (i := 2) rfl)
  have w1 := (fun w h => List.mem_cons_of_mem _ (List.mem_append_right _ h) : ∀ w ∈ u_ws RX12 TX12 63, w ∈ wsX12_shared)
  have w2 := hts (.fieldLink RX12 277 "OlderSkinModel" "maps" "I") (List.mem_of_getElem? (i := 1) rfl)
  have l0 : ((-1) : Int32).toInt = -1 := by decide
  have l1 : (0 : Int32).toInt = 0 := by decide
  have l2 : (10 : Int32).toInt = 10 := by decide
  have l3 : (1 : Int32).toInt = 1 := by decide
  have i12 : 0 ≤ v12_maps.toInt ∧ v12_maps.toInt ≤ 8 := i12
  refine lv_iload_n hx hb dX12_shared_0 rfl (lv_at hl 1 rfl) ?_
  refine lv_iconst (v := (-1)) hx hb dX12_shared_1 (by decide) ?_
  refine lv_icmp_ne (tgt := 50) hx hb dX12_shared_2 (by decide) (fun c1 => ?_) (fun c1 => ?_)
  · have c1 := ci_ne c1
    refine lv_iload_n hx hb dX12_shared_50 rfl (lv_at hl 1 rfl) ?_
    refine lv_if_lt (tgt := 87) hx hb dX12_shared_51 (by decide) (fun c2 => ?_) (fun c2 => ?_)
    · have c2 := ci_lt c2
      refine lv_iconst (v := (-1)) hx hb dX12_shared_87 (by decide) ?_
      have hpo : (p1.toInt = -1 ∧ ((-1) : Int32).toInt = trF f12_yearOf f12_slips v12_maps.toInt.toNat v12_maps.toInt.toNat) ∨ (p1.toInt ≠ -1 ∧ ¬ (0 ≤ p1.toInt ∧ p1.toInt / 10 < v12_maps.toInt ∧ p1.toInt % 10 < v12_maps.toInt ∧ p1.toInt / 10 ≠ p1.toInt % 10) ∧ ((-1) : Int32).toInt = -1) ∨ (p1.toInt ≠ -1 ∧ (0 ≤ p1.toInt ∧ p1.toInt / 10 < v12_maps.toInt ∧ p1.toInt % 10 < v12_maps.toInt ∧ p1.toInt / 10 ≠ p1.toInt % 10) ∧ ((-1) : Int32).toInt = (shF f12_slips (p1 / 10) (p1 - p1 / 10 * 10) v12_maps.toInt.toNat).toInt) := (by omega)
      exact ret _ _ _ _ (-1) () dX12_shared_88 hpo hP hD hS
    have c2 := ci_nlt c2
    refine lv_aload_n hx hb dX12_shared_54 rfl (lv_at hl 0 rfl) ?_
    refine lv_iload_n hx hb dX12_shared_55 rfl (lv_at hl 1 rfl) ?_
    refine lv_bipush (v := 10) hx hb dX12_shared_56 (by decide) ?_
    refine lv_idiv hx hb dX12_shared_58 (by decide) ?_
    refine lv_topi (fun x3 e4 => ?_)
    have h5 := ci_divL (n := 10) (by decide) (by decide) e4
    have hd0 : x3 = p1 / 10 := e4
    have hd1 : x3.toInt = (p1 / 10).toInt := congrArg Int32.toInt e4
    have hd2 := fr_div (n := 10) (by decide) (by decide) e4
    refine kcm_i hA hAB hP hD hS [true, false, false] rfl (fun _ => rfl) (fun hPc hDc => va_runV (As := [.int x3]) (rest := []) ⟨hx, hb, hml, hown, hts⟩ (k_X12_isMap l D κ β a12 r12 v12_keptMany v12_done v12_sheets v12_holes v12_worms v12_laidMany v12_wanted v12_orderMany v12_firstOrder v12_lines v12_marks v12_dots v12_madeIn v12_bound v12_places v12_maps v12_tapeMany v12_stories v12_base v12_at v12_ends v12_fault v12_opened v12_bodies v12_ran v12_ownKind v12_ownNumber s.heap.size x3 i1 i2 i3 i4 i5 i6 i7 i8 i9 i10 i11 i12 i13 i14 i15 i16 i17) (cwV 1 hts gX12_shared_X12_isMap rfl rfl rfl (by decide +kernel) ⟨Nat.le_of_ble_eq_true rfl, Nat.le_of_ble_eq_true rfl⟩) (pk_V hK hS hAB hPc hDc 0 (ci := 12) rfl rfl rfl) rfl rfl hl.1 rfl (lv_room (Nat.le_of_ble_eq_true rfl)) dX12_shared_59 ⟨Nat.le_of_ble_eq_true rfl, Nat.le_of_ble_eq_true rfl⟩) (fun x6 u7 H locs hw hPD hS => ?_)
    have h8 : (x6.toInt = 1 ∧ 0 ≤ x3.toInt ∧ x3.toInt < v12_maps.toInt) ∨ (x6.toInt = 0 ∧ (x3.toInt < 0 ∨ v12_maps.toInt ≤ x3.toInt)) := hw
    obtain ⟨hP, hD⟩ : PD D A [O12 a12 r12 v12_keptMany v12_done v12_sheets v12_holes v12_worms v12_laidMany v12_wanted v12_orderMany v12_firstOrder v12_lines v12_marks v12_dots v12_madeIn v12_bound v12_places v12_maps v12_tapeMany v12_stories v12_base v12_at v12_ends v12_fault v12_opened v12_bodies v12_ran v12_ownKind v12_ownNumber, (cI κ (r12 39) 8 f12_yearOf), (cI κ (r12 40) 8 f12_slips)] H := hPD
    refine lv_if_eq (tgt := 87) hx hb dX12_shared_62 (by decide) (fun c9 => ?_) (fun c9 => ?_)
    · have c9 := ci_eq c9
      refine lv_iconst (v := (-1)) hx hb dX12_shared_87 (by decide) ?_
      have hpo : (p1.toInt = -1 ∧ ((-1) : Int32).toInt = trF f12_yearOf f12_slips v12_maps.toInt.toNat v12_maps.toInt.toNat) ∨ (p1.toInt ≠ -1 ∧ ¬ (0 ≤ p1.toInt ∧ p1.toInt / 10 < v12_maps.toInt ∧ p1.toInt % 10 < v12_maps.toInt ∧ p1.toInt / 10 ≠ p1.toInt % 10) ∧ ((-1) : Int32).toInt = -1) ∨ (p1.toInt ≠ -1 ∧ (0 ≤ p1.toInt ∧ p1.toInt / 10 < v12_maps.toInt ∧ p1.toInt % 10 < v12_maps.toInt ∧ p1.toInt / 10 ≠ p1.toInt % 10) ∧ ((-1) : Int32).toInt = (shF f12_slips (p1 / 10) (p1 - p1 / 10 * 10) v12_maps.toInt.toNat).toInt) := (by omega)
      exact ret _ _ _ _ (-1) () dX12_shared_88 hpo hP hD hS
    have c9 := ci_ne c9
    refine lv_aload_n hx hb dX12_shared_65 rfl (lv_at hl 0 rfl) ?_
    refine lv_iload_n hx hb dX12_shared_66 rfl (lv_at hl 1 rfl) ?_
    refine lv_bipush (v := 10) hx hb dX12_shared_67 (by decide) ?_
    refine lv_irem hx hb dX12_shared_69 (by decide) ?_
    refine lv_topi (fun x10 e11 => ?_)
    have h12 := ci_remL (n := 10) (by decide) (by decide) e11
    have hr0 : x10 = p1 - p1 / 10 * 10 := e11
    have hr1 : x10.toInt = (p1 - p1 / 10 * 10).toInt := congrArg Int32.toInt e11
    have hr2 := fr_rem (n := 10) (by decide) (by decide) e11
    refine kcm_i hA hAB hP hD hS [true, false, false] rfl (fun _ => rfl) (fun hPc hDc => va_runV (As := [.int x10]) (rest := []) ⟨hx, hb, hml, hown, hts⟩ (k_X12_isMap l D κ β a12 r12 v12_keptMany v12_done v12_sheets v12_holes v12_worms v12_laidMany v12_wanted v12_orderMany v12_firstOrder v12_lines v12_marks v12_dots v12_madeIn v12_bound v12_places v12_maps v12_tapeMany v12_stories v12_base v12_at v12_ends v12_fault v12_opened v12_bodies v12_ran v12_ownKind v12_ownNumber H.size x10 i1 i2 i3 i4 i5 i6 i7 i8 i9 i10 i11 i12 i13 i14 i15 i16 i17) (cwV 1 hts gX12_shared_X12_isMap rfl rfl rfl (by decide +kernel) ⟨Nat.le_of_ble_eq_true rfl, Nat.le_of_ble_eq_true rfl⟩) (pk_V hK hS hAB hPc hDc 0 (ci := 12) rfl rfl rfl) rfl rfl hl.1 rfl (lv_room (Nat.le_of_ble_eq_true rfl)) dX12_shared_70 ⟨Nat.le_of_ble_eq_true rfl, Nat.le_of_ble_eq_true rfl⟩) (fun x13 u14 H locs hw hPD hS => ?_)
    have h15 : (x13.toInt = 1 ∧ 0 ≤ x10.toInt ∧ x10.toInt < v12_maps.toInt) ∨ (x13.toInt = 0 ∧ (x10.toInt < 0 ∨ v12_maps.toInt ≤ x10.toInt)) := hw
    obtain ⟨hP, hD⟩ : PD D A [O12 a12 r12 v12_keptMany v12_done v12_sheets v12_holes v12_worms v12_laidMany v12_wanted v12_orderMany v12_firstOrder v12_lines v12_marks v12_dots v12_madeIn v12_bound v12_places v12_maps v12_tapeMany v12_stories v12_base v12_at v12_ends v12_fault v12_opened v12_bodies v12_ran v12_ownKind v12_ownNumber, (cI κ (r12 39) 8 f12_yearOf), (cI κ (r12 40) 8 f12_slips)] H := hPD
    refine lv_if_eq (tgt := 87) hx hb dX12_shared_73 (by decide) (fun c16 => ?_) (fun c16 => ?_)
    · have c16 := ci_eq c16
      refine lv_iconst (v := (-1)) hx hb dX12_shared_87 (by decide) ?_
      have hpo : (p1.toInt = -1 ∧ ((-1) : Int32).toInt = trF f12_yearOf f12_slips v12_maps.toInt.toNat v12_maps.toInt.toNat) ∨ (p1.toInt ≠ -1 ∧ ¬ (0 ≤ p1.toInt ∧ p1.toInt / 10 < v12_maps.toInt ∧ p1.toInt % 10 < v12_maps.toInt ∧ p1.toInt / 10 ≠ p1.toInt % 10) ∧ ((-1) : Int32).toInt = -1) ∨ (p1.toInt ≠ -1 ∧ (0 ≤ p1.toInt ∧ p1.toInt / 10 < v12_maps.toInt ∧ p1.toInt % 10 < v12_maps.toInt ∧ p1.toInt / 10 ≠ p1.toInt % 10) ∧ ((-1) : Int32).toInt = (shF f12_slips (p1 / 10) (p1 - p1 / 10 * 10) v12_maps.toInt.toNat).toInt) := (by omega)
      exact ret _ _ _ _ (-1) () dX12_shared_88 hpo hP hD hS
    have c16 := ci_ne c16
    refine lv_iload_n hx hb dX12_shared_76 rfl (lv_at hl 1 rfl) ?_
    refine lv_bipush (v := 10) hx hb dX12_shared_77 (by decide) ?_
    refine lv_idiv hx hb dX12_shared_79 (by decide) ?_
    refine lv_re e4 ?_
    refine lv_iload_n hx hb dX12_shared_80 rfl (lv_at hl 1 rfl) ?_
    refine lv_bipush (v := 10) hx hb dX12_shared_81 (by decide) ?_
    refine lv_irem hx hb dX12_shared_83 (by decide) ?_
    refine lv_re e11 ?_
    refine lv_icmp_ne (tgt := 89) hx hb dX12_shared_84 (by decide) (fun c17 => ?_) (fun c17 => ?_)
    · have c17 := ci_ne c17
      refine lv_aload_n hx hb dX12_shared_89 rfl (lv_at hl 0 rfl) ?_
      refine va_get (D := D) (ci := 12) (v := .ref (r12 40)) (C := RX12) (T := TX12) (N := 63) hx hb hts w1 hown hK.1 hP 0 rfl rfl 40 (by decide) w0 (fun _ h9 => h9) rfl dX12_shared_90 ?_
      refine lv_iload_n hx hb dX12_shared_93 rfl (lv_at hl 1 rfl) ?_
      refine lv_bipush (v := 10) hx hb dX12_shared_94 (by decide) ?_
      refine lv_idiv hx hb dX12_shared_96 (by decide) ?_
      refine lv_re e4 ?_
      refine va_iald hx hb hK.1 hP 2 1 rfl rfl (i := x3) (ix (by omega) (by omega)) dX12_shared_97 ?_
      refine lv_topi (fun x18 e19 => ?_)
      have h20 : 0 ≤ x18.toInt ∧ x18.toInt ≤ 65535 := by rw [e19]; exact hf12_slips _
      have hy1 : x18 = f12_slips (p1 / 10).toNatClampNeg := by rw [e19, hd0]
      refine lv_aload_n hx hb dX12_shared_98 rfl (lv_at hl 0 rfl) ?_
      refine va_get (D := D) (ci := 12) (v := .ref (r12 40)) (C := RX12) (T := TX12) (N := 63) hx hb hts w1 hown hK.1 hP 0 rfl rfl 40 (by decide) w0 (fun _ h9 => h9) rfl dX12_shared_99 ?_
      refine lv_iload_n hx hb dX12_shared_102 rfl (lv_at hl 1 rfl) ?_
      refine lv_bipush (v := 10) hx hb dX12_shared_103 (by decide) ?_
      refine lv_irem hx hb dX12_shared_105 (by decide) ?_
      refine lv_re e11 ?_
      refine va_iald hx hb hK.1 hP 2 1 rfl rfl (i := x10) (ix (by omega) (by omega)) dX12_shared_106 ?_
      refine lv_topi (fun x21 e22 => ?_)
      have h23 : 0 ≤ x21.toInt ∧ x21.toInt ≤ 65535 := by rw [e22]; exact hf12_slips _
      have hy2 : x21 = f12_slips (p1 - p1 / 10 * 10).toNatClampNeg := by rw [e22, hr0]
      refine lv_iand hx hb dX12_shared_107 ?_
      refine lv_topi (fun x24 e25 => ?_)
      have hs0 : x24 = f12_slips (p1 / 10).toNatClampNeg &&& f12_slips (p1 - p1 / 10 * 10).toNatClampNeg := by rw [e25, hy1, hy2]
      refine lv_istore_n (lv' := [(2, .int x24), (0, .ref a12), (1, .int p1)]) hx hb dX12_shared_108 rfl hl (by decide) rfl (fun ls hl => ?_)
      refine lv_iconst (v := 0) hx hb dX12_shared_109 (by decide) ?_
      refine lv_istore_n (lv' := [(3, .int 0), (2, .int x24), (0, .ref a12), (1, .int p1)]) hx hb dX12_shared_110 rfl hl (by decide) rfl (fun ls hl => ?_)
      have lp111 : ∀ (n111 : Nat) (k26 : Int32) (k27 : Int32), (k26.toInt ≤ v12_maps.toInt) → (k27 = shF f12_slips (p1 / 10) (p1 - p1 / 10 * 10) k26.toInt.toNat) → (0 ≤ k26.toInt) → (v12_maps.toInt - k26.toInt).toNat < n111 → ∀ (H : Heap) (locs : List Loc), va_P D vwCl [O12 a12 r12 v12_keptMany v12_done v12_sheets v12_holes v12_worms v12_laidMany v12_wanted v12_orderMany v12_firstOrder v12_lines v12_marks v12_dots v12_madeIn v12_bound v12_places v12_maps v12_tapeMany v12_stories v12_base v12_at v12_ends v12_fault v12_opened v12_bodies v12_ran v12_ownKind v12_ownNumber, (cI κ (r12 39) 8 f12_yearOf), (cI κ (r12 40) 8 f12_slips)] H → va_D A [O12 a12 r12 v12_keptMany v12_done v12_sheets v12_holes v12_worms v12_laidMany v12_wanted v12_orderMany v12_firstOrder v12_lines v12_marks v12_dots v12_madeIn v12_bound v12_places v12_maps v12_tapeMany v12_stories v12_base v12_at v12_ends v12_fault v12_opened v12_bodies v12_ran v12_ownKind v12_ownNumber, (cI κ (r12 39) 8 f12_yearOf), (cI κ (r12 40) 8 f12_slips)] → va_S A s.heap H locs → ∀ ls : Array Slot, lv_has ls 4 [(3, .int k26), (2, .int k27), (0, .ref a12), (1, .int p1)] → W p l e ({ frames := 3, cells := 0, slots := 0, locals := 68 } : Room) s m args below meth c H locs 0 0 Q (F0 m 111 ls []) := by
        intro n111
        induction n111 with
        | zero =>
          intro k26 k27 h28 h29 h30 m31
          exact absurd m31 (Nat.not_lt_zero _)
        | succ n111 ih111 =>
          intro k26 k27 h28 h29 h30 m31 H locs hP hD hS ls hl
          have hSH : k27 = shF f12_slips (p1 / 10) (p1 - p1 / 10 * 10) k26.toInt.toNat := by assumption
          have hst := fun (kz9 : Int32) (hz9 : kz9.toInt = k26.toInt + 1) => shF_step (s := f12_slips) (i := (p1 / 10)) (j := (p1 - p1 / 10 * 10)) (k := k26) (k' := kz9) (by omega) hz9
          refine lv_iload_n hx hb dX12_shared_111 rfl (lv_at hl 0 rfl) ?_
          refine lv_aload_n hx hb dX12_shared_112 rfl (lv_at hl 2 rfl) ?_
          refine va_get (D := D) (ci := 12) (v := .int v12_maps) (C := RX12) (T := TX12) (N := 63) hx hb hts w1 hown hK.1 hP 0 rfl rfl 38 (by decide) w2 (fun _ h9 => h9) rfl dX12_shared_113 ?_
          refine lv_icmp_ge (tgt := 156) hx hb dX12_shared_116 (by decide) (fun c32 => ?_) (fun c32 => ?_)
          · have c32 := ci_le c32
            refine lv_iload_n hx hb dX12_shared_156 rfl (lv_at hl 1 rfl) ?_
            have hpo : (p1.toInt = -1 ∧ k27.toInt = trF f12_yearOf f12_slips v12_maps.toInt.toNat v12_maps.toInt.toNat) ∨ (p1.toInt ≠ -1 ∧ ¬ (0 ≤ p1.toInt ∧ p1.toInt / 10 < v12_maps.toInt ∧ p1.toInt % 10 < v12_maps.toInt ∧ p1.toInt / 10 ≠ p1.toInt % 10) ∧ k27.toInt = -1) ∨ (p1.toInt ≠ -1 ∧ (0 ≤ p1.toInt ∧ p1.toInt / 10 < v12_maps.toInt ∧ p1.toInt % 10 < v12_maps.toInt ∧ p1.toInt / 10 ≠ p1.toInt % 10) ∧ k27.toInt = (shF f12_slips (p1 / 10) (p1 - p1 / 10 * 10) v12_maps.toInt.toNat).toInt) := (by have h9 := hSH; rw [show k26.toInt.toNat = v12_maps.toInt.toNat from by omega] at h9; have h8 := congrArg Int32.toInt h9; omega)
            exact ret _ _ _ _ k27 () dX12_shared_157 hpo hP hD hS
          have c32 := ci_nle c32
          refine lv_iload_n hx hb dX12_shared_119 rfl (lv_at hl 0 rfl) ?_
          refine lv_iload_n hx hb dX12_shared_120 rfl (lv_at hl 3 rfl) ?_
          refine lv_bipush (v := 10) hx hb dX12_shared_121 (by decide) ?_
          refine lv_idiv hx hb dX12_shared_123 (by decide) ?_
          refine lv_re e4 ?_
          refine lv_icmp_eq (tgt := 135) hx hb dX12_shared_124 (by decide) (fun c33 => ?_) (fun c33 => ?_)
          · have c33 := ci_eq c33
            refine lv_iload_n hx hb dX12_shared_135 rfl (lv_at hl 1 rfl) ?_
            refine lv_goto (tgt := 149) hx hb dX12_shared_136 (by decide) ?_
            refine lv_istore_n (lv' := [(2, .int k27), (3, .int k26), (0, .ref a12), (1, .int p1)]) hx hb dX12_shared_149 rfl hl (by decide) rfl (fun ls hl => ?_)
            obtain ⟨x34, e35⟩ : ∃ y : Int32, y = k26 + 1 := ⟨_, rfl⟩
            refine lv_iinc (v := x34) (lv' := [(3, .int x34), (2, .int k27), (0, .ref a12), (1, .int p1)]) hx hb dX12_shared_150 hl (k := 1) rfl (by rw [e35]; rfl) (by decide) rfl (fun ls hl => ?_)
            try have h36 : x34.toInt = k26.toInt + (1 : Int32).toInt := ci_add e35 (by omega) (by omega)
            refine lv_goto (tgt := 111) hx hb dX12_shared_153 (by decide) ?_
            exact ih111 x34 k27 (by omega) (by first | (rw [show x34.toInt.toNat = 0 from by omega]; exact hs0) | (rw [hst x34 (by omega), if_pos (by omega)]; exact hSH) | (rw [hst x34 (by omega), if_neg (by omega), ← hSH]; exact hak)) (by omega) (by omega) _ _ hP hD hS _ hl
          have c33 := ci_ne c33
          refine lv_iload_n hx hb dX12_shared_127 rfl (lv_at hl 0 rfl) ?_
          refine lv_iload_n hx hb dX12_shared_128 rfl (lv_at hl 3 rfl) ?_
          refine lv_bipush (v := 10) hx hb dX12_shared_129 (by decide) ?_
          refine lv_irem hx hb dX12_shared_131 (by decide) ?_
          refine lv_re e11 ?_
          refine lv_icmp_ne (tgt := 139) hx hb dX12_shared_132 (by decide) (fun c37 => ?_) (fun c37 => ?_)
          · have c37 := ci_ne c37
            refine lv_iload_n hx hb dX12_shared_139 rfl (lv_at hl 1 rfl) ?_
            refine lv_aload_n hx hb dX12_shared_140 rfl (lv_at hl 2 rfl) ?_
            refine va_get (D := D) (ci := 12) (v := .ref (r12 40)) (C := RX12) (T := TX12) (N := 63) hx hb hts w1 hown hK.1 hP 0 rfl rfl 40 (by decide) w0 (fun _ h9 => h9) rfl dX12_shared_141 ?_
            refine lv_iload_n hx hb dX12_shared_144 rfl (lv_at hl 0 rfl) ?_
            refine va_iald hx hb hK.1 hP 2 1 rfl rfl (i := k26) (ix (by omega) (by omega)) dX12_shared_145 ?_
            refine lv_topi (fun x38 e39 => ?_)
            have h40 : 0 ≤ x38.toInt ∧ x38.toInt ≤ 65535 := by rw [e39]; exact hf12_slips _
            have hyk : x38 = f12_slips k26.toNatClampNeg := e39
            refine lv_iconst (v := (-1)) hx hb dX12_shared_146 (by decide) ?_
            refine lv_ixor hx hb dX12_shared_147 ?_
            refine lv_topi (fun x41 e42 => ?_)
            have hxk : x41 = f12_slips k26.toNatClampNeg ^^^ (-1) := by rw [e42, hyk]
            refine lv_iand hx hb dX12_shared_148 ?_
            refine lv_topi (fun x43 e44 => ?_)
            have hak : x43 = k27 &&& (f12_slips k26.toNatClampNeg ^^^ (-1)) := by rw [e44, hxk]
            refine lv_istore_n (lv' := [(2, .int x43), (3, .int k26), (0, .ref a12), (1, .int p1)]) hx hb dX12_shared_149 rfl hl (by decide) rfl (fun ls hl => ?_)
            obtain ⟨x45, e46⟩ : ∃ y : Int32, y = k26 + 1 := ⟨_, rfl⟩
            refine lv_iinc (v := x45) (lv' := [(3, .int x45), (2, .int x43), (0, .ref a12), (1, .int p1)]) hx hb dX12_shared_150 hl (k := 1) rfl (by rw [e46]; rfl) (by decide) rfl (fun ls hl => ?_)
            try have h47 : x45.toInt = k26.toInt + (1 : Int32).toInt := ci_add e46 (by omega) (by omega)
            refine lv_goto (tgt := 111) hx hb dX12_shared_153 (by decide) ?_
            exact ih111 x45 x43 (by omega) (by first | (rw [show x45.toInt.toNat = 0 from by omega]; exact hs0) | (rw [hst x45 (by omega), if_pos (by omega)]; exact hSH) | (rw [hst x45 (by omega), if_neg (by omega), ← hSH]; exact hak)) (by omega) (by omega) _ _ hP hD hS _ hl
          have c37 := ci_eq c37
          refine lv_iload_n hx hb dX12_shared_135 rfl (lv_at hl 1 rfl) ?_
          refine lv_goto (tgt := 149) hx hb dX12_shared_136 (by decide) ?_
          refine lv_istore_n (lv' := [(2, .int k27), (3, .int k26), (0, .ref a12), (1, .int p1)]) hx hb dX12_shared_149 rfl hl (by decide) rfl (fun ls hl => ?_)
          obtain ⟨x48, e49⟩ : ∃ y : Int32, y = k26 + 1 := ⟨_, rfl⟩
          refine lv_iinc (v := x48) (lv' := [(3, .int x48), (2, .int k27), (0, .ref a12), (1, .int p1)]) hx hb dX12_shared_150 hl (k := 1) rfl (by rw [e49]; rfl) (by decide) rfl (fun ls hl => ?_)
          try have h50 : x48.toInt = k26.toInt + (1 : Int32).toInt := ci_add e49 (by omega) (by omega)
          refine lv_goto (tgt := 111) hx hb dX12_shared_153 (by decide) ?_
          exact ih111 x48 k27 (by omega) (by first | (rw [show x48.toInt.toNat = 0 from by omega]; exact hs0) | (rw [hst x48 (by omega), if_pos (by omega)]; exact hSH) | (rw [hst x48 (by omega), if_neg (by omega), ← hSH]; exact hak)) (by omega) (by omega) _ _ hP hD hS _ hl
      exact lp111 ((v12_maps.toInt - (0 : Int32).toInt).toNat + 1) 0 x24 (by omega) (by first | (rw [show (0 : Int32).toInt.toNat = 0 from by omega]; exact hs0) | (rw [hst (0 : Int32) (by omega), if_pos (by omega)]; exact hSH) | (rw [hst (0 : Int32) (by omega), if_neg (by omega), ← hSH]; exact hak)) (by omega) (by omega) _ _ hP hD hS _ hl
    have c17 := ci_eq c17
    refine lv_iconst (v := (-1)) hx hb dX12_shared_87 (by decide) ?_
    have hpo : (p1.toInt = -1 ∧ ((-1) : Int32).toInt = trF f12_yearOf f12_slips v12_maps.toInt.toNat v12_maps.toInt.toNat) ∨ (p1.toInt ≠ -1 ∧ ¬ (0 ≤ p1.toInt ∧ p1.toInt / 10 < v12_maps.toInt ∧ p1.toInt % 10 < v12_maps.toInt ∧ p1.toInt / 10 ≠ p1.toInt % 10) ∧ ((-1) : Int32).toInt = -1) ∨ (p1.toInt ≠ -1 ∧ (0 ≤ p1.toInt ∧ p1.toInt / 10 < v12_maps.toInt ∧ p1.toInt % 10 < v12_maps.toInt ∧ p1.toInt / 10 ≠ p1.toInt % 10) ∧ ((-1) : Int32).toInt = (shF f12_slips (p1 / 10) (p1 - p1 / 10 * 10) v12_maps.toInt.toNat).toInt) := (by omega)
    exact ret _ _ _ _ (-1) () dX12_shared_88 hpo hP hD hS
  have c1 := ci_eq c1
  refine lv_iconst (v := 0) hx hb dX12_shared_5 (by decide) ?_
  refine lv_istore_n (lv' := [(2, .int 0), (0, .ref a12), (1, .int p1)]) hx hb dX12_shared_6 rfl hl (by decide) rfl (fun ls hl => ?_)
  refine lv_iconst (v := 0) hx hb dX12_shared_7 (by decide) ?_
  refine lv_istore_n (lv' := [(3, .int 0), (2, .int 0), (0, .ref a12), (1, .int p1)]) hx hb dX12_shared_8 rfl hl (by decide) rfl (fun ls hl => ?_)
  have lp9 : ∀ (n9 : Nat) (k51 : Int32) (k52 : Int32), (k51.toInt ≤ v12_maps.toInt) → (0 ≤ k52.toInt ∧ k52.toInt ≤ 16 * k51.toInt) → (k52.toInt = trF f12_yearOf f12_slips v12_maps.toInt.toNat k51.toInt.toNat) → (0 ≤ k51.toInt) → (v12_maps.toInt - k51.toInt).toNat < n9 → ∀ (H : Heap) (locs : List Loc), va_P D vwCl [O12 a12 r12 v12_keptMany v12_done v12_sheets v12_holes v12_worms v12_laidMany v12_wanted v12_orderMany v12_firstOrder v12_lines v12_marks v12_dots v12_madeIn v12_bound v12_places v12_maps v12_tapeMany v12_stories v12_base v12_at v12_ends v12_fault v12_opened v12_bodies v12_ran v12_ownKind v12_ownNumber, (cI κ (r12 39) 8 f12_yearOf), (cI κ (r12 40) 8 f12_slips)] H → va_D A [O12 a12 r12 v12_keptMany v12_done v12_sheets v12_holes v12_worms v12_laidMany v12_wanted v12_orderMany v12_firstOrder v12_lines v12_marks v12_dots v12_madeIn v12_bound v12_places v12_maps v12_tapeMany v12_stories v12_base v12_at v12_ends v12_fault v12_opened v12_bodies v12_ran v12_ownKind v12_ownNumber, (cI κ (r12 39) 8 f12_yearOf), (cI κ (r12 40) 8 f12_slips)] → va_S A s.heap H locs → ∀ ls : Array Slot, lv_has ls 4 [(3, .int k51), (2, .int k52), (0, .ref a12), (1, .int p1)] → W p l e ({ frames := 3, cells := 0, slots := 0, locals := 68 } : Room) s m args below meth c H locs 0 0 Q (F0 m 9 ls []) := by
    intro n9
    induction n9 with
    | zero =>
      intro k51 k52 h53 h54 h55 h56 m57
      exact absurd m57 (Nat.not_lt_zero _)
    | succ n9 ih9 =>
      intro k51 k52 h53 h54 h55 h56 m57 H locs hP hD hS ls hl
      have hTR : k52.toInt = trF f12_yearOf f12_slips v12_maps.toInt.toNat k51.toInt.toNat := by assumption
      have hst := fun (kz9 : Int32) (hz9 : kz9.toInt = k51.toInt + 1) => trF_step (y := f12_yearOf) (s := f12_slips) (n := v12_maps.toInt.toNat) (k := k51) (k' := kz9) (by omega) hz9
      refine lv_iload_n hx hb dX12_shared_9 rfl (lv_at hl 0 rfl) ?_
      refine lv_aload_n hx hb dX12_shared_10 rfl (lv_at hl 2 rfl) ?_
      refine va_get (D := D) (ci := 12) (v := .int v12_maps) (C := RX12) (T := TX12) (N := 63) hx hb hts w1 hown hK.1 hP 0 rfl rfl 38 (by decide) w2 (fun _ h9 => h9) rfl dX12_shared_11 ?_
      refine lv_icmp_ge (tgt := 48) hx hb dX12_shared_14 (by decide) (fun c58 => ?_) (fun c58 => ?_)
      · have c58 := ci_le c58
        refine lv_iload_n hx hb dX12_shared_48 rfl (lv_at hl 1 rfl) ?_
        have hpo : (p1.toInt = -1 ∧ k52.toInt = trF f12_yearOf f12_slips v12_maps.toInt.toNat v12_maps.toInt.toNat) ∨ (p1.toInt ≠ -1 ∧ ¬ (0 ≤ p1.toInt ∧ p1.toInt / 10 < v12_maps.toInt ∧ p1.toInt % 10 < v12_maps.toInt ∧ p1.toInt / 10 ≠ p1.toInt % 10) ∧ k52.toInt = -1) ∨ (p1.toInt ≠ -1 ∧ (0 ≤ p1.toInt ∧ p1.toInt / 10 < v12_maps.toInt ∧ p1.toInt % 10 < v12_maps.toInt ∧ p1.toInt / 10 ≠ p1.toInt % 10) ∧ k52.toInt = (shF f12_slips (p1 / 10) (p1 - p1 / 10 * 10) v12_maps.toInt.toNat).toInt) := (by have h9 := hTR; rw [show k51.toInt.toNat = v12_maps.toInt.toNat from by omega] at h9; omega)
        exact ret _ _ _ _ k52 () dX12_shared_49 hpo hP hD hS
      have c58 := ci_nle c58
      refine lv_iload_n hx hb dX12_shared_17 rfl (lv_at hl 1 rfl) ?_
      refine lv_aload_n hx hb dX12_shared_18 rfl (lv_at hl 2 rfl) ?_
      refine lv_iload_n hx hb dX12_shared_19 rfl (lv_at hl 0 rfl) ?_
      refine kcm_i hA hAB hP hD hS [true, true, true] rfl (fun _ => rfl) (fun hPc hDc => va_runV (As := [.int k51]) (rest := [.int k52]) ⟨hx, hb, hml, hown, hts⟩ (k_X12_fatherOf l D κ β a12 r12 v12_keptMany v12_done v12_sheets v12_holes v12_worms v12_laidMany v12_wanted v12_orderMany v12_firstOrder v12_lines v12_marks v12_dots v12_madeIn v12_bound v12_places v12_maps v12_tapeMany v12_stories v12_base v12_at v12_ends v12_fault v12_opened v12_bodies v12_ran v12_ownKind v12_ownNumber f12_yearOf f12_slips H.size k51 i1 i2 i3 i4 i5 i6 i7 i8 i9 i10 i11 i12 i13 i14 i15 i16 hf12_slips i17 (by omega)) (cwV 1 hts gX12_shared_X12_fatherOf rfl rfl rfl (by decide +kernel) ⟨Nat.le_of_ble_eq_true rfl, Nat.le_of_ble_eq_true rfl⟩) (pk_V hK hS hAB hPc hDc 0 (ci := 12) rfl rfl rfl) rfl rfl hl.1 rfl (lv_room (Nat.le_of_ble_eq_true rfl)) dX12_shared_20 ⟨Nat.le_of_ble_eq_true rfl, Nat.le_of_ble_eq_true rfl⟩) (fun x59 u60 H locs hw hPD hS => ?_)
      obtain ⟨h61, h62, h63, h64⟩ : (-2 ≤ x59.toInt ∧ x59.toInt < v12_maps.toInt) ∧ (x59.toInt < 0 ∨ (f12_yearOf x59.toNatClampNeg).toInt < (f12_yearOf k51.toNatClampNeg).toInt) ∧ (0 ≤ x59.toInt ∨ noF f12_yearOf (f12_yearOf k51.toNatClampNeg).toInt v12_maps.toInt) ∧ (faF f12_yearOf f12_slips k51.toNatClampNeg v12_maps.toInt.toNat = x59.toInt ∨ (x59.toInt = -2 ∧ faF f12_yearOf f12_slips k51.toNatClampNeg v12_maps.toInt.toNat = -1)) := hw
      obtain ⟨hP, hD⟩ : PD D A [O12 a12 r12 v12_keptMany v12_done v12_sheets v12_holes v12_worms v12_laidMany v12_wanted v12_orderMany v12_firstOrder v12_lines v12_marks v12_dots v12_madeIn v12_bound v12_places v12_maps v12_tapeMany v12_stories v12_base v12_at v12_ends v12_fault v12_opened v12_bodies v12_ran v12_ownKind v12_ownNumber, (cI κ (r12 39) 8 f12_yearOf), (cI κ (r12 40) 8 f12_slips)] H := hPD
      have hR1 : x59.toInt < 0 ∨ 0 ≤ x59.toInt ∧ x59.toInt < v12_maps.toInt ∧ (f12_yearOf x59.toNatClampNeg).toInt < (f12_yearOf k51.toNatClampNeg).toInt := by omega
      have hfx : (faF f12_yearOf f12_slips k51.toNatClampNeg v12_maps.toInt.toNat = x59.toInt ∨ (x59.toInt = -2 ∧ faF f12_yearOf f12_slips k51.toNatClampNeg v12_maps.toInt.toNat = -1)) := by assumption
      refine lv_if_ge (tgt := 30) hx hb dX12_shared_23 (by decide) (fun c65 => ?_) (fun c65 => ?_)
      · have c65 := ci_le c65
        refine lv_aload_n hx hb dX12_shared_30 rfl (lv_at hl 2 rfl) ?_
        refine lv_iload_n hx hb dX12_shared_31 rfl (lv_at hl 0 rfl) ?_
        refine lv_aload_n hx hb dX12_shared_32 rfl (lv_at hl 2 rfl) ?_
        refine lv_iload_n hx hb dX12_shared_33 rfl (lv_at hl 0 rfl) ?_
        refine kcm_i hA hAB hP hD hS [true, true, true] rfl (fun _ => rfl) (fun hPc hDc => va_runV (As := [.int k51]) (rest := [.int k51, .ref a12, .int k52]) ⟨hx, hb, hml, hown, hts⟩ (k_X12_fatherOf l D κ β a12 r12 v12_keptMany v12_done v12_sheets v12_holes v12_worms v12_laidMany v12_wanted v12_orderMany v12_firstOrder v12_lines v12_marks v12_dots v12_madeIn v12_bound v12_places v12_maps v12_tapeMany v12_stories v12_base v12_at v12_ends v12_fault v12_opened v12_bodies v12_ran v12_ownKind v12_ownNumber f12_yearOf f12_slips H.size k51 i1 i2 i3 i4 i5 i6 i7 i8 i9 i10 i11 i12 i13 i14 i15 i16 hf12_slips i17 (by omega)) (cwV 1 hts gX12_shared_X12_fatherOf rfl rfl rfl (by decide +kernel) ⟨Nat.le_of_ble_eq_true rfl, Nat.le_of_ble_eq_true rfl⟩) (pk_V hK hS hAB hPc hDc 0 (ci := 12) rfl rfl rfl) rfl rfl hl.1 rfl (lv_room (Nat.le_of_ble_eq_true rfl)) dX12_shared_34 ⟨Nat.le_of_ble_eq_true rfl, Nat.le_of_ble_eq_true rfl⟩) (fun x66 u67 H locs hw hPD hS => ?_)
        obtain ⟨h68, h69, h70, h71⟩ : (-2 ≤ x66.toInt ∧ x66.toInt < v12_maps.toInt) ∧ (x66.toInt < 0 ∨ (f12_yearOf x66.toNatClampNeg).toInt < (f12_yearOf k51.toNatClampNeg).toInt) ∧ (0 ≤ x66.toInt ∨ noF f12_yearOf (f12_yearOf k51.toNatClampNeg).toInt v12_maps.toInt) ∧ (faF f12_yearOf f12_slips k51.toNatClampNeg v12_maps.toInt.toNat = x66.toInt ∨ (x66.toInt = -2 ∧ faF f12_yearOf f12_slips k51.toNatClampNeg v12_maps.toInt.toNat = -1)) := hw
        obtain ⟨hP, hD⟩ : PD D A [O12 a12 r12 v12_keptMany v12_done v12_sheets v12_holes v12_worms v12_laidMany v12_wanted v12_orderMany v12_firstOrder v12_lines v12_marks v12_dots v12_madeIn v12_bound v12_places v12_maps v12_tapeMany v12_stories v12_base v12_at v12_ends v12_fault v12_opened v12_bodies v12_ran v12_ownKind v12_ownNumber, (cI κ (r12 39) 8 f12_yearOf), (cI κ (r12 40) 8 f12_slips)] H := hPD
        have hz9 : 0 ≤ x66.toInt := noF_no ‹0 ≤ x66.toInt ∨ noF f12_yearOf (f12_yearOf k51.toNatClampNeg).toInt v12_maps.toInt› hR1 (by omega)
        have hfy : (faF f12_yearOf f12_slips k51.toNatClampNeg v12_maps.toInt.toNat = x66.toInt ∨ (x66.toInt = -2 ∧ faF f12_yearOf f12_slips k51.toNatClampNeg v12_maps.toInt.toNat = -1)) := by assumption
        have hfn : (faF f12_yearOf f12_slips k51.toNatClampNeg v12_maps.toInt.toNat).toNat = x66.toNatClampNeg := by rw [show faF f12_yearOf f12_slips k51.toNatClampNeg v12_maps.toInt.toNat = x66.toInt from by omega]; rfl
        refine kcm_i hA hAB hP hD hS [true, false, true] rfl (fun _ => rfl) (fun hPc hDc => va_runV (As := [.int k51, .int x66]) (rest := [.int k52]) ⟨hx, hb, hml, hown, hts⟩ (k_X12_unlike l D κ β a12 r12 v12_keptMany v12_done v12_sheets v12_holes v12_worms v12_laidMany v12_wanted v12_orderMany v12_firstOrder v12_lines v12_marks v12_dots v12_madeIn v12_bound v12_places v12_maps v12_tapeMany v12_stories v12_base v12_at v12_ends v12_fault v12_opened v12_bodies v12_ran v12_ownKind v12_ownNumber f12_slips H.size k51 x66 i1 i2 i3 i4 i5 i6 i7 i8 i9 i10 i11 i12 i13 i14 i15 i16 hf12_slips i17 (by omega) (by omega)) (cwV 2 hts gX12_shared_X12_unlike rfl rfl rfl (by decide +kernel) ⟨Nat.le_of_ble_eq_true rfl, Nat.le_of_ble_eq_true rfl⟩) (pk_V hK hS hAB hPc hDc 0 (ci := 12) rfl rfl rfl) rfl rfl hl.1 rfl (lv_room (Nat.le_of_ble_eq_true rfl)) dX12_shared_37 ⟨Nat.le_of_ble_eq_true rfl, Nat.le_of_ble_eq_true rfl⟩) (fun x72 u73 H locs hw hPD hS => ?_)
        have h74 : x72.toInt = apF f12_slips k51.toNatClampNeg x66.toNatClampNeg := hw
        obtain ⟨hP, hD⟩ : PD D A [O12 a12 r12 v12_keptMany v12_done v12_sheets v12_holes v12_worms v12_laidMany v12_wanted v12_orderMany v12_firstOrder v12_lines v12_marks v12_dots v12_madeIn v12_bound v12_places v12_maps v12_tapeMany v12_stories v12_base v12_at v12_ends v12_fault v12_opened v12_bodies v12_ran v12_ownKind v12_ownNumber, (cI κ (r12 39) 8 f12_yearOf), (cI κ (r12 40) 8 f12_slips)] H := hPD
        have hfa : x72.toInt = apF f12_slips k51.toNatClampNeg (faF f12_yearOf f12_slips k51.toNatClampNeg v12_maps.toInt.toNat).toNat := by rw [hfn]; assumption
        have hap := apF_rng f12_slips k51.toNatClampNeg (faF f12_yearOf f12_slips k51.toNatClampNeg v12_maps.toInt.toNat).toNat
        refine lv_iadd hx hb dX12_shared_40 ?_
        refine lv_topi (fun x75 e76 => ?_)
        try have h77 : x75.toInt = k52.toInt + x72.toInt := ci_add e76 (by omega) (by omega)
        refine lv_istore_n (lv' := [(2, .int x75), (3, .int k51), (0, .ref a12), (1, .int p1)]) hx hb dX12_shared_41 rfl hl (by decide) rfl (fun ls hl => ?_)
        obtain ⟨x78, e79⟩ : ∃ y : Int32, y = k51 + 1 := ⟨_, rfl⟩
        refine lv_iinc (v := x78) (lv' := [(3, .int x78), (2, .int x75), (0, .ref a12), (1, .int p1)]) hx hb dX12_shared_42 hl (k := 1) rfl (by rw [e79]; rfl) (by decide) rfl (fun ls hl => ?_)
        try have h80 : x78.toInt = k51.toInt + (1 : Int32).toInt := ci_add e79 (by omega) (by omega)
        refine lv_goto (tgt := 9) hx hb dX12_shared_45 (by decide) ?_
        exact ih9 x78 x75 (by omega) (by omega) (by first | (rw [show x78.toInt.toNat = 0 from by omega]; show _ = (0 : Int); omega) | (rw [hst x78 (by omega), if_pos (by omega)]; omega) | (rw [hst x78 (by omega), if_neg (by omega)]; omega)) (by omega) (by omega) _ _ hP hD hS _ hl
      have c65 := ci_nle c65
      refine lv_iconst (v := 0) hx hb dX12_shared_26 (by decide) ?_
      refine lv_goto (tgt := 40) hx hb dX12_shared_27 (by decide) ?_
      refine lv_iadd hx hb dX12_shared_40 ?_
      refine lv_topi (fun x81 e82 => ?_)
      try have h83 : x81.toInt = k52.toInt + (0 : Int32).toInt := ci_add e82 (by omega) (by omega)
      refine lv_istore_n (lv' := [(2, .int x81), (3, .int k51), (0, .ref a12), (1, .int p1)]) hx hb dX12_shared_41 rfl hl (by decide) rfl (fun ls hl => ?_)
      obtain ⟨x84, e85⟩ : ∃ y : Int32, y = k51 + 1 := ⟨_, rfl⟩
      refine lv_iinc (v := x84) (lv' := [(3, .int x84), (2, .int x81), (0, .ref a12), (1, .int p1)]) hx hb dX12_shared_42 hl (k := 1) rfl (by rw [e85]; rfl) (by decide) rfl (fun ls hl => ?_)
      try have h86 : x84.toInt = k51.toInt + (1 : Int32).toInt := ci_add e85 (by omega) (by omega)
      refine lv_goto (tgt := 9) hx hb dX12_shared_45 (by decide) ?_
      exact ih9 x84 x81 (by omega) (by omega) (by first | (rw [show x84.toInt.toNat = 0 from by omega]; show _ = (0 : Int); omega) | (rw [hst x84 (by omega), if_pos (by omega)]; omega) | (rw [hst x84 (by omega), if_neg (by omega)]; omega)) (by omega) (by omega) _ _ hP hD hS _ hl
  exact lp9 ((v12_maps.toInt - (0 : Int32).toInt).toNat + 1) 0 0 (by omega) (by omega) (by first | (rw [show (0 : Int32).toInt.toNat = 0 from by omega]; show _ = (0 : Int); omega) | (rw [hst (0 : Int32) (by omega), if_pos (by omega)]; omega) | (rw [hst (0 : Int32) (by omega), if_neg (by omega)]; omega)) (by omega) (by omega) _ _ hP hD hS _ hl
set_option maxHeartbeats 4000000 in
set_option maxRecDepth 100000 in
theorem k_X12_dots (l : Launch) (D : va_G) (κ : Nat → ClassId) (β : Nat) (a12 : Nat) (r12 : Nat → Nat) (v12_keptMany : Int32) (v12_done : Int32) (v12_sheets : Int32) (v12_holes : Int32) (v12_worms : Int32) (v12_laidMany : Int32) (v12_wanted : Int32) (v12_orderMany : Int32) (v12_firstOrder : Int32) (v12_lines : Int32) (v12_marks : Int32) (v12_dots : Int32) (v12_madeIn : Int32) (v12_bound : Int32) (v12_places : Int32) (v12_maps : Int32) (v12_tapeMany : Int32) (v12_stories : Int32) (v12_base : Int32) (v12_at : Int32) (v12_ends : Int32) (v12_fault : Int32) (v12_opened : Int32) (v12_bodies : Int32) (v12_ran : Int32) (v12_ownKind : Int32) (v12_ownNumber : Int32) (f12_may : Nat → Int32) (f12_houseOf : Nat → Int32) (f12_inkOf : Nat → Int32) (f12_shelf : Nat → Int32) (f12_many : Nat → Int32) (f12_items : Nat → Int64) (sz : Nat) (p1 : Int32) (p2 : Int32) (p3 : Int32) (i1 : Rg 0 40 v12_keptMany) (i2 : Rg 0 40 v12_done) (i3 : Rg 0 8 v12_sheets) (i4 : Rg 0 40 v12_holes) (i5 : Rg 0 40 v12_worms) (i6 : Rg 0 8 v12_laidMany) (i7 : Rg 0 8 v12_wanted) (i8 : Rg 0 20 v12_lines) (i9 : Rg 0 60 v12_marks) (i10 : Rg 0 40 v12_dots) (i11 : Rg 0 20 v12_places) (i12 : Rg 0 8 v12_maps) (i13 : Rg 0 120 v12_tapeMany) (i14 : Rg 0 6 v12_stories) (i15 : Rg 0 50 v12_bodies) (i16 : Rg 0 1000 v12_ran) (hf12_many : ∀ j : Nat, 0 ≤ (f12_many j).toInt ∧ (f12_many j).toInt ≤ 60) (i17 : v12_done.toInt ≤ v12_keptMany.toInt) : Met l yX12_dots wsX12_dots ({ frames := 2, cells := 0, slots := 0, locals := 47 } : Room) (PcK D κ β [O12 a12 r12 v12_keptMany v12_done v12_sheets v12_holes v12_worms v12_laidMany v12_wanted v12_orderMany v12_firstOrder v12_lines v12_marks v12_dots v12_madeIn v12_bound v12_places v12_maps v12_tapeMany v12_stories v12_base v12_at v12_ends v12_fault v12_opened v12_bodies v12_ran v12_ownKind v12_ownNumber, (cI κ (r12 0) 55 f12_may), (cI κ (r12 28) 41 f12_houseOf), (cI κ (r12 29) 41 f12_inkOf), (cI κ (r12 59) 6 f12_shelf), (cI κ (r12 60) 6 f12_many), (cJ κ (r12 61) 360 f12_items)] sz [.ref a12, .int p1, .int p2, .int p3]) (QiK D (fun (r : Int32) (u : Int32 × (Nat → Int32) × (Nat → Int32) × (Nat → Int32)) => 0 ≤ u.1.toInt ∧ u.1.toInt ≤ 40) (fun (u : Int32 × (Nat → Int32) × (Nat → Int32) × (Nat → Int32)) => [O12 a12 r12 v12_keptMany v12_done v12_sheets v12_holes v12_worms v12_laidMany v12_wanted v12_orderMany v12_firstOrder v12_lines v12_marks u.1 v12_madeIn v12_bound v12_places v12_maps v12_tapeMany v12_stories v12_base v12_at v12_ends v12_fault v12_opened v12_bodies v12_ran v12_ownKind v12_ownNumber, (cI κ (r12 0) 55 u.2.1), (cI κ (r12 28) 41 u.2.2.1), (cI κ (r12 29) 41 u.2.2.2), (cI κ (r12 59) 6 f12_shelf), (cI κ (r12 60) 6 f12_many), (cJ κ (r12 61) 360 f12_items)]) [O12 a12 r12 v12_keptMany v12_done v12_sheets v12_holes v12_worms v12_laidMany v12_wanted v12_orderMany v12_firstOrder v12_lines v12_marks v12_dots v12_madeIn v12_bound v12_places v12_maps v12_tapeMany v12_stories v12_base v12_at v12_ends v12_fault v12_opened v12_bodies v12_ran v12_ownKind v12_ownNumber, (cI κ (r12 0) 55 f12_may), (cI κ (r12 28) 41 f12_houseOf), (cI κ (r12 29) 41 f12_inkOf), (cI κ (r12 59) 6 f12_shelf), (cI κ (r12 60) 6 f12_many), (cJ κ (r12 61) 360 f12_items)] sz) 0 0 (va_A [O12 a12 r12 v12_keptMany v12_done v12_sheets v12_holes v12_worms v12_laidMany v12_wanted v12_orderMany v12_firstOrder v12_lines v12_marks v12_dots v12_madeIn v12_bound v12_places v12_maps v12_tapeMany v12_stories v12_base v12_at v12_ends v12_fault v12_opened v12_bodies v12_ran v12_ownKind v12_ownNumber, (cI κ (r12 0) 55 f12_may), (cI κ (r12 28) 41 f12_houseOf), (cI κ (r12 29) 41 f12_inkOf), (cI κ (r12 59) 6 f12_shelf), (cI κ (r12 60) 6 f12_many), (cJ κ (r12 61) 360 f12_items)] sz) := by
  refine ofK_i (cc := cX12_dots) (maxL := 7) (own := RX12) (by decide) rfl rfl (Nat.le_of_ble_eq_true rfl) ?_
  intro p e s m args below meth c Q A ls hsz hx hb hml hts hown hK hA hAB hP hD hl ret
  have hS : va_S A s.heap s.heap [] := va_S.rf
  have hl : lv_has ls 7 [(0, .ref a12), (1, .int p1), (2, .int p2), (3, .int p3)] := hl
  have w0 := hts (.constantLong RX12 241 (20)) (List.mem_of_getElem? (i := 1) rfl)
  have w1 := hts (.fieldLink RX12 107 "OlderSkinModel" "shelf" "[I") (List.mem_of_getElem? (i := 2) rfl)
  have w2 := (fun w h => List.mem_cons_of_mem _ (List.mem_append_right _ h) : ∀ w ∈ u_ws RX12 TX12 63, w ∈ wsX12_dots)
  have w3 := hts (.fieldLink RX12 113 "OlderSkinModel" "items" "[J") (List.mem_of_getElem? (i := 5) rfl)
  have w4 := hts (.fieldLink RX12 110 "OlderSkinModel" "many" "[I") (List.mem_of_getElem? (i := 3) rfl)
  have w5 := hts (.fieldLink RX12 227 "OlderSkinModel" "dots" "I") (List.mem_of_getElem? (i := 4) rfl)
  have l0 : (0 : Int32).toInt = 0 := by decide
  have l1 : ((-1) : Int32).toInt = -1 := by decide
  have l2 : (1 : Int64).toInt = 1 := by decide
  have l3 : (20 : Int64).toInt = 20 := by decide
  have l4 : (60 : Int32).toInt = 60 := by decide
  have l5 : (3 : Int32).toInt = 3 := by decide
  have l6 : (1 : Int32).toInt = 1 := by decide
  have l7 : (2 : Int32).toInt = 2 := by decide
  have l8 : (40 : Int32).toInt = 40 := by decide
  have l9 : (51 : Int32).toInt = 51 := by decide
  have l10 : ((-12) : Int32).toInt = -12 := by decide
  have i10 : 0 ≤ v12_dots.toInt ∧ v12_dots.toInt ≤ 40 := i10
  refine lv_iload_n hx hb dX12_dots_0 rfl (lv_at hl 1 rfl) ?_
  refine kcm_i hA hAB hP hD hS [false, false, false, false, false, false, false] rfl (fun _ => rfl) (fun hPc hDc => va_runS (As := [.int p1]) (rest := []) ⟨hx, hb, hml, hown, hts⟩ (k_X12_isShelf l D κ β s.heap.size p1) (va_cwS 1 hts gX12_dots_X12_isShelf rfl rfl rfl (by decide +kernel) ⟨Nat.le_of_ble_eq_true rfl, Nat.le_of_ble_eq_true rfl⟩) (pk_S hK hS hAB hPc hDc) rfl rfl hl.1 rfl (lv_room (Nat.le_of_ble_eq_true rfl)) dX12_dots_1 ⟨Nat.le_of_ble_eq_true rfl, Nat.le_of_ble_eq_true rfl⟩) (fun x1 u2 H locs hw hPD hS => ?_)
  have h3 : (x1.toInt = 1 ∧ 0 ≤ p1.toInt ∧ p1.toInt ≤ 5) ∨ (x1.toInt = 0 ∧ (p1.toInt < 0 ∨ 5 < p1.toInt)) := hw
  obtain ⟨hP, hD⟩ : PD D A [O12 a12 r12 v12_keptMany v12_done v12_sheets v12_holes v12_worms v12_laidMany v12_wanted v12_orderMany v12_firstOrder v12_lines v12_marks v12_dots v12_madeIn v12_bound v12_places v12_maps v12_tapeMany v12_stories v12_base v12_at v12_ends v12_fault v12_opened v12_bodies v12_ran v12_ownKind v12_ownNumber, (cI κ (r12 0) 55 f12_may), (cI κ (r12 28) 41 f12_houseOf), (cI κ (r12 29) 41 f12_inkOf), (cI κ (r12 59) 6 f12_shelf), (cI κ (r12 60) 6 f12_many), (cJ κ (r12 61) 360 f12_items)] H := hPD
  refine lv_if_eq (tgt := 19) hx hb dX12_dots_4 (by decide) (fun c4 => ?_) (fun c4 => ?_)
  · have c4 := ci_eq c4
    refine lv_iconst (v := (-1)) hx hb dX12_dots_19 (by decide) ?_
    have hpo : 0 ≤ v12_dots.toInt ∧ v12_dots.toInt ≤ 40 := i10
    exact ret _ _ _ _ (-1) (v12_dots, f12_may, f12_houseOf, f12_inkOf) dX12_dots_20 hpo hP hD hS
  have c4 := ci_ne c4
  refine lv_iload_n hx hb dX12_dots_7 rfl (lv_at hl 3 rfl) ?_
  refine lv_i2l hx hb dX12_dots_8 rfl ?_
  refine lv_topl (fun x5 e6 => ?_)
  have h7 : x5.toInt = p3.toInt := cl_i2l e6
  refine lv_lconst (v := (1 : Int64)) hx hb dX12_dots_9 (by decide) ?_
  refine lv_ldc2 (v := (20 : Int64)) hx hb hown w0 dX12_dots_10 ?_
  refine kcm_i hA hAB hP hD hS [false, false, false, false, false, false, false] rfl (fun _ => rfl) (fun hPc hDc => va_runS (As := [.long x5, .long (1 : Int64), .long (20 : Int64)]) (rest := []) ⟨hx, hb, hml, hown, hts⟩ (k_X12_within l D κ β H.size x5 (1 : Int64) (20 : Int64)) (va_cwS 3 hts gX12_dots_X12_within rfl rfl rfl (by decide +kernel) ⟨Nat.le_of_ble_eq_true rfl, Nat.le_of_ble_eq_true rfl⟩) (pk_S hK hS hAB hPc hDc) rfl rfl hl.1 rfl (lv_room (Nat.le_of_ble_eq_true rfl)) dX12_dots_13 ⟨Nat.le_of_ble_eq_true rfl, Nat.le_of_ble_eq_true rfl⟩) (fun x8 u9 H locs hw hPD hS => ?_)
  have h10 : (x8.toInt = 1 ∧ (1 : Int64).toInt ≤ x5.toInt ∧ x5.toInt ≤ (20 : Int64).toInt) ∨ (x8.toInt = 0 ∧ (x5.toInt < (1 : Int64).toInt ∨ (20 : Int64).toInt < x5.toInt)) := hw
  obtain ⟨hP, hD⟩ : PD D A [O12 a12 r12 v12_keptMany v12_done v12_sheets v12_holes v12_worms v12_laidMany v12_wanted v12_orderMany v12_firstOrder v12_lines v12_marks v12_dots v12_madeIn v12_bound v12_places v12_maps v12_tapeMany v12_stories v12_base v12_at v12_ends v12_fault v12_opened v12_bodies v12_ran v12_ownKind v12_ownNumber, (cI κ (r12 0) 55 f12_may), (cI κ (r12 28) 41 f12_houseOf), (cI κ (r12 29) 41 f12_inkOf), (cI κ (r12 59) 6 f12_shelf), (cI κ (r12 60) 6 f12_many), (cJ κ (r12 61) 360 f12_items)] H := hPD
  refine lv_if_ne (tgt := 21) hx hb dX12_dots_16 (by decide) (fun c11 => ?_) (fun c11 => ?_)
  · have c11 := ci_ne c11
    refine lv_aload_n hx hb dX12_dots_21 rfl (lv_at hl 0 rfl) ?_
    refine va_get (D := D) (ci := 12) (v := .ref (r12 59)) (C := RX12) (T := TX12) (N := 63) hx hb hts w2 hown hK.1 hP 0 rfl rfl 59 (by decide) w1 (fun _ h9 => h9) rfl dX12_dots_22 ?_
    refine lv_iload_n hx hb dX12_dots_25 rfl (lv_at hl 1 rfl) ?_
    refine va_iald hx hb hK.1 hP 4 1 rfl rfl (i := p1) (ix (by omega) (by omega)) dX12_dots_26 ?_
    refine lv_topi (fun x12 e13 => ?_)
    have lp44 : ∀ (H : Heap) (locs : List Loc), va_P D vwCl [O12 a12 r12 v12_keptMany v12_done v12_sheets v12_holes v12_worms v12_laidMany v12_wanted v12_orderMany v12_firstOrder v12_lines v12_marks v12_dots v12_madeIn v12_bound v12_places v12_maps v12_tapeMany v12_stories v12_base v12_at v12_ends v12_fault v12_opened v12_bodies v12_ran v12_ownKind v12_ownNumber, (cI κ (r12 0) 55 f12_may), (cI κ (r12 28) 41 f12_houseOf), (cI κ (r12 29) 41 f12_inkOf), (cI κ (r12 59) 6 f12_shelf), (cI κ (r12 60) 6 f12_many), (cJ κ (r12 61) 360 f12_items)] H → va_D A [O12 a12 r12 v12_keptMany v12_done v12_sheets v12_holes v12_worms v12_laidMany v12_wanted v12_orderMany v12_firstOrder v12_lines v12_marks v12_dots v12_madeIn v12_bound v12_places v12_maps v12_tapeMany v12_stories v12_base v12_at v12_ends v12_fault v12_opened v12_bodies v12_ran v12_ownKind v12_ownNumber, (cI κ (r12 0) 55 f12_may), (cI κ (r12 28) 41 f12_houseOf), (cI κ (r12 29) 41 f12_inkOf), (cI κ (r12 59) 6 f12_shelf), (cI κ (r12 60) 6 f12_many), (cJ κ (r12 61) 360 f12_items)] → va_S A s.heap H locs → ∀ ls : Array Slot, lv_has ls 7 [(0, .ref a12), (1, .int p1), (2, .int p2), (3, .int p3)] → W p l e ({ frames := 2, cells := 0, slots := 0, locals := 47 } : Room) s m args below meth c H locs 0 0 Q (F0 m 44 ls []) := by
      intro H locs hP hD hS ls hl
      refine lv_iconst (v := 0) hx hb dX12_dots_44 (by decide) ?_
      refine lv_istore (lv' := [(4, .int 0), (0, .ref a12), (1, .int p1), (2, .int p2), (3, .int p3)]) hx hb dX12_dots_45 hl (by decide) rfl (fun ls hl => ?_)
      have lp67 : ∀ (k14 : Int32), (0 ≤ k14.toInt ∧ k14.toInt ≤ 1) → (k14.toInt = 0 ∨ 0 ≤ p2.toInt) → ∀ (H : Heap) (locs : List Loc), va_P D vwCl [O12 a12 r12 v12_keptMany v12_done v12_sheets v12_holes v12_worms v12_laidMany v12_wanted v12_orderMany v12_firstOrder v12_lines v12_marks v12_dots v12_madeIn v12_bound v12_places v12_maps v12_tapeMany v12_stories v12_base v12_at v12_ends v12_fault v12_opened v12_bodies v12_ran v12_ownKind v12_ownNumber, (cI κ (r12 0) 55 f12_may), (cI κ (r12 28) 41 f12_houseOf), (cI κ (r12 29) 41 f12_inkOf), (cI κ (r12 59) 6 f12_shelf), (cI κ (r12 60) 6 f12_many), (cJ κ (r12 61) 360 f12_items)] H → va_D A [O12 a12 r12 v12_keptMany v12_done v12_sheets v12_holes v12_worms v12_laidMany v12_wanted v12_orderMany v12_firstOrder v12_lines v12_marks v12_dots v12_madeIn v12_bound v12_places v12_maps v12_tapeMany v12_stories v12_base v12_at v12_ends v12_fault v12_opened v12_bodies v12_ran v12_ownKind v12_ownNumber, (cI κ (r12 0) 55 f12_may), (cI κ (r12 28) 41 f12_houseOf), (cI κ (r12 29) 41 f12_inkOf), (cI κ (r12 59) 6 f12_shelf), (cI κ (r12 60) 6 f12_many), (cJ κ (r12 61) 360 f12_items)] → va_S A s.heap H locs → ∀ ls : Array Slot, lv_has ls 7 [(4, .int 0), (0, .ref a12), (1, .int p1), (2, .int p2), (3, .int p3)] → W p l e ({ frames := 2, cells := 0, slots := 0, locals := 47 } : Room) s m args below meth c H locs 0 0 Q (F0 m 67 ls [.int k14]) := by
        intro k14 h15 h16 H locs hP hD hS ls hl
        refine lv_istore (lv' := [(5, .int k14), (4, .int 0), (0, .ref a12), (1, .int p1), (2, .int p2), (3, .int p3)]) hx hb dX12_dots_67 hl (by decide) rfl (fun ls hl => ?_)
        have lp69 : ∀ (n69 : Nat) (k17 : Int32) (k18 : Int32) (v19 : Int32) (g20 : Nat → Int32) (g21 : Nat → Int32) (g22 : Nat → Int32), (0 ≤ v19.toInt ∧ v19.toInt ≤ 40) → (0 ≤ k18.toInt ∧ k18.toInt ≤ p3.toInt) → (0 ≤ k17.toInt ∧ k17.toInt ≤ 1) → (k17.toInt = 0 ∨ 0 ≤ p2.toInt) → (p3.toInt - k18.toInt + k17.toInt).toNat < n69 → ∀ (H : Heap) (locs : List Loc), va_P D vwCl [O12 a12 r12 v12_keptMany v12_done v12_sheets v12_holes v12_worms v12_laidMany v12_wanted v12_orderMany v12_firstOrder v12_lines v12_marks v19 v12_madeIn v12_bound v12_places v12_maps v12_tapeMany v12_stories v12_base v12_at v12_ends v12_fault v12_opened v12_bodies v12_ran v12_ownKind v12_ownNumber, (cI κ (r12 0) 55 g20), (cI κ (r12 28) 41 g21), (cI κ (r12 29) 41 g22), (cI κ (r12 59) 6 f12_shelf), (cI κ (r12 60) 6 f12_many), (cJ κ (r12 61) 360 f12_items)] H → va_D A [O12 a12 r12 v12_keptMany v12_done v12_sheets v12_holes v12_worms v12_laidMany v12_wanted v12_orderMany v12_firstOrder v12_lines v12_marks v19 v12_madeIn v12_bound v12_places v12_maps v12_tapeMany v12_stories v12_base v12_at v12_ends v12_fault v12_opened v12_bodies v12_ran v12_ownKind v12_ownNumber, (cI κ (r12 0) 55 g20), (cI κ (r12 28) 41 g21), (cI κ (r12 29) 41 g22), (cI κ (r12 59) 6 f12_shelf), (cI κ (r12 60) 6 f12_many), (cJ κ (r12 61) 360 f12_items)] → va_S A s.heap H locs → ∀ ls : Array Slot, lv_has ls 7 [(5, .int k17), (4, .int k18), (0, .ref a12), (1, .int p1), (2, .int p2), (3, .int p3)] → W p l e ({ frames := 2, cells := 0, slots := 0, locals := 47 } : Room) s m args below meth c H locs 0 0 Q (F0 m 69 ls []) := by
          intro n69
          induction n69 with
          | zero =>
            intro k17 k18 v19 g20 g21 g22 h23 h24 h25 h26 m27
            exact absurd m27 (Nat.not_lt_zero _)
          | succ n69 ih69 =>
            intro k17 k18 v19 g20 g21 g22 h23 h24 h25 h26 m27 H locs hP hD hS ls hl
            refine lv_iload hx hb dX12_dots_69 (lv_at hl 0 rfl) ?_
            refine lv_if_eq (tgt := 215) hx hb dX12_dots_71 (by decide) (fun c28 => ?_) (fun c28 => ?_)
            · have c28 := ci_eq c28
              refine lv_iload hx hb dX12_dots_215 (lv_at hl 1 rfl) ?_
              have hpo : 0 ≤ v19.toInt ∧ v19.toInt ≤ 40 := h23
              exact ret _ _ _ _ k18 (v19, g20, g21, g22) dX12_dots_217 hpo hP hD hS
            have c28 := ci_ne c28
            refine lv_iload hx hb dX12_dots_74 (lv_at hl 1 rfl) ?_
            refine lv_iload_n hx hb dX12_dots_76 rfl (lv_at hl 5 rfl) ?_
            refine lv_icmp_ge (tgt := 215) hx hb dX12_dots_77 (by decide) (fun c29 => ?_) (fun c29 => ?_)
            · have c29 := ci_le c29
              refine lv_iload hx hb dX12_dots_215 (lv_at hl 1 rfl) ?_
              have hpo : 0 ≤ v19.toInt ∧ v19.toInt ≤ 40 := h23
              exact ret _ _ _ _ k18 (v19, g20, g21, g22) dX12_dots_217 hpo hP hD hS
            have c29 := ci_nle c29
            have lp113 : ∀ (k30 : Int32), (0 ≤ k30.toInt ∧ k30.toInt ≤ 1) → (k30.toInt = 0 ∨ (p2.toInt + 3 * k18.toInt ≤ 57 ∧ 0 ≤ p2.toInt ∧ v19.toInt < 40)) → ∀ (H : Heap) (locs : List Loc), va_P D vwCl [O12 a12 r12 v12_keptMany v12_done v12_sheets v12_holes v12_worms v12_laidMany v12_wanted v12_orderMany v12_firstOrder v12_lines v12_marks v19 v12_madeIn v12_bound v12_places v12_maps v12_tapeMany v12_stories v12_base v12_at v12_ends v12_fault v12_opened v12_bodies v12_ran v12_ownKind v12_ownNumber, (cI κ (r12 0) 55 g20), (cI κ (r12 28) 41 g21), (cI κ (r12 29) 41 g22), (cI κ (r12 59) 6 f12_shelf), (cI κ (r12 60) 6 f12_many), (cJ κ (r12 61) 360 f12_items)] H → va_D A [O12 a12 r12 v12_keptMany v12_done v12_sheets v12_holes v12_worms v12_laidMany v12_wanted v12_orderMany v12_firstOrder v12_lines v12_marks v19 v12_madeIn v12_bound v12_places v12_maps v12_tapeMany v12_stories v12_base v12_at v12_ends v12_fault v12_opened v12_bodies v12_ran v12_ownKind v12_ownNumber, (cI κ (r12 0) 55 g20), (cI κ (r12 28) 41 g21), (cI κ (r12 29) 41 g22), (cI κ (r12 59) 6 f12_shelf), (cI κ (r12 60) 6 f12_many), (cJ κ (r12 61) 360 f12_items)] → va_S A s.heap H locs → ∀ ls : Array Slot, lv_has ls 7 [(5, .int k30), (4, .int k18), (0, .ref a12), (1, .int p1), (2, .int p2), (3, .int p3)] → W p l e ({ frames := 2, cells := 0, slots := 0, locals := 47 } : Room) s m args below meth c H locs 0 0 Q (F0 m 113 ls []) := by
              intro k30 h31 h32 H locs hP hD hS ls hl
              refine lv_bipush (v := 60) hx hb dX12_dots_113 (by decide) ?_
              refine lv_iload_n hx hb dX12_dots_115 rfl (lv_at hl 3 rfl) ?_
              refine lv_imul hx hb dX12_dots_116 ?_
              refine lv_topi (fun x33 e34 => ?_)
              try have h35 : x33.toInt = 60 * p1.toInt := ci_mulL (n := 60) (by decide) e34 (by omega) (by omega)
              refine lv_iload_n hx hb dX12_dots_117 rfl (lv_at hl 4 rfl) ?_
              refine lv_iadd hx hb dX12_dots_118 ?_
              refine lv_topi (fun x36 e37 => ?_)
              try have h38 : x36.toInt = x33.toInt + p2.toInt := ci_add e37 (by omega) (by omega)
              have hz0 : k30.toInt = 0 ∨ x36.toInt = 60 * p1.toInt + p2.toInt := (Decidable.em (k30.toInt = 0)).imp id (fun q => by have q9 := ci_add e37 (by omega) (by omega); omega)
              refine lv_iconst (v := 3) hx hb dX12_dots_119 (by decide) ?_
              refine lv_iload hx hb dX12_dots_120 (lv_at hl 1 rfl) ?_
              refine lv_imul hx hb dX12_dots_122 ?_
              refine lv_topi (fun x39 e40 => ?_)
              try have h41 : x39.toInt = 3 * k18.toInt := ci_mulL (n := 3) (by decide) e40 (by omega) (by omega)
              have hz1 : k30.toInt = 0 ∨ x39.toInt = 3 * k18.toInt := (Decidable.em (k30.toInt = 0)).imp id (fun q => by exact ci_mulL (n := 3) (by decide) e40 (by omega) (by omega))
              refine lv_iadd hx hb dX12_dots_123 ?_
              refine lv_topi (fun x42 e43 => ?_)
              try have h44 : x42.toInt = x36.toInt + x39.toInt := ci_add e43 (by omega) (by omega)
              have hz2 : k30.toInt = 0 ∨ x42.toInt = 60 * p1.toInt + p2.toInt + 3 * k18.toInt := (Decidable.em (k30.toInt = 0)).imp id (fun q => by have q9 := ci_add e43 (by omega) (by omega); omega)
              refine lv_istore (lv' := [(6, .int x42), (5, .int k30), (4, .int k18), (0, .ref a12), (1, .int p1), (2, .int p2), (3, .int p3)]) hx hb dX12_dots_124 hl (by decide) rfl (fun ls hl => ?_)
              have lp172 : ∀ (k45 : Int32), (0 ≤ k45.toInt ∧ k45.toInt ≤ 1) → (k45.toInt = 0 ∨ (0 ≤ x42.toInt ∧ x42.toInt ≤ 357 ∧ v19.toInt < 40)) → ∀ (H : Heap) (locs : List Loc), va_P D vwCl [O12 a12 r12 v12_keptMany v12_done v12_sheets v12_holes v12_worms v12_laidMany v12_wanted v12_orderMany v12_firstOrder v12_lines v12_marks v19 v12_madeIn v12_bound v12_places v12_maps v12_tapeMany v12_stories v12_base v12_at v12_ends v12_fault v12_opened v12_bodies v12_ran v12_ownKind v12_ownNumber, (cI κ (r12 0) 55 g20), (cI κ (r12 28) 41 g21), (cI κ (r12 29) 41 g22), (cI κ (r12 59) 6 f12_shelf), (cI κ (r12 60) 6 f12_many), (cJ κ (r12 61) 360 f12_items)] H → va_D A [O12 a12 r12 v12_keptMany v12_done v12_sheets v12_holes v12_worms v12_laidMany v12_wanted v12_orderMany v12_firstOrder v12_lines v12_marks v19 v12_madeIn v12_bound v12_places v12_maps v12_tapeMany v12_stories v12_base v12_at v12_ends v12_fault v12_opened v12_bodies v12_ran v12_ownKind v12_ownNumber, (cI κ (r12 0) 55 g20), (cI κ (r12 28) 41 g21), (cI κ (r12 29) 41 g22), (cI κ (r12 59) 6 f12_shelf), (cI κ (r12 60) 6 f12_many), (cJ κ (r12 61) 360 f12_items)] → va_S A s.heap H locs → ∀ ls : Array Slot, lv_has ls 7 [(6, .int x42), (5, .int k45), (4, .int k18), (0, .ref a12), (1, .int p1), (2, .int p2), (3, .int p3)] → W p l e ({ frames := 2, cells := 0, slots := 0, locals := 47 } : Room) s m args below meth c H locs 0 0 Q (F0 m 172 ls []) := by
                intro k45 h46 h47 H locs hP hD hS ls hl
                refine lv_iload hx hb dX12_dots_172 (lv_at hl 1 rfl) ?_
                refine lv_if_eq (tgt := 212) hx hb dX12_dots_174 (by decide) (fun c48 => ?_) (fun c48 => ?_)
                · have c48 := ci_eq c48
                  refine lv_goto (tgt := 69) hx hb dX12_dots_212 (by decide) ?_
                  exact ih69 k45 k18 v19 g20 g21 g22 h23 (by omega) (by omega) (by omega) (by omega) _ _ hP hD hS _ (lv_sub hl [1, 2, 3, 4, 5, 6] rfl)
                have c48 := ci_ne c48
                refine lv_aload_n hx hb dX12_dots_177 rfl (lv_at hl 3 rfl) ?_
                refine lv_aload_n hx hb dX12_dots_178 rfl (lv_at hl 3 rfl) ?_
                refine va_get (D := D) (ci := 12) (v := .ref (r12 61)) (C := RX12) (T := TX12) (N := 63) hx hb hts w2 hown hK.1 hP 0 rfl rfl 61 (by decide) w3 (fun _ h9 => h9) rfl dX12_dots_179 ?_
                refine lv_iload hx hb dX12_dots_182 (lv_at hl 0 rfl) ?_
                refine va_lald hx hb hK.1 hP 6 2 rfl rfl (i := x42) (ix (by omega) (by omega)) dX12_dots_184 ?_
                refine lv_topl (fun x49 e50 => ?_)
                refine lv_l2i hx hb dX12_dots_185 rfl ?_
                refine lv_topi (fun x51 e52 => ?_)
                refine lv_aload_n hx hb dX12_dots_186 rfl (lv_at hl 3 rfl) ?_
                refine va_get (D := D) (ci := 12) (v := .ref (r12 61)) (C := RX12) (T := TX12) (N := 63) hx hb hts w2 hown hK.1 hP 0 rfl rfl 61 (by decide) w3 (fun _ h9 => h9) rfl dX12_dots_187 ?_
                refine lv_iload hx hb dX12_dots_190 (lv_at hl 0 rfl) ?_
                refine lv_iconst (v := 1) hx hb dX12_dots_192 (by decide) ?_
                refine lv_iadd hx hb dX12_dots_193 ?_
                refine lv_topi (fun x53 e54 => ?_)
                try have h55 : x53.toInt = x42.toInt + (1 : Int32).toInt := ci_add e54 (by omega) (by omega)
                refine va_lald hx hb hK.1 hP 6 2 rfl rfl (i := x53) (ix (by omega) (by omega)) dX12_dots_194 ?_
                refine lv_topl (fun x56 e57 => ?_)
                refine lv_l2i hx hb dX12_dots_195 rfl ?_
                refine lv_topi (fun x58 e59 => ?_)
                refine lv_aload_n hx hb dX12_dots_196 rfl (lv_at hl 3 rfl) ?_
                refine va_get (D := D) (ci := 12) (v := .ref (r12 61)) (C := RX12) (T := TX12) (N := 63) hx hb hts w2 hown hK.1 hP 0 rfl rfl 61 (by decide) w3 (fun _ h9 => h9) rfl dX12_dots_197 ?_
                refine lv_iload hx hb dX12_dots_200 (lv_at hl 0 rfl) ?_
                refine lv_iconst (v := 2) hx hb dX12_dots_202 (by decide) ?_
                refine lv_iadd hx hb dX12_dots_203 ?_
                refine lv_topi (fun x60 e61 => ?_)
                try have h62 : x60.toInt = x42.toInt + (2 : Int32).toInt := ci_add e61 (by omega) (by omega)
                refine va_lald hx hb hK.1 hP 6 2 rfl rfl (i := x60) (ix (by omega) (by omega)) dX12_dots_204 ?_
                refine lv_topl (fun x63 e64 => ?_)
                refine lv_l2i hx hb dX12_dots_205 rfl ?_
                refine lv_topi (fun x65 e66 => ?_)
                refine kcm_v hA hAB hP hD hS [true, true, true, true, false, false, false] rfl (fun _ => rfl) (fun hPc hDc => va_runV (As := [.int x51, .int x58, .int x65]) (rest := []) ⟨hx, hb, hml, hown, hts⟩ (k_X12_adds l D κ β a12 r12 v12_keptMany v12_done v12_sheets v12_holes v12_worms v12_laidMany v12_wanted v12_orderMany v12_firstOrder v12_lines v12_marks v19 v12_madeIn v12_bound v12_places v12_maps v12_tapeMany v12_stories v12_base v12_at v12_ends v12_fault v12_opened v12_bodies v12_ran v12_ownKind v12_ownNumber g20 g21 g22 H.size x51 x58 x65 i1 i2 i3 i4 i5 i6 i7 i8 i9 h23 i11 i12 i13 i14 i15 i16 i17 (by omega)) (cwV 3 hts gX12_dots_X12_adds rfl rfl rfl (by decide +kernel) ⟨Nat.le_of_ble_eq_true rfl, Nat.le_of_ble_eq_true rfl⟩) (pk_V hK hS hAB hPc hDc 0 (ci := 12) rfl rfl rfl) rfl rfl hl.1 rfl (lv_room (Nat.le_of_ble_eq_true rfl)) dX12_dots_206 ⟨Nat.le_of_ble_eq_true rfl, Nat.le_of_ble_eq_true rfl⟩) (fun u71 H locs hw hPD hS => ?_)
                obtain ⟨x67, g68, g69, g70⟩ := u71
                obtain ⟨h72, h73⟩ : (0 ≤ x67.toInt ∧ x67.toInt ≤ 40) ∧ (x67.toInt = v19.toInt + 1) := hw
                obtain ⟨hP, hD⟩ : PD D A [O12 a12 r12 v12_keptMany v12_done v12_sheets v12_holes v12_worms v12_laidMany v12_wanted v12_orderMany v12_firstOrder v12_lines v12_marks x67 v12_madeIn v12_bound v12_places v12_maps v12_tapeMany v12_stories v12_base v12_at v12_ends v12_fault v12_opened v12_bodies v12_ran v12_ownKind v12_ownNumber, (cI κ (r12 0) 55 g68), (cI κ (r12 28) 41 g69), (cI κ (r12 29) 41 g70), (cI κ (r12 59) 6 f12_shelf), (cI κ (r12 60) 6 f12_many), (cJ κ (r12 61) 360 f12_items)] H := hPD
                obtain ⟨x74, e75⟩ : ∃ y : Int32, y = k18 + 1 := ⟨_, rfl⟩
                refine lv_iinc (v := x74) (lv' := [(4, .int x74), (6, .int x42), (5, .int k45), (0, .ref a12), (1, .int p1), (2, .int p2), (3, .int p3)]) hx hb dX12_dots_209 hl (k := 2) rfl (by rw [e75]; rfl) (by decide) rfl (fun ls hl => ?_)
                try have h76 : x74.toInt = k18.toInt + (1 : Int32).toInt := ci_add e75 (by omega) (by omega)
                refine lv_goto (tgt := 69) hx hb dX12_dots_212 (by decide) ?_
                exact ih69 k45 x74 x67 g68 g69 g70 h72 (by omega) (by omega) (by omega) (by omega) _ _ hP hD hS _ (lv_sub hl [2, 0, 3, 4, 5, 6] rfl)
              refine lv_iload hx hb dX12_dots_126 (lv_at hl 1 rfl) ?_
              refine lv_if_eq (tgt := 169) hx hb dX12_dots_128 (by decide) (fun c77 => ?_) (fun c77 => ?_)
              · have c77 := ci_eq c77
                refine lv_iconst (v := 0) hx hb dX12_dots_169 (by decide) ?_
                refine lv_istore (lv' := [(5, .int 0), (6, .int x42), (4, .int k18), (0, .ref a12), (1, .int p1), (2, .int p2), (3, .int p3)]) hx hb dX12_dots_170 hl (by decide) rfl (fun ls hl => ?_)
                exact lp172 0 (by omega) (by omega) _ _ hP hD hS _ (lv_sub hl [1, 0, 2, 3, 4, 5, 6] rfl)
              have c77 := ci_ne c77
              refine lv_aload_n hx hb dX12_dots_131 rfl (lv_at hl 3 rfl) ?_
              refine va_get (D := D) (ci := 12) (v := .ref (r12 61)) (C := RX12) (T := TX12) (N := 63) hx hb hts w2 hown hK.1 hP 0 rfl rfl 61 (by decide) w3 (fun _ h9 => h9) rfl dX12_dots_132 ?_
              refine lv_iload hx hb dX12_dots_135 (lv_at hl 0 rfl) ?_
              refine va_lald hx hb hK.1 hP 6 2 rfl rfl (i := x42) (ix (by omega) (by omega)) dX12_dots_137 ?_
              refine lv_topl (fun x78 e79 => ?_)
              refine lv_l2i hx hb dX12_dots_138 rfl ?_
              refine lv_topi (fun x80 e81 => ?_)
              refine lv_aload_n hx hb dX12_dots_139 rfl (lv_at hl 3 rfl) ?_
              refine va_get (D := D) (ci := 12) (v := .ref (r12 61)) (C := RX12) (T := TX12) (N := 63) hx hb hts w2 hown hK.1 hP 0 rfl rfl 61 (by decide) w3 (fun _ h9 => h9) rfl dX12_dots_140 ?_
              refine lv_iload hx hb dX12_dots_143 (lv_at hl 0 rfl) ?_
              refine lv_iconst (v := 1) hx hb dX12_dots_145 (by decide) ?_
              refine lv_iadd hx hb dX12_dots_146 ?_
              refine lv_topi (fun x82 e83 => ?_)
              try have h84 : x82.toInt = x42.toInt + (1 : Int32).toInt := ci_add e83 (by omega) (by omega)
              refine va_lald hx hb hK.1 hP 6 2 rfl rfl (i := x82) (ix (by omega) (by omega)) dX12_dots_147 ?_
              refine lv_topl (fun x85 e86 => ?_)
              refine lv_l2i hx hb dX12_dots_148 rfl ?_
              refine lv_topi (fun x87 e88 => ?_)
              refine lv_aload_n hx hb dX12_dots_149 rfl (lv_at hl 3 rfl) ?_
              refine va_get (D := D) (ci := 12) (v := .ref (r12 61)) (C := RX12) (T := TX12) (N := 63) hx hb hts w2 hown hK.1 hP 0 rfl rfl 61 (by decide) w3 (fun _ h9 => h9) rfl dX12_dots_150 ?_
              refine lv_iload hx hb dX12_dots_153 (lv_at hl 0 rfl) ?_
              refine lv_iconst (v := 2) hx hb dX12_dots_155 (by decide) ?_
              refine lv_iadd hx hb dX12_dots_156 ?_
              refine lv_topi (fun x89 e90 => ?_)
              try have h91 : x89.toInt = x42.toInt + (2 : Int32).toInt := ci_add e90 (by omega) (by omega)
              refine va_lald hx hb hK.1 hP 6 2 rfl rfl (i := x89) (ix (by omega) (by omega)) dX12_dots_157 ?_
              refine lv_topl (fun x92 e93 => ?_)
              refine lv_l2i hx hb dX12_dots_158 rfl ?_
              refine lv_topi (fun x94 e95 => ?_)
              refine kcm_i hA hAB hP hD hS [false, false, false, false, false, false, false] rfl (fun _ => rfl) (fun hPc hDc => va_runS (As := [.int x80, .int x87, .int x94]) (rest := []) ⟨hx, hb, hml, hown, hts⟩ (k_X12_isDot l D κ β H.size x80 x87 x94) (va_cwS 3 hts gX12_dots_X12_isDot rfl rfl rfl (by decide +kernel) ⟨Nat.le_of_ble_eq_true rfl, Nat.le_of_ble_eq_true rfl⟩) (pk_S hK hS hAB hPc hDc) rfl rfl hl.1 rfl (lv_room (Nat.le_of_ble_eq_true rfl)) dX12_dots_159 ⟨Nat.le_of_ble_eq_true rfl, Nat.le_of_ble_eq_true rfl⟩) (fun x96 u97 H locs hw hPD hS => ?_)
              have h98 : (x96.toInt = 1 ∧ 0 ≤ x80.toInt ∧ x80.toInt ≤ 4 ∧ 0 ≤ x87.toInt ∧ x87.toInt ≤ 7 ∧ 0 ≤ x94.toInt ∧ x94.toInt ≤ 9999) ∨ (x96.toInt = 0 ∧ (x80.toInt < 0 ∨ 4 < x80.toInt ∨ x87.toInt < 0 ∨ 7 < x87.toInt ∨ x94.toInt < 0 ∨ 9999 < x94.toInt)) := hw
              obtain ⟨hP, hD⟩ : PD D A [O12 a12 r12 v12_keptMany v12_done v12_sheets v12_holes v12_worms v12_laidMany v12_wanted v12_orderMany v12_firstOrder v12_lines v12_marks v19 v12_madeIn v12_bound v12_places v12_maps v12_tapeMany v12_stories v12_base v12_at v12_ends v12_fault v12_opened v12_bodies v12_ran v12_ownKind v12_ownNumber, (cI κ (r12 0) 55 g20), (cI κ (r12 28) 41 g21), (cI κ (r12 29) 41 g22), (cI κ (r12 59) 6 f12_shelf), (cI κ (r12 60) 6 f12_many), (cJ κ (r12 61) 360 f12_items)] H := hPD
              refine lv_if_eq (tgt := 169) hx hb dX12_dots_162 (by decide) (fun c99 => ?_) (fun c99 => ?_)
              · have c99 := ci_eq c99
                refine lv_iconst (v := 0) hx hb dX12_dots_169 (by decide) ?_
                refine lv_istore (lv' := [(5, .int 0), (6, .int x42), (4, .int k18), (0, .ref a12), (1, .int p1), (2, .int p2), (3, .int p3)]) hx hb dX12_dots_170 hl (by decide) rfl (fun ls hl => ?_)
                exact lp172 0 (by omega) (by omega) _ _ hP hD hS _ (lv_sub hl [1, 0, 2, 3, 4, 5, 6] rfl)
              have c99 := ci_ne c99
              refine lv_iconst (v := 1) hx hb dX12_dots_165 (by decide) ?_
              refine lv_goto (tgt := 170) hx hb dX12_dots_166 (by decide) ?_
              refine lv_istore (lv' := [(5, .int 1), (6, .int x42), (4, .int k18), (0, .ref a12), (1, .int p1), (2, .int p2), (3, .int p3)]) hx hb dX12_dots_170 hl (by decide) rfl (fun ls hl => ?_)
              exact lp172 1 (by omega) (by omega) _ _ hP hD hS _ (lv_sub hl [1, 0, 2, 3, 4, 5, 6] rfl)
            refine lv_iload_n hx hb dX12_dots_80 rfl (lv_at hl 4 rfl) ?_
            refine lv_aload_n hx hb dX12_dots_81 rfl (lv_at hl 2 rfl) ?_
            refine va_get (D := D) (ci := 12) (v := .ref (r12 60)) (C := RX12) (T := TX12) (N := 63) hx hb hts w2 hown hK.1 hP 0 rfl rfl 60 (by decide) w4 (fun _ h9 => h9) rfl dX12_dots_82 ?_
            refine lv_iload_n hx hb dX12_dots_85 rfl (lv_at hl 3 rfl) ?_
            refine va_iald hx hb hK.1 hP 5 1 rfl rfl (i := p1) (ix (by omega) (by omega)) dX12_dots_86 ?_
            refine lv_topi (fun x100 e101 => ?_)
            have h102 : 0 ≤ x100.toInt ∧ x100.toInt ≤ 60 := by rw [e101]; exact hf12_many _
            refine lv_iconst (v := 3) hx hb dX12_dots_87 (by decide) ?_
            refine lv_isub hx hb dX12_dots_88 ?_
            refine lv_topi (fun x103 e104 => ?_)
            try have h105 : x103.toInt = x100.toInt - (3 : Int32).toInt := ci_sub e104 (by omega) (by omega)
            refine lv_iconst (v := 3) hx hb dX12_dots_89 (by decide) ?_
            refine lv_iload hx hb dX12_dots_90 (lv_at hl 1 rfl) ?_
            refine lv_imul hx hb dX12_dots_92 ?_
            refine lv_topi (fun x106 e107 => ?_)
            try have h108 : x106.toInt = 3 * k18.toInt := ci_mulL (n := 3) (by decide) e107 (by omega) (by omega)
            refine lv_isub hx hb dX12_dots_93 ?_
            refine lv_topi (fun x109 e110 => ?_)
            try have h111 : x109.toInt = x103.toInt - x106.toInt := ci_sub e110 (by omega) (by omega)
            refine lv_icmp_gt (tgt := 110) hx hb dX12_dots_94 (by decide) (fun c112 => ?_) (fun c112 => ?_)
            · have c112 := ci_lt c112
              refine lv_iconst (v := 0) hx hb dX12_dots_110 (by decide) ?_
              refine lv_istore (lv' := [(5, .int 0), (4, .int k18), (0, .ref a12), (1, .int p1), (2, .int p2), (3, .int p3)]) hx hb dX12_dots_111 hl (by decide) rfl (fun ls hl => ?_)
              exact lp113 0 (by omega) (by omega) _ _ hP hD hS _ hl
            have c112 := ci_nlt c112
            refine lv_aload_n hx hb dX12_dots_97 rfl (lv_at hl 2 rfl) ?_
            refine va_get (D := D) (ci := 12) (v := .int v19) (C := RX12) (T := TX12) (N := 63) hx hb hts w2 hown hK.1 hP 0 rfl rfl 27 (by decide) w5 (fun _ h9 => h9) rfl dX12_dots_98 ?_
            refine lv_bipush (v := 40) hx hb dX12_dots_101 (by decide) ?_
            refine lv_icmp_ge (tgt := 110) hx hb dX12_dots_103 (by decide) (fun c113 => ?_) (fun c113 => ?_)
            · have c113 := ci_le c113
              refine lv_iconst (v := 0) hx hb dX12_dots_110 (by decide) ?_
              refine lv_istore (lv' := [(5, .int 0), (4, .int k18), (0, .ref a12), (1, .int p1), (2, .int p2), (3, .int p3)]) hx hb dX12_dots_111 hl (by decide) rfl (fun ls hl => ?_)
              exact lp113 0 (by omega) (by omega) _ _ hP hD hS _ hl
            have c113 := ci_nle c113
            refine lv_iconst (v := 1) hx hb dX12_dots_106 (by decide) ?_
            refine lv_goto (tgt := 111) hx hb dX12_dots_107 (by decide) ?_
            refine lv_istore (lv' := [(5, .int 1), (4, .int k18), (0, .ref a12), (1, .int p1), (2, .int p2), (3, .int p3)]) hx hb dX12_dots_111 hl (by decide) rfl (fun ls hl => ?_)
            exact lp113 1 (by omega) (by omega) _ _ hP hD hS _ hl
        exact lp69 ((p3.toInt - (0 : Int32).toInt + k14.toInt).toNat + 1) k14 0 v12_dots f12_may f12_houseOf f12_inkOf i10 (by omega) (by omega) (by omega) (by omega) _ _ hP hD hS _ hl
      refine lv_aload_n hx hb dX12_dots_47 rfl (lv_at hl 1 rfl) ?_
      refine va_get (D := D) (ci := 12) (v := .ref (r12 59)) (C := RX12) (T := TX12) (N := 63) hx hb hts w2 hown hK.1 hP 0 rfl rfl 59 (by decide) w1 (fun _ h9 => h9) rfl dX12_dots_48 ?_
      refine lv_iload_n hx hb dX12_dots_51 rfl (lv_at hl 2 rfl) ?_
      refine va_iald hx hb hK.1 hP 4 1 rfl rfl (i := p1) (ix (by omega) (by omega)) dX12_dots_52 ?_
      refine lv_topi (fun x114 e115 => ?_)
      refine lv_bipush (v := 51) hx hb dX12_dots_53 (by decide) ?_
      refine lv_icmp_ne (tgt := 66) hx hb dX12_dots_55 (by decide) (fun c116 => ?_) (fun c116 => ?_)
      · have c116 := ci_ne c116
        refine lv_iconst (v := 0) hx hb dX12_dots_66 (by decide) ?_
        exact lp67 0 (by omega) (by omega) _ _ hP hD hS _ hl
      have c116 := ci_eq c116
      refine lv_iload_n hx hb dX12_dots_58 rfl (lv_at hl 3 rfl) ?_
      refine lv_if_lt (tgt := 66) hx hb dX12_dots_59 (by decide) (fun c117 => ?_) (fun c117 => ?_)
      · have c117 := ci_lt c117
        refine lv_iconst (v := 0) hx hb dX12_dots_66 (by decide) ?_
        exact lp67 0 (by omega) (by omega) _ _ hP hD hS _ hl
      have c117 := ci_nlt c117
      refine lv_iconst (v := 1) hx hb dX12_dots_62 (by decide) ?_
      refine lv_goto (tgt := 67) hx hb dX12_dots_63 (by decide) ?_
      exact lp67 1 (by omega) (by omega) _ _ hP hD hS _ hl
    refine lv_if_lt (tgt := 44) hx hb dX12_dots_27 (by decide) (fun c118 => ?_) (fun c118 => ?_)
    · have c118 := ci_lt c118
      exact lp44 _ _ hP hD hS _ hl
    have c118 := ci_nlt c118
    refine lv_aload_n hx hb dX12_dots_30 rfl (lv_at hl 0 rfl) ?_
    refine va_get (D := D) (ci := 12) (v := .ref (r12 59)) (C := RX12) (T := TX12) (N := 63) hx hb hts w2 hown hK.1 hP 0 rfl rfl 59 (by decide) w1 (fun _ h9 => h9) rfl dX12_dots_31 ?_
    refine lv_iload_n hx hb dX12_dots_34 rfl (lv_at hl 1 rfl) ?_
    refine va_iald hx hb hK.1 hP 4 1 rfl rfl (i := p1) (ix (by omega) (by omega)) dX12_dots_35 ?_
    refine lv_topi (fun x119 e120 => ?_)
    refine lv_bipush (v := 51) hx hb dX12_dots_36 (by decide) ?_
    refine lv_icmp_eq (tgt := 44) hx hb dX12_dots_38 (by decide) (fun c121 => ?_) (fun c121 => ?_)
    · have c121 := ci_eq c121
      exact lp44 _ _ hP hD hS _ hl
    have c121 := ci_ne c121
    refine lv_bipush (v := (-12)) hx hb dX12_dots_41 (by decide) ?_
    have hpo : 0 ≤ v12_dots.toInt ∧ v12_dots.toInt ≤ 40 := i10
    exact ret _ _ _ _ (-12) (v12_dots, f12_may, f12_houseOf, f12_inkOf) dX12_dots_43 hpo hP hD hS
  have c11 := ci_eq c11
  refine lv_iconst (v := (-1)) hx hb dX12_dots_19 (by decide) ?_
  have hpo : 0 ≤ v12_dots.toInt ∧ v12_dots.toInt ≤ 40 := i10
  exact ret _ _ _ _ (-1) (v12_dots, f12_may, f12_houseOf, f12_inkOf) dX12_dots_20 hpo hP hD hS
set_option maxHeartbeats 4000000 in
set_option maxRecDepth 100000 in
theorem k_X12_row (l : Launch) (D : va_G) (κ : Nat → ClassId) (β : Nat) (a12 : Nat) (r12 : Nat → Nat) (v12_keptMany : Int32) (v12_done : Int32) (v12_sheets : Int32) (v12_holes : Int32) (v12_worms : Int32) (v12_laidMany : Int32) (v12_wanted : Int32) (v12_orderMany : Int32) (v12_firstOrder : Int32) (v12_lines : Int32) (v12_marks : Int32) (v12_dots : Int32) (v12_madeIn : Int32) (v12_bound : Int32) (v12_places : Int32) (v12_maps : Int32) (v12_tapeMany : Int32) (v12_stories : Int32) (v12_base : Int32) (v12_at : Int32) (v12_ends : Int32) (v12_fault : Int32) (v12_opened : Int32) (v12_bodies : Int32) (v12_ran : Int32) (v12_ownKind : Int32) (v12_ownNumber : Int32) (f12_shelf : Nat → Int32) (f12_many : Nat → Int32) (f12_items : Nat → Int64) (sz : Nat) (p1 : Int32) (p2 : Int32) (p3 : Int32) (i1 : Rg 0 40 v12_keptMany) (i2 : Rg 0 40 v12_done) (i3 : Rg 0 8 v12_sheets) (i4 : Rg 0 40 v12_holes) (i5 : Rg 0 40 v12_worms) (i6 : Rg 0 8 v12_laidMany) (i7 : Rg 0 8 v12_wanted) (i8 : Rg 0 20 v12_lines) (i9 : Rg 0 60 v12_marks) (i10 : Rg 0 40 v12_dots) (i11 : Rg 0 20 v12_places) (i12 : Rg 0 8 v12_maps) (i13 : Rg 0 120 v12_tapeMany) (i14 : Rg 0 6 v12_stories) (i15 : Rg 0 50 v12_bodies) (i16 : Rg 0 1000 v12_ran) (hf12_many : ∀ j : Nat, 0 ≤ (f12_many j).toInt ∧ (f12_many j).toInt ≤ 60) (i17 : v12_done.toInt ≤ v12_keptMany.toInt) : Met l yX12_row wsX12_row ({ frames := 2, cells := 0, slots := 0, locals := 45 } : Room) (PcK D κ β [O12 a12 r12 v12_keptMany v12_done v12_sheets v12_holes v12_worms v12_laidMany v12_wanted v12_orderMany v12_firstOrder v12_lines v12_marks v12_dots v12_madeIn v12_bound v12_places v12_maps v12_tapeMany v12_stories v12_base v12_at v12_ends v12_fault v12_opened v12_bodies v12_ran v12_ownKind v12_ownNumber, (cI κ (r12 59) 6 f12_shelf), (cI κ (r12 60) 6 f12_many), (cJ κ (r12 61) 360 f12_items)] sz [.ref a12, .int p1, .int p2, .int p3]) (QiK D (fun (r : Int32) (u : (Nat → Int32) × (Nat → Int32) × (Nat → Int64)) => (∀ j : Nat, 0 ≤ (u.2.1 j).toInt ∧ (u.2.1 j).toInt ≤ 60) ∧ ((¬ (0 ≤ p1.toInt ∧ p1.toInt ≤ 5 ∧ 0 ≤ p2.toInt ∧ p2.toInt ≤ 4 ∧ p3.toInt ≤ 60) ∧ r.toInt = -1) ∨ ((0 ≤ p1.toInt ∧ p1.toInt ≤ 5 ∧ 0 ≤ p2.toInt ∧ p2.toInt ≤ 4 ∧ p3.toInt ≤ 60) ∧ p3.toInt < 0 ∧ r.toInt = -14) ∨ ((0 ≤ p1.toInt ∧ p1.toInt ≤ 5 ∧ 0 ≤ p2.toInt ∧ p2.toInt ≤ 4 ∧ p3.toInt ≤ 60) ∧ 0 ≤ p3.toInt ∧ r.toInt = 1))) (fun (u : (Nat → Int32) × (Nat → Int32) × (Nat → Int64)) => [O12 a12 r12 v12_keptMany v12_done v12_sheets v12_holes v12_worms v12_laidMany v12_wanted v12_orderMany v12_firstOrder v12_lines v12_marks v12_dots v12_madeIn v12_bound v12_places v12_maps v12_tapeMany v12_stories v12_base v12_at v12_ends v12_fault v12_opened v12_bodies v12_ran v12_ownKind v12_ownNumber, (cI κ (r12 59) 6 u.1), (cI κ (r12 60) 6 u.2.1), (cJ κ (r12 61) 360 u.2.2)]) [O12 a12 r12 v12_keptMany v12_done v12_sheets v12_holes v12_worms v12_laidMany v12_wanted v12_orderMany v12_firstOrder v12_lines v12_marks v12_dots v12_madeIn v12_bound v12_places v12_maps v12_tapeMany v12_stories v12_base v12_at v12_ends v12_fault v12_opened v12_bodies v12_ran v12_ownKind v12_ownNumber, (cI κ (r12 59) 6 f12_shelf), (cI κ (r12 60) 6 f12_many), (cJ κ (r12 61) 360 f12_items)] sz) 0 0 (va_A [O12 a12 r12 v12_keptMany v12_done v12_sheets v12_holes v12_worms v12_laidMany v12_wanted v12_orderMany v12_firstOrder v12_lines v12_marks v12_dots v12_madeIn v12_bound v12_places v12_maps v12_tapeMany v12_stories v12_base v12_at v12_ends v12_fault v12_opened v12_bodies v12_ran v12_ownKind v12_ownNumber, (cI κ (r12 59) 6 f12_shelf), (cI κ (r12 60) 6 f12_many), (cJ κ (r12 61) 360 f12_items)] sz) := by
  refine ofK_i (cc := cX12_row) (maxL := 5) (own := RX12) (by decide) rfl rfl (Nat.le_of_ble_eq_true rfl) ?_
  intro p e s m args below meth c Q A ls hsz hx hb hml hts hown hK hA hAB hP hD hl ret
  have hS : va_S A s.heap s.heap [] := va_S.rf
  have hl : lv_has ls 5 [(0, .ref a12), (1, .int p1), (2, .int p2), (3, .int p3)] := hl
  have w0 := hts (.constantLong RX12 221 (4)) (List.mem_of_getElem? (i := 1) rfl)
  have w1 := hts (.fieldLink RX12 107 "OlderSkinModel" "shelf" "[I") (List.mem_of_getElem? (i := 2) rfl)
  have w2 := (fun w h => List.mem_cons_of_mem _ (List.mem_append_right _ h) : ∀ w ∈ u_ws RX12 TX12 63, w ∈ wsX12_row)
  have w3 := hts (.fieldLink RX12 110 "OlderSkinModel" "many" "[I") (List.mem_of_getElem? (i := 3) rfl)
  have w4 := hts (.fieldLink RX12 113 "OlderSkinModel" "items" "[J") (List.mem_of_getElem? (i := 4) rfl)
  have l0 : (0 : Int32).toInt = 0 := by decide
  have l1 : ((-1) : Int32).toInt = -1 := by decide
  have l2 : (0 : Int64).toInt = 0 := by decide
  have l3 : (4 : Int64).toInt = 4 := by decide
  have l4 : (60 : Int32).toInt = 60 := by decide
  have l5 : (50 : Int32).toInt = 50 := by decide
  have l6 : (1 : Int32).toInt = 1 := by decide
  have l7 : ((-14) : Int32).toInt = -14 := by decide
  refine lv_iload_n hx hb dX12_row_0 rfl (lv_at hl 1 rfl) ?_
  refine kcm_i hA hAB hP hD hS [false, false, false, false] rfl (fun _ => rfl) (fun hPc hDc => va_runS (As := [.int p1]) (rest := []) ⟨hx, hb, hml, hown, hts⟩ (k_X12_isShelf l D κ β s.heap.size p1) (va_cwS 1 hts gX12_row_X12_isShelf rfl rfl rfl (by decide +kernel) ⟨Nat.le_of_ble_eq_true rfl, Nat.le_of_ble_eq_true rfl⟩) (pk_S hK hS hAB hPc hDc) rfl rfl hl.1 rfl (lv_room (Nat.le_of_ble_eq_true rfl)) dX12_row_1 ⟨Nat.le_of_ble_eq_true rfl, Nat.le_of_ble_eq_true rfl⟩) (fun x1 u2 H locs hw hPD hS => ?_)
  have h3 : (x1.toInt = 1 ∧ 0 ≤ p1.toInt ∧ p1.toInt ≤ 5) ∨ (x1.toInt = 0 ∧ (p1.toInt < 0 ∨ 5 < p1.toInt)) := hw
  obtain ⟨hP, hD⟩ : PD D A [O12 a12 r12 v12_keptMany v12_done v12_sheets v12_holes v12_worms v12_laidMany v12_wanted v12_orderMany v12_firstOrder v12_lines v12_marks v12_dots v12_madeIn v12_bound v12_places v12_maps v12_tapeMany v12_stories v12_base v12_at v12_ends v12_fault v12_opened v12_bodies v12_ran v12_ownKind v12_ownNumber, (cI κ (r12 59) 6 f12_shelf), (cI κ (r12 60) 6 f12_many), (cJ κ (r12 61) 360 f12_items)] H := hPD
  refine lv_if_eq (tgt := 25) hx hb dX12_row_4 (by decide) (fun c4 => ?_) (fun c4 => ?_)
  · have c4 := ci_eq c4
    refine lv_iconst (v := (-1)) hx hb dX12_row_25 (by decide) ?_
    have hpo : (∀ j : Nat, 0 ≤ (f12_many j).toInt ∧ (f12_many j).toInt ≤ 60) ∧ ((¬ (0 ≤ p1.toInt ∧ p1.toInt ≤ 5 ∧ 0 ≤ p2.toInt ∧ p2.toInt ≤ 4 ∧ p3.toInt ≤ 60) ∧ ((-1) : Int32).toInt = -1) ∨ ((0 ≤ p1.toInt ∧ p1.toInt ≤ 5 ∧ 0 ≤ p2.toInt ∧ p2.toInt ≤ 4 ∧ p3.toInt ≤ 60) ∧ p3.toInt < 0 ∧ ((-1) : Int32).toInt = -14) ∨ ((0 ≤ p1.toInt ∧ p1.toInt ≤ 5 ∧ 0 ≤ p2.toInt ∧ p2.toInt ≤ 4 ∧ p3.toInt ≤ 60) ∧ 0 ≤ p3.toInt ∧ ((-1) : Int32).toInt = 1)) := ⟨hf12_many, (by omega)⟩
    exact ret _ _ _ _ (-1) (f12_shelf, f12_many, f12_items) dX12_row_26 hpo hP hD hS
  have c4 := ci_ne c4
  refine lv_iload_n hx hb dX12_row_7 rfl (lv_at hl 2 rfl) ?_
  refine lv_i2l hx hb dX12_row_8 rfl ?_
  refine lv_topl (fun x5 e6 => ?_)
  have h7 : x5.toInt = p2.toInt := cl_i2l e6
  refine lv_lconst (v := (0 : Int64)) hx hb dX12_row_9 (by decide) ?_
  refine lv_ldc2 (v := (4 : Int64)) hx hb hown w0 dX12_row_10 ?_
  refine kcm_i hA hAB hP hD hS [false, false, false, false] rfl (fun _ => rfl) (fun hPc hDc => va_runS (As := [.long x5, .long (0 : Int64), .long (4 : Int64)]) (rest := []) ⟨hx, hb, hml, hown, hts⟩ (k_X12_within l D κ β H.size x5 (0 : Int64) (4 : Int64)) (va_cwS 3 hts gX12_row_X12_within rfl rfl rfl (by decide +kernel) ⟨Nat.le_of_ble_eq_true rfl, Nat.le_of_ble_eq_true rfl⟩) (pk_S hK hS hAB hPc hDc) rfl rfl hl.1 rfl (lv_room (Nat.le_of_ble_eq_true rfl)) dX12_row_13 ⟨Nat.le_of_ble_eq_true rfl, Nat.le_of_ble_eq_true rfl⟩) (fun x8 u9 H locs hw hPD hS => ?_)
  have h10 : (x8.toInt = 1 ∧ (0 : Int64).toInt ≤ x5.toInt ∧ x5.toInt ≤ (4 : Int64).toInt) ∨ (x8.toInt = 0 ∧ (x5.toInt < (0 : Int64).toInt ∨ (4 : Int64).toInt < x5.toInt)) := hw
  obtain ⟨hP, hD⟩ : PD D A [O12 a12 r12 v12_keptMany v12_done v12_sheets v12_holes v12_worms v12_laidMany v12_wanted v12_orderMany v12_firstOrder v12_lines v12_marks v12_dots v12_madeIn v12_bound v12_places v12_maps v12_tapeMany v12_stories v12_base v12_at v12_ends v12_fault v12_opened v12_bodies v12_ran v12_ownKind v12_ownNumber, (cI κ (r12 59) 6 f12_shelf), (cI κ (r12 60) 6 f12_many), (cJ κ (r12 61) 360 f12_items)] H := hPD
  refine lv_if_eq (tgt := 25) hx hb dX12_row_16 (by decide) (fun c11 => ?_) (fun c11 => ?_)
  · have c11 := ci_eq c11
    refine lv_iconst (v := (-1)) hx hb dX12_row_25 (by decide) ?_
    have hpo : (∀ j : Nat, 0 ≤ (f12_many j).toInt ∧ (f12_many j).toInt ≤ 60) ∧ ((¬ (0 ≤ p1.toInt ∧ p1.toInt ≤ 5 ∧ 0 ≤ p2.toInt ∧ p2.toInt ≤ 4 ∧ p3.toInt ≤ 60) ∧ ((-1) : Int32).toInt = -1) ∨ ((0 ≤ p1.toInt ∧ p1.toInt ≤ 5 ∧ 0 ≤ p2.toInt ∧ p2.toInt ≤ 4 ∧ p3.toInt ≤ 60) ∧ p3.toInt < 0 ∧ ((-1) : Int32).toInt = -14) ∨ ((0 ≤ p1.toInt ∧ p1.toInt ≤ 5 ∧ 0 ≤ p2.toInt ∧ p2.toInt ≤ 4 ∧ p3.toInt ≤ 60) ∧ 0 ≤ p3.toInt ∧ ((-1) : Int32).toInt = 1)) := ⟨hf12_many, (by omega)⟩
    exact ret _ _ _ _ (-1) (f12_shelf, f12_many, f12_items) dX12_row_26 hpo hP hD hS
  have c11 := ci_ne c11
  refine lv_iload_n hx hb dX12_row_19 rfl (lv_at hl 3 rfl) ?_
  refine lv_bipush (v := 60) hx hb dX12_row_20 (by decide) ?_
  refine lv_icmp_le (tgt := 27) hx hb dX12_row_22 (by decide) (fun c12 => ?_) (fun c12 => ?_)
  · have c12 := ci_le c12
    refine lv_iload_n hx hb dX12_row_27 rfl (lv_at hl 3 rfl) ?_
    refine lv_if_ge (tgt := 34) hx hb dX12_row_28 (by decide) (fun c13 => ?_) (fun c13 => ?_)
    · have c13 := ci_le c13
      refine lv_aload_n hx hb dX12_row_34 rfl (lv_at hl 0 rfl) ?_
      refine va_get (D := D) (ci := 12) (v := .ref (r12 59)) (C := RX12) (T := TX12) (N := 63) hx hb hts w2 hown hK.1 hP 0 rfl rfl 59 (by decide) w1 (fun _ h9 => h9) rfl dX12_row_35 ?_
      refine lv_iload_n hx hb dX12_row_38 rfl (lv_at hl 1 rfl) ?_
      refine lv_bipush (v := 50) hx hb dX12_row_39 (by decide) ?_
      refine lv_iload_n hx hb dX12_row_41 rfl (lv_at hl 2 rfl) ?_
      refine lv_iadd hx hb dX12_row_42 ?_
      refine lv_topi (fun x14 e15 => ?_)
      try have h16 : x14.toInt = (50 : Int32).toInt + p2.toInt := ci_add e15 (by omega) (by omega)
      refine va_iast hx hb hK.1 hP hD hS 1 1 rfl rfl (i := p1) (ix (by omega) (by omega)) dX12_row_43 (fun H locs hP hD hS => ?_)
      obtain ⟨g17, e18⟩ : ∃ y : Nat → Int32, y = upd f12_shelf p1.toNatClampNeg x14 := ⟨_, rfl⟩
      rw [← e18] at hP hD
      obtain ⟨hP, hD⟩ : PD D A [O12 a12 r12 v12_keptMany v12_done v12_sheets v12_holes v12_worms v12_laidMany v12_wanted v12_orderMany v12_firstOrder v12_lines v12_marks v12_dots v12_madeIn v12_bound v12_places v12_maps v12_tapeMany v12_stories v12_base v12_at v12_ends v12_fault v12_opened v12_bodies v12_ran v12_ownKind v12_ownNumber, (cI κ (r12 59) 6 g17), (cI κ (r12 60) 6 f12_many), (cJ κ (r12 61) 360 f12_items)] H := ⟨hP, hD⟩
      refine lv_aload_n hx hb dX12_row_44 rfl (lv_at hl 0 rfl) ?_
      refine va_get (D := D) (ci := 12) (v := .ref (r12 60)) (C := RX12) (T := TX12) (N := 63) hx hb hts w2 hown hK.1 hP 0 rfl rfl 60 (by decide) w3 (fun _ h9 => h9) rfl dX12_row_45 ?_
      refine lv_iload_n hx hb dX12_row_48 rfl (lv_at hl 1 rfl) ?_
      refine lv_iload_n hx hb dX12_row_49 rfl (lv_at hl 3 rfl) ?_
      refine va_iast hx hb hK.1 hP hD hS 2 1 rfl rfl (i := p1) (ix (by omega) (by omega)) dX12_row_50 (fun H locs hP hD hS => ?_)
      obtain ⟨g19, e20⟩ : ∃ y : Nat → Int32, y = upd f12_many p1.toNatClampNeg p3 := ⟨_, rfl⟩
      rw [← e20] at hP hD
      obtain ⟨hP, hD⟩ : PD D A [O12 a12 r12 v12_keptMany v12_done v12_sheets v12_holes v12_worms v12_laidMany v12_wanted v12_orderMany v12_firstOrder v12_lines v12_marks v12_dots v12_madeIn v12_bound v12_places v12_maps v12_tapeMany v12_stories v12_base v12_at v12_ends v12_fault v12_opened v12_bodies v12_ran v12_ownKind v12_ownNumber, (cI κ (r12 59) 6 g17), (cI κ (r12 60) 6 g19), (cJ κ (r12 61) 360 f12_items)] H := ⟨hP, hD⟩
      have h21 : ∀ j : Nat, 0 ≤ (g19 j).toInt ∧ (g19 j).toInt ≤ 60 := by rw [e20]; exact all_upd (P := fun z => 0 ≤ z.toInt ∧ z.toInt ≤ 60) hf12_many (by omega)
      refine lv_bipush (v := 60) hx hb dX12_row_51 (by decide) ?_
      refine lv_iload_n hx hb dX12_row_53 rfl (lv_at hl 1 rfl) ?_
      refine lv_imul hx hb dX12_row_54 ?_
      refine lv_topi (fun x22 e23 => ?_)
      try have h24 : x22.toInt = 60 * p1.toInt := ci_mulL (n := 60) (by decide) e23 (by omega) (by omega)
      refine lv_istore (lv' := [(4, .int x22), (0, .ref a12), (1, .int p1), (2, .int p2), (3, .int p3)]) hx hb dX12_row_55 hl (by decide) rfl (fun ls hl => ?_)
      have lp57 : ∀ (n57 : Nat) (k25 : Int32) (g26 : Nat → Int64), (0 ≤ k25.toInt) → (60 * p1.toInt + 60 - k25.toInt).toNat < n57 → ∀ (H : Heap) (locs : List Loc), va_P D vwCl [O12 a12 r12 v12_keptMany v12_done v12_sheets v12_holes v12_worms v12_laidMany v12_wanted v12_orderMany v12_firstOrder v12_lines v12_marks v12_dots v12_madeIn v12_bound v12_places v12_maps v12_tapeMany v12_stories v12_base v12_at v12_ends v12_fault v12_opened v12_bodies v12_ran v12_ownKind v12_ownNumber, (cI κ (r12 59) 6 g17), (cI κ (r12 60) 6 g19), (cJ κ (r12 61) 360 g26)] H → va_D A [O12 a12 r12 v12_keptMany v12_done v12_sheets v12_holes v12_worms v12_laidMany v12_wanted v12_orderMany v12_firstOrder v12_lines v12_marks v12_dots v12_madeIn v12_bound v12_places v12_maps v12_tapeMany v12_stories v12_base v12_at v12_ends v12_fault v12_opened v12_bodies v12_ran v12_ownKind v12_ownNumber, (cI κ (r12 59) 6 g17), (cI κ (r12 60) 6 g19), (cJ κ (r12 61) 360 g26)] → va_S A s.heap H locs → ∀ ls : Array Slot, lv_has ls 5 [(4, .int k25), (0, .ref a12), (1, .int p1), (2, .int p2), (3, .int p3)] → W p l e ({ frames := 2, cells := 0, slots := 0, locals := 45 } : Room) s m args below meth c H locs 0 0 Q (F0 m 57 ls []) := by
        intro n57
        induction n57 with
        | zero =>
          intro k25 g26 h27 m28
          exact absurd m28 (Nat.not_lt_zero _)
        | succ n57 ih57 =>
          intro k25 g26 h27 m28 H locs hP hD hS ls hl
          refine lv_iload hx hb dX12_row_57 (lv_at hl 0 rfl) ?_
          refine lv_bipush (v := 60) hx hb dX12_row_59 (by decide) ?_
          refine lv_iload_n hx hb dX12_row_61 rfl (lv_at hl 2 rfl) ?_
          refine lv_imul hx hb dX12_row_62 ?_
          refine lv_topi (fun x29 e30 => ?_)
          try have h31 : x29.toInt = 60 * p1.toInt := ci_mulL (n := 60) (by decide) e30 (by omega) (by omega)
          refine lv_bipush (v := 60) hx hb dX12_row_63 (by decide) ?_
          refine lv_iadd hx hb dX12_row_65 ?_
          refine lv_topi (fun x32 e33 => ?_)
          try have h34 : x32.toInt = x29.toInt + (60 : Int32).toInt := ci_add e33 (by omega) (by omega)
          refine lv_icmp_ge (tgt := 83) hx hb dX12_row_66 (by decide) (fun c35 => ?_) (fun c35 => ?_)
          · have c35 := ci_le c35
            refine lv_iconst (v := 1) hx hb dX12_row_83 (by decide) ?_
            have hpo : (∀ j : Nat, 0 ≤ (g19 j).toInt ∧ (g19 j).toInt ≤ 60) ∧ ((¬ (0 ≤ p1.toInt ∧ p1.toInt ≤ 5 ∧ 0 ≤ p2.toInt ∧ p2.toInt ≤ 4 ∧ p3.toInt ≤ 60) ∧ (1 : Int32).toInt = -1) ∨ ((0 ≤ p1.toInt ∧ p1.toInt ≤ 5 ∧ 0 ≤ p2.toInt ∧ p2.toInt ≤ 4 ∧ p3.toInt ≤ 60) ∧ p3.toInt < 0 ∧ (1 : Int32).toInt = -14) ∨ ((0 ≤ p1.toInt ∧ p1.toInt ≤ 5 ∧ 0 ≤ p2.toInt ∧ p2.toInt ≤ 4 ∧ p3.toInt ≤ 60) ∧ 0 ≤ p3.toInt ∧ (1 : Int32).toInt = 1)) := ⟨h21, (by omega)⟩
            exact ret _ _ _ _ 1 (g17, g19, g26) dX12_row_84 hpo hP hD hS
          have c35 := ci_nle c35
          refine lv_aload_n hx hb dX12_row_69 rfl (lv_at hl 1 rfl) ?_
          refine va_get (D := D) (ci := 12) (v := .ref (r12 61)) (C := RX12) (T := TX12) (N := 63) hx hb hts w2 hown hK.1 hP 0 rfl rfl 61 (by decide) w4 (fun _ h9 => h9) rfl dX12_row_70 ?_
          refine lv_iload hx hb dX12_row_73 (lv_at hl 0 rfl) ?_
          refine lv_lconst (v := (0 : Int64)) hx hb dX12_row_75 (by decide) ?_
          refine va_last hx hb hK.1 hP hD hS 3 2 rfl rfl (i := k25) (ix (by omega) (by omega)) dX12_row_76 (fun H locs hP hD hS => ?_)
          obtain ⟨g36, e37⟩ : ∃ y : Nat → Int64, y = vp_updL g26 k25.toNatClampNeg (0 : Int64) := ⟨_, rfl⟩
          rw [← e37] at hP hD
          obtain ⟨hP, hD⟩ : PD D A [O12 a12 r12 v12_keptMany v12_done v12_sheets v12_holes v12_worms v12_laidMany v12_wanted v12_orderMany v12_firstOrder v12_lines v12_marks v12_dots v12_madeIn v12_bound v12_places v12_maps v12_tapeMany v12_stories v12_base v12_at v12_ends v12_fault v12_opened v12_bodies v12_ran v12_ownKind v12_ownNumber, (cI κ (r12 59) 6 g17), (cI κ (r12 60) 6 g19), (cJ κ (r12 61) 360 g36)] H := ⟨hP, hD⟩
          obtain ⟨x38, e39⟩ : ∃ y : Int32, y = k25 + 1 := ⟨_, rfl⟩
          refine lv_iinc (v := x38) (lv' := [(4, .int x38), (0, .ref a12), (1, .int p1), (2, .int p2), (3, .int p3)]) hx hb dX12_row_77 hl (k := 0) rfl (by rw [e39]; rfl) (by decide) rfl (fun ls hl => ?_)
          try have h40 : x38.toInt = k25.toInt + (1 : Int32).toInt := ci_add e39 (by omega) (by omega)
          refine lv_goto (tgt := 57) hx hb dX12_row_80 (by decide) ?_
          exact ih57 x38 g36 (by omega) (by omega) _ _ hP hD hS _ hl
      exact lp57 ((60 * p1.toInt + 60 - x22.toInt).toNat + 1) x22 f12_items (by omega) (by omega) _ _ hP hD hS _ hl
    have c13 := ci_nle c13
    refine lv_bipush (v := (-14)) hx hb dX12_row_31 (by decide) ?_
    have hpo : (∀ j : Nat, 0 ≤ (f12_many j).toInt ∧ (f12_many j).toInt ≤ 60) ∧ ((¬ (0 ≤ p1.toInt ∧ p1.toInt ≤ 5 ∧ 0 ≤ p2.toInt ∧ p2.toInt ≤ 4 ∧ p3.toInt ≤ 60) ∧ ((-14) : Int32).toInt = -1) ∨ ((0 ≤ p1.toInt ∧ p1.toInt ≤ 5 ∧ 0 ≤ p2.toInt ∧ p2.toInt ≤ 4 ∧ p3.toInt ≤ 60) ∧ p3.toInt < 0 ∧ ((-14) : Int32).toInt = -14) ∨ ((0 ≤ p1.toInt ∧ p1.toInt ≤ 5 ∧ 0 ≤ p2.toInt ∧ p2.toInt ≤ 4 ∧ p3.toInt ≤ 60) ∧ 0 ≤ p3.toInt ∧ ((-14) : Int32).toInt = 1)) := ⟨hf12_many, (by omega)⟩
    exact ret _ _ _ _ (-14) (f12_shelf, f12_many, f12_items) dX12_row_33 hpo hP hD hS
  have c12 := ci_nle c12
  refine lv_iconst (v := (-1)) hx hb dX12_row_25 (by decide) ?_
  have hpo : (∀ j : Nat, 0 ≤ (f12_many j).toInt ∧ (f12_many j).toInt ≤ 60) ∧ ((¬ (0 ≤ p1.toInt ∧ p1.toInt ≤ 5 ∧ 0 ≤ p2.toInt ∧ p2.toInt ≤ 4 ∧ p3.toInt ≤ 60) ∧ ((-1) : Int32).toInt = -1) ∨ ((0 ≤ p1.toInt ∧ p1.toInt ≤ 5 ∧ 0 ≤ p2.toInt ∧ p2.toInt ≤ 4 ∧ p3.toInt ≤ 60) ∧ p3.toInt < 0 ∧ ((-1) : Int32).toInt = -14) ∨ ((0 ≤ p1.toInt ∧ p1.toInt ≤ 5 ∧ 0 ≤ p2.toInt ∧ p2.toInt ≤ 4 ∧ p3.toInt ≤ 60) ∧ 0 ≤ p3.toInt ∧ ((-1) : Int32).toInt = 1)) := ⟨hf12_many, (by omega)⟩
  exact ret _ _ _ _ (-1) (f12_shelf, f12_many, f12_items) dX12_row_26 hpo hP hD hS
set_option maxHeartbeats 4000000 in
set_option maxRecDepth 100000 in
theorem k_X12_above (l : Launch) (D : va_G) (κ : Nat → ClassId) (β : Nat) (sz : Nat) (p1 : Int32) : Met l yX12_above wsX12_above ({ frames := 0, cells := 0, slots := 0, locals := 0 } : Room) (PcK D κ β [] sz [.int p1]) (QiK D (fun (r : Int32) (u : Unit) => (p1.toInt = 3 ∧ r.toInt = 1) ∨ (p1.toInt = 4 ∧ r.toInt = 2) ∨ (p1.toInt = 7 ∧ r.toInt = 6) ∨ (p1.toInt ≠ 3 ∧ p1.toInt ≠ 4 ∧ p1.toInt ≠ 7 ∧ r.toInt = 0)) (fun (u : Unit) => []) [] sz) 0 0 (va_A [] sz) := by
  refine ofK_i (cc := cX12_above) (maxL := 1) (own := RX12) (by decide) rfl rfl (Nat.le_of_ble_eq_true rfl) ?_
  intro p e s m args below meth c Q A ls hsz hx hb hml hts hown hK hA hAB hP hD hl ret
  have hS : va_S A s.heap s.heap [] := va_S.rf
  have hl : lv_has ls 1 [(0, .int p1)] := hl
  have l0 : (3 : Int32).toInt = 3 := by decide
  have l1 : (0 : Int32).toInt = 0 := by decide
  have l2 : (4 : Int32).toInt = 4 := by decide
  have l3 : (7 : Int32).toInt = 7 := by decide
  have l4 : (6 : Int32).toInt = 6 := by decide
  have l5 : (2 : Int32).toInt = 2 := by decide
  have l6 : (1 : Int32).toInt = 1 := by decide
  refine lv_iload_n hx hb dX12_above_0 rfl (lv_at hl 0 rfl) ?_
  refine lv_iconst (v := 3) hx hb dX12_above_1 (by decide) ?_
  refine lv_icmp_ne (tgt := 9) hx hb dX12_above_2 (by decide) (fun c1 => ?_) (fun c1 => ?_)
  · have c1 := ci_ne c1
    refine lv_iload_n hx hb dX12_above_9 rfl (lv_at hl 0 rfl) ?_
    refine lv_iconst (v := 4) hx hb dX12_above_10 (by decide) ?_
    refine lv_icmp_ne (tgt := 18) hx hb dX12_above_11 (by decide) (fun c2 => ?_) (fun c2 => ?_)
    · have c2 := ci_ne c2
      refine lv_iload_n hx hb dX12_above_18 rfl (lv_at hl 0 rfl) ?_
      refine lv_bipush (v := 7) hx hb dX12_above_19 (by decide) ?_
      refine lv_icmp_ne (tgt := 29) hx hb dX12_above_21 (by decide) (fun c3 => ?_) (fun c3 => ?_)
      · have c3 := ci_ne c3
        refine lv_iconst (v := 0) hx hb dX12_above_29 (by decide) ?_
        have hpo : (p1.toInt = 3 ∧ (0 : Int32).toInt = 1) ∨ (p1.toInt = 4 ∧ (0 : Int32).toInt = 2) ∨ (p1.toInt = 7 ∧ (0 : Int32).toInt = 6) ∨ (p1.toInt ≠ 3 ∧ p1.toInt ≠ 4 ∧ p1.toInt ≠ 7 ∧ (0 : Int32).toInt = 0) := (by omega)
        exact ret _ _ _ _ 0 () dX12_above_30 hpo hP hD hS
      have c3 := ci_eq c3
      refine lv_bipush (v := 6) hx hb dX12_above_24 (by decide) ?_
      refine lv_goto (tgt := 30) hx hb dX12_above_26 (by decide) ?_
      have hpo : (p1.toInt = 3 ∧ (6 : Int32).toInt = 1) ∨ (p1.toInt = 4 ∧ (6 : Int32).toInt = 2) ∨ (p1.toInt = 7 ∧ (6 : Int32).toInt = 6) ∨ (p1.toInt ≠ 3 ∧ p1.toInt ≠ 4 ∧ p1.toInt ≠ 7 ∧ (6 : Int32).toInt = 0) := (by omega)
      exact ret _ _ _ _ 6 () dX12_above_30 hpo hP hD hS
    have c2 := ci_eq c2
    refine lv_iconst (v := 2) hx hb dX12_above_14 (by decide) ?_
    refine lv_goto (tgt := 30) hx hb dX12_above_15 (by decide) ?_
    have hpo : (p1.toInt = 3 ∧ (2 : Int32).toInt = 1) ∨ (p1.toInt = 4 ∧ (2 : Int32).toInt = 2) ∨ (p1.toInt = 7 ∧ (2 : Int32).toInt = 6) ∨ (p1.toInt ≠ 3 ∧ p1.toInt ≠ 4 ∧ p1.toInt ≠ 7 ∧ (2 : Int32).toInt = 0) := (by omega)
    exact ret _ _ _ _ 2 () dX12_above_30 hpo hP hD hS
  have c1 := ci_eq c1
  refine lv_iconst (v := 1) hx hb dX12_above_5 (by decide) ?_
  refine lv_goto (tgt := 30) hx hb dX12_above_6 (by decide) ?_
  have hpo : (p1.toInt = 3 ∧ (1 : Int32).toInt = 1) ∨ (p1.toInt = 4 ∧ (1 : Int32).toInt = 2) ∨ (p1.toInt = 7 ∧ (1 : Int32).toInt = 6) ∨ (p1.toInt ≠ 3 ∧ p1.toInt ≠ 4 ∧ p1.toInt ≠ 7 ∧ (1 : Int32).toInt = 0) := (by omega)
  exact ret _ _ _ _ 1 () dX12_above_30 hpo hP hD hS
set_option maxHeartbeats 4000000 in
set_option maxRecDepth 100000 in
theorem k_X12_taken (l : Launch) (D : va_G) (κ : Nat → ClassId) (β : Nat) (a12 : Nat) (r12 : Nat → Nat) (v12_keptMany : Int32) (v12_done : Int32) (v12_sheets : Int32) (v12_holes : Int32) (v12_worms : Int32) (v12_laidMany : Int32) (v12_wanted : Int32) (v12_orderMany : Int32) (v12_firstOrder : Int32) (v12_lines : Int32) (v12_marks : Int32) (v12_dots : Int32) (v12_madeIn : Int32) (v12_bound : Int32) (v12_places : Int32) (v12_maps : Int32) (v12_tapeMany : Int32) (v12_stories : Int32) (v12_base : Int32) (v12_at : Int32) (v12_ends : Int32) (v12_fault : Int32) (v12_opened : Int32) (v12_bodies : Int32) (v12_ran : Int32) (v12_ownKind : Int32) (v12_ownNumber : Int32) (f12_bodyKind : Nat → Int32) (f12_shelf : Nat → Int32) (sz : Nat) (p1 : Int32) (p2 : Int32) (i1 : Rg 0 40 v12_keptMany) (i2 : Rg 0 40 v12_done) (i3 : Rg 0 8 v12_sheets) (i4 : Rg 0 40 v12_holes) (i5 : Rg 0 40 v12_worms) (i6 : Rg 0 8 v12_laidMany) (i7 : Rg 0 8 v12_wanted) (i8 : Rg 0 20 v12_lines) (i9 : Rg 0 60 v12_marks) (i10 : Rg 0 40 v12_dots) (i11 : Rg 0 20 v12_places) (i12 : Rg 0 8 v12_maps) (i13 : Rg 0 120 v12_tapeMany) (i14 : Rg 0 6 v12_stories) (i15 : Rg 0 50 v12_bodies) (i16 : Rg 0 1000 v12_ran) (i17 : v12_done.toInt ≤ v12_keptMany.toInt) : Met l yX12_taken wsX12_taken ({ frames := 2, cells := 0, slots := 0, locals := 45 } : Room) (PcK D κ β [O12 a12 r12 v12_keptMany v12_done v12_sheets v12_holes v12_worms v12_laidMany v12_wanted v12_orderMany v12_firstOrder v12_lines v12_marks v12_dots v12_madeIn v12_bound v12_places v12_maps v12_tapeMany v12_stories v12_base v12_at v12_ends v12_fault v12_opened v12_bodies v12_ran v12_ownKind v12_ownNumber, (cI κ (r12 54) 50 f12_bodyKind), (cI κ (r12 59) 6 f12_shelf)] sz [.ref a12, .int p1, .int p2]) (QiK D (fun (r : Int32) (u : Unit) => True) (fun (u : Unit) => [O12 a12 r12 v12_keptMany v12_done v12_sheets v12_holes v12_worms v12_laidMany v12_wanted v12_orderMany v12_firstOrder v12_lines v12_marks v12_dots v12_madeIn v12_bound v12_places v12_maps v12_tapeMany v12_stories v12_base v12_at v12_ends v12_fault v12_opened v12_bodies v12_ran v12_ownKind v12_ownNumber, (cI κ (r12 54) 50 f12_bodyKind), (cI κ (r12 59) 6 f12_shelf)]) [O12 a12 r12 v12_keptMany v12_done v12_sheets v12_holes v12_worms v12_laidMany v12_wanted v12_orderMany v12_firstOrder v12_lines v12_marks v12_dots v12_madeIn v12_bound v12_places v12_maps v12_tapeMany v12_stories v12_base v12_at v12_ends v12_fault v12_opened v12_bodies v12_ran v12_ownKind v12_ownNumber, (cI κ (r12 54) 50 f12_bodyKind), (cI κ (r12 59) 6 f12_shelf)] sz) 0 0 (va_A [O12 a12 r12 v12_keptMany v12_done v12_sheets v12_holes v12_worms v12_laidMany v12_wanted v12_orderMany v12_firstOrder v12_lines v12_marks v12_dots v12_madeIn v12_bound v12_places v12_maps v12_tapeMany v12_stories v12_base v12_at v12_ends v12_fault v12_opened v12_bodies v12_ran v12_ownKind v12_ownNumber, (cI κ (r12 54) 50 f12_bodyKind), (cI κ (r12 59) 6 f12_shelf)] sz) := by
  refine ofK_i (cc := cX12_taken) (maxL := 4) (own := RX12) (by decide) rfl rfl (Nat.le_of_ble_eq_true rfl) ?_
  intro p e s m args below meth c Q A ls hsz hx hb hml hts hown hK hA hAB hP hD hl ret
  have hS : va_S A s.heap s.heap [] := va_S.rf
  have hl : lv_has ls 4 [(0, .ref a12), (1, .int p1), (2, .int p2)] := hl
  have w0 := hts (.constantLong RX12 223 (7)) (List.mem_of_getElem? (i := 1) rfl)
  have w1 := hts (.fieldLink RX12 107 "OlderSkinModel" "shelf" "[I") (List.mem_of_getElem? (i := 2) rfl)
  have w2 := (fun w h => List.mem_cons_of_mem _ (List.mem_append_right _ h) : ∀ w ∈ u_ws RX12 TX12 63, w ∈ wsX12_taken)
  have l0 : (0 : Int32).toInt = 0 := by decide
  have l1 : ((-1) : Int32).toInt = -1 := by decide
  have l2 : (0 : Int64).toInt = 0 := by decide
  have l3 : (7 : Int64).toInt = 7 := by decide
  have l4 : (50 : Int32).toInt = 50 := by decide
  have l5 : ((-12) : Int32).toInt = -12 := by decide
  have l6 : ((-11) : Int32).toInt = -11 := by decide
  refine lv_iload_n hx hb dX12_taken_0 rfl (lv_at hl 1 rfl) ?_
  refine kcm_i hA hAB hP hD hS [false, false, false] rfl (fun _ => rfl) (fun hPc hDc => va_runS (As := [.int p1]) (rest := []) ⟨hx, hb, hml, hown, hts⟩ (k_X12_isShelf l D κ β s.heap.size p1) (va_cwS 1 hts gX12_taken_X12_isShelf rfl rfl rfl (by decide +kernel) ⟨Nat.le_of_ble_eq_true rfl, Nat.le_of_ble_eq_true rfl⟩) (pk_S hK hS hAB hPc hDc) rfl rfl hl.1 rfl (lv_room (Nat.le_of_ble_eq_true rfl)) dX12_taken_1 ⟨Nat.le_of_ble_eq_true rfl, Nat.le_of_ble_eq_true rfl⟩) (fun x1 u2 H locs hw hPD hS => ?_)
  have h3 : (x1.toInt = 1 ∧ 0 ≤ p1.toInt ∧ p1.toInt ≤ 5) ∨ (x1.toInt = 0 ∧ (p1.toInt < 0 ∨ 5 < p1.toInt)) := hw
  obtain ⟨hP, hD⟩ : PD D A [O12 a12 r12 v12_keptMany v12_done v12_sheets v12_holes v12_worms v12_laidMany v12_wanted v12_orderMany v12_firstOrder v12_lines v12_marks v12_dots v12_madeIn v12_bound v12_places v12_maps v12_tapeMany v12_stories v12_base v12_at v12_ends v12_fault v12_opened v12_bodies v12_ran v12_ownKind v12_ownNumber, (cI κ (r12 54) 50 f12_bodyKind), (cI κ (r12 59) 6 f12_shelf)] H := hPD
  refine lv_if_eq (tgt := 19) hx hb dX12_taken_4 (by decide) (fun c4 => ?_) (fun c4 => ?_)
  · have c4 := ci_eq c4
    refine lv_iconst (v := (-1)) hx hb dX12_taken_19 (by decide) ?_
    exact ret _ _ _ _ (-1) () dX12_taken_20 trivial hP hD hS
  have c4 := ci_ne c4
  refine lv_iload_n hx hb dX12_taken_7 rfl (lv_at hl 2 rfl) ?_
  refine lv_i2l hx hb dX12_taken_8 rfl ?_
  refine lv_topl (fun x5 e6 => ?_)
  have h7 : x5.toInt = p2.toInt := cl_i2l e6
  refine lv_lconst (v := (0 : Int64)) hx hb dX12_taken_9 (by decide) ?_
  refine lv_ldc2 (v := (7 : Int64)) hx hb hown w0 dX12_taken_10 ?_
  refine kcm_i hA hAB hP hD hS [false, false, false] rfl (fun _ => rfl) (fun hPc hDc => va_runS (As := [.long x5, .long (0 : Int64), .long (7 : Int64)]) (rest := []) ⟨hx, hb, hml, hown, hts⟩ (k_X12_within l D κ β H.size x5 (0 : Int64) (7 : Int64)) (va_cwS 3 hts gX12_taken_X12_within rfl rfl rfl (by decide +kernel) ⟨Nat.le_of_ble_eq_true rfl, Nat.le_of_ble_eq_true rfl⟩) (pk_S hK hS hAB hPc hDc) rfl rfl hl.1 rfl (lv_room (Nat.le_of_ble_eq_true rfl)) dX12_taken_13 ⟨Nat.le_of_ble_eq_true rfl, Nat.le_of_ble_eq_true rfl⟩) (fun x8 u9 H locs hw hPD hS => ?_)
  have h10 : (x8.toInt = 1 ∧ (0 : Int64).toInt ≤ x5.toInt ∧ x5.toInt ≤ (7 : Int64).toInt) ∨ (x8.toInt = 0 ∧ (x5.toInt < (0 : Int64).toInt ∨ (7 : Int64).toInt < x5.toInt)) := hw
  obtain ⟨hP, hD⟩ : PD D A [O12 a12 r12 v12_keptMany v12_done v12_sheets v12_holes v12_worms v12_laidMany v12_wanted v12_orderMany v12_firstOrder v12_lines v12_marks v12_dots v12_madeIn v12_bound v12_places v12_maps v12_tapeMany v12_stories v12_base v12_at v12_ends v12_fault v12_opened v12_bodies v12_ran v12_ownKind v12_ownNumber, (cI κ (r12 54) 50 f12_bodyKind), (cI κ (r12 59) 6 f12_shelf)] H := hPD
  refine lv_if_ne (tgt := 21) hx hb dX12_taken_16 (by decide) (fun c11 => ?_) (fun c11 => ?_)
  · have c11 := ci_ne c11
    refine lv_aload_n hx hb dX12_taken_21 rfl (lv_at hl 0 rfl) ?_
    refine va_get (D := D) (ci := 12) (v := .ref (r12 59)) (C := RX12) (T := TX12) (N := 63) hx hb hts w2 hown hK.1 hP 0 rfl rfl 59 (by decide) w1 (fun _ h9 => h9) rfl dX12_taken_22 ?_
    refine lv_iload_n hx hb dX12_taken_25 rfl (lv_at hl 1 rfl) ?_
    refine va_iald hx hb hK.1 hP 2 1 rfl rfl (i := p1) (ix (by omega) (by omega)) dX12_taken_26 ?_
    refine lv_topi (fun x12 e13 => ?_)
    refine lv_if_ge (tgt := 33) hx hb dX12_taken_27 (by decide) (fun c14 => ?_) (fun c14 => ?_)
    · have c14 := ci_le c14
      refine lv_aload_n hx hb dX12_taken_33 rfl (lv_at hl 0 rfl) ?_
      refine va_get (D := D) (ci := 12) (v := .ref (r12 59)) (C := RX12) (T := TX12) (N := 63) hx hb hts w2 hown hK.1 hP 0 rfl rfl 59 (by decide) w1 (fun _ h9 => h9) rfl dX12_taken_34 ?_
      refine lv_iload_n hx hb dX12_taken_37 rfl (lv_at hl 1 rfl) ?_
      refine va_iald hx hb hK.1 hP 2 1 rfl rfl (i := p1) (ix (by omega) (by omega)) dX12_taken_38 ?_
      refine lv_re e13 ?_
      refine lv_bipush (v := 50) hx hb dX12_taken_39 (by decide) ?_
      refine lv_icmp_lt (tgt := 47) hx hb dX12_taken_41 (by decide) (fun c15 => ?_) (fun c15 => ?_)
      · have c15 := ci_lt c15
        refine lv_aload_n hx hb dX12_taken_47 rfl (lv_at hl 0 rfl) ?_
        refine lv_aload_n hx hb dX12_taken_48 rfl (lv_at hl 0 rfl) ?_
        refine va_get (D := D) (ci := 12) (v := .ref (r12 59)) (C := RX12) (T := TX12) (N := 63) hx hb hts w2 hown hK.1 hP 0 rfl rfl 59 (by decide) w1 (fun _ h9 => h9) rfl dX12_taken_49 ?_
        refine lv_iload_n hx hb dX12_taken_52 rfl (lv_at hl 1 rfl) ?_
        refine va_iald hx hb hK.1 hP 2 1 rfl rfl (i := p1) (ix (by omega) (by omega)) dX12_taken_53 ?_
        refine lv_re e13 ?_
        refine kcm_i hA hAB hP hD hS [true, true, false] rfl (fun _ => rfl) (fun hPc hDc => va_runV (As := [.int x12]) (rest := []) ⟨hx, hb, hml, hown, hts⟩ (k_X12_kindOf l D κ β a12 r12 v12_keptMany v12_done v12_sheets v12_holes v12_worms v12_laidMany v12_wanted v12_orderMany v12_firstOrder v12_lines v12_marks v12_dots v12_madeIn v12_bound v12_places v12_maps v12_tapeMany v12_stories v12_base v12_at v12_ends v12_fault v12_opened v12_bodies v12_ran v12_ownKind v12_ownNumber f12_bodyKind H.size x12 i1 i2 i3 i4 i5 i6 i7 i8 i9 i10 i11 i12 i13 i14 i15 i16 i17 (by omega)) (cwV 1 hts gX12_taken_X12_kindOf rfl rfl rfl (by decide +kernel) ⟨Nat.le_of_ble_eq_true rfl, Nat.le_of_ble_eq_true rfl⟩) (pk_V hK hS hAB hPc hDc 0 (ci := 12) rfl rfl rfl) rfl rfl hl.1 rfl (lv_room (Nat.le_of_ble_eq_true rfl)) dX12_taken_54 ⟨Nat.le_of_ble_eq_true rfl, Nat.le_of_ble_eq_true rfl⟩) (fun x16 u17 H locs hw hPD hS => ?_)
        obtain ⟨hP, hD⟩ : PD D A [O12 a12 r12 v12_keptMany v12_done v12_sheets v12_holes v12_worms v12_laidMany v12_wanted v12_orderMany v12_firstOrder v12_lines v12_marks v12_dots v12_madeIn v12_bound v12_places v12_maps v12_tapeMany v12_stories v12_base v12_at v12_ends v12_fault v12_opened v12_bodies v12_ran v12_ownKind v12_ownNumber, (cI κ (r12 54) 50 f12_bodyKind), (cI κ (r12 59) 6 f12_shelf)] H := hPD
        refine lv_istore_n (lv' := [(3, .int x16), (0, .ref a12), (1, .int p1), (2, .int p2)]) hx hb dX12_taken_57 rfl hl (by decide) rfl (fun ls hl => ?_)
        have lp58 : ∀ (n58 : Nat) (k18 : Int32), (((if k18.toInt ≤ 0 then 0 else (if k18.toInt = 3 ∨ k18.toInt = 4 ∨ k18.toInt = 7 then 2 else 1)) : Int)).toNat < n58 → ∀ (H : Heap) (locs : List Loc), va_P D vwCl [O12 a12 r12 v12_keptMany v12_done v12_sheets v12_holes v12_worms v12_laidMany v12_wanted v12_orderMany v12_firstOrder v12_lines v12_marks v12_dots v12_madeIn v12_bound v12_places v12_maps v12_tapeMany v12_stories v12_base v12_at v12_ends v12_fault v12_opened v12_bodies v12_ran v12_ownKind v12_ownNumber, (cI κ (r12 54) 50 f12_bodyKind), (cI κ (r12 59) 6 f12_shelf)] H → va_D A [O12 a12 r12 v12_keptMany v12_done v12_sheets v12_holes v12_worms v12_laidMany v12_wanted v12_orderMany v12_firstOrder v12_lines v12_marks v12_dots v12_madeIn v12_bound v12_places v12_maps v12_tapeMany v12_stories v12_base v12_at v12_ends v12_fault v12_opened v12_bodies v12_ran v12_ownKind v12_ownNumber, (cI κ (r12 54) 50 f12_bodyKind), (cI κ (r12 59) 6 f12_shelf)] → va_S A s.heap H locs → ∀ ls : Array Slot, lv_has ls 4 [(3, .int k18), (0, .ref a12), (1, .int p1), (2, .int p2)] → W p l e ({ frames := 2, cells := 0, slots := 0, locals := 45 } : Room) s m args below meth c H locs 0 0 Q (F0 m 58 ls []) := by
          intro n58
          induction n58 with
          | zero =>
            intro k18 m19
            exact absurd m19 (Nat.not_lt_zero _)
          | succ n58 ih58 =>
            intro k18 m19 H locs hP hD hS ls hl
            refine lv_iload_n hx hb dX12_taken_58 rfl (lv_at hl 0 rfl) ?_
            refine lv_iload_n hx hb dX12_taken_59 rfl (lv_at hl 3 rfl) ?_
            refine lv_icmp_eq (tgt := 75) hx hb dX12_taken_60 (by decide) (fun c20 => ?_) (fun c20 => ?_)
            · have c20 := ci_eq c20
              refine lv_iload_n hx hb dX12_taken_75 rfl (lv_at hl 0 rfl) ?_
              refine lv_iload_n hx hb dX12_taken_76 rfl (lv_at hl 3 rfl) ?_
              refine lv_icmp_ne (tgt := 93) hx hb dX12_taken_77 (by decide) (fun c21 => ?_) (fun c21 => ?_)
              · have c21 := ci_ne c21
                refine lv_bipush (v := (-12)) hx hb dX12_taken_93 (by decide) ?_
                exact ret _ _ _ _ (-12) () dX12_taken_95 trivial hP hD hS
              have c21 := ci_eq c21
              refine lv_aload_n hx hb dX12_taken_80 rfl (lv_at hl 1 rfl) ?_
              refine lv_aload_n hx hb dX12_taken_81 rfl (lv_at hl 1 rfl) ?_
              refine va_get (D := D) (ci := 12) (v := .ref (r12 59)) (C := RX12) (T := TX12) (N := 63) hx hb hts w2 hown hK.1 hP 0 rfl rfl 59 (by decide) w1 (fun _ h9 => h9) rfl dX12_taken_82 ?_
              refine lv_iload_n hx hb dX12_taken_85 rfl (lv_at hl 2 rfl) ?_
              refine va_iald hx hb hK.1 hP 2 1 rfl rfl (i := p1) (ix (by omega) (by omega)) dX12_taken_86 ?_
              refine lv_re e13 ?_
              refine kcm_i hA hAB hP hD hS [true, true, false] rfl (fun _ => rfl) (fun hPc hDc => va_runV (As := [.int x12]) (rest := []) ⟨hx, hb, hml, hown, hts⟩ (k_X12_kindOf l D κ β a12 r12 v12_keptMany v12_done v12_sheets v12_holes v12_worms v12_laidMany v12_wanted v12_orderMany v12_firstOrder v12_lines v12_marks v12_dots v12_madeIn v12_bound v12_places v12_maps v12_tapeMany v12_stories v12_base v12_at v12_ends v12_fault v12_opened v12_bodies v12_ran v12_ownKind v12_ownNumber f12_bodyKind H.size x12 i1 i2 i3 i4 i5 i6 i7 i8 i9 i10 i11 i12 i13 i14 i15 i16 i17 (by omega)) (cwV 1 hts gX12_taken_X12_kindOf rfl rfl rfl (by decide +kernel) ⟨Nat.le_of_ble_eq_true rfl, Nat.le_of_ble_eq_true rfl⟩) (pk_V hK hS hAB hPc hDc 0 (ci := 12) rfl rfl rfl) rfl rfl hl.1 rfl (lv_room (Nat.le_of_ble_eq_true rfl)) dX12_taken_87 ⟨Nat.le_of_ble_eq_true rfl, Nat.le_of_ble_eq_true rfl⟩) (fun x22 u23 H locs hw hPD hS => ?_)
              obtain ⟨hP, hD⟩ : PD D A [O12 a12 r12 v12_keptMany v12_done v12_sheets v12_holes v12_worms v12_laidMany v12_wanted v12_orderMany v12_firstOrder v12_lines v12_marks v12_dots v12_madeIn v12_bound v12_places v12_maps v12_tapeMany v12_stories v12_base v12_at v12_ends v12_fault v12_opened v12_bodies v12_ran v12_ownKind v12_ownNumber, (cI κ (r12 54) 50 f12_bodyKind), (cI κ (r12 59) 6 f12_shelf)] H := hPD
              refine lv_goto (tgt := 95) hx hb dX12_taken_90 (by decide) ?_
              exact ret _ _ _ _ x22 () dX12_taken_95 trivial hP hD hS
            have c20 := ci_ne c20
            refine lv_iload_n hx hb dX12_taken_63 rfl (lv_at hl 0 rfl) ?_
            refine lv_if_le (tgt := 75) hx hb dX12_taken_64 (by decide) (fun c24 => ?_) (fun c24 => ?_)
            · have c24 := ci_le c24
              refine lv_iload_n hx hb dX12_taken_75 rfl (lv_at hl 0 rfl) ?_
              refine lv_iload_n hx hb dX12_taken_76 rfl (lv_at hl 3 rfl) ?_
              refine lv_icmp_ne (tgt := 93) hx hb dX12_taken_77 (by decide) (fun c25 => ?_) (fun c25 => ?_)
              · have c25 := ci_ne c25
                refine lv_bipush (v := (-12)) hx hb dX12_taken_93 (by decide) ?_
                exact ret _ _ _ _ (-12) () dX12_taken_95 trivial hP hD hS
              have c25 := ci_eq c25
              refine lv_aload_n hx hb dX12_taken_80 rfl (lv_at hl 1 rfl) ?_
              refine lv_aload_n hx hb dX12_taken_81 rfl (lv_at hl 1 rfl) ?_
              refine va_get (D := D) (ci := 12) (v := .ref (r12 59)) (C := RX12) (T := TX12) (N := 63) hx hb hts w2 hown hK.1 hP 0 rfl rfl 59 (by decide) w1 (fun _ h9 => h9) rfl dX12_taken_82 ?_
              refine lv_iload_n hx hb dX12_taken_85 rfl (lv_at hl 2 rfl) ?_
              refine va_iald hx hb hK.1 hP 2 1 rfl rfl (i := p1) (ix (by omega) (by omega)) dX12_taken_86 ?_
              refine lv_re e13 ?_
              refine kcm_i hA hAB hP hD hS [true, true, false] rfl (fun _ => rfl) (fun hPc hDc => va_runV (As := [.int x12]) (rest := []) ⟨hx, hb, hml, hown, hts⟩ (k_X12_kindOf l D κ β a12 r12 v12_keptMany v12_done v12_sheets v12_holes v12_worms v12_laidMany v12_wanted v12_orderMany v12_firstOrder v12_lines v12_marks v12_dots v12_madeIn v12_bound v12_places v12_maps v12_tapeMany v12_stories v12_base v12_at v12_ends v12_fault v12_opened v12_bodies v12_ran v12_ownKind v12_ownNumber f12_bodyKind H.size x12 i1 i2 i3 i4 i5 i6 i7 i8 i9 i10 i11 i12 i13 i14 i15 i16 i17 (by omega)) (cwV 1 hts gX12_taken_X12_kindOf rfl rfl rfl (by decide +kernel) ⟨Nat.le_of_ble_eq_true rfl, Nat.le_of_ble_eq_true rfl⟩) (pk_V hK hS hAB hPc hDc 0 (ci := 12) rfl rfl rfl) rfl rfl hl.1 rfl (lv_room (Nat.le_of_ble_eq_true rfl)) dX12_taken_87 ⟨Nat.le_of_ble_eq_true rfl, Nat.le_of_ble_eq_true rfl⟩) (fun x26 u27 H locs hw hPD hS => ?_)
              obtain ⟨hP, hD⟩ : PD D A [O12 a12 r12 v12_keptMany v12_done v12_sheets v12_holes v12_worms v12_laidMany v12_wanted v12_orderMany v12_firstOrder v12_lines v12_marks v12_dots v12_madeIn v12_bound v12_places v12_maps v12_tapeMany v12_stories v12_base v12_at v12_ends v12_fault v12_opened v12_bodies v12_ran v12_ownKind v12_ownNumber, (cI κ (r12 54) 50 f12_bodyKind), (cI κ (r12 59) 6 f12_shelf)] H := hPD
              refine lv_goto (tgt := 95) hx hb dX12_taken_90 (by decide) ?_
              exact ret _ _ _ _ x26 () dX12_taken_95 trivial hP hD hS
            have c24 := ci_nle c24
            refine lv_iload_n hx hb dX12_taken_67 rfl (lv_at hl 0 rfl) ?_
            refine kcm_i hA hAB hP hD hS [false, false, false] rfl (fun _ => rfl) (fun hPc hDc => va_runS (As := [.int k18]) (rest := []) ⟨hx, hb, hml, hown, hts⟩ (k_X12_above l D κ β H.size k18) (va_cwS 1 hts gX12_taken_X12_above rfl rfl rfl (by decide +kernel) ⟨Nat.le_of_ble_eq_true rfl, Nat.le_of_ble_eq_true rfl⟩) (pk_S hK hS hAB hPc hDc) rfl rfl hl.1 rfl (lv_room (Nat.le_of_ble_eq_true rfl)) dX12_taken_68 ⟨Nat.le_of_ble_eq_true rfl, Nat.le_of_ble_eq_true rfl⟩) (fun x28 u29 H locs hw hPD hS => ?_)
            have h30 : (k18.toInt = 3 ∧ x28.toInt = 1) ∨ (k18.toInt = 4 ∧ x28.toInt = 2) ∨ (k18.toInt = 7 ∧ x28.toInt = 6) ∨ (k18.toInt ≠ 3 ∧ k18.toInt ≠ 4 ∧ k18.toInt ≠ 7 ∧ x28.toInt = 0) := hw
            obtain ⟨hP, hD⟩ : PD D A [O12 a12 r12 v12_keptMany v12_done v12_sheets v12_holes v12_worms v12_laidMany v12_wanted v12_orderMany v12_firstOrder v12_lines v12_marks v12_dots v12_madeIn v12_bound v12_places v12_maps v12_tapeMany v12_stories v12_base v12_at v12_ends v12_fault v12_opened v12_bodies v12_ran v12_ownKind v12_ownNumber, (cI κ (r12 54) 50 f12_bodyKind), (cI κ (r12 59) 6 f12_shelf)] H := hPD
            refine lv_istore_n (lv' := [(3, .int x28), (0, .ref a12), (1, .int p1), (2, .int p2)]) hx hb dX12_taken_71 rfl hl (by decide) rfl (fun ls hl => ?_)
            refine lv_goto (tgt := 58) hx hb dX12_taken_72 (by decide) ?_
            exact ih58 x28 (by omega) _ _ hP hD hS _ hl
        exact lp58 ((((if x16.toInt ≤ 0 then 0 else (if x16.toInt = 3 ∨ x16.toInt = 4 ∨ x16.toInt = 7 then 2 else 1)) : Int)).toNat + 1) x16 (by omega) _ _ hP hD hS _ hl
      have c15 := ci_nlt c15
      refine lv_bipush (v := (-12)) hx hb dX12_taken_44 (by decide) ?_
      exact ret _ _ _ _ (-12) () dX12_taken_46 trivial hP hD hS
    have c14 := ci_nle c14
    refine lv_bipush (v := (-11)) hx hb dX12_taken_30 (by decide) ?_
    exact ret _ _ _ _ (-11) () dX12_taken_32 trivial hP hD hS
  have c11 := ci_eq c11
  refine lv_iconst (v := (-1)) hx hb dX12_taken_19 (by decide) ?_
  exact ret _ _ _ _ (-1) () dX12_taken_20 trivial hP hD hS
set_option maxHeartbeats 4000000 in
set_option maxRecDepth 100000 in
theorem k_X12_shift (l : Launch) (D : va_G) (κ : Nat → ClassId) (β : Nat) (a12 : Nat) (r12 : Nat → Nat) (v12_keptMany : Int32) (v12_done : Int32) (v12_sheets : Int32) (v12_holes : Int32) (v12_worms : Int32) (v12_laidMany : Int32) (v12_wanted : Int32) (v12_orderMany : Int32) (v12_firstOrder : Int32) (v12_lines : Int32) (v12_marks : Int32) (v12_dots : Int32) (v12_madeIn : Int32) (v12_bound : Int32) (v12_places : Int32) (v12_maps : Int32) (v12_tapeMany : Int32) (v12_stories : Int32) (v12_base : Int32) (v12_at : Int32) (v12_ends : Int32) (v12_fault : Int32) (v12_opened : Int32) (v12_bodies : Int32) (v12_ran : Int32) (v12_ownKind : Int32) (v12_ownNumber : Int32) (f12_shelf : Nat → Int32) (f12_many : Nat → Int32) (f12_items : Nat → Int64) (f12_carried : Nat → Int64) (sz : Nat) (p1 : Int32) (p2 : Int32) (p3 : Int32) (p4 : Int32) (p5 : Int32) (i1 : Rg 0 40 v12_keptMany) (i2 : Rg 0 40 v12_done) (i3 : Rg 0 8 v12_sheets) (i4 : Rg 0 40 v12_holes) (i5 : Rg 0 40 v12_worms) (i6 : Rg 0 8 v12_laidMany) (i7 : Rg 0 8 v12_wanted) (i8 : Rg 0 20 v12_lines) (i9 : Rg 0 60 v12_marks) (i10 : Rg 0 40 v12_dots) (i11 : Rg 0 20 v12_places) (i12 : Rg 0 8 v12_maps) (i13 : Rg 0 120 v12_tapeMany) (i14 : Rg 0 6 v12_stories) (i15 : Rg 0 50 v12_bodies) (i16 : Rg 0 1000 v12_ran) (hf12_many : ∀ j : Nat, 0 ≤ (f12_many j).toInt ∧ (f12_many j).toInt ≤ 60) (i17 : v12_done.toInt ≤ v12_keptMany.toInt) : Met l yX12_shift wsX12_shift ({ frames := 2, cells := 0, slots := 0, locals := 45 } : Room) (PcK D κ β [O12 a12 r12 v12_keptMany v12_done v12_sheets v12_holes v12_worms v12_laidMany v12_wanted v12_orderMany v12_firstOrder v12_lines v12_marks v12_dots v12_madeIn v12_bound v12_places v12_maps v12_tapeMany v12_stories v12_base v12_at v12_ends v12_fault v12_opened v12_bodies v12_ran v12_ownKind v12_ownNumber, (cI κ (r12 59) 6 f12_shelf), (cI κ (r12 60) 6 f12_many), (cJ κ (r12 61) 360 f12_items), (cJ κ (r12 62) 60 f12_carried)] sz [.ref a12, .int p1, .int p2, .int p3, .int p4, .int p5]) (QiK D (fun (r : Int32) (u : (Nat → Int64) × (Nat → Int64)) => True) (fun (u : (Nat → Int64) × (Nat → Int64)) => [O12 a12 r12 v12_keptMany v12_done v12_sheets v12_holes v12_worms v12_laidMany v12_wanted v12_orderMany v12_firstOrder v12_lines v12_marks v12_dots v12_madeIn v12_bound v12_places v12_maps v12_tapeMany v12_stories v12_base v12_at v12_ends v12_fault v12_opened v12_bodies v12_ran v12_ownKind v12_ownNumber, (cI κ (r12 59) 6 f12_shelf), (cI κ (r12 60) 6 f12_many), (cJ κ (r12 61) 360 u.1), (cJ κ (r12 62) 60 u.2)]) [O12 a12 r12 v12_keptMany v12_done v12_sheets v12_holes v12_worms v12_laidMany v12_wanted v12_orderMany v12_firstOrder v12_lines v12_marks v12_dots v12_madeIn v12_bound v12_places v12_maps v12_tapeMany v12_stories v12_base v12_at v12_ends v12_fault v12_opened v12_bodies v12_ran v12_ownKind v12_ownNumber, (cI κ (r12 59) 6 f12_shelf), (cI κ (r12 60) 6 f12_many), (cJ κ (r12 61) 360 f12_items), (cJ κ (r12 62) 60 f12_carried)] sz) 0 0 (va_A [O12 a12 r12 v12_keptMany v12_done v12_sheets v12_holes v12_worms v12_laidMany v12_wanted v12_orderMany v12_firstOrder v12_lines v12_marks v12_dots v12_madeIn v12_bound v12_places v12_maps v12_tapeMany v12_stories v12_base v12_at v12_ends v12_fault v12_opened v12_bodies v12_ran v12_ownKind v12_ownNumber, (cI κ (r12 59) 6 f12_shelf), (cI κ (r12 60) 6 f12_many), (cJ κ (r12 61) 360 f12_items), (cJ κ (r12 62) 60 f12_carried)] sz) := by
  refine ofK_i (cc := cX12_shift) (maxL := 7) (own := RX12) (by decide) rfl rfl (Nat.le_of_ble_eq_true rfl) ?_
  intro p e s m args below meth c Q A ls hsz hx hb hml hts hown hK hA hAB hP hD hl ret
  have hS : va_S A s.heap s.heap [] := va_S.rf
  have hl : lv_has ls 7 [(0, .ref a12), (1, .int p1), (2, .int p2), (3, .int p3), (4, .int p4), (5, .int p5)] := hl
  have w0 := hts (.fieldLink RX12 107 "OlderSkinModel" "shelf" "[I") (List.mem_of_getElem? (i := 1) rfl)
  have w1 := (fun w h => List.mem_cons_of_mem _ (List.mem_append_right _ h) : ∀ w ∈ u_ws RX12 TX12 63, w ∈ wsX12_shift)
  have w2 := hts (.fieldLink RX12 110 "OlderSkinModel" "many" "[I") (List.mem_of_getElem? (i := 2) rfl)
  have w3 := hts (.fieldLink RX12 113 "OlderSkinModel" "items" "[J") (List.mem_of_getElem? (i := 4) rfl)
  have w4 := hts (.fieldLink RX12 117 "OlderSkinModel" "carried" "[J") (List.mem_of_getElem? (i := 3) rfl)
  have l0 : (0 : Int32).toInt = 0 := by decide
  have l1 : ((-1) : Int32).toInt = -1 := by decide
  have l2 : ((-11) : Int32).toInt = -11 := by decide
  have l3 : (50 : Int32).toInt = 50 := by decide
  have l4 : ((-12) : Int32).toInt = -12 := by decide
  have l5 : ((-13) : Int32).toInt = -13 := by decide
  have l6 : (60 : Int32).toInt = 60 := by decide
  have l7 : (1 : Int32).toInt = 1 := by decide
  have rg5 := ci_rng p5
  refine lv_iload_n hx hb dX12_shift_0 rfl (lv_at hl 1 rfl) ?_
  refine kcm_i hA hAB hP hD hS [false, false, false, false, false] rfl (fun _ => rfl) (fun hPc hDc => va_runS (As := [.int p1]) (rest := []) ⟨hx, hb, hml, hown, hts⟩ (k_X12_isShelf l D κ β s.heap.size p1) (va_cwS 1 hts gX12_shift_X12_isShelf rfl rfl rfl (by decide +kernel) ⟨Nat.le_of_ble_eq_true rfl, Nat.le_of_ble_eq_true rfl⟩) (pk_S hK hS hAB hPc hDc) rfl rfl hl.1 rfl (lv_room (Nat.le_of_ble_eq_true rfl)) dX12_shift_1 ⟨Nat.le_of_ble_eq_true rfl, Nat.le_of_ble_eq_true rfl⟩) (fun x1 u2 H locs hw hPD hS => ?_)
  have h3 : (x1.toInt = 1 ∧ 0 ≤ p1.toInt ∧ p1.toInt ≤ 5) ∨ (x1.toInt = 0 ∧ (p1.toInt < 0 ∨ 5 < p1.toInt)) := hw
  obtain ⟨hP, hD⟩ : PD D A [O12 a12 r12 v12_keptMany v12_done v12_sheets v12_holes v12_worms v12_laidMany v12_wanted v12_orderMany v12_firstOrder v12_lines v12_marks v12_dots v12_madeIn v12_bound v12_places v12_maps v12_tapeMany v12_stories v12_base v12_at v12_ends v12_fault v12_opened v12_bodies v12_ran v12_ownKind v12_ownNumber, (cI κ (r12 59) 6 f12_shelf), (cI κ (r12 60) 6 f12_many), (cJ κ (r12 61) 360 f12_items), (cJ κ (r12 62) 60 f12_carried)] H := hPD
  refine lv_if_eq (tgt := 14) hx hb dX12_shift_4 (by decide) (fun c4 => ?_) (fun c4 => ?_)
  · have c4 := ci_eq c4
    refine lv_iconst (v := (-1)) hx hb dX12_shift_14 (by decide) ?_
    exact ret _ _ _ _ (-1) (f12_items, f12_carried) dX12_shift_15 trivial hP hD hS
  have c4 := ci_ne c4
  refine lv_iload_n hx hb dX12_shift_7 rfl (lv_at hl 3 rfl) ?_
  refine kcm_i hA hAB hP hD hS [false, false, false, false, false] rfl (fun _ => rfl) (fun hPc hDc => va_runS (As := [.int p3]) (rest := []) ⟨hx, hb, hml, hown, hts⟩ (k_X12_isShelf l D κ β H.size p3) (va_cwS 1 hts gX12_shift_X12_isShelf rfl rfl rfl (by decide +kernel) ⟨Nat.le_of_ble_eq_true rfl, Nat.le_of_ble_eq_true rfl⟩) (pk_S hK hS hAB hPc hDc) rfl rfl hl.1 rfl (lv_room (Nat.le_of_ble_eq_true rfl)) dX12_shift_8 ⟨Nat.le_of_ble_eq_true rfl, Nat.le_of_ble_eq_true rfl⟩) (fun x5 u6 H locs hw hPD hS => ?_)
  have h7 : (x5.toInt = 1 ∧ 0 ≤ p3.toInt ∧ p3.toInt ≤ 5) ∨ (x5.toInt = 0 ∧ (p3.toInt < 0 ∨ 5 < p3.toInt)) := hw
  obtain ⟨hP, hD⟩ : PD D A [O12 a12 r12 v12_keptMany v12_done v12_sheets v12_holes v12_worms v12_laidMany v12_wanted v12_orderMany v12_firstOrder v12_lines v12_marks v12_dots v12_madeIn v12_bound v12_places v12_maps v12_tapeMany v12_stories v12_base v12_at v12_ends v12_fault v12_opened v12_bodies v12_ran v12_ownKind v12_ownNumber, (cI κ (r12 59) 6 f12_shelf), (cI κ (r12 60) 6 f12_many), (cJ κ (r12 61) 360 f12_items), (cJ κ (r12 62) 60 f12_carried)] H := hPD
  refine lv_if_ne (tgt := 16) hx hb dX12_shift_11 (by decide) (fun c8 => ?_) (fun c8 => ?_)
  · have c8 := ci_ne c8
    refine lv_aload_n hx hb dX12_shift_16 rfl (lv_at hl 0 rfl) ?_
    refine va_get (D := D) (ci := 12) (v := .ref (r12 59)) (C := RX12) (T := TX12) (N := 63) hx hb hts w1 hown hK.1 hP 0 rfl rfl 59 (by decide) w0 (fun _ h9 => h9) rfl dX12_shift_17 ?_
    refine lv_iload_n hx hb dX12_shift_20 rfl (lv_at hl 1 rfl) ?_
    refine va_iald hx hb hK.1 hP 1 1 rfl rfl (i := p1) (ix (by omega) (by omega)) dX12_shift_21 ?_
    refine lv_topi (fun x9 e10 => ?_)
    refine lv_if_lt (tgt := 34) hx hb dX12_shift_22 (by decide) (fun c11 => ?_) (fun c11 => ?_)
    · have c11 := ci_lt c11
      refine lv_bipush (v := (-11)) hx hb dX12_shift_34 (by decide) ?_
      exact ret _ _ _ _ (-11) (f12_items, f12_carried) dX12_shift_36 trivial hP hD hS
    have c11 := ci_nlt c11
    refine lv_aload_n hx hb dX12_shift_25 rfl (lv_at hl 0 rfl) ?_
    refine va_get (D := D) (ci := 12) (v := .ref (r12 59)) (C := RX12) (T := TX12) (N := 63) hx hb hts w1 hown hK.1 hP 0 rfl rfl 59 (by decide) w0 (fun _ h9 => h9) rfl dX12_shift_26 ?_
    refine lv_iload_n hx hb dX12_shift_29 rfl (lv_at hl 3 rfl) ?_
    refine va_iald hx hb hK.1 hP 1 1 rfl rfl (i := p3) (ix (by omega) (by omega)) dX12_shift_30 ?_
    refine lv_topi (fun x12 e13 => ?_)
    refine lv_if_ge (tgt := 37) hx hb dX12_shift_31 (by decide) (fun c14 => ?_) (fun c14 => ?_)
    · have c14 := ci_le c14
      refine lv_aload_n hx hb dX12_shift_37 rfl (lv_at hl 0 rfl) ?_
      refine va_get (D := D) (ci := 12) (v := .ref (r12 59)) (C := RX12) (T := TX12) (N := 63) hx hb hts w1 hown hK.1 hP 0 rfl rfl 59 (by decide) w0 (fun _ h9 => h9) rfl dX12_shift_38 ?_
      refine lv_iload_n hx hb dX12_shift_41 rfl (lv_at hl 1 rfl) ?_
      refine va_iald hx hb hK.1 hP 1 1 rfl rfl (i := p1) (ix (by omega) (by omega)) dX12_shift_42 ?_
      refine lv_topi (fun x15 e16 => ?_)
      refine lv_bipush (v := 50) hx hb dX12_shift_43 (by decide) ?_
      refine lv_icmp_lt (tgt := 63) hx hb dX12_shift_45 (by decide) (fun c17 => ?_) (fun c17 => ?_)
      · have c17 := ci_lt c17
        refine lv_bipush (v := (-12)) hx hb dX12_shift_63 (by decide) ?_
        exact ret _ _ _ _ (-12) (f12_items, f12_carried) dX12_shift_65 trivial hP hD hS
      have c17 := ci_nlt c17
      refine lv_aload_n hx hb dX12_shift_48 rfl (lv_at hl 0 rfl) ?_
      refine va_get (D := D) (ci := 12) (v := .ref (r12 59)) (C := RX12) (T := TX12) (N := 63) hx hb hts w1 hown hK.1 hP 0 rfl rfl 59 (by decide) w0 (fun _ h9 => h9) rfl dX12_shift_49 ?_
      refine lv_iload_n hx hb dX12_shift_52 rfl (lv_at hl 1 rfl) ?_
      refine va_iald hx hb hK.1 hP 1 1 rfl rfl (i := p1) (ix (by omega) (by omega)) dX12_shift_53 ?_
      refine lv_topi (fun x18 e19 => ?_)
      refine lv_aload_n hx hb dX12_shift_54 rfl (lv_at hl 0 rfl) ?_
      refine va_get (D := D) (ci := 12) (v := .ref (r12 59)) (C := RX12) (T := TX12) (N := 63) hx hb hts w1 hown hK.1 hP 0 rfl rfl 59 (by decide) w0 (fun _ h9 => h9) rfl dX12_shift_55 ?_
      refine lv_iload_n hx hb dX12_shift_58 rfl (lv_at hl 3 rfl) ?_
      refine va_iald hx hb hK.1 hP 1 1 rfl rfl (i := p3) (ix (by omega) (by omega)) dX12_shift_59 ?_
      refine lv_topi (fun x20 e21 => ?_)
      refine lv_icmp_eq (tgt := 66) hx hb dX12_shift_60 (by decide) (fun c22 => ?_) (fun c22 => ?_)
      · have c22 := ci_eq c22
        refine lv_iload hx hb dX12_shift_66 (lv_at hl 5 rfl) ?_
        refine lv_if_lt (tgt := 107) hx hb dX12_shift_68 (by decide) (fun c23 => ?_) (fun c23 => ?_)
        · have c23 := ci_lt c23
          refine lv_bipush (v := (-13)) hx hb dX12_shift_107 (by decide) ?_
          exact ret _ _ _ _ (-13) (f12_items, f12_carried) dX12_shift_109 trivial hP hD hS
        have c23 := ci_nlt c23
        refine lv_iload_n hx hb dX12_shift_71 rfl (lv_at hl 2 rfl) ?_
        refine lv_if_lt (tgt := 107) hx hb dX12_shift_72 (by decide) (fun c24 => ?_) (fun c24 => ?_)
        · have c24 := ci_lt c24
          refine lv_bipush (v := (-13)) hx hb dX12_shift_107 (by decide) ?_
          exact ret _ _ _ _ (-13) (f12_items, f12_carried) dX12_shift_109 trivial hP hD hS
        have c24 := ci_nlt c24
        refine lv_iload hx hb dX12_shift_75 (lv_at hl 4 rfl) ?_
        refine lv_if_lt (tgt := 107) hx hb dX12_shift_77 (by decide) (fun c25 => ?_) (fun c25 => ?_)
        · have c25 := ci_lt c25
          refine lv_bipush (v := (-13)) hx hb dX12_shift_107 (by decide) ?_
          exact ret _ _ _ _ (-13) (f12_items, f12_carried) dX12_shift_109 trivial hP hD hS
        have c25 := ci_nlt c25
        refine lv_iload_n hx hb dX12_shift_80 rfl (lv_at hl 2 rfl) ?_
        refine lv_aload_n hx hb dX12_shift_81 rfl (lv_at hl 0 rfl) ?_
        refine va_get (D := D) (ci := 12) (v := .ref (r12 60)) (C := RX12) (T := TX12) (N := 63) hx hb hts w1 hown hK.1 hP 0 rfl rfl 60 (by decide) w2 (fun _ h9 => h9) rfl dX12_shift_82 ?_
        refine lv_iload_n hx hb dX12_shift_85 rfl (lv_at hl 1 rfl) ?_
        refine va_iald hx hb hK.1 hP 2 1 rfl rfl (i := p1) (ix (by omega) (by omega)) dX12_shift_86 ?_
        refine lv_topi (fun x26 e27 => ?_)
        have h28 : 0 ≤ x26.toInt ∧ x26.toInt ≤ 60 := by rw [e27]; exact hf12_many _
        refine lv_iload hx hb dX12_shift_87 (lv_at hl 5 rfl) ?_
        refine lv_isub hx hb dX12_shift_89 ?_
        refine lv_topi (fun x29 e30 => ?_)
        try have h31 : x29.toInt = x26.toInt - p5.toInt := ci_sub e30 (by omega) (by omega)
        refine lv_icmp_gt (tgt := 107) hx hb dX12_shift_90 (by decide) (fun c32 => ?_) (fun c32 => ?_)
        · have c32 := ci_lt c32
          refine lv_bipush (v := (-13)) hx hb dX12_shift_107 (by decide) ?_
          exact ret _ _ _ _ (-13) (f12_items, f12_carried) dX12_shift_109 trivial hP hD hS
        have c32 := ci_nlt c32
        refine lv_iload hx hb dX12_shift_93 (lv_at hl 4 rfl) ?_
        refine lv_aload_n hx hb dX12_shift_95 rfl (lv_at hl 0 rfl) ?_
        refine va_get (D := D) (ci := 12) (v := .ref (r12 60)) (C := RX12) (T := TX12) (N := 63) hx hb hts w1 hown hK.1 hP 0 rfl rfl 60 (by decide) w2 (fun _ h9 => h9) rfl dX12_shift_96 ?_
        refine lv_iload_n hx hb dX12_shift_99 rfl (lv_at hl 3 rfl) ?_
        refine va_iald hx hb hK.1 hP 2 1 rfl rfl (i := p3) (ix (by omega) (by omega)) dX12_shift_100 ?_
        refine lv_topi (fun x33 e34 => ?_)
        have h35 : 0 ≤ x33.toInt ∧ x33.toInt ≤ 60 := by rw [e34]; exact hf12_many _
        refine lv_iload hx hb dX12_shift_101 (lv_at hl 5 rfl) ?_
        refine lv_isub hx hb dX12_shift_103 ?_
        refine lv_topi (fun x36 e37 => ?_)
        try have h38 : x36.toInt = x33.toInt - p5.toInt := ci_sub e37 (by omega) (by omega)
        refine lv_icmp_le (tgt := 110) hx hb dX12_shift_104 (by decide) (fun c39 => ?_) (fun c39 => ?_)
        · have c39 := ci_le c39
          refine lv_iconst (v := 0) hx hb dX12_shift_110 (by decide) ?_
          refine lv_istore (lv' := [(6, .int 0), (0, .ref a12), (1, .int p1), (2, .int p2), (3, .int p3), (4, .int p4), (5, .int p5)]) hx hb dX12_shift_111 hl (by decide) rfl (fun ls hl => ?_)
          have lp113 : ∀ (n113 : Nat) (k40 : Int32) (g41 : Nat → Int64), (0 ≤ k40.toInt) → (p5.toInt - k40.toInt).toNat < n113 → ∀ (H : Heap) (locs : List Loc), va_P D vwCl [O12 a12 r12 v12_keptMany v12_done v12_sheets v12_holes v12_worms v12_laidMany v12_wanted v12_orderMany v12_firstOrder v12_lines v12_marks v12_dots v12_madeIn v12_bound v12_places v12_maps v12_tapeMany v12_stories v12_base v12_at v12_ends v12_fault v12_opened v12_bodies v12_ran v12_ownKind v12_ownNumber, (cI κ (r12 59) 6 f12_shelf), (cI κ (r12 60) 6 f12_many), (cJ κ (r12 61) 360 f12_items), (cJ κ (r12 62) 60 g41)] H → va_D A [O12 a12 r12 v12_keptMany v12_done v12_sheets v12_holes v12_worms v12_laidMany v12_wanted v12_orderMany v12_firstOrder v12_lines v12_marks v12_dots v12_madeIn v12_bound v12_places v12_maps v12_tapeMany v12_stories v12_base v12_at v12_ends v12_fault v12_opened v12_bodies v12_ran v12_ownKind v12_ownNumber, (cI κ (r12 59) 6 f12_shelf), (cI κ (r12 60) 6 f12_many), (cJ κ (r12 61) 360 f12_items), (cJ κ (r12 62) 60 g41)] → va_S A s.heap H locs → ∀ ls : Array Slot, lv_has ls 7 [(6, .int k40), (0, .ref a12), (1, .int p1), (2, .int p2), (3, .int p3), (4, .int p4), (5, .int p5)] → W p l e ({ frames := 2, cells := 0, slots := 0, locals := 45 } : Room) s m args below meth c H locs 0 0 Q (F0 m 113 ls []) := by
            intro n113
            induction n113 with
            | zero =>
              intro k40 g41 h42 m43
              exact absurd m43 (Nat.not_lt_zero _)
            | succ n113 ih113 =>
              intro k40 g41 h42 m43 H locs hP hD hS ls hl
              refine lv_iload hx hb dX12_shift_113 (lv_at hl 0 rfl) ?_
              refine lv_iload hx hb dX12_shift_115 (lv_at hl 6 rfl) ?_
              refine lv_icmp_ge (tgt := 147) hx hb dX12_shift_117 (by decide) (fun c44 => ?_) (fun c44 => ?_)
              · have c44 := ci_le c44
                refine lv_iconst (v := 0) hx hb dX12_shift_147 (by decide) ?_
                refine lv_istore (lv' := [(6, .int 0), (0, .ref a12), (1, .int p1), (2, .int p2), (3, .int p3), (4, .int p4), (5, .int p5)]) hx hb dX12_shift_148 hl (by decide) rfl (fun ls hl => ?_)
                have lp150 : ∀ (n150 : Nat) (k45 : Int32) (g46 : Nat → Int64), (0 ≤ k45.toInt) → (p5.toInt - k45.toInt).toNat < n150 → ∀ (H : Heap) (locs : List Loc), va_P D vwCl [O12 a12 r12 v12_keptMany v12_done v12_sheets v12_holes v12_worms v12_laidMany v12_wanted v12_orderMany v12_firstOrder v12_lines v12_marks v12_dots v12_madeIn v12_bound v12_places v12_maps v12_tapeMany v12_stories v12_base v12_at v12_ends v12_fault v12_opened v12_bodies v12_ran v12_ownKind v12_ownNumber, (cI κ (r12 59) 6 f12_shelf), (cI κ (r12 60) 6 f12_many), (cJ κ (r12 61) 360 g46), (cJ κ (r12 62) 60 g41)] H → va_D A [O12 a12 r12 v12_keptMany v12_done v12_sheets v12_holes v12_worms v12_laidMany v12_wanted v12_orderMany v12_firstOrder v12_lines v12_marks v12_dots v12_madeIn v12_bound v12_places v12_maps v12_tapeMany v12_stories v12_base v12_at v12_ends v12_fault v12_opened v12_bodies v12_ran v12_ownKind v12_ownNumber, (cI κ (r12 59) 6 f12_shelf), (cI κ (r12 60) 6 f12_many), (cJ κ (r12 61) 360 g46), (cJ κ (r12 62) 60 g41)] → va_S A s.heap H locs → ∀ ls : Array Slot, lv_has ls 7 [(6, .int k45), (0, .ref a12), (1, .int p1), (2, .int p2), (3, .int p3), (4, .int p4), (5, .int p5)] → W p l e ({ frames := 2, cells := 0, slots := 0, locals := 45 } : Room) s m args below meth c H locs 0 0 Q (F0 m 150 ls []) := by
                  intro n150
                  induction n150 with
                  | zero =>
                    intro k45 g46 h47 m48
                    exact absurd m48 (Nat.not_lt_zero _)
                  | succ n150 ih150 =>
                    intro k45 g46 h47 m48 H locs hP hD hS ls hl
                    refine lv_iload hx hb dX12_shift_150 (lv_at hl 0 rfl) ?_
                    refine lv_iload hx hb dX12_shift_152 (lv_at hl 6 rfl) ?_
                    refine lv_icmp_ge (tgt := 185) hx hb dX12_shift_154 (by decide) (fun c49 => ?_) (fun c49 => ?_)
                    · have c49 := ci_le c49
                      refine lv_iload hx hb dX12_shift_185 (lv_at hl 6 rfl) ?_
                      exact ret _ _ _ _ p5 (g46, g41) dX12_shift_187 trivial hP hD hS
                    have c49 := ci_nle c49
                    refine lv_aload_n hx hb dX12_shift_157 rfl (lv_at hl 1 rfl) ?_
                    refine va_get (D := D) (ci := 12) (v := .ref (r12 61)) (C := RX12) (T := TX12) (N := 63) hx hb hts w1 hown hK.1 hP 0 rfl rfl 61 (by decide) w3 (fun _ h9 => h9) rfl dX12_shift_158 ?_
                    refine lv_bipush (v := 60) hx hb dX12_shift_161 (by decide) ?_
                    refine lv_iload_n hx hb dX12_shift_163 rfl (lv_at hl 4 rfl) ?_
                    refine lv_imul hx hb dX12_shift_164 ?_
                    refine lv_topi (fun x50 e51 => ?_)
                    try have h52 : x50.toInt = 60 * p3.toInt := ci_mulL (n := 60) (by decide) e51 (by omega) (by omega)
                    refine lv_iload hx hb dX12_shift_165 (lv_at hl 5 rfl) ?_
                    refine lv_iadd hx hb dX12_shift_167 ?_
                    refine lv_topi (fun x53 e54 => ?_)
                    try have h55 : x53.toInt = x50.toInt + p4.toInt := ci_add e54 (by omega) (by omega)
                    refine lv_iload hx hb dX12_shift_168 (lv_at hl 0 rfl) ?_
                    refine lv_iadd hx hb dX12_shift_170 ?_
                    refine lv_topi (fun x56 e57 => ?_)
                    try have h58 : x56.toInt = x53.toInt + k45.toInt := ci_add e57 (by omega) (by omega)
                    refine lv_aload_n hx hb dX12_shift_171 rfl (lv_at hl 1 rfl) ?_
                    refine va_get (D := D) (ci := 12) (v := .ref (r12 62)) (C := RX12) (T := TX12) (N := 63) hx hb hts w1 hown hK.1 hP 0 rfl rfl 62 (by decide) w4 (fun _ h9 => h9) rfl dX12_shift_172 ?_
                    refine lv_iload hx hb dX12_shift_175 (lv_at hl 0 rfl) ?_
                    refine va_lald hx hb hK.1 hP 4 2 rfl rfl (i := k45) (ix (by omega) (by omega)) dX12_shift_177 ?_
                    refine lv_topl (fun x59 e60 => ?_)
                    refine va_last hx hb hK.1 hP hD hS 3 2 rfl rfl (i := x56) (ix (by omega) (by omega)) dX12_shift_178 (fun H locs hP hD hS => ?_)
                    obtain ⟨g61, e62⟩ : ∃ y : Nat → Int64, y = vp_updL g46 x56.toNatClampNeg x59 := ⟨_, rfl⟩
                    rw [← e62] at hP hD
                    obtain ⟨hP, hD⟩ : PD D A [O12 a12 r12 v12_keptMany v12_done v12_sheets v12_holes v12_worms v12_laidMany v12_wanted v12_orderMany v12_firstOrder v12_lines v12_marks v12_dots v12_madeIn v12_bound v12_places v12_maps v12_tapeMany v12_stories v12_base v12_at v12_ends v12_fault v12_opened v12_bodies v12_ran v12_ownKind v12_ownNumber, (cI κ (r12 59) 6 f12_shelf), (cI κ (r12 60) 6 f12_many), (cJ κ (r12 61) 360 g61), (cJ κ (r12 62) 60 g41)] H := ⟨hP, hD⟩
                    obtain ⟨x63, e64⟩ : ∃ y : Int32, y = k45 + 1 := ⟨_, rfl⟩
                    refine lv_iinc (v := x63) (lv' := [(6, .int x63), (0, .ref a12), (1, .int p1), (2, .int p2), (3, .int p3), (4, .int p4), (5, .int p5)]) hx hb dX12_shift_179 hl (k := 0) rfl (by rw [e64]; rfl) (by decide) rfl (fun ls hl => ?_)
                    try have h65 : x63.toInt = k45.toInt + (1 : Int32).toInt := ci_add e64 (by omega) (by omega)
                    refine lv_goto (tgt := 150) hx hb dX12_shift_182 (by decide) ?_
                    exact ih150 x63 g61 (by omega) (by omega) _ _ hP hD hS _ hl
                exact lp150 ((p5.toInt - (0 : Int32).toInt).toNat + 1) 0 f12_items (by omega) (by omega) _ _ hP hD hS _ hl
              have c44 := ci_nle c44
              refine lv_aload_n hx hb dX12_shift_120 rfl (lv_at hl 1 rfl) ?_
              refine va_get (D := D) (ci := 12) (v := .ref (r12 62)) (C := RX12) (T := TX12) (N := 63) hx hb hts w1 hown hK.1 hP 0 rfl rfl 62 (by decide) w4 (fun _ h9 => h9) rfl dX12_shift_121 ?_
              refine lv_iload hx hb dX12_shift_124 (lv_at hl 0 rfl) ?_
              refine lv_aload_n hx hb dX12_shift_126 rfl (lv_at hl 1 rfl) ?_
              refine va_get (D := D) (ci := 12) (v := .ref (r12 61)) (C := RX12) (T := TX12) (N := 63) hx hb hts w1 hown hK.1 hP 0 rfl rfl 61 (by decide) w3 (fun _ h9 => h9) rfl dX12_shift_127 ?_
              refine lv_bipush (v := 60) hx hb dX12_shift_130 (by decide) ?_
              refine lv_iload_n hx hb dX12_shift_132 rfl (lv_at hl 2 rfl) ?_
              refine lv_imul hx hb dX12_shift_133 ?_
              refine lv_topi (fun x66 e67 => ?_)
              try have h68 : x66.toInt = 60 * p1.toInt := ci_mulL (n := 60) (by decide) e67 (by omega) (by omega)
              refine lv_iload_n hx hb dX12_shift_134 rfl (lv_at hl 3 rfl) ?_
              refine lv_iadd hx hb dX12_shift_135 ?_
              refine lv_topi (fun x69 e70 => ?_)
              try have h71 : x69.toInt = x66.toInt + p2.toInt := ci_add e70 (by omega) (by omega)
              refine lv_iload hx hb dX12_shift_136 (lv_at hl 0 rfl) ?_
              refine lv_iadd hx hb dX12_shift_138 ?_
              refine lv_topi (fun x72 e73 => ?_)
              try have h74 : x72.toInt = x69.toInt + k40.toInt := ci_add e73 (by omega) (by omega)
              refine va_lald hx hb hK.1 hP 3 2 rfl rfl (i := x72) (ix (by omega) (by omega)) dX12_shift_139 ?_
              refine lv_topl (fun x75 e76 => ?_)
              refine va_last hx hb hK.1 hP hD hS 4 2 rfl rfl (i := k40) (ix (by omega) (by omega)) dX12_shift_140 (fun H locs hP hD hS => ?_)
              obtain ⟨g77, e78⟩ : ∃ y : Nat → Int64, y = vp_updL g41 k40.toNatClampNeg x75 := ⟨_, rfl⟩
              rw [← e78] at hP hD
              obtain ⟨hP, hD⟩ : PD D A [O12 a12 r12 v12_keptMany v12_done v12_sheets v12_holes v12_worms v12_laidMany v12_wanted v12_orderMany v12_firstOrder v12_lines v12_marks v12_dots v12_madeIn v12_bound v12_places v12_maps v12_tapeMany v12_stories v12_base v12_at v12_ends v12_fault v12_opened v12_bodies v12_ran v12_ownKind v12_ownNumber, (cI κ (r12 59) 6 f12_shelf), (cI κ (r12 60) 6 f12_many), (cJ κ (r12 61) 360 f12_items), (cJ κ (r12 62) 60 g77)] H := ⟨hP, hD⟩
              obtain ⟨x79, e80⟩ : ∃ y : Int32, y = k40 + 1 := ⟨_, rfl⟩
              refine lv_iinc (v := x79) (lv' := [(6, .int x79), (0, .ref a12), (1, .int p1), (2, .int p2), (3, .int p3), (4, .int p4), (5, .int p5)]) hx hb dX12_shift_141 hl (k := 0) rfl (by rw [e80]; rfl) (by decide) rfl (fun ls hl => ?_)
              try have h81 : x79.toInt = k40.toInt + (1 : Int32).toInt := ci_add e80 (by omega) (by omega)
              refine lv_goto (tgt := 113) hx hb dX12_shift_144 (by decide) ?_
              exact ih113 x79 g77 (by omega) (by omega) _ _ hP hD hS _ hl
          exact lp113 ((p5.toInt - (0 : Int32).toInt).toNat + 1) 0 f12_carried (by omega) (by omega) _ _ hP hD hS _ hl
        have c39 := ci_nle c39
        refine lv_bipush (v := (-13)) hx hb dX12_shift_107 (by decide) ?_
        exact ret _ _ _ _ (-13) (f12_items, f12_carried) dX12_shift_109 trivial hP hD hS
      have c22 := ci_ne c22
      refine lv_bipush (v := (-12)) hx hb dX12_shift_63 (by decide) ?_
      exact ret _ _ _ _ (-12) (f12_items, f12_carried) dX12_shift_65 trivial hP hD hS
    have c14 := ci_nle c14
    refine lv_bipush (v := (-11)) hx hb dX12_shift_34 (by decide) ?_
    exact ret _ _ _ _ (-11) (f12_items, f12_carried) dX12_shift_36 trivial hP hD hS
  have c8 := ci_eq c8
  refine lv_iconst (v := (-1)) hx hb dX12_shift_14 (by decide) ?_
  exact ret _ _ _ _ (-1) (f12_items, f12_carried) dX12_shift_15 trivial hP hD hS
set_option maxHeartbeats 4000000 in
set_option maxRecDepth 100000 in
theorem k_X12_count (l : Launch) (D : va_G) (κ : Nat → ClassId) (β : Nat) (a12 : Nat) (r12 : Nat → Nat) (v12_keptMany : Int32) (v12_done : Int32) (v12_sheets : Int32) (v12_holes : Int32) (v12_worms : Int32) (v12_laidMany : Int32) (v12_wanted : Int32) (v12_orderMany : Int32) (v12_firstOrder : Int32) (v12_lines : Int32) (v12_marks : Int32) (v12_dots : Int32) (v12_madeIn : Int32) (v12_bound : Int32) (v12_places : Int32) (v12_maps : Int32) (v12_tapeMany : Int32) (v12_stories : Int32) (v12_base : Int32) (v12_at : Int32) (v12_ends : Int32) (v12_fault : Int32) (v12_opened : Int32) (v12_bodies : Int32) (v12_ran : Int32) (v12_ownKind : Int32) (v12_ownNumber : Int32) (sz : Nat) (p1 : Int32) (i1 : Rg 0 40 v12_keptMany) (i2 : Rg 0 40 v12_done) (i3 : Rg 0 8 v12_sheets) (i4 : Rg 0 40 v12_holes) (i5 : Rg 0 40 v12_worms) (i6 : Rg 0 8 v12_laidMany) (i7 : Rg 0 8 v12_wanted) (i8 : Rg 0 20 v12_lines) (i9 : Rg 0 60 v12_marks) (i10 : Rg 0 40 v12_dots) (i11 : Rg 0 20 v12_places) (i12 : Rg 0 8 v12_maps) (i13 : Rg 0 120 v12_tapeMany) (i14 : Rg 0 6 v12_stories) (i15 : Rg 0 50 v12_bodies) (i16 : Rg 0 1000 v12_ran) (i17 : v12_done.toInt ≤ v12_keptMany.toInt) : Met l yX12_count wsX12_count ({ frames := 0, cells := 0, slots := 0, locals := 0 } : Room) (PcK D κ β [O12 a12 r12 v12_keptMany v12_done v12_sheets v12_holes v12_worms v12_laidMany v12_wanted v12_orderMany v12_firstOrder v12_lines v12_marks v12_dots v12_madeIn v12_bound v12_places v12_maps v12_tapeMany v12_stories v12_base v12_at v12_ends v12_fault v12_opened v12_bodies v12_ran v12_ownKind v12_ownNumber] sz [.ref a12, .int p1]) (QiK D (fun (r : Int32) (u : Unit) => True) (fun (u : Unit) => [O12 a12 r12 v12_keptMany v12_done v12_sheets v12_holes v12_worms v12_laidMany v12_wanted v12_orderMany v12_firstOrder v12_lines v12_marks v12_dots v12_madeIn v12_bound v12_places v12_maps v12_tapeMany v12_stories v12_base v12_at v12_ends v12_fault v12_opened v12_bodies v12_ran v12_ownKind v12_ownNumber]) [O12 a12 r12 v12_keptMany v12_done v12_sheets v12_holes v12_worms v12_laidMany v12_wanted v12_orderMany v12_firstOrder v12_lines v12_marks v12_dots v12_madeIn v12_bound v12_places v12_maps v12_tapeMany v12_stories v12_base v12_at v12_ends v12_fault v12_opened v12_bodies v12_ran v12_ownKind v12_ownNumber] sz) 0 0 (va_A [O12 a12 r12 v12_keptMany v12_done v12_sheets v12_holes v12_worms v12_laidMany v12_wanted v12_orderMany v12_firstOrder v12_lines v12_marks v12_dots v12_madeIn v12_bound v12_places v12_maps v12_tapeMany v12_stories v12_base v12_at v12_ends v12_fault v12_opened v12_bodies v12_ran v12_ownKind v12_ownNumber] sz) := by
  refine ofK_i (cc := cX12_count) (maxL := 2) (own := RX12) (by decide) rfl rfl (Nat.le_of_ble_eq_true rfl) ?_
  intro p e s m args below meth c Q A ls hsz hx hb hml hts hown hK hA hAB hP hD hl ret
  have hS : va_S A s.heap s.heap [] := va_S.rf
  have hl : lv_has ls 2 [(0, .ref a12), (1, .int p1)] := hl
  have w0 := hts (.fieldLink RX12 133 "OlderSkinModel" "sheets" "I") (List.mem_of_getElem? (i := 1) rfl)
  have w1 := (fun w h => List.mem_cons_of_mem _ (List.mem_append_right _ h) : ∀ w ∈ u_ws RX12 TX12 63, w ∈ wsX12_count)
  have w2 := hts (.fieldLink RX12 140 "OlderSkinModel" "holes" "I") (List.mem_of_getElem? (i := 2) rfl)
  have w3 := hts (.fieldLink RX12 200 "OlderSkinModel" "lines" "I") (List.mem_of_getElem? (i := 3) rfl)
  have w4 := hts (.fieldLink RX12 203 "OlderSkinModel" "marks" "I") (List.mem_of_getElem? (i := 4) rfl)
  have w5 := hts (.fieldLink RX12 227 "OlderSkinModel" "dots" "I") (List.mem_of_getElem? (i := 5) rfl)
  have w6 := hts (.fieldLink RX12 262 "OlderSkinModel" "places" "I") (List.mem_of_getElem? (i := 6) rfl)
  have w7 := hts (.fieldLink RX12 277 "OlderSkinModel" "maps" "I") (List.mem_of_getElem? (i := 7) rfl)
  have w8 := hts (.fieldLink RX12 294 "OlderSkinModel" "tapeMany" "I") (List.mem_of_getElem? (i := 8) rfl)
  have w9 := hts (.fieldLink RX12 342 "OlderSkinModel" "stories" "I") (List.mem_of_getElem? (i := 9) rfl)
  have w10 := hts (.fieldLink RX12 127 "OlderSkinModel" "done" "I") (List.mem_of_getElem? (i := 10) rfl)
  have w11 := hts (.fieldLink RX12 379 "OlderSkinModel" "bodies" "I") (List.mem_of_getElem? (i := 11) rfl)
  have w12 := hts (.fieldLink RX12 382 "OlderSkinModel" "ran" "I") (List.mem_of_getElem? (i := 12) rfl)
  have l0 : ((-1) : Int32).toInt = -1 := by decide
  have i1 : 0 ≤ v12_keptMany.toInt ∧ v12_keptMany.toInt ≤ 40 := i1
  have i2 : 0 ≤ v12_done.toInt ∧ v12_done.toInt ≤ 40 := i2
  have i3 : 0 ≤ v12_sheets.toInt ∧ v12_sheets.toInt ≤ 8 := i3
  have i4 : 0 ≤ v12_holes.toInt ∧ v12_holes.toInt ≤ 40 := i4
  have i8 : 0 ≤ v12_lines.toInt ∧ v12_lines.toInt ≤ 20 := i8
  have i9 : 0 ≤ v12_marks.toInt ∧ v12_marks.toInt ≤ 60 := i9
  have i10 : 0 ≤ v12_dots.toInt ∧ v12_dots.toInt ≤ 40 := i10
  have i11 : 0 ≤ v12_places.toInt ∧ v12_places.toInt ≤ 20 := i11
  have i12 : 0 ≤ v12_maps.toInt ∧ v12_maps.toInt ≤ 8 := i12
  have i13 : 0 ≤ v12_tapeMany.toInt ∧ v12_tapeMany.toInt ≤ 120 := i13
  have i14 : 0 ≤ v12_stories.toInt ∧ v12_stories.toInt ≤ 6 := i14
  have i15 : 0 ≤ v12_bodies.toInt ∧ v12_bodies.toInt ≤ 50 := i15
  have i16 : 0 ≤ v12_ran.toInt ∧ v12_ran.toInt ≤ 1000 := i16
  refine lv_iload_n hx hb dX12_count_0 rfl (lv_at hl 1 rfl) ?_
  by_cases c1 : p1.toInt = 0
  · refine lv_tableIn (off := 63) (tgt := 64) hx hb dX12_count_1 (by omega) (by omega) (by rw [c1]; decide) (by decide) ?_
    refine lv_aload_n hx hb dX12_count_64 rfl (lv_at hl 0 rfl) ?_
    refine va_get (D := D) (ci := 12) (v := .int v12_sheets) (C := RX12) (T := TX12) (N := 63) hx hb hts w1 hown hK.1 hP 0 rfl rfl 6 (by decide) w0 (fun _ h9 => h9) rfl dX12_count_65 ?_
    exact ret _ _ _ _ v12_sheets () dX12_count_68 trivial hP hD hS
  by_cases c2 : p1.toInt = 1
  · refine lv_tableIn (off := 68) (tgt := 69) hx hb dX12_count_1 (by omega) (by omega) (by rw [c2]; decide) (by decide) ?_
    refine lv_aload_n hx hb dX12_count_69 rfl (lv_at hl 0 rfl) ?_
    refine va_get (D := D) (ci := 12) (v := .int v12_holes) (C := RX12) (T := TX12) (N := 63) hx hb hts w1 hown hK.1 hP 0 rfl rfl 7 (by decide) w2 (fun _ h9 => h9) rfl dX12_count_70 ?_
    exact ret _ _ _ _ v12_holes () dX12_count_73 trivial hP hD hS
  by_cases c3 : p1.toInt = 2
  · refine lv_tableIn (off := 73) (tgt := 74) hx hb dX12_count_1 (by omega) (by omega) (by rw [c3]; decide) (by decide) ?_
    refine lv_aload_n hx hb dX12_count_74 rfl (lv_at hl 0 rfl) ?_
    refine va_get (D := D) (ci := 12) (v := .int v12_lines) (C := RX12) (T := TX12) (N := 63) hx hb hts w1 hown hK.1 hP 0 rfl rfl 20 (by decide) w3 (fun _ h9 => h9) rfl dX12_count_75 ?_
    exact ret _ _ _ _ v12_lines () dX12_count_78 trivial hP hD hS
  by_cases c4 : p1.toInt = 3
  · refine lv_tableIn (off := 78) (tgt := 79) hx hb dX12_count_1 (by omega) (by omega) (by rw [c4]; decide) (by decide) ?_
    refine lv_aload_n hx hb dX12_count_79 rfl (lv_at hl 0 rfl) ?_
    refine va_get (D := D) (ci := 12) (v := .int v12_marks) (C := RX12) (T := TX12) (N := 63) hx hb hts w1 hown hK.1 hP 0 rfl rfl 23 (by decide) w4 (fun _ h9 => h9) rfl dX12_count_80 ?_
    exact ret _ _ _ _ v12_marks () dX12_count_83 trivial hP hD hS
  by_cases c5 : p1.toInt = 4
  · refine lv_tableIn (off := 83) (tgt := 84) hx hb dX12_count_1 (by omega) (by omega) (by rw [c5]; decide) (by decide) ?_
    refine lv_aload_n hx hb dX12_count_84 rfl (lv_at hl 0 rfl) ?_
    refine va_get (D := D) (ci := 12) (v := .int v12_dots) (C := RX12) (T := TX12) (N := 63) hx hb hts w1 hown hK.1 hP 0 rfl rfl 27 (by decide) w5 (fun _ h9 => h9) rfl dX12_count_85 ?_
    exact ret _ _ _ _ v12_dots () dX12_count_88 trivial hP hD hS
  by_cases c6 : p1.toInt = 5
  · refine lv_tableIn (off := 88) (tgt := 89) hx hb dX12_count_1 (by omega) (by omega) (by rw [c6]; decide) (by decide) ?_
    refine lv_aload_n hx hb dX12_count_89 rfl (lv_at hl 0 rfl) ?_
    refine va_get (D := D) (ci := 12) (v := .int v12_places) (C := RX12) (T := TX12) (N := 63) hx hb hts w1 hown hK.1 hP 0 rfl rfl 34 (by decide) w6 (fun _ h9 => h9) rfl dX12_count_90 ?_
    exact ret _ _ _ _ v12_places () dX12_count_93 trivial hP hD hS
  by_cases c7 : p1.toInt = 6
  · refine lv_tableIn (off := 93) (tgt := 94) hx hb dX12_count_1 (by omega) (by omega) (by rw [c7]; decide) (by decide) ?_
    refine lv_aload_n hx hb dX12_count_94 rfl (lv_at hl 0 rfl) ?_
    refine va_get (D := D) (ci := 12) (v := .int v12_maps) (C := RX12) (T := TX12) (N := 63) hx hb hts w1 hown hK.1 hP 0 rfl rfl 38 (by decide) w7 (fun _ h9 => h9) rfl dX12_count_95 ?_
    exact ret _ _ _ _ v12_maps () dX12_count_98 trivial hP hD hS
  by_cases c8 : p1.toInt = 7
  · refine lv_tableIn (off := 98) (tgt := 99) hx hb dX12_count_1 (by omega) (by omega) (by rw [c8]; decide) (by decide) ?_
    refine lv_aload_n hx hb dX12_count_99 rfl (lv_at hl 0 rfl) ?_
    refine va_get (D := D) (ci := 12) (v := .int v12_tapeMany) (C := RX12) (T := TX12) (N := 63) hx hb hts w1 hown hK.1 hP 0 rfl rfl 42 (by decide) w8 (fun _ h9 => h9) rfl dX12_count_100 ?_
    exact ret _ _ _ _ v12_tapeMany () dX12_count_103 trivial hP hD hS
  by_cases c9 : p1.toInt = 8
  · refine lv_tableIn (off := 103) (tgt := 104) hx hb dX12_count_1 (by omega) (by omega) (by rw [c9]; decide) (by decide) ?_
    refine lv_aload_n hx hb dX12_count_104 rfl (lv_at hl 0 rfl) ?_
    refine va_get (D := D) (ci := 12) (v := .int v12_stories) (C := RX12) (T := TX12) (N := 63) hx hb hts w1 hown hK.1 hP 0 rfl rfl 43 (by decide) w9 (fun _ h9 => h9) rfl dX12_count_105 ?_
    exact ret _ _ _ _ v12_stories () dX12_count_108 trivial hP hD hS
  by_cases c10 : p1.toInt = 9
  · refine lv_tableIn (off := 108) (tgt := 109) hx hb dX12_count_1 (by omega) (by omega) (by rw [c10]; decide) (by decide) ?_
    refine lv_aload_n hx hb dX12_count_109 rfl (lv_at hl 0 rfl) ?_
    refine va_get (D := D) (ci := 12) (v := .int v12_done) (C := RX12) (T := TX12) (N := 63) hx hb hts w1 hown hK.1 hP 0 rfl rfl 5 (by decide) w10 (fun _ h9 => h9) rfl dX12_count_110 ?_
    exact ret _ _ _ _ v12_done () dX12_count_113 trivial hP hD hS
  by_cases c11 : p1.toInt = 10
  · refine lv_tableIn (off := 113) (tgt := 114) hx hb dX12_count_1 (by omega) (by omega) (by rw [c11]; decide) (by decide) ?_
    refine lv_aload_n hx hb dX12_count_114 rfl (lv_at hl 0 rfl) ?_
    refine va_get (D := D) (ci := 12) (v := .int v12_bodies) (C := RX12) (T := TX12) (N := 63) hx hb hts w1 hown hK.1 hP 0 rfl rfl 53 (by decide) w11 (fun _ h9 => h9) rfl dX12_count_115 ?_
    exact ret _ _ _ _ v12_bodies () dX12_count_118 trivial hP hD hS
  by_cases c12 : p1.toInt = 11
  · refine lv_tableIn (off := 118) (tgt := 119) hx hb dX12_count_1 (by omega) (by omega) (by rw [c12]; decide) (by decide) ?_
    refine lv_aload_n hx hb dX12_count_119 rfl (lv_at hl 0 rfl) ?_
    refine va_get (D := D) (ci := 12) (v := .int v12_ran) (C := RX12) (T := TX12) (N := 63) hx hb hts w1 hown hK.1 hP 0 rfl rfl 56 (by decide) w12 (fun _ h9 => h9) rfl dX12_count_120 ?_
    exact ret _ _ _ _ v12_ran () dX12_count_123 trivial hP hD hS
  refine lv_tableOut (tgt := 124) hx hb dX12_count_1 (by omega) (by decide) ?_
  refine lv_iconst (v := (-1)) hx hb dX12_count_124 (by decide) ?_
  exact ret _ _ _ _ (-1) () dX12_count_125 trivial hP hD hS
