theorem dec_and {x y z : Int32} (e1 : y = x - 1) (e2 : z = x &&& y) (h : x.toInt ≠ 0) : (z.toBitVec.toNat : Int) < (x.toBitVec.toNat : Int) := by
  have h0 : x.toBitVec ≠ 0#32 := fun q => h (by
    have : x = 0 := Int32.toBitVec_inj.mp q
    rw [this]; decide)
  have hn : x.toBitVec.toNat ≠ 0 := fun q => h0 (BitVec.eq_of_toNat_eq q)
  have hy : y.toBitVec = x.toBitVec - 1#32 := by rw [e1]; rfl
  have hy2 : y.toBitVec.toNat = x.toBitVec.toNat - 1 := by
    rw [hy, BitVec.toNat_sub]
    have := x.toBitVec.isLt
    show (2 ^ 32 - 1 + x.toBitVec.toNat) % 2 ^ 32 = _
    omega
  have hz : z.toBitVec.toNat = x.toBitVec.toNat &&& y.toBitVec.toNat := by
    rw [e2]
    exact BitVec.toNat_and _ _
  have h2 : x.toBitVec.toNat &&& y.toBitVec.toNat ≤ y.toBitVec.toNat := Nat.and_le_right
  omega
def noF (f : Nat → Int32) (y n : Int) : Prop := ∀ j : Nat, (j : Int) < n → ¬ (f j).toInt < y
theorem noF_zero {f : Nat → Int32} {y n : Int} (h : n ≤ 0) : noF f y n := fun j q => by omega
theorem noF_step {f : Nat → Int32} {y : Int} {z k k' : Int32} (h : 0 ≤ z.toInt ∨ noF f y k.toInt) (hk : 0 ≤ k.toInt) (h1 : k'.toInt ≤ k.toInt + 1) (h2 : y ≤ (f k.toNatClampNeg).toInt) : 0 ≤ z.toInt ∨ noF f y k'.toInt := by
  rcases h with h | h
  · exact Or.inl h
  · refine Or.inr (fun j q => ?_)
    by_cases e : (j : Int) < k.toInt
    · exact h j e
    · have e2 := ci_clamp (i := k) hk
      have e3 : j = k.toNatClampNeg := by omega
      rw [e3]; omega
theorem noF_le {f : Nat → Int32} {y n : Int} {z k : Int32} (h : 0 ≤ z.toInt ∨ noF f y k.toInt) (h1 : n ≤ k.toInt) : 0 ≤ z.toInt ∨ noF f y n :=
  h.imp id (fun h j q => h j (by omega))
theorem noF_no {f : Nat → Int32} {y n : Int} {z r : Int32} (h : 0 ≤ z.toInt ∨ noF f y n) (hr : r.toInt < 0 ∨ 0 ≤ r.toInt ∧ r.toInt < n ∧ (f r.toNatClampNeg).toInt < y) (h0 : ¬ r.toInt < 0) : 0 ≤ z.toInt := by
  rcases h with h | h
  · exact h
  · rcases hr with q | ⟨q1, q2, q3⟩
    · exact absurd q h0
    · have e2 := ci_clamp (i := r) q1
      exact absurd q3 (h _ (by omega))
set_option maxHeartbeats 4000000 in
set_option maxRecDepth 100000 in
theorem k_X12_bitsOf (l : Launch) (D : va_G) (κ : Nat → ClassId) (β : Nat) (sz : Nat) (p1 : Int32) (i1 : (1 : Int) ≤ 0) : Met l yX12_bitsOf wsX12_bitsOf ({ frames := 1, cells := 0, slots := 0, locals := 30 } : Room) (PcK D κ β [] sz [.int p1]) (QiK D (fun (r : Int32) (u : Unit) => True) (fun (u : Unit) => []) [] sz) 0 0 (va_A [] sz) := by
  refine ofK_i (cc := cX12_bitsOf) (maxL := 3) (own := RX12) (by decide) rfl rfl (Nat.le_of_ble_eq_true rfl) ?_
  intro p e s m args below meth c Q A ls hsz hx hb hml hts hown hK hA hAB hP hD hl ret
  have hS : va_S A s.heap s.heap [] := va_S.rf
  have hl : lv_has ls 3 [(0, .int p1)] := hl
  exfalso
  omega
set_option maxHeartbeats 4000000 in
set_option maxRecDepth 100000 in
theorem k_X12_unlike (l : Launch) (D : va_G) (κ : Nat → ClassId) (β : Nat) (a12 : Nat) (r12 : Nat → Nat) (v12_keptMany : Int32) (v12_done : Int32) (v12_sheets : Int32) (v12_holes : Int32) (v12_worms : Int32) (v12_laidMany : Int32) (v12_wanted : Int32) (v12_orderMany : Int32) (v12_firstOrder : Int32) (v12_lines : Int32) (v12_marks : Int32) (v12_dots : Int32) (v12_madeIn : Int32) (v12_bound : Int32) (v12_places : Int32) (v12_maps : Int32) (v12_tapeMany : Int32) (v12_stories : Int32) (v12_base : Int32) (v12_at : Int32) (v12_ends : Int32) (v12_fault : Int32) (v12_opened : Int32) (v12_bodies : Int32) (v12_ran : Int32) (v12_ownKind : Int32) (v12_ownNumber : Int32) (sz : Nat) (p1 : Int32) (p2 : Int32) (i1 : Rg 0 40 v12_keptMany) (i2 : Rg 0 40 v12_done) (i3 : Rg 0 8 v12_sheets) (i4 : Rg 0 40 v12_holes) (i5 : Rg 0 40 v12_worms) (i6 : Rg 0 8 v12_laidMany) (i7 : Rg 0 8 v12_wanted) (i8 : Rg 0 20 v12_lines) (i9 : Rg 0 60 v12_marks) (i10 : Rg 0 40 v12_dots) (i11 : Rg 0 20 v12_places) (i12 : Rg 0 8 v12_maps) (i13 : Rg 0 120 v12_tapeMany) (i14 : Rg 0 6 v12_stories) (i15 : Rg 0 50 v12_bodies) (i16 : Rg 0 1000 v12_ran) (i17 : v12_done.toInt ≤ v12_keptMany.toInt) (i18 : (1 : Int) ≤ 0) : Met l yX12_unlike wsX12_unlike ({ frames := 1, cells := 0, slots := 0, locals := 30 } : Room) (PcK D κ β [O12 a12 r12 v12_keptMany v12_done v12_sheets v12_holes v12_worms v12_laidMany v12_wanted v12_orderMany v12_firstOrder v12_lines v12_marks v12_dots v12_madeIn v12_bound v12_places v12_maps v12_tapeMany v12_stories v12_base v12_at v12_ends v12_fault v12_opened v12_bodies v12_ran v12_ownKind v12_ownNumber] sz [.ref a12, .int p1, .int p2]) (QiK D (fun (r : Int32) (u : Unit) => True) (fun (u : Unit) => [O12 a12 r12 v12_keptMany v12_done v12_sheets v12_holes v12_worms v12_laidMany v12_wanted v12_orderMany v12_firstOrder v12_lines v12_marks v12_dots v12_madeIn v12_bound v12_places v12_maps v12_tapeMany v12_stories v12_base v12_at v12_ends v12_fault v12_opened v12_bodies v12_ran v12_ownKind v12_ownNumber]) [O12 a12 r12 v12_keptMany v12_done v12_sheets v12_holes v12_worms v12_laidMany v12_wanted v12_orderMany v12_firstOrder v12_lines v12_marks v12_dots v12_madeIn v12_bound v12_places v12_maps v12_tapeMany v12_stories v12_base v12_at v12_ends v12_fault v12_opened v12_bodies v12_ran v12_ownKind v12_ownNumber] sz) 0 0 (va_A [O12 a12 r12 v12_keptMany v12_done v12_sheets v12_holes v12_worms v12_laidMany v12_wanted v12_orderMany v12_firstOrder v12_lines v12_marks v12_dots v12_madeIn v12_bound v12_places v12_maps v12_tapeMany v12_stories v12_base v12_at v12_ends v12_fault v12_opened v12_bodies v12_ran v12_ownKind v12_ownNumber] sz) := by
  refine ofK_i (cc := cX12_unlike) (maxL := 3) (own := RX12) (by decide) rfl rfl (Nat.le_of_ble_eq_true rfl) ?_
  intro p e s m args below meth c Q A ls hsz hx hb hml hts hown hK hA hAB hP hD hl ret
  have hS : va_S A s.heap s.heap [] := va_S.rf
  have hl : lv_has ls 3 [(0, .ref a12), (1, .int p1), (2, .int p2)] := hl
  exfalso
  omega
set_option maxHeartbeats 4000000 in
set_option maxRecDepth 100000 in
theorem k_X12_fatherOf (l : Launch) (D : va_G) (κ : Nat → ClassId) (β : Nat) (a12 : Nat) (r12 : Nat → Nat) (v12_keptMany : Int32) (v12_done : Int32) (v12_sheets : Int32) (v12_holes : Int32) (v12_worms : Int32) (v12_laidMany : Int32) (v12_wanted : Int32) (v12_orderMany : Int32) (v12_firstOrder : Int32) (v12_lines : Int32) (v12_marks : Int32) (v12_dots : Int32) (v12_madeIn : Int32) (v12_bound : Int32) (v12_places : Int32) (v12_maps : Int32) (v12_tapeMany : Int32) (v12_stories : Int32) (v12_base : Int32) (v12_at : Int32) (v12_ends : Int32) (v12_fault : Int32) (v12_opened : Int32) (v12_bodies : Int32) (v12_ran : Int32) (v12_ownKind : Int32) (v12_ownNumber : Int32) (sz : Nat) (p1 : Int32) (i1 : Rg 0 40 v12_keptMany) (i2 : Rg 0 40 v12_done) (i3 : Rg 0 8 v12_sheets) (i4 : Rg 0 40 v12_holes) (i5 : Rg 0 40 v12_worms) (i6 : Rg 0 8 v12_laidMany) (i7 : Rg 0 8 v12_wanted) (i8 : Rg 0 20 v12_lines) (i9 : Rg 0 60 v12_marks) (i10 : Rg 0 40 v12_dots) (i11 : Rg 0 20 v12_places) (i12 : Rg 0 8 v12_maps) (i13 : Rg 0 120 v12_tapeMany) (i14 : Rg 0 6 v12_stories) (i15 : Rg 0 50 v12_bodies) (i16 : Rg 0 1000 v12_ran) (i17 : v12_done.toInt ≤ v12_keptMany.toInt) (i18 : (1 : Int) ≤ 0) : Met l yX12_fatherOf wsX12_fatherOf ({ frames := 1, cells := 0, slots := 0, locals := 30 } : Room) (PcK D κ β [O12 a12 r12 v12_keptMany v12_done v12_sheets v12_holes v12_worms v12_laidMany v12_wanted v12_orderMany v12_firstOrder v12_lines v12_marks v12_dots v12_madeIn v12_bound v12_places v12_maps v12_tapeMany v12_stories v12_base v12_at v12_ends v12_fault v12_opened v12_bodies v12_ran v12_ownKind v12_ownNumber] sz [.ref a12, .int p1]) (QiK D (fun (r : Int32) (u : Unit) => True) (fun (u : Unit) => [O12 a12 r12 v12_keptMany v12_done v12_sheets v12_holes v12_worms v12_laidMany v12_wanted v12_orderMany v12_firstOrder v12_lines v12_marks v12_dots v12_madeIn v12_bound v12_places v12_maps v12_tapeMany v12_stories v12_base v12_at v12_ends v12_fault v12_opened v12_bodies v12_ran v12_ownKind v12_ownNumber]) [O12 a12 r12 v12_keptMany v12_done v12_sheets v12_holes v12_worms v12_laidMany v12_wanted v12_orderMany v12_firstOrder v12_lines v12_marks v12_dots v12_madeIn v12_bound v12_places v12_maps v12_tapeMany v12_stories v12_base v12_at v12_ends v12_fault v12_opened v12_bodies v12_ran v12_ownKind v12_ownNumber] sz) 0 0 (va_A [O12 a12 r12 v12_keptMany v12_done v12_sheets v12_holes v12_worms v12_laidMany v12_wanted v12_orderMany v12_firstOrder v12_lines v12_marks v12_dots v12_madeIn v12_bound v12_places v12_maps v12_tapeMany v12_stories v12_base v12_at v12_ends v12_fault v12_opened v12_bodies v12_ran v12_ownKind v12_ownNumber] sz) := by
  refine ofK_i (cc := cX12_fatherOf) (maxL := 5) (own := RX12) (by decide) rfl rfl (Nat.le_of_ble_eq_true rfl) ?_
  intro p e s m args below meth c Q A ls hsz hx hb hml hts hown hK hA hAB hP hD hl ret
  have hS : va_S A s.heap s.heap [] := va_S.rf
  have hl : lv_has ls 5 [(0, .ref a12), (1, .int p1)] := hl
  have i12 : 0 ≤ v12_maps.toInt ∧ v12_maps.toInt ≤ 8 := i12
  exfalso
  omega
set_option maxHeartbeats 4000000 in
set_option maxRecDepth 100000 in
theorem k_X12_father (l : Launch) (D : va_G) (κ : Nat → ClassId) (β : Nat) (a12 : Nat) (r12 : Nat → Nat) (v12_keptMany : Int32) (v12_done : Int32) (v12_sheets : Int32) (v12_holes : Int32) (v12_worms : Int32) (v12_laidMany : Int32) (v12_wanted : Int32) (v12_orderMany : Int32) (v12_firstOrder : Int32) (v12_lines : Int32) (v12_marks : Int32) (v12_dots : Int32) (v12_madeIn : Int32) (v12_bound : Int32) (v12_places : Int32) (v12_maps : Int32) (v12_tapeMany : Int32) (v12_stories : Int32) (v12_base : Int32) (v12_at : Int32) (v12_ends : Int32) (v12_fault : Int32) (v12_opened : Int32) (v12_bodies : Int32) (v12_ran : Int32) (v12_ownKind : Int32) (v12_ownNumber : Int32) (sz : Nat) (p1 : Int32) (p2 : Int32) (i1 : Rg 0 40 v12_keptMany) (i2 : Rg 0 40 v12_done) (i3 : Rg 0 8 v12_sheets) (i4 : Rg 0 40 v12_holes) (i5 : Rg 0 40 v12_worms) (i6 : Rg 0 8 v12_laidMany) (i7 : Rg 0 8 v12_wanted) (i8 : Rg 0 20 v12_lines) (i9 : Rg 0 60 v12_marks) (i10 : Rg 0 40 v12_dots) (i11 : Rg 0 20 v12_places) (i12 : Rg 0 8 v12_maps) (i13 : Rg 0 120 v12_tapeMany) (i14 : Rg 0 6 v12_stories) (i15 : Rg 0 50 v12_bodies) (i16 : Rg 0 1000 v12_ran) (i17 : v12_done.toInt ≤ v12_keptMany.toInt) (i18 : v12_keptMany.toInt = 0) (i19 : v12_done.toInt = 0) (i20 : v12_sheets.toInt = 0) (i21 : v12_holes.toInt = 0) (i22 : v12_worms.toInt = 0) (i23 : v12_lines.toInt = 0) (i24 : v12_marks.toInt = 0) (i25 : v12_dots.toInt = 0) (i26 : v12_madeIn.toInt = 2001) (i27 : v12_places.toInt = 0) (i28 : v12_maps.toInt = 0) (i29 : v12_tapeMany.toInt = 0) (i30 : v12_stories.toInt = 0) (i31 : v12_bodies.toInt = 0) : Met l yX12_father wsX12_father ({ frames := 2, cells := 0, slots := 0, locals := 46 } : Room) (PcK D κ β [O12 a12 r12 v12_keptMany v12_done v12_sheets v12_holes v12_worms v12_laidMany v12_wanted v12_orderMany v12_firstOrder v12_lines v12_marks v12_dots v12_madeIn v12_bound v12_places v12_maps v12_tapeMany v12_stories v12_base v12_at v12_ends v12_fault v12_opened v12_bodies v12_ran v12_ownKind v12_ownNumber] sz [.ref a12, .int p1, .int p2]) (QiK D (fun (r : Int32) (u : Unit) => r.toInt = -1) (fun (u : Unit) => [O12 a12 r12 v12_keptMany v12_done v12_sheets v12_holes v12_worms v12_laidMany v12_wanted v12_orderMany v12_firstOrder v12_lines v12_marks v12_dots v12_madeIn v12_bound v12_places v12_maps v12_tapeMany v12_stories v12_base v12_at v12_ends v12_fault v12_opened v12_bodies v12_ran v12_ownKind v12_ownNumber]) [O12 a12 r12 v12_keptMany v12_done v12_sheets v12_holes v12_worms v12_laidMany v12_wanted v12_orderMany v12_firstOrder v12_lines v12_marks v12_dots v12_madeIn v12_bound v12_places v12_maps v12_tapeMany v12_stories v12_base v12_at v12_ends v12_fault v12_opened v12_bodies v12_ran v12_ownKind v12_ownNumber] sz) 0 0 (va_A [O12 a12 r12 v12_keptMany v12_done v12_sheets v12_holes v12_worms v12_laidMany v12_wanted v12_orderMany v12_firstOrder v12_lines v12_marks v12_dots v12_madeIn v12_bound v12_places v12_maps v12_tapeMany v12_stories v12_base v12_at v12_ends v12_fault v12_opened v12_bodies v12_ran v12_ownKind v12_ownNumber] sz) := by
  refine ofK_i (cc := cX12_father) (maxL := 4) (own := RX12) (by decide) rfl rfl (Nat.le_of_ble_eq_true rfl) ?_
  intro p e s m args below meth c Q A ls hsz hx hb hml hts hown hK hA hAB hP hD hl ret
  have hS : va_S A s.heap s.heap [] := va_S.rf
  have hl : lv_has ls 4 [(0, .ref a12), (1, .int p1), (2, .int p2)] := hl
  have l0 : (0 : Int32).toInt = 0 := by decide
  have l1 : ((-1) : Int32).toInt = -1 := by decide
  have i12 : 0 ≤ v12_maps.toInt ∧ v12_maps.toInt ≤ 8 := i12
  refine lv_aload_n hx hb dX12_father_0 rfl (lv_at hl 0 rfl) ?_
  refine lv_iload_n hx hb dX12_father_1 rfl (lv_at hl 1 rfl) ?_
  refine kcm_i hA hAB hP hD hS [true] rfl (fun _ => rfl) (fun hPc hDc => va_runV (As := [.int p1]) (rest := []) ⟨hx, hb, hml, hown, hts⟩ (k_X12_isMap l D κ β a12 r12 v12_keptMany v12_done v12_sheets v12_holes v12_worms v12_laidMany v12_wanted v12_orderMany v12_firstOrder v12_lines v12_marks v12_dots v12_madeIn v12_bound v12_places v12_maps v12_tapeMany v12_stories v12_base v12_at v12_ends v12_fault v12_opened v12_bodies v12_ran v12_ownKind v12_ownNumber s.heap.size p1 i1 i2 i3 i4 i5 i6 i7 i8 i9 i10 i11 i12 i13 i14 i15 i16 i17 (by omega) (by omega) (by omega) (by omega) (by omega) (by omega) (by omega) (by omega) (by omega) (by omega) (by omega) (by omega) (by omega) (by omega)) (cwV 1 hts gX12_father_X12_isMap rfl rfl rfl (by decide +kernel) ⟨Nat.le_of_ble_eq_true rfl, Nat.le_of_ble_eq_true rfl⟩) (pk_V hK hS hAB hPc hDc 0 (ci := 12) rfl rfl rfl) rfl rfl hl.1 rfl (lv_room (Nat.le_of_ble_eq_true rfl)) dX12_father_2 ⟨Nat.le_of_ble_eq_true rfl, Nat.le_of_ble_eq_true rfl⟩) (fun x1 u2 H locs hw hPD hS => ?_)
  have h3 : (x1.toInt = 1 ∧ 0 ≤ p1.toInt ∧ p1.toInt < v12_maps.toInt) ∨ (x1.toInt = 0 ∧ (p1.toInt < 0 ∨ v12_maps.toInt ≤ p1.toInt)) := hw
  obtain ⟨hP, hD⟩ : PD D A [O12 a12 r12 v12_keptMany v12_done v12_sheets v12_holes v12_worms v12_laidMany v12_wanted v12_orderMany v12_firstOrder v12_lines v12_marks v12_dots v12_madeIn v12_bound v12_places v12_maps v12_tapeMany v12_stories v12_base v12_at v12_ends v12_fault v12_opened v12_bodies v12_ran v12_ownKind v12_ownNumber] H := hPD
  refine lv_if_eq (tgt := 18) hx hb dX12_father_5 (by decide) (fun c4 => ?_) (fun c4 => ?_)
  · have c4 := ci_eq c4
    refine lv_iconst (v := (-1)) hx hb dX12_father_18 (by decide) ?_
    have hpo : ((-1) : Int32).toInt = -1 := (by omega)
    exact ret _ _ _ _ (-1) () dX12_father_19 hpo hP hD hS
  have c4 := ci_ne c4
  exfalso
  omega
set_option maxHeartbeats 4000000 in
set_option maxRecDepth 100000 in
theorem k_X12_hangs (l : Launch) (D : va_G) (κ : Nat → ClassId) (β : Nat) (a12 : Nat) (r12 : Nat → Nat) (v12_keptMany : Int32) (v12_done : Int32) (v12_sheets : Int32) (v12_holes : Int32) (v12_worms : Int32) (v12_laidMany : Int32) (v12_wanted : Int32) (v12_orderMany : Int32) (v12_firstOrder : Int32) (v12_lines : Int32) (v12_marks : Int32) (v12_dots : Int32) (v12_madeIn : Int32) (v12_bound : Int32) (v12_places : Int32) (v12_maps : Int32) (v12_tapeMany : Int32) (v12_stories : Int32) (v12_base : Int32) (v12_at : Int32) (v12_ends : Int32) (v12_fault : Int32) (v12_opened : Int32) (v12_bodies : Int32) (v12_ran : Int32) (v12_ownKind : Int32) (v12_ownNumber : Int32) (sz : Nat) (p1 : Int32) (i1 : Rg 0 40 v12_keptMany) (i2 : Rg 0 40 v12_done) (i3 : Rg 0 8 v12_sheets) (i4 : Rg 0 40 v12_holes) (i5 : Rg 0 40 v12_worms) (i6 : Rg 0 8 v12_laidMany) (i7 : Rg 0 8 v12_wanted) (i8 : Rg 0 20 v12_lines) (i9 : Rg 0 60 v12_marks) (i10 : Rg 0 40 v12_dots) (i11 : Rg 0 20 v12_places) (i12 : Rg 0 8 v12_maps) (i13 : Rg 0 120 v12_tapeMany) (i14 : Rg 0 6 v12_stories) (i15 : Rg 0 50 v12_bodies) (i16 : Rg 0 1000 v12_ran) (i17 : v12_done.toInt ≤ v12_keptMany.toInt) (i18 : v12_keptMany.toInt = 0) (i19 : v12_done.toInt = 0) (i20 : v12_sheets.toInt = 0) (i21 : v12_holes.toInt = 0) (i22 : v12_worms.toInt = 0) (i23 : v12_lines.toInt = 0) (i24 : v12_marks.toInt = 0) (i25 : v12_dots.toInt = 0) (i26 : v12_madeIn.toInt = 2001) (i27 : v12_places.toInt = 0) (i28 : v12_maps.toInt = 0) (i29 : v12_tapeMany.toInt = 0) (i30 : v12_stories.toInt = 0) (i31 : v12_bodies.toInt = 0) : Met l yX12_hangs wsX12_hangs ({ frames := 2, cells := 0, slots := 0, locals := 46 } : Room) (PcK D κ β [O12 a12 r12 v12_keptMany v12_done v12_sheets v12_holes v12_worms v12_laidMany v12_wanted v12_orderMany v12_firstOrder v12_lines v12_marks v12_dots v12_madeIn v12_bound v12_places v12_maps v12_tapeMany v12_stories v12_base v12_at v12_ends v12_fault v12_opened v12_bodies v12_ran v12_ownKind v12_ownNumber] sz [.ref a12, .int p1]) (QiK D (fun (r : Int32) (u : Unit) => r.toInt = -1) (fun (u : Unit) => [O12 a12 r12 v12_keptMany v12_done v12_sheets v12_holes v12_worms v12_laidMany v12_wanted v12_orderMany v12_firstOrder v12_lines v12_marks v12_dots v12_madeIn v12_bound v12_places v12_maps v12_tapeMany v12_stories v12_base v12_at v12_ends v12_fault v12_opened v12_bodies v12_ran v12_ownKind v12_ownNumber]) [O12 a12 r12 v12_keptMany v12_done v12_sheets v12_holes v12_worms v12_laidMany v12_wanted v12_orderMany v12_firstOrder v12_lines v12_marks v12_dots v12_madeIn v12_bound v12_places v12_maps v12_tapeMany v12_stories v12_base v12_at v12_ends v12_fault v12_opened v12_bodies v12_ran v12_ownKind v12_ownNumber] sz) 0 0 (va_A [O12 a12 r12 v12_keptMany v12_done v12_sheets v12_holes v12_worms v12_laidMany v12_wanted v12_orderMany v12_firstOrder v12_lines v12_marks v12_dots v12_madeIn v12_bound v12_places v12_maps v12_tapeMany v12_stories v12_base v12_at v12_ends v12_fault v12_opened v12_bodies v12_ran v12_ownKind v12_ownNumber] sz) := by
  refine ofK_i (cc := cX12_hangs) (maxL := 3) (own := RX12) (by decide) rfl rfl (Nat.le_of_ble_eq_true rfl) ?_
  intro p e s m args below meth c Q A ls hsz hx hb hml hts hown hK hA hAB hP hD hl ret
  have hS : va_S A s.heap s.heap [] := va_S.rf
  have hl : lv_has ls 3 [(0, .ref a12), (1, .int p1)] := hl
  have l0 : (0 : Int32).toInt = 0 := by decide
  have l1 : ((-1) : Int32).toInt = -1 := by decide
  have l2 : (10 : Int32).toInt = 10 := by decide
  have i12 : 0 ≤ v12_maps.toInt ∧ v12_maps.toInt ≤ 8 := i12
  refine lv_iload_n hx hb dX12_hangs_0 rfl (lv_at hl 1 rfl) ?_
  refine lv_if_lt (tgt := 26) hx hb dX12_hangs_1 (by decide) (fun c1 => ?_) (fun c1 => ?_)
  · have c1 := ci_lt c1
    refine lv_iconst (v := (-1)) hx hb dX12_hangs_26 (by decide) ?_
    have hpo : ((-1) : Int32).toInt = -1 := (by omega)
    exact ret _ _ _ _ (-1) () dX12_hangs_27 hpo hP hD hS
  have c1 := ci_nlt c1
  refine lv_aload_n hx hb dX12_hangs_4 rfl (lv_at hl 0 rfl) ?_
  refine lv_iload_n hx hb dX12_hangs_5 rfl (lv_at hl 1 rfl) ?_
  refine lv_bipush (v := 10) hx hb dX12_hangs_6 (by decide) ?_
  refine lv_idiv hx hb dX12_hangs_8 (by decide) ?_
  refine lv_topi (fun x2 e3 => ?_)
  have h4 := ci_divL (n := 10) (by decide) (by decide) e3
  refine kcm_i hA hAB hP hD hS [true] rfl (fun _ => rfl) (fun hPc hDc => va_runV (As := [.int x2]) (rest := []) ⟨hx, hb, hml, hown, hts⟩ (k_X12_isMap l D κ β a12 r12 v12_keptMany v12_done v12_sheets v12_holes v12_worms v12_laidMany v12_wanted v12_orderMany v12_firstOrder v12_lines v12_marks v12_dots v12_madeIn v12_bound v12_places v12_maps v12_tapeMany v12_stories v12_base v12_at v12_ends v12_fault v12_opened v12_bodies v12_ran v12_ownKind v12_ownNumber s.heap.size x2 i1 i2 i3 i4 i5 i6 i7 i8 i9 i10 i11 i12 i13 i14 i15 i16 i17 (by omega) (by omega) (by omega) (by omega) (by omega) (by omega) (by omega) (by omega) (by omega) (by omega) (by omega) (by omega) (by omega) (by omega)) (cwV 1 hts gX12_hangs_X12_isMap rfl rfl rfl (by decide +kernel) ⟨Nat.le_of_ble_eq_true rfl, Nat.le_of_ble_eq_true rfl⟩) (pk_V hK hS hAB hPc hDc 0 (ci := 12) rfl rfl rfl) rfl rfl hl.1 rfl (lv_room (Nat.le_of_ble_eq_true rfl)) dX12_hangs_9 ⟨Nat.le_of_ble_eq_true rfl, Nat.le_of_ble_eq_true rfl⟩) (fun x5 u6 H locs hw hPD hS => ?_)
  have h7 : (x5.toInt = 1 ∧ 0 ≤ x2.toInt ∧ x2.toInt < v12_maps.toInt) ∨ (x5.toInt = 0 ∧ (x2.toInt < 0 ∨ v12_maps.toInt ≤ x2.toInt)) := hw
  obtain ⟨hP, hD⟩ : PD D A [O12 a12 r12 v12_keptMany v12_done v12_sheets v12_holes v12_worms v12_laidMany v12_wanted v12_orderMany v12_firstOrder v12_lines v12_marks v12_dots v12_madeIn v12_bound v12_places v12_maps v12_tapeMany v12_stories v12_base v12_at v12_ends v12_fault v12_opened v12_bodies v12_ran v12_ownKind v12_ownNumber] H := hPD
  refine lv_if_eq (tgt := 26) hx hb dX12_hangs_12 (by decide) (fun c8 => ?_) (fun c8 => ?_)
  · have c8 := ci_eq c8
    refine lv_iconst (v := (-1)) hx hb dX12_hangs_26 (by decide) ?_
    have hpo : ((-1) : Int32).toInt = -1 := (by omega)
    exact ret _ _ _ _ (-1) () dX12_hangs_27 hpo hP hD hS
  have c8 := ci_ne c8
  exfalso
  omega
set_option maxHeartbeats 4000000 in
set_option maxRecDepth 100000 in
theorem k_X12_shared (l : Launch) (D : va_G) (κ : Nat → ClassId) (β : Nat) (a12 : Nat) (r12 : Nat → Nat) (v12_keptMany : Int32) (v12_done : Int32) (v12_sheets : Int32) (v12_holes : Int32) (v12_worms : Int32) (v12_laidMany : Int32) (v12_wanted : Int32) (v12_orderMany : Int32) (v12_firstOrder : Int32) (v12_lines : Int32) (v12_marks : Int32) (v12_dots : Int32) (v12_madeIn : Int32) (v12_bound : Int32) (v12_places : Int32) (v12_maps : Int32) (v12_tapeMany : Int32) (v12_stories : Int32) (v12_base : Int32) (v12_at : Int32) (v12_ends : Int32) (v12_fault : Int32) (v12_opened : Int32) (v12_bodies : Int32) (v12_ran : Int32) (v12_ownKind : Int32) (v12_ownNumber : Int32) (sz : Nat) (p1 : Int32) (i1 : Rg 0 40 v12_keptMany) (i2 : Rg 0 40 v12_done) (i3 : Rg 0 8 v12_sheets) (i4 : Rg 0 40 v12_holes) (i5 : Rg 0 40 v12_worms) (i6 : Rg 0 8 v12_laidMany) (i7 : Rg 0 8 v12_wanted) (i8 : Rg 0 20 v12_lines) (i9 : Rg 0 60 v12_marks) (i10 : Rg 0 40 v12_dots) (i11 : Rg 0 20 v12_places) (i12 : Rg 0 8 v12_maps) (i13 : Rg 0 120 v12_tapeMany) (i14 : Rg 0 6 v12_stories) (i15 : Rg 0 50 v12_bodies) (i16 : Rg 0 1000 v12_ran) (i17 : v12_done.toInt ≤ v12_keptMany.toInt) (i18 : v12_keptMany.toInt = 0) (i19 : v12_done.toInt = 0) (i20 : v12_sheets.toInt = 0) (i21 : v12_holes.toInt = 0) (i22 : v12_worms.toInt = 0) (i23 : v12_lines.toInt = 0) (i24 : v12_marks.toInt = 0) (i25 : v12_dots.toInt = 0) (i26 : v12_madeIn.toInt = 2001) (i27 : v12_places.toInt = 0) (i28 : v12_maps.toInt = 0) (i29 : v12_tapeMany.toInt = 0) (i30 : v12_stories.toInt = 0) (i31 : v12_bodies.toInt = 0) : Met l yX12_shared wsX12_shared ({ frames := 2, cells := 0, slots := 0, locals := 46 } : Room) (PcK D κ β [O12 a12 r12 v12_keptMany v12_done v12_sheets v12_holes v12_worms v12_laidMany v12_wanted v12_orderMany v12_firstOrder v12_lines v12_marks v12_dots v12_madeIn v12_bound v12_places v12_maps v12_tapeMany v12_stories v12_base v12_at v12_ends v12_fault v12_opened v12_bodies v12_ran v12_ownKind v12_ownNumber] sz [.ref a12, .int p1]) (QiK D (fun (r : Int32) (u : Unit) => ((p1.toInt = -1) ∧ r.toInt = 0) ∨ (¬ (p1.toInt = -1) ∧ r.toInt = -1)) (fun (u : Unit) => [O12 a12 r12 v12_keptMany v12_done v12_sheets v12_holes v12_worms v12_laidMany v12_wanted v12_orderMany v12_firstOrder v12_lines v12_marks v12_dots v12_madeIn v12_bound v12_places v12_maps v12_tapeMany v12_stories v12_base v12_at v12_ends v12_fault v12_opened v12_bodies v12_ran v12_ownKind v12_ownNumber]) [O12 a12 r12 v12_keptMany v12_done v12_sheets v12_holes v12_worms v12_laidMany v12_wanted v12_orderMany v12_firstOrder v12_lines v12_marks v12_dots v12_madeIn v12_bound v12_places v12_maps v12_tapeMany v12_stories v12_base v12_at v12_ends v12_fault v12_opened v12_bodies v12_ran v12_ownKind v12_ownNumber] sz) 0 0 (va_A [O12 a12 r12 v12_keptMany v12_done v12_sheets v12_holes v12_worms v12_laidMany v12_wanted v12_orderMany v12_firstOrder v12_lines v12_marks v12_dots v12_madeIn v12_bound v12_places v12_maps v12_tapeMany v12_stories v12_base v12_at v12_ends v12_fault v12_opened v12_bodies v12_ran v12_ownKind v12_ownNumber] sz) := by
  refine ofK_i (cc := cX12_shared) (maxL := 4) (own := RX12) (by decide) rfl rfl (Nat.le_of_ble_eq_true rfl) ?_
  intro p e s m args below meth c Q A ls hsz hx hb hml hts hown hK hA hAB hP hD hl ret
  have hS : va_S A s.heap s.heap [] := va_S.rf
  have hl : lv_has ls 4 [(0, .ref a12), (1, .int p1)] := hl
  have w0 := hts (.fieldLink RX12 277 "OlderSkinModel" "maps" "I") (List.mem_of_getElem? (i := 1) rfl)
  have w1 := (fun w h => List.mem_cons_of_mem _ (List.mem_append_right _ h) : ∀ w ∈ u_ws RX12 TX12 63, w ∈ wsX12_shared)
  have l0 : ((-1) : Int32).toInt = -1 := by decide
  have l1 : (0 : Int32).toInt = 0 := by decide
  have l2 : (10 : Int32).toInt = 10 := by decide
  have i12 : 0 ≤ v12_maps.toInt ∧ v12_maps.toInt ≤ 8 := i12
  refine lv_iload_n hx hb dX12_shared_0 rfl (lv_at hl 1 rfl) ?_
  refine lv_iconst (v := (-1)) hx hb dX12_shared_1 (by decide) ?_
  refine lv_icmp_ne (tgt := 50) hx hb dX12_shared_2 (by decide) (fun c1 => ?_) (fun c1 => ?_)
  · have c1 := ci_ne c1
    refine lv_iload_n hx hb dX12_shared_50 rfl (lv_at hl 1 rfl) ?_
    refine lv_if_lt (tgt := 87) hx hb dX12_shared_51 (by decide) (fun c2 => ?_) (fun c2 => ?_)
    · have c2 := ci_lt c2
      refine lv_iconst (v := (-1)) hx hb dX12_shared_87 (by decide) ?_
      have hpo : ((p1.toInt = -1) ∧ ((-1) : Int32).toInt = 0) ∨ (¬ (p1.toInt = -1) ∧ ((-1) : Int32).toInt = -1) := (by omega)
      exact ret _ _ _ _ (-1) () dX12_shared_88 hpo hP hD hS
    have c2 := ci_nlt c2
    refine lv_aload_n hx hb dX12_shared_54 rfl (lv_at hl 0 rfl) ?_
    refine lv_iload_n hx hb dX12_shared_55 rfl (lv_at hl 1 rfl) ?_
    refine lv_bipush (v := 10) hx hb dX12_shared_56 (by decide) ?_
    refine lv_idiv hx hb dX12_shared_58 (by decide) ?_
    refine lv_topi (fun x3 e4 => ?_)
    have h5 := ci_divL (n := 10) (by decide) (by decide) e4
    refine kcm_i hA hAB hP hD hS [true] rfl (fun _ => rfl) (fun hPc hDc => va_runV (As := [.int x3]) (rest := []) ⟨hx, hb, hml, hown, hts⟩ (k_X12_isMap l D κ β a12 r12 v12_keptMany v12_done v12_sheets v12_holes v12_worms v12_laidMany v12_wanted v12_orderMany v12_firstOrder v12_lines v12_marks v12_dots v12_madeIn v12_bound v12_places v12_maps v12_tapeMany v12_stories v12_base v12_at v12_ends v12_fault v12_opened v12_bodies v12_ran v12_ownKind v12_ownNumber s.heap.size x3 i1 i2 i3 i4 i5 i6 i7 i8 i9 i10 i11 i12 i13 i14 i15 i16 i17 (by omega) (by omega) (by omega) (by omega) (by omega) (by omega) (by omega) (by omega) (by omega) (by omega) (by omega) (by omega) (by omega) (by omega)) (cwV 1 hts gX12_shared_X12_isMap rfl rfl rfl (by decide +kernel) ⟨Nat.le_of_ble_eq_true rfl, Nat.le_of_ble_eq_true rfl⟩) (pk_V hK hS hAB hPc hDc 0 (ci := 12) rfl rfl rfl) rfl rfl hl.1 rfl (lv_room (Nat.le_of_ble_eq_true rfl)) dX12_shared_59 ⟨Nat.le_of_ble_eq_true rfl, Nat.le_of_ble_eq_true rfl⟩) (fun x6 u7 H locs hw hPD hS => ?_)
    have h8 : (x6.toInt = 1 ∧ 0 ≤ x3.toInt ∧ x3.toInt < v12_maps.toInt) ∨ (x6.toInt = 0 ∧ (x3.toInt < 0 ∨ v12_maps.toInt ≤ x3.toInt)) := hw
    obtain ⟨hP, hD⟩ : PD D A [O12 a12 r12 v12_keptMany v12_done v12_sheets v12_holes v12_worms v12_laidMany v12_wanted v12_orderMany v12_firstOrder v12_lines v12_marks v12_dots v12_madeIn v12_bound v12_places v12_maps v12_tapeMany v12_stories v12_base v12_at v12_ends v12_fault v12_opened v12_bodies v12_ran v12_ownKind v12_ownNumber] H := hPD
    refine lv_if_eq (tgt := 87) hx hb dX12_shared_62 (by decide) (fun c9 => ?_) (fun c9 => ?_)
    · have c9 := ci_eq c9
      refine lv_iconst (v := (-1)) hx hb dX12_shared_87 (by decide) ?_
      have hpo : ((p1.toInt = -1) ∧ ((-1) : Int32).toInt = 0) ∨ (¬ (p1.toInt = -1) ∧ ((-1) : Int32).toInt = -1) := (by omega)
      exact ret _ _ _ _ (-1) () dX12_shared_88 hpo hP hD hS
    have c9 := ci_ne c9
    exfalso
    omega
  have c1 := ci_eq c1
  refine lv_iconst (v := 0) hx hb dX12_shared_5 (by decide) ?_
  refine lv_istore_n (lv' := [(2, .int 0), (0, .ref a12), (1, .int p1)]) hx hb dX12_shared_6 rfl hl (by decide) rfl (fun ls hl => ?_)
  refine lv_iconst (v := 0) hx hb dX12_shared_7 (by decide) ?_
  refine lv_istore_n (lv' := [(3, .int 0), (2, .int 0), (0, .ref a12), (1, .int p1)]) hx hb dX12_shared_8 rfl hl (by decide) rfl (fun ls hl => ?_)
  have lp9 : ∀ (n9 : Nat), (0 ≤ (0 : Int32).toInt) → (v12_maps.toInt - (0 : Int32).toInt).toNat < n9 → ∀ (H : Heap) (locs : List Loc), va_P D vwCl [O12 a12 r12 v12_keptMany v12_done v12_sheets v12_holes v12_worms v12_laidMany v12_wanted v12_orderMany v12_firstOrder v12_lines v12_marks v12_dots v12_madeIn v12_bound v12_places v12_maps v12_tapeMany v12_stories v12_base v12_at v12_ends v12_fault v12_opened v12_bodies v12_ran v12_ownKind v12_ownNumber] H → va_D A [O12 a12 r12 v12_keptMany v12_done v12_sheets v12_holes v12_worms v12_laidMany v12_wanted v12_orderMany v12_firstOrder v12_lines v12_marks v12_dots v12_madeIn v12_bound v12_places v12_maps v12_tapeMany v12_stories v12_base v12_at v12_ends v12_fault v12_opened v12_bodies v12_ran v12_ownKind v12_ownNumber] → va_S A s.heap H locs → ∀ ls : Array Slot, lv_has ls 4 [(3, .int 0), (2, .int 0), (0, .ref a12), (1, .int p1)] → W p l e ({ frames := 2, cells := 0, slots := 0, locals := 46 } : Room) s m args below meth c H locs 0 0 Q (F0 m 9 ls []) := by
    intro n9
    induction n9 with
    | zero =>
      intro h10 m11
      exact absurd m11 (Nat.not_lt_zero _)
    | succ n9 ih9 =>
      intro h10 m11 H locs hP hD hS ls hl
      refine lv_iload_n hx hb dX12_shared_9 rfl (lv_at hl 0 rfl) ?_
      refine lv_aload_n hx hb dX12_shared_10 rfl (lv_at hl 2 rfl) ?_
      refine va_get (D := D) (ci := 12) (v := .int v12_maps) (C := RX12) (T := TX12) (N := 63) hx hb hts w1 hown hK.1 hP 0 rfl rfl 38 (by decide) w0 (fun _ h9 => h9) rfl dX12_shared_11 ?_
      refine lv_icmp_ge (tgt := 48) hx hb dX12_shared_14 (by decide) (fun c12 => ?_) (fun c12 => ?_)
      · have c12 := ci_le c12
        refine lv_iload_n hx hb dX12_shared_48 rfl (lv_at hl 1 rfl) ?_
        have hpo : ((p1.toInt = -1) ∧ (0 : Int32).toInt = 0) ∨ (¬ (p1.toInt = -1) ∧ (0 : Int32).toInt = -1) := (by omega)
        exact ret _ _ _ _ 0 () dX12_shared_49 hpo hP hD hS
      have c12 := ci_nle c12
      exfalso
      omega
  exact lp9 ((v12_maps.toInt - (0 : Int32).toInt).toNat + 1) (by omega) (by omega) _ _ hP hD hS _ hl
set_option maxHeartbeats 4000000 in
set_option maxRecDepth 100000 in
theorem k_X12_dots (l : Launch) (D : va_G) (κ : Nat → ClassId) (β : Nat) (a12 : Nat) (r12 : Nat → Nat) (v12_keptMany : Int32) (v12_done : Int32) (v12_sheets : Int32) (v12_holes : Int32) (v12_worms : Int32) (v12_laidMany : Int32) (v12_wanted : Int32) (v12_orderMany : Int32) (v12_firstOrder : Int32) (v12_lines : Int32) (v12_marks : Int32) (v12_dots : Int32) (v12_madeIn : Int32) (v12_bound : Int32) (v12_places : Int32) (v12_maps : Int32) (v12_tapeMany : Int32) (v12_stories : Int32) (v12_base : Int32) (v12_at : Int32) (v12_ends : Int32) (v12_fault : Int32) (v12_opened : Int32) (v12_bodies : Int32) (v12_ran : Int32) (v12_ownKind : Int32) (v12_ownNumber : Int32) (f12_shelf : Nat → Int32) (sz : Nat) (p1 : Int32) (p2 : Int32) (p3 : Int32) (i1 : Rg 0 40 v12_keptMany) (i2 : Rg 0 40 v12_done) (i3 : Rg 0 8 v12_sheets) (i4 : Rg 0 40 v12_holes) (i5 : Rg 0 40 v12_worms) (i6 : Rg 0 8 v12_laidMany) (i7 : Rg 0 8 v12_wanted) (i8 : Rg 0 20 v12_lines) (i9 : Rg 0 60 v12_marks) (i10 : Rg 0 40 v12_dots) (i11 : Rg 0 20 v12_places) (i12 : Rg 0 8 v12_maps) (i13 : Rg 0 120 v12_tapeMany) (i14 : Rg 0 6 v12_stories) (i15 : Rg 0 50 v12_bodies) (i16 : Rg 0 1000 v12_ran) (i17 : v12_done.toInt ≤ v12_keptMany.toInt) (i18 : p1.toInt < 0 ∨ 5 < p1.toInt ∨ (f12_shelf p1.toNatClampNeg).toInt = -1) (i19 : v12_keptMany.toInt = 0) (i20 : v12_done.toInt = 0) (i21 : v12_sheets.toInt = 0) (i22 : v12_holes.toInt = 0) (i23 : v12_worms.toInt = 0) (i24 : v12_lines.toInt = 0) (i25 : v12_marks.toInt = 0) (i26 : v12_dots.toInt = 0) (i27 : v12_madeIn.toInt = 2001) (i28 : v12_places.toInt = 0) (i29 : v12_maps.toInt = 0) (i30 : v12_tapeMany.toInt = 0) (i31 : v12_stories.toInt = 0) (i32 : v12_bodies.toInt = 0) : Met l yX12_dots wsX12_dots ({ frames := 2, cells := 0, slots := 0, locals := 45 } : Room) (PcK D κ β [O12 a12 r12 v12_keptMany v12_done v12_sheets v12_holes v12_worms v12_laidMany v12_wanted v12_orderMany v12_firstOrder v12_lines v12_marks v12_dots v12_madeIn v12_bound v12_places v12_maps v12_tapeMany v12_stories v12_base v12_at v12_ends v12_fault v12_opened v12_bodies v12_ran v12_ownKind v12_ownNumber, (cI κ (r12 59) 6 f12_shelf)] sz [.ref a12, .int p1, .int p2, .int p3]) (QiK D (fun (r : Int32) (u : Unit) => ((0 ≤ p1.toInt ∧ p1.toInt ≤ 5 ∧ 1 ≤ p3.toInt ∧ p3.toInt ≤ 20) ∧ r.toInt = 0) ∨ (¬ (0 ≤ p1.toInt ∧ p1.toInt ≤ 5 ∧ 1 ≤ p3.toInt ∧ p3.toInt ≤ 20) ∧ r.toInt = -1)) (fun (u : Unit) => [O12 a12 r12 v12_keptMany v12_done v12_sheets v12_holes v12_worms v12_laidMany v12_wanted v12_orderMany v12_firstOrder v12_lines v12_marks v12_dots v12_madeIn v12_bound v12_places v12_maps v12_tapeMany v12_stories v12_base v12_at v12_ends v12_fault v12_opened v12_bodies v12_ran v12_ownKind v12_ownNumber, (cI κ (r12 59) 6 f12_shelf)]) [O12 a12 r12 v12_keptMany v12_done v12_sheets v12_holes v12_worms v12_laidMany v12_wanted v12_orderMany v12_firstOrder v12_lines v12_marks v12_dots v12_madeIn v12_bound v12_places v12_maps v12_tapeMany v12_stories v12_base v12_at v12_ends v12_fault v12_opened v12_bodies v12_ran v12_ownKind v12_ownNumber, (cI κ (r12 59) 6 f12_shelf)] sz) 0 0 (va_A [O12 a12 r12 v12_keptMany v12_done v12_sheets v12_holes v12_worms v12_laidMany v12_wanted v12_orderMany v12_firstOrder v12_lines v12_marks v12_dots v12_madeIn v12_bound v12_places v12_maps v12_tapeMany v12_stories v12_base v12_at v12_ends v12_fault v12_opened v12_bodies v12_ran v12_ownKind v12_ownNumber, (cI κ (r12 59) 6 f12_shelf)] sz) := by
  refine ofK_i (cc := cX12_dots) (maxL := 7) (own := RX12) (by decide) rfl rfl (Nat.le_of_ble_eq_true rfl) ?_
  intro p e s m args below meth c Q A ls hsz hx hb hml hts hown hK hA hAB hP hD hl ret
  have hS : va_S A s.heap s.heap [] := va_S.rf
  have hl : lv_has ls 7 [(0, .ref a12), (1, .int p1), (2, .int p2), (3, .int p3)] := hl
  have w0 := hts (.constantLong RX12 241 (20)) (List.mem_of_getElem? (i := 1) rfl)
  have w1 := hts (.fieldLink RX12 107 "OlderSkinModel" "shelf" "[I") (List.mem_of_getElem? (i := 2) rfl)
  have w2 := (fun w h => List.mem_cons_of_mem _ (List.mem_append_right _ h) : ∀ w ∈ u_ws RX12 TX12 63, w ∈ wsX12_dots)
  have l0 : (0 : Int32).toInt = 0 := by decide
  have l1 : ((-1) : Int32).toInt = -1 := by decide
  have l2 : (1 : Int64).toInt = 1 := by decide
  have l3 : (20 : Int64).toInt = 20 := by decide
  have l4 : (51 : Int32).toInt = 51 := by decide
  have i10 : 0 ≤ v12_dots.toInt ∧ v12_dots.toInt ≤ 40 := i10
  refine lv_iload_n hx hb dX12_dots_0 rfl (lv_at hl 1 rfl) ?_
  refine kcm_i hA hAB hP hD hS [false, false] rfl (fun _ => rfl) (fun hPc hDc => va_runS (As := [.int p1]) (rest := []) ⟨hx, hb, hml, hown, hts⟩ (k_X12_isShelf l D κ β s.heap.size p1) (va_cwS 1 hts gX12_dots_X12_isShelf rfl rfl rfl (by decide +kernel) ⟨Nat.le_of_ble_eq_true rfl, Nat.le_of_ble_eq_true rfl⟩) (pk_S hK hS hAB hPc hDc) rfl rfl hl.1 rfl (lv_room (Nat.le_of_ble_eq_true rfl)) dX12_dots_1 ⟨Nat.le_of_ble_eq_true rfl, Nat.le_of_ble_eq_true rfl⟩) (fun x1 u2 H locs hw hPD hS => ?_)
  have h3 : (x1.toInt = 1 ∧ 0 ≤ p1.toInt ∧ p1.toInt ≤ 5) ∨ (x1.toInt = 0 ∧ (p1.toInt < 0 ∨ 5 < p1.toInt)) := hw
  obtain ⟨hP, hD⟩ : PD D A [O12 a12 r12 v12_keptMany v12_done v12_sheets v12_holes v12_worms v12_laidMany v12_wanted v12_orderMany v12_firstOrder v12_lines v12_marks v12_dots v12_madeIn v12_bound v12_places v12_maps v12_tapeMany v12_stories v12_base v12_at v12_ends v12_fault v12_opened v12_bodies v12_ran v12_ownKind v12_ownNumber, (cI κ (r12 59) 6 f12_shelf)] H := hPD
  refine lv_if_eq (tgt := 19) hx hb dX12_dots_4 (by decide) (fun c4 => ?_) (fun c4 => ?_)
  · have c4 := ci_eq c4
    refine lv_iconst (v := (-1)) hx hb dX12_dots_19 (by decide) ?_
    have hpo : ((0 ≤ p1.toInt ∧ p1.toInt ≤ 5 ∧ 1 ≤ p3.toInt ∧ p3.toInt ≤ 20) ∧ ((-1) : Int32).toInt = 0) ∨ (¬ (0 ≤ p1.toInt ∧ p1.toInt ≤ 5 ∧ 1 ≤ p3.toInt ∧ p3.toInt ≤ 20) ∧ ((-1) : Int32).toInt = -1) := (by omega)
    exact ret _ _ _ _ (-1) () dX12_dots_20 hpo hP hD hS
  have c4 := ci_ne c4
  refine lv_iload_n hx hb dX12_dots_7 rfl (lv_at hl 3 rfl) ?_
  refine lv_i2l hx hb dX12_dots_8 rfl ?_
  refine lv_topl (fun x5 e6 => ?_)
  have h7 : x5.toInt = p3.toInt := cl_i2l e6
  refine lv_lconst (v := (1 : Int64)) hx hb dX12_dots_9 (by decide) ?_
  refine lv_ldc2 (v := (20 : Int64)) hx hb hown w0 dX12_dots_10 ?_
  refine kcm_i hA hAB hP hD hS [false, false] rfl (fun _ => rfl) (fun hPc hDc => va_runS (As := [.long x5, .long (1 : Int64), .long (20 : Int64)]) (rest := []) ⟨hx, hb, hml, hown, hts⟩ (k_X12_within l D κ β H.size x5 (1 : Int64) (20 : Int64)) (va_cwS 3 hts gX12_dots_X12_within rfl rfl rfl (by decide +kernel) ⟨Nat.le_of_ble_eq_true rfl, Nat.le_of_ble_eq_true rfl⟩) (pk_S hK hS hAB hPc hDc) rfl rfl hl.1 rfl (lv_room (Nat.le_of_ble_eq_true rfl)) dX12_dots_13 ⟨Nat.le_of_ble_eq_true rfl, Nat.le_of_ble_eq_true rfl⟩) (fun x8 u9 H locs hw hPD hS => ?_)
  have h10 : (x8.toInt = 1 ∧ (1 : Int64).toInt ≤ x5.toInt ∧ x5.toInt ≤ (20 : Int64).toInt) ∨ (x8.toInt = 0 ∧ (x5.toInt < (1 : Int64).toInt ∨ (20 : Int64).toInt < x5.toInt)) := hw
  obtain ⟨hP, hD⟩ : PD D A [O12 a12 r12 v12_keptMany v12_done v12_sheets v12_holes v12_worms v12_laidMany v12_wanted v12_orderMany v12_firstOrder v12_lines v12_marks v12_dots v12_madeIn v12_bound v12_places v12_maps v12_tapeMany v12_stories v12_base v12_at v12_ends v12_fault v12_opened v12_bodies v12_ran v12_ownKind v12_ownNumber, (cI κ (r12 59) 6 f12_shelf)] H := hPD
  refine lv_if_ne (tgt := 21) hx hb dX12_dots_16 (by decide) (fun c11 => ?_) (fun c11 => ?_)
  · have c11 := ci_ne c11
    refine lv_aload_n hx hb dX12_dots_21 rfl (lv_at hl 0 rfl) ?_
    refine va_get (D := D) (ci := 12) (v := .ref (r12 59)) (C := RX12) (T := TX12) (N := 63) hx hb hts w2 hown hK.1 hP 0 rfl rfl 59 (by decide) w1 (fun _ h9 => h9) rfl dX12_dots_22 ?_
    refine lv_iload_n hx hb dX12_dots_25 rfl (lv_at hl 1 rfl) ?_
    refine va_iald hx hb hK.1 hP 1 1 rfl rfl (i := p1) (ix (by omega) (by omega)) dX12_dots_26 ?_
    refine lv_topi (fun x12 e13 => ?_)
    have hq1 : x12.toInt = (f12_shelf p1.toNatClampNeg).toInt := congrArg Int32.toInt e13
    refine lv_if_lt (tgt := 44) hx hb dX12_dots_27 (by decide) (fun c14 => ?_) (fun c14 => ?_)
    · have c14 := ci_lt c14
      refine lv_iconst (v := 0) hx hb dX12_dots_44 (by decide) ?_
      refine lv_istore (lv' := [(4, .int 0), (0, .ref a12), (1, .int p1), (2, .int p2), (3, .int p3)]) hx hb dX12_dots_45 hl (by decide) rfl (fun ls hl => ?_)
      refine lv_aload_n hx hb dX12_dots_47 rfl (lv_at hl 1 rfl) ?_
      refine va_get (D := D) (ci := 12) (v := .ref (r12 59)) (C := RX12) (T := TX12) (N := 63) hx hb hts w2 hown hK.1 hP 0 rfl rfl 59 (by decide) w1 (fun _ h9 => h9) rfl dX12_dots_48 ?_
      refine lv_iload_n hx hb dX12_dots_51 rfl (lv_at hl 2 rfl) ?_
      refine va_iald hx hb hK.1 hP 1 1 rfl rfl (i := p1) (ix (by omega) (by omega)) dX12_dots_52 ?_
      refine lv_topi (fun x15 e16 => ?_)
      have hq1 : x15.toInt = (f12_shelf p1.toNatClampNeg).toInt := congrArg Int32.toInt e16
      refine lv_bipush (v := 51) hx hb dX12_dots_53 (by decide) ?_
      refine lv_icmp_ne (tgt := 66) hx hb dX12_dots_55 (by decide) (fun c17 => ?_) (fun c17 => ?_)
      · have c17 := ci_ne c17
        refine lv_iconst (v := 0) hx hb dX12_dots_66 (by decide) ?_
        refine lv_istore (lv' := [(5, .int 0), (4, .int 0), (0, .ref a12), (1, .int p1), (2, .int p2), (3, .int p3)]) hx hb dX12_dots_67 hl (by decide) rfl (fun ls hl => ?_)
        have lp69 : ∀ (n69 : Nat), (0 ≤ (0 : Int32).toInt ∧ (0 : Int32).toInt ≤ p3.toInt) → (0 ≤ (0 : Int32).toInt ∧ (0 : Int32).toInt ≤ 1) → ((0 : Int32).toInt = 0 ∨ 0 ≤ p2.toInt) → (p3.toInt - (0 : Int32).toInt + (0 : Int32).toInt).toNat < n69 → ∀ (H : Heap) (locs : List Loc), va_P D vwCl [O12 a12 r12 v12_keptMany v12_done v12_sheets v12_holes v12_worms v12_laidMany v12_wanted v12_orderMany v12_firstOrder v12_lines v12_marks v12_dots v12_madeIn v12_bound v12_places v12_maps v12_tapeMany v12_stories v12_base v12_at v12_ends v12_fault v12_opened v12_bodies v12_ran v12_ownKind v12_ownNumber, (cI κ (r12 59) 6 f12_shelf)] H → va_D A [O12 a12 r12 v12_keptMany v12_done v12_sheets v12_holes v12_worms v12_laidMany v12_wanted v12_orderMany v12_firstOrder v12_lines v12_marks v12_dots v12_madeIn v12_bound v12_places v12_maps v12_tapeMany v12_stories v12_base v12_at v12_ends v12_fault v12_opened v12_bodies v12_ran v12_ownKind v12_ownNumber, (cI κ (r12 59) 6 f12_shelf)] → va_S A s.heap H locs → ∀ ls : Array Slot, lv_has ls 7 [(5, .int 0), (4, .int 0), (0, .ref a12), (1, .int p1), (2, .int p2), (3, .int p3)] → W p l e ({ frames := 2, cells := 0, slots := 0, locals := 45 } : Room) s m args below meth c H locs 0 0 Q (F0 m 69 ls []) := by
          intro n69
          induction n69 with
          | zero =>
            intro h18 h19 h20 m21
            exact absurd m21 (Nat.not_lt_zero _)
          | succ n69 ih69 =>
            intro h18 h19 h20 m21 H locs hP hD hS ls hl
            refine lv_iload hx hb dX12_dots_69 (lv_at hl 0 rfl) ?_
            refine lv_if_eq (tgt := 215) hx hb dX12_dots_71 (by decide) (fun c22 => ?_) (fun c22 => ?_)
            · have c22 := ci_eq c22
              refine lv_iload hx hb dX12_dots_215 (lv_at hl 1 rfl) ?_
              have hpo : ((0 ≤ p1.toInt ∧ p1.toInt ≤ 5 ∧ 1 ≤ p3.toInt ∧ p3.toInt ≤ 20) ∧ (0 : Int32).toInt = 0) ∨ (¬ (0 ≤ p1.toInt ∧ p1.toInt ≤ 5 ∧ 1 ≤ p3.toInt ∧ p3.toInt ≤ 20) ∧ (0 : Int32).toInt = -1) := (by omega)
              exact ret _ _ _ _ 0 () dX12_dots_217 hpo hP hD hS
            have c22 := ci_ne c22
            exfalso
            omega
        exact lp69 ((p3.toInt - (0 : Int32).toInt + (0 : Int32).toInt).toNat + 1) (by omega) (by omega) (by omega) (by omega) _ _ hP hD hS _ hl
      have c17 := ci_eq c17
      exfalso
      omega
    have c14 := ci_nlt c14
    exfalso
    omega
  have c11 := ci_eq c11
  refine lv_iconst (v := (-1)) hx hb dX12_dots_19 (by decide) ?_
  have hpo : ((0 ≤ p1.toInt ∧ p1.toInt ≤ 5 ∧ 1 ≤ p3.toInt ∧ p3.toInt ≤ 20) ∧ ((-1) : Int32).toInt = 0) ∨ (¬ (0 ≤ p1.toInt ∧ p1.toInt ≤ 5 ∧ 1 ≤ p3.toInt ∧ p3.toInt ≤ 20) ∧ ((-1) : Int32).toInt = -1) := (by omega)
  exact ret _ _ _ _ (-1) () dX12_dots_20 hpo hP hD hS
set_option maxHeartbeats 4000000 in
set_option maxRecDepth 100000 in
theorem k_X12_row (l : Launch) (D : va_G) (κ : Nat → ClassId) (β : Nat) (a12 : Nat) (r12 : Nat → Nat) (v12_keptMany : Int32) (v12_done : Int32) (v12_sheets : Int32) (v12_holes : Int32) (v12_worms : Int32) (v12_laidMany : Int32) (v12_wanted : Int32) (v12_orderMany : Int32) (v12_firstOrder : Int32) (v12_lines : Int32) (v12_marks : Int32) (v12_dots : Int32) (v12_madeIn : Int32) (v12_bound : Int32) (v12_places : Int32) (v12_maps : Int32) (v12_tapeMany : Int32) (v12_stories : Int32) (v12_base : Int32) (v12_at : Int32) (v12_ends : Int32) (v12_fault : Int32) (v12_opened : Int32) (v12_bodies : Int32) (v12_ran : Int32) (v12_ownKind : Int32) (v12_ownNumber : Int32) (f12_shelf : Nat → Int32) (f12_many : Nat → Int32) (f12_items : Nat → Int64) (sz : Nat) (p1 : Int32) (p2 : Int32) (p3 : Int32) (i1 : Rg 0 40 v12_keptMany) (i2 : Rg 0 40 v12_done) (i3 : Rg 0 8 v12_sheets) (i4 : Rg 0 40 v12_holes) (i5 : Rg 0 40 v12_worms) (i6 : Rg 0 8 v12_laidMany) (i7 : Rg 0 8 v12_wanted) (i8 : Rg 0 20 v12_lines) (i9 : Rg 0 60 v12_marks) (i10 : Rg 0 40 v12_dots) (i11 : Rg 0 20 v12_places) (i12 : Rg 0 8 v12_maps) (i13 : Rg 0 120 v12_tapeMany) (i14 : Rg 0 6 v12_stories) (i15 : Rg 0 50 v12_bodies) (i16 : Rg 0 1000 v12_ran) (hf12_many : ∀ j : Nat, 0 ≤ (f12_many j).toInt ∧ (f12_many j).toInt ≤ 60) (i17 : v12_done.toInt ≤ v12_keptMany.toInt) (i18 : v12_keptMany.toInt = 0) (i19 : v12_done.toInt = 0) (i20 : v12_sheets.toInt = 0) (i21 : v12_holes.toInt = 0) (i22 : v12_worms.toInt = 0) (i23 : v12_lines.toInt = 0) (i24 : v12_marks.toInt = 0) (i25 : v12_dots.toInt = 0) (i26 : v12_madeIn.toInt = 2001) (i27 : v12_places.toInt = 0) (i28 : v12_maps.toInt = 0) (i29 : v12_tapeMany.toInt = 0) (i30 : v12_stories.toInt = 0) (i31 : v12_bodies.toInt = 0) : Met l yX12_row wsX12_row ({ frames := 2, cells := 0, slots := 0, locals := 45 } : Room) (PcK D κ β [O12 a12 r12 v12_keptMany v12_done v12_sheets v12_holes v12_worms v12_laidMany v12_wanted v12_orderMany v12_firstOrder v12_lines v12_marks v12_dots v12_madeIn v12_bound v12_places v12_maps v12_tapeMany v12_stories v12_base v12_at v12_ends v12_fault v12_opened v12_bodies v12_ran v12_ownKind v12_ownNumber, (cI κ (r12 59) 6 f12_shelf), (cI κ (r12 60) 6 f12_many), (cJ κ (r12 61) 360 f12_items)] sz [.ref a12, .int p1, .int p2, .int p3]) (QiK D (fun (r : Int32) (u : (Nat → Int32) × (Nat → Int32) × (Nat → Int64)) => (∀ j : Nat, 0 ≤ (u.2.1 j).toInt ∧ (u.2.1 j).toInt ≤ 60) ∧ ((¬ (0 ≤ p1.toInt ∧ p1.toInt ≤ 5 ∧ 0 ≤ p2.toInt ∧ p2.toInt ≤ 4 ∧ p3.toInt ≤ 60) ∧ r.toInt = -1) ∨ ((0 ≤ p1.toInt ∧ p1.toInt ≤ 5 ∧ 0 ≤ p2.toInt ∧ p2.toInt ≤ 4 ∧ p3.toInt ≤ 60) ∧ p3.toInt < 0 ∧ r.toInt = -14) ∨ ((0 ≤ p1.toInt ∧ p1.toInt ≤ 5 ∧ 0 ≤ p2.toInt ∧ p2.toInt ≤ 4 ∧ p3.toInt ≤ 60) ∧ 0 ≤ p3.toInt ∧ r.toInt = 1))) (fun (u : (Nat → Int32) × (Nat → Int32) × (Nat → Int64)) => [O12 a12 r12 v12_keptMany v12_done v12_sheets v12_holes v12_worms v12_laidMany v12_wanted v12_orderMany v12_firstOrder v12_lines v12_marks v12_dots v12_madeIn v12_bound v12_places v12_maps v12_tapeMany v12_stories v12_base v12_at v12_ends v12_fault v12_opened v12_bodies v12_ran v12_ownKind v12_ownNumber, (cI κ (r12 59) 6 u.1), (cI κ (r12 60) 6 u.2.1), (cJ κ (r12 61) 360 u.2.2)]) [O12 a12 r12 v12_keptMany v12_done v12_sheets v12_holes v12_worms v12_laidMany v12_wanted v12_orderMany v12_firstOrder v12_lines v12_marks v12_dots v12_madeIn v12_bound v12_places v12_maps v12_tapeMany v12_stories v12_base v12_at v12_ends v12_fault v12_opened v12_bodies v12_ran v12_ownKind v12_ownNumber, (cI κ (r12 59) 6 f12_shelf), (cI κ (r12 60) 6 f12_many), (cJ κ (r12 61) 360 f12_items)] sz) 0 0 (va_A [O12 a12 r12 v12_keptMany v12_done v12_sheets v12_holes v12_worms v12_laidMany v12_wanted v12_orderMany v12_firstOrder v12_lines v12_marks v12_dots v12_madeIn v12_bound v12_places v12_maps v12_tapeMany v12_stories v12_base v12_at v12_ends v12_fault v12_opened v12_bodies v12_ran v12_ownKind v12_ownNumber, (cI κ (r12 59) 6 f12_shelf), (cI κ (r12 60) 6 f12_many), (cJ κ (r12 61) 360 f12_items)] sz) := by
  refine ofK_i (cc := cX12_row) (maxL := 5) (own := RX12) (by decide) rfl rfl (Nat.le_of_ble_eq_true rfl) ?_
  intro p e s m args below meth c Q A ls hsz hx hb hml hts hown hK hA hAB hP hD hl ret
  have hS : va_S A s.heap s.heap [] := va_S.rf
  have hl : lv_has ls 5 [(0, .ref a12), (1, .int p1), (2, .int p2), (3, .int p3)] := hl
  have w0 := hts (.constantLong RX12 221 (4)) (List.mem_of_getElem? (i := 1) rfl)
  have w1 := hts (.fieldLink RX12 107 "OlderSkinModel" "shelf" "[I") (List.mem_of_getElem? (i := 2) rfl)
  have w2 := (fun w h => List.mem_cons_of_mem _ (List.mem_append_right _ h) : ∀ w ∈ u_ws RX12 TX12 63, w ∈ wsX12_row)
  have w3 := hts (.fieldLink RX12 110 "OlderSkinModel" "many" "[I") (List.mem_of_getElem? (i := 3) rfl)
  have w4 := hts (.fieldLink RX12 113 "OlderSkinModel" "items" "[J") (List.mem_of_getElem? (i := 4) rfl)
  have l0 : (0 : Int32).toInt = 0 := by decide
  have l1 : ((-1) : Int32).toInt = -1 := by decide
  have l2 : (0 : Int64).toInt = 0 := by decide
  have l3 : (4 : Int64).toInt = 4 := by decide
  have l4 : (60 : Int32).toInt = 60 := by decide
  have l5 : (50 : Int32).toInt = 50 := by decide
  have l6 : (1 : Int32).toInt = 1 := by decide
  have l7 : ((-14) : Int32).toInt = -14 := by decide
  refine lv_iload_n hx hb dX12_row_0 rfl (lv_at hl 1 rfl) ?_
  refine kcm_i hA hAB hP hD hS [false, false, false, false] rfl (fun _ => rfl) (fun hPc hDc => va_runS (As := [.int p1]) (rest := []) ⟨hx, hb, hml, hown, hts⟩ (k_X12_isShelf l D κ β s.heap.size p1) (va_cwS 1 hts gX12_row_X12_isShelf rfl rfl rfl (by decide +kernel) ⟨Nat.le_of_ble_eq_true rfl, Nat.le_of_ble_eq_true rfl⟩) (pk_S hK hS hAB hPc hDc) rfl rfl hl.1 rfl (lv_room (Nat.le_of_ble_eq_true rfl)) dX12_row_1 ⟨Nat.le_of_ble_eq_true rfl, Nat.le_of_ble_eq_true rfl⟩) (fun x1 u2 H locs hw hPD hS => ?_)
  have h3 : (x1.toInt = 1 ∧ 0 ≤ p1.toInt ∧ p1.toInt ≤ 5) ∨ (x1.toInt = 0 ∧ (p1.toInt < 0 ∨ 5 < p1.toInt)) := hw
  obtain ⟨hP, hD⟩ : PD D A [O12 a12 r12 v12_keptMany v12_done v12_sheets v12_holes v12_worms v12_laidMany v12_wanted v12_orderMany v12_firstOrder v12_lines v12_marks v12_dots v12_madeIn v12_bound v12_places v12_maps v12_tapeMany v12_stories v12_base v12_at v12_ends v12_fault v12_opened v12_bodies v12_ran v12_ownKind v12_ownNumber, (cI κ (r12 59) 6 f12_shelf), (cI κ (r12 60) 6 f12_many), (cJ κ (r12 61) 360 f12_items)] H := hPD
  refine lv_if_eq (tgt := 25) hx hb dX12_row_4 (by decide) (fun c4 => ?_) (fun c4 => ?_)
  · have c4 := ci_eq c4
    refine lv_iconst (v := (-1)) hx hb dX12_row_25 (by decide) ?_
    have hpo : (∀ j : Nat, 0 ≤ (f12_many j).toInt ∧ (f12_many j).toInt ≤ 60) ∧ ((¬ (0 ≤ p1.toInt ∧ p1.toInt ≤ 5 ∧ 0 ≤ p2.toInt ∧ p2.toInt ≤ 4 ∧ p3.toInt ≤ 60) ∧ ((-1) : Int32).toInt = -1) ∨ ((0 ≤ p1.toInt ∧ p1.toInt ≤ 5 ∧ 0 ≤ p2.toInt ∧ p2.toInt ≤ 4 ∧ p3.toInt ≤ 60) ∧ p3.toInt < 0 ∧ ((-1) : Int32).toInt = -14) ∨ ((0 ≤ p1.toInt ∧ p1.toInt ≤ 5 ∧ 0 ≤ p2.toInt ∧ p2.toInt ≤ 4 ∧ p3.toInt ≤ 60) ∧ 0 ≤ p3.toInt ∧ ((-1) : Int32).toInt = 1)) := ⟨hf12_many, (by omega)⟩
    exact ret _ _ _ _ (-1) (f12_shelf, f12_many, f12_items) dX12_row_26 hpo hP hD hS
  have c4 := ci_ne c4
  refine lv_iload_n hx hb dX12_row_7 rfl (lv_at hl 2 rfl) ?_
  refine lv_i2l hx hb dX12_row_8 rfl ?_
  refine lv_topl (fun x5 e6 => ?_)
  have h7 : x5.toInt = p2.toInt := cl_i2l e6
  refine lv_lconst (v := (0 : Int64)) hx hb dX12_row_9 (by decide) ?_
  refine lv_ldc2 (v := (4 : Int64)) hx hb hown w0 dX12_row_10 ?_
  refine kcm_i hA hAB hP hD hS [false, false, false, false] rfl (fun _ => rfl) (fun hPc hDc => va_runS (As := [.long x5, .long (0 : Int64), .long (4 : Int64)]) (rest := []) ⟨hx, hb, hml, hown, hts⟩ (k_X12_within l D κ β H.size x5 (0 : Int64) (4 : Int64)) (va_cwS 3 hts gX12_row_X12_within rfl rfl rfl (by decide +kernel) ⟨Nat.le_of_ble_eq_true rfl, Nat.le_of_ble_eq_true rfl⟩) (pk_S hK hS hAB hPc hDc) rfl rfl hl.1 rfl (lv_room (Nat.le_of_ble_eq_true rfl)) dX12_row_13 ⟨Nat.le_of_ble_eq_true rfl, Nat.le_of_ble_eq_true rfl⟩) (fun x8 u9 H locs hw hPD hS => ?_)
  have h10 : (x8.toInt = 1 ∧ (0 : Int64).toInt ≤ x5.toInt ∧ x5.toInt ≤ (4 : Int64).toInt) ∨ (x8.toInt = 0 ∧ (x5.toInt < (0 : Int64).toInt ∨ (4 : Int64).toInt < x5.toInt)) := hw
  obtain ⟨hP, hD⟩ : PD D A [O12 a12 r12 v12_keptMany v12_done v12_sheets v12_holes v12_worms v12_laidMany v12_wanted v12_orderMany v12_firstOrder v12_lines v12_marks v12_dots v12_madeIn v12_bound v12_places v12_maps v12_tapeMany v12_stories v12_base v12_at v12_ends v12_fault v12_opened v12_bodies v12_ran v12_ownKind v12_ownNumber, (cI κ (r12 59) 6 f12_shelf), (cI κ (r12 60) 6 f12_many), (cJ κ (r12 61) 360 f12_items)] H := hPD
  refine lv_if_eq (tgt := 25) hx hb dX12_row_16 (by decide) (fun c11 => ?_) (fun c11 => ?_)
  · have c11 := ci_eq c11
    refine lv_iconst (v := (-1)) hx hb dX12_row_25 (by decide) ?_
    have hpo : (∀ j : Nat, 0 ≤ (f12_many j).toInt ∧ (f12_many j).toInt ≤ 60) ∧ ((¬ (0 ≤ p1.toInt ∧ p1.toInt ≤ 5 ∧ 0 ≤ p2.toInt ∧ p2.toInt ≤ 4 ∧ p3.toInt ≤ 60) ∧ ((-1) : Int32).toInt = -1) ∨ ((0 ≤ p1.toInt ∧ p1.toInt ≤ 5 ∧ 0 ≤ p2.toInt ∧ p2.toInt ≤ 4 ∧ p3.toInt ≤ 60) ∧ p3.toInt < 0 ∧ ((-1) : Int32).toInt = -14) ∨ ((0 ≤ p1.toInt ∧ p1.toInt ≤ 5 ∧ 0 ≤ p2.toInt ∧ p2.toInt ≤ 4 ∧ p3.toInt ≤ 60) ∧ 0 ≤ p3.toInt ∧ ((-1) : Int32).toInt = 1)) := ⟨hf12_many, (by omega)⟩
    exact ret _ _ _ _ (-1) (f12_shelf, f12_many, f12_items) dX12_row_26 hpo hP hD hS
  have c11 := ci_ne c11
  refine lv_iload_n hx hb dX12_row_19 rfl (lv_at hl 3 rfl) ?_
  refine lv_bipush (v := 60) hx hb dX12_row_20 (by decide) ?_
  refine lv_icmp_le (tgt := 27) hx hb dX12_row_22 (by decide) (fun c12 => ?_) (fun c12 => ?_)
  · have c12 := ci_le c12
    refine lv_iload_n hx hb dX12_row_27 rfl (lv_at hl 3 rfl) ?_
    refine lv_if_ge (tgt := 34) hx hb dX12_row_28 (by decide) (fun c13 => ?_) (fun c13 => ?_)
    · have c13 := ci_le c13
      refine lv_aload_n hx hb dX12_row_34 rfl (lv_at hl 0 rfl) ?_
      refine va_get (D := D) (ci := 12) (v := .ref (r12 59)) (C := RX12) (T := TX12) (N := 63) hx hb hts w2 hown hK.1 hP 0 rfl rfl 59 (by decide) w1 (fun _ h9 => h9) rfl dX12_row_35 ?_
      refine lv_iload_n hx hb dX12_row_38 rfl (lv_at hl 1 rfl) ?_
      refine lv_bipush (v := 50) hx hb dX12_row_39 (by decide) ?_
      refine lv_iload_n hx hb dX12_row_41 rfl (lv_at hl 2 rfl) ?_
      refine lv_iadd hx hb dX12_row_42 ?_
      refine lv_topi (fun x14 e15 => ?_)
      try have h16 : x14.toInt = (50 : Int32).toInt + p2.toInt := ci_add e15 (by omega) (by omega)
      refine va_iast hx hb hK.1 hP hD hS 1 1 rfl rfl (i := p1) (ix (by omega) (by omega)) dX12_row_43 (fun H locs hP hD hS => ?_)
      obtain ⟨g17, e18⟩ : ∃ y : Nat → Int32, y = upd f12_shelf p1.toNatClampNeg x14 := ⟨_, rfl⟩
      rw [← e18] at hP hD
      obtain ⟨hP, hD⟩ : PD D A [O12 a12 r12 v12_keptMany v12_done v12_sheets v12_holes v12_worms v12_laidMany v12_wanted v12_orderMany v12_firstOrder v12_lines v12_marks v12_dots v12_madeIn v12_bound v12_places v12_maps v12_tapeMany v12_stories v12_base v12_at v12_ends v12_fault v12_opened v12_bodies v12_ran v12_ownKind v12_ownNumber, (cI κ (r12 59) 6 g17), (cI κ (r12 60) 6 f12_many), (cJ κ (r12 61) 360 f12_items)] H := ⟨hP, hD⟩
      refine lv_aload_n hx hb dX12_row_44 rfl (lv_at hl 0 rfl) ?_
      refine va_get (D := D) (ci := 12) (v := .ref (r12 60)) (C := RX12) (T := TX12) (N := 63) hx hb hts w2 hown hK.1 hP 0 rfl rfl 60 (by decide) w3 (fun _ h9 => h9) rfl dX12_row_45 ?_
      refine lv_iload_n hx hb dX12_row_48 rfl (lv_at hl 1 rfl) ?_
      refine lv_iload_n hx hb dX12_row_49 rfl (lv_at hl 3 rfl) ?_
      refine va_iast hx hb hK.1 hP hD hS 2 1 rfl rfl (i := p1) (ix (by omega) (by omega)) dX12_row_50 (fun H locs hP hD hS => ?_)
      obtain ⟨g19, e20⟩ : ∃ y : Nat → Int32, y = upd f12_many p1.toNatClampNeg p3 := ⟨_, rfl⟩
      rw [← e20] at hP hD
      obtain ⟨hP, hD⟩ : PD D A [O12 a12 r12 v12_keptMany v12_done v12_sheets v12_holes v12_worms v12_laidMany v12_wanted v12_orderMany v12_firstOrder v12_lines v12_marks v12_dots v12_madeIn v12_bound v12_places v12_maps v12_tapeMany v12_stories v12_base v12_at v12_ends v12_fault v12_opened v12_bodies v12_ran v12_ownKind v12_ownNumber, (cI κ (r12 59) 6 g17), (cI κ (r12 60) 6 g19), (cJ κ (r12 61) 360 f12_items)] H := ⟨hP, hD⟩
      have h21 : ∀ j : Nat, 0 ≤ (g19 j).toInt ∧ (g19 j).toInt ≤ 60 := by rw [e20]; exact all_upd (P := fun z => 0 ≤ z.toInt ∧ z.toInt ≤ 60) hf12_many (by omega)
      refine lv_bipush (v := 60) hx hb dX12_row_51 (by decide) ?_
      refine lv_iload_n hx hb dX12_row_53 rfl (lv_at hl 1 rfl) ?_
      refine lv_imul hx hb dX12_row_54 ?_
      refine lv_topi (fun x22 e23 => ?_)
      try have h24 : x22.toInt = 60 * p1.toInt := ci_mulL (n := 60) (by decide) e23 (by omega) (by omega)
      refine lv_istore (lv' := [(4, .int x22), (0, .ref a12), (1, .int p1), (2, .int p2), (3, .int p3)]) hx hb dX12_row_55 hl (by decide) rfl (fun ls hl => ?_)
      have lp57 : ∀ (n57 : Nat) (k25 : Int32) (g26 : Nat → Int64), (0 ≤ k25.toInt) → (60 * p1.toInt + 60 - k25.toInt).toNat < n57 → ∀ (H : Heap) (locs : List Loc), va_P D vwCl [O12 a12 r12 v12_keptMany v12_done v12_sheets v12_holes v12_worms v12_laidMany v12_wanted v12_orderMany v12_firstOrder v12_lines v12_marks v12_dots v12_madeIn v12_bound v12_places v12_maps v12_tapeMany v12_stories v12_base v12_at v12_ends v12_fault v12_opened v12_bodies v12_ran v12_ownKind v12_ownNumber, (cI κ (r12 59) 6 g17), (cI κ (r12 60) 6 g19), (cJ κ (r12 61) 360 g26)] H → va_D A [O12 a12 r12 v12_keptMany v12_done v12_sheets v12_holes v12_worms v12_laidMany v12_wanted v12_orderMany v12_firstOrder v12_lines v12_marks v12_dots v12_madeIn v12_bound v12_places v12_maps v12_tapeMany v12_stories v12_base v12_at v12_ends v12_fault v12_opened v12_bodies v12_ran v12_ownKind v12_ownNumber, (cI κ (r12 59) 6 g17), (cI κ (r12 60) 6 g19), (cJ κ (r12 61) 360 g26)] → va_S A s.heap H locs → ∀ ls : Array Slot, lv_has ls 5 [(4, .int k25), (0, .ref a12), (1, .int p1), (2, .int p2), (3, .int p3)] → W p l e ({ frames := 2, cells := 0, slots := 0, locals := 45 } : Room) s m args below meth c H locs 0 0 Q (F0 m 57 ls []) := by
        intro n57
        induction n57 with
        | zero =>
          intro k25 g26 h27 m28
          exact absurd m28 (Nat.not_lt_zero _)
        | succ n57 ih57 =>
          intro k25 g26 h27 m28 H locs hP hD hS ls hl
          refine lv_iload hx hb dX12_row_57 (lv_at hl 0 rfl) ?_
          refine lv_bipush (v := 60) hx hb dX12_row_59 (by decide) ?_
          refine lv_iload_n hx hb dX12_row_61 rfl (lv_at hl 2 rfl) ?_
          refine lv_imul hx hb dX12_row_62 ?_
          refine lv_topi (fun x29 e30 => ?_)
          try have h31 : x29.toInt = 60 * p1.toInt := ci_mulL (n := 60) (by decide) e30 (by omega) (by omega)
          refine lv_bipush (v := 60) hx hb dX12_row_63 (by decide) ?_
          refine lv_iadd hx hb dX12_row_65 ?_
          refine lv_topi (fun x32 e33 => ?_)
          try have h34 : x32.toInt = x29.toInt + (60 : Int32).toInt := ci_add e33 (by omega) (by omega)
          refine lv_icmp_ge (tgt := 83) hx hb dX12_row_66 (by decide) (fun c35 => ?_) (fun c35 => ?_)
          · have c35 := ci_le c35
            refine lv_iconst (v := 1) hx hb dX12_row_83 (by decide) ?_
            have hpo : (∀ j : Nat, 0 ≤ (g19 j).toInt ∧ (g19 j).toInt ≤ 60) ∧ ((¬ (0 ≤ p1.toInt ∧ p1.toInt ≤ 5 ∧ 0 ≤ p2.toInt ∧ p2.toInt ≤ 4 ∧ p3.toInt ≤ 60) ∧ (1 : Int32).toInt = -1) ∨ ((0 ≤ p1.toInt ∧ p1.toInt ≤ 5 ∧ 0 ≤ p2.toInt ∧ p2.toInt ≤ 4 ∧ p3.toInt ≤ 60) ∧ p3.toInt < 0 ∧ (1 : Int32).toInt = -14) ∨ ((0 ≤ p1.toInt ∧ p1.toInt ≤ 5 ∧ 0 ≤ p2.toInt ∧ p2.toInt ≤ 4 ∧ p3.toInt ≤ 60) ∧ 0 ≤ p3.toInt ∧ (1 : Int32).toInt = 1)) := ⟨h21, (by omega)⟩
            exact ret _ _ _ _ 1 (g17, g19, g26) dX12_row_84 hpo hP hD hS
          have c35 := ci_nle c35
          refine lv_aload_n hx hb dX12_row_69 rfl (lv_at hl 1 rfl) ?_
          refine va_get (D := D) (ci := 12) (v := .ref (r12 61)) (C := RX12) (T := TX12) (N := 63) hx hb hts w2 hown hK.1 hP 0 rfl rfl 61 (by decide) w4 (fun _ h9 => h9) rfl dX12_row_70 ?_
          refine lv_iload hx hb dX12_row_73 (lv_at hl 0 rfl) ?_
          refine lv_lconst (v := (0 : Int64)) hx hb dX12_row_75 (by decide) ?_
          refine va_last hx hb hK.1 hP hD hS 3 2 rfl rfl (i := k25) (ix (by omega) (by omega)) dX12_row_76 (fun H locs hP hD hS => ?_)
          obtain ⟨g36, e37⟩ : ∃ y : Nat → Int64, y = vp_updL g26 k25.toNatClampNeg (0 : Int64) := ⟨_, rfl⟩
          rw [← e37] at hP hD
          obtain ⟨hP, hD⟩ : PD D A [O12 a12 r12 v12_keptMany v12_done v12_sheets v12_holes v12_worms v12_laidMany v12_wanted v12_orderMany v12_firstOrder v12_lines v12_marks v12_dots v12_madeIn v12_bound v12_places v12_maps v12_tapeMany v12_stories v12_base v12_at v12_ends v12_fault v12_opened v12_bodies v12_ran v12_ownKind v12_ownNumber, (cI κ (r12 59) 6 g17), (cI κ (r12 60) 6 g19), (cJ κ (r12 61) 360 g36)] H := ⟨hP, hD⟩
          obtain ⟨x38, e39⟩ : ∃ y : Int32, y = k25 + 1 := ⟨_, rfl⟩
          refine lv_iinc (v := x38) (lv' := [(4, .int x38), (0, .ref a12), (1, .int p1), (2, .int p2), (3, .int p3)]) hx hb dX12_row_77 hl (k := 0) rfl (by rw [e39]; rfl) (by decide) rfl (fun ls hl => ?_)
          try have h40 : x38.toInt = k25.toInt + (1 : Int32).toInt := ci_add e39 (by omega) (by omega)
          refine lv_goto (tgt := 57) hx hb dX12_row_80 (by decide) ?_
          exact ih57 x38 g36 (by omega) (by omega) _ _ hP hD hS _ hl
      exact lp57 ((60 * p1.toInt + 60 - x22.toInt).toNat + 1) x22 f12_items (by omega) (by omega) _ _ hP hD hS _ hl
    have c13 := ci_nle c13
    refine lv_bipush (v := (-14)) hx hb dX12_row_31 (by decide) ?_
    have hpo : (∀ j : Nat, 0 ≤ (f12_many j).toInt ∧ (f12_many j).toInt ≤ 60) ∧ ((¬ (0 ≤ p1.toInt ∧ p1.toInt ≤ 5 ∧ 0 ≤ p2.toInt ∧ p2.toInt ≤ 4 ∧ p3.toInt ≤ 60) ∧ ((-14) : Int32).toInt = -1) ∨ ((0 ≤ p1.toInt ∧ p1.toInt ≤ 5 ∧ 0 ≤ p2.toInt ∧ p2.toInt ≤ 4 ∧ p3.toInt ≤ 60) ∧ p3.toInt < 0 ∧ ((-14) : Int32).toInt = -14) ∨ ((0 ≤ p1.toInt ∧ p1.toInt ≤ 5 ∧ 0 ≤ p2.toInt ∧ p2.toInt ≤ 4 ∧ p3.toInt ≤ 60) ∧ 0 ≤ p3.toInt ∧ ((-14) : Int32).toInt = 1)) := ⟨hf12_many, (by omega)⟩
    exact ret _ _ _ _ (-14) (f12_shelf, f12_many, f12_items) dX12_row_33 hpo hP hD hS
  have c12 := ci_nle c12
  refine lv_iconst (v := (-1)) hx hb dX12_row_25 (by decide) ?_
  have hpo : (∀ j : Nat, 0 ≤ (f12_many j).toInt ∧ (f12_many j).toInt ≤ 60) ∧ ((¬ (0 ≤ p1.toInt ∧ p1.toInt ≤ 5 ∧ 0 ≤ p2.toInt ∧ p2.toInt ≤ 4 ∧ p3.toInt ≤ 60) ∧ ((-1) : Int32).toInt = -1) ∨ ((0 ≤ p1.toInt ∧ p1.toInt ≤ 5 ∧ 0 ≤ p2.toInt ∧ p2.toInt ≤ 4 ∧ p3.toInt ≤ 60) ∧ p3.toInt < 0 ∧ ((-1) : Int32).toInt = -14) ∨ ((0 ≤ p1.toInt ∧ p1.toInt ≤ 5 ∧ 0 ≤ p2.toInt ∧ p2.toInt ≤ 4 ∧ p3.toInt ≤ 60) ∧ 0 ≤ p3.toInt ∧ ((-1) : Int32).toInt = 1)) := ⟨hf12_many, (by omega)⟩
  exact ret _ _ _ _ (-1) (f12_shelf, f12_many, f12_items) dX12_row_26 hpo hP hD hS
set_option maxHeartbeats 4000000 in
set_option maxRecDepth 100000 in
theorem k_X12_above (l : Launch) (D : va_G) (κ : Nat → ClassId) (β : Nat) (sz : Nat) (p1 : Int32) (i1 : (1 : Int) ≤ 0) : Met l yX12_above wsX12_above ({ frames := 1, cells := 0, slots := 0, locals := 30 } : Room) (PcK D κ β [] sz [.int p1]) (QiK D (fun (r : Int32) (u : Unit) => True) (fun (u : Unit) => []) [] sz) 0 0 (va_A [] sz) := by
  refine ofK_i (cc := cX12_above) (maxL := 1) (own := RX12) (by decide) rfl rfl (Nat.le_of_ble_eq_true rfl) ?_
  intro p e s m args below meth c Q A ls hsz hx hb hml hts hown hK hA hAB hP hD hl ret
  have hS : va_S A s.heap s.heap [] := va_S.rf
  have hl : lv_has ls 1 [(0, .int p1)] := hl
  exfalso
  omega
set_option maxHeartbeats 4000000 in
set_option maxRecDepth 100000 in
theorem k_X12_taken (l : Launch) (D : va_G) (κ : Nat → ClassId) (β : Nat) (a12 : Nat) (r12 : Nat → Nat) (v12_keptMany : Int32) (v12_done : Int32) (v12_sheets : Int32) (v12_holes : Int32) (v12_worms : Int32) (v12_laidMany : Int32) (v12_wanted : Int32) (v12_orderMany : Int32) (v12_firstOrder : Int32) (v12_lines : Int32) (v12_marks : Int32) (v12_dots : Int32) (v12_madeIn : Int32) (v12_bound : Int32) (v12_places : Int32) (v12_maps : Int32) (v12_tapeMany : Int32) (v12_stories : Int32) (v12_base : Int32) (v12_at : Int32) (v12_ends : Int32) (v12_fault : Int32) (v12_opened : Int32) (v12_bodies : Int32) (v12_ran : Int32) (v12_ownKind : Int32) (v12_ownNumber : Int32) (f12_shelf : Nat → Int32) (sz : Nat) (p1 : Int32) (p2 : Int32) (i1 : Rg 0 40 v12_keptMany) (i2 : Rg 0 40 v12_done) (i3 : Rg 0 8 v12_sheets) (i4 : Rg 0 40 v12_holes) (i5 : Rg 0 40 v12_worms) (i6 : Rg 0 8 v12_laidMany) (i7 : Rg 0 8 v12_wanted) (i8 : Rg 0 20 v12_lines) (i9 : Rg 0 60 v12_marks) (i10 : Rg 0 40 v12_dots) (i11 : Rg 0 20 v12_places) (i12 : Rg 0 8 v12_maps) (i13 : Rg 0 120 v12_tapeMany) (i14 : Rg 0 6 v12_stories) (i15 : Rg 0 50 v12_bodies) (i16 : Rg 0 1000 v12_ran) (i17 : v12_done.toInt ≤ v12_keptMany.toInt) (i18 : p1.toInt < 0 ∨ 5 < p1.toInt ∨ (f12_shelf p1.toNatClampNeg).toInt = -1) (i19 : v12_keptMany.toInt = 0) (i20 : v12_done.toInt = 0) (i21 : v12_sheets.toInt = 0) (i22 : v12_holes.toInt = 0) (i23 : v12_worms.toInt = 0) (i24 : v12_lines.toInt = 0) (i25 : v12_marks.toInt = 0) (i26 : v12_dots.toInt = 0) (i27 : v12_madeIn.toInt = 2001) (i28 : v12_places.toInt = 0) (i29 : v12_maps.toInt = 0) (i30 : v12_tapeMany.toInt = 0) (i31 : v12_stories.toInt = 0) (i32 : v12_bodies.toInt = 0) : Met l yX12_taken wsX12_taken ({ frames := 2, cells := 0, slots := 0, locals := 45 } : Room) (PcK D κ β [O12 a12 r12 v12_keptMany v12_done v12_sheets v12_holes v12_worms v12_laidMany v12_wanted v12_orderMany v12_firstOrder v12_lines v12_marks v12_dots v12_madeIn v12_bound v12_places v12_maps v12_tapeMany v12_stories v12_base v12_at v12_ends v12_fault v12_opened v12_bodies v12_ran v12_ownKind v12_ownNumber, (cI κ (r12 59) 6 f12_shelf)] sz [.ref a12, .int p1, .int p2]) (QiK D (fun (r : Int32) (u : Unit) => ((0 ≤ p1.toInt ∧ p1.toInt ≤ 5 ∧ 0 ≤ p2.toInt ∧ p2.toInt ≤ 7) ∧ r.toInt = -11) ∨ (¬ (0 ≤ p1.toInt ∧ p1.toInt ≤ 5 ∧ 0 ≤ p2.toInt ∧ p2.toInt ≤ 7) ∧ r.toInt = -1)) (fun (u : Unit) => [O12 a12 r12 v12_keptMany v12_done v12_sheets v12_holes v12_worms v12_laidMany v12_wanted v12_orderMany v12_firstOrder v12_lines v12_marks v12_dots v12_madeIn v12_bound v12_places v12_maps v12_tapeMany v12_stories v12_base v12_at v12_ends v12_fault v12_opened v12_bodies v12_ran v12_ownKind v12_ownNumber, (cI κ (r12 59) 6 f12_shelf)]) [O12 a12 r12 v12_keptMany v12_done v12_sheets v12_holes v12_worms v12_laidMany v12_wanted v12_orderMany v12_firstOrder v12_lines v12_marks v12_dots v12_madeIn v12_bound v12_places v12_maps v12_tapeMany v12_stories v12_base v12_at v12_ends v12_fault v12_opened v12_bodies v12_ran v12_ownKind v12_ownNumber, (cI κ (r12 59) 6 f12_shelf)] sz) 0 0 (va_A [O12 a12 r12 v12_keptMany v12_done v12_sheets v12_holes v12_worms v12_laidMany v12_wanted v12_orderMany v12_firstOrder v12_lines v12_marks v12_dots v12_madeIn v12_bound v12_places v12_maps v12_tapeMany v12_stories v12_base v12_at v12_ends v12_fault v12_opened v12_bodies v12_ran v12_ownKind v12_ownNumber, (cI κ (r12 59) 6 f12_shelf)] sz) := by
  refine ofK_i (cc := cX12_taken) (maxL := 4) (own := RX12) (by decide) rfl rfl (Nat.le_of_ble_eq_true rfl) ?_
  intro p e s m args below meth c Q A ls hsz hx hb hml hts hown hK hA hAB hP hD hl ret
  have hS : va_S A s.heap s.heap [] := va_S.rf
  have hl : lv_has ls 4 [(0, .ref a12), (1, .int p1), (2, .int p2)] := hl
  have w0 := hts (.constantLong RX12 223 (7)) (List.mem_of_getElem? (i := 1) rfl)
  have w1 := hts (.fieldLink RX12 107 "OlderSkinModel" "shelf" "[I") (List.mem_of_getElem? (i := 2) rfl)
  have w2 := (fun w h => List.mem_cons_of_mem _ (List.mem_append_right _ h) : ∀ w ∈ u_ws RX12 TX12 63, w ∈ wsX12_taken)
  have l0 : (0 : Int32).toInt = 0 := by decide
  have l1 : ((-1) : Int32).toInt = -1 := by decide
  have l2 : (0 : Int64).toInt = 0 := by decide
  have l3 : (7 : Int64).toInt = 7 := by decide
  have l4 : ((-11) : Int32).toInt = -11 := by decide
  refine lv_iload_n hx hb dX12_taken_0 rfl (lv_at hl 1 rfl) ?_
  refine kcm_i hA hAB hP hD hS [false, false] rfl (fun _ => rfl) (fun hPc hDc => va_runS (As := [.int p1]) (rest := []) ⟨hx, hb, hml, hown, hts⟩ (k_X12_isShelf l D κ β s.heap.size p1) (va_cwS 1 hts gX12_taken_X12_isShelf rfl rfl rfl (by decide +kernel) ⟨Nat.le_of_ble_eq_true rfl, Nat.le_of_ble_eq_true rfl⟩) (pk_S hK hS hAB hPc hDc) rfl rfl hl.1 rfl (lv_room (Nat.le_of_ble_eq_true rfl)) dX12_taken_1 ⟨Nat.le_of_ble_eq_true rfl, Nat.le_of_ble_eq_true rfl⟩) (fun x1 u2 H locs hw hPD hS => ?_)
  have h3 : (x1.toInt = 1 ∧ 0 ≤ p1.toInt ∧ p1.toInt ≤ 5) ∨ (x1.toInt = 0 ∧ (p1.toInt < 0 ∨ 5 < p1.toInt)) := hw
  obtain ⟨hP, hD⟩ : PD D A [O12 a12 r12 v12_keptMany v12_done v12_sheets v12_holes v12_worms v12_laidMany v12_wanted v12_orderMany v12_firstOrder v12_lines v12_marks v12_dots v12_madeIn v12_bound v12_places v12_maps v12_tapeMany v12_stories v12_base v12_at v12_ends v12_fault v12_opened v12_bodies v12_ran v12_ownKind v12_ownNumber, (cI κ (r12 59) 6 f12_shelf)] H := hPD
  refine lv_if_eq (tgt := 19) hx hb dX12_taken_4 (by decide) (fun c4 => ?_) (fun c4 => ?_)
  · have c4 := ci_eq c4
    refine lv_iconst (v := (-1)) hx hb dX12_taken_19 (by decide) ?_
    have hpo : ((0 ≤ p1.toInt ∧ p1.toInt ≤ 5 ∧ 0 ≤ p2.toInt ∧ p2.toInt ≤ 7) ∧ ((-1) : Int32).toInt = -11) ∨ (¬ (0 ≤ p1.toInt ∧ p1.toInt ≤ 5 ∧ 0 ≤ p2.toInt ∧ p2.toInt ≤ 7) ∧ ((-1) : Int32).toInt = -1) := (by omega)
    exact ret _ _ _ _ (-1) () dX12_taken_20 hpo hP hD hS
  have c4 := ci_ne c4
  refine lv_iload_n hx hb dX12_taken_7 rfl (lv_at hl 2 rfl) ?_
  refine lv_i2l hx hb dX12_taken_8 rfl ?_
  refine lv_topl (fun x5 e6 => ?_)
  have h7 : x5.toInt = p2.toInt := cl_i2l e6
  refine lv_lconst (v := (0 : Int64)) hx hb dX12_taken_9 (by decide) ?_
  refine lv_ldc2 (v := (7 : Int64)) hx hb hown w0 dX12_taken_10 ?_
  refine kcm_i hA hAB hP hD hS [false, false] rfl (fun _ => rfl) (fun hPc hDc => va_runS (As := [.long x5, .long (0 : Int64), .long (7 : Int64)]) (rest := []) ⟨hx, hb, hml, hown, hts⟩ (k_X12_within l D κ β H.size x5 (0 : Int64) (7 : Int64)) (va_cwS 3 hts gX12_taken_X12_within rfl rfl rfl (by decide +kernel) ⟨Nat.le_of_ble_eq_true rfl, Nat.le_of_ble_eq_true rfl⟩) (pk_S hK hS hAB hPc hDc) rfl rfl hl.1 rfl (lv_room (Nat.le_of_ble_eq_true rfl)) dX12_taken_13 ⟨Nat.le_of_ble_eq_true rfl, Nat.le_of_ble_eq_true rfl⟩) (fun x8 u9 H locs hw hPD hS => ?_)
  have h10 : (x8.toInt = 1 ∧ (0 : Int64).toInt ≤ x5.toInt ∧ x5.toInt ≤ (7 : Int64).toInt) ∨ (x8.toInt = 0 ∧ (x5.toInt < (0 : Int64).toInt ∨ (7 : Int64).toInt < x5.toInt)) := hw
  obtain ⟨hP, hD⟩ : PD D A [O12 a12 r12 v12_keptMany v12_done v12_sheets v12_holes v12_worms v12_laidMany v12_wanted v12_orderMany v12_firstOrder v12_lines v12_marks v12_dots v12_madeIn v12_bound v12_places v12_maps v12_tapeMany v12_stories v12_base v12_at v12_ends v12_fault v12_opened v12_bodies v12_ran v12_ownKind v12_ownNumber, (cI κ (r12 59) 6 f12_shelf)] H := hPD
  refine lv_if_ne (tgt := 21) hx hb dX12_taken_16 (by decide) (fun c11 => ?_) (fun c11 => ?_)
  · have c11 := ci_ne c11
    refine lv_aload_n hx hb dX12_taken_21 rfl (lv_at hl 0 rfl) ?_
    refine va_get (D := D) (ci := 12) (v := .ref (r12 59)) (C := RX12) (T := TX12) (N := 63) hx hb hts w2 hown hK.1 hP 0 rfl rfl 59 (by decide) w1 (fun _ h9 => h9) rfl dX12_taken_22 ?_
    refine lv_iload_n hx hb dX12_taken_25 rfl (lv_at hl 1 rfl) ?_
    refine va_iald hx hb hK.1 hP 1 1 rfl rfl (i := p1) (ix (by omega) (by omega)) dX12_taken_26 ?_
    refine lv_topi (fun x12 e13 => ?_)
    have hq1 : x12.toInt = (f12_shelf p1.toNatClampNeg).toInt := congrArg Int32.toInt e13
    refine lv_if_ge (tgt := 33) hx hb dX12_taken_27 (by decide) (fun c14 => ?_) (fun c14 => ?_)
    · have c14 := ci_le c14
      exfalso
      omega
    have c14 := ci_nle c14
    refine lv_bipush (v := (-11)) hx hb dX12_taken_30 (by decide) ?_
    have hpo : ((0 ≤ p1.toInt ∧ p1.toInt ≤ 5 ∧ 0 ≤ p2.toInt ∧ p2.toInt ≤ 7) ∧ ((-11) : Int32).toInt = -11) ∨ (¬ (0 ≤ p1.toInt ∧ p1.toInt ≤ 5 ∧ 0 ≤ p2.toInt ∧ p2.toInt ≤ 7) ∧ ((-11) : Int32).toInt = -1) := (by omega)
    exact ret _ _ _ _ (-11) () dX12_taken_32 hpo hP hD hS
  have c11 := ci_eq c11
  refine lv_iconst (v := (-1)) hx hb dX12_taken_19 (by decide) ?_
  have hpo : ((0 ≤ p1.toInt ∧ p1.toInt ≤ 5 ∧ 0 ≤ p2.toInt ∧ p2.toInt ≤ 7) ∧ ((-1) : Int32).toInt = -11) ∨ (¬ (0 ≤ p1.toInt ∧ p1.toInt ≤ 5 ∧ 0 ≤ p2.toInt ∧ p2.toInt ≤ 7) ∧ ((-1) : Int32).toInt = -1) := (by omega)
  exact ret _ _ _ _ (-1) () dX12_taken_20 hpo hP hD hS
set_option maxHeartbeats 4000000 in
set_option maxRecDepth 100000 in
theorem k_X12_shift (l : Launch) (D : va_G) (κ : Nat → ClassId) (β : Nat) (a12 : Nat) (r12 : Nat → Nat) (v12_keptMany : Int32) (v12_done : Int32) (v12_sheets : Int32) (v12_holes : Int32) (v12_worms : Int32) (v12_laidMany : Int32) (v12_wanted : Int32) (v12_orderMany : Int32) (v12_firstOrder : Int32) (v12_lines : Int32) (v12_marks : Int32) (v12_dots : Int32) (v12_madeIn : Int32) (v12_bound : Int32) (v12_places : Int32) (v12_maps : Int32) (v12_tapeMany : Int32) (v12_stories : Int32) (v12_base : Int32) (v12_at : Int32) (v12_ends : Int32) (v12_fault : Int32) (v12_opened : Int32) (v12_bodies : Int32) (v12_ran : Int32) (v12_ownKind : Int32) (v12_ownNumber : Int32) (f12_shelf : Nat → Int32) (sz : Nat) (p1 : Int32) (p2 : Int32) (p3 : Int32) (p4 : Int32) (p5 : Int32) (i1 : Rg 0 40 v12_keptMany) (i2 : Rg 0 40 v12_done) (i3 : Rg 0 8 v12_sheets) (i4 : Rg 0 40 v12_holes) (i5 : Rg 0 40 v12_worms) (i6 : Rg 0 8 v12_laidMany) (i7 : Rg 0 8 v12_wanted) (i8 : Rg 0 20 v12_lines) (i9 : Rg 0 60 v12_marks) (i10 : Rg 0 40 v12_dots) (i11 : Rg 0 20 v12_places) (i12 : Rg 0 8 v12_maps) (i13 : Rg 0 120 v12_tapeMany) (i14 : Rg 0 6 v12_stories) (i15 : Rg 0 50 v12_bodies) (i16 : Rg 0 1000 v12_ran) (i17 : v12_done.toInt ≤ v12_keptMany.toInt) (i18 : p1.toInt < 0 ∨ 5 < p1.toInt ∨ (f12_shelf p1.toNatClampNeg).toInt = -1) (i19 : p3.toInt < 0 ∨ 5 < p3.toInt ∨ (f12_shelf p3.toNatClampNeg).toInt = -1) (i20 : v12_keptMany.toInt = 0) (i21 : v12_done.toInt = 0) (i22 : v12_sheets.toInt = 0) (i23 : v12_holes.toInt = 0) (i24 : v12_worms.toInt = 0) (i25 : v12_lines.toInt = 0) (i26 : v12_marks.toInt = 0) (i27 : v12_dots.toInt = 0) (i28 : v12_madeIn.toInt = 2001) (i29 : v12_places.toInt = 0) (i30 : v12_maps.toInt = 0) (i31 : v12_tapeMany.toInt = 0) (i32 : v12_stories.toInt = 0) (i33 : v12_bodies.toInt = 0) : Met l yX12_shift wsX12_shift ({ frames := 2, cells := 0, slots := 0, locals := 45 } : Room) (PcK D κ β [O12 a12 r12 v12_keptMany v12_done v12_sheets v12_holes v12_worms v12_laidMany v12_wanted v12_orderMany v12_firstOrder v12_lines v12_marks v12_dots v12_madeIn v12_bound v12_places v12_maps v12_tapeMany v12_stories v12_base v12_at v12_ends v12_fault v12_opened v12_bodies v12_ran v12_ownKind v12_ownNumber, (cI κ (r12 59) 6 f12_shelf)] sz [.ref a12, .int p1, .int p2, .int p3, .int p4, .int p5]) (QiK D (fun (r : Int32) (u : Unit) => ((0 ≤ p1.toInt ∧ p1.toInt ≤ 5 ∧ 0 ≤ p3.toInt ∧ p3.toInt ≤ 5) ∧ r.toInt = -11) ∨ (¬ (0 ≤ p1.toInt ∧ p1.toInt ≤ 5 ∧ 0 ≤ p3.toInt ∧ p3.toInt ≤ 5) ∧ r.toInt = -1)) (fun (u : Unit) => [O12 a12 r12 v12_keptMany v12_done v12_sheets v12_holes v12_worms v12_laidMany v12_wanted v12_orderMany v12_firstOrder v12_lines v12_marks v12_dots v12_madeIn v12_bound v12_places v12_maps v12_tapeMany v12_stories v12_base v12_at v12_ends v12_fault v12_opened v12_bodies v12_ran v12_ownKind v12_ownNumber, (cI κ (r12 59) 6 f12_shelf)]) [O12 a12 r12 v12_keptMany v12_done v12_sheets v12_holes v12_worms v12_laidMany v12_wanted v12_orderMany v12_firstOrder v12_lines v12_marks v12_dots v12_madeIn v12_bound v12_places v12_maps v12_tapeMany v12_stories v12_base v12_at v12_ends v12_fault v12_opened v12_bodies v12_ran v12_ownKind v12_ownNumber, (cI κ (r12 59) 6 f12_shelf)] sz) 0 0 (va_A [O12 a12 r12 v12_keptMany v12_done v12_sheets v12_holes v12_worms v12_laidMany v12_wanted v12_orderMany v12_firstOrder v12_lines v12_marks v12_dots v12_madeIn v12_bound v12_places v12_maps v12_tapeMany v12_stories v12_base v12_at v12_ends v12_fault v12_opened v12_bodies v12_ran v12_ownKind v12_ownNumber, (cI κ (r12 59) 6 f12_shelf)] sz) := by
  refine ofK_i (cc := cX12_shift) (maxL := 7) (own := RX12) (by decide) rfl rfl (Nat.le_of_ble_eq_true rfl) ?_
  intro p e s m args below meth c Q A ls hsz hx hb hml hts hown hK hA hAB hP hD hl ret
  have hS : va_S A s.heap s.heap [] := va_S.rf
  have hl : lv_has ls 7 [(0, .ref a12), (1, .int p1), (2, .int p2), (3, .int p3), (4, .int p4), (5, .int p5)] := hl
  have w0 := hts (.fieldLink RX12 107 "OlderSkinModel" "shelf" "[I") (List.mem_of_getElem? (i := 1) rfl)
  have w1 := (fun w h => List.mem_cons_of_mem _ (List.mem_append_right _ h) : ∀ w ∈ u_ws RX12 TX12 63, w ∈ wsX12_shift)
  have l0 : (0 : Int32).toInt = 0 := by decide
  have l1 : ((-1) : Int32).toInt = -1 := by decide
  have l2 : ((-11) : Int32).toInt = -11 := by decide
  have rg5 := ci_rng p5
  refine lv_iload_n hx hb dX12_shift_0 rfl (lv_at hl 1 rfl) ?_
  refine kcm_i hA hAB hP hD hS [false, false] rfl (fun _ => rfl) (fun hPc hDc => va_runS (As := [.int p1]) (rest := []) ⟨hx, hb, hml, hown, hts⟩ (k_X12_isShelf l D κ β s.heap.size p1) (va_cwS 1 hts gX12_shift_X12_isShelf rfl rfl rfl (by decide +kernel) ⟨Nat.le_of_ble_eq_true rfl, Nat.le_of_ble_eq_true rfl⟩) (pk_S hK hS hAB hPc hDc) rfl rfl hl.1 rfl (lv_room (Nat.le_of_ble_eq_true rfl)) dX12_shift_1 ⟨Nat.le_of_ble_eq_true rfl, Nat.le_of_ble_eq_true rfl⟩) (fun x1 u2 H locs hw hPD hS => ?_)
  have h3 : (x1.toInt = 1 ∧ 0 ≤ p1.toInt ∧ p1.toInt ≤ 5) ∨ (x1.toInt = 0 ∧ (p1.toInt < 0 ∨ 5 < p1.toInt)) := hw
  obtain ⟨hP, hD⟩ : PD D A [O12 a12 r12 v12_keptMany v12_done v12_sheets v12_holes v12_worms v12_laidMany v12_wanted v12_orderMany v12_firstOrder v12_lines v12_marks v12_dots v12_madeIn v12_bound v12_places v12_maps v12_tapeMany v12_stories v12_base v12_at v12_ends v12_fault v12_opened v12_bodies v12_ran v12_ownKind v12_ownNumber, (cI κ (r12 59) 6 f12_shelf)] H := hPD
  refine lv_if_eq (tgt := 14) hx hb dX12_shift_4 (by decide) (fun c4 => ?_) (fun c4 => ?_)
  · have c4 := ci_eq c4
    refine lv_iconst (v := (-1)) hx hb dX12_shift_14 (by decide) ?_
    have hpo : ((0 ≤ p1.toInt ∧ p1.toInt ≤ 5 ∧ 0 ≤ p3.toInt ∧ p3.toInt ≤ 5) ∧ ((-1) : Int32).toInt = -11) ∨ (¬ (0 ≤ p1.toInt ∧ p1.toInt ≤ 5 ∧ 0 ≤ p3.toInt ∧ p3.toInt ≤ 5) ∧ ((-1) : Int32).toInt = -1) := (by omega)
    exact ret _ _ _ _ (-1) () dX12_shift_15 hpo hP hD hS
  have c4 := ci_ne c4
  refine lv_iload_n hx hb dX12_shift_7 rfl (lv_at hl 3 rfl) ?_
  refine kcm_i hA hAB hP hD hS [false, false] rfl (fun _ => rfl) (fun hPc hDc => va_runS (As := [.int p3]) (rest := []) ⟨hx, hb, hml, hown, hts⟩ (k_X12_isShelf l D κ β H.size p3) (va_cwS 1 hts gX12_shift_X12_isShelf rfl rfl rfl (by decide +kernel) ⟨Nat.le_of_ble_eq_true rfl, Nat.le_of_ble_eq_true rfl⟩) (pk_S hK hS hAB hPc hDc) rfl rfl hl.1 rfl (lv_room (Nat.le_of_ble_eq_true rfl)) dX12_shift_8 ⟨Nat.le_of_ble_eq_true rfl, Nat.le_of_ble_eq_true rfl⟩) (fun x5 u6 H locs hw hPD hS => ?_)
  have h7 : (x5.toInt = 1 ∧ 0 ≤ p3.toInt ∧ p3.toInt ≤ 5) ∨ (x5.toInt = 0 ∧ (p3.toInt < 0 ∨ 5 < p3.toInt)) := hw
  obtain ⟨hP, hD⟩ : PD D A [O12 a12 r12 v12_keptMany v12_done v12_sheets v12_holes v12_worms v12_laidMany v12_wanted v12_orderMany v12_firstOrder v12_lines v12_marks v12_dots v12_madeIn v12_bound v12_places v12_maps v12_tapeMany v12_stories v12_base v12_at v12_ends v12_fault v12_opened v12_bodies v12_ran v12_ownKind v12_ownNumber, (cI κ (r12 59) 6 f12_shelf)] H := hPD
  refine lv_if_ne (tgt := 16) hx hb dX12_shift_11 (by decide) (fun c8 => ?_) (fun c8 => ?_)
  · have c8 := ci_ne c8
    refine lv_aload_n hx hb dX12_shift_16 rfl (lv_at hl 0 rfl) ?_
    refine va_get (D := D) (ci := 12) (v := .ref (r12 59)) (C := RX12) (T := TX12) (N := 63) hx hb hts w1 hown hK.1 hP 0 rfl rfl 59 (by decide) w0 (fun _ h9 => h9) rfl dX12_shift_17 ?_
    refine lv_iload_n hx hb dX12_shift_20 rfl (lv_at hl 1 rfl) ?_
    refine va_iald hx hb hK.1 hP 1 1 rfl rfl (i := p1) (ix (by omega) (by omega)) dX12_shift_21 ?_
    refine lv_topi (fun x9 e10 => ?_)
    have hq1 : x9.toInt = (f12_shelf p1.toNatClampNeg).toInt := congrArg Int32.toInt e10
    refine lv_if_lt (tgt := 34) hx hb dX12_shift_22 (by decide) (fun c11 => ?_) (fun c11 => ?_)
    · have c11 := ci_lt c11
      refine lv_bipush (v := (-11)) hx hb dX12_shift_34 (by decide) ?_
      have hpo : ((0 ≤ p1.toInt ∧ p1.toInt ≤ 5 ∧ 0 ≤ p3.toInt ∧ p3.toInt ≤ 5) ∧ ((-11) : Int32).toInt = -11) ∨ (¬ (0 ≤ p1.toInt ∧ p1.toInt ≤ 5 ∧ 0 ≤ p3.toInt ∧ p3.toInt ≤ 5) ∧ ((-11) : Int32).toInt = -1) := (by omega)
      exact ret _ _ _ _ (-11) () dX12_shift_36 hpo hP hD hS
    have c11 := ci_nlt c11
    exfalso
    omega
  have c8 := ci_eq c8
  refine lv_iconst (v := (-1)) hx hb dX12_shift_14 (by decide) ?_
  have hpo : ((0 ≤ p1.toInt ∧ p1.toInt ≤ 5 ∧ 0 ≤ p3.toInt ∧ p3.toInt ≤ 5) ∧ ((-1) : Int32).toInt = -11) ∨ (¬ (0 ≤ p1.toInt ∧ p1.toInt ≤ 5 ∧ 0 ≤ p3.toInt ∧ p3.toInt ≤ 5) ∧ ((-1) : Int32).toInt = -1) := (by omega)
  exact ret _ _ _ _ (-1) () dX12_shift_15 hpo hP hD hS
set_option maxHeartbeats 4000000 in
set_option maxRecDepth 100000 in
theorem k_X12_count (l : Launch) (D : va_G) (κ : Nat → ClassId) (β : Nat) (a12 : Nat) (r12 : Nat → Nat) (v12_keptMany : Int32) (v12_done : Int32) (v12_sheets : Int32) (v12_holes : Int32) (v12_worms : Int32) (v12_laidMany : Int32) (v12_wanted : Int32) (v12_orderMany : Int32) (v12_firstOrder : Int32) (v12_lines : Int32) (v12_marks : Int32) (v12_dots : Int32) (v12_madeIn : Int32) (v12_bound : Int32) (v12_places : Int32) (v12_maps : Int32) (v12_tapeMany : Int32) (v12_stories : Int32) (v12_base : Int32) (v12_at : Int32) (v12_ends : Int32) (v12_fault : Int32) (v12_opened : Int32) (v12_bodies : Int32) (v12_ran : Int32) (v12_ownKind : Int32) (v12_ownNumber : Int32) (sz : Nat) (p1 : Int32) (i1 : Rg 0 40 v12_keptMany) (i2 : Rg 0 40 v12_done) (i3 : Rg 0 8 v12_sheets) (i4 : Rg 0 40 v12_holes) (i5 : Rg 0 40 v12_worms) (i6 : Rg 0 8 v12_laidMany) (i7 : Rg 0 8 v12_wanted) (i8 : Rg 0 20 v12_lines) (i9 : Rg 0 60 v12_marks) (i10 : Rg 0 40 v12_dots) (i11 : Rg 0 20 v12_places) (i12 : Rg 0 8 v12_maps) (i13 : Rg 0 120 v12_tapeMany) (i14 : Rg 0 6 v12_stories) (i15 : Rg 0 50 v12_bodies) (i16 : Rg 0 1000 v12_ran) (i17 : v12_done.toInt ≤ v12_keptMany.toInt) (i18 : v12_ran.toInt = 0) (i19 : v12_keptMany.toInt = 0) (i20 : v12_done.toInt = 0) (i21 : v12_sheets.toInt = 0) (i22 : v12_holes.toInt = 0) (i23 : v12_worms.toInt = 0) (i24 : v12_lines.toInt = 0) (i25 : v12_marks.toInt = 0) (i26 : v12_dots.toInt = 0) (i27 : v12_madeIn.toInt = 2001) (i28 : v12_places.toInt = 0) (i29 : v12_maps.toInt = 0) (i30 : v12_tapeMany.toInt = 0) (i31 : v12_stories.toInt = 0) (i32 : v12_bodies.toInt = 0) : Met l yX12_count wsX12_count ({ frames := 0, cells := 0, slots := 0, locals := 0 } : Room) (PcK D κ β [O12 a12 r12 v12_keptMany v12_done v12_sheets v12_holes v12_worms v12_laidMany v12_wanted v12_orderMany v12_firstOrder v12_lines v12_marks v12_dots v12_madeIn v12_bound v12_places v12_maps v12_tapeMany v12_stories v12_base v12_at v12_ends v12_fault v12_opened v12_bodies v12_ran v12_ownKind v12_ownNumber] sz [.ref a12, .int p1]) (QiK D (fun (r : Int32) (u : Unit) => ((0 ≤ p1.toInt ∧ p1.toInt ≤ 11) ∧ r.toInt = 0) ∨ (¬ (0 ≤ p1.toInt ∧ p1.toInt ≤ 11) ∧ r.toInt = -1)) (fun (u : Unit) => [O12 a12 r12 v12_keptMany v12_done v12_sheets v12_holes v12_worms v12_laidMany v12_wanted v12_orderMany v12_firstOrder v12_lines v12_marks v12_dots v12_madeIn v12_bound v12_places v12_maps v12_tapeMany v12_stories v12_base v12_at v12_ends v12_fault v12_opened v12_bodies v12_ran v12_ownKind v12_ownNumber]) [O12 a12 r12 v12_keptMany v12_done v12_sheets v12_holes v12_worms v12_laidMany v12_wanted v12_orderMany v12_firstOrder v12_lines v12_marks v12_dots v12_madeIn v12_bound v12_places v12_maps v12_tapeMany v12_stories v12_base v12_at v12_ends v12_fault v12_opened v12_bodies v12_ran v12_ownKind v12_ownNumber] sz) 0 0 (va_A [O12 a12 r12 v12_keptMany v12_done v12_sheets v12_holes v12_worms v12_laidMany v12_wanted v12_orderMany v12_firstOrder v12_lines v12_marks v12_dots v12_madeIn v12_bound v12_places v12_maps v12_tapeMany v12_stories v12_base v12_at v12_ends v12_fault v12_opened v12_bodies v12_ran v12_ownKind v12_ownNumber] sz) := by
  refine ofK_i (cc := cX12_count) (maxL := 2) (own := RX12) (by decide) rfl rfl (Nat.le_of_ble_eq_true rfl) ?_
  intro p e s m args below meth c Q A ls hsz hx hb hml hts hown hK hA hAB hP hD hl ret
  have hS : va_S A s.heap s.heap [] := va_S.rf
  have hl : lv_has ls 2 [(0, .ref a12), (1, .int p1)] := hl
  have w0 := hts (.fieldLink RX12 133 "OlderSkinModel" "sheets" "I") (List.mem_of_getElem? (i := 1) rfl)
  have w1 := (fun w h => List.mem_cons_of_mem _ (List.mem_append_right _ h) : ∀ w ∈ u_ws RX12 TX12 63, w ∈ wsX12_count)
  have w2 := hts (.fieldLink RX12 140 "OlderSkinModel" "holes" "I") (List.mem_of_getElem? (i := 2) rfl)
  have w3 := hts (.fieldLink RX12 200 "OlderSkinModel" "lines" "I") (List.mem_of_getElem? (i := 3) rfl)
  have w4 := hts (.fieldLink RX12 203 "OlderSkinModel" "marks" "I") (List.mem_of_getElem? (i := 4) rfl)
  have w5 := hts (.fieldLink RX12 227 "OlderSkinModel" "dots" "I") (List.mem_of_getElem? (i := 5) rfl)
  have w6 := hts (.fieldLink RX12 262 "OlderSkinModel" "places" "I") (List.mem_of_getElem? (i := 6) rfl)
  have w7 := hts (.fieldLink RX12 277 "OlderSkinModel" "maps" "I") (List.mem_of_getElem? (i := 7) rfl)
  have w8 := hts (.fieldLink RX12 294 "OlderSkinModel" "tapeMany" "I") (List.mem_of_getElem? (i := 8) rfl)
  have w9 := hts (.fieldLink RX12 342 "OlderSkinModel" "stories" "I") (List.mem_of_getElem? (i := 9) rfl)
  have w10 := hts (.fieldLink RX12 127 "OlderSkinModel" "done" "I") (List.mem_of_getElem? (i := 10) rfl)
  have w11 := hts (.fieldLink RX12 379 "OlderSkinModel" "bodies" "I") (List.mem_of_getElem? (i := 11) rfl)
  have w12 := hts (.fieldLink RX12 382 "OlderSkinModel" "ran" "I") (List.mem_of_getElem? (i := 12) rfl)
  have l0 : ((-1) : Int32).toInt = -1 := by decide
  have i1 : 0 ≤ v12_keptMany.toInt ∧ v12_keptMany.toInt ≤ 40 := i1
  have i2 : 0 ≤ v12_done.toInt ∧ v12_done.toInt ≤ 40 := i2
  have i3 : 0 ≤ v12_sheets.toInt ∧ v12_sheets.toInt ≤ 8 := i3
  have i4 : 0 ≤ v12_holes.toInt ∧ v12_holes.toInt ≤ 40 := i4
  have i8 : 0 ≤ v12_lines.toInt ∧ v12_lines.toInt ≤ 20 := i8
  have i9 : 0 ≤ v12_marks.toInt ∧ v12_marks.toInt ≤ 60 := i9
  have i10 : 0 ≤ v12_dots.toInt ∧ v12_dots.toInt ≤ 40 := i10
  have i11 : 0 ≤ v12_places.toInt ∧ v12_places.toInt ≤ 20 := i11
  have i12 : 0 ≤ v12_maps.toInt ∧ v12_maps.toInt ≤ 8 := i12
  have i13 : 0 ≤ v12_tapeMany.toInt ∧ v12_tapeMany.toInt ≤ 120 := i13
  have i14 : 0 ≤ v12_stories.toInt ∧ v12_stories.toInt ≤ 6 := i14
  have i15 : 0 ≤ v12_bodies.toInt ∧ v12_bodies.toInt ≤ 50 := i15
  have i16 : 0 ≤ v12_ran.toInt ∧ v12_ran.toInt ≤ 1000 := i16
  refine lv_iload_n hx hb dX12_count_0 rfl (lv_at hl 1 rfl) ?_
  by_cases c1 : p1.toInt = 0
  · refine lv_tableIn (off := 63) (tgt := 64) hx hb dX12_count_1 (by omega) (by omega) (by rw [c1]; decide) (by decide) ?_
    refine lv_aload_n hx hb dX12_count_64 rfl (lv_at hl 0 rfl) ?_
    refine va_get (D := D) (ci := 12) (v := .int v12_sheets) (C := RX12) (T := TX12) (N := 63) hx hb hts w1 hown hK.1 hP 0 rfl rfl 6 (by decide) w0 (fun _ h9 => h9) rfl dX12_count_65 ?_
    have hpo : ((0 ≤ p1.toInt ∧ p1.toInt ≤ 11) ∧ v12_sheets.toInt = 0) ∨ (¬ (0 ≤ p1.toInt ∧ p1.toInt ≤ 11) ∧ v12_sheets.toInt = -1) := (by omega)
    exact ret _ _ _ _ v12_sheets () dX12_count_68 hpo hP hD hS
  by_cases c2 : p1.toInt = 1
  · refine lv_tableIn (off := 68) (tgt := 69) hx hb dX12_count_1 (by omega) (by omega) (by rw [c2]; decide) (by decide) ?_
    refine lv_aload_n hx hb dX12_count_69 rfl (lv_at hl 0 rfl) ?_
    refine va_get (D := D) (ci := 12) (v := .int v12_holes) (C := RX12) (T := TX12) (N := 63) hx hb hts w1 hown hK.1 hP 0 rfl rfl 7 (by decide) w2 (fun _ h9 => h9) rfl dX12_count_70 ?_
    have hpo : ((0 ≤ p1.toInt ∧ p1.toInt ≤ 11) ∧ v12_holes.toInt = 0) ∨ (¬ (0 ≤ p1.toInt ∧ p1.toInt ≤ 11) ∧ v12_holes.toInt = -1) := (by omega)
    exact ret _ _ _ _ v12_holes () dX12_count_73 hpo hP hD hS
  by_cases c3 : p1.toInt = 2
  · refine lv_tableIn (off := 73) (tgt := 74) hx hb dX12_count_1 (by omega) (by omega) (by rw [c3]; decide) (by decide) ?_
    refine lv_aload_n hx hb dX12_count_74 rfl (lv_at hl 0 rfl) ?_
    refine va_get (D := D) (ci := 12) (v := .int v12_lines) (C := RX12) (T := TX12) (N := 63) hx hb hts w1 hown hK.1 hP 0 rfl rfl 20 (by decide) w3 (fun _ h9 => h9) rfl dX12_count_75 ?_
    have hpo : ((0 ≤ p1.toInt ∧ p1.toInt ≤ 11) ∧ v12_lines.toInt = 0) ∨ (¬ (0 ≤ p1.toInt ∧ p1.toInt ≤ 11) ∧ v12_lines.toInt = -1) := (by omega)
    exact ret _ _ _ _ v12_lines () dX12_count_78 hpo hP hD hS
  by_cases c4 : p1.toInt = 3
  · refine lv_tableIn (off := 78) (tgt := 79) hx hb dX12_count_1 (by omega) (by omega) (by rw [c4]; decide) (by decide) ?_
    refine lv_aload_n hx hb dX12_count_79 rfl (lv_at hl 0 rfl) ?_
    refine va_get (D := D) (ci := 12) (v := .int v12_marks) (C := RX12) (T := TX12) (N := 63) hx hb hts w1 hown hK.1 hP 0 rfl rfl 23 (by decide) w4 (fun _ h9 => h9) rfl dX12_count_80 ?_
    have hpo : ((0 ≤ p1.toInt ∧ p1.toInt ≤ 11) ∧ v12_marks.toInt = 0) ∨ (¬ (0 ≤ p1.toInt ∧ p1.toInt ≤ 11) ∧ v12_marks.toInt = -1) := (by omega)
    exact ret _ _ _ _ v12_marks () dX12_count_83 hpo hP hD hS
  by_cases c5 : p1.toInt = 4
  · refine lv_tableIn (off := 83) (tgt := 84) hx hb dX12_count_1 (by omega) (by omega) (by rw [c5]; decide) (by decide) ?_
    refine lv_aload_n hx hb dX12_count_84 rfl (lv_at hl 0 rfl) ?_
    refine va_get (D := D) (ci := 12) (v := .int v12_dots) (C := RX12) (T := TX12) (N := 63) hx hb hts w1 hown hK.1 hP 0 rfl rfl 27 (by decide) w5 (fun _ h9 => h9) rfl dX12_count_85 ?_
    have hpo : ((0 ≤ p1.toInt ∧ p1.toInt ≤ 11) ∧ v12_dots.toInt = 0) ∨ (¬ (0 ≤ p1.toInt ∧ p1.toInt ≤ 11) ∧ v12_dots.toInt = -1) := (by omega)
    exact ret _ _ _ _ v12_dots () dX12_count_88 hpo hP hD hS
  by_cases c6 : p1.toInt = 5
  · refine lv_tableIn (off := 88) (tgt := 89) hx hb dX12_count_1 (by omega) (by omega) (by rw [c6]; decide) (by decide) ?_
    refine lv_aload_n hx hb dX12_count_89 rfl (lv_at hl 0 rfl) ?_
    refine va_get (D := D) (ci := 12) (v := .int v12_places) (C := RX12) (T := TX12) (N := 63) hx hb hts w1 hown hK.1 hP 0 rfl rfl 34 (by decide) w6 (fun _ h9 => h9) rfl dX12_count_90 ?_
    have hpo : ((0 ≤ p1.toInt ∧ p1.toInt ≤ 11) ∧ v12_places.toInt = 0) ∨ (¬ (0 ≤ p1.toInt ∧ p1.toInt ≤ 11) ∧ v12_places.toInt = -1) := (by omega)
    exact ret _ _ _ _ v12_places () dX12_count_93 hpo hP hD hS
  by_cases c7 : p1.toInt = 6
  · refine lv_tableIn (off := 93) (tgt := 94) hx hb dX12_count_1 (by omega) (by omega) (by rw [c7]; decide) (by decide) ?_
    refine lv_aload_n hx hb dX12_count_94 rfl (lv_at hl 0 rfl) ?_
    refine va_get (D := D) (ci := 12) (v := .int v12_maps) (C := RX12) (T := TX12) (N := 63) hx hb hts w1 hown hK.1 hP 0 rfl rfl 38 (by decide) w7 (fun _ h9 => h9) rfl dX12_count_95 ?_
    have hpo : ((0 ≤ p1.toInt ∧ p1.toInt ≤ 11) ∧ v12_maps.toInt = 0) ∨ (¬ (0 ≤ p1.toInt ∧ p1.toInt ≤ 11) ∧ v12_maps.toInt = -1) := (by omega)
    exact ret _ _ _ _ v12_maps () dX12_count_98 hpo hP hD hS
  by_cases c8 : p1.toInt = 7
  · refine lv_tableIn (off := 98) (tgt := 99) hx hb dX12_count_1 (by omega) (by omega) (by rw [c8]; decide) (by decide) ?_
    refine lv_aload_n hx hb dX12_count_99 rfl (lv_at hl 0 rfl) ?_
    refine va_get (D := D) (ci := 12) (v := .int v12_tapeMany) (C := RX12) (T := TX12) (N := 63) hx hb hts w1 hown hK.1 hP 0 rfl rfl 42 (by decide) w8 (fun _ h9 => h9) rfl dX12_count_100 ?_
    have hpo : ((0 ≤ p1.toInt ∧ p1.toInt ≤ 11) ∧ v12_tapeMany.toInt = 0) ∨ (¬ (0 ≤ p1.toInt ∧ p1.toInt ≤ 11) ∧ v12_tapeMany.toInt = -1) := (by omega)
    exact ret _ _ _ _ v12_tapeMany () dX12_count_103 hpo hP hD hS
  by_cases c9 : p1.toInt = 8
  · refine lv_tableIn (off := 103) (tgt := 104) hx hb dX12_count_1 (by omega) (by omega) (by rw [c9]; decide) (by decide) ?_
    refine lv_aload_n hx hb dX12_count_104 rfl (lv_at hl 0 rfl) ?_
    refine va_get (D := D) (ci := 12) (v := .int v12_stories) (C := RX12) (T := TX12) (N := 63) hx hb hts w1 hown hK.1 hP 0 rfl rfl 43 (by decide) w9 (fun _ h9 => h9) rfl dX12_count_105 ?_
    have hpo : ((0 ≤ p1.toInt ∧ p1.toInt ≤ 11) ∧ v12_stories.toInt = 0) ∨ (¬ (0 ≤ p1.toInt ∧ p1.toInt ≤ 11) ∧ v12_stories.toInt = -1) := (by omega)
    exact ret _ _ _ _ v12_stories () dX12_count_108 hpo hP hD hS
  by_cases c10 : p1.toInt = 9
  · refine lv_tableIn (off := 108) (tgt := 109) hx hb dX12_count_1 (by omega) (by omega) (by rw [c10]; decide) (by decide) ?_
    refine lv_aload_n hx hb dX12_count_109 rfl (lv_at hl 0 rfl) ?_
    refine va_get (D := D) (ci := 12) (v := .int v12_done) (C := RX12) (T := TX12) (N := 63) hx hb hts w1 hown hK.1 hP 0 rfl rfl 5 (by decide) w10 (fun _ h9 => h9) rfl dX12_count_110 ?_
    have hpo : ((0 ≤ p1.toInt ∧ p1.toInt ≤ 11) ∧ v12_done.toInt = 0) ∨ (¬ (0 ≤ p1.toInt ∧ p1.toInt ≤ 11) ∧ v12_done.toInt = -1) := (by omega)
    exact ret _ _ _ _ v12_done () dX12_count_113 hpo hP hD hS
  by_cases c11 : p1.toInt = 10
  · refine lv_tableIn (off := 113) (tgt := 114) hx hb dX12_count_1 (by omega) (by omega) (by rw [c11]; decide) (by decide) ?_
    refine lv_aload_n hx hb dX12_count_114 rfl (lv_at hl 0 rfl) ?_
    refine va_get (D := D) (ci := 12) (v := .int v12_bodies) (C := RX12) (T := TX12) (N := 63) hx hb hts w1 hown hK.1 hP 0 rfl rfl 53 (by decide) w11 (fun _ h9 => h9) rfl dX12_count_115 ?_
    have hpo : ((0 ≤ p1.toInt ∧ p1.toInt ≤ 11) ∧ v12_bodies.toInt = 0) ∨ (¬ (0 ≤ p1.toInt ∧ p1.toInt ≤ 11) ∧ v12_bodies.toInt = -1) := (by omega)
    exact ret _ _ _ _ v12_bodies () dX12_count_118 hpo hP hD hS
  by_cases c12 : p1.toInt = 11
  · refine lv_tableIn (off := 118) (tgt := 119) hx hb dX12_count_1 (by omega) (by omega) (by rw [c12]; decide) (by decide) ?_
    refine lv_aload_n hx hb dX12_count_119 rfl (lv_at hl 0 rfl) ?_
    refine va_get (D := D) (ci := 12) (v := .int v12_ran) (C := RX12) (T := TX12) (N := 63) hx hb hts w1 hown hK.1 hP 0 rfl rfl 56 (by decide) w12 (fun _ h9 => h9) rfl dX12_count_120 ?_
    have hpo : ((0 ≤ p1.toInt ∧ p1.toInt ≤ 11) ∧ v12_ran.toInt = 0) ∨ (¬ (0 ≤ p1.toInt ∧ p1.toInt ≤ 11) ∧ v12_ran.toInt = -1) := (by omega)
    exact ret _ _ _ _ v12_ran () dX12_count_123 hpo hP hD hS
  refine lv_tableOut (tgt := 124) hx hb dX12_count_1 (by omega) (by decide) ?_
  refine lv_iconst (v := (-1)) hx hb dX12_count_124 (by decide) ?_
  have hpo : ((0 ≤ p1.toInt ∧ p1.toInt ≤ 11) ∧ ((-1) : Int32).toInt = 0) ∨ (¬ (0 ≤ p1.toInt ∧ p1.toInt ≤ 11) ∧ ((-1) : Int32).toInt = -1) := (by omega)
  exact ret _ _ _ _ (-1) () dX12_count_125 hpo hP hD hS
