noncomputable def st_words : List Cond := [.instantiable RX0 5, .instantiable RX1 6, .instantiable RX2 8, .instantiable RX3 10, .instantiable RX4 3, .instantiable RX5 4, .instantiable RX6 4, .instantiable RX7 9, .instantiable RX8 4, .instantiable RX9 7, .instantiable RX10 5, .instantiable RX11 12, .instantiable RX12 63, .arrayClass .byte, .arrayClass .int, .arrayClass .long, .arrayClass .boolean, .arrayOver (.array .int), .arrayOver (.array .long), .laysStatic "OlderSkin$Bodies" "ABOVE" "[I", .laysStatic "OlderSkin$Bodies" "OWN" "[I", .laysStatic "java/lang/String" "COMPACT_STRINGS" "Z", .initialized "OlderSkin$Bodies", .initialized "java/lang/String", .stringRef "OlderSkin" 86 "orsblyfa", .stringRef "OlderSkin$Tape" 68 "orsblyfa"]
set_option maxRecDepth 20000 in
theorem st_in : ∀ w ∈ st_words, w ∈ lw_tbl := mem_c chT_flat _ [(2, 57), (2, 26), (1, 133), (1, 93), (1, 188), (1, 74), (1, 168), (1, 32), (2, 83), (1, 232), (1, 205), (1, 24), (5, 211), (1, 230), (1, 72), (2, 105), (6, 166), (1, 238), (2, 89), (5, 132), (5, 130), (2, 116), (1, 11), (1, 13), (2, 106), (4, 160)] rfl
set_option maxRecDepth 20000 in
theorem nw_in : ∀ w ∈ NWl.map (fun q => Cond.methodLinkNest q.1 q.2.1 q.2.2.1 q.2.2.2), w ∈ lw_tbl := mem_c chT_flat _ [(1, 33), (1, 75), (1, 94), (1, 134), (1, 169), (1, 189), (1, 206), (1, 233), (2, 27), (2, 58), (2, 84), (2, 176), (3, 13), (3, 70), (3, 91), (3, 148), (3, 157), (3, 183), (3, 193), (3, 218), (4, 16), (4, 37), (4, 55), (5, 14), (5, 27), (5, 51), (5, 120)] rfl
theorem st_cls {s : State} (h : ∀ q ∈ vwCl, ∃ p : ClassId × (Nat → Nat), u_Kn s q.1 q.2.1 q.2.2 p.1 p.2) : ∃ D : va_G, ∀ (c : Nat) (q : vw_C), vwCl[c]? = some q → u_Kn s q.1 q.2.1 q.2.2 (D.1 c) (D.2 c) := by
  have h2 : ∀ c : Nat, ∃ p : ClassId × (Nat → Nat), ∀ q : vw_C, vwCl[c]? = some q → u_Kn s q.1 q.2.1 q.2.2 p.1 p.2 := by
    intro c
    cases hc : vwCl[c]? with
    | none => exact ⟨(0, fun _ => 0), fun q hq => by cases hq⟩
    | some q0 =>
      obtain ⟨p, hp⟩ := h q0 (List.mem_of_getElem? hc)
      exact ⟨p, fun q hq => by cases hq; exact hp⟩
  exact ⟨(fun c => (Classical.choose (h2 c)).1, fun c => (Classical.choose (h2 c)).2), fun c q hq => Classical.choose_spec (h2 c) q hq⟩
theorem st_arr {args : Array Value} {s : State} {ty : FieldType} (h : (Cond.arrayClass ty).before args s = true) : ∃ c : ClassId, ArrOfT s c ty ∧ s.vm.findClass ("[" ++ ty.toString) = some c := by
  obtain ⟨c, k, comp, h1, h2, h3⟩ := Cond.arrayClass_spec h
  exact ⟨c, fun N z => ⟨(fun k h => by cases h), k, h2, comp, h3⟩, h1⟩
theorem st_arr2 {s : State} {ty : FieldType} (h : va_AOA ty s) : ∃ (c comp : ClassId) (k : Class), ArrOfT s c (.array ty) ∧ s.vm.findClass ("[" ++ (FieldType.array ty).toString) = some c ∧ s.vm.findClass (FieldType.array ty).toString = some comp ∧ s.vm.classes[c]? = some k ∧ k.kind = .array comp (.array ty) := by
  obtain ⟨comp, c, k, h1, h2, h3, h4, h5⟩ := AOA_spec h
  exact ⟨c, comp, k, fun N z => ⟨(fun k h => by cases h), k, h3, comp, h4⟩, h5, h1, h3, h4⟩
theorem st_same {args : Array Value} {s : State} {a b : Term} {k : Nat} (ha : a.eval args s none [] s = some (.ref k)) (h : (Cond.eq a b).before args s = true) : b.eval args s none [] s = some (.ref k) := by
  cases hv : b.eval args s none [] s with
  | none => simp [Cond.before, Cond.holds, Cond.value, ha, hv] at h
  | some w =>
    simp only [Cond.before, Cond.holds, Cond.value, ha, hv] at h
    cases w <;> simp_all
set_option maxHeartbeats 4000000 in
set_option maxRecDepth 20000 in
theorem kk_start {s : State} {args : Array Value} (hts : ∀ w ∈ lw_tbl, w.before args s = true) (hgv : (Jvm.Cond.and given_1 narrow_1).before args s = true) : ∃ (D : va_G) (κ : Nat → ClassId), KK D κ s.heap.size s ∧ va_AOA .int s ∧ va_AOA .long s := by
  have hw : ∀ w ∈ st_words, w.before args s = true := fun w h => hts w (st_in w h)
  have hv := flat_of_before _ hgv
  have hA : ∀ a : Nat, a < s.heap.size → ¬ s.heap.size ≤ a := fun a h => Nat.not_le.mpr h
  have u0 : ∃ p : ClassId × (Nat → Nat), u_Kn s RX0 TX0 5 p.1 p.2 := by
    obtain ⟨cC, iS, h⟩ := u_known (N := 5) (n := 5) hts inX0 (hw (.instantiable RX0 5) (List.mem_of_getElem? (i := 0) rfl))
    exact ⟨(cC, iS), h⟩
  have u1 : ∃ p : ClassId × (Nat → Nat), u_Kn s RX1 TX1 6 p.1 p.2 := by
    obtain ⟨cC, iS, h⟩ := u_known (N := 6) (n := 6) hts inX1 (hw (.instantiable RX1 6) (List.mem_of_getElem? (i := 1) rfl))
    exact ⟨(cC, iS), h⟩
  have u2 : ∃ p : ClassId × (Nat → Nat), u_Kn s RX2 TX2 8 p.1 p.2 := by
    obtain ⟨cC, iS, h⟩ := u_known (N := 8) (n := 8) hts inX2 (hw (.instantiable RX2 8) (List.mem_of_getElem? (i := 2) rfl))
    exact ⟨(cC, iS), h⟩
  have u3 : ∃ p : ClassId × (Nat → Nat), u_Kn s RX3 TX3 10 p.1 p.2 := by
    obtain ⟨cC, iS, h⟩ := u_known (N := 10) (n := 10) hts inX3 (hw (.instantiable RX3 10) (List.mem_of_getElem? (i := 3) rfl))
    exact ⟨(cC, iS), h⟩
  have u4 : ∃ p : ClassId × (Nat → Nat), u_Kn s RX4 TX4 3 p.1 p.2 := by
    obtain ⟨cC, iS, h⟩ := u_known (N := 3) (n := 3) hts inX4 (hw (.instantiable RX4 3) (List.mem_of_getElem? (i := 4) rfl))
    exact ⟨(cC, iS), h⟩
  have u5 : ∃ p : ClassId × (Nat → Nat), u_Kn s RX5 TX5 4 p.1 p.2 := by
    obtain ⟨cC, iS, h⟩ := u_known (N := 4) (n := 4) hts inX5 (hw (.instantiable RX5 4) (List.mem_of_getElem? (i := 5) rfl))
    exact ⟨(cC, iS), h⟩
  have u6 : ∃ p : ClassId × (Nat → Nat), u_Kn s RX6 TX6 4 p.1 p.2 := by
    obtain ⟨cC, iS, h⟩ := u_known (N := 4) (n := 4) hts inX6 (hw (.instantiable RX6 4) (List.mem_of_getElem? (i := 6) rfl))
    exact ⟨(cC, iS), h⟩
  have u7 : ∃ p : ClassId × (Nat → Nat), u_Kn s RX7 TX7 9 p.1 p.2 := by
    obtain ⟨cC, iS, h⟩ := u_known (N := 9) (n := 9) hts inX7 (hw (.instantiable RX7 9) (List.mem_of_getElem? (i := 7) rfl))
    exact ⟨(cC, iS), h⟩
  have u8 : ∃ p : ClassId × (Nat → Nat), u_Kn s RX8 TX8 4 p.1 p.2 := by
    obtain ⟨cC, iS, h⟩ := u_known (N := 4) (n := 4) hts inX8 (hw (.instantiable RX8 4) (List.mem_of_getElem? (i := 8) rfl))
    exact ⟨(cC, iS), h⟩
  have u9 : ∃ p : ClassId × (Nat → Nat), u_Kn s RX9 TX9 7 p.1 p.2 := by
    obtain ⟨cC, iS, h⟩ := u_known (N := 7) (n := 7) hts inX9 (hw (.instantiable RX9 7) (List.mem_of_getElem? (i := 9) rfl))
    exact ⟨(cC, iS), h⟩
  have u10 : ∃ p : ClassId × (Nat → Nat), u_Kn s RX10 TX10 5 p.1 p.2 := by
    obtain ⟨cC, iS, h⟩ := u_known (N := 5) (n := 5) hts inX10 (hw (.instantiable RX10 5) (List.mem_of_getElem? (i := 10) rfl))
    exact ⟨(cC, iS), h⟩
  have u11 : ∃ p : ClassId × (Nat → Nat), u_Kn s RX11 TX11 12 p.1 p.2 := by
    obtain ⟨cC, iS, h⟩ := u_known (N := 12) (n := 12) hts inX11 (hw (.instantiable RX11 12) (List.mem_of_getElem? (i := 11) rfl))
    exact ⟨(cC, iS), h⟩
  have u12 : ∃ p : ClassId × (Nat → Nat), u_Kn s RX12 TX12 63 p.1 p.2 := by
    obtain ⟨cC, iS, h⟩ := u_known (N := 63) (n := 63) hts inX12 (hw (.instantiable RX12 63) (List.mem_of_getElem? (i := 12) rfl))
    exact ⟨(cC, iS), h⟩
  obtain ⟨D, hD⟩ := st_cls (s := s) (List.forall_mem_cons.mpr ⟨u0, List.forall_mem_cons.mpr ⟨u1, List.forall_mem_cons.mpr ⟨u2, List.forall_mem_cons.mpr ⟨u3, List.forall_mem_cons.mpr ⟨u4, List.forall_mem_cons.mpr ⟨u5, List.forall_mem_cons.mpr ⟨u6, List.forall_mem_cons.mpr ⟨u7, List.forall_mem_cons.mpr ⟨u8, List.forall_mem_cons.mpr ⟨u9, List.forall_mem_cons.mpr ⟨u10, List.forall_mem_cons.mpr ⟨u11, List.forall_mem_cons.mpr ⟨u12, fun _ h => absurd h List.not_mem_nil⟩⟩⟩⟩⟩⟩⟩⟩⟩⟩⟩⟩⟩)
  obtain ⟨k0, ka0, kf0⟩ := st_arr (hw (.arrayClass .byte) (List.mem_of_getElem? (i := 13) rfl))
  obtain ⟨k1, ka1, kf1⟩ := st_arr (hw (.arrayClass .int) (List.mem_of_getElem? (i := 14) rfl))
  obtain ⟨k2, ka2, kf2⟩ := st_arr (hw (.arrayClass .long) (List.mem_of_getElem? (i := 15) rfl))
  obtain ⟨k3, ka3, kf3⟩ := st_arr (hw (.arrayClass .boolean) (List.mem_of_getElem? (i := 16) rfl))
  have o1 : va_AOA .int s := va_AOA.of (hw (.arrayOver (.array .int)) (List.mem_of_getElem? (i := 17) rfl))
  have o2 : va_AOA .long s := va_AOA.of (hw (.arrayOver (.array .long)) (List.mem_of_getElem? (i := 18) rfl))
  obtain ⟨k4, c4, q4, ka4, kf4, kc4, kk4, kd4⟩ := st_arr2 o1
  obtain ⟨k5, c5, q5, ka5, kf5, kc5, kk5, kd5⟩ := st_arr2 o2
  have e4 : c4 = k1 := Option.some.inj ((show s.vm.findClass ("[" ++ FieldType.int.toString) = some c4 from kc4).symm.trans kf1)
  subst e4
  refine ⟨D, fun k => ([k0, c4, k2, k3, k4, k5] : List ClassId).getD k k0, ⟨⟨hD, ?_⟩, ?_, ⟨q4, kk4, kd4⟩, Nat.le_refl _, ⟨?_, ?_, ?_⟩⟩, o1, o2⟩
  · intro k q hk
    exact (show ∀ q ∈ ([(k0, .byte), (c4, .int), (k2, .long), (k3, .boolean), (k4, .array .int), (k5, .array .long)] : List (ClassId × FieldType)), ArrOfT s q.1 q.2 ∧ va_RA s q.1 q.2 from List.forall_mem_cons.mpr ⟨⟨ka0, kf0⟩, List.forall_mem_cons.mpr ⟨⟨ka1, kf1⟩, List.forall_mem_cons.mpr ⟨⟨ka2, kf2⟩, List.forall_mem_cons.mpr ⟨⟨ka3, kf3⟩, List.forall_mem_cons.mpr ⟨⟨ka4, kf4⟩, List.forall_mem_cons.mpr ⟨⟨ka5, kf5⟩, fun _ h => absurd h List.not_mem_nil⟩⟩⟩⟩⟩⟩) q (List.mem_of_getElem? hk)
  · intro q hq
    exact va_Nw.of rfl (hts _ (nw_in _ (List.mem_map_of_mem hq)))
  · have tA : ∀ j : Nat, j < 8 → Cond.eq (.elem (.static "OlderSkin$Bodies" "ABOVE" "[I") (.int (Int32.ofNat j))) (.int (tbAbove.getD j 0)) ∈ flatC (Jvm.Cond.and given_1 narrow_1) := by decide +kernel
    have tO : ∀ j : Nat, j < 32 → Cond.eq (.elem (.static "OlderSkin$Bodies" "OWN" "[I") (.int (Int32.ofNat j))) (.int (tbOwn.getD j 0)) ∈ flatC (Jvm.Cond.and given_1 narrow_1) := by decide +kernel
    obtain ⟨t1, ev1, hT1⟩ := va_Tof (args := args) (s := s) (tm := .static "OlderSkin$Bodies" "ABOVE" "[I") (ty := .int) (N := 8) (f := fun j => .int (tbAbove.getD j 0)) (A := fun q => s.heap.size ≤ q) (by decide) (hv _ (by decide +kernel)) (va_eqt (hv _ (by decide +kernel))) (fun j hj => va_eqt (hv _ (tA j hj))) hA
    obtain ⟨t2, ev2, hT2⟩ := va_Tof (args := args) (s := s) (tm := .static "OlderSkin$Bodies" "OWN" "[I") (ty := .int) (N := 32) (f := fun j => .int (tbOwn.getD j 0)) (A := fun q => s.heap.size ≤ q) (by decide) (hv _ (by decide +kernel)) (va_eqt (hv _ (by decide +kernel))) (fun j hj => va_eqt (hv _ (tO j hj))) hA
    exact ⟨t1, t2, va_Zof (hw _ (List.mem_of_getElem? (i := 19) rfl)) (hw _ (List.mem_of_getElem? (i := 22) rfl)) ev1 hA, hT1, va_Zof (hw _ (List.mem_of_getElem? (i := 20) rfl)) (hw _ (List.mem_of_getElem? (i := 22) rfl)) ev2 hA, hT2⟩
  · have tX : ∀ j : Nat, j < 8 → Cond.eq (.elem (.field (.string "OlderSkin" 86) "java/lang/String" "value" "[B") (.int (Int32.ofNat j))) (.int (tbText.getD j 0)) ∈ flatC (Jvm.Cond.and given_1 narrow_1) := by decide +kernel
    obtain ⟨adK, adV, hS, hev⟩ := vk_Sof (args := args) (s := s) (N := 1) (tm := fun _ => .string "OlderSkin" 86) (len := [8]) (byt := [tbText]) (A := fun q => s.heap.size ≤ q) (fun i hi => by have hz : i = 0 := (by omega); subst hz; decide) (fun i hi => hv _ (by decide +kernel)) (fun i hi => hv _ (by decide +kernel)) (fun i hi => hv _ (by decide +kernel)) (fun i hi => by have hz : i = 0 := (by omega); subst hz; exact hv _ (by decide +kernel)) (fun i hi j hj => by have hz : i = 0 := (by omega); subst hz; exact hv _ (tX j hj)) (fun i j hi hj hij => absurd (show i = j by omega) hij) hA
    have ev0 := hev 0 (by decide)
    refine ⟨adK 0, adV 0, vk_R.of (hw _ (List.mem_of_getElem? (i := 24) rfl)) ev0, vk_R.of (hw _ (List.mem_of_getElem? (i := 25) rfl)) (st_same ev0 (hv _ (by decide +kernel))), fun i hi => ?_, fun i j hi hj _ => by omega⟩
    have hz : i = 0 := by omega
    subst hz
    exact hS.1 0 hi
  · exact va_Zof (hw _ (List.mem_of_getElem? (i := 21) rfl)) (hw _ (List.mem_of_getElem? (i := 23) rfl)) (va_eqt (hv _ (by decide +kernel))) hA
