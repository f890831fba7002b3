set_option maxHeartbeats 4000000 in
set_option maxRecDepth 100000 in
theorem k_X12_lets (l : Launch) (D : va_G) (κ : Nat → ClassId) (β : Nat) (a12 : Nat) (r12 : Nat → Nat) (v12_keptMany : Int32) (v12_done : Int32) (v12_sheets : Int32) (v12_holes : Int32) (v12_worms : Int32) (v12_laidMany : Int32) (v12_wanted : Int32) (v12_orderMany : Int32) (v12_firstOrder : Int32) (v12_lines : Int32) (v12_marks : Int32) (v12_dots : Int32) (v12_madeIn : Int32) (v12_bound : Int32) (v12_places : Int32) (v12_maps : Int32) (v12_tapeMany : Int32) (v12_stories : Int32) (v12_base : Int32) (v12_at : Int32) (v12_ends : Int32) (v12_fault : Int32) (v12_opened : Int32) (v12_bodies : Int32) (v12_ran : Int32) (v12_ownKind : Int32) (v12_ownNumber : Int32) (f12_wormSheets : Nat → Int32) (f12_laid : Nat → Int32) (sz : Nat) (i1 : Rg 0 40 v12_keptMany) (i2 : Rg 0 40 v12_done) (i3 : Rg 0 8 v12_sheets) (i4 : Rg 0 40 v12_holes) (i5 : Rg 0 40 v12_worms) (i6 : Rg 0 8 v12_laidMany) (i7 : Rg 0 8 v12_wanted) (i8 : Rg 0 20 v12_lines) (i9 : Rg 0 60 v12_marks) (i10 : Rg 0 40 v12_dots) (i11 : Rg 0 20 v12_places) (i12 : Rg 0 8 v12_maps) (i13 : Rg 0 120 v12_tapeMany) (i14 : Rg 0 6 v12_stories) (i15 : Rg 0 50 v12_bodies) (i16 : Rg 0 1000 v12_ran) (hf12_laid : ∀ j : Nat, 0 ≤ (f12_laid j).toInt ∧ (f12_laid j).toInt ≤ 7) (i17 : v12_done.toInt ≤ v12_keptMany.toInt) : Met l yX12_lets wsX12_lets ({ frames := 0, cells := 0, slots := 0, locals := 0 } : Room) (PcK D κ β [O12 a12 r12 v12_keptMany v12_done v12_sheets v12_holes v12_worms v12_laidMany v12_wanted v12_orderMany v12_firstOrder v12_lines v12_marks v12_dots v12_madeIn v12_bound v12_places v12_maps v12_tapeMany v12_stories v12_base v12_at v12_ends v12_fault v12_opened v12_bodies v12_ran v12_ownKind v12_ownNumber, (cI κ (r12 12) 40 f12_wormSheets), (cI κ (r12 14) 8 f12_laid)] sz [.ref a12]) (QiK D (fun (r : Int32) (u : Unit) => r.toInt = 0 ∨ r.toInt = 1) (fun (u : Unit) => [O12 a12 r12 v12_keptMany v12_done v12_sheets v12_holes v12_worms v12_laidMany v12_wanted v12_orderMany v12_firstOrder v12_lines v12_marks v12_dots v12_madeIn v12_bound v12_places v12_maps v12_tapeMany v12_stories v12_base v12_at v12_ends v12_fault v12_opened v12_bodies v12_ran v12_ownKind v12_ownNumber, (cI κ (r12 12) 40 f12_wormSheets), (cI κ (r12 14) 8 f12_laid)]) [O12 a12 r12 v12_keptMany v12_done v12_sheets v12_holes v12_worms v12_laidMany v12_wanted v12_orderMany v12_firstOrder v12_lines v12_marks v12_dots v12_madeIn v12_bound v12_places v12_maps v12_tapeMany v12_stories v12_base v12_at v12_ends v12_fault v12_opened v12_bodies v12_ran v12_ownKind v12_ownNumber, (cI κ (r12 12) 40 f12_wormSheets), (cI κ (r12 14) 8 f12_laid)] sz) 0 0 (va_A [O12 a12 r12 v12_keptMany v12_done v12_sheets v12_holes v12_worms v12_laidMany v12_wanted v12_orderMany v12_firstOrder v12_lines v12_marks v12_dots v12_madeIn v12_bound v12_places v12_maps v12_tapeMany v12_stories v12_base v12_at v12_ends v12_fault v12_opened v12_bodies v12_ran v12_ownKind v12_ownNumber, (cI κ (r12 12) 40 f12_wormSheets), (cI κ (r12 14) 8 f12_laid)] sz) := by
  refine ofK_z (cc := cX12_lets) (maxL := 6) (own := RX12) (by decide) rfl rfl (Nat.le_of_ble_eq_true rfl) ?_
  intro p e s m args below meth c Q A ls hsz hx hb hml hts hown hK hA hAB hP hD hl ret
  have hS : va_S A s.heap s.heap [] := va_S.rf
  have hl : lv_has ls 6 [(0, .ref a12)] := hl
  have w0 := hts (.fieldLink RX12 160 "OlderSkinModel" "worms" "I") (List.mem_of_getElem? (i := 1) rfl)
  have w1 := (fun w h => List.mem_cons_of_mem _ (List.mem_append_right _ h) : ∀ w ∈ u_ws RX12 TX12 63, w ∈ wsX12_lets)
  have w2 := hts (.fieldLink RX12 34 "OlderSkinModel" "wormSheets" "[I") (List.mem_of_getElem? (i := 2) rfl)
  have w3 := hts (.fieldLink RX12 173 "OlderSkinModel" "laidMany" "I") (List.mem_of_getElem? (i := 3) rfl)
  have w4 := hts (.fieldLink RX12 37 "OlderSkinModel" "laid" "[I") (List.mem_of_getElem? (i := 4) rfl)
  have l0 : (0 : Int32).toInt = 0 := by decide
  have l1 : (1 : Int32).toInt = 1 := by decide
  have l2 : ((-1) : Int32).toInt = -1 := by decide
  have i5 : 0 ≤ v12_worms.toInt ∧ v12_worms.toInt ≤ 40 := i5
  have i6 : 0 ≤ v12_laidMany.toInt ∧ v12_laidMany.toInt ≤ 8 := i6
  refine lv_iconst (v := 0) hx hb dX12_lets_0 (by decide) ?_
  refine lv_istore_n (lv' := [(1, .int 0), (0, .ref a12)]) hx hb dX12_lets_1 rfl hl (by decide) rfl (fun ls hl => ?_)
  have lp2 : ∀ (n2 : Nat) (k1 : Int32), (0 ≤ k1.toInt) → (v12_worms.toInt - k1.toInt).toNat < n2 → ∀ (H : Heap) (locs : List Loc), va_P D vwCl [O12 a12 r12 v12_keptMany v12_done v12_sheets v12_holes v12_worms v12_laidMany v12_wanted v12_orderMany v12_firstOrder v12_lines v12_marks v12_dots v12_madeIn v12_bound v12_places v12_maps v12_tapeMany v12_stories v12_base v12_at v12_ends v12_fault v12_opened v12_bodies v12_ran v12_ownKind v12_ownNumber, (cI κ (r12 12) 40 f12_wormSheets), (cI κ (r12 14) 8 f12_laid)] H → va_D A [O12 a12 r12 v12_keptMany v12_done v12_sheets v12_holes v12_worms v12_laidMany v12_wanted v12_orderMany v12_firstOrder v12_lines v12_marks v12_dots v12_madeIn v12_bound v12_places v12_maps v12_tapeMany v12_stories v12_base v12_at v12_ends v12_fault v12_opened v12_bodies v12_ran v12_ownKind v12_ownNumber, (cI κ (r12 12) 40 f12_wormSheets), (cI κ (r12 14) 8 f12_laid)] → va_S A s.heap H locs → ∀ ls : Array Slot, lv_has ls 6 [(1, .int k1), (0, .ref a12)] → W p l e ({ frames := 0, cells := 0, slots := 0, locals := 0 } : Room) s m args below meth c H locs 0 0 Q (F0 m 2 ls []) := by
    intro n2
    induction n2 with
    | zero =>
      intro k1 h2 m3
      exact absurd m3 (Nat.not_lt_zero _)
    | succ n2 ih2 =>
      intro k1 h2 m3 H locs hP hD hS ls hl
      refine lv_iload_n hx hb dX12_lets_2 rfl (lv_at hl 0 rfl) ?_
      refine lv_aload_n hx hb dX12_lets_3 rfl (lv_at hl 1 rfl) ?_
      refine va_get (D := D) (ci := 12) (v := .int v12_worms) (C := RX12) (T := TX12) (N := 63) hx hb hts w1 hown hK.1 hP 0 rfl rfl 13 (by decide) w0 (fun _ h9 => h9) rfl dX12_lets_4 ?_
      refine lv_icmp_ge (tgt := 115) hx hb dX12_lets_7 (by decide) (fun c4 => ?_) (fun c4 => ?_)
      · have c4 := ci_le c4
        refine lv_iconst (v := 1) hx hb dX12_lets_115 (by decide) ?_
        have hpo : (1 : Int32).toInt = 0 ∨ (1 : Int32).toInt = 1 := (by omega)
        exact ret _ _ _ _ 1 () dX12_lets_116 (by omega) hpo hP hD hS
      have c4 := ci_nle c4
      refine lv_iconst (v := 0) hx hb dX12_lets_10 (by decide) ?_
      refine lv_istore_n (lv' := [(2, .int 0), (1, .int k1), (0, .ref a12)]) hx hb dX12_lets_11 rfl hl (by decide) rfl (fun ls hl => ?_)
      refine lv_aload_n hx hb dX12_lets_12 rfl (lv_at hl 2 rfl) ?_
      refine va_get (D := D) (ci := 12) (v := .ref (r12 12)) (C := RX12) (T := TX12) (N := 63) hx hb hts w1 hown hK.1 hP 0 rfl rfl 12 (by decide) w2 (fun _ h9 => h9) rfl dX12_lets_13 ?_
      refine lv_iload_n hx hb dX12_lets_16 rfl (lv_at hl 1 rfl) ?_
      refine va_iald hx hb hK.1 hP 1 1 rfl rfl (i := k1) (ix (by omega) (by omega)) dX12_lets_17 ?_
      refine lv_topi (fun x5 e6 => ?_)
      refine lv_istore_n (lv' := [(3, .int x5), (2, .int 0), (1, .int k1), (0, .ref a12)]) hx hb dX12_lets_18 rfl hl (by decide) rfl (fun ls hl => ?_)
      refine lv_iconst (v := 0) hx hb dX12_lets_19 (by decide) ?_
      refine lv_istore (lv' := [(4, .int 0), (3, .int x5), (2, .int 0), (1, .int k1), (0, .ref a12)]) hx hb dX12_lets_20 hl (by decide) rfl (fun ls hl => ?_)
      have lp22 : ∀ (n22 : Nat) (k7 : Int32) (k8 : Int32) (k9 : Int32), (0 ≤ k7.toInt) → (v12_laidMany.toInt - k7.toInt).toNat < n22 → ∀ (H : Heap) (locs : List Loc), va_P D vwCl [O12 a12 r12 v12_keptMany v12_done v12_sheets v12_holes v12_worms v12_laidMany v12_wanted v12_orderMany v12_firstOrder v12_lines v12_marks v12_dots v12_madeIn v12_bound v12_places v12_maps v12_tapeMany v12_stories v12_base v12_at v12_ends v12_fault v12_opened v12_bodies v12_ran v12_ownKind v12_ownNumber, (cI κ (r12 12) 40 f12_wormSheets), (cI κ (r12 14) 8 f12_laid)] H → va_D A [O12 a12 r12 v12_keptMany v12_done v12_sheets v12_holes v12_worms v12_laidMany v12_wanted v12_orderMany v12_firstOrder v12_lines v12_marks v12_dots v12_madeIn v12_bound v12_places v12_maps v12_tapeMany v12_stories v12_base v12_at v12_ends v12_fault v12_opened v12_bodies v12_ran v12_ownKind v12_ownNumber, (cI κ (r12 12) 40 f12_wormSheets), (cI κ (r12 14) 8 f12_laid)] → va_S A s.heap H locs → ∀ ls : Array Slot, lv_has ls 6 [(4, .int k7), (3, .int k8), (2, .int k9), (1, .int k1), (0, .ref a12)] → W p l e ({ frames := 0, cells := 0, slots := 0, locals := 0 } : Room) s m args below meth c H locs 0 0 Q (F0 m 22 ls []) := by
        intro n22
        induction n22 with
        | zero =>
          intro k7 k8 k9 h10 m11
          exact absurd m11 (Nat.not_lt_zero _)
        | succ n22 ih22 =>
          intro k7 k8 k9 h10 m11 H locs hP hD hS ls hl
          refine lv_iload hx hb dX12_lets_22 (lv_at hl 0 rfl) ?_
          refine lv_aload_n hx hb dX12_lets_24 rfl (lv_at hl 4 rfl) ?_
          refine va_get (D := D) (ci := 12) (v := .int v12_laidMany) (C := RX12) (T := TX12) (N := 63) hx hb hts w1 hown hK.1 hP 0 rfl rfl 15 (by decide) w3 (fun _ h9 => h9) rfl dX12_lets_25 ?_
          refine lv_icmp_ge (tgt := 109) hx hb dX12_lets_28 (by decide) (fun c12 => ?_) (fun c12 => ?_)
          · have c12 := ci_le c12
            obtain ⟨x13, e14⟩ : ∃ y : Int32, y = k1 + 1 := ⟨_, rfl⟩
            refine lv_iinc (v := x13) (lv' := [(1, .int x13), (4, .int k7), (3, .int k8), (2, .int k9), (0, .ref a12)]) hx hb dX12_lets_109 hl (k := 3) rfl (by rw [e14]; rfl) (by decide) rfl (fun ls hl => ?_)
            try have h15 : x13.toInt = k1.toInt + (1 : Int32).toInt := ci_add e14 (by omega) (by omega)
            refine lv_goto (tgt := 2) hx hb dX12_lets_112 (by decide) ?_
            exact ih2 x13 (by omega) (by omega) _ _ hP hD hS _ (lv_sub hl [0, 4] rfl)
          have c12 := ci_nle c12
          refine lv_iload_n hx hb dX12_lets_31 rfl (lv_at hl 1 rfl) ?_
          refine lv_aload_n hx hb dX12_lets_32 rfl (lv_at hl 4 rfl) ?_
          refine va_get (D := D) (ci := 12) (v := .ref (r12 14)) (C := RX12) (T := TX12) (N := 63) hx hb hts w1 hown hK.1 hP 0 rfl rfl 14 (by decide) w4 (fun _ h9 => h9) rfl dX12_lets_33 ?_
          refine lv_iload hx hb dX12_lets_36 (lv_at hl 0 rfl) ?_
          refine va_iald hx hb hK.1 hP 2 1 rfl rfl (i := k7) (ix (by omega) (by omega)) dX12_lets_38 ?_
          refine lv_topi (fun x16 e17 => ?_)
          have h18 : 0 ≤ x16.toInt ∧ x16.toInt ≤ 7 := by rw [e17]; exact hf12_laid _
          refine lv_ishr hx hb dX12_lets_39 ?_
          refine lv_topi (fun x19 e20 => ?_)
          refine lv_iconst (v := 1) hx hb dX12_lets_40 (by decide) ?_
          refine lv_iand hx hb dX12_lets_41 ?_
          refine lv_topi (fun x21 e22 => ?_)
          refine lv_iconst (v := 1) hx hb dX12_lets_42 (by decide) ?_
          refine lv_icmp_ne (tgt := 50) hx hb dX12_lets_43 (by decide) (fun c23 => ?_) (fun c23 => ?_)
          · have c23 := ci_ne c23
            refine lv_iconst (v := 0) hx hb dX12_lets_50 (by decide) ?_
            refine lv_istore (lv' := [(5, .int 0), (4, .int k7), (3, .int k8), (2, .int k9), (1, .int k1), (0, .ref a12)]) hx hb dX12_lets_51 hl (by decide) rfl (fun ls hl => ?_)
            refine lv_iload hx hb dX12_lets_53 (lv_at hl 0 rfl) ?_
            refine lv_if_eq (tgt := 74) hx hb dX12_lets_55 (by decide) (fun c24 => ?_) (fun c24 => ?_)
            · have c24 := ci_eq c24
              refine lv_iload_n hx hb dX12_lets_74 rfl (lv_at hl 2 rfl) ?_
              refine lv_istore_n (lv' := [(3, .int k8), (5, .int 0), (4, .int k7), (2, .int k9), (1, .int k1), (0, .ref a12)]) hx hb dX12_lets_75 rfl hl (by decide) rfl (fun ls hl => ?_)
              refine lv_iload_n hx hb dX12_lets_76 rfl (lv_at hl 3 rfl) ?_
              refine lv_iconst (v := 1) hx hb dX12_lets_77 (by decide) ?_
              refine lv_icmp_ne (tgt := 92) hx hb dX12_lets_78 (by decide) (fun c25 => ?_) (fun c25 => ?_)
              · have c25 := ci_ne c25
                refine lv_iload hx hb dX12_lets_92 (lv_at hl 1 rfl) ?_
                refine lv_if_eq (tgt := 101) hx hb dX12_lets_94 (by decide) (fun c26 => ?_) (fun c26 => ?_)
                · have c26 := ci_eq c26
                  refine lv_iload_n hx hb dX12_lets_101 rfl (lv_at hl 3 rfl) ?_
                  refine lv_istore_n (lv' := [(2, .int k9), (3, .int k8), (5, .int 0), (4, .int k7), (1, .int k1), (0, .ref a12)]) hx hb dX12_lets_102 rfl hl (by decide) rfl (fun ls hl => ?_)
                  obtain ⟨x27, e28⟩ : ∃ y : Int32, y = k7 + 1 := ⟨_, rfl⟩
                  refine lv_iinc (v := x27) (lv' := [(4, .int x27), (2, .int k9), (3, .int k8), (5, .int 0), (1, .int k1), (0, .ref a12)]) hx hb dX12_lets_103 hl (k := 3) rfl (by rw [e28]; rfl) (by decide) rfl (fun ls hl => ?_)
                  try have h29 : x27.toInt = k7.toInt + (1 : Int32).toInt := ci_add e28 (by omega) (by omega)
                  refine lv_goto (tgt := 22) hx hb dX12_lets_106 (by decide) ?_
                  exact ih22 x27 k8 k9 (by omega) (by omega) _ _ hP hD hS _ (lv_sub hl [0, 2, 1, 4, 5] rfl)
                have c26 := ci_ne c26
                exfalso
                omega
              have c25 := ci_eq c25
              refine lv_iload hx hb dX12_lets_81 (lv_at hl 1 rfl) ?_
              refine lv_if_ne (tgt := 92) hx hb dX12_lets_83 (by decide) (fun c30 => ?_) (fun c30 => ?_)
              · have c30 := ci_ne c30
                exfalso
                omega
              have c30 := ci_eq c30
              refine lv_iload_n hx hb dX12_lets_86 rfl (lv_at hl 0 rfl) ?_
              refine lv_if_eq (tgt := 92) hx hb dX12_lets_87 (by decide) (fun c31 => ?_) (fun c31 => ?_)
              · have c31 := ci_eq c31
                refine lv_iload hx hb dX12_lets_92 (lv_at hl 1 rfl) ?_
                refine lv_if_eq (tgt := 101) hx hb dX12_lets_94 (by decide) (fun c32 => ?_) (fun c32 => ?_)
                · have c32 := ci_eq c32
                  refine lv_iload_n hx hb dX12_lets_101 rfl (lv_at hl 3 rfl) ?_
                  refine lv_istore_n (lv' := [(2, .int k9), (3, .int k8), (5, .int 0), (4, .int k7), (1, .int k1), (0, .ref a12)]) hx hb dX12_lets_102 rfl hl (by decide) rfl (fun ls hl => ?_)
                  obtain ⟨x33, e34⟩ : ∃ y : Int32, y = k7 + 1 := ⟨_, rfl⟩
                  refine lv_iinc (v := x33) (lv' := [(4, .int x33), (2, .int k9), (3, .int k8), (5, .int 0), (1, .int k1), (0, .ref a12)]) hx hb dX12_lets_103 hl (k := 3) rfl (by rw [e34]; rfl) (by decide) rfl (fun ls hl => ?_)
                  try have h35 : x33.toInt = k7.toInt + (1 : Int32).toInt := ci_add e34 (by omega) (by omega)
                  refine lv_goto (tgt := 22) hx hb dX12_lets_106 (by decide) ?_
                  exact ih22 x33 k8 k9 (by omega) (by omega) _ _ hP hD hS _ (lv_sub hl [0, 2, 1, 4, 5] rfl)
                have c32 := ci_ne c32
                exfalso
                omega
              have c31 := ci_ne c31
              refine lv_iconst (v := 0) hx hb dX12_lets_90 (by decide) ?_
              have hpo : (0 : Int32).toInt = 0 ∨ (0 : Int32).toInt = 1 := (by omega)
              exact ret _ _ _ _ 0 () dX12_lets_91 (by omega) hpo hP hD hS
            have c24 := ci_ne c24
            exfalso
            omega
          have c23 := ci_eq c23
          refine lv_iconst (v := 1) hx hb dX12_lets_46 (by decide) ?_
          refine lv_goto (tgt := 51) hx hb dX12_lets_47 (by decide) ?_
          refine lv_istore (lv' := [(5, .int 1), (4, .int k7), (3, .int k8), (2, .int k9), (1, .int k1), (0, .ref a12)]) hx hb dX12_lets_51 hl (by decide) rfl (fun ls hl => ?_)
          refine lv_iload hx hb dX12_lets_53 (lv_at hl 0 rfl) ?_
          refine lv_if_eq (tgt := 74) hx hb dX12_lets_55 (by decide) (fun c36 => ?_) (fun c36 => ?_)
          · have c36 := ci_eq c36
            exfalso
            omega
          have c36 := ci_ne c36
          refine lv_iload_n hx hb dX12_lets_58 rfl (lv_at hl 2 rfl) ?_
          refine lv_iconst (v := 1) hx hb dX12_lets_59 (by decide) ?_
          refine lv_aload_n hx hb dX12_lets_60 rfl (lv_at hl 5 rfl) ?_
          refine va_get (D := D) (ci := 12) (v := .ref (r12 14)) (C := RX12) (T := TX12) (N := 63) hx hb hts w1 hown hK.1 hP 0 rfl rfl 14 (by decide) w4 (fun _ h9 => h9) rfl dX12_lets_61 ?_
          refine lv_iload hx hb dX12_lets_64 (lv_at hl 1 rfl) ?_
          refine va_iald hx hb hK.1 hP 2 1 rfl rfl (i := k7) (ix (by omega) (by omega)) dX12_lets_66 ?_
          refine lv_topi (fun x37 e38 => ?_)
          have h39 : 0 ≤ x37.toInt ∧ x37.toInt ≤ 7 := by rw [e38]; exact hf12_laid _
          refine lv_ishl hx hb dX12_lets_67 ?_
          refine lv_topi (fun x40 e41 => ?_)
          refine lv_iconst (v := (-1)) hx hb dX12_lets_68 (by decide) ?_
          refine lv_ixor hx hb dX12_lets_69 ?_
          refine lv_topi (fun x42 e43 => ?_)
          refine lv_iand hx hb dX12_lets_70 ?_
          refine lv_topi (fun x44 e45 => ?_)
          refine lv_goto (tgt := 75) hx hb dX12_lets_71 (by decide) ?_
          refine lv_istore_n (lv' := [(3, .int x44), (5, .int 1), (4, .int k7), (2, .int k9), (1, .int k1), (0, .ref a12)]) hx hb dX12_lets_75 rfl hl (by decide) rfl (fun ls hl => ?_)
          refine lv_iload_n hx hb dX12_lets_76 rfl (lv_at hl 3 rfl) ?_
          refine lv_iconst (v := 1) hx hb dX12_lets_77 (by decide) ?_
          refine lv_icmp_ne (tgt := 92) hx hb dX12_lets_78 (by decide) (fun c46 => ?_) (fun c46 => ?_)
          · have c46 := ci_ne c46
            refine lv_iload hx hb dX12_lets_92 (lv_at hl 1 rfl) ?_
            refine lv_if_eq (tgt := 101) hx hb dX12_lets_94 (by decide) (fun c47 => ?_) (fun c47 => ?_)
            · have c47 := ci_eq c47
              exfalso
              omega
            have c47 := ci_ne c47
            refine lv_iconst (v := 1) hx hb dX12_lets_97 (by decide) ?_
            refine lv_goto (tgt := 102) hx hb dX12_lets_98 (by decide) ?_
            refine lv_istore_n (lv' := [(2, .int 1), (3, .int x44), (5, .int 1), (4, .int k7), (1, .int k1), (0, .ref a12)]) hx hb dX12_lets_102 rfl hl (by decide) rfl (fun ls hl => ?_)
            obtain ⟨x48, e49⟩ : ∃ y : Int32, y = k7 + 1 := ⟨_, rfl⟩
            refine lv_iinc (v := x48) (lv' := [(4, .int x48), (2, .int 1), (3, .int x44), (5, .int 1), (1, .int k1), (0, .ref a12)]) hx hb dX12_lets_103 hl (k := 3) rfl (by rw [e49]; rfl) (by decide) rfl (fun ls hl => ?_)
            try have h50 : x48.toInt = k7.toInt + (1 : Int32).toInt := ci_add e49 (by omega) (by omega)
            refine lv_goto (tgt := 22) hx hb dX12_lets_106 (by decide) ?_
            exact ih22 x48 x44 1 (by omega) (by omega) _ _ hP hD hS _ (lv_sub hl [0, 2, 1, 4, 5] rfl)
          have c46 := ci_eq c46
          refine lv_iload hx hb dX12_lets_81 (lv_at hl 1 rfl) ?_
          refine lv_if_ne (tgt := 92) hx hb dX12_lets_83 (by decide) (fun c51 => ?_) (fun c51 => ?_)
          · have c51 := ci_ne c51
            refine lv_iload hx hb dX12_lets_92 (lv_at hl 1 rfl) ?_
            refine lv_if_eq (tgt := 101) hx hb dX12_lets_94 (by decide) (fun c52 => ?_) (fun c52 => ?_)
            · have c52 := ci_eq c52
              exfalso
              omega
            have c52 := ci_ne c52
            refine lv_iconst (v := 1) hx hb dX12_lets_97 (by decide) ?_
            refine lv_goto (tgt := 102) hx hb dX12_lets_98 (by decide) ?_
            refine lv_istore_n (lv' := [(2, .int 1), (3, .int x44), (5, .int 1), (4, .int k7), (1, .int k1), (0, .ref a12)]) hx hb dX12_lets_102 rfl hl (by decide) rfl (fun ls hl => ?_)
            obtain ⟨x53, e54⟩ : ∃ y : Int32, y = k7 + 1 := ⟨_, rfl⟩
            refine lv_iinc (v := x53) (lv' := [(4, .int x53), (2, .int 1), (3, .int x44), (5, .int 1), (1, .int k1), (0, .ref a12)]) hx hb dX12_lets_103 hl (k := 3) rfl (by rw [e54]; rfl) (by decide) rfl (fun ls hl => ?_)
            try have h55 : x53.toInt = k7.toInt + (1 : Int32).toInt := ci_add e54 (by omega) (by omega)
            refine lv_goto (tgt := 22) hx hb dX12_lets_106 (by decide) ?_
            exact ih22 x53 x44 1 (by omega) (by omega) _ _ hP hD hS _ (lv_sub hl [0, 2, 1, 4, 5] rfl)
          have c51 := ci_eq c51
          exfalso
          omega
      exact lp22 ((v12_laidMany.toInt - (0 : Int32).toInt).toNat + 1) 0 x5 0 (by omega) (by omega) _ _ hP hD hS _ hl
  exact lp2 ((v12_worms.toInt - (0 : Int32).toInt).toNat + 1) 0 (by omega) (by omega) _ _ hP hD hS _ hl
def C_X12_goFrom (l : Launch) (D : va_G) (κ : Nat → ClassId) (β d : Nat) : Prop := ∀ (a12 : Nat) (r12 : Nat → Nat) (v12_keptMany : Int32) (v12_done : Int32) (v12_sheets : Int32) (v12_holes : Int32) (v12_worms : Int32) (v12_laidMany : Int32) (v12_wanted : Int32) (v12_orderMany : Int32) (v12_firstOrder : Int32) (v12_lines : Int32) (v12_marks : Int32) (v12_dots : Int32) (v12_madeIn : Int32) (v12_bound : Int32) (v12_places : Int32) (v12_maps : Int32) (v12_tapeMany : Int32) (v12_stories : Int32) (v12_base : Int32) (v12_at : Int32) (v12_ends : Int32) (v12_fault : Int32) (v12_opened : Int32) (v12_bodies : Int32) (v12_ran : Int32) (v12_ownKind : Int32) (v12_ownNumber : Int32) (f12_wormSheets : Nat → Int32) (f12_laid : Nat → Int32) (f12_sides : Nat → Int32) (sz : Nat) (p1 : Int32) (p2 : Int32) (i1 : Rg 0 40 v12_keptMany) (i2 : Rg 0 40 v12_done) (i3 : Rg 0 8 v12_sheets) (i4 : Rg 0 40 v12_holes) (i5 : Rg 0 40 v12_worms) (i6 : Rg 0 8 v12_laidMany) (i7 : Rg 0 8 v12_wanted) (i8 : Rg 0 20 v12_lines) (i9 : Rg 0 60 v12_marks) (i10 : Rg 0 40 v12_dots) (i11 : Rg 0 20 v12_places) (i12 : Rg 0 8 v12_maps) (i13 : Rg 0 120 v12_tapeMany) (i14 : Rg 0 6 v12_stories) (i15 : Rg 0 50 v12_bodies) (i16 : Rg 0 1000 v12_ran) (hf12_laid : ∀ j : Nat, 0 ≤ (f12_laid j).toInt ∧ (f12_laid j).toInt ≤ 7) (i17 : v12_done.toInt ≤ v12_keptMany.toInt) (i18 : v12_laidMany.toInt ≤ v12_wanted.toInt) (i19 : v12_wanted.toInt - v12_laidMany.toInt < d), Met l yX12_goFrom wsX12_goFrom ({ frames := d, cells := 0, slots := 0, locals := 23 * d + 50 } : Room) (PcK D κ β [O12 a12 r12 v12_keptMany v12_done v12_sheets v12_holes v12_worms v12_laidMany v12_wanted v12_orderMany v12_firstOrder v12_lines v12_marks v12_dots v12_madeIn v12_bound v12_places v12_maps v12_tapeMany v12_stories v12_base v12_at v12_ends v12_fault v12_opened v12_bodies v12_ran v12_ownKind v12_ownNumber, (cI κ (r12 12) 40 f12_wormSheets), (cI κ (r12 14) 8 f12_laid), (cI κ (r12 19) 64 f12_sides)] sz [.ref a12, .int p1, .int p2]) (QvK D (fun (u : Int32 × Int32 × Int32 × (Nat → Int32) × (Nat → Int32)) => (0 ≤ u.1.toInt ∧ u.1.toInt ≤ 8) ∧ (∀ j : Nat, 0 ≤ (u.2.2.2.1 j).toInt ∧ (u.2.2.2.1 j).toInt ≤ 7) ∧ (u.1.toInt = v12_laidMany.toInt)) (fun (u : Int32 × Int32 × Int32 × (Nat → Int32) × (Nat → Int32)) => [O12 a12 r12 v12_keptMany v12_done v12_sheets v12_holes v12_worms u.1 v12_wanted u.2.1 u.2.2.1 v12_lines v12_marks v12_dots v12_madeIn v12_bound v12_places v12_maps v12_tapeMany v12_stories v12_base v12_at v12_ends v12_fault v12_opened v12_bodies v12_ran v12_ownKind v12_ownNumber, (cI κ (r12 12) 40 f12_wormSheets), (cI κ (r12 14) 8 u.2.2.2.1), (cI κ (r12 19) 64 u.2.2.2.2)]) [O12 a12 r12 v12_keptMany v12_done v12_sheets v12_holes v12_worms v12_laidMany v12_wanted v12_orderMany v12_firstOrder v12_lines v12_marks v12_dots v12_madeIn v12_bound v12_places v12_maps v12_tapeMany v12_stories v12_base v12_at v12_ends v12_fault v12_opened v12_bodies v12_ran v12_ownKind v12_ownNumber, (cI κ (r12 12) 40 f12_wormSheets), (cI κ (r12 14) 8 f12_laid), (cI κ (r12 19) 64 f12_sides)] sz) 0 0 (va_A [O12 a12 r12 v12_keptMany v12_done v12_sheets v12_holes v12_worms v12_laidMany v12_wanted v12_orderMany v12_firstOrder v12_lines v12_marks v12_dots v12_madeIn v12_bound v12_places v12_maps v12_tapeMany v12_stories v12_base v12_at v12_ends v12_fault v12_opened v12_bodies v12_ran v12_ownKind v12_ownNumber, (cI κ (r12 12) 40 f12_wormSheets), (cI κ (r12 14) 8 f12_laid), (cI κ (r12 19) 64 f12_sides)] sz)
set_option maxHeartbeats 4000000 in
set_option maxRecDepth 100000 in
theorem of_X12_goFrom (l : Launch) (D : va_G) (κ : Nat → ClassId) (β d : Nat) (h_go : C_X12_goFrom l D κ β d) : C_X12_goFrom l D κ β (d + 1) := by
  intro a12 r12 v12_keptMany v12_done v12_sheets v12_holes v12_worms v12_laidMany v12_wanted v12_orderMany v12_firstOrder v12_lines v12_marks v12_dots v12_madeIn v12_bound v12_places v12_maps v12_tapeMany v12_stories v12_base v12_at v12_ends v12_fault v12_opened v12_bodies v12_ran v12_ownKind v12_ownNumber f12_wormSheets f12_laid f12_sides sz p1 p2 i1 i2 i3 i4 i5 i6 i7 i8 i9 i10 i11 i12 i13 i14 i15 i16 hf12_laid i17 i18 i19
  refine ofK_v (cc := cX12_goFrom) (maxL := 4) (own := RX12) (by decide) rfl rfl (Nat.le_of_ble_eq_true rfl) ?_
  intro p e s m args below meth c Q A ls hsz hx hb hml hts hown hK hA hAB hP hD hl hname ret
  have hS : va_S A s.heap s.heap [] := va_S.rf
  have hl : lv_has ls 4 [(0, .ref a12), (1, .int p1), (2, .int p2)] := hl
  have w0 := hts (.fieldLink RX12 173 "OlderSkinModel" "laidMany" "I") (List.mem_of_getElem? (i := 1) rfl)
  have w1 := (fun w h => List.mem_cons_of_mem _ (List.mem_append_right _ h) : ∀ w ∈ u_ws RX12 TX12 63, w ∈ wsX12_goFrom)
  have w2 := hts (.fieldLink RX12 176 "OlderSkinModel" "wanted" "I") (List.mem_of_getElem? (i := 2) rfl)
  have w3 := hts (.fieldLink RX12 133 "OlderSkinModel" "sheets" "I") (List.mem_of_getElem? (i := 7) rfl)
  have w4 := hts (.fieldLink RX12 37 "OlderSkinModel" "laid" "[I") (List.mem_of_getElem? (i := 6) rfl)
  have w5 := hts (.fieldLink RX12 179 "OlderSkinModel" "orderMany" "I") (List.mem_of_getElem? (i := 3) rfl)
  have w6 := hts (.fieldLink RX12 182 "OlderSkinModel" "firstOrder" "I") (List.mem_of_getElem? (i := 4) rfl)
  have w7 := hts (.fieldLink RX12 40 "OlderSkinModel" "sides" "[I") (List.mem_of_getElem? (i := 5) rfl)
  have l0 : (0 : Int32).toInt = 0 := by decide
  have l1 : (1 : Int32).toInt = 1 := by decide
  have l2 : (10 : Int32).toInt = 10 := by decide
  have l3 : (8 : Int32).toInt = 8 := by decide
  have i3 : 0 ≤ v12_sheets.toInt ∧ v12_sheets.toInt ≤ 8 := i3
  have i6 : 0 ≤ v12_laidMany.toInt ∧ v12_laidMany.toInt ≤ 8 := i6
  have i7 : 0 ≤ v12_wanted.toInt ∧ v12_wanted.toInt ≤ 8 := i7
  refine lv_aload_n hx hb dX12_goFrom_0 rfl (lv_at hl 0 rfl) ?_
  refine va_get (D := D) (ci := 12) (v := .int v12_laidMany) (C := RX12) (T := TX12) (N := 63) hx hb hts w1 hown hK.1 hP 0 rfl rfl 15 (by decide) w0 (fun _ h9 => h9) rfl dX12_goFrom_1 ?_
  refine lv_aload_n hx hb dX12_goFrom_4 rfl (lv_at hl 0 rfl) ?_
  refine va_get (D := D) (ci := 12) (v := .int v12_wanted) (C := RX12) (T := TX12) (N := 63) hx hb hts w1 hown hK.1 hP 0 rfl rfl 16 (by decide) w2 (fun _ h9 => h9) rfl dX12_goFrom_5 ?_
  refine lv_icmp_ne (tgt := 111) hx hb dX12_goFrom_8 (by decide) (fun c1 => ?_) (fun c1 => ?_)
  · have c1 := ci_ne c1
    refine lv_iconst (v := 0) hx hb dX12_goFrom_111 (by decide) ?_
    refine lv_istore_n (lv' := [(3, .int 0), (0, .ref a12), (1, .int p1), (2, .int p2)]) hx hb dX12_goFrom_112 rfl hl (by decide) rfl (fun ls hl => ?_)
    have lp113 : ∀ (n113 : Nat) (k2 : Int32) (v3 : Int32) (v4 : Int32) (v5 : Int32) (g6 : Nat → Int32) (g8 : Nat → Int32), (0 ≤ v3.toInt ∧ v3.toInt ≤ 8) → (∀ j : Nat, 0 ≤ (g6 j).toInt ∧ (g6 j).toInt ≤ 7) → (v3.toInt = v12_laidMany.toInt) → (0 ≤ k2.toInt) → (v12_sheets.toInt - k2.toInt).toNat < n113 → ∀ (H : Heap) (locs : List Loc), va_P D vwCl [O12 a12 r12 v12_keptMany v12_done v12_sheets v12_holes v12_worms v3 v12_wanted v4 v5 v12_lines v12_marks v12_dots v12_madeIn v12_bound v12_places v12_maps v12_tapeMany v12_stories v12_base v12_at v12_ends v12_fault v12_opened v12_bodies v12_ran v12_ownKind v12_ownNumber, (cI κ (r12 12) 40 f12_wormSheets), (cI κ (r12 14) 8 g6), (cI κ (r12 19) 64 g8)] H → va_D A [O12 a12 r12 v12_keptMany v12_done v12_sheets v12_holes v12_worms v3 v12_wanted v4 v5 v12_lines v12_marks v12_dots v12_madeIn v12_bound v12_places v12_maps v12_tapeMany v12_stories v12_base v12_at v12_ends v12_fault v12_opened v12_bodies v12_ran v12_ownKind v12_ownNumber, (cI κ (r12 12) 40 f12_wormSheets), (cI κ (r12 14) 8 g6), (cI κ (r12 19) 64 g8)] → va_S A s.heap H locs → ∀ ls : Array Slot, lv_has ls 4 [(3, .int k2), (0, .ref a12), (1, .int p1), (2, .int p2)] → W p l e ({ frames := (d + 1), cells := 0, slots := 0, locals := 23 * (d + 1) + 50 } : Room) s m args below meth c H locs 0 0 Q (F0 m 113 ls []) := by
      intro n113
      induction n113 with
      | zero =>
        intro k2 v3 v4 v5 g6 g8 h9 h7 h10 h11 m12
        exact absurd m12 (Nat.not_lt_zero _)
      | succ n113 ih113 =>
        intro k2 v3 v4 v5 g6 g8 h9 h7 h10 h11 m12 H locs hP hD hS ls hl
        refine lv_iload_n hx hb dX12_goFrom_113 rfl (lv_at hl 0 rfl) ?_
        refine lv_aload_n hx hb dX12_goFrom_114 rfl (lv_at hl 1 rfl) ?_
        refine va_get (D := D) (ci := 12) (v := .int v12_sheets) (C := RX12) (T := TX12) (N := 63) hx hb hts w1 hown hK.1 hP 0 rfl rfl 6 (by decide) w3 (fun _ h9 => h9) rfl dX12_goFrom_115 ?_
        refine lv_icmp_ge (tgt := 189) hx hb dX12_goFrom_118 (by decide) (fun c13 => ?_) (fun c13 => ?_)
        · have c13 := ci_le c13
          have hpo : (0 ≤ v3.toInt ∧ v3.toInt ≤ 8) ∧ (∀ j : Nat, 0 ≤ (g6 j).toInt ∧ (g6 j).toInt ≤ 7) ∧ (v3.toInt = v12_laidMany.toInt) := ⟨h9, h7, (by omega)⟩
          exact ret _ _ _ _ (v3, v4, v5, g6, g8) dX12_goFrom_189 hpo hP hD hS
        have c13 := ci_nle c13
        refine lv_iload_n hx hb dX12_goFrom_121 rfl (lv_at hl 2 rfl) ?_
        refine lv_iload_n hx hb dX12_goFrom_122 rfl (lv_at hl 0 rfl) ?_
        refine lv_ishr hx hb dX12_goFrom_123 ?_
        refine lv_topi (fun x14 e15 => ?_)
        refine lv_iconst (v := 1) hx hb dX12_goFrom_124 (by decide) ?_
        refine lv_iand hx hb dX12_goFrom_125 ?_
        refine lv_topi (fun x16 e17 => ?_)
        refine lv_if_ne (tgt := 183) hx hb dX12_goFrom_126 (by decide) (fun c18 => ?_) (fun c18 => ?_)
        · have c18 := ci_ne c18
          obtain ⟨x19, e20⟩ : ∃ y : Int32, y = k2 + 1 := ⟨_, rfl⟩
          refine lv_iinc (v := x19) (lv' := [(3, .int x19), (0, .ref a12), (1, .int p1), (2, .int p2)]) hx hb dX12_goFrom_183 hl (k := 0) rfl (by rw [e20]; rfl) (by decide) rfl (fun ls hl => ?_)
          try have h21 : x19.toInt = k2.toInt + (1 : Int32).toInt := ci_add e20 (by omega) (by omega)
          refine lv_goto (tgt := 113) hx hb dX12_goFrom_186 (by decide) ?_
          exact ih113 x19 v3 v4 v5 g6 g8 h9 h7 (by omega) (by omega) (by omega) _ _ hP hD hS _ hl
        have c18 := ci_eq c18
        refine lv_aload_n hx hb dX12_goFrom_129 rfl (lv_at hl 1 rfl) ?_
        refine va_get (D := D) (ci := 12) (v := .ref (r12 14)) (C := RX12) (T := TX12) (N := 63) hx hb hts w1 hown hK.1 hP 0 rfl rfl 14 (by decide) w4 (fun _ h9 => h9) rfl dX12_goFrom_130 ?_
        refine lv_aload_n hx hb dX12_goFrom_133 rfl (lv_at hl 1 rfl) ?_
        refine va_get (D := D) (ci := 12) (v := .int v3) (C := RX12) (T := TX12) (N := 63) hx hb hts w1 hown hK.1 hP 0 rfl rfl 15 (by decide) w0 (fun _ h9 => h9) rfl dX12_goFrom_134 ?_
        refine lv_iload_n hx hb dX12_goFrom_137 rfl (lv_at hl 0 rfl) ?_
        refine va_iast hx hb hK.1 hP hD hS 2 1 rfl rfl (i := v3) (ix (by omega) (by omega)) dX12_goFrom_138 (fun H locs hP hD hS => ?_)
        obtain ⟨g22, e23⟩ : ∃ y : Nat → Int32, y = upd g6 v3.toNatClampNeg k2 := ⟨_, rfl⟩
        rw [← e23] at hP hD
        obtain ⟨hP, hD⟩ : PD D A [O12 a12 r12 v12_keptMany v12_done v12_sheets v12_holes v12_worms v3 v12_wanted v4 v5 v12_lines v12_marks v12_dots v12_madeIn v12_bound v12_places v12_maps v12_tapeMany v12_stories v12_base v12_at v12_ends v12_fault v12_opened v12_bodies v12_ran v12_ownKind v12_ownNumber, (cI κ (r12 12) 40 f12_wormSheets), (cI κ (r12 14) 8 g22), (cI κ (r12 19) 64 g8)] H := ⟨hP, hD⟩
        have h24 : ∀ j : Nat, 0 ≤ (g22 j).toInt ∧ (g22 j).toInt ≤ 7 := by rw [e23]; exact all_upd (P := fun z => 0 ≤ z.toInt ∧ z.toInt ≤ 7) h7 (by omega)
        refine lv_aload_n hx hb dX12_goFrom_139 rfl (lv_at hl 1 rfl) ?_
        refine lv_dup hx hb dX12_goFrom_140 rfl ?_
        refine va_get (D := D) (ci := 12) (v := .int v3) (C := RX12) (T := TX12) (N := 63) hx hb hts w1 hown hK.1 hP 0 rfl rfl 15 (by decide) w0 (fun _ h9 => h9) rfl dX12_goFrom_141 ?_
        refine lv_iconst (v := 1) hx hb dX12_goFrom_144 (by decide) ?_
        refine lv_iadd hx hb dX12_goFrom_145 ?_
        refine lv_topi (fun x25 e26 => ?_)
        try have h27 : x25.toInt = v3.toInt + (1 : Int32).toInt := ci_add e26 (by omega) (by omega)
        refine va_put (D := D) (ci := 12) (v := .int x25) (ty := .int) (C := RX12) (T := TX12) (N := 63) hx hb hts w1 tyX12 tyX12_ok nmX12 hown hK.1 hP hD hS 0 rfl rfl 15 (by decide) w0 (fun _ h9 => h9) rfl (by decide +kernel) rfl rfl (Nat.le_of_ble_eq_true rfl) dX12_goFrom_146 (fun H locs hP hD hS => ?_)
        obtain ⟨hP, hD⟩ : PD D A [O12 a12 r12 v12_keptMany v12_done v12_sheets v12_holes v12_worms x25 v12_wanted v4 v5 v12_lines v12_marks v12_dots v12_madeIn v12_bound v12_places v12_maps v12_tapeMany v12_stories v12_base v12_at v12_ends v12_fault v12_opened v12_bodies v12_ran v12_ownKind v12_ownNumber, (cI κ (r12 12) 40 f12_wormSheets), (cI κ (r12 14) 8 g22), (cI κ (r12 19) 64 g8)] H := ⟨hP, hD⟩
        have h28 : 0 ≤ x25.toInt ∧ x25.toInt ≤ 8 := by omega
        refine lv_aload_n hx hb dX12_goFrom_149 rfl (lv_at hl 1 rfl) ?_
        refine kcm_i hA hAB hP hD hS [true, true, true, false] rfl (fun _ => rfl) (fun hPc hDc => va_runV (As := []) (rest := []) ⟨hx, hb, hml, hown, hts⟩ (k_X12_lets l D κ β a12 r12 v12_keptMany v12_done v12_sheets v12_holes v12_worms x25 v12_wanted v4 v5 v12_lines v12_marks v12_dots v12_madeIn v12_bound v12_places v12_maps v12_tapeMany v12_stories v12_base v12_at v12_ends v12_fault v12_opened v12_bodies v12_ran v12_ownKind v12_ownNumber f12_wormSheets g22 H.size i1 i2 i3 i4 i5 h28 i7 i8 i9 i10 i11 i12 i13 i14 i15 i16 h24 i17) (cwV 0 hts gX12_goFrom_X12_lets rfl rfl rfl (by decide +kernel) ⟨by dsimp only; omega, by dsimp only; omega⟩) (pk_V hK hS hAB hPc hDc 0 (ci := 12) rfl rfl rfl) rfl rfl hl.1 rfl (lv_room (Nat.le_of_ble_eq_true rfl)) dX12_goFrom_150 ⟨Nat.le_of_ble_eq_true rfl, Nat.le_of_ble_eq_true rfl⟩) (fun x29 u30 H locs hw hPD hS => ?_)
        have h31 : x29.toInt = 0 ∨ x29.toInt = 1 := hw
        obtain ⟨hP, hD⟩ : PD D A [O12 a12 r12 v12_keptMany v12_done v12_sheets v12_holes v12_worms x25 v12_wanted v4 v5 v12_lines v12_marks v12_dots v12_madeIn v12_bound v12_places v12_maps v12_tapeMany v12_stories v12_base v12_at v12_ends v12_fault v12_opened v12_bodies v12_ran v12_ownKind v12_ownNumber, (cI κ (r12 12) 40 f12_wormSheets), (cI κ (r12 14) 8 g22), (cI κ (r12 19) 64 g8)] H := hPD
        refine lv_if_eq (tgt := 173) hx hb dX12_goFrom_153 (by decide) (fun c32 => ?_) (fun c32 => ?_)
        · have c32 := ci_eq c32
          refine lv_aload_n hx hb dX12_goFrom_173 rfl (lv_at hl 1 rfl) ?_
          refine lv_dup hx hb dX12_goFrom_174 rfl ?_
          refine va_get (D := D) (ci := 12) (v := .int x25) (C := RX12) (T := TX12) (N := 63) hx hb hts w1 hown hK.1 hP 0 rfl rfl 15 (by decide) w0 (fun _ h9 => h9) rfl dX12_goFrom_175 ?_
          refine lv_iconst (v := 1) hx hb dX12_goFrom_178 (by decide) ?_
          refine lv_isub hx hb dX12_goFrom_179 ?_
          refine lv_topi (fun x33 e34 => ?_)
          try have h35 : x33.toInt = x25.toInt - (1 : Int32).toInt := ci_sub e34 (by omega) (by omega)
          refine va_put (D := D) (ci := 12) (v := .int x33) (ty := .int) (C := RX12) (T := TX12) (N := 63) hx hb hts w1 tyX12 tyX12_ok nmX12 hown hK.1 hP hD hS 0 rfl rfl 15 (by decide) w0 (fun _ h9 => h9) rfl (by decide +kernel) rfl rfl (Nat.le_of_ble_eq_true rfl) dX12_goFrom_180 (fun H locs hP hD hS => ?_)
          obtain ⟨hP, hD⟩ : PD D A [O12 a12 r12 v12_keptMany v12_done v12_sheets v12_holes v12_worms x33 v12_wanted v4 v5 v12_lines v12_marks v12_dots v12_madeIn v12_bound v12_places v12_maps v12_tapeMany v12_stories v12_base v12_at v12_ends v12_fault v12_opened v12_bodies v12_ran v12_ownKind v12_ownNumber, (cI κ (r12 12) 40 f12_wormSheets), (cI κ (r12 14) 8 g22), (cI κ (r12 19) 64 g8)] H := ⟨hP, hD⟩
          have h36 : 0 ≤ x33.toInt ∧ x33.toInt ≤ 8 := by omega
          obtain ⟨x37, e38⟩ : ∃ y : Int32, y = k2 + 1 := ⟨_, rfl⟩
          refine lv_iinc (v := x37) (lv' := [(3, .int x37), (0, .ref a12), (1, .int p1), (2, .int p2)]) hx hb dX12_goFrom_183 hl (k := 0) rfl (by rw [e38]; rfl) (by decide) rfl (fun ls hl => ?_)
          try have h39 : x37.toInt = k2.toInt + (1 : Int32).toInt := ci_add e38 (by omega) (by omega)
          refine lv_goto (tgt := 113) hx hb dX12_goFrom_186 (by decide) ?_
          exact ih113 x37 x33 v4 v5 g22 g8 h36 h24 (by omega) (by omega) (by omega) _ _ hP hD hS _ hl
        have c32 := ci_ne c32
        refine lv_aload_n hx hb dX12_goFrom_156 rfl (lv_at hl 1 rfl) ?_
        refine lv_iload_n hx hb dX12_goFrom_157 rfl (lv_at hl 2 rfl) ?_
        refine lv_iconst (v := 1) hx hb dX12_goFrom_158 (by decide) ?_
        refine lv_iload_n hx hb dX12_goFrom_159 rfl (lv_at hl 0 rfl) ?_
        refine lv_ishl hx hb dX12_goFrom_160 ?_
        refine lv_topi (fun x40 e41 => ?_)
        refine lv_ior hx hb dX12_goFrom_161 ?_
        refine lv_topi (fun x42 e43 => ?_)
        refine lv_bipush (v := 10) hx hb dX12_goFrom_162 (by decide) ?_
        refine lv_iload_n hx hb dX12_goFrom_164 rfl (lv_at hl 3 rfl) ?_
        refine lv_imul hx hb dX12_goFrom_165 ?_
        refine lv_topi (fun x44 e45 => ?_)
        try have h46 : x44.toInt = 10 * p2.toInt := ci_mulL (n := 10) (by decide) e45 (by omega) (by omega)
        refine lv_iload_n hx hb dX12_goFrom_166 rfl (lv_at hl 0 rfl) ?_
        refine lv_iadd hx hb dX12_goFrom_167 ?_
        refine lv_topi (fun x47 e48 => ?_)
        try have h49 : x47.toInt = x44.toInt + k2.toInt := ci_add e48 (by omega) (by omega)
        refine lv_iconst (v := 1) hx hb dX12_goFrom_168 (by decide) ?_
        refine lv_iadd hx hb dX12_goFrom_169 ?_
        refine lv_topi (fun x50 e51 => ?_)
        try have h52 : x50.toInt = x47.toInt + (1 : Int32).toInt := ci_add e51 (by omega) (by omega)
        refine kcm_v hA hAB hP hD hS [true, true, true, true] rfl (fun _ => rfl) (fun hPc hDc => va_runV (As := [.int x42, .int x50]) (rest := []) ⟨hx, hb, hml, hown, hts⟩ (h_go a12 r12 v12_keptMany v12_done v12_sheets v12_holes v12_worms x25 v12_wanted v4 v5 v12_lines v12_marks v12_dots v12_madeIn v12_bound v12_places v12_maps v12_tapeMany v12_stories v12_base v12_at v12_ends v12_fault v12_opened v12_bodies v12_ran v12_ownKind v12_ownNumber f12_wormSheets g22 g8 H.size x42 x50 i1 i2 i3 i4 i5 h28 i7 i8 i9 i10 i11 i12 i13 i14 i15 i16 h24 i17 (by omega) (by omega)) (cwV 2 hts gX12_goFrom_X12_goFrom rfl rfl rfl (by decide +kernel) ⟨by dsimp only; omega, by dsimp only; omega⟩) (pk_V hK hS hAB hPc hDc 0 (ci := 12) rfl rfl rfl) rfl rfl hl.1 rfl (lv_room (Nat.le_of_ble_eq_true rfl)) dX12_goFrom_170 ⟨Nat.le_of_ble_eq_true rfl, Nat.le_of_ble_eq_true rfl⟩) (fun u58 H locs hw hPD hS => ?_)
        obtain ⟨x53, x54, x55, g56, g57⟩ := u58
        obtain ⟨h59, h60, h61⟩ : (0 ≤ x53.toInt ∧ x53.toInt ≤ 8) ∧ (∀ j : Nat, 0 ≤ (g56 j).toInt ∧ (g56 j).toInt ≤ 7) ∧ (x53.toInt = x25.toInt) := hw
        obtain ⟨hP, hD⟩ : PD D A [O12 a12 r12 v12_keptMany v12_done v12_sheets v12_holes v12_worms x53 v12_wanted x54 x55 v12_lines v12_marks v12_dots v12_madeIn v12_bound v12_places v12_maps v12_tapeMany v12_stories v12_base v12_at v12_ends v12_fault v12_opened v12_bodies v12_ran v12_ownKind v12_ownNumber, (cI κ (r12 12) 40 f12_wormSheets), (cI κ (r12 14) 8 g56), (cI κ (r12 19) 64 g57)] H := hPD
        refine lv_aload_n hx hb dX12_goFrom_173 rfl (lv_at hl 1 rfl) ?_
        refine lv_dup hx hb dX12_goFrom_174 rfl ?_
        refine va_get (D := D) (ci := 12) (v := .int x53) (C := RX12) (T := TX12) (N := 63) hx hb hts w1 hown hK.1 hP 0 rfl rfl 15 (by decide) w0 (fun _ h9 => h9) rfl dX12_goFrom_175 ?_
        refine lv_iconst (v := 1) hx hb dX12_goFrom_178 (by decide) ?_
        refine lv_isub hx hb dX12_goFrom_179 ?_
        refine lv_topi (fun x62 e63 => ?_)
        try have h64 : x62.toInt = x53.toInt - (1 : Int32).toInt := ci_sub e63 (by omega) (by omega)
        refine va_put (D := D) (ci := 12) (v := .int x62) (ty := .int) (C := RX12) (T := TX12) (N := 63) hx hb hts w1 tyX12 tyX12_ok nmX12 hown hK.1 hP hD hS 0 rfl rfl 15 (by decide) w0 (fun _ h9 => h9) rfl (by decide +kernel) rfl rfl (Nat.le_of_ble_eq_true rfl) dX12_goFrom_180 (fun H locs hP hD hS => ?_)
        obtain ⟨hP, hD⟩ : PD D A [O12 a12 r12 v12_keptMany v12_done v12_sheets v12_holes v12_worms x62 v12_wanted x54 x55 v12_lines v12_marks v12_dots v12_madeIn v12_bound v12_places v12_maps v12_tapeMany v12_stories v12_base v12_at v12_ends v12_fault v12_opened v12_bodies v12_ran v12_ownKind v12_ownNumber, (cI κ (r12 12) 40 f12_wormSheets), (cI κ (r12 14) 8 g56), (cI κ (r12 19) 64 g57)] H := ⟨hP, hD⟩
        have h65 : 0 ≤ x62.toInt ∧ x62.toInt ≤ 8 := by omega
        obtain ⟨x66, e67⟩ : ∃ y : Int32, y = k2 + 1 := ⟨_, rfl⟩
        refine lv_iinc (v := x66) (lv' := [(3, .int x66), (0, .ref a12), (1, .int p1), (2, .int p2)]) hx hb dX12_goFrom_183 hl (k := 0) rfl (by rw [e67]; rfl) (by decide) rfl (fun ls hl => ?_)
        try have h68 : x66.toInt = k2.toInt + (1 : Int32).toInt := ci_add e67 (by omega) (by omega)
        refine lv_goto (tgt := 113) hx hb dX12_goFrom_186 (by decide) ?_
        exact ih113 x66 x62 x54 x55 g56 g57 h65 h60 (by omega) (by omega) (by omega) _ _ hP hD hS _ hl
    exact lp113 ((v12_sheets.toInt - (0 : Int32).toInt).toNat + 1) 0 v12_laidMany v12_orderMany v12_firstOrder f12_laid f12_sides i6 hf12_laid (by omega) (by omega) (by omega) _ _ hP hD hS _ hl
  have c1 := ci_eq c1
  refine lv_aload_n hx hb dX12_goFrom_11 rfl (lv_at hl 0 rfl) ?_
  refine lv_aload_n hx hb dX12_goFrom_12 rfl (lv_at hl 0 rfl) ?_
  refine va_get (D := D) (ci := 12) (v := .int v12_orderMany) (C := RX12) (T := TX12) (N := 63) hx hb hts w1 hown hK.1 hP 0 rfl rfl 17 (by decide) w5 (fun _ h9 => h9) rfl dX12_goFrom_13 ?_
  refine lv_if_ne (tgt := 23) hx hb dX12_goFrom_16 (by decide) (fun c69 => ?_) (fun c69 => ?_)
  · have c69 := ci_ne c69
    refine lv_aload_n hx hb dX12_goFrom_23 rfl (lv_at hl 0 rfl) ?_
    refine va_get (D := D) (ci := 12) (v := .int v12_firstOrder) (C := RX12) (T := TX12) (N := 63) hx hb hts w1 hown hK.1 hP 0 rfl rfl 18 (by decide) w6 (fun _ h9 => h9) rfl dX12_goFrom_24 ?_
    refine va_put (D := D) (ci := 12) (v := .int v12_firstOrder) (ty := .int) (C := RX12) (T := TX12) (N := 63) hx hb hts w1 tyX12 tyX12_ok nmX12 hown hK.1 hP hD hS 0 rfl rfl 18 (by decide) w6 (fun _ h9 => h9) rfl (by decide +kernel) rfl rfl (Nat.le_of_ble_eq_true rfl) dX12_goFrom_27 (fun H locs hP hD hS => ?_)
    obtain ⟨hP, hD⟩ : PD D A [O12 a12 r12 v12_keptMany v12_done v12_sheets v12_holes v12_worms v12_laidMany v12_wanted v12_orderMany v12_firstOrder v12_lines v12_marks v12_dots v12_madeIn v12_bound v12_places v12_maps v12_tapeMany v12_stories v12_base v12_at v12_ends v12_fault v12_opened v12_bodies v12_ran v12_ownKind v12_ownNumber, (cI κ (r12 12) 40 f12_wormSheets), (cI κ (r12 14) 8 f12_laid), (cI κ (r12 19) 64 f12_sides)] H := ⟨hP, hD⟩
    refine lv_aload_n hx hb dX12_goFrom_30 rfl (lv_at hl 0 rfl) ?_
    refine lv_dup hx hb dX12_goFrom_31 rfl ?_
    refine va_get (D := D) (ci := 12) (v := .int v12_orderMany) (C := RX12) (T := TX12) (N := 63) hx hb hts w1 hown hK.1 hP 0 rfl rfl 17 (by decide) w5 (fun _ h9 => h9) rfl dX12_goFrom_32 ?_
    refine lv_iconst (v := 1) hx hb dX12_goFrom_35 (by decide) ?_
    refine lv_iadd hx hb dX12_goFrom_36 ?_
    refine lv_topi (fun x70 e71 => ?_)
    try have h72 : x70.toInt = v12_orderMany.toInt + (1 : Int32).toInt := ci_add e71 (by omega) (by omega)
    refine va_put (D := D) (ci := 12) (v := .int x70) (ty := .int) (C := RX12) (T := TX12) (N := 63) hx hb hts w1 tyX12 tyX12_ok nmX12 hown hK.1 hP hD hS 0 rfl rfl 17 (by decide) w5 (fun _ h9 => h9) rfl (by decide +kernel) rfl rfl (Nat.le_of_ble_eq_true rfl) dX12_goFrom_37 (fun H locs hP hD hS => ?_)
    obtain ⟨hP, hD⟩ : PD D A [O12 a12 r12 v12_keptMany v12_done v12_sheets v12_holes v12_worms v12_laidMany v12_wanted x70 v12_firstOrder v12_lines v12_marks v12_dots v12_madeIn v12_bound v12_places v12_maps v12_tapeMany v12_stories v12_base v12_at v12_ends v12_fault v12_opened v12_bodies v12_ran v12_ownKind v12_ownNumber, (cI κ (r12 12) 40 f12_wormSheets), (cI κ (r12 14) 8 f12_laid), (cI κ (r12 19) 64 f12_sides)] H := ⟨hP, hD⟩
    refine lv_iconst (v := 1) hx hb dX12_goFrom_40 (by decide) ?_
    refine lv_istore_n (lv' := [(3, .int 1), (0, .ref a12), (1, .int p1), (2, .int p2)]) hx hb dX12_goFrom_41 rfl hl (by decide) rfl (fun ls hl => ?_)
    have lp42 : ∀ (n42 : Nat) (k73 : Int32) (g74 : Nat → Int32), (1 ≤ k73.toInt) → (0 ≤ k73.toInt) → (v12_laidMany.toInt - k73.toInt).toNat < n42 → ∀ (H : Heap) (locs : List Loc), va_P D vwCl [O12 a12 r12 v12_keptMany v12_done v12_sheets v12_holes v12_worms v12_laidMany v12_wanted x70 v12_firstOrder v12_lines v12_marks v12_dots v12_madeIn v12_bound v12_places v12_maps v12_tapeMany v12_stories v12_base v12_at v12_ends v12_fault v12_opened v12_bodies v12_ran v12_ownKind v12_ownNumber, (cI κ (r12 12) 40 f12_wormSheets), (cI κ (r12 14) 8 f12_laid), (cI κ (r12 19) 64 g74)] H → va_D A [O12 a12 r12 v12_keptMany v12_done v12_sheets v12_holes v12_worms v12_laidMany v12_wanted x70 v12_firstOrder v12_lines v12_marks v12_dots v12_madeIn v12_bound v12_places v12_maps v12_tapeMany v12_stories v12_base v12_at v12_ends v12_fault v12_opened v12_bodies v12_ran v12_ownKind v12_ownNumber, (cI κ (r12 12) 40 f12_wormSheets), (cI κ (r12 14) 8 f12_laid), (cI κ (r12 19) 64 g74)] → va_S A s.heap H locs → ∀ ls : Array Slot, lv_has ls 4 [(3, .int k73), (0, .ref a12), (1, .int p1), (2, .int p2)] → W p l e ({ frames := (d + 1), cells := 0, slots := 0, locals := 23 * (d + 1) + 50 } : Room) s m args below meth c H locs 0 0 Q (F0 m 42 ls []) := by
      intro n42
      induction n42 with
      | zero =>
        intro k73 g74 h75 h76 m77
        exact absurd m77 (Nat.not_lt_zero _)
      | succ n42 ih42 =>
        intro k73 g74 h75 h76 m77 H locs hP hD hS ls hl
        refine lv_iload_n hx hb dX12_goFrom_42 rfl (lv_at hl 0 rfl) ?_
        refine lv_aload_n hx hb dX12_goFrom_43 rfl (lv_at hl 1 rfl) ?_
        refine va_get (D := D) (ci := 12) (v := .int v12_laidMany) (C := RX12) (T := TX12) (N := 63) hx hb hts w1 hown hK.1 hP 0 rfl rfl 15 (by decide) w0 (fun _ h9 => h9) rfl dX12_goFrom_44 ?_
        refine lv_icmp_ge (tgt := 110) hx hb dX12_goFrom_47 (by decide) (fun c78 => ?_) (fun c78 => ?_)
        · have c78 := ci_le c78
          have hpo : (0 ≤ v12_laidMany.toInt ∧ v12_laidMany.toInt ≤ 8) ∧ (∀ j : Nat, 0 ≤ (f12_laid j).toInt ∧ (f12_laid j).toInt ≤ 7) ∧ (v12_laidMany.toInt = v12_laidMany.toInt) := ⟨i6, hf12_laid, (by omega)⟩
          exact ret _ _ _ _ (v12_laidMany, x70, v12_firstOrder, f12_laid, g74) dX12_goFrom_110 hpo hP hD hS
        have c78 := ci_nle c78
        refine lv_aload_n hx hb dX12_goFrom_50 rfl (lv_at hl 1 rfl) ?_
        refine va_get (D := D) (ci := 12) (v := .ref (r12 19)) (C := RX12) (T := TX12) (N := 63) hx hb hts w1 hown hK.1 hP 0 rfl rfl 19 (by decide) w7 (fun _ h9 => h9) rfl dX12_goFrom_51 ?_
        refine lv_bipush (v := 8) hx hb dX12_goFrom_54 (by decide) ?_
        refine lv_aload_n hx hb dX12_goFrom_56 rfl (lv_at hl 1 rfl) ?_
        refine va_get (D := D) (ci := 12) (v := .ref (r12 14)) (C := RX12) (T := TX12) (N := 63) hx hb hts w1 hown hK.1 hP 0 rfl rfl 14 (by decide) w4 (fun _ h9 => h9) rfl dX12_goFrom_57 ?_
        refine lv_iload_n hx hb dX12_goFrom_60 rfl (lv_at hl 0 rfl) ?_
        refine va_iald hx hb hK.1 hP 2 1 rfl rfl (i := k73) (ix (by omega) (by omega)) dX12_goFrom_61 ?_
        refine lv_topi (fun x79 e80 => ?_)
        have h81 : 0 ≤ x79.toInt ∧ x79.toInt ≤ 7 := by rw [e80]; exact hf12_laid _
        refine lv_imul hx hb dX12_goFrom_62 ?_
        refine lv_topi (fun x82 e83 => ?_)
        try have h84 : x82.toInt = 8 * x79.toInt := ci_mulL (n := 8) (by decide) e83 (by omega) (by omega)
        refine lv_aload_n hx hb dX12_goFrom_63 rfl (lv_at hl 1 rfl) ?_
        refine va_get (D := D) (ci := 12) (v := .ref (r12 14)) (C := RX12) (T := TX12) (N := 63) hx hb hts w1 hown hK.1 hP 0 rfl rfl 14 (by decide) w4 (fun _ h9 => h9) rfl dX12_goFrom_64 ?_
        refine lv_iload_n hx hb dX12_goFrom_67 rfl (lv_at hl 0 rfl) ?_
        refine lv_iconst (v := 1) hx hb dX12_goFrom_68 (by decide) ?_
        refine lv_isub hx hb dX12_goFrom_69 ?_
        refine lv_topi (fun x85 e86 => ?_)
        try have h87 : x85.toInt = k73.toInt - (1 : Int32).toInt := ci_sub e86 (by omega) (by omega)
        refine va_iald hx hb hK.1 hP 2 1 rfl rfl (i := x85) (ix (by omega) (by omega)) dX12_goFrom_70 ?_
        refine lv_topi (fun x88 e89 => ?_)
        have h90 : 0 ≤ x88.toInt ∧ x88.toInt ≤ 7 := by rw [e89]; exact hf12_laid _
        refine lv_iadd hx hb dX12_goFrom_71 ?_
        refine lv_topi (fun x91 e92 => ?_)
        try have h93 : x91.toInt = x82.toInt + x88.toInt := ci_add e92 (by omega) (by omega)
        refine lv_dup2_11 hx hb dX12_goFrom_72 rfl rfl ?_
        refine va_iald hx hb hK.1 hP 3 1 rfl rfl (i := x91) (ix (by omega) (by omega)) dX12_goFrom_73 ?_
        refine lv_topi (fun x94 e95 => ?_)
        refine lv_iconst (v := 1) hx hb dX12_goFrom_74 (by decide) ?_
        refine lv_iadd hx hb dX12_goFrom_75 ?_
        refine lv_topi (fun x96 e97 => ?_)
        try have h98 : x96.toInt = x94.toInt + (1 : Int32).toInt := ci_add e97 (by omega) (by omega)
        refine va_iast hx hb hK.1 hP hD hS 3 1 rfl rfl (i := x91) (ix (by omega) (by omega)) dX12_goFrom_76 (fun H locs hP hD hS => ?_)
        obtain ⟨g99, e100⟩ : ∃ y : Nat → Int32, y = upd g74 x91.toNatClampNeg x96 := ⟨_, rfl⟩
        rw [← e100] at hP hD
        obtain ⟨hP, hD⟩ : PD D A [O12 a12 r12 v12_keptMany v12_done v12_sheets v12_holes v12_worms v12_laidMany v12_wanted x70 v12_firstOrder v12_lines v12_marks v12_dots v12_madeIn v12_bound v12_places v12_maps v12_tapeMany v12_stories v12_base v12_at v12_ends v12_fault v12_opened v12_bodies v12_ran v12_ownKind v12_ownNumber, (cI κ (r12 12) 40 f12_wormSheets), (cI κ (r12 14) 8 f12_laid), (cI κ (r12 19) 64 g99)] H := ⟨hP, hD⟩
        refine lv_aload_n hx hb dX12_goFrom_77 rfl (lv_at hl 1 rfl) ?_
        refine va_get (D := D) (ci := 12) (v := .ref (r12 19)) (C := RX12) (T := TX12) (N := 63) hx hb hts w1 hown hK.1 hP 0 rfl rfl 19 (by decide) w7 (fun _ h9 => h9) rfl dX12_goFrom_78 ?_
        refine lv_bipush (v := 8) hx hb dX12_goFrom_81 (by decide) ?_
        refine lv_aload_n hx hb dX12_goFrom_83 rfl (lv_at hl 1 rfl) ?_
        refine va_get (D := D) (ci := 12) (v := .ref (r12 14)) (C := RX12) (T := TX12) (N := 63) hx hb hts w1 hown hK.1 hP 0 rfl rfl 14 (by decide) w4 (fun _ h9 => h9) rfl dX12_goFrom_84 ?_
        refine lv_iload_n hx hb dX12_goFrom_87 rfl (lv_at hl 0 rfl) ?_
        refine lv_iconst (v := 1) hx hb dX12_goFrom_88 (by decide) ?_
        refine lv_isub hx hb dX12_goFrom_89 ?_
        refine lv_topi (fun x101 e102 => ?_)
        try have h103 : x101.toInt = k73.toInt - (1 : Int32).toInt := ci_sub e102 (by omega) (by omega)
        refine va_iald hx hb hK.1 hP 2 1 rfl rfl (i := x101) (ix (by omega) (by omega)) dX12_goFrom_90 ?_
        refine lv_topi (fun x104 e105 => ?_)
        have h106 : 0 ≤ x104.toInt ∧ x104.toInt ≤ 7 := by rw [e105]; exact hf12_laid _
        refine lv_imul hx hb dX12_goFrom_91 ?_
        refine lv_topi (fun x107 e108 => ?_)
        try have h109 : x107.toInt = 8 * x104.toInt := ci_mulL (n := 8) (by decide) e108 (by omega) (by omega)
        refine lv_aload_n hx hb dX12_goFrom_92 rfl (lv_at hl 1 rfl) ?_
        refine va_get (D := D) (ci := 12) (v := .ref (r12 14)) (C := RX12) (T := TX12) (N := 63) hx hb hts w1 hown hK.1 hP 0 rfl rfl 14 (by decide) w4 (fun _ h9 => h9) rfl dX12_goFrom_93 ?_
        refine lv_iload_n hx hb dX12_goFrom_96 rfl (lv_at hl 0 rfl) ?_
        refine va_iald hx hb hK.1 hP 2 1 rfl rfl (i := k73) (ix (by omega) (by omega)) dX12_goFrom_97 ?_
        refine lv_topi (fun x110 e111 => ?_)
        have h112 : 0 ≤ x110.toInt ∧ x110.toInt ≤ 7 := by rw [e111]; exact hf12_laid _
        refine lv_iadd hx hb dX12_goFrom_98 ?_
        refine lv_topi (fun x113 e114 => ?_)
        try have h115 : x113.toInt = x107.toInt + x110.toInt := ci_add e114 (by omega) (by omega)
        refine lv_dup2_11 hx hb dX12_goFrom_99 rfl rfl ?_
        refine va_iald hx hb hK.1 hP 3 1 rfl rfl (i := x113) (ix (by omega) (by omega)) dX12_goFrom_100 ?_
        refine lv_topi (fun x116 e117 => ?_)
        refine lv_iconst (v := 1) hx hb dX12_goFrom_101 (by decide) ?_
        refine lv_iadd hx hb dX12_goFrom_102 ?_
        refine lv_topi (fun x118 e119 => ?_)
        try have h120 : x118.toInt = x116.toInt + (1 : Int32).toInt := ci_add e119 (by omega) (by omega)
        refine va_iast hx hb hK.1 hP hD hS 3 1 rfl rfl (i := x113) (ix (by omega) (by omega)) dX12_goFrom_103 (fun H locs hP hD hS => ?_)
        obtain ⟨g121, e122⟩ : ∃ y : Nat → Int32, y = upd g99 x113.toNatClampNeg x118 := ⟨_, rfl⟩
        rw [← e122] at hP hD
        obtain ⟨hP, hD⟩ : PD D A [O12 a12 r12 v12_keptMany v12_done v12_sheets v12_holes v12_worms v12_laidMany v12_wanted x70 v12_firstOrder v12_lines v12_marks v12_dots v12_madeIn v12_bound v12_places v12_maps v12_tapeMany v12_stories v12_base v12_at v12_ends v12_fault v12_opened v12_bodies v12_ran v12_ownKind v12_ownNumber, (cI κ (r12 12) 40 f12_wormSheets), (cI κ (r12 14) 8 f12_laid), (cI κ (r12 19) 64 g121)] H := ⟨hP, hD⟩
        obtain ⟨x123, e124⟩ : ∃ y : Int32, y = k73 + 1 := ⟨_, rfl⟩
        refine lv_iinc (v := x123) (lv' := [(3, .int x123), (0, .ref a12), (1, .int p1), (2, .int p2)]) hx hb dX12_goFrom_104 hl (k := 0) rfl (by rw [e124]; rfl) (by decide) rfl (fun ls hl => ?_)
        try have h125 : x123.toInt = k73.toInt + (1 : Int32).toInt := ci_add e124 (by omega) (by omega)
        refine lv_goto (tgt := 42) hx hb dX12_goFrom_107 (by decide) ?_
        exact ih42 x123 g121 (by omega) (by omega) (by omega) _ _ hP hD hS _ hl
    exact lp42 ((v12_laidMany.toInt - (1 : Int32).toInt).toNat + 1) 1 f12_sides (by omega) (by omega) (by omega) _ _ hP hD hS _ hl
  have c69 := ci_eq c69
  refine lv_iload_n hx hb dX12_goFrom_19 rfl (lv_at hl 2 rfl) ?_
  refine lv_goto (tgt := 27) hx hb dX12_goFrom_20 (by decide) ?_
  refine va_put (D := D) (ci := 12) (v := .int p2) (ty := .int) (C := RX12) (T := TX12) (N := 63) hx hb hts w1 tyX12 tyX12_ok nmX12 hown hK.1 hP hD hS 0 rfl rfl 18 (by decide) w6 (fun _ h9 => h9) rfl (by decide +kernel) rfl rfl (Nat.le_of_ble_eq_true rfl) dX12_goFrom_27 (fun H locs hP hD hS => ?_)
  obtain ⟨hP, hD⟩ : PD D A [O12 a12 r12 v12_keptMany v12_done v12_sheets v12_holes v12_worms v12_laidMany v12_wanted v12_orderMany p2 v12_lines v12_marks v12_dots v12_madeIn v12_bound v12_places v12_maps v12_tapeMany v12_stories v12_base v12_at v12_ends v12_fault v12_opened v12_bodies v12_ran v12_ownKind v12_ownNumber, (cI κ (r12 12) 40 f12_wormSheets), (cI κ (r12 14) 8 f12_laid), (cI κ (r12 19) 64 f12_sides)] H := ⟨hP, hD⟩
  refine lv_aload_n hx hb dX12_goFrom_30 rfl (lv_at hl 0 rfl) ?_
  refine lv_dup hx hb dX12_goFrom_31 rfl ?_
  refine va_get (D := D) (ci := 12) (v := .int v12_orderMany) (C := RX12) (T := TX12) (N := 63) hx hb hts w1 hown hK.1 hP 0 rfl rfl 17 (by decide) w5 (fun _ h9 => h9) rfl dX12_goFrom_32 ?_
  refine lv_iconst (v := 1) hx hb dX12_goFrom_35 (by decide) ?_
  refine lv_iadd hx hb dX12_goFrom_36 ?_
  refine lv_topi (fun x126 e127 => ?_)
  try have h128 : x126.toInt = v12_orderMany.toInt + (1 : Int32).toInt := ci_add e127 (by omega) (by omega)
  refine va_put (D := D) (ci := 12) (v := .int x126) (ty := .int) (C := RX12) (T := TX12) (N := 63) hx hb hts w1 tyX12 tyX12_ok nmX12 hown hK.1 hP hD hS 0 rfl rfl 17 (by decide) w5 (fun _ h9 => h9) rfl (by decide +kernel) rfl rfl (Nat.le_of_ble_eq_true rfl) dX12_goFrom_37 (fun H locs hP hD hS => ?_)
  obtain ⟨hP, hD⟩ : PD D A [O12 a12 r12 v12_keptMany v12_done v12_sheets v12_holes v12_worms v12_laidMany v12_wanted x126 p2 v12_lines v12_marks v12_dots v12_madeIn v12_bound v12_places v12_maps v12_tapeMany v12_stories v12_base v12_at v12_ends v12_fault v12_opened v12_bodies v12_ran v12_ownKind v12_ownNumber, (cI κ (r12 12) 40 f12_wormSheets), (cI κ (r12 14) 8 f12_laid), (cI κ (r12 19) 64 f12_sides)] H := ⟨hP, hD⟩
  refine lv_iconst (v := 1) hx hb dX12_goFrom_40 (by decide) ?_
  refine lv_istore_n (lv' := [(3, .int 1), (0, .ref a12), (1, .int p1), (2, .int p2)]) hx hb dX12_goFrom_41 rfl hl (by decide) rfl (fun ls hl => ?_)
  have lp42 : ∀ (n42 : Nat) (k129 : Int32) (g130 : Nat → Int32), (1 ≤ k129.toInt) → (0 ≤ k129.toInt) → (v12_laidMany.toInt - k129.toInt).toNat < n42 → ∀ (H : Heap) (locs : List Loc), va_P D vwCl [O12 a12 r12 v12_keptMany v12_done v12_sheets v12_holes v12_worms v12_laidMany v12_wanted x126 p2 v12_lines v12_marks v12_dots v12_madeIn v12_bound v12_places v12_maps v12_tapeMany v12_stories v12_base v12_at v12_ends v12_fault v12_opened v12_bodies v12_ran v12_ownKind v12_ownNumber, (cI κ (r12 12) 40 f12_wormSheets), (cI κ (r12 14) 8 f12_laid), (cI κ (r12 19) 64 g130)] H → va_D A [O12 a12 r12 v12_keptMany v12_done v12_sheets v12_holes v12_worms v12_laidMany v12_wanted x126 p2 v12_lines v12_marks v12_dots v12_madeIn v12_bound v12_places v12_maps v12_tapeMany v12_stories v12_base v12_at v12_ends v12_fault v12_opened v12_bodies v12_ran v12_ownKind v12_ownNumber, (cI κ (r12 12) 40 f12_wormSheets), (cI κ (r12 14) 8 f12_laid), (cI κ (r12 19) 64 g130)] → va_S A s.heap H locs → ∀ ls : Array Slot, lv_has ls 4 [(3, .int k129), (0, .ref a12), (1, .int p1), (2, .int p2)] → W p l e ({ frames := (d + 1), cells := 0, slots := 0, locals := 23 * (d + 1) + 50 } : Room) s m args below meth c H locs 0 0 Q (F0 m 42 ls []) := by
    intro n42
    induction n42 with
    | zero =>
      intro k129 g130 h131 h132 m133
      exact absurd m133 (Nat.not_lt_zero _)
    | succ n42 ih42 =>
      intro k129 g130 h131 h132 m133 H locs hP hD hS ls hl
      refine lv_iload_n hx hb dX12_goFrom_42 rfl (lv_at hl 0 rfl) ?_
      refine lv_aload_n hx hb dX12_goFrom_43 rfl (lv_at hl 1 rfl) ?_
      refine va_get (D := D) (ci := 12) (v := .int v12_laidMany) (C := RX12) (T := TX12) (N := 63) hx hb hts w1 hown hK.1 hP 0 rfl rfl 15 (by decide) w0 (fun _ h9 => h9) rfl dX12_goFrom_44 ?_
      refine lv_icmp_ge (tgt := 110) hx hb dX12_goFrom_47 (by decide) (fun c134 => ?_) (fun c134 => ?_)
      · have c134 := ci_le c134
        have hpo : (0 ≤ v12_laidMany.toInt ∧ v12_laidMany.toInt ≤ 8) ∧ (∀ j : Nat, 0 ≤ (f12_laid j).toInt ∧ (f12_laid j).toInt ≤ 7) ∧ (v12_laidMany.toInt = v12_laidMany.toInt) := ⟨i6, hf12_laid, (by omega)⟩
        exact ret _ _ _ _ (v12_laidMany, x126, p2, f12_laid, g130) dX12_goFrom_110 hpo hP hD hS
      have c134 := ci_nle c134
      refine lv_aload_n hx hb dX12_goFrom_50 rfl (lv_at hl 1 rfl) ?_
      refine va_get (D := D) (ci := 12) (v := .ref (r12 19)) (C := RX12) (T := TX12) (N := 63) hx hb hts w1 hown hK.1 hP 0 rfl rfl 19 (by decide) w7 (fun _ h9 => h9) rfl dX12_goFrom_51 ?_
      refine lv_bipush (v := 8) hx hb dX12_goFrom_54 (by decide) ?_
      refine lv_aload_n hx hb dX12_goFrom_56 rfl (lv_at hl 1 rfl) ?_
      refine va_get (D := D) (ci := 12) (v := .ref (r12 14)) (C := RX12) (T := TX12) (N := 63) hx hb hts w1 hown hK.1 hP 0 rfl rfl 14 (by decide) w4 (fun _ h9 => h9) rfl dX12_goFrom_57 ?_
      refine lv_iload_n hx hb dX12_goFrom_60 rfl (lv_at hl 0 rfl) ?_
      refine va_iald hx hb hK.1 hP 2 1 rfl rfl (i := k129) (ix (by omega) (by omega)) dX12_goFrom_61 ?_
      refine lv_topi (fun x135 e136 => ?_)
      have h137 : 0 ≤ x135.toInt ∧ x135.toInt ≤ 7 := by rw [e136]; exact hf12_laid _
      refine lv_imul hx hb dX12_goFrom_62 ?_
      refine lv_topi (fun x138 e139 => ?_)
      try have h140 : x138.toInt = 8 * x135.toInt := ci_mulL (n := 8) (by decide) e139 (by omega) (by omega)
      refine lv_aload_n hx hb dX12_goFrom_63 rfl (lv_at hl 1 rfl) ?_
      refine va_get (D := D) (ci := 12) (v := .ref (r12 14)) (C := RX12) (T := TX12) (N := 63) hx hb hts w1 hown hK.1 hP 0 rfl rfl 14 (by decide) w4 (fun _ h9 => h9) rfl dX12_goFrom_64 ?_
      refine lv_iload_n hx hb dX12_goFrom_67 rfl (lv_at hl 0 rfl) ?_
      refine lv_iconst (v := 1) hx hb dX12_goFrom_68 (by decide) ?_
      refine lv_isub hx hb dX12_goFrom_69 ?_
      refine lv_topi (fun x141 e142 => ?_)
      try have h143 : x141.toInt = k129.toInt - (1 : Int32).toInt := ci_sub e142 (by omega) (by omega)
      refine va_iald hx hb hK.1 hP 2 1 rfl rfl (i := x141) (ix (by omega) (by omega)) dX12_goFrom_70 ?_
      refine lv_topi (fun x144 e145 => ?_)
      have h146 : 0 ≤ x144.toInt ∧ x144.toInt ≤ 7 := by rw [e145]; exact hf12_laid _
      refine lv_iadd hx hb dX12_goFrom_71 ?_
      refine lv_topi (fun x147 e148 => ?_)
      try have h149 : x147.toInt = x138.toInt + x144.toInt := ci_add e148 (by omega) (by omega)
      refine lv_dup2_11 hx hb dX12_goFrom_72 rfl rfl ?_
      refine va_iald hx hb hK.1 hP 3 1 rfl rfl (i := x147) (ix (by omega) (by omega)) dX12_goFrom_73 ?_
      refine lv_topi (fun x150 e151 => ?_)
      refine lv_iconst (v := 1) hx hb dX12_goFrom_74 (by decide) ?_
      refine lv_iadd hx hb dX12_goFrom_75 ?_
      refine lv_topi (fun x152 e153 => ?_)
      try have h154 : x152.toInt = x150.toInt + (1 : Int32).toInt := ci_add e153 (by omega) (by omega)
      refine va_iast hx hb hK.1 hP hD hS 3 1 rfl rfl (i := x147) (ix (by omega) (by omega)) dX12_goFrom_76 (fun H locs hP hD hS => ?_)
      obtain ⟨g155, e156⟩ : ∃ y : Nat → Int32, y = upd g130 x147.toNatClampNeg x152 := ⟨_, rfl⟩
      rw [← e156] at hP hD
      obtain ⟨hP, hD⟩ : PD D A [O12 a12 r12 v12_keptMany v12_done v12_sheets v12_holes v12_worms v12_laidMany v12_wanted x126 p2 v12_lines v12_marks v12_dots v12_madeIn v12_bound v12_places v12_maps v12_tapeMany v12_stories v12_base v12_at v12_ends v12_fault v12_opened v12_bodies v12_ran v12_ownKind v12_ownNumber, (cI κ (r12 12) 40 f12_wormSheets), (cI κ (r12 14) 8 f12_laid), (cI κ (r12 19) 64 g155)] H := ⟨hP, hD⟩
      refine lv_aload_n hx hb dX12_goFrom_77 rfl (lv_at hl 1 rfl) ?_
      refine va_get (D := D) (ci := 12) (v := .ref (r12 19)) (C := RX12) (T := TX12) (N := 63) hx hb hts w1 hown hK.1 hP 0 rfl rfl 19 (by decide) w7 (fun _ h9 => h9) rfl dX12_goFrom_78 ?_
      refine lv_bipush (v := 8) hx hb dX12_goFrom_81 (by decide) ?_
      refine lv_aload_n hx hb dX12_goFrom_83 rfl (lv_at hl 1 rfl) ?_
      refine va_get (D := D) (ci := 12) (v := .ref (r12 14)) (C := RX12) (T := TX12) (N := 63) hx hb hts w1 hown hK.1 hP 0 rfl rfl 14 (by decide) w4 (fun _ h9 => h9) rfl dX12_goFrom_84 ?_
      refine lv_iload_n hx hb dX12_goFrom_87 rfl (lv_at hl 0 rfl) ?_
      refine lv_iconst (v := 1) hx hb dX12_goFrom_88 (by decide) ?_
      refine lv_isub hx hb dX12_goFrom_89 ?_
      refine lv_topi (fun x157 e158 => ?_)
      try have h159 : x157.toInt = k129.toInt - (1 : Int32).toInt := ci_sub e158 (by omega) (by omega)
      refine va_iald hx hb hK.1 hP 2 1 rfl rfl (i := x157) (ix (by omega) (by omega)) dX12_goFrom_90 ?_
      refine lv_topi (fun x160 e161 => ?_)
      have h162 : 0 ≤ x160.toInt ∧ x160.toInt ≤ 7 := by rw [e161]; exact hf12_laid _
      refine lv_imul hx hb dX12_goFrom_91 ?_
      refine lv_topi (fun x163 e164 => ?_)
      try have h165 : x163.toInt = 8 * x160.toInt := ci_mulL (n := 8) (by decide) e164 (by omega) (by omega)
      refine lv_aload_n hx hb dX12_goFrom_92 rfl (lv_at hl 1 rfl) ?_
      refine va_get (D := D) (ci := 12) (v := .ref (r12 14)) (C := RX12) (T := TX12) (N := 63) hx hb hts w1 hown hK.1 hP 0 rfl rfl 14 (by decide) w4 (fun _ h9 => h9) rfl dX12_goFrom_93 ?_
      refine lv_iload_n hx hb dX12_goFrom_96 rfl (lv_at hl 0 rfl) ?_
      refine va_iald hx hb hK.1 hP 2 1 rfl rfl (i := k129) (ix (by omega) (by omega)) dX12_goFrom_97 ?_
      refine lv_topi (fun x166 e167 => ?_)
      have h168 : 0 ≤ x166.toInt ∧ x166.toInt ≤ 7 := by rw [e167]; exact hf12_laid _
      refine lv_iadd hx hb dX12_goFrom_98 ?_
      refine lv_topi (fun x169 e170 => ?_)
      try have h171 : x169.toInt = x163.toInt + x166.toInt := ci_add e170 (by omega) (by omega)
      refine lv_dup2_11 hx hb dX12_goFrom_99 rfl rfl ?_
      refine va_iald hx hb hK.1 hP 3 1 rfl rfl (i := x169) (ix (by omega) (by omega)) dX12_goFrom_100 ?_
      refine lv_topi (fun x172 e173 => ?_)
      refine lv_iconst (v := 1) hx hb dX12_goFrom_101 (by decide) ?_
      refine lv_iadd hx hb dX12_goFrom_102 ?_
      refine lv_topi (fun x174 e175 => ?_)
      try have h176 : x174.toInt = x172.toInt + (1 : Int32).toInt := ci_add e175 (by omega) (by omega)
      refine va_iast hx hb hK.1 hP hD hS 3 1 rfl rfl (i := x169) (ix (by omega) (by omega)) dX12_goFrom_103 (fun H locs hP hD hS => ?_)
      obtain ⟨g177, e178⟩ : ∃ y : Nat → Int32, y = upd g155 x169.toNatClampNeg x174 := ⟨_, rfl⟩
      rw [← e178] at hP hD
      obtain ⟨hP, hD⟩ : PD D A [O12 a12 r12 v12_keptMany v12_done v12_sheets v12_holes v12_worms v12_laidMany v12_wanted x126 p2 v12_lines v12_marks v12_dots v12_madeIn v12_bound v12_places v12_maps v12_tapeMany v12_stories v12_base v12_at v12_ends v12_fault v12_opened v12_bodies v12_ran v12_ownKind v12_ownNumber, (cI κ (r12 12) 40 f12_wormSheets), (cI κ (r12 14) 8 f12_laid), (cI κ (r12 19) 64 g177)] H := ⟨hP, hD⟩
      obtain ⟨x179, e180⟩ : ∃ y : Int32, y = k129 + 1 := ⟨_, rfl⟩
      refine lv_iinc (v := x179) (lv' := [(3, .int x179), (0, .ref a12), (1, .int p1), (2, .int p2)]) hx hb dX12_goFrom_104 hl (k := 0) rfl (by rw [e180]; rfl) (by decide) rfl (fun ls hl => ?_)
      try have h181 : x179.toInt = k129.toInt + (1 : Int32).toInt := ci_add e180 (by omega) (by omega)
      refine lv_goto (tgt := 42) hx hb dX12_goFrom_107 (by decide) ?_
      exact ih42 x179 g177 (by omega) (by omega) (by omega) _ _ hP hD hS _ hl
  exact lp42 ((v12_laidMany.toInt - (1 : Int32).toInt).toNat + 1) 1 f12_sides (by omega) (by omega) (by omega) _ _ hP hD hS _ hl
theorem k_X12_goFrom (l : Launch) (D : va_G) (κ : Nat → ClassId) (β : Nat) : ∀ d : Nat, C_X12_goFrom l D κ β d
  | 0 => by
    intro a12 r12 v12_keptMany v12_done v12_sheets v12_holes v12_worms v12_laidMany v12_wanted v12_orderMany v12_firstOrder v12_lines v12_marks v12_dots v12_madeIn v12_bound v12_places v12_maps v12_tapeMany v12_stories v12_base v12_at v12_ends v12_fault v12_opened v12_bodies v12_ran v12_ownKind v12_ownNumber f12_wormSheets f12_laid f12_sides sz p1 p2 i1 i2 i3 i4 i5 i6 i7 i8 i9 i10 i11 i12 i13 i14 i15 i16 hf12_laid i17 i18 i19
    exfalso
    omega
  | d + 1 => of_X12_goFrom l D κ β d (k_X12_goFrom l D κ β d)
set_option maxHeartbeats 4000000 in
set_option maxRecDepth 100000 in
theorem k_X12_findOrders (l : Launch) (D : va_G) (κ : Nat → ClassId) (β : Nat) (a12 : Nat) (r12 : Nat → Nat) (v12_keptMany : Int32) (v12_done : Int32) (v12_sheets : Int32) (v12_holes : Int32) (v12_worms : Int32) (v12_laidMany : Int32) (v12_wanted : Int32) (v12_orderMany : Int32) (v12_firstOrder : Int32) (v12_lines : Int32) (v12_marks : Int32) (v12_dots : Int32) (v12_madeIn : Int32) (v12_bound : Int32) (v12_places : Int32) (v12_maps : Int32) (v12_tapeMany : Int32) (v12_stories : Int32) (v12_base : Int32) (v12_at : Int32) (v12_ends : Int32) (v12_fault : Int32) (v12_opened : Int32) (v12_bodies : Int32) (v12_ran : Int32) (v12_ownKind : Int32) (v12_ownNumber : Int32) (f12_sheetOf : Nat → Int32) (f12_placeOf : Nat → Int32) (f12_sorted : Nat → Int32) (f12_wormOf : Nat → Int32) (f12_wormSheets : Nat → Int32) (f12_laid : Nat → Int32) (f12_sides : Nat → Int32) (sz : Nat) (p1 : Int32) (p2 : Int32) (i1 : Rg 0 40 v12_keptMany) (i2 : Rg 0 40 v12_done) (i3 : Rg 0 8 v12_sheets) (i4 : Rg 0 40 v12_holes) (i5 : Rg 0 40 v12_worms) (i6 : Rg 0 8 v12_laidMany) (i7 : Rg 0 8 v12_wanted) (i8 : Rg 0 20 v12_lines) (i9 : Rg 0 60 v12_marks) (i10 : Rg 0 40 v12_dots) (i11 : Rg 0 20 v12_places) (i12 : Rg 0 8 v12_maps) (i13 : Rg 0 120 v12_tapeMany) (i14 : Rg 0 6 v12_stories) (i15 : Rg 0 50 v12_bodies) (i16 : Rg 0 1000 v12_ran) (hf12_sorted : ∀ j : Nat, 0 ≤ (f12_sorted j).toInt ∧ (f12_sorted j).toInt ≤ 39) (hf12_laid : ∀ j : Nat, 0 ≤ (f12_laid j).toInt ∧ (f12_laid j).toInt ≤ 7) (i17 : v12_done.toInt ≤ v12_keptMany.toInt) (i18 : p2.toInt < 0 ∨ 1 ≤ v12_sheets.toInt) : Met l yX12_findOrders wsX12_findOrders ({ frames := 10, cells := 0, slots := 0, locals := 280 } : Room) (PcK D κ β [O12 a12 r12 v12_keptMany v12_done v12_sheets v12_holes v12_worms v12_laidMany v12_wanted v12_orderMany v12_firstOrder v12_lines v12_marks v12_dots v12_madeIn v12_bound v12_places v12_maps v12_tapeMany v12_stories v12_base v12_at v12_ends v12_fault v12_opened v12_bodies v12_ran v12_ownKind v12_ownNumber, (cI κ (r12 8) 40 f12_sheetOf), (cI κ (r12 9) 40 f12_placeOf), (cI κ (r12 10) 40 f12_sorted), (cI κ (r12 11) 40 f12_wormOf), (cI κ (r12 12) 40 f12_wormSheets), (cI κ (r12 14) 8 f12_laid), (cI κ (r12 19) 64 f12_sides)] sz [.ref a12, .int p1, .int p2]) (QvK D (fun (u : Int32 × Int32 × Int32 × Int32 × Int32 × (Nat → Int32) × (Nat → Int32) × (Nat → Int32) × (Nat → Int32) × (Nat → Int32)) => (0 ≤ u.1.toInt ∧ u.1.toInt ≤ 40) ∧ (0 ≤ u.2.1.toInt ∧ u.2.1.toInt ≤ 8) ∧ (0 ≤ u.2.2.1.toInt ∧ u.2.2.1.toInt ≤ 8) ∧ (∀ j : Nat, 0 ≤ (u.2.2.2.2.2.1 j).toInt ∧ (u.2.2.2.2.2.1 j).toInt ≤ 39) ∧ (∀ j : Nat, 0 ≤ (u.2.2.2.2.2.2.2.2.1 j).toInt ∧ (u.2.2.2.2.2.2.2.2.1 j).toInt ≤ 7)) (fun (u : Int32 × Int32 × Int32 × Int32 × Int32 × (Nat → Int32) × (Nat → Int32) × (Nat → Int32) × (Nat → Int32) × (Nat → Int32)) => [O12 a12 r12 v12_keptMany v12_done v12_sheets v12_holes u.1 u.2.1 u.2.2.1 u.2.2.2.1 u.2.2.2.2.1 v12_lines v12_marks v12_dots v12_madeIn v12_bound v12_places v12_maps v12_tapeMany v12_stories v12_base v12_at v12_ends v12_fault v12_opened v12_bodies v12_ran v12_ownKind v12_ownNumber, (cI κ (r12 8) 40 f12_sheetOf), (cI κ (r12 9) 40 f12_placeOf), (cI κ (r12 10) 40 u.2.2.2.2.2.1), (cI κ (r12 11) 40 u.2.2.2.2.2.2.1), (cI κ (r12 12) 40 u.2.2.2.2.2.2.2.1), (cI κ (r12 14) 8 u.2.2.2.2.2.2.2.2.1), (cI κ (r12 19) 64 u.2.2.2.2.2.2.2.2.2)]) [O12 a12 r12 v12_keptMany v12_done v12_sheets v12_holes v12_worms v12_laidMany v12_wanted v12_orderMany v12_firstOrder v12_lines v12_marks v12_dots v12_madeIn v12_bound v12_places v12_maps v12_tapeMany v12_stories v12_base v12_at v12_ends v12_fault v12_opened v12_bodies v12_ran v12_ownKind v12_ownNumber, (cI κ (r12 8) 40 f12_sheetOf), (cI κ (r12 9) 40 f12_placeOf), (cI κ (r12 10) 40 f12_sorted), (cI κ (r12 11) 40 f12_wormOf), (cI κ (r12 12) 40 f12_wormSheets), (cI κ (r12 14) 8 f12_laid), (cI κ (r12 19) 64 f12_sides)] sz) 0 0 (va_A [O12 a12 r12 v12_keptMany v12_done v12_sheets v12_holes v12_worms v12_laidMany v12_wanted v12_orderMany v12_firstOrder v12_lines v12_marks v12_dots v12_madeIn v12_bound v12_places v12_maps v12_tapeMany v12_stories v12_base v12_at v12_ends v12_fault v12_opened v12_bodies v12_ran v12_ownKind v12_ownNumber, (cI κ (r12 8) 40 f12_sheetOf), (cI κ (r12 9) 40 f12_placeOf), (cI κ (r12 10) 40 f12_sorted), (cI κ (r12 11) 40 f12_wormOf), (cI κ (r12 12) 40 f12_wormSheets), (cI κ (r12 14) 8 f12_laid), (cI κ (r12 19) 64 f12_sides)] sz) := by
  refine ofK_v (cc := cX12_findOrders) (maxL := 4) (own := RX12) (by decide) rfl rfl (Nat.le_of_ble_eq_true rfl) ?_
  intro p e s m args below meth c Q A ls hsz hx hb hml hts hown hK hA hAB hP hD hl hname ret
  have hS : va_S A s.heap s.heap [] := va_S.rf
  have hl : lv_has ls 4 [(0, .ref a12), (1, .int p1), (2, .int p2)] := hl
  have w0 := hts (.fieldLink RX12 179 "OlderSkinModel" "orderMany" "I") (List.mem_of_getElem? (i := 2) rfl)
  have w1 := (fun w h => List.mem_cons_of_mem _ (List.mem_append_right _ h) : ∀ w ∈ u_ws RX12 TX12 63, w ∈ wsX12_findOrders)
  have w2 := hts (.fieldLink RX12 182 "OlderSkinModel" "firstOrder" "I") (List.mem_of_getElem? (i := 3) rfl)
  have w3 := hts (.fieldLink RX12 173 "OlderSkinModel" "laidMany" "I") (List.mem_of_getElem? (i := 4) rfl)
  have w4 := hts (.fieldLink RX12 133 "OlderSkinModel" "sheets" "I") (List.mem_of_getElem? (i := 5) rfl)
  have w5 := hts (.fieldLink RX12 176 "OlderSkinModel" "wanted" "I") (List.mem_of_getElem? (i := 6) rfl)
  have w6 := hts (.fieldLink RX12 40 "OlderSkinModel" "sides" "[I") (List.mem_of_getElem? (i := 1) rfl)
  have l0 : (0 : Int32).toInt = 0 := by decide
  have l1 : (64 : Int32).toInt = 64 := by decide
  have l2 : (1 : Int32).toInt = 1 := by decide
  have i3 : 0 ≤ v12_sheets.toInt ∧ v12_sheets.toInt ≤ 8 := i3
  have i6 : 0 ≤ v12_laidMany.toInt ∧ v12_laidMany.toInt ≤ 8 := i6
  have i7 : 0 ≤ v12_wanted.toInt ∧ v12_wanted.toInt ≤ 8 := i7
  refine lv_aload_n hx hb dX12_findOrders_0 rfl (lv_at hl 0 rfl) ?_
  refine lv_iload_n hx hb dX12_findOrders_1 rfl (lv_at hl 1 rfl) ?_
  refine lv_iload_n hx hb dX12_findOrders_2 rfl (lv_at hl 2 rfl) ?_
  refine kcm_v hA hAB hP hD hS [true, true, true, true, true, true, false, false] rfl (fun _ => rfl) (fun hPc hDc => va_runV (As := [.int p1, .int p2]) (rest := []) ⟨hx, hb, hml, hown, hts⟩ (k_X12_findWorms l D κ β a12 r12 v12_keptMany v12_done v12_sheets v12_holes v12_worms v12_laidMany v12_wanted v12_orderMany v12_firstOrder v12_lines v12_marks v12_dots v12_madeIn v12_bound v12_places v12_maps v12_tapeMany v12_stories v12_base v12_at v12_ends v12_fault v12_opened v12_bodies v12_ran v12_ownKind v12_ownNumber f12_sheetOf f12_placeOf f12_sorted f12_wormOf f12_wormSheets s.heap.size p1 p2 i1 i2 i3 i4 i5 i6 i7 i8 i9 i10 i11 i12 i13 i14 i15 i16 hf12_sorted i17) (cwV 2 hts gX12_findOrders_X12_findWorms rfl rfl rfl (by decide +kernel) ⟨Nat.le_of_ble_eq_true rfl, Nat.le_of_ble_eq_true rfl⟩) (pk_V hK hS hAB hPc hDc 0 (ci := 12) rfl rfl rfl) rfl rfl hl.1 rfl (lv_room (Nat.le_of_ble_eq_true rfl)) dX12_findOrders_3 ⟨Nat.le_of_ble_eq_true rfl, Nat.le_of_ble_eq_true rfl⟩) (fun u5 H locs hw hPD hS => ?_)
  obtain ⟨x1, g2, g3, g4⟩ := u5
  obtain ⟨h6, h7⟩ : (Rg 0 40 x1) ∧ (∀ j : Nat, 0 ≤ (g2 j).toInt ∧ (g2 j).toInt ≤ 39) := hw
  obtain ⟨hP, hD⟩ : PD D A [O12 a12 r12 v12_keptMany v12_done v12_sheets v12_holes x1 v12_laidMany v12_wanted v12_orderMany v12_firstOrder v12_lines v12_marks v12_dots v12_madeIn v12_bound v12_places v12_maps v12_tapeMany v12_stories v12_base v12_at v12_ends v12_fault v12_opened v12_bodies v12_ran v12_ownKind v12_ownNumber, (cI κ (r12 8) 40 f12_sheetOf), (cI κ (r12 9) 40 f12_placeOf), (cI κ (r12 10) 40 g2), (cI κ (r12 11) 40 g3), (cI κ (r12 12) 40 g4), (cI κ (r12 14) 8 f12_laid), (cI κ (r12 19) 64 f12_sides)] H := hPD
  refine lv_iconst (v := 0) hx hb dX12_findOrders_6 (by decide) ?_
  refine lv_istore_n (lv' := [(3, .int 0), (0, .ref a12), (1, .int p1), (2, .int p2)]) hx hb dX12_findOrders_7 rfl hl (by decide) rfl (fun ls hl => ?_)
  have lp8 : ∀ (n8 : Nat) (k8 : Int32) (g9 : Nat → Int32), (0 ≤ k8.toInt) → (64 - k8.toInt).toNat < n8 → ∀ (H : Heap) (locs : List Loc), va_P D vwCl [O12 a12 r12 v12_keptMany v12_done v12_sheets v12_holes x1 v12_laidMany v12_wanted v12_orderMany v12_firstOrder v12_lines v12_marks v12_dots v12_madeIn v12_bound v12_places v12_maps v12_tapeMany v12_stories v12_base v12_at v12_ends v12_fault v12_opened v12_bodies v12_ran v12_ownKind v12_ownNumber, (cI κ (r12 8) 40 f12_sheetOf), (cI κ (r12 9) 40 f12_placeOf), (cI κ (r12 10) 40 g2), (cI κ (r12 11) 40 g3), (cI κ (r12 12) 40 g4), (cI κ (r12 14) 8 f12_laid), (cI κ (r12 19) 64 g9)] H → va_D A [O12 a12 r12 v12_keptMany v12_done v12_sheets v12_holes x1 v12_laidMany v12_wanted v12_orderMany v12_firstOrder v12_lines v12_marks v12_dots v12_madeIn v12_bound v12_places v12_maps v12_tapeMany v12_stories v12_base v12_at v12_ends v12_fault v12_opened v12_bodies v12_ran v12_ownKind v12_ownNumber, (cI κ (r12 8) 40 f12_sheetOf), (cI κ (r12 9) 40 f12_placeOf), (cI κ (r12 10) 40 g2), (cI κ (r12 11) 40 g3), (cI κ (r12 12) 40 g4), (cI κ (r12 14) 8 f12_laid), (cI κ (r12 19) 64 g9)] → va_S A s.heap H locs → ∀ ls : Array Slot, lv_has ls 4 [(3, .int k8), (0, .ref a12), (1, .int p1), (2, .int p2)] → W p l e ({ frames := 10, cells := 0, slots := 0, locals := 280 } : Room) s m args below meth c H locs 0 0 Q (F0 m 8 ls []) := by
    intro n8
    induction n8 with
    | zero =>
      intro k8 g9 h10 m11
      exact absurd m11 (Nat.not_lt_zero _)
    | succ n8 ih8 =>
      intro k8 g9 h10 m11 H locs hP hD hS ls hl
      refine lv_iload_n hx hb dX12_findOrders_8 rfl (lv_at hl 0 rfl) ?_
      refine lv_bipush (v := 64) hx hb dX12_findOrders_9 (by decide) ?_
      refine lv_icmp_ge (tgt := 27) hx hb dX12_findOrders_11 (by decide) (fun c12 => ?_) (fun c12 => ?_)
      · have c12 := ci_le c12
        refine lv_aload_n hx hb dX12_findOrders_27 rfl (lv_at hl 1 rfl) ?_
        refine lv_iconst (v := 0) hx hb dX12_findOrders_28 (by decide) ?_
        refine va_put (D := D) (ci := 12) (v := .int 0) (ty := .int) (C := RX12) (T := TX12) (N := 63) hx hb hts w1 tyX12 tyX12_ok nmX12 hown hK.1 hP hD hS 0 rfl rfl 17 (by decide) w0 (fun _ h9 => h9) rfl (by decide +kernel) rfl rfl (Nat.le_of_ble_eq_true rfl) dX12_findOrders_29 (fun H locs hP hD hS => ?_)
        obtain ⟨hP, hD⟩ : PD D A [O12 a12 r12 v12_keptMany v12_done v12_sheets v12_holes x1 v12_laidMany v12_wanted 0 v12_firstOrder v12_lines v12_marks v12_dots v12_madeIn v12_bound v12_places v12_maps v12_tapeMany v12_stories v12_base v12_at v12_ends v12_fault v12_opened v12_bodies v12_ran v12_ownKind v12_ownNumber, (cI κ (r12 8) 40 f12_sheetOf), (cI κ (r12 9) 40 f12_placeOf), (cI κ (r12 10) 40 g2), (cI κ (r12 11) 40 g3), (cI κ (r12 12) 40 g4), (cI κ (r12 14) 8 f12_laid), (cI κ (r12 19) 64 g9)] H := ⟨hP, hD⟩
        refine lv_aload_n hx hb dX12_findOrders_32 rfl (lv_at hl 1 rfl) ?_
        refine lv_iconst (v := 0) hx hb dX12_findOrders_33 (by decide) ?_
        refine va_put (D := D) (ci := 12) (v := .int 0) (ty := .int) (C := RX12) (T := TX12) (N := 63) hx hb hts w1 tyX12 tyX12_ok nmX12 hown hK.1 hP hD hS 0 rfl rfl 18 (by decide) w2 (fun _ h9 => h9) rfl (by decide +kernel) rfl rfl (Nat.le_of_ble_eq_true rfl) dX12_findOrders_34 (fun H locs hP hD hS => ?_)
        obtain ⟨hP, hD⟩ : PD D A [O12 a12 r12 v12_keptMany v12_done v12_sheets v12_holes x1 v12_laidMany v12_wanted 0 0 v12_lines v12_marks v12_dots v12_madeIn v12_bound v12_places v12_maps v12_tapeMany v12_stories v12_base v12_at v12_ends v12_fault v12_opened v12_bodies v12_ran v12_ownKind v12_ownNumber, (cI κ (r12 8) 40 f12_sheetOf), (cI κ (r12 9) 40 f12_placeOf), (cI κ (r12 10) 40 g2), (cI κ (r12 11) 40 g3), (cI κ (r12 12) 40 g4), (cI κ (r12 14) 8 f12_laid), (cI κ (r12 19) 64 g9)] H := ⟨hP, hD⟩
        refine lv_aload_n hx hb dX12_findOrders_37 rfl (lv_at hl 1 rfl) ?_
        refine lv_iconst (v := 0) hx hb dX12_findOrders_38 (by decide) ?_
        refine va_put (D := D) (ci := 12) (v := .int 0) (ty := .int) (C := RX12) (T := TX12) (N := 63) hx hb hts w1 tyX12 tyX12_ok nmX12 hown hK.1 hP hD hS 0 rfl rfl 15 (by decide) w3 (fun _ h9 => h9) rfl (by decide +kernel) rfl rfl (Nat.le_of_ble_eq_true rfl) dX12_findOrders_39 (fun H locs hP hD hS => ?_)
        obtain ⟨hP, hD⟩ : PD D A [O12 a12 r12 v12_keptMany v12_done v12_sheets v12_holes x1 0 v12_wanted 0 0 v12_lines v12_marks v12_dots v12_madeIn v12_bound v12_places v12_maps v12_tapeMany v12_stories v12_base v12_at v12_ends v12_fault v12_opened v12_bodies v12_ran v12_ownKind v12_ownNumber, (cI κ (r12 8) 40 f12_sheetOf), (cI κ (r12 9) 40 f12_placeOf), (cI κ (r12 10) 40 g2), (cI κ (r12 11) 40 g3), (cI κ (r12 12) 40 g4), (cI κ (r12 14) 8 f12_laid), (cI κ (r12 19) 64 g9)] H := ⟨hP, hD⟩
        have h13 : 0 ≤ (0 : Int32).toInt ∧ (0 : Int32).toInt ≤ 8 := by omega
        refine lv_aload_n hx hb dX12_findOrders_42 rfl (lv_at hl 1 rfl) ?_
        refine lv_iload_n hx hb dX12_findOrders_43 rfl (lv_at hl 3 rfl) ?_
        refine lv_if_ge (tgt := 54) hx hb dX12_findOrders_44 (by decide) (fun c14 => ?_) (fun c14 => ?_)
        · have c14 := ci_le c14
          refine lv_aload_n hx hb dX12_findOrders_54 rfl (lv_at hl 1 rfl) ?_
          refine va_get (D := D) (ci := 12) (v := .int v12_sheets) (C := RX12) (T := TX12) (N := 63) hx hb hts w1 hown hK.1 hP 0 rfl rfl 6 (by decide) w4 (fun _ h9 => h9) rfl dX12_findOrders_55 ?_
          refine lv_iconst (v := 1) hx hb dX12_findOrders_58 (by decide) ?_
          refine lv_isub hx hb dX12_findOrders_59 ?_
          refine lv_topi (fun x15 e16 => ?_)
          try have h17 : x15.toInt = v12_sheets.toInt - (1 : Int32).toInt := ci_sub e16 (by omega) (by omega)
          refine va_put (D := D) (ci := 12) (v := .int x15) (ty := .int) (C := RX12) (T := TX12) (N := 63) hx hb hts w1 tyX12 tyX12_ok nmX12 hown hK.1 hP hD hS 0 rfl rfl 16 (by decide) w5 (fun _ h9 => h9) rfl (by decide +kernel) rfl rfl (Nat.le_of_ble_eq_true rfl) dX12_findOrders_60 (fun H locs hP hD hS => ?_)
          obtain ⟨hP, hD⟩ : PD D A [O12 a12 r12 v12_keptMany v12_done v12_sheets v12_holes x1 0 x15 0 0 v12_lines v12_marks v12_dots v12_madeIn v12_bound v12_places v12_maps v12_tapeMany v12_stories v12_base v12_at v12_ends v12_fault v12_opened v12_bodies v12_ran v12_ownKind v12_ownNumber, (cI κ (r12 8) 40 f12_sheetOf), (cI κ (r12 9) 40 f12_placeOf), (cI κ (r12 10) 40 g2), (cI κ (r12 11) 40 g3), (cI κ (r12 12) 40 g4), (cI κ (r12 14) 8 f12_laid), (cI κ (r12 19) 64 g9)] H := ⟨hP, hD⟩
          have h18 : 0 ≤ x15.toInt ∧ x15.toInt ≤ 8 := by omega
          refine lv_aload_n hx hb dX12_findOrders_63 rfl (lv_at hl 1 rfl) ?_
          refine lv_iload_n hx hb dX12_findOrders_64 rfl (lv_at hl 3 rfl) ?_
          refine lv_if_ge (tgt := 72) hx hb dX12_findOrders_65 (by decide) (fun c19 => ?_) (fun c19 => ?_)
          · have c19 := ci_le c19
            refine lv_iconst (v := 1) hx hb dX12_findOrders_72 (by decide) ?_
            refine lv_iload_n hx hb dX12_findOrders_73 rfl (lv_at hl 3 rfl) ?_
            refine lv_ishl hx hb dX12_findOrders_74 ?_
            refine lv_topi (fun x20 e21 => ?_)
            refine lv_iconst (v := 0) hx hb dX12_findOrders_75 (by decide) ?_
            refine kcm_v hA hAB hP hD hS [true, false, false, false, false, true, true, true] rfl (fun _ => rfl) (fun hPc hDc => va_runV (As := [.int x20, .int 0]) (rest := []) ⟨hx, hb, hml, hown, hts⟩ (k_X12_goFrom l D κ β 9 a12 r12 v12_keptMany v12_done v12_sheets v12_holes x1 0 x15 0 0 v12_lines v12_marks v12_dots v12_madeIn v12_bound v12_places v12_maps v12_tapeMany v12_stories v12_base v12_at v12_ends v12_fault v12_opened v12_bodies v12_ran v12_ownKind v12_ownNumber g4 f12_laid g9 H.size x20 0 i1 i2 i3 i4 h6 h13 h18 i8 i9 i10 i11 i12 i13 i14 i15 i16 hf12_laid i17 (by omega) (by omega)) (cwV 2 hts gX12_findOrders_X12_goFrom rfl rfl rfl (by decide +kernel) ⟨Nat.le_of_ble_eq_true rfl, Nat.le_of_ble_eq_true rfl⟩) (pk_V hK hS hAB hPc hDc 0 (ci := 12) rfl rfl rfl) rfl rfl hl.1 rfl (lv_room (Nat.le_of_ble_eq_true rfl)) dX12_findOrders_76 ⟨Nat.le_of_ble_eq_true rfl, Nat.le_of_ble_eq_true rfl⟩) (fun u27 H locs hw hPD hS => ?_)
            obtain ⟨x22, x23, x24, g25, g26⟩ := u27
            obtain ⟨h28, h29, h30⟩ : (0 ≤ x22.toInt ∧ x22.toInt ≤ 8) ∧ (∀ j : Nat, 0 ≤ (g25 j).toInt ∧ (g25 j).toInt ≤ 7) ∧ (x22.toInt = (0 : Int32).toInt) := hw
            obtain ⟨hP, hD⟩ : PD D A [O12 a12 r12 v12_keptMany v12_done v12_sheets v12_holes x1 x22 x15 x23 x24 v12_lines v12_marks v12_dots v12_madeIn v12_bound v12_places v12_maps v12_tapeMany v12_stories v12_base v12_at v12_ends v12_fault v12_opened v12_bodies v12_ran v12_ownKind v12_ownNumber, (cI κ (r12 8) 40 f12_sheetOf), (cI κ (r12 9) 40 f12_placeOf), (cI κ (r12 10) 40 g2), (cI κ (r12 11) 40 g3), (cI κ (r12 12) 40 g4), (cI κ (r12 14) 8 g25), (cI κ (r12 19) 64 g26)] H := hPD
            have hpo : (0 ≤ x1.toInt ∧ x1.toInt ≤ 40) ∧ (0 ≤ x22.toInt ∧ x22.toInt ≤ 8) ∧ (0 ≤ x15.toInt ∧ x15.toInt ≤ 8) ∧ (∀ j : Nat, 0 ≤ (g2 j).toInt ∧ (g2 j).toInt ≤ 39) ∧ (∀ j : Nat, 0 ≤ (g25 j).toInt ∧ (g25 j).toInt ≤ 7) := ⟨h6, h28, h18, h7, h29⟩
            exact ret _ _ _ _ (x1, x22, x15, x23, x24, g2, g3, g4, g25, g26) dX12_findOrders_79 hpo hP hD hS
          have c19 := ci_nle c19
          refine lv_iconst (v := 0) hx hb dX12_findOrders_68 (by decide) ?_
          refine lv_goto (tgt := 75) hx hb dX12_findOrders_69 (by decide) ?_
          refine lv_iconst (v := 0) hx hb dX12_findOrders_75 (by decide) ?_
          refine kcm_v hA hAB hP hD hS [true, false, false, false, false, true, true, true] rfl (fun _ => rfl) (fun hPc hDc => va_runV (As := [.int 0, .int 0]) (rest := []) ⟨hx, hb, hml, hown, hts⟩ (k_X12_goFrom l D κ β 9 a12 r12 v12_keptMany v12_done v12_sheets v12_holes x1 0 x15 0 0 v12_lines v12_marks v12_dots v12_madeIn v12_bound v12_places v12_maps v12_tapeMany v12_stories v12_base v12_at v12_ends v12_fault v12_opened v12_bodies v12_ran v12_ownKind v12_ownNumber g4 f12_laid g9 H.size 0 0 i1 i2 i3 i4 h6 h13 h18 i8 i9 i10 i11 i12 i13 i14 i15 i16 hf12_laid i17 (by omega) (by omega)) (cwV 2 hts gX12_findOrders_X12_goFrom rfl rfl rfl (by decide +kernel) ⟨Nat.le_of_ble_eq_true rfl, Nat.le_of_ble_eq_true rfl⟩) (pk_V hK hS hAB hPc hDc 0 (ci := 12) rfl rfl rfl) rfl rfl hl.1 rfl (lv_room (Nat.le_of_ble_eq_true rfl)) dX12_findOrders_76 ⟨Nat.le_of_ble_eq_true rfl, Nat.le_of_ble_eq_true rfl⟩) (fun u36 H locs hw hPD hS => ?_)
          obtain ⟨x31, x32, x33, g34, g35⟩ := u36
          obtain ⟨h37, h38, h39⟩ : (0 ≤ x31.toInt ∧ x31.toInt ≤ 8) ∧ (∀ j : Nat, 0 ≤ (g34 j).toInt ∧ (g34 j).toInt ≤ 7) ∧ (x31.toInt = (0 : Int32).toInt) := hw
          obtain ⟨hP, hD⟩ : PD D A [O12 a12 r12 v12_keptMany v12_done v12_sheets v12_holes x1 x31 x15 x32 x33 v12_lines v12_marks v12_dots v12_madeIn v12_bound v12_places v12_maps v12_tapeMany v12_stories v12_base v12_at v12_ends v12_fault v12_opened v12_bodies v12_ran v12_ownKind v12_ownNumber, (cI κ (r12 8) 40 f12_sheetOf), (cI κ (r12 9) 40 f12_placeOf), (cI κ (r12 10) 40 g2), (cI κ (r12 11) 40 g3), (cI κ (r12 12) 40 g4), (cI κ (r12 14) 8 g34), (cI κ (r12 19) 64 g35)] H := hPD
          have hpo : (0 ≤ x1.toInt ∧ x1.toInt ≤ 40) ∧ (0 ≤ x31.toInt ∧ x31.toInt ≤ 8) ∧ (0 ≤ x15.toInt ∧ x15.toInt ≤ 8) ∧ (∀ j : Nat, 0 ≤ (g2 j).toInt ∧ (g2 j).toInt ≤ 39) ∧ (∀ j : Nat, 0 ≤ (g34 j).toInt ∧ (g34 j).toInt ≤ 7) := ⟨h6, h37, h18, h7, h38⟩
          exact ret _ _ _ _ (x1, x31, x15, x32, x33, g2, g3, g4, g34, g35) dX12_findOrders_79 hpo hP hD hS
        have c14 := ci_nle c14
        refine lv_aload_n hx hb dX12_findOrders_47 rfl (lv_at hl 1 rfl) ?_
        refine va_get (D := D) (ci := 12) (v := .int v12_sheets) (C := RX12) (T := TX12) (N := 63) hx hb hts w1 hown hK.1 hP 0 rfl rfl 6 (by decide) w4 (fun _ h9 => h9) rfl dX12_findOrders_48 ?_
        refine lv_goto (tgt := 60) hx hb dX12_findOrders_51 (by decide) ?_
        refine va_put (D := D) (ci := 12) (v := .int v12_sheets) (ty := .int) (C := RX12) (T := TX12) (N := 63) hx hb hts w1 tyX12 tyX12_ok nmX12 hown hK.1 hP hD hS 0 rfl rfl 16 (by decide) w5 (fun _ h9 => h9) rfl (by decide +kernel) rfl rfl (Nat.le_of_ble_eq_true rfl) dX12_findOrders_60 (fun H locs hP hD hS => ?_)
        obtain ⟨hP, hD⟩ : PD D A [O12 a12 r12 v12_keptMany v12_done v12_sheets v12_holes x1 0 v12_sheets 0 0 v12_lines v12_marks v12_dots v12_madeIn v12_bound v12_places v12_maps v12_tapeMany v12_stories v12_base v12_at v12_ends v12_fault v12_opened v12_bodies v12_ran v12_ownKind v12_ownNumber, (cI κ (r12 8) 40 f12_sheetOf), (cI κ (r12 9) 40 f12_placeOf), (cI κ (r12 10) 40 g2), (cI κ (r12 11) 40 g3), (cI κ (r12 12) 40 g4), (cI κ (r12 14) 8 f12_laid), (cI κ (r12 19) 64 g9)] H := ⟨hP, hD⟩
        refine lv_aload_n hx hb dX12_findOrders_63 rfl (lv_at hl 1 rfl) ?_
        refine lv_iload_n hx hb dX12_findOrders_64 rfl (lv_at hl 3 rfl) ?_
        refine lv_if_ge (tgt := 72) hx hb dX12_findOrders_65 (by decide) (fun c40 => ?_) (fun c40 => ?_)
        · have c40 := ci_le c40
          refine lv_iconst (v := 1) hx hb dX12_findOrders_72 (by decide) ?_
          refine lv_iload_n hx hb dX12_findOrders_73 rfl (lv_at hl 3 rfl) ?_
          refine lv_ishl hx hb dX12_findOrders_74 ?_
          refine lv_topi (fun x41 e42 => ?_)
          refine lv_iconst (v := 0) hx hb dX12_findOrders_75 (by decide) ?_
          refine kcm_v hA hAB hP hD hS [true, false, false, false, false, true, true, true] rfl (fun _ => rfl) (fun hPc hDc => va_runV (As := [.int x41, .int 0]) (rest := []) ⟨hx, hb, hml, hown, hts⟩ (k_X12_goFrom l D κ β 9 a12 r12 v12_keptMany v12_done v12_sheets v12_holes x1 0 v12_sheets 0 0 v12_lines v12_marks v12_dots v12_madeIn v12_bound v12_places v12_maps v12_tapeMany v12_stories v12_base v12_at v12_ends v12_fault v12_opened v12_bodies v12_ran v12_ownKind v12_ownNumber g4 f12_laid g9 H.size x41 0 i1 i2 i3 i4 h6 h13 i3 i8 i9 i10 i11 i12 i13 i14 i15 i16 hf12_laid i17 (by omega) (by omega)) (cwV 2 hts gX12_findOrders_X12_goFrom rfl rfl rfl (by decide +kernel) ⟨Nat.le_of_ble_eq_true rfl, Nat.le_of_ble_eq_true rfl⟩) (pk_V hK hS hAB hPc hDc 0 (ci := 12) rfl rfl rfl) rfl rfl hl.1 rfl (lv_room (Nat.le_of_ble_eq_true rfl)) dX12_findOrders_76 ⟨Nat.le_of_ble_eq_true rfl, Nat.le_of_ble_eq_true rfl⟩) (fun u48 H locs hw hPD hS => ?_)
          obtain ⟨x43, x44, x45, g46, g47⟩ := u48
          obtain ⟨h49, h50, h51⟩ : (0 ≤ x43.toInt ∧ x43.toInt ≤ 8) ∧ (∀ j : Nat, 0 ≤ (g46 j).toInt ∧ (g46 j).toInt ≤ 7) ∧ (x43.toInt = (0 : Int32).toInt) := hw
          obtain ⟨hP, hD⟩ : PD D A [O12 a12 r12 v12_keptMany v12_done v12_sheets v12_holes x1 x43 v12_sheets x44 x45 v12_lines v12_marks v12_dots v12_madeIn v12_bound v12_places v12_maps v12_tapeMany v12_stories v12_base v12_at v12_ends v12_fault v12_opened v12_bodies v12_ran v12_ownKind v12_ownNumber, (cI κ (r12 8) 40 f12_sheetOf), (cI κ (r12 9) 40 f12_placeOf), (cI κ (r12 10) 40 g2), (cI κ (r12 11) 40 g3), (cI κ (r12 12) 40 g4), (cI κ (r12 14) 8 g46), (cI κ (r12 19) 64 g47)] H := hPD
          have hpo : (0 ≤ x1.toInt ∧ x1.toInt ≤ 40) ∧ (0 ≤ x43.toInt ∧ x43.toInt ≤ 8) ∧ (0 ≤ v12_sheets.toInt ∧ v12_sheets.toInt ≤ 8) ∧ (∀ j : Nat, 0 ≤ (g2 j).toInt ∧ (g2 j).toInt ≤ 39) ∧ (∀ j : Nat, 0 ≤ (g46 j).toInt ∧ (g46 j).toInt ≤ 7) := ⟨h6, h49, i3, h7, h50⟩
          exact ret _ _ _ _ (x1, x43, v12_sheets, x44, x45, g2, g3, g4, g46, g47) dX12_findOrders_79 hpo hP hD hS
        have c40 := ci_nle c40
        refine lv_iconst (v := 0) hx hb dX12_findOrders_68 (by decide) ?_
        refine lv_goto (tgt := 75) hx hb dX12_findOrders_69 (by decide) ?_
        refine lv_iconst (v := 0) hx hb dX12_findOrders_75 (by decide) ?_
        refine kcm_v hA hAB hP hD hS [true, false, false, false, false, true, true, true] rfl (fun _ => rfl) (fun hPc hDc => va_runV (As := [.int 0, .int 0]) (rest := []) ⟨hx, hb, hml, hown, hts⟩ (k_X12_goFrom l D κ β 9 a12 r12 v12_keptMany v12_done v12_sheets v12_holes x1 0 v12_sheets 0 0 v12_lines v12_marks v12_dots v12_madeIn v12_bound v12_places v12_maps v12_tapeMany v12_stories v12_base v12_at v12_ends v12_fault v12_opened v12_bodies v12_ran v12_ownKind v12_ownNumber g4 f12_laid g9 H.size 0 0 i1 i2 i3 i4 h6 h13 i3 i8 i9 i10 i11 i12 i13 i14 i15 i16 hf12_laid i17 (by omega) (by omega)) (cwV 2 hts gX12_findOrders_X12_goFrom rfl rfl rfl (by decide +kernel) ⟨Nat.le_of_ble_eq_true rfl, Nat.le_of_ble_eq_true rfl⟩) (pk_V hK hS hAB hPc hDc 0 (ci := 12) rfl rfl rfl) rfl rfl hl.1 rfl (lv_room (Nat.le_of_ble_eq_true rfl)) dX12_findOrders_76 ⟨Nat.le_of_ble_eq_true rfl, Nat.le_of_ble_eq_true rfl⟩) (fun u57 H locs hw hPD hS => ?_)
        obtain ⟨x52, x53, x54, g55, g56⟩ := u57
        obtain ⟨h58, h59, h60⟩ : (0 ≤ x52.toInt ∧ x52.toInt ≤ 8) ∧ (∀ j : Nat, 0 ≤ (g55 j).toInt ∧ (g55 j).toInt ≤ 7) ∧ (x52.toInt = (0 : Int32).toInt) := hw
        obtain ⟨hP, hD⟩ : PD D A [O12 a12 r12 v12_keptMany v12_done v12_sheets v12_holes x1 x52 v12_sheets x53 x54 v12_lines v12_marks v12_dots v12_madeIn v12_bound v12_places v12_maps v12_tapeMany v12_stories v12_base v12_at v12_ends v12_fault v12_opened v12_bodies v12_ran v12_ownKind v12_ownNumber, (cI κ (r12 8) 40 f12_sheetOf), (cI κ (r12 9) 40 f12_placeOf), (cI κ (r12 10) 40 g2), (cI κ (r12 11) 40 g3), (cI κ (r12 12) 40 g4), (cI κ (r12 14) 8 g55), (cI κ (r12 19) 64 g56)] H := hPD
        have hpo : (0 ≤ x1.toInt ∧ x1.toInt ≤ 40) ∧ (0 ≤ x52.toInt ∧ x52.toInt ≤ 8) ∧ (0 ≤ v12_sheets.toInt ∧ v12_sheets.toInt ≤ 8) ∧ (∀ j : Nat, 0 ≤ (g2 j).toInt ∧ (g2 j).toInt ≤ 39) ∧ (∀ j : Nat, 0 ≤ (g55 j).toInt ∧ (g55 j).toInt ≤ 7) := ⟨h6, h58, i3, h7, h59⟩
        exact ret _ _ _ _ (x1, x52, v12_sheets, x53, x54, g2, g3, g4, g55, g56) dX12_findOrders_79 hpo hP hD hS
      have c12 := ci_nle c12
      refine lv_aload_n hx hb dX12_findOrders_14 rfl (lv_at hl 1 rfl) ?_
      refine va_get (D := D) (ci := 12) (v := .ref (r12 19)) (C := RX12) (T := TX12) (N := 63) hx hb hts w1 hown hK.1 hP 0 rfl rfl 19 (by decide) w6 (fun _ h9 => h9) rfl dX12_findOrders_15 ?_
      refine lv_iload_n hx hb dX12_findOrders_18 rfl (lv_at hl 0 rfl) ?_
      refine lv_iconst (v := 0) hx hb dX12_findOrders_19 (by decide) ?_
      refine va_iast hx hb hK.1 hP hD hS 7 1 rfl rfl (i := k8) (ix (by omega) (by omega)) dX12_findOrders_20 (fun H locs hP hD hS => ?_)
      obtain ⟨g61, e62⟩ : ∃ y : Nat → Int32, y = upd g9 k8.toNatClampNeg 0 := ⟨_, rfl⟩
      rw [← e62] at hP hD
      obtain ⟨hP, hD⟩ : PD D A [O12 a12 r12 v12_keptMany v12_done v12_sheets v12_holes x1 v12_laidMany v12_wanted v12_orderMany v12_firstOrder v12_lines v12_marks v12_dots v12_madeIn v12_bound v12_places v12_maps v12_tapeMany v12_stories v12_base v12_at v12_ends v12_fault v12_opened v12_bodies v12_ran v12_ownKind v12_ownNumber, (cI κ (r12 8) 40 f12_sheetOf), (cI κ (r12 9) 40 f12_placeOf), (cI κ (r12 10) 40 g2), (cI κ (r12 11) 40 g3), (cI κ (r12 12) 40 g4), (cI κ (r12 14) 8 f12_laid), (cI κ (r12 19) 64 g61)] H := ⟨hP, hD⟩
      obtain ⟨x63, e64⟩ : ∃ y : Int32, y = k8 + 1 := ⟨_, rfl⟩
      refine lv_iinc (v := x63) (lv' := [(3, .int x63), (0, .ref a12), (1, .int p1), (2, .int p2)]) hx hb dX12_findOrders_21 hl (k := 0) rfl (by rw [e64]; rfl) (by decide) rfl (fun ls hl => ?_)
      try have h65 : x63.toInt = k8.toInt + (1 : Int32).toInt := ci_add e64 (by omega) (by omega)
      refine lv_goto (tgt := 8) hx hb dX12_findOrders_24 (by decide) ?_
      exact ih8 x63 g61 (by omega) (by omega) _ _ hP hD hS _ hl
  exact lp8 ((64 - (0 : Int32).toInt).toNat + 1) 0 f12_sides (by omega) (by omega) _ _ hP hD hS _ hl
set_option maxHeartbeats 4000000 in
set_option maxRecDepth 100000 in
theorem k_X12_orders (l : Launch) (D : va_G) (κ : Nat → ClassId) (β : Nat) (a12 : Nat) (r12 : Nat → Nat) (v12_keptMany : Int32) (v12_done : Int32) (v12_sheets : Int32) (v12_holes : Int32) (v12_worms : Int32) (v12_laidMany : Int32) (v12_wanted : Int32) (v12_orderMany : Int32) (v12_firstOrder : Int32) (v12_lines : Int32) (v12_marks : Int32) (v12_dots : Int32) (v12_madeIn : Int32) (v12_bound : Int32) (v12_places : Int32) (v12_maps : Int32) (v12_tapeMany : Int32) (v12_stories : Int32) (v12_base : Int32) (v12_at : Int32) (v12_ends : Int32) (v12_fault : Int32) (v12_opened : Int32) (v12_bodies : Int32) (v12_ran : Int32) (v12_ownKind : Int32) (v12_ownNumber : Int32) (f12_sheetOf : Nat → Int32) (f12_placeOf : Nat → Int32) (f12_sorted : Nat → Int32) (f12_wormOf : Nat → Int32) (f12_wormSheets : Nat → Int32) (f12_laid : Nat → Int32) (f12_sides : Nat → Int32) (sz : Nat) (p1 : Int32) (p2 : Int32) (i1 : Rg 0 40 v12_keptMany) (i2 : Rg 0 40 v12_done) (i3 : Rg 0 8 v12_sheets) (i4 : Rg 0 40 v12_holes) (i5 : Rg 0 40 v12_worms) (i6 : Rg 0 8 v12_laidMany) (i7 : Rg 0 8 v12_wanted) (i8 : Rg 0 20 v12_lines) (i9 : Rg 0 60 v12_marks) (i10 : Rg 0 40 v12_dots) (i11 : Rg 0 20 v12_places) (i12 : Rg 0 8 v12_maps) (i13 : Rg 0 120 v12_tapeMany) (i14 : Rg 0 6 v12_stories) (i15 : Rg 0 50 v12_bodies) (i16 : Rg 0 1000 v12_ran) (hf12_sorted : ∀ j : Nat, 0 ≤ (f12_sorted j).toInt ∧ (f12_sorted j).toInt ≤ 39) (hf12_laid : ∀ j : Nat, 0 ≤ (f12_laid j).toInt ∧ (f12_laid j).toInt ≤ 7) (i17 : v12_done.toInt ≤ v12_keptMany.toInt) : Met l yX12_orders wsX12_orders ({ frames := 11, cells := 0, slots := 0, locals := 303 } : Room) (PcK D κ β [O12 a12 r12 v12_keptMany v12_done v12_sheets v12_holes v12_worms v12_laidMany v12_wanted v12_orderMany v12_firstOrder v12_lines v12_marks v12_dots v12_madeIn v12_bound v12_places v12_maps v12_tapeMany v12_stories v12_base v12_at v12_ends v12_fault v12_opened v12_bodies v12_ran v12_ownKind v12_ownNumber, (cI κ (r12 8) 40 f12_sheetOf), (cI κ (r12 9) 40 f12_placeOf), (cI κ (r12 10) 40 f12_sorted), (cI κ (r12 11) 40 f12_wormOf), (cI κ (r12 12) 40 f12_wormSheets), (cI κ (r12 14) 8 f12_laid), (cI κ (r12 19) 64 f12_sides)] sz [.ref a12, .int p1, .int p2]) (QiK D (fun (r : Int32) (u : Int32 × Int32 × Int32 × Int32 × Int32 × (Nat → Int32) × (Nat → Int32) × (Nat → Int32) × (Nat → Int32) × (Nat → Int32)) => (0 ≤ u.1.toInt ∧ u.1.toInt ≤ 40) ∧ (0 ≤ u.2.1.toInt ∧ u.2.1.toInt ≤ 8) ∧ (0 ≤ u.2.2.1.toInt ∧ u.2.2.1.toInt ≤ 8) ∧ (∀ j : Nat, 0 ≤ (u.2.2.2.2.2.1 j).toInt ∧ (u.2.2.2.2.2.1 j).toInt ≤ 39) ∧ (∀ j : Nat, 0 ≤ (u.2.2.2.2.2.2.2.2.1 j).toInt ∧ (u.2.2.2.2.2.2.2.2.1 j).toInt ≤ 7)) (fun (u : Int32 × Int32 × Int32 × Int32 × Int32 × (Nat → Int32) × (Nat → Int32) × (Nat → Int32) × (Nat → Int32) × (Nat → Int32)) => [O12 a12 r12 v12_keptMany v12_done v12_sheets v12_holes u.1 u.2.1 u.2.2.1 u.2.2.2.1 u.2.2.2.2.1 v12_lines v12_marks v12_dots v12_madeIn v12_bound v12_places v12_maps v12_tapeMany v12_stories v12_base v12_at v12_ends v12_fault v12_opened v12_bodies v12_ran v12_ownKind v12_ownNumber, (cI κ (r12 8) 40 f12_sheetOf), (cI κ (r12 9) 40 f12_placeOf), (cI κ (r12 10) 40 u.2.2.2.2.2.1), (cI κ (r12 11) 40 u.2.2.2.2.2.2.1), (cI κ (r12 12) 40 u.2.2.2.2.2.2.2.1), (cI κ (r12 14) 8 u.2.2.2.2.2.2.2.2.1), (cI κ (r12 19) 64 u.2.2.2.2.2.2.2.2.2)]) [O12 a12 r12 v12_keptMany v12_done v12_sheets v12_holes v12_worms v12_laidMany v12_wanted v12_orderMany v12_firstOrder v12_lines v12_marks v12_dots v12_madeIn v12_bound v12_places v12_maps v12_tapeMany v12_stories v12_base v12_at v12_ends v12_fault v12_opened v12_bodies v12_ran v12_ownKind v12_ownNumber, (cI κ (r12 8) 40 f12_sheetOf), (cI κ (r12 9) 40 f12_placeOf), (cI κ (r12 10) 40 f12_sorted), (cI κ (r12 11) 40 f12_wormOf), (cI κ (r12 12) 40 f12_wormSheets), (cI κ (r12 14) 8 f12_laid), (cI κ (r12 19) 64 f12_sides)] sz) 0 0 (va_A [O12 a12 r12 v12_keptMany v12_done v12_sheets v12_holes v12_worms v12_laidMany v12_wanted v12_orderMany v12_firstOrder v12_lines v12_marks v12_dots v12_madeIn v12_bound v12_places v12_maps v12_tapeMany v12_stories v12_base v12_at v12_ends v12_fault v12_opened v12_bodies v12_ran v12_ownKind v12_ownNumber, (cI κ (r12 8) 40 f12_sheetOf), (cI κ (r12 9) 40 f12_placeOf), (cI κ (r12 10) 40 f12_sorted), (cI κ (r12 11) 40 f12_wormOf), (cI κ (r12 12) 40 f12_wormSheets), (cI κ (r12 14) 8 f12_laid), (cI κ (r12 19) 64 f12_sides)] sz) := by
  refine ofK_i (cc := cX12_orders) (maxL := 3) (own := RX12) (by decide) rfl rfl (Nat.le_of_ble_eq_true rfl) ?_
  intro p e s m args below meth c Q A ls hsz hx hb hml hts hown hK hA hAB hP hD hl ret
  have hS : va_S A s.heap s.heap [] := va_S.rf
  have hl : lv_has ls 3 [(0, .ref a12), (1, .int p1), (2, .int p2)] := hl
  have w0 := hts (.fieldLink RX12 133 "OlderSkinModel" "sheets" "I") (List.mem_of_getElem? (i := 1) rfl)
  have w1 := (fun w h => List.mem_cons_of_mem _ (List.mem_append_right _ h) : ∀ w ∈ u_ws RX12 TX12 63, w ∈ wsX12_orders)
  have w2 := hts (.fieldLink RX12 179 "OlderSkinModel" "orderMany" "I") (List.mem_of_getElem? (i := 2) rfl)
  have w3 := hts (.fieldLink RX12 182 "OlderSkinModel" "firstOrder" "I") (List.mem_of_getElem? (i := 3) rfl)
  have l0 : (0 : Int32).toInt = 0 := by decide
  have l1 : ((-1) : Int32).toInt = -1 := by decide
  have l2 : (0 : Int64).toInt = 0 := by decide
  have l3 : (1 : Int64).toInt = 1 := by decide
  have l4 : (6 : Int32).toInt = 6 := by decide
  have l5 : ((-2) : Int32).toInt = -2 := by decide
  have l6 : ((-4) : Int32).toInt = -4 := by decide
  have i3 : 0 ≤ v12_sheets.toInt ∧ v12_sheets.toInt ≤ 8 := i3
  refine lv_iload_n hx hb dX12_orders_0 rfl (lv_at hl 1 rfl) ?_
  refine kcm_i hA hAB hP hD hS [false, false, false, false, false, false, false, false] rfl (fun _ => rfl) (fun hPc hDc => va_runS (As := [.int p1]) (rest := []) ⟨hx, hb, hml, hown, hts⟩ (k_X12_isSlack l D κ β s.heap.size p1) (va_cwS 1 hts gX12_orders_X12_isSlack rfl rfl rfl (by decide +kernel) ⟨Nat.le_of_ble_eq_true rfl, Nat.le_of_ble_eq_true rfl⟩) (pk_S hK hS hAB hPc hDc) rfl rfl hl.1 rfl (lv_room (Nat.le_of_ble_eq_true rfl)) dX12_orders_1 ⟨Nat.le_of_ble_eq_true rfl, Nat.le_of_ble_eq_true rfl⟩) (fun x1 u2 H locs hw hPD hS => ?_)
  have h3 : (x1.toInt = 1 ∧ 0 ≤ p1.toInt ∧ p1.toInt ≤ 99) ∨ (x1.toInt = 0 ∧ (p1.toInt < 0 ∨ 99 < p1.toInt)) := hw
  obtain ⟨hP, hD⟩ : PD D A [O12 a12 r12 v12_keptMany v12_done v12_sheets v12_holes v12_worms v12_laidMany v12_wanted v12_orderMany v12_firstOrder v12_lines v12_marks v12_dots v12_madeIn v12_bound v12_places v12_maps v12_tapeMany v12_stories v12_base v12_at v12_ends v12_fault v12_opened v12_bodies v12_ran v12_ownKind v12_ownNumber, (cI κ (r12 8) 40 f12_sheetOf), (cI κ (r12 9) 40 f12_placeOf), (cI κ (r12 10) 40 f12_sorted), (cI κ (r12 11) 40 f12_wormOf), (cI κ (r12 12) 40 f12_wormSheets), (cI κ (r12 14) 8 f12_laid), (cI κ (r12 19) 64 f12_sides)] H := hPD
  refine lv_if_eq (tgt := 17) hx hb dX12_orders_4 (by decide) (fun c4 => ?_) (fun c4 => ?_)
  · have c4 := ci_eq c4
    refine lv_iconst (v := (-1)) hx hb dX12_orders_17 (by decide) ?_
    have hpo : (0 ≤ v12_worms.toInt ∧ v12_worms.toInt ≤ 40) ∧ (0 ≤ v12_laidMany.toInt ∧ v12_laidMany.toInt ≤ 8) ∧ (0 ≤ v12_wanted.toInt ∧ v12_wanted.toInt ≤ 8) ∧ (∀ j : Nat, 0 ≤ (f12_sorted j).toInt ∧ (f12_sorted j).toInt ≤ 39) ∧ (∀ j : Nat, 0 ≤ (f12_laid j).toInt ∧ (f12_laid j).toInt ≤ 7) := ⟨i5, i6, i7, hf12_sorted, hf12_laid⟩
    exact ret _ _ _ _ (-1) (v12_worms, v12_laidMany, v12_wanted, v12_orderMany, v12_firstOrder, f12_sorted, f12_wormOf, f12_wormSheets, f12_laid, f12_sides) dX12_orders_18 hpo hP hD hS
  have c4 := ci_ne c4
  refine lv_iload_n hx hb dX12_orders_7 rfl (lv_at hl 2 rfl) ?_
  refine lv_i2l hx hb dX12_orders_8 rfl ?_
  refine lv_topl (fun x5 e6 => ?_)
  have h7 : x5.toInt = p2.toInt := cl_i2l e6
  refine lv_lconst (v := (0 : Int64)) hx hb dX12_orders_9 (by decide) ?_
  refine lv_lconst (v := (1 : Int64)) hx hb dX12_orders_10 (by decide) ?_
  refine kcm_i hA hAB hP hD hS [false, false, false, false, false, false, false, false] rfl (fun _ => rfl) (fun hPc hDc => va_runS (As := [.long x5, .long (0 : Int64), .long (1 : Int64)]) (rest := []) ⟨hx, hb, hml, hown, hts⟩ (k_X12_within l D κ β H.size x5 (0 : Int64) (1 : Int64)) (va_cwS 3 hts gX12_orders_X12_within rfl rfl rfl (by decide +kernel) ⟨Nat.le_of_ble_eq_true rfl, Nat.le_of_ble_eq_true rfl⟩) (pk_S hK hS hAB hPc hDc) rfl rfl hl.1 rfl (lv_room (Nat.le_of_ble_eq_true rfl)) dX12_orders_11 ⟨Nat.le_of_ble_eq_true rfl, Nat.le_of_ble_eq_true rfl⟩) (fun x8 u9 H locs hw hPD hS => ?_)
  have h10 : (x8.toInt = 1 ∧ (0 : Int64).toInt ≤ x5.toInt ∧ x5.toInt ≤ (1 : Int64).toInt) ∨ (x8.toInt = 0 ∧ (x5.toInt < (0 : Int64).toInt ∨ (1 : Int64).toInt < x5.toInt)) := hw
  obtain ⟨hP, hD⟩ : PD D A [O12 a12 r12 v12_keptMany v12_done v12_sheets v12_holes v12_worms v12_laidMany v12_wanted v12_orderMany v12_firstOrder v12_lines v12_marks v12_dots v12_madeIn v12_bound v12_places v12_maps v12_tapeMany v12_stories v12_base v12_at v12_ends v12_fault v12_opened v12_bodies v12_ran v12_ownKind v12_ownNumber, (cI κ (r12 8) 40 f12_sheetOf), (cI κ (r12 9) 40 f12_placeOf), (cI κ (r12 10) 40 f12_sorted), (cI κ (r12 11) 40 f12_wormOf), (cI κ (r12 12) 40 f12_wormSheets), (cI κ (r12 14) 8 f12_laid), (cI κ (r12 19) 64 f12_sides)] H := hPD
  refine lv_if_ne (tgt := 19) hx hb dX12_orders_14 (by decide) (fun c11 => ?_) (fun c11 => ?_)
  · have c11 := ci_ne c11
    refine lv_aload_n hx hb dX12_orders_19 rfl (lv_at hl 0 rfl) ?_
    refine va_get (D := D) (ci := 12) (v := .int v12_sheets) (C := RX12) (T := TX12) (N := 63) hx hb hts w1 hown hK.1 hP 0 rfl rfl 6 (by decide) w0 (fun _ h9 => h9) rfl dX12_orders_20 ?_
    refine lv_bipush (v := 6) hx hb dX12_orders_23 (by decide) ?_
    refine lv_icmp_le (tgt := 31) hx hb dX12_orders_25 (by decide) (fun c12 => ?_) (fun c12 => ?_)
    · have c12 := ci_le c12
      refine lv_aload_n hx hb dX12_orders_31 rfl (lv_at hl 0 rfl) ?_
      refine lv_iload_n hx hb dX12_orders_32 rfl (lv_at hl 1 rfl) ?_
      refine lv_iconst (v := (-1)) hx hb dX12_orders_33 (by decide) ?_
      refine kcm_v hA hAB hP hD hS [true, true, true, true, true, true, true, true] rfl (fun _ => rfl) (fun hPc hDc => va_runV (As := [.int p1, .int (-1)]) (rest := []) ⟨hx, hb, hml, hown, hts⟩ (k_X12_findOrders l D κ β a12 r12 v12_keptMany v12_done v12_sheets v12_holes v12_worms v12_laidMany v12_wanted v12_orderMany v12_firstOrder v12_lines v12_marks v12_dots v12_madeIn v12_bound v12_places v12_maps v12_tapeMany v12_stories v12_base v12_at v12_ends v12_fault v12_opened v12_bodies v12_ran v12_ownKind v12_ownNumber f12_sheetOf f12_placeOf f12_sorted f12_wormOf f12_wormSheets f12_laid f12_sides H.size p1 (-1) i1 i2 i3 i4 i5 i6 i7 i8 i9 i10 i11 i12 i13 i14 i15 i16 hf12_sorted hf12_laid i17 (by omega)) (cwV 2 hts gX12_orders_X12_findOrders rfl rfl rfl (by decide +kernel) ⟨Nat.le_of_ble_eq_true rfl, Nat.le_of_ble_eq_true rfl⟩) (pk_V hK hS hAB hPc hDc 0 (ci := 12) rfl rfl rfl) rfl rfl hl.1 rfl (lv_room (Nat.le_of_ble_eq_true rfl)) dX12_orders_34 ⟨Nat.le_of_ble_eq_true rfl, Nat.le_of_ble_eq_true rfl⟩) (fun u23 H locs hw hPD hS => ?_)
      obtain ⟨x13, x14, x15, x16, x17, g18, g19, g20, g21, g22⟩ := u23
      obtain ⟨h24, h25, h26, h27, h28⟩ : (Rg 0 40 x13) ∧ (Rg 0 8 x14) ∧ (Rg 0 8 x15) ∧ (∀ j : Nat, 0 ≤ (g18 j).toInt ∧ (g18 j).toInt ≤ 39) ∧ (∀ j : Nat, 0 ≤ (g21 j).toInt ∧ (g21 j).toInt ≤ 7) := hw
      obtain ⟨hP, hD⟩ : PD D A [O12 a12 r12 v12_keptMany v12_done v12_sheets v12_holes x13 x14 x15 x16 x17 v12_lines v12_marks v12_dots v12_madeIn v12_bound v12_places v12_maps v12_tapeMany v12_stories v12_base v12_at v12_ends v12_fault v12_opened v12_bodies v12_ran v12_ownKind v12_ownNumber, (cI κ (r12 8) 40 f12_sheetOf), (cI κ (r12 9) 40 f12_placeOf), (cI κ (r12 10) 40 g18), (cI κ (r12 11) 40 g19), (cI κ (r12 12) 40 g20), (cI κ (r12 14) 8 g21), (cI κ (r12 19) 64 g22)] H := hPD
      refine lv_iload_n hx hb dX12_orders_37 rfl (lv_at hl 2 rfl) ?_
      refine lv_if_ne (tgt := 48) hx hb dX12_orders_38 (by decide) (fun c29 => ?_) (fun c29 => ?_)
      · have c29 := ci_ne c29
        refine lv_aload_n hx hb dX12_orders_48 rfl (lv_at hl 0 rfl) ?_
        refine va_get (D := D) (ci := 12) (v := .int x16) (C := RX12) (T := TX12) (N := 63) hx hb hts w1 hown hK.1 hP 0 rfl rfl 17 (by decide) w2 (fun _ h9 => h9) rfl dX12_orders_49 ?_
        refine lv_if_ne (tgt := 60) hx hb dX12_orders_52 (by decide) (fun c30 => ?_) (fun c30 => ?_)
        · have c30 := ci_ne c30
          refine lv_aload_n hx hb dX12_orders_60 rfl (lv_at hl 0 rfl) ?_
          refine va_get (D := D) (ci := 12) (v := .int x17) (C := RX12) (T := TX12) (N := 63) hx hb hts w1 hown hK.1 hP 0 rfl rfl 18 (by decide) w3 (fun _ h9 => h9) rfl dX12_orders_61 ?_
          have hpo : (0 ≤ x13.toInt ∧ x13.toInt ≤ 40) ∧ (0 ≤ x14.toInt ∧ x14.toInt ≤ 8) ∧ (0 ≤ x15.toInt ∧ x15.toInt ≤ 8) ∧ (∀ j : Nat, 0 ≤ (g18 j).toInt ∧ (g18 j).toInt ≤ 39) ∧ (∀ j : Nat, 0 ≤ (g21 j).toInt ∧ (g21 j).toInt ≤ 7) := ⟨h24, h25, h26, h27, h28⟩
          exact ret _ _ _ _ x17 (x13, x14, x15, x16, x17, g18, g19, g20, g21, g22) dX12_orders_64 hpo hP hD hS
        have c30 := ci_eq c30
        refine lv_bipush (v := (-2)) hx hb dX12_orders_55 (by decide) ?_
        refine lv_goto (tgt := 64) hx hb dX12_orders_57 (by decide) ?_
        have hpo : (0 ≤ x13.toInt ∧ x13.toInt ≤ 40) ∧ (0 ≤ x14.toInt ∧ x14.toInt ≤ 8) ∧ (0 ≤ x15.toInt ∧ x15.toInt ≤ 8) ∧ (∀ j : Nat, 0 ≤ (g18 j).toInt ∧ (g18 j).toInt ≤ 39) ∧ (∀ j : Nat, 0 ≤ (g21 j).toInt ∧ (g21 j).toInt ≤ 7) := ⟨h24, h25, h26, h27, h28⟩
        exact ret _ _ _ _ (-2) (x13, x14, x15, x16, x17, g18, g19, g20, g21, g22) dX12_orders_64 hpo hP hD hS
      have c29 := ci_eq c29
      refine lv_aload_n hx hb dX12_orders_41 rfl (lv_at hl 0 rfl) ?_
      refine va_get (D := D) (ci := 12) (v := .int x16) (C := RX12) (T := TX12) (N := 63) hx hb hts w1 hown hK.1 hP 0 rfl rfl 17 (by decide) w2 (fun _ h9 => h9) rfl dX12_orders_42 ?_
      refine lv_goto (tgt := 64) hx hb dX12_orders_45 (by decide) ?_
      have hpo : (0 ≤ x13.toInt ∧ x13.toInt ≤ 40) ∧ (0 ≤ x14.toInt ∧ x14.toInt ≤ 8) ∧ (0 ≤ x15.toInt ∧ x15.toInt ≤ 8) ∧ (∀ j : Nat, 0 ≤ (g18 j).toInt ∧ (g18 j).toInt ≤ 39) ∧ (∀ j : Nat, 0 ≤ (g21 j).toInt ∧ (g21 j).toInt ≤ 7) := ⟨h24, h25, h26, h27, h28⟩
      exact ret _ _ _ _ x16 (x13, x14, x15, x16, x17, g18, g19, g20, g21, g22) dX12_orders_64 hpo hP hD hS
    have c12 := ci_nle c12
    refine lv_bipush (v := (-4)) hx hb dX12_orders_28 (by decide) ?_
    have hpo : (0 ≤ v12_worms.toInt ∧ v12_worms.toInt ≤ 40) ∧ (0 ≤ v12_laidMany.toInt ∧ v12_laidMany.toInt ≤ 8) ∧ (0 ≤ v12_wanted.toInt ∧ v12_wanted.toInt ≤ 8) ∧ (∀ j : Nat, 0 ≤ (f12_sorted j).toInt ∧ (f12_sorted j).toInt ≤ 39) ∧ (∀ j : Nat, 0 ≤ (f12_laid j).toInt ∧ (f12_laid j).toInt ≤ 7) := ⟨i5, i6, i7, hf12_sorted, hf12_laid⟩
    exact ret _ _ _ _ (-4) (v12_worms, v12_laidMany, v12_wanted, v12_orderMany, v12_firstOrder, f12_sorted, f12_wormOf, f12_wormSheets, f12_laid, f12_sides) dX12_orders_30 hpo hP hD hS
  have c11 := ci_eq c11
  refine lv_iconst (v := (-1)) hx hb dX12_orders_17 (by decide) ?_
  have hpo : (0 ≤ v12_worms.toInt ∧ v12_worms.toInt ≤ 40) ∧ (0 ≤ v12_laidMany.toInt ∧ v12_laidMany.toInt ≤ 8) ∧ (0 ≤ v12_wanted.toInt ∧ v12_wanted.toInt ≤ 8) ∧ (∀ j : Nat, 0 ≤ (f12_sorted j).toInt ∧ (f12_sorted j).toInt ≤ 39) ∧ (∀ j : Nat, 0 ≤ (f12_laid j).toInt ∧ (f12_laid j).toInt ≤ 7) := ⟨i5, i6, i7, hf12_sorted, hf12_laid⟩
  exact ret _ _ _ _ (-1) (v12_worms, v12_laidMany, v12_wanted, v12_orderMany, v12_firstOrder, f12_sorted, f12_wormOf, f12_wormSheets, f12_laid, f12_sides) dX12_orders_18 hpo hP hD hS
set_option maxHeartbeats 4000000 in
set_option maxRecDepth 100000 in
theorem k_X12_side (l : Launch) (D : va_G) (κ : Nat → ClassId) (β : Nat) (a12 : Nat) (r12 : Nat → Nat) (v12_keptMany : Int32) (v12_done : Int32) (v12_sheets : Int32) (v12_holes : Int32) (v12_worms : Int32) (v12_laidMany : Int32) (v12_wanted : Int32) (v12_orderMany : Int32) (v12_firstOrder : Int32) (v12_lines : Int32) (v12_marks : Int32) (v12_dots : Int32) (v12_madeIn : Int32) (v12_bound : Int32) (v12_places : Int32) (v12_maps : Int32) (v12_tapeMany : Int32) (v12_stories : Int32) (v12_base : Int32) (v12_at : Int32) (v12_ends : Int32) (v12_fault : Int32) (v12_opened : Int32) (v12_bodies : Int32) (v12_ran : Int32) (v12_ownKind : Int32) (v12_ownNumber : Int32) (f12_sheetOf : Nat → Int32) (f12_placeOf : Nat → Int32) (f12_sorted : Nat → Int32) (f12_wormOf : Nat → Int32) (f12_wormSheets : Nat → Int32) (f12_laid : Nat → Int32) (f12_sides : Nat → Int32) (sz : Nat) (p1 : Int32) (p2 : Int32) (p3 : Int32) (i1 : Rg 0 40 v12_keptMany) (i2 : Rg 0 40 v12_done) (i3 : Rg 0 8 v12_sheets) (i4 : Rg 0 40 v12_holes) (i5 : Rg 0 40 v12_worms) (i6 : Rg 0 8 v12_laidMany) (i7 : Rg 0 8 v12_wanted) (i8 : Rg 0 20 v12_lines) (i9 : Rg 0 60 v12_marks) (i10 : Rg 0 40 v12_dots) (i11 : Rg 0 20 v12_places) (i12 : Rg 0 8 v12_maps) (i13 : Rg 0 120 v12_tapeMany) (i14 : Rg 0 6 v12_stories) (i15 : Rg 0 50 v12_bodies) (i16 : Rg 0 1000 v12_ran) (hf12_sorted : ∀ j : Nat, 0 ≤ (f12_sorted j).toInt ∧ (f12_sorted j).toInt ≤ 39) (hf12_laid : ∀ j : Nat, 0 ≤ (f12_laid j).toInt ∧ (f12_laid j).toInt ≤ 7) (i17 : v12_done.toInt ≤ v12_keptMany.toInt) : Met l yX12_side wsX12_side ({ frames := 11, cells := 0, slots := 0, locals := 303 } : Room) (PcK D κ β [O12 a12 r12 v12_keptMany v12_done v12_sheets v12_holes v12_worms v12_laidMany v12_wanted v12_orderMany v12_firstOrder v12_lines v12_marks v12_dots v12_madeIn v12_bound v12_places v12_maps v12_tapeMany v12_stories v12_base v12_at v12_ends v12_fault v12_opened v12_bodies v12_ran v12_ownKind v12_ownNumber, (cI κ (r12 8) 40 f12_sheetOf), (cI κ (r12 9) 40 f12_placeOf), (cI κ (r12 10) 40 f12_sorted), (cI κ (r12 11) 40 f12_wormOf), (cI κ (r12 12) 40 f12_wormSheets), (cI κ (r12 14) 8 f12_laid), (cI κ (r12 19) 64 f12_sides)] sz [.ref a12, .int p1, .int p2, .int p3]) (QiK D (fun (r : Int32) (u : Int32 × Int32 × Int32 × Int32 × Int32 × (Nat → Int32) × (Nat → Int32) × (Nat → Int32) × (Nat → Int32) × (Nat → Int32)) => (0 ≤ u.1.toInt ∧ u.1.toInt ≤ 40) ∧ (0 ≤ u.2.1.toInt ∧ u.2.1.toInt ≤ 8) ∧ (0 ≤ u.2.2.1.toInt ∧ u.2.2.1.toInt ≤ 8) ∧ (∀ j : Nat, 0 ≤ (u.2.2.2.2.2.1 j).toInt ∧ (u.2.2.2.2.2.1 j).toInt ≤ 39) ∧ (∀ j : Nat, 0 ≤ (u.2.2.2.2.2.2.2.2.1 j).toInt ∧ (u.2.2.2.2.2.2.2.2.1 j).toInt ≤ 7)) (fun (u : Int32 × Int32 × Int32 × Int32 × Int32 × (Nat → Int32) × (Nat → Int32) × (Nat → Int32) × (Nat → Int32) × (Nat → Int32)) => [O12 a12 r12 v12_keptMany v12_done v12_sheets v12_holes u.1 u.2.1 u.2.2.1 u.2.2.2.1 u.2.2.2.2.1 v12_lines v12_marks v12_dots v12_madeIn v12_bound v12_places v12_maps v12_tapeMany v12_stories v12_base v12_at v12_ends v12_fault v12_opened v12_bodies v12_ran v12_ownKind v12_ownNumber, (cI κ (r12 8) 40 f12_sheetOf), (cI κ (r12 9) 40 f12_placeOf), (cI κ (r12 10) 40 u.2.2.2.2.2.1), (cI κ (r12 11) 40 u.2.2.2.2.2.2.1), (cI κ (r12 12) 40 u.2.2.2.2.2.2.2.1), (cI κ (r12 14) 8 u.2.2.2.2.2.2.2.2.1), (cI κ (r12 19) 64 u.2.2.2.2.2.2.2.2.2)]) [O12 a12 r12 v12_keptMany v12_done v12_sheets v12_holes v12_worms v12_laidMany v12_wanted v12_orderMany v12_firstOrder v12_lines v12_marks v12_dots v12_madeIn v12_bound v12_places v12_maps v12_tapeMany v12_stories v12_base v12_at v12_ends v12_fault v12_opened v12_bodies v12_ran v12_ownKind v12_ownNumber, (cI κ (r12 8) 40 f12_sheetOf), (cI κ (r12 9) 40 f12_placeOf), (cI κ (r12 10) 40 f12_sorted), (cI κ (r12 11) 40 f12_wormOf), (cI κ (r12 12) 40 f12_wormSheets), (cI κ (r12 14) 8 f12_laid), (cI κ (r12 19) 64 f12_sides)] sz) 0 0 (va_A [O12 a12 r12 v12_keptMany v12_done v12_sheets v12_holes v12_worms v12_laidMany v12_wanted v12_orderMany v12_firstOrder v12_lines v12_marks v12_dots v12_madeIn v12_bound v12_places v12_maps v12_tapeMany v12_stories v12_base v12_at v12_ends v12_fault v12_opened v12_bodies v12_ran v12_ownKind v12_ownNumber, (cI κ (r12 8) 40 f12_sheetOf), (cI κ (r12 9) 40 f12_placeOf), (cI κ (r12 10) 40 f12_sorted), (cI κ (r12 11) 40 f12_wormOf), (cI κ (r12 12) 40 f12_wormSheets), (cI κ (r12 14) 8 f12_laid), (cI κ (r12 19) 64 f12_sides)] sz) := by
  refine ofK_i (cc := cX12_side) (maxL := 5) (own := RX12) (by decide) rfl rfl (Nat.le_of_ble_eq_true rfl) ?_
  intro p e s m args below meth c Q A ls hsz hx hb hml hts hown hK hA hAB hP hD hl ret
  have hS : va_S A s.heap s.heap [] := va_S.rf
  have hl : lv_has ls 5 [(0, .ref a12), (1, .int p1), (2, .int p2), (3, .int p3)] := hl
  have w0 := hts (.fieldLink RX12 133 "OlderSkinModel" "sheets" "I") (List.mem_of_getElem? (i := 1) rfl)
  have w1 := (fun w h => List.mem_cons_of_mem _ (List.mem_append_right _ h) : ∀ w ∈ u_ws RX12 TX12 63, w ∈ wsX12_side)
  have w2 := hts (.fieldLink RX12 179 "OlderSkinModel" "orderMany" "I") (List.mem_of_getElem? (i := 2) rfl)
  have w3 := hts (.fieldLink RX12 40 "OlderSkinModel" "sides" "[I") (List.mem_of_getElem? (i := 3) rfl)
  have l0 : (0 : Int32).toInt = 0 := by decide
  have l1 : ((-1) : Int32).toInt = -1 := by decide
  have l2 : (10 : Int32).toInt = 10 := by decide
  have l3 : (0 : Int64).toInt = 0 := by decide
  have l4 : (1 : Int64).toInt = 1 := by decide
  have l5 : (6 : Int32).toInt = 6 := by decide
  have l6 : (8 : Int32).toInt = 8 := by decide
  have l7 : (1 : Int32).toInt = 1 := by decide
  have l8 : ((-2) : Int32).toInt = -2 := by decide
  have l9 : ((-4) : Int32).toInt = -4 := by decide
  have i3 : 0 ≤ v12_sheets.toInt ∧ v12_sheets.toInt ≤ 8 := i3
  refine lv_iload_n hx hb dX12_side_0 rfl (lv_at hl 1 rfl) ?_
  refine kcm_i hA hAB hP hD hS [false, false, false, false, false, false, false, false] rfl (fun _ => rfl) (fun hPc hDc => va_runS (As := [.int p1]) (rest := []) ⟨hx, hb, hml, hown, hts⟩ (k_X12_isSlack l D κ β s.heap.size p1) (va_cwS 1 hts gX12_side_X12_isSlack rfl rfl rfl (by decide +kernel) ⟨Nat.le_of_ble_eq_true rfl, Nat.le_of_ble_eq_true rfl⟩) (pk_S hK hS hAB hPc hDc) rfl rfl hl.1 rfl (lv_room (Nat.le_of_ble_eq_true rfl)) dX12_side_1 ⟨Nat.le_of_ble_eq_true rfl, Nat.le_of_ble_eq_true rfl⟩) (fun x1 u2 H locs hw hPD hS => ?_)
  have h3 : (x1.toInt = 1 ∧ 0 ≤ p1.toInt ∧ p1.toInt ≤ 99) ∨ (x1.toInt = 0 ∧ (p1.toInt < 0 ∨ 99 < p1.toInt)) := hw
  obtain ⟨hP, hD⟩ : PD D A [O12 a12 r12 v12_keptMany v12_done v12_sheets v12_holes v12_worms v12_laidMany v12_wanted v12_orderMany v12_firstOrder v12_lines v12_marks v12_dots v12_madeIn v12_bound v12_places v12_maps v12_tapeMany v12_stories v12_base v12_at v12_ends v12_fault v12_opened v12_bodies v12_ran v12_ownKind v12_ownNumber, (cI κ (r12 8) 40 f12_sheetOf), (cI κ (r12 9) 40 f12_placeOf), (cI κ (r12 10) 40 f12_sorted), (cI κ (r12 11) 40 f12_wormOf), (cI κ (r12 12) 40 f12_wormSheets), (cI κ (r12 14) 8 f12_laid), (cI κ (r12 19) 64 f12_sides)] H := hPD
  refine lv_if_eq (tgt := 54) hx hb dX12_side_4 (by decide) (fun c4 => ?_) (fun c4 => ?_)
  · have c4 := ci_eq c4
    refine lv_iconst (v := (-1)) hx hb dX12_side_54 (by decide) ?_
    have hpo : (0 ≤ v12_worms.toInt ∧ v12_worms.toInt ≤ 40) ∧ (0 ≤ v12_laidMany.toInt ∧ v12_laidMany.toInt ≤ 8) ∧ (0 ≤ v12_wanted.toInt ∧ v12_wanted.toInt ≤ 8) ∧ (∀ j : Nat, 0 ≤ (f12_sorted j).toInt ∧ (f12_sorted j).toInt ≤ 39) ∧ (∀ j : Nat, 0 ≤ (f12_laid j).toInt ∧ (f12_laid j).toInt ≤ 7) := ⟨i5, i6, i7, hf12_sorted, hf12_laid⟩
    exact ret _ _ _ _ (-1) (v12_worms, v12_laidMany, v12_wanted, v12_orderMany, v12_firstOrder, f12_sorted, f12_wormOf, f12_wormSheets, f12_laid, f12_sides) dX12_side_55 hpo hP hD hS
  have c4 := ci_ne c4
  refine lv_iload_n hx hb dX12_side_7 rfl (lv_at hl 2 rfl) ?_
  refine lv_if_lt (tgt := 54) hx hb dX12_side_8 (by decide) (fun c5 => ?_) (fun c5 => ?_)
  · have c5 := ci_lt c5
    refine lv_iconst (v := (-1)) hx hb dX12_side_54 (by decide) ?_
    have hpo : (0 ≤ v12_worms.toInt ∧ v12_worms.toInt ≤ 40) ∧ (0 ≤ v12_laidMany.toInt ∧ v12_laidMany.toInt ≤ 8) ∧ (0 ≤ v12_wanted.toInt ∧ v12_wanted.toInt ≤ 8) ∧ (∀ j : Nat, 0 ≤ (f12_sorted j).toInt ∧ (f12_sorted j).toInt ≤ 39) ∧ (∀ j : Nat, 0 ≤ (f12_laid j).toInt ∧ (f12_laid j).toInt ≤ 7) := ⟨i5, i6, i7, hf12_sorted, hf12_laid⟩
    exact ret _ _ _ _ (-1) (v12_worms, v12_laidMany, v12_wanted, v12_orderMany, v12_firstOrder, f12_sorted, f12_wormOf, f12_wormSheets, f12_laid, f12_sides) dX12_side_55 hpo hP hD hS
  have c5 := ci_nlt c5
  refine lv_aload_n hx hb dX12_side_11 rfl (lv_at hl 0 rfl) ?_
  refine lv_iload_n hx hb dX12_side_12 rfl (lv_at hl 2 rfl) ?_
  refine lv_bipush (v := 10) hx hb dX12_side_13 (by decide) ?_
  refine lv_idiv hx hb dX12_side_15 (by decide) ?_
  refine lv_topi (fun x6 e7 => ?_)
  have h8 := ci_divL (n := 10) (by decide) (by decide) e7
  refine kcm_i hA hAB hP hD hS [true, false, false, false, false, false, false, false] rfl (fun _ => rfl) (fun hPc hDc => va_runV (As := [.int x6]) (rest := []) ⟨hx, hb, hml, hown, hts⟩ (k_X12_isSheet l D κ β a12 r12 v12_keptMany v12_done v12_sheets v12_holes v12_worms v12_laidMany v12_wanted v12_orderMany v12_firstOrder v12_lines v12_marks v12_dots v12_madeIn v12_bound v12_places v12_maps v12_tapeMany v12_stories v12_base v12_at v12_ends v12_fault v12_opened v12_bodies v12_ran v12_ownKind v12_ownNumber H.size x6 i1 i2 i3 i4 i5 i6 i7 i8 i9 i10 i11 i12 i13 i14 i15 i16 i17) (cwV 1 hts gX12_side_X12_isSheet rfl rfl rfl (by decide +kernel) ⟨Nat.le_of_ble_eq_true rfl, Nat.le_of_ble_eq_true rfl⟩) (pk_V hK hS hAB hPc hDc 0 (ci := 12) rfl rfl rfl) rfl rfl hl.1 rfl (lv_room (Nat.le_of_ble_eq_true rfl)) dX12_side_16 ⟨Nat.le_of_ble_eq_true rfl, Nat.le_of_ble_eq_true rfl⟩) (fun x9 u10 H locs hw hPD hS => ?_)
  have h11 : (x9.toInt = 1 ∧ 0 ≤ x6.toInt ∧ x6.toInt < v12_sheets.toInt) ∨ (x9.toInt = 0 ∧ (x6.toInt < 0 ∨ v12_sheets.toInt ≤ x6.toInt)) := hw
  obtain ⟨hP, hD⟩ : PD D A [O12 a12 r12 v12_keptMany v12_done v12_sheets v12_holes v12_worms v12_laidMany v12_wanted v12_orderMany v12_firstOrder v12_lines v12_marks v12_dots v12_madeIn v12_bound v12_places v12_maps v12_tapeMany v12_stories v12_base v12_at v12_ends v12_fault v12_opened v12_bodies v12_ran v12_ownKind v12_ownNumber, (cI κ (r12 8) 40 f12_sheetOf), (cI κ (r12 9) 40 f12_placeOf), (cI κ (r12 10) 40 f12_sorted), (cI κ (r12 11) 40 f12_wormOf), (cI κ (r12 12) 40 f12_wormSheets), (cI κ (r12 14) 8 f12_laid), (cI κ (r12 19) 64 f12_sides)] H := hPD
  refine lv_if_eq (tgt := 54) hx hb dX12_side_19 (by decide) (fun c12 => ?_) (fun c12 => ?_)
  · have c12 := ci_eq c12
    refine lv_iconst (v := (-1)) hx hb dX12_side_54 (by decide) ?_
    have hpo : (0 ≤ v12_worms.toInt ∧ v12_worms.toInt ≤ 40) ∧ (0 ≤ v12_laidMany.toInt ∧ v12_laidMany.toInt ≤ 8) ∧ (0 ≤ v12_wanted.toInt ∧ v12_wanted.toInt ≤ 8) ∧ (∀ j : Nat, 0 ≤ (f12_sorted j).toInt ∧ (f12_sorted j).toInt ≤ 39) ∧ (∀ j : Nat, 0 ≤ (f12_laid j).toInt ∧ (f12_laid j).toInt ≤ 7) := ⟨i5, i6, i7, hf12_sorted, hf12_laid⟩
    exact ret _ _ _ _ (-1) (v12_worms, v12_laidMany, v12_wanted, v12_orderMany, v12_firstOrder, f12_sorted, f12_wormOf, f12_wormSheets, f12_laid, f12_sides) dX12_side_55 hpo hP hD hS
  have c12 := ci_ne c12
  refine lv_aload_n hx hb dX12_side_22 rfl (lv_at hl 0 rfl) ?_
  refine lv_iload_n hx hb dX12_side_23 rfl (lv_at hl 2 rfl) ?_
  refine lv_bipush (v := 10) hx hb dX12_side_24 (by decide) ?_
  refine lv_irem hx hb dX12_side_26 (by decide) ?_
  refine lv_topi (fun x13 e14 => ?_)
  have h15 := ci_remL (n := 10) (by decide) (by decide) e14
  refine kcm_i hA hAB hP hD hS [true, false, false, false, false, false, false, false] rfl (fun _ => rfl) (fun hPc hDc => va_runV (As := [.int x13]) (rest := []) ⟨hx, hb, hml, hown, hts⟩ (k_X12_isSheet l D κ β a12 r12 v12_keptMany v12_done v12_sheets v12_holes v12_worms v12_laidMany v12_wanted v12_orderMany v12_firstOrder v12_lines v12_marks v12_dots v12_madeIn v12_bound v12_places v12_maps v12_tapeMany v12_stories v12_base v12_at v12_ends v12_fault v12_opened v12_bodies v12_ran v12_ownKind v12_ownNumber H.size x13 i1 i2 i3 i4 i5 i6 i7 i8 i9 i10 i11 i12 i13 i14 i15 i16 i17) (cwV 1 hts gX12_side_X12_isSheet rfl rfl rfl (by decide +kernel) ⟨Nat.le_of_ble_eq_true rfl, Nat.le_of_ble_eq_true rfl⟩) (pk_V hK hS hAB hPc hDc 0 (ci := 12) rfl rfl rfl) rfl rfl hl.1 rfl (lv_room (Nat.le_of_ble_eq_true rfl)) dX12_side_27 ⟨Nat.le_of_ble_eq_true rfl, Nat.le_of_ble_eq_true rfl⟩) (fun x16 u17 H locs hw hPD hS => ?_)
  have h18 : (x16.toInt = 1 ∧ 0 ≤ x13.toInt ∧ x13.toInt < v12_sheets.toInt) ∨ (x16.toInt = 0 ∧ (x13.toInt < 0 ∨ v12_sheets.toInt ≤ x13.toInt)) := hw
  obtain ⟨hP, hD⟩ : PD D A [O12 a12 r12 v12_keptMany v12_done v12_sheets v12_holes v12_worms v12_laidMany v12_wanted v12_orderMany v12_firstOrder v12_lines v12_marks v12_dots v12_madeIn v12_bound v12_places v12_maps v12_tapeMany v12_stories v12_base v12_at v12_ends v12_fault v12_opened v12_bodies v12_ran v12_ownKind v12_ownNumber, (cI κ (r12 8) 40 f12_sheetOf), (cI κ (r12 9) 40 f12_placeOf), (cI κ (r12 10) 40 f12_sorted), (cI κ (r12 11) 40 f12_wormOf), (cI κ (r12 12) 40 f12_wormSheets), (cI κ (r12 14) 8 f12_laid), (cI κ (r12 19) 64 f12_sides)] H := hPD
  refine lv_if_eq (tgt := 54) hx hb dX12_side_30 (by decide) (fun c19 => ?_) (fun c19 => ?_)
  · have c19 := ci_eq c19
    refine lv_iconst (v := (-1)) hx hb dX12_side_54 (by decide) ?_
    have hpo : (0 ≤ v12_worms.toInt ∧ v12_worms.toInt ≤ 40) ∧ (0 ≤ v12_laidMany.toInt ∧ v12_laidMany.toInt ≤ 8) ∧ (0 ≤ v12_wanted.toInt ∧ v12_wanted.toInt ≤ 8) ∧ (∀ j : Nat, 0 ≤ (f12_sorted j).toInt ∧ (f12_sorted j).toInt ≤ 39) ∧ (∀ j : Nat, 0 ≤ (f12_laid j).toInt ∧ (f12_laid j).toInt ≤ 7) := ⟨i5, i6, i7, hf12_sorted, hf12_laid⟩
    exact ret _ _ _ _ (-1) (v12_worms, v12_laidMany, v12_wanted, v12_orderMany, v12_firstOrder, f12_sorted, f12_wormOf, f12_wormSheets, f12_laid, f12_sides) dX12_side_55 hpo hP hD hS
  have c19 := ci_ne c19
  refine lv_iload_n hx hb dX12_side_33 rfl (lv_at hl 2 rfl) ?_
  refine lv_bipush (v := 10) hx hb dX12_side_34 (by decide) ?_
  refine lv_idiv hx hb dX12_side_36 (by decide) ?_
  refine lv_re e7 ?_
  refine lv_iload_n hx hb dX12_side_37 rfl (lv_at hl 2 rfl) ?_
  refine lv_bipush (v := 10) hx hb dX12_side_38 (by decide) ?_
  refine lv_irem hx hb dX12_side_40 (by decide) ?_
  refine lv_re e14 ?_
  refine lv_icmp_eq (tgt := 54) hx hb dX12_side_41 (by decide) (fun c20 => ?_) (fun c20 => ?_)
  · have c20 := ci_eq c20
    refine lv_iconst (v := (-1)) hx hb dX12_side_54 (by decide) ?_
    have hpo : (0 ≤ v12_worms.toInt ∧ v12_worms.toInt ≤ 40) ∧ (0 ≤ v12_laidMany.toInt ∧ v12_laidMany.toInt ≤ 8) ∧ (0 ≤ v12_wanted.toInt ∧ v12_wanted.toInt ≤ 8) ∧ (∀ j : Nat, 0 ≤ (f12_sorted j).toInt ∧ (f12_sorted j).toInt ≤ 39) ∧ (∀ j : Nat, 0 ≤ (f12_laid j).toInt ∧ (f12_laid j).toInt ≤ 7) := ⟨i5, i6, i7, hf12_sorted, hf12_laid⟩
    exact ret _ _ _ _ (-1) (v12_worms, v12_laidMany, v12_wanted, v12_orderMany, v12_firstOrder, f12_sorted, f12_wormOf, f12_wormSheets, f12_laid, f12_sides) dX12_side_55 hpo hP hD hS
  have c20 := ci_ne c20
  refine lv_iload_n hx hb dX12_side_44 rfl (lv_at hl 3 rfl) ?_
  refine lv_i2l hx hb dX12_side_45 rfl ?_
  refine lv_topl (fun x21 e22 => ?_)
  have h23 : x21.toInt = p3.toInt := cl_i2l e22
  refine lv_lconst (v := (0 : Int64)) hx hb dX12_side_46 (by decide) ?_
  refine lv_lconst (v := (1 : Int64)) hx hb dX12_side_47 (by decide) ?_
  refine kcm_i hA hAB hP hD hS [false, false, false, false, false, false, false, false] rfl (fun _ => rfl) (fun hPc hDc => va_runS (As := [.long x21, .long (0 : Int64), .long (1 : Int64)]) (rest := []) ⟨hx, hb, hml, hown, hts⟩ (k_X12_within l D κ β H.size x21 (0 : Int64) (1 : Int64)) (va_cwS 3 hts gX12_side_X12_within rfl rfl rfl (by decide +kernel) ⟨Nat.le_of_ble_eq_true rfl, Nat.le_of_ble_eq_true rfl⟩) (pk_S hK hS hAB hPc hDc) rfl rfl hl.1 rfl (lv_room (Nat.le_of_ble_eq_true rfl)) dX12_side_48 ⟨Nat.le_of_ble_eq_true rfl, Nat.le_of_ble_eq_true rfl⟩) (fun x24 u25 H locs hw hPD hS => ?_)
  have h26 : (x24.toInt = 1 ∧ (0 : Int64).toInt ≤ x21.toInt ∧ x21.toInt ≤ (1 : Int64).toInt) ∨ (x24.toInt = 0 ∧ (x21.toInt < (0 : Int64).toInt ∨ (1 : Int64).toInt < x21.toInt)) := hw
  obtain ⟨hP, hD⟩ : PD D A [O12 a12 r12 v12_keptMany v12_done v12_sheets v12_holes v12_worms v12_laidMany v12_wanted v12_orderMany v12_firstOrder v12_lines v12_marks v12_dots v12_madeIn v12_bound v12_places v12_maps v12_tapeMany v12_stories v12_base v12_at v12_ends v12_fault v12_opened v12_bodies v12_ran v12_ownKind v12_ownNumber, (cI κ (r12 8) 40 f12_sheetOf), (cI κ (r12 9) 40 f12_placeOf), (cI κ (r12 10) 40 f12_sorted), (cI κ (r12 11) 40 f12_wormOf), (cI κ (r12 12) 40 f12_wormSheets), (cI κ (r12 14) 8 f12_laid), (cI κ (r12 19) 64 f12_sides)] H := hPD
  refine lv_if_ne (tgt := 56) hx hb dX12_side_51 (by decide) (fun c27 => ?_) (fun c27 => ?_)
  · have c27 := ci_ne c27
    refine lv_aload_n hx hb dX12_side_56 rfl (lv_at hl 0 rfl) ?_
    refine va_get (D := D) (ci := 12) (v := .int v12_sheets) (C := RX12) (T := TX12) (N := 63) hx hb hts w1 hown hK.1 hP 0 rfl rfl 6 (by decide) w0 (fun _ h9 => h9) rfl dX12_side_57 ?_
    refine lv_bipush (v := 6) hx hb dX12_side_60 (by decide) ?_
    refine lv_icmp_le (tgt := 68) hx hb dX12_side_62 (by decide) (fun c28 => ?_) (fun c28 => ?_)
    · have c28 := ci_le c28
      refine lv_aload_n hx hb dX12_side_68 rfl (lv_at hl 0 rfl) ?_
      refine lv_iload_n hx hb dX12_side_69 rfl (lv_at hl 1 rfl) ?_
      refine lv_iconst (v := (-1)) hx hb dX12_side_70 (by decide) ?_
      refine kcm_v hA hAB hP hD hS [true, true, true, true, true, true, true, true] rfl (fun _ => rfl) (fun hPc hDc => va_runV (As := [.int p1, .int (-1)]) (rest := []) ⟨hx, hb, hml, hown, hts⟩ (k_X12_findOrders l D κ β a12 r12 v12_keptMany v12_done v12_sheets v12_holes v12_worms v12_laidMany v12_wanted v12_orderMany v12_firstOrder v12_lines v12_marks v12_dots v12_madeIn v12_bound v12_places v12_maps v12_tapeMany v12_stories v12_base v12_at v12_ends v12_fault v12_opened v12_bodies v12_ran v12_ownKind v12_ownNumber f12_sheetOf f12_placeOf f12_sorted f12_wormOf f12_wormSheets f12_laid f12_sides H.size p1 (-1) i1 i2 i3 i4 i5 i6 i7 i8 i9 i10 i11 i12 i13 i14 i15 i16 hf12_sorted hf12_laid i17 (by omega)) (cwV 2 hts gX12_side_X12_findOrders rfl rfl rfl (by decide +kernel) ⟨Nat.le_of_ble_eq_true rfl, Nat.le_of_ble_eq_true rfl⟩) (pk_V hK hS hAB hPc hDc 0 (ci := 12) rfl rfl rfl) rfl rfl hl.1 rfl (lv_room (Nat.le_of_ble_eq_true rfl)) dX12_side_71 ⟨Nat.le_of_ble_eq_true rfl, Nat.le_of_ble_eq_true rfl⟩) (fun u39 H locs hw hPD hS => ?_)
      obtain ⟨x29, x30, x31, x32, x33, g34, g35, g36, g37, g38⟩ := u39
      obtain ⟨h40, h41, h42, h43, h44⟩ : (Rg 0 40 x29) ∧ (Rg 0 8 x30) ∧ (Rg 0 8 x31) ∧ (∀ j : Nat, 0 ≤ (g34 j).toInt ∧ (g34 j).toInt ≤ 39) ∧ (∀ j : Nat, 0 ≤ (g37 j).toInt ∧ (g37 j).toInt ≤ 7) := hw
      obtain ⟨hP, hD⟩ : PD D A [O12 a12 r12 v12_keptMany v12_done v12_sheets v12_holes x29 x30 x31 x32 x33 v12_lines v12_marks v12_dots v12_madeIn v12_bound v12_places v12_maps v12_tapeMany v12_stories v12_base v12_at v12_ends v12_fault v12_opened v12_bodies v12_ran v12_ownKind v12_ownNumber, (cI κ (r12 8) 40 f12_sheetOf), (cI κ (r12 9) 40 f12_placeOf), (cI κ (r12 10) 40 g34), (cI κ (r12 11) 40 g35), (cI κ (r12 12) 40 g36), (cI κ (r12 14) 8 g37), (cI κ (r12 19) 64 g38)] H := hPD
      refine lv_aload_n hx hb dX12_side_74 rfl (lv_at hl 0 rfl) ?_
      refine va_get (D := D) (ci := 12) (v := .int x32) (C := RX12) (T := TX12) (N := 63) hx hb hts w1 hown hK.1 hP 0 rfl rfl 17 (by decide) w2 (fun _ h9 => h9) rfl dX12_side_75 ?_
      refine lv_if_ne (tgt := 84) hx hb dX12_side_78 (by decide) (fun c45 => ?_) (fun c45 => ?_)
      · have c45 := ci_ne c45
        refine lv_aload_n hx hb dX12_side_84 rfl (lv_at hl 0 rfl) ?_
        refine va_get (D := D) (ci := 12) (v := .ref (r12 19)) (C := RX12) (T := TX12) (N := 63) hx hb hts w1 hown hK.1 hP 0 rfl rfl 19 (by decide) w3 (fun _ h9 => h9) rfl dX12_side_85 ?_
        refine lv_bipush (v := 8) hx hb dX12_side_88 (by decide) ?_
        refine lv_iload_n hx hb dX12_side_90 rfl (lv_at hl 2 rfl) ?_
        refine lv_bipush (v := 10) hx hb dX12_side_91 (by decide) ?_
        refine lv_idiv hx hb dX12_side_93 (by decide) ?_
        refine lv_re e7 ?_
        refine lv_imul hx hb dX12_side_94 ?_
        refine lv_topi (fun x46 e47 => ?_)
        try have h48 : x46.toInt = 8 * x6.toInt := ci_mulL (n := 8) (by decide) e47 (by omega) (by omega)
        refine lv_iload_n hx hb dX12_side_95 rfl (lv_at hl 2 rfl) ?_
        refine lv_bipush (v := 10) hx hb dX12_side_96 (by decide) ?_
        refine lv_irem hx hb dX12_side_98 (by decide) ?_
        refine lv_re e14 ?_
        refine lv_iadd hx hb dX12_side_99 ?_
        refine lv_topi (fun x49 e50 => ?_)
        try have h51 : x49.toInt = x46.toInt + x13.toInt := ci_add e50 (by omega) (by omega)
        refine va_iald hx hb hK.1 hP 7 1 rfl rfl (i := x49) (ix (by omega) (by omega)) dX12_side_100 ?_
        refine lv_topi (fun x52 e53 => ?_)
        refine lv_istore (lv' := [(4, .int x52), (0, .ref a12), (1, .int p1), (2, .int p2), (3, .int p3)]) hx hb dX12_side_101 hl (by decide) rfl (fun ls hl => ?_)
        refine lv_iload_n hx hb dX12_side_103 rfl (lv_at hl 4 rfl) ?_
        refine lv_if_ne (tgt := 124) hx hb dX12_side_104 (by decide) (fun c54 => ?_) (fun c54 => ?_)
        · have c54 := ci_ne c54
          refine lv_iload hx hb dX12_side_124 (lv_at hl 0 rfl) ?_
          refine lv_if_le (tgt := 133) hx hb dX12_side_126 (by decide) (fun c55 => ?_) (fun c55 => ?_)
          · have c55 := ci_le c55
            refine lv_iconst (v := 0) hx hb dX12_side_133 (by decide) ?_
            have hpo : (0 ≤ x29.toInt ∧ x29.toInt ≤ 40) ∧ (0 ≤ x30.toInt ∧ x30.toInt ≤ 8) ∧ (0 ≤ x31.toInt ∧ x31.toInt ≤ 8) ∧ (∀ j : Nat, 0 ≤ (g34 j).toInt ∧ (g34 j).toInt ≤ 39) ∧ (∀ j : Nat, 0 ≤ (g37 j).toInt ∧ (g37 j).toInt ≤ 7) := ⟨h40, h41, h42, h43, h44⟩
            exact ret _ _ _ _ 0 (x29, x30, x31, x32, x33, g34, g35, g36, g37, g38) dX12_side_134 hpo hP hD hS
          have c55 := ci_nle c55
          refine lv_iconst (v := 1) hx hb dX12_side_129 (by decide) ?_
          refine lv_goto (tgt := 134) hx hb dX12_side_130 (by decide) ?_
          have hpo : (0 ≤ x29.toInt ∧ x29.toInt ≤ 40) ∧ (0 ≤ x30.toInt ∧ x30.toInt ≤ 8) ∧ (0 ≤ x31.toInt ∧ x31.toInt ≤ 8) ∧ (∀ j : Nat, 0 ≤ (g34 j).toInt ∧ (g34 j).toInt ≤ 39) ∧ (∀ j : Nat, 0 ≤ (g37 j).toInt ∧ (g37 j).toInt ≤ 7) := ⟨h40, h41, h42, h43, h44⟩
          exact ret _ _ _ _ 1 (x29, x30, x31, x32, x33, g34, g35, g36, g37, g38) dX12_side_134 hpo hP hD hS
        have c54 := ci_eq c54
        refine lv_iload hx hb dX12_side_107 (lv_at hl 0 rfl) ?_
        refine lv_aload_n hx hb dX12_side_109 rfl (lv_at hl 1 rfl) ?_
        refine va_get (D := D) (ci := 12) (v := .int x32) (C := RX12) (T := TX12) (N := 63) hx hb hts w1 hown hK.1 hP 0 rfl rfl 17 (by decide) w2 (fun _ h9 => h9) rfl dX12_side_110 ?_
        refine lv_icmp_ne (tgt := 120) hx hb dX12_side_113 (by decide) (fun c56 => ?_) (fun c56 => ?_)
        · have c56 := ci_ne c56
          refine lv_iconst (v := 0) hx hb dX12_side_120 (by decide) ?_
          refine lv_goto (tgt := 134) hx hb dX12_side_121 (by decide) ?_
          have hpo : (0 ≤ x29.toInt ∧ x29.toInt ≤ 40) ∧ (0 ≤ x30.toInt ∧ x30.toInt ≤ 8) ∧ (0 ≤ x31.toInt ∧ x31.toInt ≤ 8) ∧ (∀ j : Nat, 0 ≤ (g34 j).toInt ∧ (g34 j).toInt ≤ 39) ∧ (∀ j : Nat, 0 ≤ (g37 j).toInt ∧ (g37 j).toInt ≤ 7) := ⟨h40, h41, h42, h43, h44⟩
          exact ret _ _ _ _ 0 (x29, x30, x31, x32, x33, g34, g35, g36, g37, g38) dX12_side_134 hpo hP hD hS
        have c56 := ci_eq c56
        refine lv_iconst (v := 1) hx hb dX12_side_116 (by decide) ?_
        refine lv_goto (tgt := 134) hx hb dX12_side_117 (by decide) ?_
        have hpo : (0 ≤ x29.toInt ∧ x29.toInt ≤ 40) ∧ (0 ≤ x30.toInt ∧ x30.toInt ≤ 8) ∧ (0 ≤ x31.toInt ∧ x31.toInt ≤ 8) ∧ (∀ j : Nat, 0 ≤ (g34 j).toInt ∧ (g34 j).toInt ≤ 39) ∧ (∀ j : Nat, 0 ≤ (g37 j).toInt ∧ (g37 j).toInt ≤ 7) := ⟨h40, h41, h42, h43, h44⟩
        exact ret _ _ _ _ 1 (x29, x30, x31, x32, x33, g34, g35, g36, g37, g38) dX12_side_134 hpo hP hD hS
      have c45 := ci_eq c45
      refine lv_bipush (v := (-2)) hx hb dX12_side_81 (by decide) ?_
      have hpo : (0 ≤ x29.toInt ∧ x29.toInt ≤ 40) ∧ (0 ≤ x30.toInt ∧ x30.toInt ≤ 8) ∧ (0 ≤ x31.toInt ∧ x31.toInt ≤ 8) ∧ (∀ j : Nat, 0 ≤ (g34 j).toInt ∧ (g34 j).toInt ≤ 39) ∧ (∀ j : Nat, 0 ≤ (g37 j).toInt ∧ (g37 j).toInt ≤ 7) := ⟨h40, h41, h42, h43, h44⟩
      exact ret _ _ _ _ (-2) (x29, x30, x31, x32, x33, g34, g35, g36, g37, g38) dX12_side_83 hpo hP hD hS
    have c28 := ci_nle c28
    refine lv_bipush (v := (-4)) hx hb dX12_side_65 (by decide) ?_
    have hpo : (0 ≤ v12_worms.toInt ∧ v12_worms.toInt ≤ 40) ∧ (0 ≤ v12_laidMany.toInt ∧ v12_laidMany.toInt ≤ 8) ∧ (0 ≤ v12_wanted.toInt ∧ v12_wanted.toInt ≤ 8) ∧ (∀ j : Nat, 0 ≤ (f12_sorted j).toInt ∧ (f12_sorted j).toInt ≤ 39) ∧ (∀ j : Nat, 0 ≤ (f12_laid j).toInt ∧ (f12_laid j).toInt ≤ 7) := ⟨i5, i6, i7, hf12_sorted, hf12_laid⟩
    exact ret _ _ _ _ (-4) (v12_worms, v12_laidMany, v12_wanted, v12_orderMany, v12_firstOrder, f12_sorted, f12_wormOf, f12_wormSheets, f12_laid, f12_sides) dX12_side_67 hpo hP hD hS
  have c27 := ci_eq c27
  refine lv_iconst (v := (-1)) hx hb dX12_side_54 (by decide) ?_
  have hpo : (0 ≤ v12_worms.toInt ∧ v12_worms.toInt ≤ 40) ∧ (0 ≤ v12_laidMany.toInt ∧ v12_laidMany.toInt ≤ 8) ∧ (0 ≤ v12_wanted.toInt ∧ v12_wanted.toInt ≤ 8) ∧ (∀ j : Nat, 0 ≤ (f12_sorted j).toInt ∧ (f12_sorted j).toInt ≤ 39) ∧ (∀ j : Nat, 0 ≤ (f12_laid j).toInt ∧ (f12_laid j).toInt ≤ 7) := ⟨i5, i6, i7, hf12_sorted, hf12_laid⟩
  exact ret _ _ _ _ (-1) (v12_worms, v12_laidMany, v12_wanted, v12_orderMany, v12_firstOrder, f12_sorted, f12_wormOf, f12_wormSheets, f12_laid, f12_sides) dX12_side_55 hpo hP hD hS
set_option maxHeartbeats 4000000 in
set_option maxRecDepth 100000 in
theorem k_X12_without (l : Launch) (D : va_G) (κ : Nat → ClassId) (β : Nat) (a12 : Nat) (r12 : Nat → Nat) (v12_keptMany : Int32) (v12_done : Int32) (v12_sheets : Int32) (v12_holes : Int32) (v12_worms : Int32) (v12_laidMany : Int32) (v12_wanted : Int32) (v12_orderMany : Int32) (v12_firstOrder : Int32) (v12_lines : Int32) (v12_marks : Int32) (v12_dots : Int32) (v12_madeIn : Int32) (v12_bound : Int32) (v12_places : Int32) (v12_maps : Int32) (v12_tapeMany : Int32) (v12_stories : Int32) (v12_base : Int32) (v12_at : Int32) (v12_ends : Int32) (v12_fault : Int32) (v12_opened : Int32) (v12_bodies : Int32) (v12_ran : Int32) (v12_ownKind : Int32) (v12_ownNumber : Int32) (f12_sheetOf : Nat → Int32) (f12_placeOf : Nat → Int32) (f12_sorted : Nat → Int32) (f12_wormOf : Nat → Int32) (f12_wormSheets : Nat → Int32) (f12_laid : Nat → Int32) (f12_sides : Nat → Int32) (sz : Nat) (p1 : Int32) (p2 : Int32) (i1 : Rg 0 40 v12_keptMany) (i2 : Rg 0 40 v12_done) (i3 : Rg 0 8 v12_sheets) (i4 : Rg 0 40 v12_holes) (i5 : Rg 0 40 v12_worms) (i6 : Rg 0 8 v12_laidMany) (i7 : Rg 0 8 v12_wanted) (i8 : Rg 0 20 v12_lines) (i9 : Rg 0 60 v12_marks) (i10 : Rg 0 40 v12_dots) (i11 : Rg 0 20 v12_places) (i12 : Rg 0 8 v12_maps) (i13 : Rg 0 120 v12_tapeMany) (i14 : Rg 0 6 v12_stories) (i15 : Rg 0 50 v12_bodies) (i16 : Rg 0 1000 v12_ran) (hf12_sorted : ∀ j : Nat, 0 ≤ (f12_sorted j).toInt ∧ (f12_sorted j).toInt ≤ 39) (hf12_laid : ∀ j : Nat, 0 ≤ (f12_laid j).toInt ∧ (f12_laid j).toInt ≤ 7) (i17 : v12_done.toInt ≤ v12_keptMany.toInt) : Met l yX12_without wsX12_without ({ frames := 11, cells := 0, slots := 0, locals := 303 } : Room) (PcK D κ β [O12 a12 r12 v12_keptMany v12_done v12_sheets v12_holes v12_worms v12_laidMany v12_wanted v12_orderMany v12_firstOrder v12_lines v12_marks v12_dots v12_madeIn v12_bound v12_places v12_maps v12_tapeMany v12_stories v12_base v12_at v12_ends v12_fault v12_opened v12_bodies v12_ran v12_ownKind v12_ownNumber, (cI κ (r12 8) 40 f12_sheetOf), (cI κ (r12 9) 40 f12_placeOf), (cI κ (r12 10) 40 f12_sorted), (cI κ (r12 11) 40 f12_wormOf), (cI κ (r12 12) 40 f12_wormSheets), (cI κ (r12 14) 8 f12_laid), (cI κ (r12 19) 64 f12_sides)] sz [.ref a12, .int p1, .int p2]) (QiK D (fun (r : Int32) (u : Int32 × Int32 × Int32 × Int32 × Int32 × (Nat → Int32) × (Nat → Int32) × (Nat → Int32) × (Nat → Int32) × (Nat → Int32)) => (0 ≤ u.1.toInt ∧ u.1.toInt ≤ 40) ∧ (0 ≤ u.2.1.toInt ∧ u.2.1.toInt ≤ 8) ∧ (0 ≤ u.2.2.1.toInt ∧ u.2.2.1.toInt ≤ 8) ∧ (∀ j : Nat, 0 ≤ (u.2.2.2.2.2.1 j).toInt ∧ (u.2.2.2.2.2.1 j).toInt ≤ 39) ∧ (∀ j : Nat, 0 ≤ (u.2.2.2.2.2.2.2.2.1 j).toInt ∧ (u.2.2.2.2.2.2.2.2.1 j).toInt ≤ 7)) (fun (u : Int32 × Int32 × Int32 × Int32 × Int32 × (Nat → Int32) × (Nat → Int32) × (Nat → Int32) × (Nat → Int32) × (Nat → Int32)) => [O12 a12 r12 v12_keptMany v12_done v12_sheets v12_holes u.1 u.2.1 u.2.2.1 u.2.2.2.1 u.2.2.2.2.1 v12_lines v12_marks v12_dots v12_madeIn v12_bound v12_places v12_maps v12_tapeMany v12_stories v12_base v12_at v12_ends v12_fault v12_opened v12_bodies v12_ran v12_ownKind v12_ownNumber, (cI κ (r12 8) 40 f12_sheetOf), (cI κ (r12 9) 40 f12_placeOf), (cI κ (r12 10) 40 u.2.2.2.2.2.1), (cI κ (r12 11) 40 u.2.2.2.2.2.2.1), (cI κ (r12 12) 40 u.2.2.2.2.2.2.2.1), (cI κ (r12 14) 8 u.2.2.2.2.2.2.2.2.1), (cI κ (r12 19) 64 u.2.2.2.2.2.2.2.2.2)]) [O12 a12 r12 v12_keptMany v12_done v12_sheets v12_holes v12_worms v12_laidMany v12_wanted v12_orderMany v12_firstOrder v12_lines v12_marks v12_dots v12_madeIn v12_bound v12_places v12_maps v12_tapeMany v12_stories v12_base v12_at v12_ends v12_fault v12_opened v12_bodies v12_ran v12_ownKind v12_ownNumber, (cI κ (r12 8) 40 f12_sheetOf), (cI κ (r12 9) 40 f12_placeOf), (cI κ (r12 10) 40 f12_sorted), (cI κ (r12 11) 40 f12_wormOf), (cI κ (r12 12) 40 f12_wormSheets), (cI κ (r12 14) 8 f12_laid), (cI κ (r12 19) 64 f12_sides)] sz) 0 0 (va_A [O12 a12 r12 v12_keptMany v12_done v12_sheets v12_holes v12_worms v12_laidMany v12_wanted v12_orderMany v12_firstOrder v12_lines v12_marks v12_dots v12_madeIn v12_bound v12_places v12_maps v12_tapeMany v12_stories v12_base v12_at v12_ends v12_fault v12_opened v12_bodies v12_ran v12_ownKind v12_ownNumber, (cI κ (r12 8) 40 f12_sheetOf), (cI κ (r12 9) 40 f12_placeOf), (cI κ (r12 10) 40 f12_sorted), (cI κ (r12 11) 40 f12_wormOf), (cI κ (r12 12) 40 f12_wormSheets), (cI κ (r12 14) 8 f12_laid), (cI κ (r12 19) 64 f12_sides)] sz) := by
  refine ofK_i (cc := cX12_without) (maxL := 3) (own := RX12) (by decide) rfl rfl (Nat.le_of_ble_eq_true rfl) ?_
  intro p e s m args below meth c Q A ls hsz hx hb hml hts hown hK hA hAB hP hD hl ret
  have hS : va_S A s.heap s.heap [] := va_S.rf
  have hl : lv_has ls 3 [(0, .ref a12), (1, .int p1), (2, .int p2)] := hl
  have w0 := hts (.fieldLink RX12 133 "OlderSkinModel" "sheets" "I") (List.mem_of_getElem? (i := 1) rfl)
  have w1 := (fun w h => List.mem_cons_of_mem _ (List.mem_append_right _ h) : ∀ w ∈ u_ws RX12 TX12 63, w ∈ wsX12_without)
  have w2 := hts (.fieldLink RX12 179 "OlderSkinModel" "orderMany" "I") (List.mem_of_getElem? (i := 2) rfl)
  have l0 : (0 : Int32).toInt = 0 := by decide
  have l1 : ((-1) : Int32).toInt = -1 := by decide
  have l2 : (7 : Int32).toInt = 7 := by decide
  have l3 : ((-4) : Int32).toInt = -4 := by decide
  have i3 : 0 ≤ v12_sheets.toInt ∧ v12_sheets.toInt ≤ 8 := i3
  refine lv_iload_n hx hb dX12_without_0 rfl (lv_at hl 1 rfl) ?_
  refine kcm_i hA hAB hP hD hS [false, false, false, false, false, false, false, false] rfl (fun _ => rfl) (fun hPc hDc => va_runS (As := [.int p1]) (rest := []) ⟨hx, hb, hml, hown, hts⟩ (k_X12_isSlack l D κ β s.heap.size p1) (va_cwS 1 hts gX12_without_X12_isSlack rfl rfl rfl (by decide +kernel) ⟨Nat.le_of_ble_eq_true rfl, Nat.le_of_ble_eq_true rfl⟩) (pk_S hK hS hAB hPc hDc) rfl rfl hl.1 rfl (lv_room (Nat.le_of_ble_eq_true rfl)) dX12_without_1 ⟨Nat.le_of_ble_eq_true rfl, Nat.le_of_ble_eq_true rfl⟩) (fun x1 u2 H locs hw hPD hS => ?_)
  have h3 : (x1.toInt = 1 ∧ 0 ≤ p1.toInt ∧ p1.toInt ≤ 99) ∨ (x1.toInt = 0 ∧ (p1.toInt < 0 ∨ 99 < p1.toInt)) := hw
  obtain ⟨hP, hD⟩ : PD D A [O12 a12 r12 v12_keptMany v12_done v12_sheets v12_holes v12_worms v12_laidMany v12_wanted v12_orderMany v12_firstOrder v12_lines v12_marks v12_dots v12_madeIn v12_bound v12_places v12_maps v12_tapeMany v12_stories v12_base v12_at v12_ends v12_fault v12_opened v12_bodies v12_ran v12_ownKind v12_ownNumber, (cI κ (r12 8) 40 f12_sheetOf), (cI κ (r12 9) 40 f12_placeOf), (cI κ (r12 10) 40 f12_sorted), (cI κ (r12 11) 40 f12_wormOf), (cI κ (r12 12) 40 f12_wormSheets), (cI κ (r12 14) 8 f12_laid), (cI κ (r12 19) 64 f12_sides)] H := hPD
  refine lv_if_eq (tgt := 15) hx hb dX12_without_4 (by decide) (fun c4 => ?_) (fun c4 => ?_)
  · have c4 := ci_eq c4
    refine lv_iconst (v := (-1)) hx hb dX12_without_15 (by decide) ?_
    have hpo : (0 ≤ v12_worms.toInt ∧ v12_worms.toInt ≤ 40) ∧ (0 ≤ v12_laidMany.toInt ∧ v12_laidMany.toInt ≤ 8) ∧ (0 ≤ v12_wanted.toInt ∧ v12_wanted.toInt ≤ 8) ∧ (∀ j : Nat, 0 ≤ (f12_sorted j).toInt ∧ (f12_sorted j).toInt ≤ 39) ∧ (∀ j : Nat, 0 ≤ (f12_laid j).toInt ∧ (f12_laid j).toInt ≤ 7) := ⟨i5, i6, i7, hf12_sorted, hf12_laid⟩
    exact ret _ _ _ _ (-1) (v12_worms, v12_laidMany, v12_wanted, v12_orderMany, v12_firstOrder, f12_sorted, f12_wormOf, f12_wormSheets, f12_laid, f12_sides) dX12_without_16 hpo hP hD hS
  have c4 := ci_ne c4
  refine lv_aload_n hx hb dX12_without_7 rfl (lv_at hl 0 rfl) ?_
  refine lv_iload_n hx hb dX12_without_8 rfl (lv_at hl 2 rfl) ?_
  refine kcm_i hA hAB hP hD hS [true, false, false, false, false, false, false, false] rfl (fun _ => rfl) (fun hPc hDc => va_runV (As := [.int p2]) (rest := []) ⟨hx, hb, hml, hown, hts⟩ (k_X12_isSheet l D κ β a12 r12 v12_keptMany v12_done v12_sheets v12_holes v12_worms v12_laidMany v12_wanted v12_orderMany v12_firstOrder v12_lines v12_marks v12_dots v12_madeIn v12_bound v12_places v12_maps v12_tapeMany v12_stories v12_base v12_at v12_ends v12_fault v12_opened v12_bodies v12_ran v12_ownKind v12_ownNumber H.size p2 i1 i2 i3 i4 i5 i6 i7 i8 i9 i10 i11 i12 i13 i14 i15 i16 i17) (cwV 1 hts gX12_without_X12_isSheet rfl rfl rfl (by decide +kernel) ⟨Nat.le_of_ble_eq_true rfl, Nat.le_of_ble_eq_true rfl⟩) (pk_V hK hS hAB hPc hDc 0 (ci := 12) rfl rfl rfl) rfl rfl hl.1 rfl (lv_room (Nat.le_of_ble_eq_true rfl)) dX12_without_9 ⟨Nat.le_of_ble_eq_true rfl, Nat.le_of_ble_eq_true rfl⟩) (fun x5 u6 H locs hw hPD hS => ?_)
  have h7 : (x5.toInt = 1 ∧ 0 ≤ p2.toInt ∧ p2.toInt < v12_sheets.toInt) ∨ (x5.toInt = 0 ∧ (p2.toInt < 0 ∨ v12_sheets.toInt ≤ p2.toInt)) := hw
  obtain ⟨hP, hD⟩ : PD D A [O12 a12 r12 v12_keptMany v12_done v12_sheets v12_holes v12_worms v12_laidMany v12_wanted v12_orderMany v12_firstOrder v12_lines v12_marks v12_dots v12_madeIn v12_bound v12_places v12_maps v12_tapeMany v12_stories v12_base v12_at v12_ends v12_fault v12_opened v12_bodies v12_ran v12_ownKind v12_ownNumber, (cI κ (r12 8) 40 f12_sheetOf), (cI κ (r12 9) 40 f12_placeOf), (cI κ (r12 10) 40 f12_sorted), (cI κ (r12 11) 40 f12_wormOf), (cI κ (r12 12) 40 f12_wormSheets), (cI κ (r12 14) 8 f12_laid), (cI κ (r12 19) 64 f12_sides)] H := hPD
  refine lv_if_ne (tgt := 17) hx hb dX12_without_12 (by decide) (fun c8 => ?_) (fun c8 => ?_)
  · have c8 := ci_ne c8
    refine lv_aload_n hx hb dX12_without_17 rfl (lv_at hl 0 rfl) ?_
    refine va_get (D := D) (ci := 12) (v := .int v12_sheets) (C := RX12) (T := TX12) (N := 63) hx hb hts w1 hown hK.1 hP 0 rfl rfl 6 (by decide) w0 (fun _ h9 => h9) rfl dX12_without_18 ?_
    refine lv_bipush (v := 7) hx hb dX12_without_21 (by decide) ?_
    refine lv_icmp_le (tgt := 29) hx hb dX12_without_23 (by decide) (fun c9 => ?_) (fun c9 => ?_)
    · have c9 := ci_le c9
      refine lv_aload_n hx hb dX12_without_29 rfl (lv_at hl 0 rfl) ?_
      refine lv_iload_n hx hb dX12_without_30 rfl (lv_at hl 1 rfl) ?_
      refine lv_iload_n hx hb dX12_without_31 rfl (lv_at hl 2 rfl) ?_
      refine kcm_v hA hAB hP hD hS [true, true, true, true, true, true, true, true] rfl (fun _ => rfl) (fun hPc hDc => va_runV (As := [.int p1, .int p2]) (rest := []) ⟨hx, hb, hml, hown, hts⟩ (k_X12_findOrders l D κ β a12 r12 v12_keptMany v12_done v12_sheets v12_holes v12_worms v12_laidMany v12_wanted v12_orderMany v12_firstOrder v12_lines v12_marks v12_dots v12_madeIn v12_bound v12_places v12_maps v12_tapeMany v12_stories v12_base v12_at v12_ends v12_fault v12_opened v12_bodies v12_ran v12_ownKind v12_ownNumber f12_sheetOf f12_placeOf f12_sorted f12_wormOf f12_wormSheets f12_laid f12_sides H.size p1 p2 i1 i2 i3 i4 i5 i6 i7 i8 i9 i10 i11 i12 i13 i14 i15 i16 hf12_sorted hf12_laid i17 (by omega)) (cwV 2 hts gX12_without_X12_findOrders rfl rfl rfl (by decide +kernel) ⟨Nat.le_of_ble_eq_true rfl, Nat.le_of_ble_eq_true rfl⟩) (pk_V hK hS hAB hPc hDc 0 (ci := 12) rfl rfl rfl) rfl rfl hl.1 rfl (lv_room (Nat.le_of_ble_eq_true rfl)) dX12_without_32 ⟨Nat.le_of_ble_eq_true rfl, Nat.le_of_ble_eq_true rfl⟩) (fun u20 H locs hw hPD hS => ?_)
      obtain ⟨x10, x11, x12, x13, x14, g15, g16, g17, g18, g19⟩ := u20
      obtain ⟨h21, h22, h23, h24, h25⟩ : (Rg 0 40 x10) ∧ (Rg 0 8 x11) ∧ (Rg 0 8 x12) ∧ (∀ j : Nat, 0 ≤ (g15 j).toInt ∧ (g15 j).toInt ≤ 39) ∧ (∀ j : Nat, 0 ≤ (g18 j).toInt ∧ (g18 j).toInt ≤ 7) := hw
      obtain ⟨hP, hD⟩ : PD D A [O12 a12 r12 v12_keptMany v12_done v12_sheets v12_holes x10 x11 x12 x13 x14 v12_lines v12_marks v12_dots v12_madeIn v12_bound v12_places v12_maps v12_tapeMany v12_stories v12_base v12_at v12_ends v12_fault v12_opened v12_bodies v12_ran v12_ownKind v12_ownNumber, (cI κ (r12 8) 40 f12_sheetOf), (cI κ (r12 9) 40 f12_placeOf), (cI κ (r12 10) 40 g15), (cI κ (r12 11) 40 g16), (cI κ (r12 12) 40 g17), (cI κ (r12 14) 8 g18), (cI κ (r12 19) 64 g19)] H := hPD
      refine lv_aload_n hx hb dX12_without_35 rfl (lv_at hl 0 rfl) ?_
      refine va_get (D := D) (ci := 12) (v := .int x13) (C := RX12) (T := TX12) (N := 63) hx hb hts w1 hown hK.1 hP 0 rfl rfl 17 (by decide) w2 (fun _ h9 => h9) rfl dX12_without_36 ?_
      have hpo : (0 ≤ x10.toInt ∧ x10.toInt ≤ 40) ∧ (0 ≤ x11.toInt ∧ x11.toInt ≤ 8) ∧ (0 ≤ x12.toInt ∧ x12.toInt ≤ 8) ∧ (∀ j : Nat, 0 ≤ (g15 j).toInt ∧ (g15 j).toInt ≤ 39) ∧ (∀ j : Nat, 0 ≤ (g18 j).toInt ∧ (g18 j).toInt ≤ 7) := ⟨h21, h22, h23, h24, h25⟩
      exact ret _ _ _ _ x13 (x10, x11, x12, x13, x14, g15, g16, g17, g18, g19) dX12_without_39 hpo hP hD hS
    have c9 := ci_nle c9
    refine lv_bipush (v := (-4)) hx hb dX12_without_26 (by decide) ?_
    have hpo : (0 ≤ v12_worms.toInt ∧ v12_worms.toInt ≤ 40) ∧ (0 ≤ v12_laidMany.toInt ∧ v12_laidMany.toInt ≤ 8) ∧ (0 ≤ v12_wanted.toInt ∧ v12_wanted.toInt ≤ 8) ∧ (∀ j : Nat, 0 ≤ (f12_sorted j).toInt ∧ (f12_sorted j).toInt ≤ 39) ∧ (∀ j : Nat, 0 ≤ (f12_laid j).toInt ∧ (f12_laid j).toInt ≤ 7) := ⟨i5, i6, i7, hf12_sorted, hf12_laid⟩
    exact ret _ _ _ _ (-4) (v12_worms, v12_laidMany, v12_wanted, v12_orderMany, v12_firstOrder, f12_sorted, f12_wormOf, f12_wormSheets, f12_laid, f12_sides) dX12_without_28 hpo hP hD hS
  have c8 := ci_eq c8
  refine lv_iconst (v := (-1)) hx hb dX12_without_15 (by decide) ?_
  have hpo : (0 ≤ v12_worms.toInt ∧ v12_worms.toInt ≤ 40) ∧ (0 ≤ v12_laidMany.toInt ∧ v12_laidMany.toInt ≤ 8) ∧ (0 ≤ v12_wanted.toInt ∧ v12_wanted.toInt ≤ 8) ∧ (∀ j : Nat, 0 ≤ (f12_sorted j).toInt ∧ (f12_sorted j).toInt ≤ 39) ∧ (∀ j : Nat, 0 ≤ (f12_laid j).toInt ∧ (f12_laid j).toInt ≤ 7) := ⟨i5, i6, i7, hf12_sorted, hf12_laid⟩
  exact ret _ _ _ _ (-1) (v12_worms, v12_laidMany, v12_wanted, v12_orderMany, v12_firstOrder, f12_sorted, f12_wormOf, f12_wormSheets, f12_laid, f12_sides) dX12_without_16 hpo hP hD hS
