set_option maxHeartbeats 4000000 in
set_option maxRecDepth 100000 in
theorem k_J7_fill_53178 (l : Launch) (D : va_G) (κ : Nat → ClassId) (β : Nat) (nq1 : Nat) (fq1 : Nat → Int32) (sz : Nat) (q1 : Nat) (p2 : Int32) (i1 : ((nq1 : Nat) : Int) ≤ 1000000) : Met l yJ7_fill_53178 wsJ7_fill_53178 ({ frames := 0, cells := 0, slots := 0, locals := 0 } : Room) (PcK D κ β [(cI κ q1 nq1 fq1)] sz [.ref q1, .int p2]) (QvK D (fun (u : (Nat → Int32)) => True) (fun (u : (Nat → Int32)) => [(cI κ q1 nq1 u)]) [(cI κ q1 nq1 fq1)] sz) 0 0 (va_A [(cI κ q1 nq1 fq1)] sz) := by
  refine ofK_v (cc := cJ7_fill_53178) (maxL := 4) (own := RJ7) (by decide) rfl rfl (Nat.le_of_ble_eq_true rfl) ?_
  intro p e s m args below meth c Q A ls hsz hx hb hml hts hown hK hA hAB hP hD hl hname ret
  have hS : va_S A s.heap s.heap [] := va_S.rf
  have hl : lv_has ls 4 [(0, .ref q1), (1, .int p2)] := hl
  have l0 : (0 : Int32).toInt = 0 := by decide
  have l1 : (1 : Int32).toInt = 1 := by decide
  refine lv_iconst (v := 0) hx hb dJ7_fill_53178_0 (by decide) ?_
  refine lv_istore_n (lv' := [(2, .int 0), (0, .ref q1), (1, .int p2)]) hx hb dJ7_fill_53178_1 rfl hl (by decide) rfl (fun ls hl => ?_)
  refine lv_aload_n hx hb dJ7_fill_53178_2 rfl (lv_at hl 1 rfl) ?_
  refine va_alen hx hb hK.1 hP 0 1 rfl rfl rfl dJ7_fill_53178_3 ?_
  refine lv_topi (fun x1 e2 => ?_)
  have h3 : x1.toInt = ((nq1 : Nat) : Int) := ci_len e2 (by omega)
  refine lv_istore_n (lv' := [(3, .int x1), (2, .int 0), (0, .ref q1), (1, .int p2)]) hx hb dJ7_fill_53178_4 rfl hl (by decide) rfl (fun ls hl => ?_)
  have lp5 : ∀ (n5 : Nat) (k4 : Int32) (g5 : Nat → Int32), (0 ≤ k4.toInt) → (x1.toInt - k4.toInt).toNat < n5 → ∀ (H : Heap) (locs : List Loc), va_P D vwCl [(cI κ q1 nq1 g5)] H → va_D A [(cI κ q1 nq1 g5)] → va_S A s.heap H locs → ∀ ls : Array Slot, lv_has ls 4 [(3, .int x1), (2, .int k4), (0, .ref q1), (1, .int p2)] → W p l e ({ frames := 0, cells := 0, slots := 0, locals := 0 } : Room) s m args below meth c H locs 0 0 Q (F0 m 5 ls []) := by
    intro n5
    induction n5 with
    | zero =>
      intro k4 g5 h6 m7
      exact absurd m7 (Nat.not_lt_zero _)
    | succ n5 ih5 =>
      intro k4 g5 h6 m7 H locs hP hD hS ls hl
      refine lv_iload_n hx hb dJ7_fill_53178_5 rfl (lv_at hl 1 rfl) ?_
      refine lv_iload_n hx hb dJ7_fill_53178_6 rfl (lv_at hl 0 rfl) ?_
      refine lv_icmp_ge (tgt := 20) hx hb dJ7_fill_53178_7 (by decide) (fun c8 => ?_) (fun c8 => ?_)
      · have c8 := ci_le c8
        exact ret _ _ _ _ g5 dJ7_fill_53178_20 trivial hP hD hS
      have c8 := ci_nle c8
      refine lv_aload_n hx hb dJ7_fill_53178_10 rfl (lv_at hl 2 rfl) ?_
      refine lv_iload_n hx hb dJ7_fill_53178_11 rfl (lv_at hl 1 rfl) ?_
      refine lv_iload_n hx hb dJ7_fill_53178_12 rfl (lv_at hl 3 rfl) ?_
      refine va_iast hx hb hK.1 hP hD hS 0 1 rfl rfl (i := k4) (ix (by omega) (by omega)) dJ7_fill_53178_13 (fun H locs hP hD hS => ?_)
      obtain ⟨g9, e10⟩ : ∃ y : Nat → Int32, y = upd g5 k4.toNatClampNeg p2 := ⟨_, rfl⟩
      rw [← e10] at hP hD
      obtain ⟨hP, hD⟩ : PD D A [(cI κ q1 nq1 g9)] H := ⟨hP, hD⟩
      obtain ⟨x11, e12⟩ : ∃ y : Int32, y = k4 + 1 := ⟨_, rfl⟩
      refine lv_iinc (v := x11) (lv' := [(2, .int x11), (3, .int x1), (0, .ref q1), (1, .int p2)]) hx hb dJ7_fill_53178_14 hl (k := 1) rfl (by rw [e12]; rfl) (by decide) rfl (fun ls hl => ?_)
      try have h13 : x11.toInt = k4.toInt + (1 : Int32).toInt := ci_add e12 (by omega) (by omega)
      refine lv_goto (tgt := 5) hx hb dJ7_fill_53178_17 (by decide) ?_
      exact ih5 x11 g9 (by omega) (by omega) _ _ hP hD hS _ (lv_sub hl [1, 0, 2, 3] rfl)
  exact lp5 ((x1.toInt - (0 : Int32).toInt).toNat + 1) 0 fq1 (by omega) (by omega) _ _ hP hD hS _ hl
set_option maxHeartbeats 4000000 in
set_option maxRecDepth 100000 in
theorem k_J6_bitCount_0f7a4 (l : Launch) (D : va_G) (κ : Nat → ClassId) (β : Nat) (sz : Nat) (p1 : Int32) (i1 : (1 : Int) ≤ 0) : Met l yJ6_bitCount_0f7a4 wsJ6_bitCount_0f7a4 ({ frames := 1, cells := 0, slots := 0, locals := 30 } : Room) (PcK D κ β [] sz [.int p1]) (QiK D (fun (r : Int32) (u : Unit) => True) (fun (u : Unit) => []) [] sz) 0 0 (va_A [] sz) := by
  refine ofK_i (cc := cJ6_bitCount_0f7a4) (maxL := 1) (own := RJ6) (by decide) rfl rfl (Nat.le_of_ble_eq_true rfl) ?_
  intro p e s m args below meth c Q A ls hsz hx hb hml hts hown hK hA hAB hP hD hl ret
  have hS : va_S A s.heap s.heap [] := va_S.rf
  have hl : lv_has ls 1 [(0, .int p1)] := hl
  exfalso
  omega
set_option maxHeartbeats 4000000 in
set_option maxRecDepth 100000 in
theorem k_J7_fill_53178_z (l : Launch) (D : va_G) (κ : Nat → ClassId) (β : Nat) (nq1 : Nat) (fq1 : Nat → Int32) (sz : Nat) (q1 : Nat) (p2 : Int32) (hfq1 : ∀ j : Nat, (fq1 j).toInt = 0) (i1 : ((nq1 : Nat) : Int) ≤ 1000000) (i2 : p2.toInt = 0) : Met l yJ7_fill_53178 wsJ7_fill_53178 ({ frames := 0, cells := 0, slots := 0, locals := 0 } : Room) (PcK D κ β [(cI κ q1 nq1 fq1)] sz [.ref q1, .int p2]) (QvK D (fun (u : (Nat → Int32)) => ∀ j : Nat, (u j).toInt = 0) (fun (u : (Nat → Int32)) => [(cI κ q1 nq1 u)]) [(cI κ q1 nq1 fq1)] sz) 0 0 (va_A [(cI κ q1 nq1 fq1)] sz) := by
  refine ofK_v (cc := cJ7_fill_53178) (maxL := 4) (own := RJ7) (by decide) rfl rfl (Nat.le_of_ble_eq_true rfl) ?_
  intro p e s m args below meth c Q A ls hsz hx hb hml hts hown hK hA hAB hP hD hl hname ret
  have hS : va_S A s.heap s.heap [] := va_S.rf
  have hl : lv_has ls 4 [(0, .ref q1), (1, .int p2)] := hl
  have l0 : (0 : Int32).toInt = 0 := by decide
  have l1 : (1 : Int32).toInt = 1 := by decide
  refine lv_iconst (v := 0) hx hb dJ7_fill_53178_0 (by decide) ?_
  refine lv_istore_n (lv' := [(2, .int 0), (0, .ref q1), (1, .int p2)]) hx hb dJ7_fill_53178_1 rfl hl (by decide) rfl (fun ls hl => ?_)
  refine lv_aload_n hx hb dJ7_fill_53178_2 rfl (lv_at hl 1 rfl) ?_
  refine va_alen hx hb hK.1 hP 0 1 rfl rfl rfl dJ7_fill_53178_3 ?_
  refine lv_topi (fun x1 e2 => ?_)
  have h3 : x1.toInt = ((nq1 : Nat) : Int) := ci_len e2 (by omega)
  refine lv_istore_n (lv' := [(3, .int x1), (2, .int 0), (0, .ref q1), (1, .int p2)]) hx hb dJ7_fill_53178_4 rfl hl (by decide) rfl (fun ls hl => ?_)
  have lp5 : ∀ (n5 : Nat) (k4 : Int32) (g5 : Nat → Int32), (∀ j : Nat, (g5 j).toInt = 0) → (0 ≤ k4.toInt) → (x1.toInt - k4.toInt).toNat < n5 → ∀ (H : Heap) (locs : List Loc), va_P D vwCl [(cI κ q1 nq1 g5)] H → va_D A [(cI κ q1 nq1 g5)] → va_S A s.heap H locs → ∀ ls : Array Slot, lv_has ls 4 [(3, .int x1), (2, .int k4), (0, .ref q1), (1, .int p2)] → W p l e ({ frames := 0, cells := 0, slots := 0, locals := 0 } : Room) s m args below meth c H locs 0 0 Q (F0 m 5 ls []) := by
    intro n5
    induction n5 with
    | zero =>
      intro k4 g5 h6 h7 m8
      exact absurd m8 (Nat.not_lt_zero _)
    | succ n5 ih5 =>
      intro k4 g5 h6 h7 m8 H locs hP hD hS ls hl
      refine lv_iload_n hx hb dJ7_fill_53178_5 rfl (lv_at hl 1 rfl) ?_
      refine lv_iload_n hx hb dJ7_fill_53178_6 rfl (lv_at hl 0 rfl) ?_
      refine lv_icmp_ge (tgt := 20) hx hb dJ7_fill_53178_7 (by decide) (fun c9 => ?_) (fun c9 => ?_)
      · have c9 := ci_le c9
        have hpo : ∀ j : Nat, (g5 j).toInt = 0 := h6
        exact ret _ _ _ _ g5 dJ7_fill_53178_20 hpo hP hD hS
      have c9 := ci_nle c9
      refine lv_aload_n hx hb dJ7_fill_53178_10 rfl (lv_at hl 2 rfl) ?_
      refine lv_iload_n hx hb dJ7_fill_53178_11 rfl (lv_at hl 1 rfl) ?_
      refine lv_iload_n hx hb dJ7_fill_53178_12 rfl (lv_at hl 3 rfl) ?_
      refine va_iast hx hb hK.1 hP hD hS 0 1 rfl rfl (i := k4) (ix (by omega) (by omega)) dJ7_fill_53178_13 (fun H locs hP hD hS => ?_)
      obtain ⟨g10, e11⟩ : ∃ y : Nat → Int32, y = upd g5 k4.toNatClampNeg p2 := ⟨_, rfl⟩
      rw [← e11] at hP hD
      obtain ⟨hP, hD⟩ : PD D A [(cI κ q1 nq1 g10)] H := ⟨hP, hD⟩
      have h12 : ∀ j : Nat, (g10 j).toInt = 0 := by rw [e11]; exact all_upd (P := fun z => z.toInt = 0) h6 (by omega)
      obtain ⟨x13, e14⟩ : ∃ y : Int32, y = k4 + 1 := ⟨_, rfl⟩
      refine lv_iinc (v := x13) (lv' := [(2, .int x13), (3, .int x1), (0, .ref q1), (1, .int p2)]) hx hb dJ7_fill_53178_14 hl (k := 1) rfl (by rw [e14]; rfl) (by decide) rfl (fun ls hl => ?_)
      try have h15 : x13.toInt = k4.toInt + (1 : Int32).toInt := ci_add e14 (by omega) (by omega)
      refine lv_goto (tgt := 5) hx hb dJ7_fill_53178_17 (by decide) ?_
      exact ih5 x13 g10 h12 (by omega) (by omega) _ _ hP hD hS _ (lv_sub hl [1, 0, 2, 3] rfl)
  exact lp5 ((x1.toInt - (0 : Int32).toInt).toNat + 1) 0 fq1 hfq1 (by omega) (by omega) _ _ hP hD hS _ hl
