set_option maxHeartbeats 4000000 in
set_option maxRecDepth 100000 in
theorem k_X1_dropOldest (l : Launch) (D : va_G) (κ : Nat → ClassId) (β : Nat) (a1 : Nat) (r1 : Nat → Nat) (v1_done : Int32) (v1_kept : Int32) (sz : Nat) (i1 : Rg 0 40 v1_done) (i2 : Rg 0 40 v1_kept) (i3 : (1 : Int) ≤ 0) : Met l yX1_dropOldest wsX1_dropOldest ({ frames := 1, cells := 0, slots := 0, locals := 30 } : Room) (PcK D κ β [O1 a1 r1 v1_done v1_kept] sz [.ref a1]) (QvK D (fun (u : Unit) => True) (fun (u : Unit) => [O1 a1 r1 v1_done v1_kept]) [O1 a1 r1 v1_done v1_kept] sz) 0 0 (va_A [O1 a1 r1 v1_done v1_kept] sz) := by
  refine ofK_v (cc := cX1_dropOldest) (maxL := 1) (own := RX1) (by decide) rfl rfl (Nat.le_of_ble_eq_true rfl) ?_
  intro p e s m args below meth c Q A ls hsz hx hb hml hts hown hK hA hAB hP hD hl hname ret
  have hS : va_S A s.heap s.heap [] := va_S.rf
  have hl : lv_has ls 1 [(0, .ref a1)] := hl
  have i1 : 0 ≤ v1_done.toInt ∧ v1_done.toInt ≤ 40 := i1
  exfalso
  omega
set_option maxHeartbeats 4000000 in
set_option maxRecDepth 100000 in
theorem k_X1_add (l : Launch) (D : va_G) (κ : Nat → ClassId) (β : Nat) (a1 : Nat) (r1 : Nat → Nat) (v1_done : Int32) (v1_kept : Int32) (sz : Nat) (p1 : Int32) (p2 : Int32) (p3 : Int32) (p4 : Int32) (i1 : Rg 0 40 v1_done) (i2 : Rg 0 40 v1_kept) (i3 : (1 : Int) ≤ 0) : Met l yX1_add wsX1_add ({ frames := 1, cells := 0, slots := 0, locals := 30 } : Room) (PcK D κ β [O1 a1 r1 v1_done v1_kept] sz [.ref a1, .int p1, .int p2, .int p3, .int p4]) (QvK D (fun (u : Unit) => True) (fun (u : Unit) => [O1 a1 r1 v1_done v1_kept]) [O1 a1 r1 v1_done v1_kept] sz) 0 0 (va_A [O1 a1 r1 v1_done v1_kept] sz) := by
  refine ofK_v (cc := cX1_add) (maxL := 5) (own := RX1) (by decide) rfl rfl (Nat.le_of_ble_eq_true rfl) ?_
  intro p e s m args below meth c Q A ls hsz hx hb hml hts hown hK hA hAB hP hD hl hname ret
  have hS : va_S A s.heap s.heap [] := va_S.rf
  have hl : lv_has ls 5 [(0, .ref a1), (1, .int p1), (2, .int p2), (3, .int p3), (4, .int p4)] := hl
  have i1 : 0 ≤ v1_done.toInt ∧ v1_done.toInt ≤ 40 := i1
  have i2 : 0 ≤ v1_kept.toInt ∧ v1_kept.toInt ≤ 40 := i2
  exfalso
  omega
set_option maxHeartbeats 4000000 in
set_option maxRecDepth 100000 in
theorem k_X1_stepBack (l : Launch) (D : va_G) (κ : Nat → ClassId) (β : Nat) (a1 : Nat) (r1 : Nat → Nat) (v1_done : Int32) (v1_kept : Int32) (sz : Nat) (i1 : Rg 0 40 v1_done) (i2 : Rg 0 40 v1_kept) (i3 : (1 : Int) ≤ 0) : Met l yX1_stepBack wsX1_stepBack ({ frames := 1, cells := 0, slots := 0, locals := 30 } : Room) (PcK D κ β [O1 a1 r1 v1_done v1_kept] sz [.ref a1]) (QiK D (fun (r : Int32) (u : Unit) => True) (fun (u : Unit) => [O1 a1 r1 v1_done v1_kept]) [O1 a1 r1 v1_done v1_kept] sz) 0 0 (va_A [O1 a1 r1 v1_done v1_kept] sz) := by
  refine ofK_i (cc := cX1_stepBack) (maxL := 1) (own := RX1) (by decide) rfl rfl (Nat.le_of_ble_eq_true rfl) ?_
  intro p e s m args below meth c Q A ls hsz hx hb hml hts hown hK hA hAB hP hD hl ret
  have hS : va_S A s.heap s.heap [] := va_S.rf
  have hl : lv_has ls 1 [(0, .ref a1)] := hl
  have i1 : 0 ≤ v1_done.toInt ∧ v1_done.toInt ≤ 40 := i1
  exfalso
  omega
set_option maxHeartbeats 4000000 in
set_option maxRecDepth 100000 in
theorem k_X1_stepOn (l : Launch) (D : va_G) (κ : Nat → ClassId) (β : Nat) (a1 : Nat) (r1 : Nat → Nat) (v1_done : Int32) (v1_kept : Int32) (sz : Nat) (i1 : Rg 0 40 v1_done) (i2 : Rg 0 40 v1_kept) (i3 : (1 : Int) ≤ 0) : Met l yX1_stepOn wsX1_stepOn ({ frames := 1, cells := 0, slots := 0, locals := 30 } : Room) (PcK D κ β [O1 a1 r1 v1_done v1_kept] sz [.ref a1]) (QiK D (fun (r : Int32) (u : Unit) => True) (fun (u : Unit) => [O1 a1 r1 v1_done v1_kept]) [O1 a1 r1 v1_done v1_kept] sz) 0 0 (va_A [O1 a1 r1 v1_done v1_kept] sz) := by
  refine ofK_i (cc := cX1_stepOn) (maxL := 2) (own := RX1) (by decide) rfl rfl (Nat.le_of_ble_eq_true rfl) ?_
  intro p e s m args below meth c Q A ls hsz hx hb hml hts hown hK hA hAB hP hD hl ret
  have hS : va_S A s.heap s.heap [] := va_S.rf
  have hl : lv_has ls 2 [(0, .ref a1)] := hl
  have i1 : 0 ≤ v1_done.toInt ∧ v1_done.toInt ≤ 40 := i1
  exfalso
  omega
