def lp_pcs : List Nat := [232, 255, 288, 321, 354, 387, 420, 463, 496, 529, 562, 595, 628, 661, 694, 737, 760, 783, 826, 849, 882, 915, 958, 991, 1034, 1067, 1100, 1123, 1146, 1179, 1212, 1245, 1278, 1291, 1324, 1337, 1350, 1373, 1416, 1439, 1472, 1515, 1588, 1621, 1684, 1717]
def lp_offs : Array Int := #[199, 222, 255, 288, 321, 354, 387, 430, 463, 496, 529, 562, 595, 628, 661, 704, 727, 750, 793, 816, 849, 882, 925, 958, 1001, 1034, 1067, 1090, 1113, 1146, 1179, 1212, 1245, 1258, 1291, 1304, 1317, 1340, 1383, 1406, 1439, 1482, 1555, 1588, 1651, 1684]
theorem lp_tab : ∀ n : Nat, n < 46 → lp_offs[n]? = some (((lp_pcs.getD n 0 : Nat) : Int) - 33) ∧ lp_pcs.getD n 0 ∈ 1740 :: lp_pcs := by decide +kernel
theorem LB_wide {p : Program} {l : Launch} {e : Env} {s : State} {m : MethodId} {below : List Frame} {meth : Method} {c : Code} {b : Nat} {A : Nat → Prop} {Q : State → Prop} {D : va_G} {κ : Nat → ClassId} {cells slots cells' slots' : Nat} {k : Int32} {pc : Nat} (h1 : cells ≤ cells') (h2 : slots ≤ slots') (h : LB p l e s m below meth c b A Q D κ cells' slots' k pc) : LB p l e s m below meth c b A Q D κ cells slots k pc :=
  LB_via (fun a11 a12 H locs ls hS hl go => W.widen h1 h2 (go _ _ _ _ h ls hl))
set_option maxHeartbeats 4000000 in
theorem lp_head {p : Program} {l : Launch} {e : Env} {s : State} {m : MethodId} {below : List Frame} {meth : Method} {c : Code} {b : Nat} {A : Nat → Prop} {Q : State → Prop} {D : va_G} {κ : Nat → ClassId} (hx : p.tables.exec = Jvm.exec) (hb : c.code = code) {L : Nat} {xs : Nat → Int32} (hX : va_X b L xs s s.heap) (hbl : b < s.heap.size) (hbA : ¬ A b) (hL : L ≤ 3072) {cells slots : Nat} {k : Int32} (h0 : 0 ≤ k.toInt) (h1 : k.toInt ≤ 3078)
    (hcase : k.toInt + 6 ≤ (L : Int) → ∀ pc ∈ 1740 :: lp_pcs, LB p l e s m below meth c b A Q D κ cells slots k pc)
    (hfin : ∀ (H : Heap) (locs : List Loc) (ls : Array Slot), va_S A s.heap H locs → W p l e room_1 s m #[Value.ref b] below meth c H locs cells slots Q (F0 m 1746 ls [])) : LB p l e s m below meth c b A Q D κ cells slots k 18 := by
  refine LB_via (fun a11 a12 H locs ls hS hl go => ?_)
  have l0 : (6 : Int32).toInt = 6 := by decide
  refine lv_iload_n hx hb dL_law_18 rfl (lv_at hl 0 rfl) ?_
  refine lv_aload_n hx hb dL_law_19 rfl (lv_at hl 1 rfl) ?_
  refine va_slen hx hb hX hbl hbA hS dL_law_20 ?_
  refine lv_topi (fun x1 e1 => ?_)
  have h2 : x1.toInt = (L : Int) := ci_len e1 (by omega)
  refine lv_bipush (v := 6) hx hb dL_law_21 (by decide) ?_
  refine lv_isub hx hb dL_law_23 ?_
  refine lv_topi (fun x2 e2 => ?_)
  have h3 : x2.toInt = x1.toInt - (6 : Int32).toInt := ci_sub e2 (by omega) (by omega)
  refine lv_icmp_gt (tgt := 1746) hx hb dL_law_24 (by decide) (fun c1 => ?_) (fun c1 => ?_)
  · exact hfin H locs ls hS
  · have c1 := ci_nlt c1
    have hk : k.toInt + 6 ≤ (L : Int) := by omega
    refine lv_aload_n hx hb dL_law_27 rfl (lv_at hl 1 rfl) ?_
    refine lv_iload_n hx hb dL_law_28 rfl (lv_at hl 0 rfl) ?_
    refine va_sld hx hb hX hbl hbA hS (i := k) (ix (by omega) (by omega)) dL_law_29 ?_
    refine lv_topi (fun x3 e3 => ?_)
    refine lv_bipush (v := 63) hx hb dL_law_30 (by decide) ?_
    refine lv_iand hx hb dL_law_32 ?_
    refine lv_topi (fun x4 e4 => ?_)
    by_cases hr : x4.toInt < 0 ∨ 45 < x4.toInt
    · refine lv_tableOut (tgt := 1740) hx hb dL_law_33 hr (by decide) ?_
      exact go _ _ _ _ (hcase hk 1740 List.mem_cons_self) ls hl
    · obtain ⟨n, hn⟩ : ∃ n : Nat, n = x4.toInt.toNat := ⟨_, rfl⟩
      have hn2 : n < 46 := by omega
      have hn3 : (x4.toInt - 0).toNat = n := by omega
      obtain ⟨t1, t2⟩ := lp_tab n hn2
      refine lv_tableIn (off := ((lp_pcs.getD n 0 : Nat) : Int) - 33) (tgt := lp_pcs.getD n 0) hx hb dL_law_33 (by omega) (by omega) (by rw [hn3]; exact t1) (by omega) ?_
      exact go _ _ _ _ (hcase hk _ t2) ls hl
set_option maxHeartbeats 4000000 in
theorem lp_back {p : Program} {l : Launch} {e : Env} {s : State} {m : MethodId} {below : List Frame} {meth : Method} {c : Code} {b : Nat} {A : Nat → Prop} {Q : State → Prop} {D : va_G} {κ : Nat → ClassId} (hx : p.tables.exec = Jvm.exec) (hb : c.code = code) {cells slots : Nat} {k : Int32} (h0 : 0 ≤ k.toInt) (h1 : k.toInt ≤ 3078)
    (h : ∀ k' : Int32, k'.toInt = k.toInt + 6 → LB p l e s m below meth c b A Q D κ cells slots k' 18) : LB p l e s m below meth c b A Q D κ cells slots k 1740 := by
  refine LB_via (fun a11 a12 H locs ls hS hl go => ?_)
  have l0 : (6 : Int32).toInt = 6 := by decide
  obtain ⟨x1, e1⟩ : ∃ y : Int32, y = k + 6 := ⟨_, rfl⟩
  refine lv_iinc (v := x1) (lv' := [(3, .int x1), (0, .ref b), (1, .ref a11), (2, .ref a12)]) hx hb dL_law_1740 hl (k := 0) rfl (by rw [e1]; rfl) (by decide) rfl (fun ls hl => ?_)
  have h2 : x1.toInt = k.toInt + (6 : Int32).toInt := ci_add e1 (by omega) (by omega)
  refine lv_goto (tgt := 18) hx hb dL_law_1743 (by decide) ?_
  exact go _ _ _ _ (h x1 (by omega)) ls hl
set_option maxRecDepth 100000 in
theorem lp_loop {p : Program} {l : Launch} {e : Env} {s : State} {m : MethodId} {below : List Frame} {meth : Method} {c : Code} {b : Nat} {A : Nat → Prop} {Q : State → Prop} {D : va_G} {κ : Nat → ClassId} (hx : p.tables.exec = Jvm.exec) (hb : c.code = code) {L : Nat} {xs : Nat → Int32} (hX : va_X b L xs s s.heap) (hbl : b < s.heap.size) (hbA : ¬ A b) (hL : L ≤ 3072)
    (hcase : ∀ (cells slots : Nat) (k : Int32), cells + 1 ≤ 600000 → slots + 4096 ≤ 7302250 → 0 ≤ k.toInt → k.toInt + 6 ≤ (L : Int) → LB p l e s m below meth c b A Q D κ (cells + 1) (slots + 4096) k 1740 → ∀ pc ∈ 1740 :: lp_pcs, LB p l e s m below meth c b A Q D κ cells slots k pc)
    (hfin : ∀ (cells slots : Nat), cells ≤ 600000 → slots ≤ 7302250 → ∀ (H : Heap) (locs : List Loc) (ls : Array Slot), va_S A s.heap H locs → W p l e room_1 s m #[Value.ref b] below meth c H locs cells slots Q (F0 m 1746 ls [])) :
    ∀ (n cells slots : Nat) (k : Int32), 0 ≤ k.toInt → k.toInt ≤ 3078 → (L : Int) < k.toInt + 6 * ((n : Int) + 1) → cells + n ≤ 600000 → slots + 4096 * n ≤ 7302250 → LB p l e s m below meth c b A Q D κ cells slots k 18 := by
  intro n
  induction n with
  | zero =>
    intro cells slots k h0 h1 h2 h3 h4
    exact lp_head hx hb hX hbl hbA hL h0 h1 (fun hk => absurd hk (by omega)) (hfin cells slots (by omega) (by omega))
  | succ n ih =>
    intro cells slots k h0 h1 h2 h3 h4
    refine lp_head hx hb hX hbl hbA hL h0 h1 (fun hk => ?_) (hfin cells slots (by omega) (by omega))
    have q2 : slots + 4096 ≤ 7302250 := Nat.le_trans (Nat.add_le_add_left (Nat.le_mul_of_pos_right 4096 (Nat.succ_pos n)) slots) h4
    exact hcase cells slots k (by omega) q2 h0 hk (lp_back hx hb h0 h1 (fun k' hk' => ih (cells + 1) (slots + 4096) k' (by omega) (by omega) (by omega) (by omega) (by omega)))
