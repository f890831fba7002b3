/-! calls by a mask: the callee's cells lie in the caller's order, and come back at their places -/
/-- a world's facts at once -/
abbrev PD (D : va_G) (A : Nat → Prop) (ws : va_W) (H : Heap) : Prop := va_P D vwCl ws H ∧ va_D A ws
def mC : List Bool → va_W → va_W
  | true :: m, c :: w => c :: mC m w
  | false :: m, _ :: w => mC m w
  | _, _ => []
def mR : List Bool → va_W → va_W
  | true :: m, _ :: w => mR m w
  | false :: m, c :: w => c :: mR m w
  | _, _ => []
def mM : List Bool → va_W → va_W → va_W
  | true :: m, c :: C, R => c :: mM m C R
  | false :: m, C, c :: R => c :: mM m C R
  | _, _, _ => []
def mI (b : Bool) : List Bool → Nat → List Nat
  | [], _ => []
  | x :: m, k => if x = b then k :: mI b m (k + 1) else mI b m (k + 1)
theorem mI_ge {b : Bool} : ∀ (m : List Bool) (k i : Nat), i ∈ mI b m k → k ≤ i
  | [], _, _, h => absurd h List.not_mem_nil
  | x :: m, k, i, h => by
    by_cases c : x = b
    · rw [mI, if_pos c] at h
      rcases List.mem_cons.mp h with h | h
      · omega
      · have := mI_ge m (k + 1) i h; omega
    · rw [mI, if_neg c] at h
      have := mI_ge m (k + 1) i h; omega
theorem mI_nd {b : Bool} : ∀ (m : List Bool) (k : Nat), va_nd (mI b m k) = true
  | [], _ => rfl
  | x :: m, k => by
    by_cases c : x = b
    · rw [mI, if_pos c, va_nd, Bool.and_eq_true, decide_eq_true_eq]
      exact ⟨fun h => by have := mI_ge m (k + 1) k h; omega, mI_nd m (k + 1)⟩
    · rw [mI, if_neg c]; exact mI_nd m (k + 1)
theorem mI_dis : ∀ (m : List Bool) (k i : Nat), i ∈ mI false m k → i ∉ mI true m k
  | [], _, _, h, _ => absurd h List.not_mem_nil
  | true :: m, k, i, h, h2 => by
    rw [mI, if_neg (by decide)] at h
    rw [mI, if_pos rfl] at h2
    rcases List.mem_cons.mp h2 with h2 | h2
    · have := mI_ge m (k + 1) i h; omega
    · exact mI_dis m (k + 1) i h h2
  | false :: m, k, i, h, h2 => by
    rw [mI, if_pos rfl] at h
    rw [mI, if_neg (by decide)] at h2
    rcases List.mem_cons.mp h with h | h
    · have := mI_ge m (k + 1) i h2; omega
    · exact mI_dis m (k + 1) i h h2
theorem mI_C : ∀ (m : List Bool) (w : va_W) (k : Nat) (f : Nat → Option (Nat × va_E)), m.length = w.length → (∀ i, f (k + i) = w[i]?) → (mI true m k).map f = (mC m w).map some
  | [], [], _, _, _, _ => rfl
  | true :: m, c :: w, k, f, hl, h => by
    rw [mI, if_pos rfl, mC, List.map_cons, List.map_cons, mI_C m w (k + 1) f (Nat.succ.inj hl) (fun i => by rw [Nat.add_assoc, Nat.add_comm 1 i, h (i + 1), List.getElem?_cons_succ])]
    have := h 0
    rw [Nat.add_zero, List.getElem?_cons_zero] at this
    rw [this]
  | false :: m, c :: w, k, f, hl, h => by
    rw [mI, if_neg (by decide), mC, mI_C m w (k + 1) f (Nat.succ.inj hl) (fun i => by rw [Nat.add_assoc, Nat.add_comm 1 i, h (i + 1), List.getElem?_cons_succ])]
theorem mI_R : ∀ (m : List Bool) (w : va_W) (k : Nat) (f : Nat → Option (Nat × va_E)), m.length = w.length → (∀ i, f (k + i) = w[i]?) → (mI false m k).map f = (mR m w).map some
  | [], [], _, _, _, _ => rfl
  | false :: m, c :: w, k, f, hl, h => by
    rw [mI, if_pos rfl, mR, List.map_cons, List.map_cons, mI_R m w (k + 1) f (Nat.succ.inj hl) (fun i => by rw [Nat.add_assoc, Nat.add_comm 1 i, h (i + 1), List.getElem?_cons_succ])]
    have := h 0
    rw [Nat.add_zero, List.getElem?_cons_zero] at this
    rw [this]
  | true :: m, c :: w, k, f, hl, h => by
    rw [mI, if_neg (by decide), mR, mI_R m w (k + 1) f (Nat.succ.inj hl) (fun i => by rw [Nat.add_assoc, Nat.add_comm 1 i, h (i + 1), List.getElem?_cons_succ])]
/-- the places of the merged world's cells in rest ++ callee's -/
def mJ : List Bool → Nat → Nat → List Nat
  | [], _, _ => []
  | true :: m, k, r => k :: mJ m (k + 1) r
  | false :: m, k, r => r :: mJ m k (r + 1)
def nF : List Bool → Nat
  | [] => 0
  | true :: m => nF m
  | false :: m => nF m + 1
theorem mJ_in : ∀ (m : List Bool) (k r i : Nat), i ∈ mJ m k r → (r ≤ i ∧ i < r + nF m) ∨ k ≤ i
  | [], _, _, _, h => absurd h List.not_mem_nil
  | true :: m, k, r, i, h => by
    rw [mJ] at h
    rcases List.mem_cons.mp h with h | h
    · omega
    · have := mJ_in m (k + 1) r i h
      show (r ≤ i ∧ i < r + nF m) ∨ k ≤ i
      omega
  | false :: m, k, r, i, h => by
    rw [mJ] at h
    show (r ≤ i ∧ i < r + (nF m + 1)) ∨ k ≤ i
    rcases List.mem_cons.mp h with h | h
    · omega
    · have := mJ_in m k (r + 1) i h
      omega
theorem mJ_nd : ∀ (m : List Bool) (k r : Nat), r + nF m ≤ k → va_nd (mJ m k r) = true
  | [], _, _, _ => rfl
  | true :: m, k, r, h => by
    have h : r + nF m ≤ k := h
    rw [mJ, va_nd, Bool.and_eq_true, decide_eq_true_eq]
    exact ⟨fun q => by have := mJ_in m (k + 1) r k q; omega, mJ_nd m (k + 1) r (by omega)⟩
  | false :: m, k, r, h => by
    have h : r + (nF m + 1) ≤ k := h
    rw [mJ, va_nd, Bool.and_eq_true, decide_eq_true_eq]
    exact ⟨fun q => by have := mJ_in m k (r + 1) r q; omega, mJ_nd m k (r + 1) (by omega)⟩
theorem mJ_M : ∀ (m : List Bool) (w C R : va_W) (k r : Nat) (f : Nat → Option (Nat × va_E)), m.length = w.length → C.length = (mC m w).length → R.length = (mR m w).length → (∀ i, i < C.length → f (k + i) = C[i]?) → (∀ i, i < R.length → f (r + i) = R[i]?) → (mJ m k r).map f = (mM m C R).map some
  | [], [], _, _, _, _, _, _, _, _, _, _ => rfl
  | true :: m, c :: w, [], R, _, _, _, _, hC, _, _, _ => by rw [mC] at hC; cases hC
  | true :: m, c :: w, c1 :: C, R, k, r, f, hl, hC, hR, h1, h2 => by
    have h0 := h1 0 (Nat.succ_pos _)
    rw [Nat.add_zero, List.getElem?_cons_zero] at h0
    rw [mC] at hC
    rw [mJ, mM, List.map_cons, List.map_cons, h0, mJ_M m w C R (k + 1) r f (Nat.succ.inj hl) (Nat.succ.inj hC) hR (fun i hi => by rw [Nat.add_assoc, Nat.add_comm 1 i, h1 (i + 1) (Nat.succ_lt_succ hi), List.getElem?_cons_succ]) h2]
  | false :: m, c :: w, C, [], _, _, _, _, _, hR, _, _ => by rw [mR] at hR; cases hR
  | false :: m, c :: w, C, c1 :: R, k, r, f, hl, hC, hR, h1, h2 => by
    have h0 := h2 0 (Nat.succ_pos _)
    rw [Nat.add_zero, List.getElem?_cons_zero] at h0
    rw [mR] at hR
    rw [mC] at hC
    have e : mM (false :: m) C (c1 :: R) = c1 :: mM m C R := by cases C <;> rfl
    rw [mJ, e, List.map_cons, List.map_cons, h0, mJ_M m w C R k (r + 1) f (Nat.succ.inj hl) hC (Nat.succ.inj hR) h1 (fun i hi => by rw [Nat.add_assoc, Nat.add_comm 1 i, h2 (i + 1) (Nat.succ_lt_succ hi), List.getElem?_cons_succ])]
def nC : List Bool → Nat
  | [] => 0
  | true :: m => nC m + 1
  | false :: m => nC m
theorem nC_len : ∀ (m : List Bool) (w : va_W), m.length = w.length → (mC m w).length = nC m
  | [], [], _ => rfl
  | false :: m, c :: w, h => nC_len m w (Nat.succ.inj h)
  | true :: m, c :: w, h => by
    show (mC m w).length + 1 = nC m + 1
    rw [nC_len m w (Nat.succ.inj h)]
theorem nF_len : ∀ (m : List Bool) (w : va_W), m.length = w.length → (mR m w).length = nF m
  | [], [], _ => rfl
  | true :: m, c :: w, h => nF_len m w (Nat.succ.inj h)
  | false :: m, c :: w, h => by
    show (mR m w).length + 1 = nF m + 1
    rw [nF_len m w (Nat.succ.inj h)]
theorem pd_merge {D : va_G} {A : Nat → Prop} {w C : va_W} {H : Heap} {m : List Bool} (hm : m.length = w.length) (hC : C.length = (mC m w).length) (h : PD D A (mR m w ++ C) H) : PD D A (mM m C (mR m w)) H := by
  have hx : (mJ m (mR m w).length 0).map (fun i => (mR m w ++ C)[i]?) = (mM m C (mR m w)).map some := mJ_M m w C (mR m w) (mR m w).length 0 _ hm hC rfl (fun i hi => by rw [List.getElem?_append_right (Nat.le_add_right _ _), Nat.add_sub_cancel_left]) (fun i hi => by rw [Nat.zero_add, List.getElem?_append_left hi])
  exact ⟨h.1.sub _ (fm_of_map hx), h.2.sub _ (mJ_nd _ _ _ (by rw [nF_len m w hm]; omega)) hx⟩
section KCM
variable {p : Program} {l : Launch} {e : Env} {R : Room} {s : State} {m : MethodId} {args : Array Value} {below : List Frame} {meth : Method} {c : Code} {H : Heap} {locs : List Loc} {cells slots : Nat} {Q : State → Prop}
variable {β pc : Nat} {ls : Array Slot} {rest st0 : List Value} {a : Array Value} {A : Nat → Prop} {H0 : Heap} {mc ms : Nat} {D : va_G} {ws : va_W}
theorem kcm_i {S : Type} {post : Int32 → S → Prop} {W1 : S → va_W} (hA : ∀ q, H0.size ≤ q → A q) (hAB : ∀ q, A q → β ≤ q) (hP : va_P D vwCl ws H) (hD : va_D A ws) (hS : va_S A H0 H locs) (m9 : List Bool) (hm : m9.length = ws.length) (hl : ∀ u, (W1 u).length = nC m9)
    (hr : va_P D vwCl (mC m9 ws) H → va_D (fun q => β ≤ q) (mC m9 ws) → va_Run p l e R s m args below meth c H locs cells slots mc ms (F0 m pc ls st0) rest (QiK D post W1 (mC m9 ws) H.size a) (va_A (mC m9 ws) H.size))
    (kk : ∀ (r : Int32) (u : S) (H1 : Heap) (locs1 : List Loc), post r u → PD D A (mM m9 (W1 u) (mR m9 ws)) H1 → va_S A H0 H1 locs1 → W p l e R s m args below meth c H1 locs1 (cells + mc) (slots + ms) Q (F0 m (pc + 3) ls (.int r :: rest))) : W p l e R s m args below meth c H locs cells slots Q (F0 m pc ls st0) :=
  kc_i hA hAB hP hD hS (mI true m9 0) (mI false m9 0) (mI_C m9 ws 0 _ hm (fun i => by rw [Nat.zero_add])) (mI_R m9 ws 0 _ hm (fun i => by rw [Nat.zero_add])) (mI_nd m9 0) (mI_nd m9 0) (mI_dis m9 0) hr (fun r u H1 locs1 hw h1 h2 h3 => kk r u H1 locs1 hw (pd_merge hm ((hl u).trans (nC_len m9 ws hm).symm) ⟨h1, h2⟩) h3)
theorem kcm_l {S : Type} {post : Int64 → S → Prop} {W1 : S → va_W} (hA : ∀ q, H0.size ≤ q → A q) (hAB : ∀ q, A q → β ≤ q) (hP : va_P D vwCl ws H) (hD : va_D A ws) (hS : va_S A H0 H locs) (m9 : List Bool) (hm : m9.length = ws.length) (hl : ∀ u, (W1 u).length = nC m9)
    (hr : va_P D vwCl (mC m9 ws) H → va_D (fun q => β ≤ q) (mC m9 ws) → va_Run p l e R s m args below meth c H locs cells slots mc ms (F0 m pc ls st0) rest (QlK D post W1 (mC m9 ws) H.size a) (va_A (mC m9 ws) H.size))
    (kk : ∀ (r : Int64) (u : S) (H1 : Heap) (locs1 : List Loc), post r u → PD D A (mM m9 (W1 u) (mR m9 ws)) H1 → va_S A H0 H1 locs1 → W p l e R s m args below meth c H1 locs1 (cells + mc) (slots + ms) Q (F0 m (pc + 3) ls (.long r :: rest))) : W p l e R s m args below meth c H locs cells slots Q (F0 m pc ls st0) :=
  kc_l hA hAB hP hD hS (mI true m9 0) (mI false m9 0) (mI_C m9 ws 0 _ hm (fun i => by rw [Nat.zero_add])) (mI_R m9 ws 0 _ hm (fun i => by rw [Nat.zero_add])) (mI_nd m9 0) (mI_nd m9 0) (mI_dis m9 0) hr (fun r u H1 locs1 hw h1 h2 h3 => kk r u H1 locs1 hw (pd_merge hm ((hl u).trans (nC_len m9 ws hm).symm) ⟨h1, h2⟩) h3)
theorem kcm_v {S : Type} {post : S → Prop} {W1 : S → va_W} (hA : ∀ q, H0.size ≤ q → A q) (hAB : ∀ q, A q → β ≤ q) (hP : va_P D vwCl ws H) (hD : va_D A ws) (hS : va_S A H0 H locs) (m9 : List Bool) (hm : m9.length = ws.length) (hl : ∀ u, (W1 u).length = nC m9)
    (hr : va_P D vwCl (mC m9 ws) H → va_D (fun q => β ≤ q) (mC m9 ws) → va_Run p l e R s m args below meth c H locs cells slots mc ms (F0 m pc ls st0) rest (QvK D post W1 (mC m9 ws) H.size a) (va_A (mC m9 ws) H.size))
    (kk : ∀ (u : S) (H1 : Heap) (locs1 : List Loc), post u → PD D A (mM m9 (W1 u) (mR m9 ws)) H1 → va_S A H0 H1 locs1 → W p l e R s m args below meth c H1 locs1 (cells + mc) (slots + ms) Q (F0 m (pc + 3) ls rest)) : W p l e R s m args below meth c H locs cells slots Q (F0 m pc ls st0) :=
  kc_v hA hAB hP hD hS (mI true m9 0) (mI false m9 0) (mI_C m9 ws 0 _ hm (fun i => by rw [Nat.zero_add])) (mI_R m9 ws 0 _ hm (fun i => by rw [Nat.zero_add])) (mI_nd m9 0) (mI_nd m9 0) (mI_dis m9 0) hr (fun u H1 locs1 hw h1 h2 h3 => kk u H1 locs1 hw (pd_merge hm ((hl u).trans (nC_len m9 ws hm).symm) ⟨h1, h2⟩) h3)
end KCM
