theorem ci_nat {x : Int32} (h0 : 0 ≤ x.toInt) : (x.toBitVec.toNat : Int) = x.toInt := by
  have h1 := x.toBitVec.isLt
  have h2 : x.toInt = if 2 * x.toBitVec.toNat < 2 ^ 32 then (x.toBitVec.toNat : Int) else (x.toBitVec.toNat : Int) - ((2 ^ 32 : Nat) : Int) := BitVec.toInt_eq_toNat_cond _
  by_cases hc : 2 * x.toBitVec.toNat < 2 ^ 32
  · rw [if_pos hc] at h2; omega
  · rw [if_neg hc] at h2; omega
theorem ci_ofnat {x : Int32} (hn : x.toBitVec.toNat < 2147483648) : x.toInt = (x.toBitVec.toNat : Int) := by
  have h2 : x.toInt = if 2 * x.toBitVec.toNat < 2 ^ 32 then (x.toBitVec.toNat : Int) else (x.toBitVec.toNat : Int) - ((2 ^ 32 : Nat) : Int) := BitVec.toInt_eq_toNat_cond _
  rw [if_pos (by omega)] at h2
  exact h2
theorem or_rng {a b z : Int32} (e : z = a ||| b) (a0 : 0 ≤ a.toInt) (a1 : a.toInt ≤ 255) (b0 : 0 ≤ b.toInt) (b1 : b.toInt ≤ 255) : 0 ≤ z.toInt ∧ z.toInt ≤ 255 := by
  have ha := ci_nat a0
  have hb := ci_nat b0
  have h : z.toBitVec.toNat = a.toBitVec.toNat ||| b.toBitVec.toNat := by
    rw [e]
    exact BitVec.toNat_or _ _
  have h2 : a.toBitVec.toNat ||| b.toBitVec.toNat < 2 ^ 8 := Nat.or_lt_two_pow (by omega) (by omega)
  have h3 := ci_ofnat (x := z) (by omega)
  omega
theorem and_rng {a b z : Int32} (e : z = a &&& b) (a0 : 0 ≤ a.toInt) : 0 ≤ z.toInt ∧ z.toInt ≤ a.toInt := by
  have ha := ci_nat a0
  have h : z.toBitVec.toNat = a.toBitVec.toNat &&& b.toBitVec.toNat := by
    rw [e]
    exact BitVec.toNat_and _ _
  have h2 : a.toBitVec.toNat &&& b.toBitVec.toNat ≤ a.toBitVec.toNat := Nat.and_le_left
  have hr := ci_rng a
  have h3 := ci_ofnat (x := z) (by omega)
  omega
theorem shl_tab7 : ∀ j : Nat, j < 8 → 1 ≤ ((1 : Int32) <<< (nI j &&& 31)).toInt ∧ ((1 : Int32) <<< (nI j &&& 31)).toInt ≤ 128 := by decide +kernel
theorem shl_rng7 {x z : Int32} (e : z = (1 : Int32) <<< (x &&& 31)) (h0 : 0 ≤ x.toInt) (h1 : x.toInt ≤ 7) : 1 ≤ z.toInt ∧ z.toInt ≤ 128 := by
  have hx : x = nI x.toInt.toNat := ci_inj (by rw [nI_toInt (by omega)]; omega)
  rw [e, hx]
  exact shl_tab7 _ (by omega)
