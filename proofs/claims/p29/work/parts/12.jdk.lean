theorem fr_div {x y z : Int32} {n : Int} (hy : y.toInt = n) (hn : 1 < n) (e : z = x / y) : x.toInt < 0 → z.toInt = -((-x.toInt) / n) := fun h => by
  have h0 : 0 ≤ -x.toInt := by omega
  have h1 : 0 ≤ (-x.toInt) / n := Int.ediv_nonneg h0 (by omega)
  have h2 : (-x.toInt) / n ≤ -x.toInt := Int.ediv_le_self n h0
  have h3 : (-x.toInt) / n < -x.toInt := Int.ediv_lt_self_of_pos_of_ne_one (by omega) (by omega)
  have hr := ci_rng x
  have hq : x.toInt.tdiv n = -((-x.toInt) / n) := by
    obtain ⟨m, hm⟩ : ∃ m : Int, m = -x.toInt := ⟨_, rfl⟩
    have hx' : x.toInt = -m := by omega
    rw [hx', Int.neg_tdiv, Int.tdiv_eq_ediv_of_nonneg (by omega), Int.neg_neg]
  rw [e, Int32.toInt_div, hy, hq]
  exact ci_bmod (by omega) (by omega)
theorem fr_rem {x y z : Int32} {n : Int} (hy : y.toInt = n) (hn : 1 < n) (e : z = x - x / y * y) : x.toInt < 0 → z.toInt = -((-x.toInt) % n) := fun h => by
  have hq := fr_div (z := x / y) hy hn rfl h
  have h0 : 0 ≤ -x.toInt := by omega
  have h1 : 0 ≤ (-x.toInt) / n := Int.ediv_nonneg h0 (by omega)
  have h3 : (-x.toInt) / n * n ≤ -x.toInt := Int.ediv_mul_le _ (by omega)
  have h4 : 0 ≤ (-x.toInt) / n * n := Int.mul_nonneg h1 (by omega)
  have hr := ci_rng x
  have hm : (x / y * y).toInt = -((-x.toInt) / n * n) := by rw [Int32.toInt_mul, hq, hy, Int.neg_mul]; exact ci_bmod (by omega) (by omega)
  have h5 : (-x.toInt) % n = -x.toInt - (-x.toInt) / n * n := by rw [Int.emod_def, Int.mul_comm n]
  rw [h5, e, Int32.toInt_sub, hm, ci_bmod (by omega) (by omega)]
  omega
def mapF (a b c : Int32) (f : Nat → Int32) (v : Int32) : Nat → Int32 := if 0 ≤ a.toInt ∧ a.toInt ≤ 2000 ∧ 0 ≤ b.toInt ∧ b.toInt ≤ 65535 then addF c 8 f v else f
theorem mapF_ok {a b c v : Int32} {f : Nat → Int32} (h : 0 ≤ a.toInt ∧ a.toInt ≤ 2000 ∧ 0 ≤ b.toInt ∧ b.toInt ≤ 65535) : mapF a b c f v = addF c 8 f v := if_pos h
theorem mapF_no {a b c v : Int32} {f : Nat → Int32} (h : ¬ (0 ≤ a.toInt ∧ a.toInt ≤ 2000 ∧ 0 ≤ b.toInt ∧ b.toInt ≤ 65535)) : mapF a b c f v = f := if_neg h
theorem mapF_congr {a b c v a' b' c' v' : Int32} {f f' : Nat → Int32} (h1 : a.toInt = a'.toInt) (h2 : b.toInt = b'.toInt) (h4 : c.toInt = c'.toInt) (h5 : f = f') (h6 : v.toInt = v'.toInt) : mapF a b c f v = mapF a' b' c' f' v' := by
  rw [ci_inj h1, ci_inj h2, ci_inj h4, h5, ci_inj h6]
def nb (x : Int32) : Nat := x.toBitVec.toNat
theorem nb_lt (x : Int32) : nb x < 4294967296 := x.toBitVec.isLt
theorem nb_and {a b z : Int32} (e : z = a &&& b) : nb z = nb a &&& nb b := by rw [e]; exact BitVec.toNat_and _ _
theorem nb_xor {a b z : Int32} (e : z = a ^^^ b) : nb z = nb a ^^^ nb b := by rw [e]; exact BitVec.toNat_xor _ _
theorem nb_add {a b z : Int32} (e : z = a + b) : nb z = (nb a + nb b) % 4294967296 := by rw [e]; exact BitVec.toNat_add _ _
theorem nb_sub {a b z : Int32} (e : z = a - b) : nb z = (4294967296 - nb b + nb a) % 4294967296 := by rw [e]; exact BitVec.toNat_sub _ _
def bc1 (n : Nat) : Nat := Nat.mod (Nat.add (Nat.sub 4294967296 (Nat.land (Nat.div n 2) 1431655765)) n) 4294967296
def bc2 (n : Nat) : Nat := Nat.mod (Nat.add (Nat.land n 858993459) (Nat.land (Nat.div n 4) 858993459)) 4294967296
def bc3 (n : Nat) : Nat := Nat.land (Nat.mod (Nat.add n (Nat.div n 16)) 4294967296) 252645135
def bc4 (n : Nat) : Nat := Nat.mod (Nat.add n (Nat.div n 256)) 4294967296
def bc5 (n : Nat) : Nat := Nat.mod (Nat.add n (Nat.div n 65536)) 4294967296
def bcN (n : Nat) : Nat := Nat.land (bc5 (bc4 (bc3 (bc2 (bc1 n))))) 63
/-- how many bits of sixteen are set: the JDK's count; one less with the lowest bit taken off -/
def ptB (n : Nat) : Bool := Nat.ble (bcN n) 16 && (Nat.beq n 0 || Nat.beq (Nat.add (bcN (Nat.land n (Nat.sub n 1))) 1) (bcN n))
theorem pt_0 : ∀ a : Nat, a < 16 → ∀ b : Nat, b < 256 → ptB (4096 * 0 + 256 * a + b) = true := by decide +kernel
theorem pt_1 : ∀ a : Nat, a < 16 → ∀ b : Nat, b < 256 → ptB (4096 * 1 + 256 * a + b) = true := by decide +kernel
theorem pt_2 : ∀ a : Nat, a < 16 → ∀ b : Nat, b < 256 → ptB (4096 * 2 + 256 * a + b) = true := by decide +kernel
theorem pt_3 : ∀ a : Nat, a < 16 → ∀ b : Nat, b < 256 → ptB (4096 * 3 + 256 * a + b) = true := by decide +kernel
theorem pt_4 : ∀ a : Nat, a < 16 → ∀ b : Nat, b < 256 → ptB (4096 * 4 + 256 * a + b) = true := by decide +kernel
theorem pt_5 : ∀ a : Nat, a < 16 → ∀ b : Nat, b < 256 → ptB (4096 * 5 + 256 * a + b) = true := by decide +kernel
theorem pt_6 : ∀ a : Nat, a < 16 → ∀ b : Nat, b < 256 → ptB (4096 * 6 + 256 * a + b) = true := by decide +kernel
theorem pt_7 : ∀ a : Nat, a < 16 → ∀ b : Nat, b < 256 → ptB (4096 * 7 + 256 * a + b) = true := by decide +kernel
theorem pt_8 : ∀ a : Nat, a < 16 → ∀ b : Nat, b < 256 → ptB (4096 * 8 + 256 * a + b) = true := by decide +kernel
theorem pt_9 : ∀ a : Nat, a < 16 → ∀ b : Nat, b < 256 → ptB (4096 * 9 + 256 * a + b) = true := by decide +kernel
theorem pt_10 : ∀ a : Nat, a < 16 → ∀ b : Nat, b < 256 → ptB (4096 * 10 + 256 * a + b) = true := by decide +kernel
theorem pt_11 : ∀ a : Nat, a < 16 → ∀ b : Nat, b < 256 → ptB (4096 * 11 + 256 * a + b) = true := by decide +kernel
theorem pt_12 : ∀ a : Nat, a < 16 → ∀ b : Nat, b < 256 → ptB (4096 * 12 + 256 * a + b) = true := by decide +kernel
theorem pt_13 : ∀ a : Nat, a < 16 → ∀ b : Nat, b < 256 → ptB (4096 * 13 + 256 * a + b) = true := by decide +kernel
theorem pt_14 : ∀ a : Nat, a < 16 → ∀ b : Nat, b < 256 → ptB (4096 * 14 + 256 * a + b) = true := by decide +kernel
theorem pt_15 : ∀ a : Nat, a < 16 → ∀ b : Nat, b < 256 → ptB (4096 * 15 + 256 * a + b) = true := by decide +kernel
theorem pt_all {n : Nat} (h : n < 65536) : ptB n = true := by
  have t : ∀ k : Nat, k < 16 → ∀ a : Nat, a < 16 → ∀ b : Nat, b < 256 → ptB (4096 * k + 256 * a + b) = true := fun k hk => by
    have hk2 : k = 0 ∨ k = 1 ∨ k = 2 ∨ k = 3 ∨ k = 4 ∨ k = 5 ∨ k = 6 ∨ k = 7 ∨ k = 8 ∨ k = 9 ∨ k = 10 ∨ k = 11 ∨ k = 12 ∨ k = 13 ∨ k = 14 ∨ k = 15 := by omega
    rcases hk2 with h9 | h9 | h9 | h9 | h9 | h9 | h9 | h9 | h9 | h9 | h9 | h9 | h9 | h9 | h9 | h9 <;> subst h9
    · exact pt_0
    · exact pt_1
    · exact pt_2
    · exact pt_3
    · exact pt_4
    · exact pt_5
    · exact pt_6
    · exact pt_7
    · exact pt_8
    · exact pt_9
    · exact pt_10
    · exact pt_11
    · exact pt_12
    · exact pt_13
    · exact pt_14
    · exact pt_15
  have e : 4096 * (n / 4096) + 256 * (n / 256 % 16) + n % 256 = n := by omega
  have q := t (n / 4096) (by omega) (n / 256 % 16) (by omega) (n % 256) (by omega)
  rw [e] at q
  exact q
theorem pt_le {n : Nat} (h : n < 65536) : bcN n ≤ 16 := by
  have q := pt_all h
  unfold ptB at q
  rw [Bool.and_eq_true] at q
  exact Nat.le_of_ble_eq_true q.1
theorem pt_drop {n : Nat} (h : n < 65536) (h0 : n ≠ 0) : bcN (n &&& (n - 1)) + 1 = bcN n := by
  have q := pt_all h
  unfold ptB at q
  rw [Bool.and_eq_true, Bool.or_eq_true] at q
  rcases q.2 with q | q
  · exact absurd (Nat.eq_of_beq_eq_true q) h0
  · exact Nat.eq_of_beq_eq_true q
def popN (n : Nat) : Nat := if n < 65536 then bcN n else 0
theorem bcN_pop {n : Nat} (h : n < 65536) : bcN n = popN n := (if_pos h).symm
theorem drop_pop {n : Nat} (h : n < 65536) (h0 : n ≠ 0) : popN (n &&& (n - 1)) + 1 = popN n := by
  have h2 : n &&& (n - 1) ≤ n := Nat.and_le_left
  rw [← bcN_pop h, ← bcN_pop (n := n &&& (n - 1)) (by omega)]
  exact pt_drop h h0
theorem popN_le (n : Nat) : popN n ≤ 16 := by
  by_cases h : n < 65536
  · rw [← bcN_pop h]; exact pt_le h
  · have e : popN n = 0 := if_neg h
    rw [e]; exact Nat.zero_le _
theorem nb_toInt {x : Int32} (h : nb x < 2147483648) : x.toInt = (nb x : Int) := ci_ofnat h
theorem nb_of {x : Int32} (h0 : 0 ≤ x.toInt) : (nb x : Int) = x.toInt := ci_nat h0
theorem nb_zero {x : Int32} : x.toInt = 0 ↔ nb x = 0 := by
  constructor
  · intro h
    have := nb_of (x := x) (by omega)
    omega
  · intro h
    have := nb_toInt (x := x) (by omega)
    omega
theorem xor_16 {a b z : Int32} (e : z = a ^^^ b) (a0 : 0 ≤ a.toInt) (a1 : a.toInt ≤ 65535) (b0 : 0 ≤ b.toInt) (b1 : b.toInt ≤ 65535) : nb z < 65536 := by
  rw [nb_xor e]
  have h1 := nb_of a0
  have h2 := nb_of b0
  exact Nat.xor_lt_two_pow (n := 16) (by omega) (by omega)
def apF (s : Nat → Int32) (i j : Nat) : Int := ((popN (nb (s i ^^^ s j)) : Nat) : Int)
theorem apF_rng (s : Nat → Int32) (i j : Nat) : 0 ≤ apF s i j ∧ apF s i j ≤ 16 := by
  have := popN_le (nb (s i ^^^ s j))
  unfold apF
  omega
/-- the father of m among the first k maps; -1: none -/
def faF (y s : Nat → Int32) (m : Nat) : Nat → Int
  | 0 => -1
  | k + 1 => if (y k).toInt < (y m).toInt ∧ (faF y s m k < 0 ∨ apF s m k < apF s m (faF y s m k).toNat ∨ (apF s m k = apF s m (faF y s m k).toNat ∧ (y (faF y s m k).toNat).toInt < (y k).toInt)) then (k : Int) else faF y s m k
theorem faF_step {y s : Nat → Int32} {m : Nat} {k k' b : Int32} (hb : faF y s m k.toInt.toNat = b.toInt ∨ (b.toInt = -2 ∧ faF y s m k.toInt.toNat = -1)) (h0 : 0 ≤ k.toInt) (h1 : k'.toInt = k.toInt + 1) : faF y s m k'.toInt.toNat = if (y k.toNatClampNeg).toInt < (y m).toInt ∧ (b.toInt < 0 ∨ apF s m k.toNatClampNeg < apF s m b.toNatClampNeg ∨ (apF s m k.toNatClampNeg = apF s m b.toNatClampNeg ∧ (y b.toNatClampNeg).toInt < (y k.toNatClampNeg).toInt)) then k.toInt else faF y s m k.toInt.toNat := by
  have h2 : k'.toInt.toNat = k.toInt.toNat + 1 := by omega
  have h3 : ((k.toInt.toNat : Nat) : Int) = k.toInt := by omega
  have h4 : k.toNatClampNeg = k.toInt.toNat := rfl
  rw [h2, h4]
  show (if (y k.toInt.toNat).toInt < (y m).toInt ∧ (faF y s m k.toInt.toNat < 0 ∨ apF s m k.toInt.toNat < apF s m (faF y s m k.toInt.toNat).toNat ∨ (apF s m k.toInt.toNat = apF s m (faF y s m k.toInt.toNat).toNat ∧ (y (faF y s m k.toInt.toNat).toNat).toInt < (y k.toInt.toNat).toInt)) then ((k.toInt.toNat : Nat) : Int) else faF y s m k.toInt.toNat) = _
  rcases hb with hb | ⟨hb1, hb2⟩
  · rw [hb, h3]; rfl
  · rw [hb2, h3]
    by_cases c : (y k.toInt.toNat).toInt < (y m).toInt
    · rw [if_pos ⟨c, Or.inl (by decide)⟩, if_pos ⟨c, Or.inl (by omega)⟩]
    · rw [if_neg (fun z => c z.1), if_neg (fun z => c z.1)]
theorem father_congr {y y' s s' : Nat → Int32} {x x' : Int32} {n n' : Int} (h1 : y = y') (h2 : s = s') (h3 : x.toInt = x'.toInt) (h4 : n = n') : faF y s x.toNatClampNeg n.toNat = faF y' s' x'.toNatClampNeg n'.toNat ∧ apF s x.toNatClampNeg (faF y s x.toNatClampNeg n.toNat).toNat = apF s' x'.toNatClampNeg (faF y' s' x'.toNatClampNeg n'.toNat).toNat := by
  rw [h1, h2, ci_inj h3, h4]; exact ⟨rfl, rfl⟩
/-- the tree's sum over the first k maps -/
def trF (y s : Nat → Int32) (n : Nat) : Nat → Int
  | 0 => 0
  | k + 1 => trF y s n k + (if faF y s k n < 0 then 0 else apF s k (faF y s k n).toNat)
theorem trF_step {y s : Nat → Int32} {n : Nat} {k k' : Int32} (h0 : 0 ≤ k.toInt) (h1 : k'.toInt = k.toInt + 1) : trF y s n k'.toInt.toNat = trF y s n k.toInt.toNat + (if faF y s k.toNatClampNeg n < 0 then 0 else apF s k.toNatClampNeg (faF y s k.toNatClampNeg n).toNat) := by
  have h2 : k'.toInt.toNat = k.toInt.toNat + 1 := by omega
  have h4 : k.toNatClampNeg = k.toInt.toNat := rfl
  rw [h2, h4]; rfl
/-- the slips of i and j that none of the first k other maps has -/
def shF (s : Nat → Int32) (i j : Int32) : Nat → Int32
  | 0 => s i.toNatClampNeg &&& s j.toNatClampNeg
  | k + 1 => if (k : Int) = i.toInt ∨ (k : Int) = j.toInt then shF s i j k else shF s i j k &&& (s k ^^^ (-1))
theorem shF_step {s : Nat → Int32} {i j k k' : Int32} (h0 : 0 ≤ k.toInt) (h1 : k'.toInt = k.toInt + 1) : shF s i j k'.toInt.toNat = if k.toInt = i.toInt ∨ k.toInt = j.toInt then shF s i j k.toInt.toNat else shF s i j k.toInt.toNat &&& (s k.toNatClampNeg ^^^ (-1)) := by
  have h2 : k'.toInt.toNat = k.toInt.toNat + 1 := by omega
  have h3 : ((k.toInt.toNat : Nat) : Int) = k.toInt := by omega
  have h4 : k.toNatClampNeg = k.toInt.toNat := rfl
  rw [h2, h4]
  show (if ((k.toInt.toNat : Nat) : Int) = i.toInt ∨ ((k.toInt.toNat : Nat) : Int) = j.toInt then shF s i j k.toInt.toNat else shF s i j k.toInt.toNat &&& (s k.toInt.toNat ^^^ (-1))) = _
  rw [h3]
theorem shared_congr {y y' s s' : Nat → Int32} {x x' : Int32} {n n' : Int} (h1 : y = y') (h2 : s = s') (h3 : x.toInt = x'.toInt) (h4 : n = n') : trF y s n.toNat n.toNat = trF y' s' n'.toNat n'.toNat ∧ shF s (x / 10) (x - x / 10 * 10) n.toNat = shF s' (x' / 10) (x' - x' / 10 * 10) n'.toNat := by
  rw [h1, h2, ci_inj h3, h4]; exact ⟨rfl, rfl⟩
theorem faF_spec {y s : Nat → Int32} {m : Nat} : ∀ k : Nat, faF y s m k < 0 ∨ (0 ≤ faF y s m k ∧ faF y s m k < (k : Int) ∧ (y (faF y s m k).toNat).toInt < (y m).toInt)
  | 0 => Or.inl (by show (-1 : Int) < 0; decide)
  | k + 1 => by
    have ih := faF_spec (y := y) (s := s) (m := m) k
    show (if (y k).toInt < (y m).toInt ∧ (faF y s m k < 0 ∨ apF s m k < apF s m (faF y s m k).toNat ∨ (apF s m k = apF s m (faF y s m k).toNat ∧ (y (faF y s m k).toNat).toInt < (y k).toInt)) then (k : Int) else faF y s m k) < 0 ∨ _
    by_cases c : (y k).toInt < (y m).toInt ∧ (faF y s m k < 0 ∨ apF s m k < apF s m (faF y s m k).toNat ∨ (apF s m k = apF s m (faF y s m k).toNat ∧ (y (faF y s m k).toNat).toInt < (y k).toInt))
    · have e : faF y s m (k + 1) = (k : Int) := if_pos c
      rw [e]
      refine Or.inr ⟨by omega, by omega, ?_⟩
      rw [show ((k : Nat) : Int).toNat = k by omega]
      exact c.1
    · have e : faF y s m (k + 1) = faF y s m k := if_neg c
      rw [if_neg c, e]
      rcases ih with h | ⟨h1, h2, h3⟩
      · exact Or.inl h
      · exact Or.inr ⟨h1, by omega, h3⟩
/-- how many of the first k maps are earlier than v -/
def lvF (y : Nat → Int32) (v : Int) : Nat → Int
  | 0 => 0
  | k + 1 => lvF y v k + (if (y k).toInt < v then 1 else 0)
theorem lv_mono {y : Nat → Int32} {v w : Int} (h : v ≤ w) : ∀ k : Nat, lvF y v k ≤ lvF y w k
  | 0 => Int.le_refl 0
  | k + 1 => by
    have ih := lv_mono (y := y) h k
    show lvF y v k + (if (y k).toInt < v then 1 else 0) ≤ lvF y w k + (if (y k).toInt < w then 1 else 0)
    by_cases c : (y k).toInt < v
    · rw [if_pos c, if_pos (by omega)]; omega
    · rw [if_neg c]
      by_cases c2 : (y k).toInt < w
      · rw [if_pos c2]; omega
      · rw [if_neg c2]; omega
theorem lvb_lt {y : Nat → Int32} {f : Nat} {w : Int} (h : (y f).toInt < w) : ∀ k : Nat, f < k → lvF y (y f).toInt k + 1 ≤ lvF y w k
  | 0, hf => absurd hf (Nat.not_lt_zero _)
  | k + 1, hf => by
    show lvF y (y f).toInt k + (if (y k).toInt < (y f).toInt then 1 else 0) + 1 ≤ lvF y w k + (if (y k).toInt < w then 1 else 0)
    by_cases e : f = k
    · subst e
      have := lv_mono (y := y) (Int.le_of_lt h) f
      rw [if_neg (by omega), if_pos h]; omega
    · have ih := lvb_lt (y := y) (f := f) h k (by omega)
      by_cases c : (y k).toInt < (y f).toInt
      · rw [if_pos c, if_pos (by omega)]; omega
      · rw [if_neg c]
        by_cases c2 : (y k).toInt < w
        · rw [if_pos c2]; omega
        · rw [if_neg c2]; omega
theorem lv_le {y : Nat → Int32} {v : Int} : ∀ k : Nat, 0 ≤ lvF y v k ∧ lvF y v k ≤ (k : Int)
  | 0 => ⟨Int.le_refl 0, Int.le_refl 0⟩
  | k + 1 => by
    have ih := lv_le (y := y) (v := v) k
    have e : lvF y v (k + 1) = lvF y v k + (if (y k).toInt < v then 1 else 0) := rfl
    rw [e]
    by_cases c : (y k).toInt < v
    · rw [if_pos c]; omega
    · rw [if_neg c]; omega
theorem lv_top {y : Nat → Int32} {a n : Nat} (h : a < n) : lvF y (y a).toInt n + 1 ≤ (n : Int) := by
  have h1 := lvb_lt (y := y) (f := a) (w := (y a).toInt + 1) (by omega) n h
  have h2 := (lv_le (y := y) (v := (y a).toInt + 1) n).2
  omega
/-- does the way up from a, by m steps at most, come to t -/
def rcF (y s : Nat → Int32) (n : Nat) (t : Int) : Nat → Int → Int
  | 0, _ => 0
  | m + 1, a => if a < 0 then 0 else if a = t then 1 else rcF y s n t m (faF y s a.toNat n)
theorem rc_neg {y s : Nat → Int32} {n : Nat} {t a : Int} (h : a < 0) : ∀ m : Nat, rcF y s n t m a = 0
  | 0 => rfl
  | m + 1 => if_pos h
theorem rc_hit {y s : Nat → Int32} {n m : Nat} {t a : Int} (h : 0 ≤ a) (e : a = t) (hm : 0 < m) : rcF y s n t m a = 1 := by
  cases m with
  | zero => exact absurd hm (Nat.lt_irrefl 0)
  | succ m =>
    show (if a < 0 then 0 else if a = t then 1 else rcF y s n t m (faF y s a.toNat n)) = 1
    rw [if_neg (by omega), if_pos e]
theorem rc_go {y s : Nat → Int32} {n m : Nat} {t a : Int} (h : 0 ≤ a) (e : a ≠ t) : rcF y s n t (m + 1) a = rcF y s n t m (faF y s a.toNat n) := by
  show (if a < 0 then 0 else if a = t then 1 else rcF y s n t m (faF y s a.toNat n)) = _
  rw [if_neg (by omega), if_neg e]
theorem rc_fuel {y s : Nat → Int32} {n : Nat} {t : Int} : ∀ (m m' : Nat) (a : Int), 0 ≤ a → a < (n : Int) → lvF y (y a.toNat).toInt n + 1 ≤ (m : Int) → lvF y (y a.toNat).toInt n + 1 ≤ (m' : Int) → rcF y s n t m a = rcF y s n t m' a
  | 0, _, a, _, _, h, _ => absurd h (by have := (lv_le (y := y) (v := (y a.toNat).toInt) n).1; omega)
  | m + 1, 0, a, _, _, _, h => absurd h (by have := (lv_le (y := y) (v := (y a.toNat).toInt) n).1; omega)
  | m + 1, m' + 1, a, h0, h1, h2, h3 => by
    by_cases e : a = t
    · rw [rc_hit h0 e (Nat.succ_pos m), rc_hit h0 e (Nat.succ_pos m')]
    · rw [rc_go h0 e, rc_go h0 e]
      rcases faF_spec (y := y) (s := s) (m := a.toNat) n with q | ⟨q1, q2, q3⟩
      · rw [rc_neg q, rc_neg q]
      · have h4 := lvb_lt (y := y) (f := (faF y s a.toNat n).toNat) q3 n (by omega)
        exact rc_fuel m m' _ q1 q2 (by omega) (by omega)
/-- with as many steps as there are maps, a step more or less is the same -/
theorem rc_same {y s : Nat → Int32} {n : Nat} {t a : Int} (h0 : 0 ≤ a) (h1 : a < (n : Int)) (e : a ≠ t) : rcF y s n t n a = rcF y s n t n (faF y s a.toNat n) := by
  cases n with
  | zero => omega
  | succ n =>
    rw [rc_go h0 e]
    rcases faF_spec (y := y) (s := s) (m := a.toNat) (n + 1) with q | ⟨q1, q2, q3⟩
    · rw [rc_neg q, rc_neg q]
    · have h4 := lvb_lt (y := y) (f := (faF y s a.toNat (n + 1)).toNat) q3 (n + 1) (by omega)
      have h5 := lv_top (y := y) (a := a.toNat) (n := n + 1) (by omega)
      exact rc_fuel n (n + 1) _ q1 q2 (by omega) (by omega)
theorem hangs_congr {y y' s s' : Nat → Int32} {x x' : Int32} {n n' : Int} (h1 : y = y') (h2 : s = s') (h3 : x.toInt = x'.toInt) (h4 : n = n') : rcF y s n.toNat (x - x / 10 * 10).toInt n.toNat (faF y s (x / 10).toNatClampNeg n.toNat) = rcF y' s' n'.toNat (x' - x' / 10 * 10).toInt n'.toNat (faF y' s' (x' / 10).toNatClampNeg n'.toNat) ∧ True := by
  rw [h1, h2, ci_inj h3, h4]; exact ⟨rfl, trivial⟩
set_option maxHeartbeats 4000000 in
set_option maxRecDepth 100000 in
theorem k_J7_fill_53178 (l : Launch) (D : va_G) (κ : Nat → ClassId) (β : Nat) (nq1 : Nat) (fq1 : Nat → Int32) (sz : Nat) (q1 : Nat) (p2 : Int32) (i1 : ((nq1 : Nat) : Int) ≤ 1000000) : Met l yJ7_fill_53178 wsJ7_fill_53178 ({ frames := 0, cells := 0, slots := 0, locals := 0 } : Room) (PcK D κ β [(cI κ q1 nq1 fq1)] sz [.ref q1, .int p2]) (QvK D (fun (u : (Nat → Int32)) => True) (fun (u : (Nat → Int32)) => [(cI κ q1 nq1 u)]) [(cI κ q1 nq1 fq1)] sz) 0 0 (va_A [(cI κ q1 nq1 fq1)] sz) := by
  refine ofK_v (cc := cJ7_fill_53178) (maxL := 4) (own := RJ7) (by decide) rfl rfl (Nat.le_of_ble_eq_true rfl) ?_
  intro p e s m args below meth c Q A ls hsz hx hb hml hts hown hK hA hAB hP hD hl hname ret
  have hS : va_S A s.heap s.heap [] := va_S.rf
  have hl : lv_has ls 4 [(0, .ref q1), (1, .int p2)] := hl
  have l0 : (0 : Int32).toInt = 0 := by decide
  have l1 : (1 : Int32).toInt = 1 := by decide
  refine lv_iconst (v := 0) hx hb dJ7_fill_53178_0 (by decide) ?_
  refine lv_istore_n (lv' := [(2, .int 0), (0, .ref q1), (1, .int p2)]) hx hb dJ7_fill_53178_1 rfl hl (by decide) rfl (fun ls hl => ?_)
  refine lv_aload_n hx hb dJ7_fill_53178_2 rfl (lv_at hl 1 rfl) ?_
  refine va_alen hx hb hK.1 hP 0 1 rfl rfl rfl dJ7_fill_53178_3 ?_
  refine lv_topi (fun x1 e2 => ?_)
  have h3 : x1.toInt = ((nq1 : Nat) : Int) := ci_len e2 (by omega)
  refine lv_istore_n (lv' := [(3, .int x1), (2, .int 0), (0, .ref q1), (1, .int p2)]) hx hb dJ7_fill_53178_4 rfl hl (by decide) rfl (fun ls hl => ?_)
  have lp5 : ∀ (n5 : Nat) (k4 : Int32) (g5 : Nat → Int32), (0 ≤ k4.toInt) → (x1.toInt - k4.toInt).toNat < n5 → ∀ (H : Heap) (locs : List Loc), va_P D vwCl [(cI κ q1 nq1 g5)] H → va_D A [(cI κ q1 nq1 g5)] → va_S A s.heap H locs → ∀ ls : Array Slot, lv_has ls 4 [(3, .int x1), (2, .int k4), (0, .ref q1), (1, .int p2)] → W p l e ({ frames := 0, cells := 0, slots := 0, locals := 0 } : Room) s m args below meth c H locs 0 0 Q (F0 m 5 ls []) := by
    intro n5
    induction n5 with
    | zero =>
      intro k4 g5 h6 m7
      exact absurd m7 (Nat.not_lt_zero _)
    | succ n5 ih5 =>
      intro k4 g5 h6 m7 H locs hP hD hS ls hl
      refine lv_iload_n hx hb dJ7_fill_53178_5 rfl (lv_at hl 1 rfl) ?_
      refine lv_iload_n hx hb dJ7_fill_53178_6 rfl (lv_at hl 0 rfl) ?_
      refine lv_icmp_ge (tgt := 20) hx hb dJ7_fill_53178_7 (by decide) (fun c8 => ?_) (fun c8 => ?_)
      · have c8 := ci_le c8
        exact ret _ _ _ _ g5 dJ7_fill_53178_20 trivial hP hD hS
      have c8 := ci_nle c8
      refine lv_aload_n hx hb dJ7_fill_53178_10 rfl (lv_at hl 2 rfl) ?_
      refine lv_iload_n hx hb dJ7_fill_53178_11 rfl (lv_at hl 1 rfl) ?_
      refine lv_iload_n hx hb dJ7_fill_53178_12 rfl (lv_at hl 3 rfl) ?_
      refine va_iast hx hb hK.1 hP hD hS 0 1 rfl rfl (i := k4) (ix (by omega) (by omega)) dJ7_fill_53178_13 (fun H locs hP hD hS => ?_)
      obtain ⟨g9, e10⟩ : ∃ y : Nat → Int32, y = upd g5 k4.toNatClampNeg p2 := ⟨_, rfl⟩
      rw [← e10] at hP hD
      obtain ⟨hP, hD⟩ : PD D A [(cI κ q1 nq1 g9)] H := ⟨hP, hD⟩
      obtain ⟨x11, e12⟩ : ∃ y : Int32, y = k4 + 1 := ⟨_, rfl⟩
      refine lv_iinc (v := x11) (lv' := [(2, .int x11), (3, .int x1), (0, .ref q1), (1, .int p2)]) hx hb dJ7_fill_53178_14 hl (k := 1) rfl (by rw [e12]; rfl) (by decide) rfl (fun ls hl => ?_)
      try have h13 : x11.toInt = k4.toInt + (1 : Int32).toInt := ci_add e12 (by omega) (by omega)
      refine lv_goto (tgt := 5) hx hb dJ7_fill_53178_17 (by decide) ?_
      exact ih5 x11 g9 (by omega) (by omega) _ _ hP hD hS _ (lv_sub hl [1, 0, 2, 3] rfl)
  exact lp5 ((x1.toInt - (0 : Int32).toInt).toNat + 1) 0 fq1 (by omega) (by omega) _ _ hP hD hS _ hl
set_option maxHeartbeats 4000000 in
set_option maxRecDepth 100000 in
theorem k_J6_bitCount_0f7a4 (l : Launch) (D : va_G) (κ : Nat → ClassId) (β : Nat) (sz : Nat) (p1 : Int32) : Met l yJ6_bitCount_0f7a4 wsJ6_bitCount_0f7a4 ({ frames := 0, cells := 0, slots := 0, locals := 0 } : Room) (PcK D κ β [] sz [.int p1]) (QiK D (fun (r : Int32) (u : Unit) => 65536 ≤ nb p1 ∨ r.toInt = ((popN (nb p1) : Nat) : Int)) (fun (u : Unit) => []) [] sz) 0 0 (va_A [] sz) := by
  refine ofK_i (cc := cJ6_bitCount_0f7a4) (maxL := 1) (own := RJ6) (by decide) rfl rfl (Nat.le_of_ble_eq_true rfl) ?_
  intro p e s m args below meth c Q A ls hsz hx hb hml hts hown hK hA hAB hP hD hl ret
  have hS : va_S A s.heap s.heap [] := va_S.rf
  have hl : lv_has ls 1 [(0, .int p1)] := hl
  have w0 := hts (.constant RJ6 265 (1431655765)) (List.mem_of_getElem? (i := 1) rfl)
  have w1 := hts (.constant RJ6 266 (858993459)) (List.mem_of_getElem? (i := 2) rfl)
  have w2 := hts (.constant RJ6 267 (252645135)) (List.mem_of_getElem? (i := 3) rfl)
  have l0 : (1 : Int32).toInt = 1 := by decide
  have l1 : (1431655765 : Int32).toInt = 1431655765 := by decide
  have l2 : (858993459 : Int32).toInt = 858993459 := by decide
  have l3 : (2 : Int32).toInt = 2 := by decide
  have l4 : (4 : Int32).toInt = 4 := by decide
  have l5 : (252645135 : Int32).toInt = 252645135 := by decide
  have l6 : (8 : Int32).toInt = 8 := by decide
  have l7 : (16 : Int32).toInt = 16 := by decide
  have l8 : (63 : Int32).toInt = 63 := by decide
  refine lv_iload_n hx hb dJ6_bitCount_0f7a4_0 rfl (lv_at hl 0 rfl) ?_
  refine lv_iload_n hx hb dJ6_bitCount_0f7a4_1 rfl (lv_at hl 0 rfl) ?_
  refine lv_iconst (v := 1) hx hb dJ6_bitCount_0f7a4_2 (by decide) ?_
  refine lv_iushr hx hb dJ6_bitCount_0f7a4_3 rfl ?_
  refine lv_topi (fun x1 e2 => ?_)
  have b1 : nb x1 = nb p1 / 2 := by rw [e2]; exact pk_ushr _ _ 1 (by decide)
  refine lv_ldcw (v := 1431655765) hx hb hown w0 dJ6_bitCount_0f7a4_4 ?_
  refine lv_iand hx hb dJ6_bitCount_0f7a4_7 ?_
  refine lv_topi (fun x3 e4 => ?_)
  have b2 : nb x3 = nb p1 / 2 &&& 1431655765 := by rw [nb_and e4, b1]; rfl
  refine lv_isub hx hb dJ6_bitCount_0f7a4_8 ?_
  refine lv_topi (fun x5 e6 => ?_)
  try have h7 : x5.toInt = p1.toInt - x3.toInt := ci_sub e6 (by omega) (by omega)
  have b3 : nb x5 = bc1 (nb p1) := by rw [nb_sub e6, b2]; rfl
  refine lv_istore_n (lv' := [(0, .int x5)]) hx hb dJ6_bitCount_0f7a4_9 rfl hl (by decide) rfl (fun ls hl => ?_)
  refine lv_iload_n hx hb dJ6_bitCount_0f7a4_10 rfl (lv_at hl 0 rfl) ?_
  refine lv_ldcw (v := 858993459) hx hb hown w1 dJ6_bitCount_0f7a4_11 ?_
  refine lv_iand hx hb dJ6_bitCount_0f7a4_14 ?_
  refine lv_topi (fun x8 e9 => ?_)
  have b4 := nb_and e9
  refine lv_iload_n hx hb dJ6_bitCount_0f7a4_15 rfl (lv_at hl 0 rfl) ?_
  refine lv_iconst (v := 2) hx hb dJ6_bitCount_0f7a4_16 (by decide) ?_
  refine lv_iushr hx hb dJ6_bitCount_0f7a4_17 rfl ?_
  refine lv_topi (fun x10 e11 => ?_)
  have b5 : nb x10 = nb x5 / 4 := by rw [e11]; exact pk_ushr _ _ 2 (by decide)
  refine lv_ldcw (v := 858993459) hx hb hown w1 dJ6_bitCount_0f7a4_18 ?_
  refine lv_iand hx hb dJ6_bitCount_0f7a4_21 ?_
  refine lv_topi (fun x12 e13 => ?_)
  have b6 := nb_and e13
  refine lv_iadd hx hb dJ6_bitCount_0f7a4_22 ?_
  refine lv_topi (fun x14 e15 => ?_)
  try have h16 : x14.toInt = x8.toInt + x12.toInt := ci_add e15 (by omega) (by omega)
  have b7 : nb x14 = bc2 (bc1 (nb p1)) := by rw [nb_add e15, b4, b6, b5, b3]; rfl
  refine lv_istore_n (lv' := [(0, .int x14)]) hx hb dJ6_bitCount_0f7a4_23 rfl hl (by decide) rfl (fun ls hl => ?_)
  refine lv_iload_n hx hb dJ6_bitCount_0f7a4_24 rfl (lv_at hl 0 rfl) ?_
  refine lv_iload_n hx hb dJ6_bitCount_0f7a4_25 rfl (lv_at hl 0 rfl) ?_
  refine lv_iconst (v := 4) hx hb dJ6_bitCount_0f7a4_26 (by decide) ?_
  refine lv_iushr hx hb dJ6_bitCount_0f7a4_27 rfl ?_
  refine lv_topi (fun x17 e18 => ?_)
  have b8 : nb x17 = nb x14 / 16 := by rw [e18]; exact pk_ushr _ _ 4 (by decide)
  refine lv_iadd hx hb dJ6_bitCount_0f7a4_28 ?_
  refine lv_topi (fun x19 e20 => ?_)
  try have h21 : x19.toInt = x14.toInt + x17.toInt := ci_add e20 (by omega) (by omega)
  have b9 := nb_add e20
  refine lv_ldcw (v := 252645135) hx hb hown w2 dJ6_bitCount_0f7a4_29 ?_
  refine lv_iand hx hb dJ6_bitCount_0f7a4_32 ?_
  refine lv_topi (fun x22 e23 => ?_)
  have b10 : nb x22 = bc3 (bc2 (bc1 (nb p1))) := by rw [nb_and e23, b9, b8, b7]; rfl
  refine lv_istore_n (lv' := [(0, .int x22)]) hx hb dJ6_bitCount_0f7a4_33 rfl hl (by decide) rfl (fun ls hl => ?_)
  refine lv_iload_n hx hb dJ6_bitCount_0f7a4_34 rfl (lv_at hl 0 rfl) ?_
  refine lv_iload_n hx hb dJ6_bitCount_0f7a4_35 rfl (lv_at hl 0 rfl) ?_
  refine lv_bipush (v := 8) hx hb dJ6_bitCount_0f7a4_36 (by decide) ?_
  refine lv_iushr hx hb dJ6_bitCount_0f7a4_38 rfl ?_
  refine lv_topi (fun x24 e25 => ?_)
  have h26 := ci_ushr8 e25
  have b11 : nb x24 = nb x22 / 256 := by rw [e25]; exact pk_ushr _ _ 8 (by decide)
  refine lv_iadd hx hb dJ6_bitCount_0f7a4_39 ?_
  refine lv_topi (fun x27 e28 => ?_)
  try have h29 : x27.toInt = x22.toInt + x24.toInt := ci_add e28 (by omega) (by omega)
  have b12 : nb x27 = bc4 (bc3 (bc2 (bc1 (nb p1)))) := by rw [nb_add e28, b11, b10]; rfl
  refine lv_istore_n (lv' := [(0, .int x27)]) hx hb dJ6_bitCount_0f7a4_40 rfl hl (by decide) rfl (fun ls hl => ?_)
  refine lv_iload_n hx hb dJ6_bitCount_0f7a4_41 rfl (lv_at hl 0 rfl) ?_
  refine lv_iload_n hx hb dJ6_bitCount_0f7a4_42 rfl (lv_at hl 0 rfl) ?_
  refine lv_bipush (v := 16) hx hb dJ6_bitCount_0f7a4_43 (by decide) ?_
  refine lv_iushr hx hb dJ6_bitCount_0f7a4_45 rfl ?_
  refine lv_topi (fun x30 e31 => ?_)
  have b13 : nb x30 = nb x27 / 65536 := by rw [e31]; exact pk_ushr _ _ 16 (by decide)
  refine lv_iadd hx hb dJ6_bitCount_0f7a4_46 ?_
  refine lv_topi (fun x32 e33 => ?_)
  try have h34 : x32.toInt = x27.toInt + x30.toInt := ci_add e33 (by omega) (by omega)
  have b14 : nb x32 = bc5 (bc4 (bc3 (bc2 (bc1 (nb p1))))) := by rw [nb_add e33, b13, b12]; rfl
  refine lv_istore_n (lv' := [(0, .int x32)]) hx hb dJ6_bitCount_0f7a4_47 rfl hl (by decide) rfl (fun ls hl => ?_)
  refine lv_iload_n hx hb dJ6_bitCount_0f7a4_48 rfl (lv_at hl 0 rfl) ?_
  refine lv_bipush (v := 63) hx hb dJ6_bitCount_0f7a4_49 (by decide) ?_
  refine lv_iand hx hb dJ6_bitCount_0f7a4_51 ?_
  refine lv_topi (fun x35 e36 => ?_)
  have b15 : nb x35 = bcN (nb p1) := by rw [nb_and e36, b14]; rfl
  have hpo : 65536 ≤ nb p1 ∨ x35.toInt = ((popN (nb p1) : Nat) : Int) := (by by_cases h : nb p1 < 65536; exact Or.inr (by rw [← bcN_pop h, ← b15]; have := popN_le (nb p1); have := bcN_pop h; exact nb_toInt (by omega)); exact Or.inl (by omega))
  exact ret _ _ _ _ x35 () dJ6_bitCount_0f7a4_52 hpo hP hD hS
