def addF (c : Int32) (cap : Int) (f : Nat → Int32) (v : Int32) : Nat → Int32 := if c.toInt < cap then upd f c.toNatClampNeg v else f
theorem addF_ok {c v : Int32} {cap : Int} {f : Nat → Int32} (h : c.toInt < cap) : addF c cap f v = upd f c.toNatClampNeg v := if_pos h
theorem addF_no {c v : Int32} {cap : Int} {f : Nat → Int32} (h : ¬ c.toInt < cap) : addF c cap f v = f := if_neg h
def holeF (a b n c : Int32) (f : Nat → Int32) (v : Int32) : Nat → Int32 := if 0 ≤ a.toInt ∧ a.toInt < n.toInt ∧ 0 ≤ b.toInt ∧ b.toInt ≤ 999 then addF c 40 f v else f
theorem holeF_ok {a b n c v : Int32} {f : Nat → Int32} (h : 0 ≤ a.toInt ∧ a.toInt < n.toInt ∧ 0 ≤ b.toInt ∧ b.toInt ≤ 999) : holeF a b n c f v = addF c 40 f v := if_pos h
theorem holeF_no {a b n c v : Int32} {f : Nat → Int32} (h : ¬ (0 ≤ a.toInt ∧ a.toInt < n.toInt ∧ 0 ≤ b.toInt ∧ b.toInt ≤ 999)) : holeF a b n c f v = f := if_neg h
/-- where a hole at place v goes among the first k of f: behind all that lie at v or ahead of it, from the end on -/
def insA (P : Nat → Int32) (f : Nat → Int32) (v : Int) : Nat → Nat
  | 0 => 0
  | k + 1 => if v < (P (f k).toNatClampNeg).toInt then insA P f v k else k + 1
theorem insA_le {P f : Nat → Int32} {v : Int} : ∀ k : Nat, insA P f v k ≤ k
  | 0 => Nat.le_refl 0
  | k + 1 => by
    show (if v < (P (f k).toNatClampNeg).toInt then insA P f v k else k + 1) ≤ k + 1
    have := insA_le (P := P) (f := f) (v := v) k
    split <;> omega
def insF (f : Nat → Int32) (n a : Nat) (h : Int32) : Nat → Int32 := fun j => if j = a then h else if a < j ∧ j ≤ n then f (j - 1) else f j
/-- the holes 0 .. n - 1 in order of their places -/
def srt (P : Nat → Int32) : Nat → (Nat → Int32)
  | 0 => fun _ => 0
  | n + 1 => insF (srt P n) n (insA P (srt P n) (P n).toInt n) (Int32.ofNat n)
theorem ofNat_of {x : Int32} (h : 0 ≤ x.toInt) : Int32.ofNat x.toInt.toNat = x := by
  apply ci_inj
  rw [ci_len (n := x.toInt.toNat) rfl (by have := ci_rng x; omega)]
  omega
theorem srt_lt {P : Nat → Int32} : ∀ n : Nat, n ≤ 40 → ∀ j : Nat, j < n → 0 ≤ (srt P n j).toInt ∧ (srt P n j).toInt < (n : Int)
  | 0, _, j, h => absurd h (Nat.not_lt_zero j)
  | n + 1, hn, j, h => by
    have ih := srt_lt (P := P) n (by omega)
    have ha := insA_le (P := P) (f := srt P n) (v := (P n).toInt) n
    have e : (Int32.ofNat n).toInt = (n : Int) := ci_len rfl (by omega)
    show 0 ≤ (if j = insA P (srt P n) (P n).toInt n then Int32.ofNat n else if insA P (srt P n) (P n).toInt n < j ∧ j ≤ n then srt P n (j - 1) else srt P n j).toInt ∧ (if j = insA P (srt P n) (P n).toInt n then Int32.ofNat n else if insA P (srt P n) (P n).toInt n < j ∧ j ≤ n then srt P n (j - 1) else srt P n j).toInt < ((n + 1 : Nat) : Int)
    by_cases c : j = insA P (srt P n) (P n).toInt n
    · rw [if_pos c]; omega
    · rw [if_neg c]
      by_cases c2 : insA P (srt P n) (P n).toInt n < j ∧ j ≤ n
      · rw [if_pos c2]
        have := ih (j - 1) (by omega)
        omega
      · rw [if_neg c2]
        have := ih j (by omega)
        omega
theorem insA_congr {P P' f : Nat → Int32} {v : Int} {n : Nat} (h : ∀ q : Nat, q < n → P q = P' q) : ∀ k : Nat, (∀ j : Nat, j < k → (f j).toNatClampNeg < n) → insA P f v k = insA P' f v k
  | 0, _ => rfl
  | k + 1, hf => by
    show (if v < (P (f k).toNatClampNeg).toInt then insA P f v k else k + 1) = (if v < (P' (f k).toNatClampNeg).toInt then insA P' f v k else k + 1)
    rw [h _ (hf k (by omega)), insA_congr h k (fun j hj => hf j (by omega))]
theorem srt_in {P : Nat → Int32} {n : Nat} (hn : n ≤ 40) {j : Nat} (h : j < n) : (srt P n j).toNatClampNeg < n := by
  have h1 := srt_lt (P := P) n hn j h
  have h2 := ci_clamp (i := srt P n j) h1.1
  omega
theorem srt_congr {P P' : Nat → Int32} : ∀ n : Nat, n ≤ 40 → (∀ q : Nat, q < n → P q = P' q) → srt P n = srt P' n
  | 0, _, _ => rfl
  | n + 1, hn, h => by
    have e := srt_congr (P := P) (P' := P') n (by omega) (fun q hq => h q (by omega))
    show insF (srt P n) n (insA P (srt P n) (P n).toInt n) (Int32.ofNat n) = insF (srt P' n) n (insA P' (srt P' n) (P' n).toInt n) (Int32.ofNat n)
    rw [← e, h n (by omega), insA_congr (P := P) (P' := P') (n := n) (fun q hq => h q (by omega)) n (fun j hj => srt_in (by omega) hj)]
/-- a hole more among those kept in order -/
def addB (P f : Nat → Int32) (n v : Int32) : Nat → Int32 := if n.toInt < 40 then insF f n.toNatClampNeg (insA P f v.toInt n.toNatClampNeg) n else f
def hoB (a b m n : Int32) (P f : Nat → Int32) : Nat → Int32 := if 0 ≤ a.toInt ∧ a.toInt < m.toInt ∧ 0 ≤ b.toInt ∧ b.toInt ≤ 999 then addB P f n b else f
theorem hoB_ok {a b m n : Int32} {P f : Nat → Int32} (h : 0 ≤ a.toInt ∧ a.toInt < m.toInt ∧ 0 ≤ b.toInt ∧ b.toInt ≤ 999) : hoB a b m n P f = addB P f n b := if_pos h
theorem hoB_no {a b m n : Int32} {P f : Nat → Int32} (h : ¬ (0 ≤ a.toInt ∧ a.toInt < m.toInt ∧ 0 ≤ b.toInt ∧ b.toInt ≤ 999)) : hoB a b m n P f = f := if_neg h
theorem bp_hole {a b m n n' : Int32} {P f : Nat → Int32} (h : f = srt P n.toInt.toNat) (h0 : 0 ≤ n.toInt) (h40 : n.toInt ≤ 40) (hn : (¬ (0 ≤ a.toInt ∧ a.toInt < m.toInt ∧ 0 ≤ b.toInt ∧ b.toInt ≤ 999) ∧ n'.toInt = n.toInt) ∨ ((0 ≤ a.toInt ∧ a.toInt < m.toInt ∧ 0 ≤ b.toInt ∧ b.toInt ≤ 999) ∧ n.toInt = 40 ∧ n'.toInt = n.toInt) ∨ ((0 ≤ a.toInt ∧ a.toInt < m.toInt ∧ 0 ≤ b.toInt ∧ b.toInt ≤ 999) ∧ n.toInt < 40 ∧ n'.toInt = n.toInt + 1)) : hoB a b m n P f = srt (holeF a b m n P b) n'.toInt.toNat := by
  rcases hn with ⟨h1, h2⟩ | ⟨h1, h2, h3⟩ | ⟨h1, h2, h3⟩
  · rw [hoB_no h1, holeF_no h1, h2, h]
  · rw [hoB_ok h1, holeF_ok h1, addF_no (by omega), h3, h]
    show (if n.toInt < 40 then _ else _) = _
    rw [if_neg (by omega)]
  · have e1 : n'.toInt.toNat = n.toInt.toNat + 1 := by omega
    have e2 : n.toNatClampNeg = n.toInt.toNat := rfl
    rw [hoB_ok h1, holeF_ok h1, addF_ok h2, e1]
    have hP : ∀ q : Nat, q < n.toInt.toNat → P q = upd P n.toNatClampNeg b q := fun q hq => by
      show P q = if q = n.toNatClampNeg then b else P q
      rw [if_neg (by omega)]
    have es := srt_congr (P := P) (P' := upd P n.toNatClampNeg b) n.toInt.toNat (by omega) hP
    have eb : upd P n.toNatClampNeg b n.toInt.toNat = b := by
      show (if n.toInt.toNat = n.toNatClampNeg then b else P n.toInt.toNat) = b
      rw [if_pos e2.symm]
    have ei : insA P (srt P n.toInt.toNat) b.toInt n.toInt.toNat = insA (upd P n.toNatClampNeg b) (srt P n.toInt.toNat) b.toInt n.toInt.toNat := insA_congr (n := n.toInt.toNat) hP n.toInt.toNat (fun j hj => srt_in (by omega) hj)
    show (if n.toInt < 40 then insF f n.toNatClampNeg (insA P f b.toInt n.toNatClampNeg) n else f) = insF (srt (upd P n.toNatClampNeg b) n.toInt.toNat) n.toInt.toNat (insA (upd P n.toNatClampNeg b) (srt (upd P n.toNatClampNeg b) n.toInt.toNat) (upd P n.toNatClampNeg b n.toInt.toNat).toInt n.toInt.toNat) (Int32.ofNat n.toInt.toNat)
    rw [if_pos h2, ← es, eb, ofNat_of h0, ← ei, e2, ← h]
theorem sc_hole {a b m n n' : Int32} {S : Nat → Int32} (h : ∀ j : Nat, (j : Int) < n.toInt → (S j).toInt < m.toInt) (h0 : 0 ≤ n.toInt) (hn : (¬ (0 ≤ a.toInt ∧ a.toInt < m.toInt ∧ 0 ≤ b.toInt ∧ b.toInt ≤ 999) ∧ n'.toInt = n.toInt) ∨ ((0 ≤ a.toInt ∧ a.toInt < m.toInt ∧ 0 ≤ b.toInt ∧ b.toInt ≤ 999) ∧ n.toInt = 40 ∧ n'.toInt = n.toInt) ∨ ((0 ≤ a.toInt ∧ a.toInt < m.toInt ∧ 0 ≤ b.toInt ∧ b.toInt ≤ 999) ∧ n.toInt < 40 ∧ n'.toInt = n.toInt + 1)) : ∀ j : Nat, (j : Int) < n'.toInt → (holeF a b m n S a j).toInt < m.toInt := by
  intro j hj
  rcases hn with ⟨h1, h2⟩ | ⟨h1, h2, h3⟩ | ⟨h1, h2, h3⟩
  · rw [holeF_no h1]; exact h j (by omega)
  · rw [holeF_ok h1, addF_no (by omega)]; exact h j (by omega)
  · rw [holeF_ok h1, addF_ok h2]
    have := ci_clamp (i := n) h0
    show (if j = n.toNatClampNeg then a else S j).toInt < m.toInt
    by_cases c : j = n.toNatClampNeg
    · rw [if_pos c]; omega
    · rw [if_neg c]; exact h j (by omega)
theorem sb_of {P S f : Nat → Int32} {n m : Int32} (h : f = srt P n.toInt.toNat) (h2 : ∀ j : Nat, (j : Int) < n.toInt → (S j).toInt < m.toInt) (h40 : n.toInt ≤ 40) : ∀ j : Nat, (j : Int) < n.toInt → (S (f j).toNatClampNeg).toInt < m.toInt := by
  intro j hj
  have := srt_in (P := P) (n := n.toInt.toNat) (by omega) (j := j) (by omega)
  rw [← h] at this
  exact h2 _ (by omega)
def bitW (x : Int32) : Int32 := (1 : Int32) <<< (x &&& 31)
def allB (c : Int32) : Int32 := ((1 : Int32) <<< (c &&& 31)) - 1
theorem all_tab : ∀ c : Nat, c < 9 → ∀ x : Nat, x < 8 → x < c → (allB (nI c) &&& bitW (nI x)).toInt ≠ 0 := by decide +kernel
theorem all_bit {c x : Int32} (h0 : 0 ≤ x.toInt) (h1 : x.toInt < c.toInt) (h2 : c.toInt ≤ 8) : (allB c &&& bitW x).toInt ≠ 0 := by
  have e1 : c = nI c.toInt.toNat := ci_inj (by rw [nI_toInt (by omega)]; omega)
  have e2 : x = nI x.toInt.toNat := ci_inj (by rw [nI_toInt (by omega)]; omega)
  rw [e1, e2]
  exact all_tab _ (by omega) _ (by omega) (by omega)
def newW (s S P : Nat → Int32) (sl : Int) (k w : Nat) (g : Nat → Int32) : Bool := decide (k = 0) || (decide (sl < (P (s k).toNatClampNeg).toInt - (P (s (k - 1)).toNatClampNeg).toInt) || decide ((g (w - 1) &&& bitW (S (s k).toNatClampNeg)).toInt ≠ 0))
theorem newW_iff {s S P : Nat → Int32} {sl : Int} {k w : Nat} {g : Nat → Int32} : newW s S P sl k w g = true ↔ (k = 0 ∨ sl < (P (s k).toNatClampNeg).toInt - (P (s (k - 1)).toNatClampNeg).toInt ∨ (g (w - 1) &&& bitW (S (s k).toNatClampNeg)).toInt ≠ 0) := by
  unfold newW
  rw [Bool.or_eq_true, Bool.or_eq_true, decide_eq_true_eq, decide_eq_true_eq, decide_eq_true_eq]
/-- worms after k holes: how many, their sheets, of which worm each hole is -/
def wst (s S P : Nat → Int32) (sl : Int) : Nat → Nat × (Nat → Int32) × (Nat → Int32)
  | 0 => (0, fun _ => 0, fun _ => 0)
  | k + 1 => if newW s S P sl k (wst s S P sl k).1 (wst s S P sl k).2.1 = true then ((wst s S P sl k).1 + 1, upd (wst s S P sl k).2.1 (wst s S P sl k).1 (0 ||| bitW (S (s k).toNatClampNeg)), upd (wst s S P sl k).2.2 (s k).toNatClampNeg (Int32.ofNat (wst s S P sl k).1)) else ((wst s S P sl k).1, upd (wst s S P sl k).2.1 ((wst s S P sl k).1 - 1) ((wst s S P sl k).2.1 ((wst s S P sl k).1 - 1) ||| bitW (S (s k).toNatClampNeg)), upd (wst s S P sl k).2.2 (s k).toNatClampNeg (Int32.ofNat ((wst s S P sl k).1 - 1)))
theorem wst_congr {s s' S P : Nat → Int32} {sl : Int} : ∀ n : Nat, (∀ j : Nat, j < n → s j = s' j) → wst s S P sl n = wst s' S P sl n
  | 0, _ => rfl
  | n + 1, h => by
    have e := wst_congr (s := s) (s' := s') (S := S) (P := P) (sl := sl) n (fun j hj => h j (by omega))
    have e2 : newW s S P sl n (wst s S P sl n).1 (wst s S P sl n).2.1 = newW s' S P sl n (wst s' S P sl n).1 (wst s' S P sl n).2.1 := by
      unfold newW
      rw [← e, h n (by omega), h (n - 1) (by omega)]
    show (if newW s S P sl n (wst s S P sl n).1 (wst s S P sl n).2.1 = true then _ else _) = (if newW s' S P sl n (wst s' S P sl n).1 (wst s' S P sl n).2.1 = true then _ else _)
    rw [e2, ← e, h n (by omega)]
def WInv (s S P : Nat → Int32) (sl : Int) (k : Nat) (w : Int32) (g o : Nat → Int32) : Prop := w.toInt = (((wst s S P sl k).1 : Nat) : Int) ∧ (wst s S P sl k).1 ≤ k ∧ (0 < k → 0 < (wst s S P sl k).1) ∧ (∀ j : Nat, j < (wst s S P sl k).1 → g j = (wst s S P sl k).2.1 j) ∧ (∀ i : Nat, i < k → o (s i).toNatClampNeg = (wst s S P sl k).2.2 (s i).toNatClampNeg)
theorem wi_zero {s S P : Nat → Int32} {sl : Int} {w : Int32} {g o : Nat → Int32} (h : w.toInt = 0) : WInv s S P sl 0 w g o := ⟨h, Nat.le_refl 0, fun h => absurd h (Nat.lt_irrefl 0), fun j hj => absurd hj (Nat.not_lt_zero j), fun i hi => absurd hi (Nat.not_lt_zero i)⟩
theorem wi_new {s S P : Nat → Int32} {sl : Int} {k k' w w' i z y b v : Int32} {g g' o o' : Nat → Int32} {q : Nat} (h : WInv s S P sl k.toInt.toNat w g o) (h0 : 0 ≤ k.toInt) (hk : k'.toInt = k.toInt + 1) (hk40 : k.toInt < 40)
    (hn : k.toInt = 0 ∨ sl < (P (s k.toNatClampNeg).toNatClampNeg).toInt - (P (s (k.toInt - 1).toNat).toNatClampNeg).toInt ∨ (0 < k.toInt ∧ (g (w.toInt - 1).toNat &&& b).toInt ≠ 0))
    (hw : w'.toInt = w.toInt + 1) (hg : g' = upd (upd g w.toNatClampNeg 0) i.toNatClampNeg z) (hi : i.toInt = w.toInt) (hy : y = upd g w.toNatClampNeg 0 i.toNatClampNeg) (hz : z = y ||| b) (hb : b = bitW (S (s k.toNatClampNeg).toNatClampNeg)) (ho : o' = upd o q v) (hq : q = (s k.toNatClampNeg).toNatClampNeg) (hv : v.toInt = w.toInt) : WInv s S P sl k'.toInt.toNat w' g' o' := by
  obtain ⟨h1, h2, h3, h4, h5⟩ := h
  have e1 : k'.toInt.toNat = k.toInt.toNat + 1 := by omega
  have e2 : k.toNatClampNeg = k.toInt.toNat := rfl
  have e3 : w.toNatClampNeg = (wst s S P sl k.toInt.toNat).1 := by have : w.toNatClampNeg = w.toInt.toNat := rfl; omega
  have e4 : i.toNatClampNeg = (wst s S P sl k.toInt.toNat).1 := by have : i.toNatClampNeg = i.toInt.toNat := rfl; omega
  have e5 : v = Int32.ofNat (wst s S P sl k.toInt.toNat).1 := by rw [← e3]; exact (show v = w from ci_inj hv) ▸ (ofNat_of (by omega)).symm
  rw [e2] at hn hb hq
  have hN : newW s S P sl k.toInt.toNat (wst s S P sl k.toInt.toNat).1 (wst s S P sl k.toInt.toNat).2.1 = true := by
    rw [newW_iff]
    rcases hn with hn | hn | ⟨hp, hn⟩
    · exact Or.inl (by omega)
    · rw [show (k.toInt - 1).toNat = k.toInt.toNat - 1 by omega] at hn
      exact Or.inr (Or.inl hn)
    · have hp2 := h3 (by omega)
      rw [show (w.toInt - 1).toNat = (wst s S P sl k.toInt.toNat).1 - 1 by omega, h4 _ (by omega), hb] at hn
      exact Or.inr (Or.inr hn)
  have hW : wst s S P sl (k.toInt.toNat + 1) = ((wst s S P sl k.toInt.toNat).1 + 1, upd (wst s S P sl k.toInt.toNat).2.1 (wst s S P sl k.toInt.toNat).1 (0 ||| bitW (S (s k.toInt.toNat).toNatClampNeg)), upd (wst s S P sl k.toInt.toNat).2.2 (s k.toInt.toNat).toNatClampNeg (Int32.ofNat (wst s S P sl k.toInt.toNat).1)) := if_pos hN
  have hy0 : y = 0 := by
    rw [hy, e3, e4]
    show (if _ = _ then (0 : Int32) else _) = 0
    rw [if_pos rfl]
  rw [e1]
  unfold WInv
  rw [hW]
  refine ⟨by show w'.toInt = (((wst s S P sl k.toInt.toNat).1 + 1 : Nat) : Int); omega, by show (wst s S P sl k.toInt.toNat).1 + 1 ≤ _; omega, fun _ => Nat.succ_pos _, fun j hj => ?_, fun j hj => ?_⟩
  · have hj : j < (wst s S P sl k.toInt.toNat).1 + 1 := hj
    rw [hg, e3, e4, hz, hy0, hb]
    show (if j = (wst s S P sl k.toInt.toNat).1 then _ else (if j = (wst s S P sl k.toInt.toNat).1 then (0 : Int32) else g j)) = (if j = (wst s S P sl k.toInt.toNat).1 then _ else (wst s S P sl k.toInt.toNat).2.1 j)
    by_cases c : j = (wst s S P sl k.toInt.toNat).1
    · rw [if_pos c, if_pos c]
    · rw [if_neg c, if_neg c, if_neg c]; exact h4 j (by omega)
  · rw [ho, hq, e5]
    show (if (s j).toNatClampNeg = (s k.toInt.toNat).toNatClampNeg then _ else o (s j).toNatClampNeg) = (if (s j).toNatClampNeg = (s k.toInt.toNat).toNatClampNeg then _ else (wst s S P sl k.toInt.toNat).2.2 (s j).toNatClampNeg)
    by_cases c : (s j).toNatClampNeg = (s k.toInt.toNat).toNatClampNeg
    · rw [if_pos c, if_pos c]
    · rw [if_neg c, if_neg c]
      by_cases c2 : j = k.toInt.toNat
      · exact absurd (by rw [c2]) c
      · exact h5 j (by omega)
theorem wi_old {s S P : Nat → Int32} {sl : Int} {k k' w w' i z y b v : Int32} {g g' o o' : Nat → Int32} {q : Nat} (h : WInv s S P sl k.toInt.toNat w g o) (h0 : 0 < k.toInt) (hk : k'.toInt = k.toInt + 1) (hk40 : k.toInt < 40)
    (hn : ¬ (sl < (P (s k.toNatClampNeg).toNatClampNeg).toInt - (P (s (k.toInt - 1).toNat).toNatClampNeg).toInt)) (hn2 : (g (w.toInt - 1).toNat &&& b).toInt = 0)
    (hw : w'.toInt = w.toInt) (hg : g' = upd g i.toNatClampNeg z) (hi : i.toInt = w.toInt - 1) (hy : y = g i.toNatClampNeg) (hz : z = y ||| b) (hb : b = bitW (S (s k.toNatClampNeg).toNatClampNeg)) (ho : o' = upd o q v) (hq : q = (s k.toNatClampNeg).toNatClampNeg) (hv : v.toInt = w.toInt - 1) : WInv s S P sl k'.toInt.toNat w' g' o' := by
  obtain ⟨h1, h2, h3, h4, h5⟩ := h
  have hp := h3 (by omega)
  have e1 : k'.toInt.toNat = k.toInt.toNat + 1 := by omega
  have e2 : k.toNatClampNeg = k.toInt.toNat := rfl
  have e4 : i.toNatClampNeg = (wst s S P sl k.toInt.toNat).1 - 1 := by have : i.toNatClampNeg = i.toInt.toNat := rfl; omega
  have e5 : v = Int32.ofNat ((wst s S P sl k.toInt.toNat).1 - 1) := by rw [← e4]; exact (show v = i from ci_inj (by omega)) ▸ (ofNat_of (by omega)).symm
  have e6 : (w.toInt - 1).toNat = (wst s S P sl k.toInt.toNat).1 - 1 := by omega
  rw [e2] at hn hb hq
  have hN : ¬ newW s S P sl k.toInt.toNat (wst s S P sl k.toInt.toNat).1 (wst s S P sl k.toInt.toNat).2.1 = true := by
    rw [newW_iff]
    intro z9
    rcases z9 with z9 | z9 | z9
    · omega
    · rw [show (k.toInt - 1).toNat = k.toInt.toNat - 1 by omega] at hn
      exact hn z9
    · rw [e6, h4 _ (by omega), hb] at hn2
      exact z9 hn2
  have hW : wst s S P sl (k.toInt.toNat + 1) = ((wst s S P sl k.toInt.toNat).1, upd (wst s S P sl k.toInt.toNat).2.1 ((wst s S P sl k.toInt.toNat).1 - 1) ((wst s S P sl k.toInt.toNat).2.1 ((wst s S P sl k.toInt.toNat).1 - 1) ||| bitW (S (s k.toInt.toNat).toNatClampNeg)), upd (wst s S P sl k.toInt.toNat).2.2 (s k.toInt.toNat).toNatClampNeg (Int32.ofNat ((wst s S P sl k.toInt.toNat).1 - 1))) := if_neg hN
  rw [e1]
  unfold WInv
  rw [hW]
  refine ⟨by show w'.toInt = (((wst s S P sl k.toInt.toNat).1 : Nat) : Int); omega, by show (wst s S P sl k.toInt.toNat).1 ≤ _; omega, fun _ => hp, fun j hj => ?_, fun j hj => ?_⟩
  · have hj : j < (wst s S P sl k.toInt.toNat).1 := hj
    rw [hg, hz, hy, e4, hb, h4 _ (show (wst s S P sl k.toInt.toNat).1 - 1 < (wst s S P sl k.toInt.toNat).1 by omega)]
    show (if j = (wst s S P sl k.toInt.toNat).1 - 1 then _ else g j) = (if j = (wst s S P sl k.toInt.toNat).1 - 1 then _ else (wst s S P sl k.toInt.toNat).2.1 j)
    by_cases c : j = (wst s S P sl k.toInt.toNat).1 - 1
    · rw [if_pos c, if_pos c]
    · rw [if_neg c, if_neg c]; exact h4 j hj
  · rw [ho, hq, e5]
    show (if (s j).toNatClampNeg = (s k.toInt.toNat).toNatClampNeg then _ else o (s j).toNatClampNeg) = (if (s j).toNatClampNeg = (s k.toInt.toNat).toNatClampNeg then _ else (wst s S P sl k.toInt.toNat).2.2 (s j).toNatClampNeg)
    by_cases c : (s j).toNatClampNeg = (s k.toInt.toNat).toNatClampNeg
    · rw [if_pos c, if_pos c]
    · rw [if_neg c, if_neg c]
      by_cases c2 : j = k.toInt.toNat
      · exact absurd (by rw [c2]) c
      · exact h5 j (by omega)
/-- every hole stands somewhere in the order -/
theorem srt_all {P : Nat → Int32} : ∀ n : Nat, n ≤ 40 → ∀ q : Nat, q < n → ∃ j : Nat, j < n ∧ (srt P n j).toNatClampNeg = q
  | 0, _, q, h => absurd h (Nat.not_lt_zero q)
  | n + 1, hn, q, h => by
    have ha := insA_le (P := P) (f := srt P n) (v := (P n).toInt) n
    have e : (Int32.ofNat n).toInt = (n : Int) := ci_len rfl (by omega)
    have ec := ci_clamp (i := Int32.ofNat n) (by omega)
    have ev : ∀ j : Nat, srt P (n + 1) j = if j = insA P (srt P n) (P n).toInt n then Int32.ofNat n else if insA P (srt P n) (P n).toInt n < j ∧ j ≤ n then srt P n (j - 1) else srt P n j := fun j => rfl
    by_cases c : q = n
    · refine ⟨insA P (srt P n) (P n).toInt n, by omega, ?_⟩
      rw [ev, if_pos rfl]; omega
    · obtain ⟨j, hj, he⟩ := srt_all (P := P) n (by omega) q (by omega)
      by_cases c2 : j < insA P (srt P n) (P n).toInt n
      · refine ⟨j, by omega, ?_⟩
        rw [ev, if_neg (by omega), if_neg (by omega)]; exact he
      · refine ⟨j + 1, by omega, ?_⟩
        rw [ev, if_neg (by omega), if_pos (by omega)]; exact he

theorem addB_ok {P f : Nat → Int32} {n v : Int32} (h : n.toInt < 40) : addB P f n v = insF f n.toNatClampNeg (insA P f v.toInt n.toNatClampNeg) n := if_pos h
theorem addB_no {P f : Nat → Int32} {n v : Int32} (h : ¬ n.toInt < 40) : addB P f n v = f := if_neg h
/-- f with the places above a, up to n, moved one on -/
def shF (f : Nat → Int32) (n a : Nat) : Nat → Int32 := fun j => if a < j ∧ j ≤ n then f (j - 1) else f j
theorem shF_self {f : Nat → Int32} {n a : Nat} (h : n ≤ a) : f = shF f n a := by
  funext j
  show f j = if a < j ∧ j ≤ n then f (j - 1) else f j
  rw [if_neg (by omega)]
theorem ld_at {g : Nat → Int32} {i k z : Int32} (e : z = g i.toNatClampNeg) (h : i.toInt = k.toInt - 1) (h0 : 0 < k.toInt) : z = g (k.toInt - 1).toNat := by
  have := ci_clamp (i := i) (by omega)
  rw [e]
  exact congrArg g (by omega)
theorem sh_step {f g g' : Nat → Int32} {n : Nat} {k k' z : Int32} (h : g = shF f n k.toInt.toNat) (h0 : 0 < k.toInt) (hk : k.toInt ≤ (n : Int)) (h1 : k'.toInt = k.toInt - 1) (hz : z = g (k.toInt - 1).toNat) (hg : g' = upd g k.toNatClampNeg z) : g' = shF f n k'.toInt.toNat := by
  have e1 : k.toNatClampNeg = k'.toInt.toNat + 1 := by have := ci_clamp (i := k) (by omega); omega
  have e2 : (k.toInt - 1).toNat = k'.toInt.toNat := by omega
  have e3 : k.toInt.toNat = k'.toInt.toNat + 1 := by omega
  rw [e3] at h
  rw [hg, hz, e1, e2, h]
  funext j
  show (if j = k'.toInt.toNat + 1 then (if k'.toInt.toNat + 1 < k'.toInt.toNat ∧ k'.toInt.toNat ≤ n then f (k'.toInt.toNat - 1) else f k'.toInt.toNat) else (if k'.toInt.toNat + 1 < j ∧ j ≤ n then f (j - 1) else f j)) = (if k'.toInt.toNat < j ∧ j ≤ n then f (j - 1) else f j)
  by_cases c : j = k'.toInt.toNat + 1
  · rw [if_pos c, if_neg (by omega), if_pos (by omega), c, Nat.add_sub_cancel]
  · rw [if_neg c]
    by_cases c2 : k'.toInt.toNat < j ∧ j ≤ n
    · rw [if_pos c2, if_pos (by omega)]
    · rw [if_neg c2, if_neg (by omega)]
theorem ins_go {P f g : Nat → Int32} {v : Int} {n : Nat} {k k' : Int32} (h : insA P f v n = insA P f v k.toInt.toNat) (hg : g = shF f n k.toInt.toNat) (h0 : 0 < k.toInt) (hb : v < (P (g (k.toInt - 1).toNat).toNatClampNeg).toInt) (h1 : k'.toInt = k.toInt - 1) : insA P f v n = insA P f v k'.toInt.toNat := by
  have e3 : k.toInt.toNat = k'.toInt.toNat + 1 := by omega
  have eg : g (k.toInt - 1).toNat = f k'.toInt.toNat := by
    rw [hg, e3, show (k.toInt - 1).toNat = k'.toInt.toNat by omega]
    exact if_neg (by omega)
  rw [eg] at hb
  rw [h, e3]
  exact if_pos hb
theorem ins_end0 {P f : Nat → Int32} {v : Int} {n : Nat} {k : Int32} (h : insA P f v n = insA P f v k.toInt.toNat) (h0 : k.toInt ≤ 0) : insA P f v n = k.toNatClampNeg := by
  have e : k.toInt.toNat = 0 := by omega
  have e2 : k.toNatClampNeg = k.toInt.toNat := rfl
  rw [h, e2, e]; rfl
theorem ins_end {P f g : Nat → Int32} {v : Int} {n : Nat} {k : Int32} (h : insA P f v n = insA P f v k.toInt.toNat) (hg : g = shF f n k.toInt.toNat) (h0 : 0 < k.toInt) (hb : ¬ v < (P (g (k.toInt - 1).toNat).toNatClampNeg).toInt) : insA P f v n = k.toNatClampNeg := by
  obtain ⟨q, hq⟩ : ∃ q : Nat, k.toInt.toNat = q + 1 := ⟨k.toInt.toNat - 1, by omega⟩
  have e2 : k.toNatClampNeg = k.toInt.toNat := rfl
  have eg : g (k.toInt - 1).toNat = f q := by
    rw [hg, hq, show (k.toInt - 1).toNat = q by omega]
    exact if_neg (by omega)
  rw [eg] at hb
  rw [h, e2, hq]
  exact if_neg hb
theorem ins_put {f g : Nat → Int32} {n a : Nat} {k h : Int32} (hA : a = k.toNatClampNeg) (hg : g = shF f n k.toInt.toNat) : upd g k.toNatClampNeg h = insF f n a h := by
  have e2 : k.toNatClampNeg = k.toInt.toNat := rfl
  rw [hA, hg, e2]; rfl

theorem wi_start {s S P : Nat → Int32} {sl : Int} {k w : Int32} {g o : Nat → Int32} (hk : k.toInt = 0) (h : w.toInt = 0) : WInv s S P sl k.toInt.toNat w g o := by
  rw [hk]; exact wi_zero h
theorem wi_congr {s s' S P : Nat → Int32} {sl : Int} {n : Nat} {w : Int32} {g o : Nat → Int32} (h : WInv s S P sl n w g o) (e : ∀ j : Nat, j < n → s j = s' j) : WInv s' S P sl n w g o := by
  unfold WInv at h ⊢
  rw [← wst_congr (S := S) (P := P) (sl := sl) n e]
  exact ⟨h.1, h.2.1, h.2.2.1, h.2.2.2.1, fun i hi => by rw [← e i hi]; exact h.2.2.2.2 i hi⟩
theorem ta_next {s : Nat → Int32} {k k' h : Int32} (e : h = s k.toNatClampNeg) (h1 : k'.toInt = k.toInt + 1) : h = s (k'.toInt - 1).toNat := by
  have e2 : k.toNatClampNeg = k.toInt.toNat := rfl
  rw [e, e2]
  exact congrArg s (by omega)
theorem insA_congr2 {P f f' : Nat → Int32} {v : Int} : ∀ k : Nat, (∀ j : Nat, j < k → f j = f' j) → insA P f v k = insA P f' v k
  | 0, _ => rfl
  | k + 1, h => by
    show (if v < (P (f k).toNatClampNeg).toInt then insA P f v k else k + 1) = (if v < (P (f' k).toNatClampNeg).toInt then insA P f' v k else k + 1)
    rw [h k (by omega), insA_congr2 k (fun j hj => h j (by omega))]
theorem srt_next {P f g : Nat → Int32} {k k' : Int32} {a : Nat} (h : ∀ j : Nat, (j : Int) < k.toInt → f j = srt P k.toInt.toNat j) (h0 : 0 ≤ k.toInt) (h1 : k'.toInt = k.toInt + 1) (ha : a = insA P f (P k.toNatClampNeg).toInt k.toInt.toNat) (hg : g = insF f k.toInt.toNat a k) : ∀ j : Nat, (j : Int) < k'.toInt → g j = srt P k'.toInt.toNat j := by
  intro j hj
  have e2 : k.toNatClampNeg = k.toInt.toNat := rfl
  have e1 : k'.toInt.toNat = k.toInt.toNat + 1 := by omega
  have ea : a = insA P (srt P k.toInt.toNat) (P k.toInt.toNat).toInt k.toInt.toNat := by
    rw [ha, e2]; exact insA_congr2 _ (fun j hj => h j (by omega))
  have hl := insA_le (P := P) (f := srt P k.toInt.toNat) (v := (P k.toInt.toNat).toInt) k.toInt.toNat
  rw [hg, e1, ea]
  show (if j = insA P (srt P k.toInt.toNat) (P k.toInt.toNat).toInt k.toInt.toNat then k else if insA P (srt P k.toInt.toNat) (P k.toInt.toNat).toInt k.toInt.toNat < j ∧ j ≤ k.toInt.toNat then f (j - 1) else f j) = (if j = insA P (srt P k.toInt.toNat) (P k.toInt.toNat).toInt k.toInt.toNat then Int32.ofNat k.toInt.toNat else if insA P (srt P k.toInt.toNat) (P k.toInt.toNat).toInt k.toInt.toNat < j ∧ j ≤ k.toInt.toNat then srt P k.toInt.toNat (j - 1) else srt P k.toInt.toNat j)
  by_cases c : j = insA P (srt P k.toInt.toNat) (P k.toInt.toNat).toInt k.toInt.toNat
  · rw [if_pos c, if_pos c]; exact (ofNat_of h0).symm
  · rw [if_neg c, if_neg c]
    by_cases c2 : insA P (srt P k.toInt.toNat) (P k.toInt.toNat).toInt k.toInt.toNat < j ∧ j ≤ k.toInt.toNat
    · rw [if_pos c2, if_pos c2]; exact h (j - 1) (by omega)
    · rw [if_neg c2, if_neg c2]; exact h j (by omega)
theorem srt_next2 {P f g : Nat → Int32} {k k' : Int32} {n : Nat} (h : ∀ j : Nat, (j : Int) < k.toInt → f j = srt P k.toInt.toNat j) (h0 : 0 ≤ k.toInt) (h1 : k'.toInt = k.toInt + 1) (hn : n = k.toInt.toNat) (hg : g = insF f n (insA P f (P k.toNatClampNeg).toInt n) k) : ∀ j : Nat, (j : Int) < k'.toInt → g j = srt P k'.toInt.toNat j := by
  subst hn; exact srt_next h h0 h1 rfl hg
theorem ld_if {g : Nat → Int32} {i k z : Int32} (e : z = g i.toNatClampNeg) (h : i.toInt = k.toInt - 1) (h0 : 0 < k.toInt) : z = g (k.toInt - 1).toNat := ld_at e h h0
/-- worms(sl, w) and led(hole, sl), out of the holes alone -/
def wormsR (S P : Nat → Int32) (n : Nat) (sl w : Int) : Int := if w = -1 then (((wst (srt P n) S P sl n).1 : Nat) : Int) else if w < (((wst (srt P n) S P sl n).1 : Nat) : Int) then ((wst (srt P n) S P sl n).2.1 w.toNat).toInt else -1
def ledR (S P : Nat → Int32) (n : Nat) (sl : Int) (h : Nat) : Int := ((wst (srt P n) S P sl n).2.2 h).toInt
theorem led_of {S P : Nat → Int32} {n : Nat} {sl : Int} {w : Int32} {g o : Nat → Int32} {h : Nat} (hW : WInv (srt P n) S P sl n w g o) (hn : n ≤ 40) (hh : h < n) : (o h).toInt = ledR S P n sl h := by
  obtain ⟨j, hj, he⟩ := srt_all (P := P) n hn h hh
  unfold WInv at hW
  have := hW.2.2.2.2 j hj
  rw [he] at this
  unfold ledR
  rw [this]
theorem worms_of {S P : Nat → Int32} {n : Nat} {sl : Int} {w : Int32} {g o : Nat → Int32} (hW : WInv (srt P n) S P sl n w g o) : (∀ v : Int, v = -1 → w.toInt = wormsR S P n sl v) ∧ (∀ v : Int32, 0 ≤ v.toInt → v.toInt < w.toInt → (g v.toNatClampNeg).toInt = wormsR S P n sl v.toInt) ∧ (∀ v : Int, 0 ≤ v → w.toInt ≤ v → -1 = wormsR S P n sl v) := by
  unfold WInv at hW
  obtain ⟨h1, _, _, h4, _⟩ := hW
  unfold wormsR
  refine ⟨fun v hv => ?_, fun v h0 hl => ?_, fun v h0 hl => ?_⟩
  · rw [if_pos hv]; exact h1
  · rw [if_neg (by omega), if_pos (by omega)]
    have e2 : v.toNatClampNeg = v.toInt.toNat := rfl
    rw [e2, h4 _ (by omega)]
  · rw [if_neg (by omega), if_neg (by omega)]
theorem worms_congr {S S' P P' : Nat → Int32} {n n' : Nat} {sl sl' w w' : Int} (h1 : S = S') (h2 : P = P') (h3 : n = n') (h4 : sl = sl') (h5 : w = w') : wormsR S P n sl w = wormsR S' P' n' sl' w' := by rw [h1, h2, h3, h4, h5]
theorem led_congr {S S' P P' : Nat → Int32} {n n' : Nat} {sl sl' : Int} {h h' : Nat} (h1 : S = S') (h2 : P = P') (h3 : n = n') (h4 : sl = sl') (h5 : h = h') : ledR S P n sl h = ledR S' P' n' sl' h' := by rw [h1, h2, h3, h4, h5]
theorem fr_div {x y z : Int32} {n : Int} (hy : y.toInt = n) (hn : 1 < n) (e : z = x / y) : x.toInt < 0 → z.toInt = -((-x.toInt) / n) := fun h => by
  have h0 : 0 ≤ -x.toInt := by omega
  have h1 : 0 ≤ (-x.toInt) / n := Int.ediv_nonneg h0 (by omega)
  have h2 : (-x.toInt) / n ≤ -x.toInt := Int.ediv_le_self n h0
  have h3 : (-x.toInt) / n < -x.toInt := Int.ediv_lt_self_of_pos_of_ne_one (by omega) (by omega)
  have hr := ci_rng x
  have hq : x.toInt.tdiv n = -((-x.toInt) / n) := by
    obtain ⟨m, hm⟩ : ∃ m : Int, m = -x.toInt := ⟨_, rfl⟩
    have hx' : x.toInt = -m := by omega
    rw [hx', Int.neg_tdiv, Int.tdiv_eq_ediv_of_nonneg (by omega), Int.neg_neg]
  rw [e, Int32.toInt_div, hy, hq]
  exact ci_bmod (by omega) (by omega)
theorem fr_rem {x y z : Int32} {n : Int} (hy : y.toInt = n) (hn : 1 < n) (e : z = x - x / y * y) : x.toInt < 0 → z.toInt = -((-x.toInt) % n) := fun h => by
  have hq := fr_div (z := x / y) hy hn rfl h
  have h0 : 0 ≤ -x.toInt := by omega
  have h1 : 0 ≤ (-x.toInt) / n := Int.ediv_nonneg h0 (by omega)
  have h3 : (-x.toInt) / n * n ≤ -x.toInt := Int.ediv_mul_le _ (by omega)
  have h4 : 0 ≤ (-x.toInt) / n * n := Int.mul_nonneg h1 (by omega)
  have hr := ci_rng x
  have hm : (x / y * y).toInt = -((-x.toInt) / n * n) := by rw [Int32.toInt_mul, hq, hy, Int.neg_mul]; exact ci_bmod (by omega) (by omega)
  have h5 : (-x.toInt) % n = -x.toInt - (-x.toInt) / n * n := by rw [Int.emod_def, Int.mul_comm n]
  rw [h5, e, Int32.toInt_sub, hm, ci_bmod (by omega) (by omega)]
  omega
def lineF (a b n c : Int32) (f : Nat → Int32) (v : Int32) : Nat → Int32 := if 0 ≤ a.toInt ∧ a.toInt < n.toInt ∧ 0 ≤ b.toInt ∧ b.toInt ≤ 5 then addF c 20 f v else f
theorem lineF_ok {a b n c v : Int32} {f : Nat → Int32} (h : 0 ≤ a.toInt ∧ a.toInt < n.toInt ∧ 0 ≤ b.toInt ∧ b.toInt ≤ 5) : lineF a b n c f v = addF c 20 f v := if_pos h
theorem lineF_no {a b n c v : Int32} {f : Nat → Int32} (h : ¬ (0 ≤ a.toInt ∧ a.toInt < n.toInt ∧ 0 ≤ b.toInt ∧ b.toInt ≤ 5)) : lineF a b n c f v = f := if_neg h
/-- the first place from k on (of m more) where the mark is of line l and hole h; else the end -/
def fstM (ml mh : Nat → Int32) (l h : Int32) : Nat → Nat → Nat
  | 0, k => k
  | m + 1, k => if (ml k).toInt = l.toInt ∧ (mh k).toInt = h.toInt then k else fstM ml mh l h m (k + 1)
theorem fst_step {ml mh : Nat → Int32} {l h k k' : Int32} {M : Int} {F : Nat} (hT : F = fstM ml mh l h (M.toNat - k.toInt.toNat) k.toInt.toNat) (h0 : 0 ≤ k.toInt) (h1 : k'.toInt = k.toInt + 1) (hlt : k.toInt < M) (hne : ¬ ((ml k.toNatClampNeg).toInt = l.toInt ∧ (mh k.toNatClampNeg).toInt = h.toInt)) : F = fstM ml mh l h (M.toNat - k'.toInt.toNat) k'.toInt.toNat := by
  have h3 : k.toNatClampNeg = k.toInt.toNat := by have := ci_clamp (i := k) h0; omega
  have h2 : k'.toInt.toNat = k.toInt.toNat + 1 := by omega
  have h4 : M.toNat - k.toInt.toNat = (M.toNat - k'.toInt.toNat) + 1 := by omega
  rw [h3] at hne
  rw [hT, h4, h2]
  show (if (ml k.toInt.toNat).toInt = l.toInt ∧ (mh k.toInt.toNat).toInt = h.toInt then k.toInt.toNat else fstM ml mh l h (M.toNat - (k.toInt.toNat + 1)) (k.toInt.toNat + 1)) = _
  rw [if_neg hne]
theorem fst_end {ml mh : Nat → Int32} {l h k : Int32} {M : Int} {F : Nat} (hT : F = fstM ml mh l h (M.toNat - k.toInt.toNat) k.toInt.toNat) (h0 : 0 ≤ k.toInt) (hle : M ≤ k.toInt) : (F : Int) = k.toInt := by
  have h4 : M.toNat - k.toInt.toNat = 0 := by omega
  rw [h4] at hT
  have h5 : F = k.toInt.toNat := hT
  omega
theorem fst_hit {ml mh : Nat → Int32} {l h k : Int32} {M : Int} {F : Nat} (hT : F = fstM ml mh l h (M.toNat - k.toInt.toNat) k.toInt.toNat) (h0 : 0 ≤ k.toInt) (hlt : k.toInt < M) (hm : (ml k.toNatClampNeg).toInt = l.toInt ∧ (mh k.toNatClampNeg).toInt = h.toInt) : (F : Int) = k.toInt := by
  have h3 : k.toNatClampNeg = k.toInt.toNat := by have := ci_clamp (i := k) h0; omega
  have h4 : M.toNat - k.toInt.toNat = (M.toNat - k.toInt.toNat - 1) + 1 := by omega
  rw [h3] at hm
  rw [h4] at hT
  have h5 : F = k.toInt.toNat := hT.trans (if_pos hm)
  omega
def mkF (a : Nat) (f : Nat → Int32) (v : Int32) : Nat → Int32 := if (a : Int) < 60 then upd f a v else f
theorem mkF_ok {a : Nat} {f : Nat → Int32} {v : Int32} (h : (a : Int) < 60) : mkF a f v = upd f a v := if_pos h
theorem mkF_no {a : Nat} {f : Nat → Int32} {v : Int32} (h : ¬ (a : Int) < 60) : mkF a f v = f := if_neg h
def bt (x : Int32) (i : Nat) : Bool := x.toBitVec.getLsbD i
theorem b_ext {x y : Int32} (h : ∀ i, i < 32 → bt x i = bt y i) : x = y := Int32.toBitVec_inj.mp (BitVec.eq_of_getLsbD_eq (fun i hi => h i hi))
theorem b_or (x y : Int32) (i : Nat) : bt (x ||| y) i = (bt x i || bt y i) := by unfold bt; rw [Int32.toBitVec_or, BitVec.getLsbD_or]
theorem b_and (x y : Int32) (i : Nat) : bt (x &&& y) i = (bt x i && bt y i) := by unfold bt; rw [Int32.toBitVec_and, BitVec.getLsbD_and]
theorem b_xor (x y : Int32) (i : Nat) : bt (x ^^^ y) i = (bt x i ^^ bt y i) := by unfold bt; rw [Int32.toBitVec_xor, BitVec.getLsbD_xor]
theorem b_big {x : Int32} {i : Nat} (h : 32 ≤ i) : bt x i = false := BitVec.getLsbD_of_ge _ _ h
theorem b_255 (i : Nat) : bt 255 i = decide (i < 8) := by
  rcases Nat.lt_or_ge i 32 with h | h
  · exact (by decide +kernel : ∀ i, i < 32 → bt 255 i = decide (i < 8)) i h
  · rw [b_big h, decide_eq_false (by omega)]
theorem b_65535 (i : Nat) : bt 65535 i = decide (i < 16) := by
  rcases Nat.lt_or_ge i 32 with h | h
  · exact (by decide +kernel : ∀ i, i < 32 → bt 65535 i = decide (i < 16)) i h
  · rw [b_big h, decide_eq_false (by omega)]
theorem b_m1 : ∀ i, i < 32 → bt (-1) i = true := by decide +kernel
theorem b_0 (i : Nat) : bt 0 i = false := BitVec.getLsbD_zero
theorem s_l : ∀ n, n < 32 → ((nI n &&& 31).toBitVec.smod 32).toNat = n := by decide +kernel
theorem s_u : ∀ n, n < 32 → (((nI n).toUInt32 &&& Int32.toUInt32 31).toBitVec % 32).toNat = n := by decide +kernel
theorem b_shl (n : Nat) (hn : n < 32) (x : Int32) {i : Nat} (hi : i < 32) : bt (x <<< (nI n &&& 31)) i = (decide (n ≤ i) && bt x (i - n)) := by
  unfold bt
  rw [Int32.toBitVec_shiftLeft]
  show (x.toBitVec <<< ((nI n &&& 31).toBitVec.smod 32).toNat).getLsbD i = _
  rw [s_l n hn, BitVec.getLsbD_shiftLeft]
  rcases Nat.lt_or_ge i n with h | h
  · simp [h, Nat.not_le.mpr h]
  · simp [hi, h, Nat.not_lt.mpr h]
theorem b_ushr (n : Nat) (hn : n < 32) (x : Int32) (i : Nat) : bt ((x.toUInt32 >>> ((nI n).toUInt32 &&& Int32.toUInt32 31)).toInt32) i = bt x (n + i) := by
  show (x.toUInt32 >>> ((nI n).toUInt32 &&& Int32.toUInt32 31)).toBitVec.getLsbD i = x.toUInt32.toBitVec.getLsbD (n + i)
  rw [UInt32.toBitVec_shiftRight]
  show (x.toUInt32.toBitVec >>> (((nI n).toUInt32 &&& Int32.toUInt32 31).toBitVec % 32).toNat).getLsbD i = _
  rw [s_u n hn, BitVec.getLsbD_ushiftRight]
theorem b_sshr (n : Nat) (hn : n < 32) (x : Int32) {i : Nat} (hi : i < 32) : bt (x >>> (nI n &&& 31)) i = if n + i < 32 then bt x (n + i) else bt x 31 := by
  unfold bt
  rw [Int32.toBitVec_shiftRight]
  show (x.toBitVec.sshiftRight ((nI n &&& 31).toBitVec.smod 32).toNat).getLsbD i = _
  rw [s_l n hn, BitVec.getLsbD_sshiftRight, BitVec.msb_eq_getLsbD_last]
  simp [hi]

theorem i_m1 : ((-1 : Int32)).toInt = -1 := by decide
theorem i_p0 : ((0 : Int32)).toInt = 0 := by decide
theorem i_p1 : ((1 : Int32)).toInt = 1 := by decide
theorem hq_of {r : Int32} {P : Prop} (h : (r.toInt = 1 ∧ P) ∨ (r.toInt = 0 ∧ ¬ P)) : (r.toInt = 1 ∧ P) ∨ (r.toInt = 0 ∧ ¬ P) := h
theorem no_of {r : Int32} {P : Prop} (h : (r.toInt = 1 ∧ P) ∨ (r.toInt = 0 ∧ ¬ P)) (h0 : r.toInt = 0) : ¬ P := by
  rcases h with ⟨h1, _⟩ | ⟨_, h2⟩
  · exact absurd h1 (by omega)
  · exact h2
theorem yes_of {r : Int32} {P : Prop} (h : (r.toInt = 1 ∧ P) ∨ (r.toInt = 0 ∧ ¬ P)) (h0 : ¬ r.toInt = 0) : P := by
  rcases h with ⟨_, h1⟩ | ⟨h2, _⟩
  · exact h1
  · exact absurd h2 h0
theorem nI_ofI {x : Int32} (h : 0 ≤ x.toInt) : x = nI x.toInt.toNat := ci_inj (by rw [nI_toInt (by have := ci_rng x; omega)]; omega)
theorem b_one : ∀ i, i < 32 → bt 1 i = decide (i = 0) := by decide +kernel
/-- whether a bit is set -/
def hasI (x : Int32) (s : Int) : Prop := bt x s.toNat = true
theorem has_bt {x y z1 z2 : Int32} (e1 : z1 = x >>> (y &&& 31)) (e2 : z2 = z1 &&& 1) (h0 : 0 ≤ y.toInt) (h1 : y.toInt ≤ 31) : z2.toInt ≠ 0 ↔ hasI x y.toInt := by
  have ey := nI_ofI h0
  unfold hasI
  obtain ⟨n, hn⟩ : ∃ n : Nat, n = y.toInt.toNat := ⟨_, rfl⟩
  rw [← hn] at ey ⊢
  have hn2 : n < 32 := by omega
  have hb : ∀ i, i < 32 → bt z2 i = (decide (i = 0) && bt x n) := fun i hi => by
    rw [e2, b_and, b_one i hi, e1, ey, b_sshr n hn2 x hi]
    by_cases c : i = 0
    · rw [c, if_pos (by omega), Nat.add_zero, decide_eq_true rfl, Bool.and_true, Bool.true_and]
    · rw [decide_eq_false c, Bool.and_false, Bool.false_and]
  cases hx : bt x n
  · have ez : z2 = 0 := b_ext (fun i hi => by rw [hb i hi, hx, Bool.and_false, b_0])
    rw [ez]
    exact ⟨fun h => absurd i_p0 h, fun h => absurd h Bool.false_ne_true⟩
  · have ez : z2 = 1 := b_ext (fun i hi => by rw [hb i hi, hx, Bool.and_true, b_one i hi])
    rw [ez]
    exact ⟨fun _ => rfl, fun _ => by decide⟩
theorem bw_tab : ∀ s : Nat, s < 6 → ∀ i : Nat, i < 32 → bt (bitW (nI s)) i = decide (i = s) := by decide +kernel
theorem bw_ntab : ∀ s : Nat, s < 6 → ∀ i : Nat, i < 32 → bt (bitW (nI s) ^^^ (-1)) i = decide (i ≠ s) := by decide +kernel
theorem bw_bit {s : Int32} (h0 : 0 ≤ s.toInt) (h1 : s.toInt ≤ 5) {i : Nat} (hi : i < 32) : bt (bitW s) i = true ↔ (i : Int) = s.toInt := by
  rw [nI_ofI h0, bw_tab _ (by omega) i hi, decide_eq_true_eq, nI_toInt (by omega)]
  omega
theorem bw_nbit {s : Int32} (h0 : 0 ≤ s.toInt) (h1 : s.toInt ≤ 5) {i : Nat} (hi : i < 32) : bt (bitW s ^^^ (-1)) i = true ↔ (i : Int) ≠ s.toInt := by
  rw [nI_ofI h0, bw_ntab _ (by omega) i hi, decide_eq_true_eq, nI_toInt (by omega)]
  omega
/-- the k-th mark is of worm w, over or round (o), of ink i (or of line l alone) -/
def mkH (ml mh mo li W : Nat → Int32) (w i l o : Int) (k : Nat) : Prop := (W (mh k).toNatClampNeg).toInt = w ∧ (mo k).toInt = o ∧ ((l < 0 ∧ (li (ml k).toNatClampNeg).toInt = i) ∨ (0 ≤ l ∧ (ml k).toInt = l))
def isH (ml mh mo li W : Nat → Int32) (w i l o n : Int) : Prop := ∃ k : Nat, (k : Int) < n ∧ mkH ml mh mo li W w i l o k
section H12
variable {ml mh mo li W : Nat → Int32} {w i l o n : Int}
theorem isH_zero (h : n ≤ 0) : ¬ isH ml mh mo li W w i l o n := fun q => by
  obtain ⟨k, hk, _⟩ := q
  omega
theorem isH_step {k k' : Int32} (hT : ¬ isH ml mh mo li W w i l o k.toInt) (h0 : 0 ≤ k.toInt) (h1 : k'.toInt = k.toInt + 1) (hn : ¬ mkH ml mh mo li W w i l o k.toNatClampNeg) : ¬ isH ml mh mo li W w i l o k'.toInt := fun q => by
  obtain ⟨j, hj, hm⟩ := q
  by_cases c : (j : Int) < k.toInt
  · exact hT ⟨j, c, hm⟩
  · have e : j = k.toNatClampNeg := by have := ci_clamp (i := k) h0; omega
    rw [e] at hm; exact hn hm
theorem isH_hit {k : Int32} (hm : mkH ml mh mo li W w i l o k.toNatClampNeg) (h0 : 0 ≤ k.toInt) (hl : k.toInt < n) : isH ml mh mo li W w i l o n := ⟨k.toNatClampNeg, by have := ci_clamp (i := k) h0; omega, hm⟩
theorem isH_end {k : Int} (hT : ¬ isH ml mh mo li W w i l o k) (hl : n ≤ k) : ¬ isH ml mh mo li W w i l o n := fun q => by
  obtain ⟨j, hj, hm⟩ := q
  exact hT ⟨j, by omega, hm⟩
theorem isH_W {W' : Nat → Int32} (e : ∀ k : Nat, (k : Int) < n → W (mh k).toNatClampNeg = W' (mh k).toNatClampNeg) (h : isH ml mh mo li W w i l o n) : isH ml mh mo li W' w i l o n := by
  obtain ⟨k, hk, h1, h2, h3⟩ := h
  exact ⟨k, hk, by rw [← e k hk]; exact h1, h2, h3⟩
theorem isH_iff {W' : Nat → Int32} (e : ∀ k : Nat, (k : Int) < n → W (mh k).toNatClampNeg = W' (mh k).toNatClampNeg) : isH ml mh mo li W w i l o n ↔ isH ml mh mo li W' w i l o n := ⟨isH_W e, isH_W (fun k hk => (e k hk).symm)⟩
end H12
/-- line l is over a hole of worm w of which a line of l's ink is round a hole -/
def ftO (ml mh mo li W : Nat → Int32) (n l w : Int) : Prop := isH ml mh mo li W w (-1) l 1 n ∧ isH ml mh mo li W w (li l.toNat).toInt (-1) 0 n
def noL (ml mh mo li W : Nat → Int32) (n nw L : Int) : Prop := ∀ l w : Int, 0 ≤ l → l < L → 0 ≤ w → w < nw → ¬ ftO ml mh mo li W n l w
def noW (ml mh mo li W : Nat → Int32) (n l V : Int) : Prop := ∀ w : Int, 0 ≤ w → w < V → ¬ ftO ml mh mo li W n l w
def isF (ml mh mo li W : Nat → Int32) (n nl nw what r : Int) : Prop := (r = -2 ∧ noL ml mh mo li W n nw nl) ∨ ∃ l w : Int, 0 ≤ l ∧ l < nl ∧ 0 ≤ w ∧ w < nw ∧ ftO ml mh mo li W n l w ∧ noL ml mh mo li W n nw l ∧ noW ml mh mo li W n l w ∧ ((what = 0 ∧ r = l) ∨ (what ≠ 0 ∧ r = w))
section F12
variable {ml mh mo li W : Nat → Int32} {n nl nw what r : Int}
theorem noW_zero {l V : Int} (h : V ≤ 0) : noW ml mh mo li W n l V := fun w h0 h1 _ => by omega
theorem noW_step {l : Int} {k k' : Int32} (h : noW ml mh mo li W n l k.toInt) (h1 : k'.toInt = k.toInt + 1) (hn : ¬ isH ml mh mo li W k.toInt (-1) l 1 n ∨ ¬ isH ml mh mo li W k.toInt (li l.toNat).toInt (-1) 0 n) : noW ml mh mo li W n l k'.toInt := fun w h0 hw hf => by
  by_cases c : w < k.toInt
  · exact h w h0 c hf
  · have e : w = k.toInt := by omega
    rw [e] at hf
    rcases hn with hn | hn
    · exact hn hf.1
    · exact hn hf.2
theorem noL_zero {L : Int} (h : L ≤ 0) : noL ml mh mo li W n nw L := fun l w h0 h1 _ _ _ => by omega
theorem noL_step {k k' : Int32} {V : Int} (h : noL ml mh mo li W n nw k.toInt) (h1 : k'.toInt = k.toInt + 1) (hn : noW ml mh mo li W n k.toInt V) (hV : nw ≤ V) : noL ml mh mo li W n nw k'.toInt := fun l w h0 hl h2 h3 hf => by
  by_cases c : l < k.toInt
  · exact h l w h0 c h2 h3 hf
  · have e : l = k.toInt := by omega
    rw [e] at hf
    exact hn w h2 (by omega) hf
theorem noL_end {k : Int} (h : noL ml mh mo li W n nw k) (hl : nl ≤ k) : noL ml mh mo li W n nw nl := fun l w h0 h1 h2 h3 hf => h l w h0 (by omega) h2 h3 hf
theorem isF_hit {l w : Int} (h0 : 0 ≤ l) (h1 : l < nl) (h2 : 0 ≤ w) (h3 : w < nw) (ho : isH ml mh mo li W w (-1) l 1 n) (hr : isH ml mh mo li W w (li l.toNat).toInt (-1) 0 n) (hL : noL ml mh mo li W n nw l) (hN : noW ml mh mo li W n l w) (hv : (what = 0 ∧ r = l) ∨ (what ≠ 0 ∧ r = w)) : isF ml mh mo li W n nl nw what r := Or.inr ⟨l, w, h0, h1, h2, h3, ⟨ho, hr⟩, hL, hN, hv⟩
theorem isF_none (h : noL ml mh mo li W n nw nl) (hr : r = -2) : isF ml mh mo li W n nl nw what r := Or.inl ⟨hr, h⟩
theorem isF_one {r' : Int} (h : isF ml mh mo li W n nl nw what r) (h' : isF ml mh mo li W n nl nw what r') : r = r' := by
  rcases h with ⟨h1, h2⟩ | ⟨l, w, a1, a2, a3, a4, a5, a6, a7, a8⟩
  · rcases h' with ⟨g1, g2⟩ | ⟨l', w', b1, b2, b3, b4, b5, b6, b7, b8⟩
    · omega
    · exact absurd b5 (h2 l' w' b1 b2 b3 b4)
  · rcases h' with ⟨g1, g2⟩ | ⟨l', w', b1, b2, b3, b4, b5, b6, b7, b8⟩
    · exact absurd a5 (g2 l w a1 a2 a3 a4)
    · have e : l = l' := by
        rcases Int.lt_trichotomy l l' with c | c | c
        · exact absurd a5 (b6 l w a1 c a3 a4)
        · exact c
        · exact absurd b5 (a6 l' w' b1 c b3 b4)
      subst e
      have e2 : w = w' := by
        rcases Int.lt_trichotomy w w' with c | c | c
        · exact absurd a5 (b7 w a3 c)
        · exact c
        · exact absurd b5 (a7 w' b3 c)
      subst e2
      omega
theorem isF_W {W' : Nat → Int32} (e : ∀ k : Nat, (k : Int) < n → W (mh k).toNatClampNeg = W' (mh k).toNatClampNeg) (h : isF ml mh mo li W n nl nw what r) : isF ml mh mo li W' n nl nw what r := by
  have hf : ∀ l w : Int, ftO ml mh mo li W n l w ↔ ftO ml mh mo li W' n l w := fun l w => and_congr (isH_iff e) (isH_iff e)
  rcases h with ⟨h1, h2⟩ | ⟨l, w, a1, a2, a3, a4, a5, a6, a7, a8⟩
  · exact Or.inl ⟨h1, fun l w x1 x2 x3 x4 q => h2 l w x1 x2 x3 x4 ((hf l w).mpr q)⟩
  · exact Or.inr ⟨l, w, a1, a2, a3, a4, (hf l w).mp a5, fun l w x1 x2 x3 x4 q => a6 l w x1 x2 x3 x4 ((hf l w).mpr q), fun w x1 x2 q => a7 w x1 x2 ((hf l w).mpr q), a8⟩
end F12
/-- of which worm each hole is, and how many worms there are, out of the holes alone -/
def wO (S P : Nat → Int32) (n : Nat) (sl : Int) : Nat → Int32 := (wst (srt P n) S P sl n).2.2
def wN (S P : Nat → Int32) (n : Nat) (sl : Int) : Int := (((wst (srt P n) S P sl n).1 : Nat) : Int)
theorem wO_of {S P : Nat → Int32} {n : Nat} {sl : Int} {w : Int32} {g o : Nat → Int32} {h : Nat} (hW : WInv (srt P n) S P sl n w g o) (hn : n ≤ 40) (hh : h < n) : o h = wO S P n sl h := by
  obtain ⟨j, hj, he⟩ := srt_all (P := P) n hn h hh
  unfold WInv at hW
  have := hW.2.2.2.2 j hj
  rw [he] at this
  exact this
theorem wN_of {S P : Nat → Int32} {n : Nat} {sl : Int} {w : Int32} {g o : Nat → Int32} (hW : WInv (srt P n) S P sl n w g o) : w.toInt = wN S P n sl := by
  unfold WInv at hW
  exact hW.1
theorem wst_lt {s S P : Nat → Int32} {sl : Int} : ∀ n : Nat, n ≤ 40 → (wst s S P sl n).1 ≤ n ∧ ∀ j : Nat, j < n → 0 ≤ ((wst s S P sl n).2.2 (s j).toNatClampNeg).toInt ∧ ((wst s S P sl n).2.2 (s j).toNatClampNeg).toInt < (((wst s S P sl n).1 : Nat) : Int)
  | 0, _ => ⟨Nat.le_refl 0, fun j hj => absurd hj (Nat.not_lt_zero j)⟩
  | n + 1, hn => by
    obtain ⟨h1, h2⟩ := wst_lt (s := s) (S := S) (P := P) (sl := sl) n (by omega)
    by_cases c : newW s S P sl n (wst s S P sl n).1 (wst s S P sl n).2.1 = true
    · have e : wst s S P sl (n + 1) = ((wst s S P sl n).1 + 1, upd (wst s S P sl n).2.1 (wst s S P sl n).1 (0 ||| bitW (S (s n).toNatClampNeg)), upd (wst s S P sl n).2.2 (s n).toNatClampNeg (Int32.ofNat (wst s S P sl n).1)) := if_pos c
      rw [e]
      have ev : (Int32.ofNat (wst s S P sl n).1).toInt = (((wst s S P sl n).1 : Nat) : Int) := ci_len rfl (by omega)
      refine ⟨by show (wst s S P sl n).1 + 1 ≤ n + 1; omega, fun j hj => ?_⟩
      show 0 ≤ (if (s j).toNatClampNeg = (s n).toNatClampNeg then Int32.ofNat (wst s S P sl n).1 else (wst s S P sl n).2.2 (s j).toNatClampNeg).toInt ∧ (if (s j).toNatClampNeg = (s n).toNatClampNeg then Int32.ofNat (wst s S P sl n).1 else (wst s S P sl n).2.2 (s j).toNatClampNeg).toInt < (((wst s S P sl n).1 + 1 : Nat) : Int)
      by_cases c2 : (s j).toNatClampNeg = (s n).toNatClampNeg
      · rw [if_pos c2]; omega
      · rw [if_neg c2]
        by_cases c3 : j = n
        · exact absurd (by rw [c3]) c2
        · have := h2 j (by omega)
          omega
    · have e : wst s S P sl (n + 1) = ((wst s S P sl n).1, upd (wst s S P sl n).2.1 ((wst s S P sl n).1 - 1) ((wst s S P sl n).2.1 ((wst s S P sl n).1 - 1) ||| bitW (S (s n).toNatClampNeg)), upd (wst s S P sl n).2.2 (s n).toNatClampNeg (Int32.ofNat ((wst s S P sl n).1 - 1))) := if_neg c
      have hp : 0 < (wst s S P sl n).1 := by
        by_cases c0 : n = 0
        · exact absurd (newW_iff.mpr (Or.inl c0)) c
        · have := h2 0 (by omega)
          omega
      rw [e]
      have ev : (Int32.ofNat ((wst s S P sl n).1 - 1)).toInt = (((wst s S P sl n).1 - 1 : Nat) : Int) := ci_len rfl (by omega)
      refine ⟨by show (wst s S P sl n).1 ≤ n + 1; omega, fun j hj => ?_⟩
      show 0 ≤ (if (s j).toNatClampNeg = (s n).toNatClampNeg then Int32.ofNat ((wst s S P sl n).1 - 1) else (wst s S P sl n).2.2 (s j).toNatClampNeg).toInt ∧ (if (s j).toNatClampNeg = (s n).toNatClampNeg then Int32.ofNat ((wst s S P sl n).1 - 1) else (wst s S P sl n).2.2 (s j).toNatClampNeg).toInt < (((wst s S P sl n).1 : Nat) : Int)
      by_cases c2 : (s j).toNatClampNeg = (s n).toNatClampNeg
      · rw [if_pos c2]; omega
      · rw [if_neg c2]
        by_cases c3 : j = n
        · exact absurd (by rw [c3]) c2
        · exact h2 j (by omega)
theorem wO_lt {S P : Nat → Int32} {n : Nat} {sl : Int} {h : Nat} (hn : n ≤ 40) (hh : h < n) : 0 ≤ (wO S P n sl h).toInt ∧ (wO S P n sl h).toInt < wN S P n sl := by
  obtain ⟨j, hj, he⟩ := srt_all (P := P) n hn h hh
  have := (wst_lt (s := srt P n) (S := S) (P := P) (sl := sl) n hn).2 j hj
  rw [he] at this
  exact this
/-- marks are of holes that there are -/
def mhOK (mh : Nat → Int32) (m h : Int) : Prop := ∀ k : Nat, (k : Int) < m → 0 ≤ (mh k).toInt ∧ (mh k).toInt < h
theorem mh_in {mh : Nat → Int32} {m : Int} {h : Int} (hM : mhOK mh m h) {k : Nat} (hk : (k : Int) < m) : (mh k).toNatClampNeg < h.toNat := by
  have h1 := hM k hk
  have := ci_clamp (i := mh k) h1.1
  omega
theorem isF_can {S P ml mh mo li : Nat → Int32} {h m : Int32} {sl nl what r : Int} {w : Int32} {g o : Nat → Int32} (hW : WInv (srt P h.toInt.toNat) S P sl h.toInt.toNat w g o) (hn : h.toInt ≤ 40) (hM : mhOK mh m.toInt h.toInt) (hF : isF ml mh mo li o m.toInt nl w.toInt what r) : isF ml mh mo li (wO S P h.toInt.toNat sl) m.toInt nl (wN S P h.toInt.toNat sl) what r := by
  rw [← wN_of hW]
  exact isF_W (fun k hk => wO_of hW (by omega) (mh_in hM hk)) hF
theorem isF_congr {S S' P P' ml ml' mh mh' mo mo' li li' : Nat → Int32} {n n' : Nat} {sl sl' m m' nl nl' what what' r r' : Int} (hF : isF ml mh mo li (wO S P n sl) m nl (wN S P n sl) what r) (hF' : isF ml' mh' mo' li' (wO S' P' n' sl') m' nl' (wN S' P' n' sl') what' r') (e1 : S = S') (e2 : P = P') (e3 : ml = ml') (e4 : mh = mh') (e5 : mo = mo') (e6 : li = li') (e7 : n = n') (e8 : sl = sl') (e9 : m = m') (e10 : nl = nl') (e11 : what = what') : r = r' := by
  subst e1 e2 e3 e4 e5 e6 e7 e8 e9 e10 e11
  exact isF_one hF hF'

/-- the class' bits: of each worm the inks over (or round) its holes, after n marks -/
def bsI (f ml mh mo li W : Nat → Int32) (o n : Int) : Prop := ∀ w i : Nat, w < 40 → i < 32 → (bt (f w) i = true ↔ isH ml mh mo li W (w : Int) (i : Int) (-1) o n)
def filled (f : Nat → Int32) (n : Int) (v : Int32) : Prop := ∀ j : Nat, (j : Int) < n → f j = v
theorem fl_of {f : Nat → Int32} {n : Int} {v : Int32} (h : filled f n v) : filled f n v := h
theorem fill_zero {f : Nat → Int32} {n : Int} {v : Int32} (h : n ≤ 0) : filled f n v := fun j hj => by omega
theorem fill_step {f f' : Nat → Int32} {k k' v : Int32} (h : filled f k.toInt v) (h0 : 0 ≤ k.toInt) (h1 : k'.toInt = k.toInt + 1) (hs : f' = upd f k.toNatClampNeg v) : filled f' k'.toInt v := fun j hj => by
  rw [hs]
  have e2 : k.toNatClampNeg = k.toInt.toNat := rfl
  show (if j = k.toNatClampNeg then v else f j) = v
  by_cases c : j = k.toNatClampNeg
  · rw [if_pos c]
  · rw [if_neg c]; exact h j (by omega)
theorem fill_end {f : Nat → Int32} {k n : Int} {v : Int32} (h : filled f k v) (hn : n ≤ k) : filled f n v := fun j hj => h j (by omega)
theorem bs_zero {f ml mh mo li W : Nat → Int32} {o n m : Int} {v : Int32} (h : filled f m v) (hm : 40 ≤ m) (hv : v.toInt = 0) (hn : n ≤ 0) : bsI f ml mh mo li W o n := fun w i hw hi => by
  have e : v = 0 := ci_inj (by rw [hv]; decide)
  rw [h w (by omega), e, b_0]
  exact ⟨fun q => absurd q Bool.false_ne_true, fun q => absurd q (isH_zero hn)⟩
theorem isH_next {ml mh mo li W : Nat → Int32} {w i l o : Int} {k k' : Int32} (h0 : 0 ≤ k.toInt) (h1 : k'.toInt = k.toInt + 1) : isH ml mh mo li W w i l o k'.toInt ↔ (isH ml mh mo li W w i l o k.toInt ∨ mkH ml mh mo li W w i l o k.toNatClampNeg) := by
  constructor
  · intro q
    by_cases c : isH ml mh mo li W w i l o k.toInt
    · exact Or.inl c
    · by_cases c2 : mkH ml mh mo li W w i l o k.toNatClampNeg
      · exact Or.inr c2
      · exact absurd q (isH_step c h0 h1 c2)
  · intro q
    rcases q with ⟨j, hj, hm⟩ | q
    · exact ⟨j, by omega, hm⟩
    · exact isH_hit q h0 (by omega)
theorem bs_off {f ml mh mo li W : Nat → Int32} {o : Int} {k k' : Int32} (h : bsI f ml mh mo li W o k.toInt) (h0 : 0 ≤ k.toInt) (h1 : k'.toInt = k.toInt + 1) (ho : (mo k.toNatClampNeg).toInt ≠ o) : bsI f ml mh mo li W o k'.toInt := fun w i hw hi => by
  rw [h w i hw hi, isH_next h0 h1]
  exact ⟨Or.inl, fun q => q.resolve_right (fun z => ho z.2.1)⟩
theorem bs_on {f f' ml mh mo li W : Nat → Int32} {o : Int} {k k' w z y b : Int32} (h : bsI f ml mh mo li W o k.toInt) (h0 : 0 ≤ k.toInt) (h1 : k'.toInt = k.toInt + 1) (hs : f' = upd f w.toNatClampNeg z) (hz : z = y ||| b) (hy : y = f w.toNatClampNeg) (hb : b = bitW (li (ml k.toNatClampNeg).toNatClampNeg)) (hw : w = W (mh k.toNatClampNeg).toNatClampNeg) (hw0 : 0 ≤ w.toInt) (hw1 : w.toInt ≤ 39) (hi0 : 0 ≤ (li (ml k.toNatClampNeg).toNatClampNeg).toInt ∧ (li (ml k.toNatClampNeg).toNatClampNeg).toInt ≤ 5) (ho : (mo k.toNatClampNeg).toInt = o) : bsI f' ml mh mo li W o k'.toInt := fun v i hv hi => by
  rw [isH_next h0 h1, hs]
  show bt (if v = w.toNatClampNeg then z else f v) i = true ↔ _
  have ew : w.toNatClampNeg = w.toInt.toNat := rfl
  by_cases c : v = w.toNatClampNeg
  · rw [if_pos c, hz, b_or, Bool.or_eq_true, hb, bw_bit hi0.1 hi0.2 hi, hy, ← c, h v i hv hi]
    refine or_congr Iff.rfl ⟨fun q => ⟨by rw [← hw]; omega, ho, Or.inl ⟨by decide, q.symm⟩⟩, fun q => ?_⟩
    rcases q.2.2 with q2 | q2
    · exact q2.2.symm
    · exact absurd q2.1 (by decide)
  · rw [if_neg c, h v i hv hi]
    refine ⟨Or.inl, fun q => q.resolve_right (fun q2 => c ?_)⟩
    have q3 := q2.1
    rw [← hw] at q3
    omega
/-- inks that came ahead: of ink i, found over the worms ahead of V, and of V itself for inks below I -/
def ahI (ah rd ov : Nat → Int32) (V I : Int) : Prop := ∀ i j : Nat, i < 6 → j < 32 → (bt (ah i) j = true ↔ (j ≠ i ∧ ∃ w : Nat, ((w : Int) < V ∨ ((w : Int) = V ∧ (i : Int) < I)) ∧ bt (rd w) i = true ∧ bt (ov w) j = true))
theorem ah_zero {ah rd ov : Nat → Int32} {m V I : Int} {v : Int32} (h : filled ah m v) (hm : 6 ≤ m) (hv : v.toInt = 0) (hV : V ≤ 0) (hI : I ≤ 0) : ahI ah rd ov V I := fun i j hi hj => by
  have e : v = 0 := ci_inj (by rw [hv]; decide)
  rw [h i (by omega), e, b_0]
  refine ⟨fun q => absurd q Bool.false_ne_true, fun q => ?_⟩
  obtain ⟨_, w, hw, _⟩ := q
  omega
theorem ah_next {ah rd ov : Nat → Int32} {V V' I : Int} (h : ahI ah rd ov V I) (hI : 6 ≤ I) (hV : V' = V + 1) : ahI ah rd ov V' 0 := fun i j hi hj => by
  rw [h i j hi hj]
  refine and_congr Iff.rfl ⟨fun q => ?_, fun q => ?_⟩
  · obtain ⟨w, hw, q2⟩ := q
    exact ⟨w, by omega, q2⟩
  · obtain ⟨w, hw, q2⟩ := q
    exact ⟨w, by omega, q2⟩
theorem ah_off {ah rd ov : Nat → Int32} {V I I' : Int32} (h : ahI ah rd ov V.toInt I.toInt) (hV : 0 ≤ V.toInt) (hI : 0 ≤ I.toInt) (h1 : I'.toInt = I.toInt + 1) (hc : ¬ hasI (rd V.toNatClampNeg) I.toInt) : ahI ah rd ov V.toInt I'.toInt := fun i j hi hj => by
  rw [h i j hi hj]
  refine and_congr Iff.rfl ⟨fun q => ?_, fun q => ?_⟩
  · obtain ⟨w, hw, q2⟩ := q
    exact ⟨w, by omega, q2⟩
  · obtain ⟨w, hw, q2⟩ := q
    by_cases c : (w : Int) < V.toInt ∨ ((w : Int) = V.toInt ∧ (i : Int) < I.toInt)
    · exact ⟨w, c, q2⟩
    · have e1 : w = V.toNatClampNeg := by have e3 : V.toNatClampNeg = V.toInt.toNat := rfl; omega
      have e2 : I.toInt.toNat = i := by omega
      exact absurd (show hasI (rd V.toNatClampNeg) I.toInt by unfold hasI; rw [← e1, e2]; exact q2.1) hc
theorem ah_on {ah ah' rd ov : Nat → Int32} {V I I' z a d v nn b : Int32} (h : ahI ah rd ov V.toInt I.toInt) (hV : 0 ≤ V.toInt) (hI : 0 ≤ I.toInt) (hI5 : I.toInt ≤ 5) (h1 : I'.toInt = I.toInt + 1) (hc : hasI (rd V.toNatClampNeg) I.toInt) (hs : ah' = upd ah I.toNatClampNeg z) (hz : z = a ||| d) (hd : d = v &&& nn) (hn : nn = b ^^^ (-1)) (hb : b = (1 : Int32) <<< (I &&& 31)) (hv : v = ov V.toNatClampNeg) (ha : a = ah I.toNatClampNeg) : ahI ah' rd ov V.toInt I'.toInt := fun i j hi hj => by
  have eI : I.toNatClampNeg = I.toInt.toNat := rfl
  have eV : V.toNatClampNeg = V.toInt.toNat := rfl
  have hb2 : b = bitW I := hb
  rw [hs]
  show bt (if i = I.toNatClampNeg then z else ah i) j = true ↔ _
  by_cases c : i = I.toNatClampNeg
  · rw [if_pos c, hz, b_or, Bool.or_eq_true, ha, ← c, h i j hi hj, hd, b_and, Bool.and_eq_true, hn, hb2, bw_nbit hI hI5 hj, hv]
    constructor
    · intro q
      rcases q with ⟨q1, w, hw, q2⟩ | ⟨q1, q2⟩
      · exact ⟨q1, w, by omega, q2⟩
      · refine ⟨by omega, V.toNatClampNeg, by omega, ?_, q1⟩
        rw [c, eI]; exact hc
    · intro q
      obtain ⟨q1, w, hw, q2⟩ := q
      by_cases c2 : (w : Int) < V.toInt
      · exact Or.inl ⟨q1, w, Or.inl c2, q2⟩
      · have e : w = V.toNatClampNeg := by omega
        exact Or.inr ⟨by rw [← e]; exact q2.2, by omega⟩
  · rw [if_neg c, h i j hi hj]
    refine and_congr Iff.rfl ⟨fun q => ?_, fun q => ?_⟩
    · obtain ⟨w, hw, q2⟩ := q
      exact ⟨w, by omega, q2⟩
    · obtain ⟨w, hw, q2⟩ := q
      exact ⟨w, by omega, q2⟩
/-- what the class asks of a line's mark: it is over, and the line's ink is round the worm -/
def fwC (ml mh mo li W rd : Nat → Int32) (l : Int) (k : Nat) : Prop := (ml k).toInt = l ∧ (mo k).toInt = 1 ∧ hasI (rd (W (mh k).toNatClampNeg).toNatClampNeg) (li l.toNat).toInt
def lwI (ml mh mo li W rd : Nat → Int32) (l n b : Int) : Prop := (b = -1 ∧ ∀ k : Nat, (k : Int) < n → ¬ fwC ml mh mo li W rd l k) ∨ (0 ≤ b ∧ (∃ k : Nat, (k : Int) < n ∧ fwC ml mh mo li W rd l k ∧ (W (mh k).toNatClampNeg).toInt = b) ∧ ∀ k : Nat, (k : Int) < n → fwC ml mh mo li W rd l k → b ≤ (W (mh k).toNatClampNeg).toInt)
section C12
variable {ml mh mo li W rd : Nat → Int32} {l n b : Int}
theorem lw_zero (h : n ≤ 0) (hb : b = -1) : lwI ml mh mo li W rd l n b := Or.inl ⟨hb, fun k hk => by omega⟩
theorem lw_skip {k k' : Int32} (h : lwI ml mh mo li W rd l k.toInt b) (h0 : 0 ≤ k.toInt) (h1 : k'.toInt = k.toInt + 1) (hn : ¬ fwC ml mh mo li W rd l k.toNatClampNeg) : lwI ml mh mo li W rd l k'.toInt b := by
  have ek : k.toNatClampNeg = k.toInt.toNat := rfl
  rcases h with ⟨g1, g2⟩ | ⟨g1, g2, g3⟩
  · refine Or.inl ⟨g1, fun j hj q => ?_⟩
    by_cases c : (j : Int) < k.toInt
    · exact g2 j c q
    · have e : j = k.toNatClampNeg := by omega
      rw [e] at q; exact hn q
  · obtain ⟨j0, q1, q2⟩ := g2
    refine Or.inr ⟨g1, ⟨j0, by omega, q2⟩, fun j hj q => ?_⟩
    by_cases c : (j : Int) < k.toInt
    · exact g3 j c q
    · have e : j = k.toNatClampNeg := by omega
      rw [e] at q; exact absurd q hn
theorem lw_keep {k k' v : Int32} (h : lwI ml mh mo li W rd l k.toInt b) (hv : v = W (mh k.toNatClampNeg).toNatClampNeg) (h0 : 0 ≤ k.toInt) (h1 : k'.toInt = k.toInt + 1) (hb : 0 ≤ b) (hv2 : b ≤ v.toInt) : lwI ml mh mo li W rd l k'.toInt b := by
  have ek : k.toNatClampNeg = k.toInt.toNat := rfl
  rcases h with ⟨g1, g2⟩ | ⟨g1, g2, g3⟩
  · omega
  · obtain ⟨j0, q1, q2⟩ := g2
    refine Or.inr ⟨g1, ⟨j0, by omega, q2⟩, fun j hj q => ?_⟩
    by_cases c : (j : Int) < k.toInt
    · exact g3 j c q
    · have e : j = k.toNatClampNeg := by omega
      rw [e, ← hv]; exact hv2
theorem lw_take {k k' v : Int32} (h : lwI ml mh mo li W rd l k.toInt b) (hv : v = W (mh k.toNatClampNeg).toNatClampNeg) (h0 : 0 ≤ k.toInt) (h1 : k'.toInt = k.toInt + 1) (hC : fwC ml mh mo li W rd l k.toNatClampNeg) (hb : b < 0 ∨ v.toInt < b) (hv0 : 0 ≤ v.toInt) : lwI ml mh mo li W rd l k'.toInt v.toInt := by
  have ek : k.toNatClampNeg = k.toInt.toNat := rfl
  refine Or.inr ⟨hv0, ⟨k.toNatClampNeg, by omega, hC, by rw [hv]⟩, fun j hj q => ?_⟩
  by_cases c : (j : Int) < k.toInt
  · rcases h with ⟨g1, g2⟩ | ⟨g1, g2, g3⟩
    · exact absurd q (g2 j c)
    · have := g3 j c q
      omega
  · have e : j = k.toNatClampNeg := by omega
    rw [e, ← hv]; exact Int.le_refl _
/-- no line ahead of L is in a fight -/
def nfI (ml mh mo li W rd : Nat → Int32) (n L : Int) : Prop := ∀ (l : Int) (k : Nat), 0 ≤ l → l < L → (k : Int) < n → ¬ fwC ml mh mo li W rd l k
def ffI (ml mh mo li W rd : Nat → Int32) (n nl r : Int) : Prop := (r = -1 ∧ nfI ml mh mo li W rd n nl) ∨ (0 ≤ r ∧ r < nl ∧ nfI ml mh mo li W rd n r ∧ ∃ b : Int, 0 ≤ b ∧ lwI ml mh mo li W rd r n b)
theorem nf_zero {L : Int} (h : L ≤ 0) : nfI ml mh mo li W rd n L := fun l k h0 h1 _ _ => by omega
theorem nf_step {k k' : Int32} (h : nfI ml mh mo li W rd n k.toInt) (h1 : k'.toInt = k.toInt + 1) (hb : lwI ml mh mo li W rd k.toInt n b) (hneg : b < 0) : nfI ml mh mo li W rd n k'.toInt := fun l j h0 hl hj q => by
  by_cases c : l < k.toInt
  · exact h l j h0 c hj q
  · have e : l = k.toInt := by omega
    rw [e] at q
    rcases hb with ⟨_, g2⟩ | ⟨g1, _⟩
    · exact g2 j hj q
    · omega
theorem ff_none {k nl r : Int} (h : nfI ml mh mo li W rd n k) (hl : nl ≤ k) (hr : r = -1) : ffI ml mh mo li W rd n nl r := Or.inl ⟨hr, fun l j h0 h1 => h l j h0 (by omega)⟩
theorem ff_hit {r nl : Int} (h : nfI ml mh mo li W rd n r) (h0 : 0 ≤ r) (h1 : r < nl) (hb : lwI ml mh mo li W rd r n b) (hb0 : 0 ≤ b) : ffI ml mh mo li W rd n nl r := Or.inr ⟨h0, h1, h, b, hb0, hb⟩
theorem fw_ft (hR : bsI rd ml mh mo li W 0 n) (hW : ∀ j : Nat, 0 ≤ (W j).toInt ∧ (W j).toInt ≤ 39) (hI : ∀ j : Nat, 0 ≤ (li j).toInt ∧ (li j).toInt ≤ 5) (h0 : 0 ≤ l) {k : Nat} (hk : (k : Int) < n) (h : fwC ml mh mo li W rd l k) : ftO ml mh mo li W n l (W (mh k).toNatClampNeg).toInt := by
  have h1 := hW (mh k).toNatClampNeg
  have h2 := hI l.toNat
  have e1 : (W (mh k).toNatClampNeg).toNatClampNeg = (W (mh k).toNatClampNeg).toInt.toNat := rfl
  have h3 := (hR (W (mh k).toNatClampNeg).toNatClampNeg (li l.toNat).toInt.toNat (by omega) (by omega)).mp h.2.2
  rw [show (((W (mh k).toNatClampNeg).toNatClampNeg : Nat) : Int) = (W (mh k).toNatClampNeg).toInt from by omega, show (((li l.toNat).toInt.toNat : Nat) : Int) = (li l.toNat).toInt from by omega] at h3
  exact ⟨⟨k, hk, rfl, h.2.1, Or.inr ⟨h0, h.1⟩⟩, h3⟩
theorem ft_fw {w : Int} (hR : bsI rd ml mh mo li W 0 n) (hW : ∀ j : Nat, 0 ≤ (W j).toInt ∧ (W j).toInt ≤ 39) (hI : ∀ j : Nat, 0 ≤ (li j).toInt ∧ (li j).toInt ≤ 5) (h0 : 0 ≤ l) (h : ftO ml mh mo li W n l w) : ∃ k : Nat, (k : Int) < n ∧ fwC ml mh mo li W rd l k ∧ (W (mh k).toNatClampNeg).toInt = w := by
  obtain ⟨⟨k, hk, q1, q2, q3⟩, h5⟩ := h
  have h1 := hW (mh k).toNatClampNeg
  have h2 := hI l.toNat
  have e1 : (W (mh k).toNatClampNeg).toNatClampNeg = (W (mh k).toNatClampNeg).toInt.toNat := rfl
  refine ⟨k, hk, ⟨?_, q2, ?_⟩, q1⟩
  · rcases q3 with q3 | q3
    · omega
    · exact q3.2
  · refine (hR (W (mh k).toNatClampNeg).toNatClampNeg (li l.toNat).toInt.toNat (by omega) (by omega)).mpr ?_
    rw [show (((W (mh k).toNatClampNeg).toNatClampNeg : Nat) : Int) = w from by omega, show (((li l.toNat).toInt.toNat : Nat) : Int) = (li l.toNat).toInt from by omega]
    exact h5
theorem isF_cls {nl nw what r r0 : Int} (hR : bsI rd ml mh mo li W 0 n) (hW : ∀ j : Nat, 0 ≤ (W j).toInt ∧ (W j).toInt ≤ 39) (hI : ∀ j : Nat, 0 ≤ (li j).toInt ∧ (li j).toInt ≤ 5) (hN : ∀ k : Nat, (k : Int) < n → (W (mh k).toNatClampNeg).toInt < nw) (hF : ffI ml mh mo li W rd n nl r0) (hv : (r0 < 0 ∧ r = -2) ∨ (0 ≤ r0 ∧ what = 0 ∧ r = r0) ∨ (0 ≤ r0 ∧ what ≠ 0 ∧ lwI ml mh mo li W rd r0 n r)) : isF ml mh mo li W n nl nw what r := by
  have hL : ∀ L : Int, nfI ml mh mo li W rd n L → noL ml mh mo li W n nw L := fun L h l w h0 h1 h2 h3 q => by
    obtain ⟨k, hk, q1, _⟩ := ft_fw hR hW hI h0 q
    exact h l k h0 h1 hk q1
  have hM : ∀ b : Int, 0 ≤ r0 → lwI ml mh mo li W rd r0 n b → 0 ≤ b → ∃ k : Nat, (k : Int) < n ∧ ftO ml mh mo li W n r0 b ∧ b < nw ∧ noW ml mh mo li W n r0 b := fun b h0 hb hb0 => by
    rcases hb with ⟨g1, _⟩ | ⟨_, ⟨k, hk, q1, q2⟩, g3⟩
    · omega
    · have hf := fw_ft hR hW hI h0 hk q1
      rw [q2] at hf
      refine ⟨k, hk, hf, by rw [← q2]; exact hN k hk, fun w hw0 hw q => ?_⟩
      obtain ⟨j, hj, z1, z2⟩ := ft_fw hR hW hI h0 q
      have := g3 j hj z1
      omega
  rcases hF with ⟨g1, g2⟩ | ⟨g1, g2, g3, b, g4, g5⟩
  · rcases hv with hv | hv | hv
    · exact isF_none (hL nl g2) hv.2
    · omega
    · omega
  · obtain ⟨k, hk, z1, z2, z3⟩ := hM b g1 g5 g4
    rcases hv with hv | hv | hv
    · omega
    · exact isF_hit g1 g2 g4 z2 z1.1 z1.2 (hL r0 g3) z3 (Or.inl hv.2)
    · obtain ⟨v1, v2, v3⟩ := hv
      have hr : 0 ≤ r := by
        rcases v3 with ⟨y1, y2⟩ | ⟨y1, _⟩
        · rcases g5 with ⟨x1, _⟩ | ⟨_, ⟨j, hj, x2, _⟩, _⟩
          · omega
          · exact absurd x2 (y2 j hj)
        · exact y1
      obtain ⟨k', hk', y1, y2, y3⟩ := hM r g1 v3 hr
      exact isF_hit g1 g2 hr y2 y1.1 y1.2 (hL r0 g3) y3 (Or.inr ⟨v2, rfl⟩)
end C12
theorem isF_c {S P ml mh mo li rd : Nat → Int32} {h m : Int32} {sl nl what r r0 : Int} {w : Int32} {g o : Nat → Int32} (hW : WInv (srt P h.toInt.toNat) S P sl h.toInt.toNat w g o) (hn : h.toInt ≤ 40) (hM : mhOK mh m.toInt h.toInt) (hR : bsI rd ml mh mo li o 0 m.toInt) (hO : ∀ j : Nat, 0 ≤ (o j).toInt ∧ (o j).toInt ≤ 39) (hI : ∀ j : Nat, 0 ≤ (li j).toInt ∧ (li j).toInt ≤ 5) (hF : ffI ml mh mo li o rd m.toInt nl r0) (hv : (r0 < 0 ∧ r = -2) ∨ (0 ≤ r0 ∧ what = 0 ∧ r = r0) ∨ (0 ≤ r0 ∧ what ≠ 0 ∧ lwI ml mh mo li o rd r0 m.toInt r)) : isF ml mh mo li (wO S P h.toInt.toNat sl) m.toInt nl (wN S P h.toInt.toNat sl) what r := by
  refine isF_can hW hn hM (isF_cls hR hO hI (fun k hk => ?_) hF hv)
  have e := wO_of hW (by omega) (mh_in hM hk)
  rw [e, wN_of hW]
  exact (wO_lt (by omega) (mh_in hM hk)).2

theorem two_eq {V V' F F' : Prop} {r r' : Int} (h : (¬ V ∧ r = -1) ∨ (V ∧ F)) (h' : (¬ V' ∧ r' = -1) ∨ (V' ∧ F')) (e : V ↔ V') (k : F → F' → r = r') : r = r' := by
  rcases h with ⟨h1, h2⟩ | ⟨h1, h2⟩
  · rcases h' with ⟨g1, g2⟩ | ⟨g1, g2⟩
    · omega
    · exact absurd (e.mpr g1) h1
  · rcases h' with ⟨g1, g2⟩ | ⟨g1, g2⟩
    · exact absurd (e.mp h1) g1
    · exact k h2 g2
theorem fst_le {ml mh : Nat → Int32} {l h : Int32} : ∀ m k : Nat, fstM ml mh l h m k ≤ k + m
  | 0, k => Nat.le_refl k
  | m + 1, k => by
    show (if (ml k).toInt = l.toInt ∧ (mh k).toInt = h.toInt then k else fstM ml mh l h m (k + 1)) ≤ k + (m + 1)
    have := fst_le (ml := ml) (mh := mh) (l := l) (h := h) m (k + 1)
    split <;> omega
theorem mh_grow {mh : Nat → Int32} {m h h' : Int} (hM : mhOK mh m h) (e : h ≤ h') : mhOK mh m h' := fun k hk => by
  have := hM k hk
  omega
theorem mh_mark {mh mh' : Nat → Int32} {A : Nat} {R : Int32} {m m' h : Int} (hM : mhOK mh m h) (h60 : m' ≤ 60) (hmm : (mh' = mh ∧ m' ≤ m) ∨ (mh' = mkF A mh R ∧ 0 ≤ R.toInt ∧ R.toInt < h ∧ (m' ≤ m ∨ ((A : Int) = m ∧ m' = m + 1)))) : mhOK mh' m' h := fun k hk => by
  rcases hmm with ⟨e, h1⟩ | ⟨e, h1, h2, h3⟩
  · rw [e]; exact hM k (by omega)
  · rw [e]
    by_cases c : (A : Int) < 60
    · rw [mkF_ok c]
      show 0 ≤ (if k = A then R else mh k).toInt ∧ (if k = A then R else mh k).toInt < h
      by_cases c2 : k = A
      · rw [if_pos c2]; exact ⟨h1, h2⟩
      · rw [if_neg c2]; exact hM k (by omega)
    · rw [mkF_no c]
      by_cases c2 : (k : Int) < m
      · exact hM k c2
      · omega

/-- ink i came ahead of ink j: for some worm i is over and j round a hole of it -/
def cfI (ml mh mo li W : Nat → Int32) (n nw i j : Int) : Prop := ∃ w : Int, 0 ≤ w ∧ w < nw ∧ isH ml mh mo li W w i (-1) 1 n ∧ isH ml mh mo li W w j (-1) 0 n
def ncI (ml mh mo li W : Nat → Int32) (n V i j : Int) : Prop := ∀ w : Int, 0 ≤ w → w < V → ¬ (isH ml mh mo li W w i (-1) 1 n ∧ isH ml mh mo li W w j (-1) 0 n)
/-- some line has the ink -/
def lnI (li : Nat → Int32) (i nl : Int) : Prop := ∃ k : Nat, (k : Int) < nl ∧ (li k).toInt = i
/-- a line has ink i, and none below J came ahead of it -/
def gfI (ml mh mo li W : Nat → Int32) (n nl nw i J : Int) : Prop := lnI li i nl ∧ ∀ j : Int, 0 ≤ j → j < J → j ≠ i → ¬ cfI ml mh mo li W n nw j i
/-- the least of 0 .. 5 with G; -2: none -/
def fnG (G : Int → Prop) (r : Int) : Prop := (r = -2 ∧ ∀ i : Int, 0 ≤ i → i < 6 → ¬ G i) ∨ (0 ≤ r ∧ r < 6 ∧ G r ∧ ∀ i : Int, 0 ≤ i → i < r → ¬ G i)
/-- the least pair of 0 .. 5 with R -/
def rnG (R : Int → Int → Prop) (r : Int) : Prop := (r = -2 ∧ ∀ i j : Int, 0 ≤ i → i < j → j < 6 → ¬ R i j) ∨ ∃ i j : Int, 0 ≤ i ∧ i < j ∧ j < 6 ∧ R i j ∧ (∀ a b : Int, 0 ≤ a → a < b → b < 6 → (a < i ∨ (a = i ∧ b < j)) → ¬ R a b) ∧ r = 10 * i + j
theorem fnG_one {G : Int → Prop} {r r' : Int} (h : fnG G r) (h' : fnG G r') : r = r' := by
  rcases h with ⟨h1, h2⟩ | ⟨h1, h2, h3, h4⟩
  · rcases h' with ⟨g1, g2⟩ | ⟨g1, g2, g3, g4⟩
    · omega
    · exact absurd g3 (h2 r' g1 g2)
  · rcases h' with ⟨g1, g2⟩ | ⟨g1, g2, g3, g4⟩
    · exact absurd h3 (g2 r h1 h2)
    · rcases Int.lt_trichotomy r r' with c | c | c
      · exact absurd h3 (g4 r h1 c)
      · exact c
      · exact absurd g3 (h4 r' g1 c)
theorem fnG_iff {G G' : Int → Prop} (e : ∀ i : Int, 0 ≤ i → i < 6 → (G i ↔ G' i)) {r : Int} (h : fnG G r) : fnG G' r := by
  rcases h with ⟨h1, h2⟩ | ⟨h1, h2, h3, h4⟩
  · exact Or.inl ⟨h1, fun i a b q => h2 i a b ((e i a b).mpr q)⟩
  · exact Or.inr ⟨h1, h2, (e r h1 h2).mp h3, fun i a b q => h4 i a b ((e i a (by omega)).mpr q)⟩
theorem rnG_one {R : Int → Int → Prop} {r r' : Int} (h : rnG R r) (h' : rnG R r') : r = r' := by
  rcases h with ⟨h1, h2⟩ | ⟨i, j, a1, a2, a3, a4, a5, a6⟩
  · rcases h' with ⟨g1, g2⟩ | ⟨i', j', b1, b2, b3, b4, b5, b6⟩
    · omega
    · exact absurd b4 (h2 i' j' b1 b2 b3)
  · rcases h' with ⟨g1, g2⟩ | ⟨i', j', b1, b2, b3, b4, b5, b6⟩
    · exact absurd a4 (g2 i j a1 a2 a3)
    · by_cases c1 : i < i' ∨ (i = i' ∧ j < j')
      · exact absurd a4 (b5 i j a1 a2 a3 c1)
      · by_cases c2 : i' < i ∨ (i' = i ∧ j' < j)
        · exact absurd b4 (a5 i' j' b1 b2 b3 c2)
        · omega
theorem rnG_iff {R R' : Int → Int → Prop} (e : ∀ i j : Int, 0 ≤ i → i < j → j < 6 → (R i j ↔ R' i j)) {r : Int} (h : rnG R r) : rnG R' r := by
  rcases h with ⟨h1, h2⟩ | ⟨i, j, a1, a2, a3, a4, a5, a6⟩
  · exact Or.inl ⟨h1, fun i j x y z q => h2 i j x y z ((e i j x y z).mpr q)⟩
  · exact Or.inr ⟨i, j, a1, a2, a3, (e i j a1 a2 a3).mp a4, fun a b x y z w q => a5 a b x y z w ((e a b x y z).mpr q), a6⟩
def inR (ml mh mo li W : Nat → Int32) (n nl nw ij r : Int) : Prop := (ij = -1 ∧ fnG (fun i => gfI ml mh mo li W n nl nw i 6) r) ∨ (ij = -2 ∧ rnG (fun i j => cfI ml mh mo li W n nw i j ∧ cfI ml mh mo li W n nw j i) r) ∨ (0 ≤ ij ∧ ((r = 1 ∧ cfI ml mh mo li W n nw (ij / 10) (ij % 10)) ∨ (r = 0 ∧ ¬ cfI ml mh mo li W n nw (ij / 10) (ij % 10))))
section I13
variable {ml mh mo li W : Nat → Int32} {n nl nw : Int}
theorem inR_one {ij r r' : Int} (h : inR ml mh mo li W n nl nw ij r) (h' : inR ml mh mo li W n nl nw ij r') : r = r' := by
  rcases h with ⟨h1, h2⟩ | ⟨h1, h2⟩ | ⟨h1, h2⟩
  · rcases h' with ⟨g1, g2⟩ | ⟨g1, g2⟩ | ⟨g1, g2⟩
    · exact fnG_one h2 g2
    · omega
    · omega
  · rcases h' with ⟨g1, g2⟩ | ⟨g1, g2⟩ | ⟨g1, g2⟩
    · omega
    · exact rnG_one h2 g2
    · omega
  · rcases h' with ⟨g1, g2⟩ | ⟨g1, g2⟩ | ⟨g1, g2⟩
    · omega
    · omega
    · rcases h2 with ⟨a1, a2⟩ | ⟨a1, a2⟩
      · rcases g2 with ⟨b1, b2⟩ | ⟨b1, b2⟩
        · omega
        · exact absurd a2 b2
      · rcases g2 with ⟨b1, b2⟩ | ⟨b1, b2⟩
        · exact absurd b2 a2
        · omega
theorem cfI_W {W' : Nat → Int32} {i j : Int} (e : ∀ k : Nat, (k : Int) < n → W (mh k).toNatClampNeg = W' (mh k).toNatClampNeg) : cfI ml mh mo li W n nw i j ↔ cfI ml mh mo li W' n nw i j := by
  constructor
  · intro q
    obtain ⟨w, h0, h1, h2, h3⟩ := q
    exact ⟨w, h0, h1, (isH_iff e).mp h2, (isH_iff e).mp h3⟩
  · intro q
    obtain ⟨w, h0, h1, h2, h3⟩ := q
    exact ⟨w, h0, h1, (isH_iff e).mpr h2, (isH_iff e).mpr h3⟩
theorem inR_W {W' : Nat → Int32} {ij r : Int} (e : ∀ k : Nat, (k : Int) < n → W (mh k).toNatClampNeg = W' (mh k).toNatClampNeg) (h : inR ml mh mo li W n nl nw ij r) : inR ml mh mo li W' n nl nw ij r := by
  rcases h with ⟨h1, h2⟩ | ⟨h1, h2⟩ | ⟨h1, h2⟩
  · exact Or.inl ⟨h1, fnG_iff (fun i _ _ => and_congr Iff.rfl ⟨fun q j a b c z => q j a b c ((cfI_W e).mpr z), fun q j a b c z => q j a b c ((cfI_W e).mp z)⟩) h2⟩
  · exact Or.inr (Or.inl ⟨h1, rnG_iff (fun i j _ _ _ => and_congr (cfI_W e) (cfI_W e)) h2⟩)
  · refine Or.inr (Or.inr ⟨h1, ?_⟩)
    rcases h2 with ⟨a1, a2⟩ | ⟨a1, a2⟩
    · exact Or.inl ⟨a1, (cfI_W e).mp a2⟩
    · exact Or.inr ⟨a1, fun q => a2 ((cfI_W e).mpr q)⟩
theorem nc_zero {V i j : Int} (h : V ≤ 0) : ncI ml mh mo li W n V i j := fun w h0 h1 _ => by omega
theorem nc_step {i j : Int} {k k' : Int32} (h : ncI ml mh mo li W n k.toInt i j) (h1 : k'.toInt = k.toInt + 1) (hn : ¬ isH ml mh mo li W k.toInt i (-1) 1 n ∨ ¬ isH ml mh mo li W k.toInt j (-1) 0 n) : ncI ml mh mo li W n k'.toInt i j := fun w h0 hw hf => by
  by_cases c : w < k.toInt
  · exact h w h0 c hf
  · have e : w = k.toInt := by omega
    rw [e] at hf
    rcases hn with hn | hn
    · exact hn hf.1
    · exact hn hf.2
theorem nc_end {k i j : Int} (h : ncI ml mh mo li W n k i j) (hl : nw ≤ k) : ¬ cfI ml mh mo li W n nw i j := fun q => by
  obtain ⟨w, h0, h1, h2, h3⟩ := q
  exact h w h0 (by omega) ⟨h2, h3⟩
theorem ln_zero {i : Int} (h : nl ≤ 0) : ¬ lnI li i nl := fun q => by
  obtain ⟨k, hk, _⟩ := q
  omega
theorem ln_step {i : Int} {k k' : Int32} (h : ¬ lnI li i k.toInt) (h0 : 0 ≤ k.toInt) (h1 : k'.toInt = k.toInt + 1) (hn : (li k.toNatClampNeg).toInt ≠ i) : ¬ lnI li i k'.toInt := fun q => by
  obtain ⟨j, hj, hm⟩ := q
  by_cases c : (j : Int) < k.toInt
  · exact h ⟨j, c, hm⟩
  · have e : j = k.toNatClampNeg := by have := ci_clamp (i := k) h0; omega
    rw [e] at hm; exact hn hm
theorem ln_mono {i a b : Int} (h : lnI li i a) (e : a ≤ b) : lnI li i b := by
  obtain ⟨k, hk, hm⟩ := h
  exact ⟨k, by omega, hm⟩
theorem ln_hit {i : Int} {k : Int32} (h0 : 0 ≤ k.toInt) (hl : k.toInt < nl) (hm : (li k.toNatClampNeg).toInt = i) : lnI li i nl := ⟨k.toNatClampNeg, by have := ci_clamp (i := k) h0; omega, hm⟩
theorem ln_end {i k : Int} (h : ¬ lnI li i k) (e : nl ≤ k) : ¬ lnI li i nl := fun q => h (ln_mono q e)
/-- a yes or no with what it says -/
def ynI (b : Int) (P : Prop) : Prop := (b = 1 ∧ P) ∨ (b = 0 ∧ ¬ P)
theorem yn_yes {b : Int} {P : Prop} (h : ynI b P) (e : b ≠ 0) : P := by
  rcases h with h | h
  · exact h.2
  · exact absurd h.1 e
theorem yn_no {b : Int} {P : Prop} (h : ynI b P) (e : b = 0) : ¬ P := by
  rcases h with h | h
  · exact absurd h.1 (by omega)
  · exact h.2
theorem yn_map {b : Int} {P Q : Prop} (h : ynI b P) (f : P → Q) (g : Q → P) : ynI b Q := by
  rcases h with h | h
  · exact Or.inl ⟨h.1, f h.2⟩
  · exact Or.inr ⟨h.1, fun q => h.2 (g q)⟩
theorem gf_zero {i J : Int} (h : lnI li i nl) (e : J ≤ 0) : gfI ml mh mo li W n nl nw i J := ⟨h, fun j a b => by omega⟩
theorem gf_step {i : Int} {k k' : Int32} (h : gfI ml mh mo li W n nl nw i k.toInt) (h1 : k'.toInt = k.toInt + 1) (hn : k.toInt = i ∨ ¬ cfI ml mh mo li W n nw k.toInt i) : gfI ml mh mo li W n nl nw i k'.toInt := ⟨h.1, fun j a b c => by
  by_cases q : j < k.toInt
  · exact h.2 j a q c
  · have e : j = k.toInt := by omega
    rw [e] at c ⊢
    exact hn.resolve_left c⟩
theorem gf_bad {i : Int} {k k' : Int32} (h1 : k'.toInt = k.toInt + 1) (h0 : 0 ≤ k.toInt) (hn : k.toInt ≠ i) (hc : cfI ml mh mo li W n nw k.toInt i) : ¬ gfI ml mh mo li W n nl nw i k'.toInt := fun q => q.2 k.toInt h0 (by omega) hn hc
theorem gf_down {i a b : Int} (h : ¬ gfI ml mh mo li W n nl nw i a) (e : a ≤ b) : ¬ gfI ml mh mo li W n nl nw i b := fun q => h ⟨q.1, fun j x y z => q.2 j x (by omega) z⟩
theorem gf_6 {i k : Int} (h : gfI ml mh mo li W n nl nw i k) (e : 6 ≤ k) : gfI ml mh mo li W n nl nw i 6 := ⟨h.1, fun j x y z => h.2 j x (by omega) z⟩
theorem gf_n6 {i k : Int} (h : ¬ gfI ml mh mo li W n nl nw i k) (e : k ≤ 6) : ¬ gfI ml mh mo li W n nl nw i 6 := gf_down h e
end I13
/-- none below k has G -/
def nbG (G : Int → Prop) (k : Int) : Prop := ∀ i : Int, 0 ≤ i → i < k → ¬ G i
theorem nb_zero {G : Int → Prop} {k : Int} (h : k ≤ 0) : nbG G k := fun i a b _ => by omega
theorem nb_step {G : Int → Prop} {k k' : Int32} (h : nbG G k.toInt) (h1 : k'.toInt = k.toInt + 1) (hn : ¬ G k.toInt) : nbG G k'.toInt := fun i a b q => by
  by_cases c : i < k.toInt
  · exact h i a c q
  · have e : i = k.toInt := by omega
    rw [e] at q; exact hn q
theorem fn_hit {G : Int → Prop} {r : Int} (h : nbG G r) (h0 : 0 ≤ r) (h1 : r < 6) (hg : G r) : fnG G r := Or.inr ⟨h0, h1, hg, h⟩
theorem fn_none {G : Int → Prop} {k r : Int} (h : nbG G k) (hk : 6 ≤ k) (hr : r = -2) : fnG G r := Or.inl ⟨hr, fun i a b => h i a (by omega)⟩
/-- no pair ahead of (i, j) has R -/
def nrG (R : Int → Int → Prop) (i j : Int) : Prop := ∀ a b : Int, 0 ≤ a → a < b → b < 6 → (a < i ∨ (a = i ∧ b < j)) → ¬ R a b
theorem nr_zero {R : Int → Int → Prop} {i j : Int} (h : i ≤ 0) (hj : j ≤ i + 1) : nrG R i j := fun a b h0 h1 h2 h3 _ => by omega
theorem nr_in {R : Int → Int → Prop} {i j j' : Int} (h : nrG R i j) (hj : j' ≤ i + 1) : nrG R i j' := fun a b h0 h1 h2 h3 => h a b h0 h1 h2 (by omega)
theorem nr_step {R : Int → Int → Prop} {i : Int} {k k' : Int32} (h : nrG R i k.toInt) (h1 : k'.toInt = k.toInt + 1) (hn : ¬ R i k.toInt) : nrG R i k'.toInt := fun a b h0 h2 h3 h4 q => by
  by_cases c : a < i ∨ (a = i ∧ b < k.toInt)
  · exact h a b h0 h2 h3 c q
  · have e1 : a = i := by omega
    have e2 : b = k.toInt := by omega
    rw [e1, e2] at q; exact hn q
theorem nr_next {R : Int → Int → Prop} {i i' j j' : Int} (h : nrG R i j) (hj : 6 ≤ j) (hi : i' = i + 1) (hj' : j' ≤ i' + 1) : nrG R i' j' := fun a b h0 h2 h3 h4 => h a b h0 h2 h3 (by omega)
theorem rn_hit {R : Int → Int → Prop} {i j r : Int} (h : nrG R i j) (h0 : 0 ≤ i) (h1 : i < j) (h2 : j < 6) (hR : R i j) (hr : r = 10 * i + j) : rnG R r := Or.inr ⟨i, j, h0, h1, h2, hR, h, hr⟩
theorem rn_none {R : Int → Int → Prop} {i j r : Int} (h : nrG R i j) (hi : 6 ≤ i) (hr : r = -2) : rnG R r := Or.inl ⟨hr, fun a b h0 h1 h2 => h a b h0 h1 h2 (by omega)⟩
/-- the class' bits of inks that came ahead are what cfI says -/
theorem ac_of {ah rd ov ml mh mo li W : Nat → Int32} {n nw : Int} (hA : ahI ah rd ov nw 0) (hR : bsI rd ml mh mo li W 0 n) (hO : bsI ov ml mh mo li W 1 n) (hw : nw ≤ 40) {i j : Nat} (hi : i < 6) (hj : j < 32) : bt (ah i) j = true ↔ ((j : Int) ≠ (i : Int) ∧ cfI ml mh mo li W n nw (j : Int) (i : Int)) := by
  rw [hA i j hi hj]
  constructor
  · intro q
    obtain ⟨q1, w, q2, q3, q4⟩ := q
    have hw2 : (w : Int) < nw := by omega
    exact ⟨by omega, (w : Int), by omega, hw2, (hO w j (by omega) hj).mp q4, (hR w i (by omega) (by omega)).mp q3⟩
  · intro q
    obtain ⟨q1, w, q2, q3, q4, q5⟩ := q
    refine ⟨by omega, w.toNat, Or.inl (by omega), ?_, ?_⟩
    · refine (hR w.toNat i (by omega) (by omega)).mpr ?_
      rw [show ((w.toNat : Nat) : Int) = w from by omega]; exact q5
    · refine (hO w.toNat j (by omega) hj).mpr ?_
      rw [show ((w.toNat : Nat) : Int) = w from by omega]; exact q4
theorem ac_hi {ah rd ov ml mh mo li W : Nat → Int32} {n nw : Int} (hI : ∀ j : Nat, 0 ≤ (li j).toInt ∧ (li j).toInt ≤ 5) (hA : ahI ah rd ov nw 0) (hR : bsI rd ml mh mo li W 0 n) (hO : bsI ov ml mh mo li W 1 n) (hw : nw ≤ 40) {i j : Nat} (hi : i < 6) (hj : j < 32) (h6 : 6 ≤ j) : bt (ah i) j = false := by
  cases hx : bt (ah i) j
  · rfl
  · obtain ⟨_, w, _, _, ⟨k, _, _, _, q⟩, _⟩ := (ac_of hA hR hO hw hi hj).mp hx
    rcases q with q | q
    · have := hI (ml k).toNatClampNeg
      omega
    · exact absurd q.1 (by decide)
theorem ac_zero {ah rd ov ml mh mo li W : Nat → Int32} {n nw i : Int} (hI : ∀ j : Nat, 0 ≤ (li j).toInt ∧ (li j).toInt ≤ 5) (hA : ahI ah rd ov nw 0) (hR : bsI rd ml mh mo li W 0 n) (hO : bsI ov ml mh mo li W 1 n) (hw : nw ≤ 40) (h0 : 0 ≤ i) (h6 : i < 6) : (ah i.toNat).toInt = 0 ↔ ∀ j : Int, 0 ≤ j → j < 6 → j ≠ i → ¬ cfI ml mh mo li W n nw j i := by
  have ei : ((i.toNat : Nat) : Int) = i := by omega
  constructor
  · intro h j a b c q
    have e : ah i.toNat = 0 := ci_inj (by rw [h]; decide)
    have hb := (ac_of hA hR hO hw (i := i.toNat) (j := j.toNat) (by omega) (by omega)).mpr (by rw [ei, show ((j.toNat : Nat) : Int) = j from by omega]; exact ⟨c, q⟩)
    rw [e, b_0] at hb
    exact Bool.false_ne_true hb
  · intro h
    have e : ah i.toNat = 0 := b_ext (fun j hj => by
      rw [b_0]
      by_cases c : 6 ≤ j
      · exact ac_hi hI hA hR hO hw (by omega) hj c
      · cases hx : bt (ah i.toNat) j
        · rfl
        · have q := (ac_of hA hR hO hw (by omega) hj).mp hx
          rw [ei] at q
          exact absurd q.2 (h (j : Int) (by omega) (by omega) q.1))
    rw [e]; decide
theorem ac_has {ah rd ov ml mh mo li W : Nat → Int32} {n nw i j : Int} (hA : ahI ah rd ov nw 0) (hR : bsI rd ml mh mo li W 0 n) (hO : bsI ov ml mh mo li W 1 n) (hw : nw ≤ 40) (h0 : 0 ≤ i) (h6 : i < 6) (g0 : 0 ≤ j) (g6 : j < 6) (hne : j ≠ i) : hasI (ah i.toNat) j ↔ cfI ml mh mo li W n nw j i := by
  unfold hasI
  rw [ac_of hA hR hO hw (by omega) (by omega), show ((i.toNat : Nat) : Int) = i from by omega, show ((j.toNat : Nat) : Int) = j from by omega]
  exact ⟨fun q => q.2, fun q => ⟨hne, q⟩⟩
/-- the class' first ink and least ring, by its bits -/
def caG (ah li : Nat → Int32) (nl i : Int) : Prop := (ah i.toNat).toInt = 0 ∧ lnI li i nl
def raG (ah : Nat → Int32) (i j : Int) : Prop := hasI (ah j.toNat) i ∧ hasI (ah i.toNat) j
theorem inR_first {ah rd ov ml mh mo li W : Nat → Int32} {n nl nw ij r : Int} (hI : ∀ j : Nat, 0 ≤ (li j).toInt ∧ (li j).toInt ≤ 5) (hA : ahI ah rd ov nw 0) (hR : bsI rd ml mh mo li W 0 n) (hO : bsI ov ml mh mo li W 1 n) (hw : nw ≤ 40) (h : fnG (caG ah li nl) r) (e : ij = -1) : inR ml mh mo li W n nl nw ij r := Or.inl ⟨e, fnG_iff (fun i a b => ⟨fun q => ⟨q.2, (ac_zero hI hA hR hO hw a b).mp q.1⟩, fun q => ⟨(ac_zero hI hA hR hO hw a b).mpr q.2, q.1⟩⟩) h⟩
theorem inR_ring {ah rd ov ml mh mo li W : Nat → Int32} {n nl nw ij r : Int} (hA : ahI ah rd ov nw 0) (hR : bsI rd ml mh mo li W 0 n) (hO : bsI ov ml mh mo li W 1 n) (hw : nw ≤ 40) (h : rnG (raG ah) r) (e : ij = -2) : inR ml mh mo li W n nl nw ij r := Or.inr (Or.inl ⟨e, rnG_iff (fun i j a b c => and_congr (ac_has hA hR hO hw (by omega) (by omega) (by omega) (by omega) (by omega)) (ac_has hA hR hO hw (by omega) (by omega) (by omega) (by omega) (by omega))) h⟩)
theorem inR_pair {ah rd ov ml mh mo li W : Nat → Int32} {n nl nw ij r : Int} {b : Int32} (hA : ahI ah rd ov nw 0) (hR : bsI rd ml mh mo li W 0 n) (hO : bsI ov ml mh mo li W 1 n) (hw : nw ≤ 40) (h0 : 0 ≤ ij) (h1 : ij / 10 < 6) (h2 : ij % 10 < 6) (h3 : ij / 10 ≠ ij % 10) (h : (b.toInt = 1 ∧ hasI (ah (ij % 10).toNat) (ij / 10)) ∨ (b.toInt = 0 ∧ ¬ hasI (ah (ij % 10).toNat) (ij / 10))) (hr : r = b.toInt) : inR ml mh mo li W n nl nw ij r := by
  refine Or.inr (Or.inr ⟨h0, ?_⟩)
  have e := ac_has hA hR hO hw (i := ij % 10) (j := ij / 10) (by omega) h2 (by omega) h1 h3
  rcases h with ⟨a1, a2⟩ | ⟨a1, a2⟩
  · exact Or.inl ⟨by omega, e.mp a2⟩
  · exact Or.inr ⟨by omega, fun q => a2 (e.mpr q)⟩
theorem inR_can {S P ml mh mo li : Nat → Int32} {h m : Int32} {sl nl ij r : Int} {w : Int32} {g o : Nat → Int32} (hW : WInv (srt P h.toInt.toNat) S P sl h.toInt.toNat w g o) (hn : h.toInt ≤ 40) (hM : mhOK mh m.toInt h.toInt) (hF : inR ml mh mo li o m.toInt nl w.toInt ij r) : inR ml mh mo li (wO S P h.toInt.toNat sl) m.toInt nl (wN S P h.toInt.toNat sl) ij r := by
  rw [← wN_of hW]
  exact inR_W (fun k hk => wO_of hW (by omega) (mh_in hM hk)) hF
theorem inR_congr {S S' P P' ml ml' mh mh' mo mo' li li' : Nat → Int32} {n n' : Nat} {sl sl' m m' nl nl' what what' r r' : Int} (hF : inR ml mh mo li (wO S P n sl) m nl (wN S P n sl) what r) (hF' : inR ml' mh' mo' li' (wO S' P' n' sl') m' nl' (wN S' P' n' sl') what' r') (e1 : S = S') (e2 : P = P') (e3 : ml = ml') (e4 : mh = mh') (e5 : mo = mo') (e6 : li = li') (e7 : n = n') (e8 : sl = sl') (e9 : m = m') (e10 : nl = nl') (e11 : what = what') : r = r' := by
  subst e1 e2 e3 e4 e5 e6 e7 e8 e9 e10 e11
  exact inR_one hF hF'
set_option maxHeartbeats 4000000 in
set_option maxRecDepth 100000 in
theorem k_X11_within (l : Launch) (D : va_G) (κ : Nat → ClassId) (β : Nat) (sz : Nat) (p1 : Int32) (p2 : Int32) (p3 : Int32) : Met l yX11_within wsX11_within ({ frames := 0, cells := 0, slots := 0, locals := 0 } : Room) (PcK D κ β [] sz [.int p1, .int p2, .int p3]) (QiK D (fun (r : Int32) (u : Unit) => (r.toInt = 1 ∧ p2.toInt ≤ p1.toInt ∧ p1.toInt ≤ p3.toInt) ∨ (r.toInt = 0 ∧ (p1.toInt < p2.toInt ∨ p3.toInt < p1.toInt))) (fun (u : Unit) => []) [] sz) 0 0 (va_A [] sz) := by
  refine ofK_z (cc := cX11_within) (maxL := 3) (own := RX11) (by decide) rfl rfl (Nat.le_of_ble_eq_true rfl) ?_
  intro p e s m args below meth c Q A ls hsz hx hb hml hts hown hK hA hAB hP hD hl ret
  have hS : va_S A s.heap s.heap [] := va_S.rf
  have hl : lv_has ls 3 [(0, .int p1), (1, .int p2), (2, .int p3)] := hl
  have l0 : (0 : Int32).toInt = 0 := by decide
  have l1 : (1 : Int32).toInt = 1 := by decide
  refine lv_iload_n hx hb dX11_within_0 rfl (lv_at hl 1 rfl) ?_
  refine lv_iload_n hx hb dX11_within_1 rfl (lv_at hl 0 rfl) ?_
  refine lv_icmp_gt (tgt := 14) hx hb dX11_within_2 (by decide) (fun c1 => ?_) (fun c1 => ?_)
  · have c1 := ci_lt c1
    refine lv_iconst (v := 0) hx hb dX11_within_14 (by decide) ?_
    have hpo : ((0 : Int32).toInt = 1 ∧ p2.toInt ≤ p1.toInt ∧ p1.toInt ≤ p3.toInt) ∨ ((0 : Int32).toInt = 0 ∧ (p1.toInt < p2.toInt ∨ p3.toInt < p1.toInt)) := (by omega)
    exact ret _ _ _ _ 0 () dX11_within_15 (by omega) hpo hP hD hS
  have c1 := ci_nlt c1
  refine lv_iload_n hx hb dX11_within_5 rfl (lv_at hl 0 rfl) ?_
  refine lv_iload_n hx hb dX11_within_6 rfl (lv_at hl 2 rfl) ?_
  refine lv_icmp_gt (tgt := 14) hx hb dX11_within_7 (by decide) (fun c2 => ?_) (fun c2 => ?_)
  · have c2 := ci_lt c2
    refine lv_iconst (v := 0) hx hb dX11_within_14 (by decide) ?_
    have hpo : ((0 : Int32).toInt = 1 ∧ p2.toInt ≤ p1.toInt ∧ p1.toInt ≤ p3.toInt) ∨ ((0 : Int32).toInt = 0 ∧ (p1.toInt < p2.toInt ∨ p3.toInt < p1.toInt)) := (by omega)
    exact ret _ _ _ _ 0 () dX11_within_15 (by omega) hpo hP hD hS
  have c2 := ci_nlt c2
  refine lv_iconst (v := 1) hx hb dX11_within_10 (by decide) ?_
  refine lv_goto (tgt := 15) hx hb dX11_within_11 (by decide) ?_
  have hpo : ((1 : Int32).toInt = 1 ∧ p2.toInt ≤ p1.toInt ∧ p1.toInt ≤ p3.toInt) ∨ ((1 : Int32).toInt = 0 ∧ (p1.toInt < p2.toInt ∨ p3.toInt < p1.toInt)) := (by omega)
  exact ret _ _ _ _ 1 () dX11_within_15 (by omega) hpo hP hD hS
set_option maxHeartbeats 4000000 in
set_option maxRecDepth 100000 in
theorem k_X11_isYear (l : Launch) (D : va_G) (κ : Nat → ClassId) (β : Nat) (sz : Nat) (p1 : Int32) : Met l yX11_isYear wsX11_isYear ({ frames := 1, cells := 0, slots := 0, locals := 22 } : Room) (PcK D κ β [] sz [.int p1]) (QiK D (fun (r : Int32) (u : Unit) => (r.toInt = 1 ∧ 0 ≤ p1.toInt ∧ p1.toInt ≤ 2000) ∨ (r.toInt = 0 ∧ (p1.toInt < 0 ∨ 2000 < p1.toInt))) (fun (u : Unit) => []) [] sz) 0 0 (va_A [] sz) := by
  refine ofK_z (cc := cX11_isYear) (maxL := 1) (own := RX11) (by decide) rfl rfl (Nat.le_of_ble_eq_true rfl) ?_
  intro p e s m args below meth c Q A ls hsz hx hb hml hts hown hK hA hAB hP hD hl ret
  have hS : va_S A s.heap s.heap [] := va_S.rf
  have hl : lv_has ls 1 [(0, .int p1)] := hl
  have l0 : (0 : Int32).toInt = 0 := by decide
  have l1 : (2000 : Int32).toInt = 2000 := by decide
  refine lv_iload_n hx hb dX11_isYear_0 rfl (lv_at hl 0 rfl) ?_
  refine lv_iconst (v := 0) hx hb dX11_isYear_1 (by decide) ?_
  refine lv_sipush (v := 2000) hx hb dX11_isYear_2 (by decide) ?_
  refine kcm_i hA hAB hP hD hS [] rfl (fun _ => rfl) (fun hPc hDc => va_runS (As := [.int p1, .int 0, .int 2000]) (rest := []) ⟨hx, hb, hml, hown, hts⟩ (k_X11_within l D κ β s.heap.size p1 0 2000) (va_cwS 3 hts gX11_isYear_X11_within rfl rfl rfl (by decide +kernel) ⟨Nat.le_of_ble_eq_true rfl, Nat.le_of_ble_eq_true rfl⟩) (pk_S hK hS hAB hPc hDc) rfl rfl hl.1 rfl (lv_room (Nat.le_of_ble_eq_true rfl)) dX11_isYear_5 ⟨Nat.le_of_ble_eq_true rfl, Nat.le_of_ble_eq_true rfl⟩) (fun x1 u2 H locs hw hPD hS => ?_)
  have h3 : (x1.toInt = 1 ∧ (0 : Int32).toInt ≤ p1.toInt ∧ p1.toInt ≤ (2000 : Int32).toInt) ∨ (x1.toInt = 0 ∧ (p1.toInt < (0 : Int32).toInt ∨ (2000 : Int32).toInt < p1.toInt)) := hw
  obtain ⟨hP, hD⟩ : PD D A [] H := hPD
  have hpo : (x1.toInt = 1 ∧ 0 ≤ p1.toInt ∧ p1.toInt ≤ 2000) ∨ (x1.toInt = 0 ∧ (p1.toInt < 0 ∨ 2000 < p1.toInt)) := (by omega)
  exact ret _ _ _ _ x1 () dX11_isYear_8 (by omega) hpo hP hD hS
set_option maxHeartbeats 4000000 in
set_option maxRecDepth 100000 in
theorem k_X11_isSlack (l : Launch) (D : va_G) (κ : Nat → ClassId) (β : Nat) (sz : Nat) (p1 : Int32) : Met l yX11_isSlack wsX11_isSlack ({ frames := 1, cells := 0, slots := 0, locals := 22 } : Room) (PcK D κ β [] sz [.int p1]) (QiK D (fun (r : Int32) (u : Unit) => (r.toInt = 1 ∧ 0 ≤ p1.toInt ∧ p1.toInt ≤ 99) ∨ (r.toInt = 0 ∧ (p1.toInt < 0 ∨ 99 < p1.toInt))) (fun (u : Unit) => []) [] sz) 0 0 (va_A [] sz) := by
  refine ofK_z (cc := cX11_isSlack) (maxL := 1) (own := RX11) (by decide) rfl rfl (Nat.le_of_ble_eq_true rfl) ?_
  intro p e s m args below meth c Q A ls hsz hx hb hml hts hown hK hA hAB hP hD hl ret
  have hS : va_S A s.heap s.heap [] := va_S.rf
  have hl : lv_has ls 1 [(0, .int p1)] := hl
  have l0 : (0 : Int32).toInt = 0 := by decide
  have l1 : (99 : Int32).toInt = 99 := by decide
  refine lv_iload_n hx hb dX11_isSlack_0 rfl (lv_at hl 0 rfl) ?_
  refine lv_iconst (v := 0) hx hb dX11_isSlack_1 (by decide) ?_
  refine lv_bipush (v := 99) hx hb dX11_isSlack_2 (by decide) ?_
  refine kcm_i hA hAB hP hD hS [] rfl (fun _ => rfl) (fun hPc hDc => va_runS (As := [.int p1, .int 0, .int 99]) (rest := []) ⟨hx, hb, hml, hown, hts⟩ (k_X11_within l D κ β s.heap.size p1 0 99) (va_cwS 3 hts gX11_isSlack_X11_within rfl rfl rfl (by decide +kernel) ⟨Nat.le_of_ble_eq_true rfl, Nat.le_of_ble_eq_true rfl⟩) (pk_S hK hS hAB hPc hDc) rfl rfl hl.1 rfl (lv_room (Nat.le_of_ble_eq_true rfl)) dX11_isSlack_4 ⟨Nat.le_of_ble_eq_true rfl, Nat.le_of_ble_eq_true rfl⟩) (fun x1 u2 H locs hw hPD hS => ?_)
  have h3 : (x1.toInt = 1 ∧ (0 : Int32).toInt ≤ p1.toInt ∧ p1.toInt ≤ (99 : Int32).toInt) ∨ (x1.toInt = 0 ∧ (p1.toInt < (0 : Int32).toInt ∨ (99 : Int32).toInt < p1.toInt)) := hw
  obtain ⟨hP, hD⟩ : PD D A [] H := hPD
  have hpo : (x1.toInt = 1 ∧ 0 ≤ p1.toInt ∧ p1.toInt ≤ 99) ∨ (x1.toInt = 0 ∧ (p1.toInt < 0 ∨ 99 < p1.toInt)) := (by omega)
  exact ret _ _ _ _ x1 () dX11_isSlack_7 (by omega) hpo hP hD hS
set_option maxHeartbeats 4000000 in
set_option maxRecDepth 100000 in
theorem k_X11_isBit (l : Launch) (D : va_G) (κ : Nat → ClassId) (β : Nat) (sz : Nat) (p1 : Int32) : Met l yX11_isBit wsX11_isBit ({ frames := 0, cells := 0, slots := 0, locals := 0 } : Room) (PcK D κ β [] sz [.int p1]) (QiK D (fun (r : Int32) (u : Unit) => (r.toInt = 1 ∧ 0 ≤ p1.toInt ∧ p1.toInt ≤ 1) ∨ (r.toInt = 0 ∧ (p1.toInt < 0 ∨ 1 < p1.toInt))) (fun (u : Unit) => []) [] sz) 0 0 (va_A [] sz) := by
  refine ofK_z (cc := cX11_isBit) (maxL := 1) (own := RX11) (by decide) rfl rfl (Nat.le_of_ble_eq_true rfl) ?_
  intro p e s m args below meth c Q A ls hsz hx hb hml hts hown hK hA hAB hP hD hl ret
  have hS : va_S A s.heap s.heap [] := va_S.rf
  have hl : lv_has ls 1 [(0, .int p1)] := hl
  have l0 : (0 : Int32).toInt = 0 := by decide
  have l1 : (1 : Int32).toInt = 1 := by decide
  refine lv_iload_n hx hb dX11_isBit_0 rfl (lv_at hl 0 rfl) ?_
  refine lv_if_eq (tgt := 9) hx hb dX11_isBit_1 (by decide) (fun c1 => ?_) (fun c1 => ?_)
  · have c1 := ci_eq c1
    refine lv_iconst (v := 1) hx hb dX11_isBit_9 (by decide) ?_
    refine lv_goto (tgt := 14) hx hb dX11_isBit_10 (by decide) ?_
    have hpo : ((1 : Int32).toInt = 1 ∧ 0 ≤ p1.toInt ∧ p1.toInt ≤ 1) ∨ ((1 : Int32).toInt = 0 ∧ (p1.toInt < 0 ∨ 1 < p1.toInt)) := (by omega)
    exact ret _ _ _ _ 1 () dX11_isBit_14 (by omega) hpo hP hD hS
  have c1 := ci_ne c1
  refine lv_iload_n hx hb dX11_isBit_4 rfl (lv_at hl 0 rfl) ?_
  refine lv_iconst (v := 1) hx hb dX11_isBit_5 (by decide) ?_
  refine lv_icmp_ne (tgt := 13) hx hb dX11_isBit_6 (by decide) (fun c2 => ?_) (fun c2 => ?_)
  · have c2 := ci_ne c2
    refine lv_iconst (v := 0) hx hb dX11_isBit_13 (by decide) ?_
    have hpo : ((0 : Int32).toInt = 1 ∧ 0 ≤ p1.toInt ∧ p1.toInt ≤ 1) ∨ ((0 : Int32).toInt = 0 ∧ (p1.toInt < 0 ∨ 1 < p1.toInt)) := (by omega)
    exact ret _ _ _ _ 0 () dX11_isBit_14 (by omega) hpo hP hD hS
  have c2 := ci_eq c2
  refine lv_iconst (v := 1) hx hb dX11_isBit_9 (by decide) ?_
  refine lv_goto (tgt := 14) hx hb dX11_isBit_10 (by decide) ?_
  have hpo : ((1 : Int32).toInt = 1 ∧ 0 ≤ p1.toInt ∧ p1.toInt ≤ 1) ∨ ((1 : Int32).toInt = 0 ∧ (p1.toInt < 0 ∨ 1 < p1.toInt)) := (by omega)
  exact ret _ _ _ _ 1 () dX11_isBit_14 (by omega) hpo hP hD hS
set_option maxHeartbeats 4000000 in
set_option maxRecDepth 100000 in
theorem k_X11_asBit (l : Launch) (D : va_G) (κ : Nat → ClassId) (β : Nat) (sz : Nat) (p1 : Int32) : Met l yX11_asBit wsX11_asBit ({ frames := 0, cells := 0, slots := 0, locals := 0 } : Room) (PcK D κ β [] sz [.int p1]) (QiK D (fun (r : Int32) (u : Unit) => (r.toInt = 1 ∧ p1.toInt ≠ 0) ∨ (r.toInt = 0 ∧ p1.toInt = 0)) (fun (u : Unit) => []) [] sz) 0 0 (va_A [] sz) := by
  refine ofK_i (cc := cX11_asBit) (maxL := 1) (own := RX11) (by decide) rfl rfl (Nat.le_of_ble_eq_true rfl) ?_
  intro p e s m args below meth c Q A ls hsz hx hb hml hts hown hK hA hAB hP hD hl ret
  have hS : va_S A s.heap s.heap [] := va_S.rf
  have hl : lv_has ls 1 [(0, .int p1)] := hl
  have l0 : (0 : Int32).toInt = 0 := by decide
  have l1 : (1 : Int32).toInt = 1 := by decide
  refine lv_iload_n hx hb dX11_asBit_0 rfl (lv_at hl 0 rfl) ?_
  refine lv_if_eq (tgt := 8) hx hb dX11_asBit_1 (by decide) (fun c1 => ?_) (fun c1 => ?_)
  · have c1 := ci_eq c1
    refine lv_iconst (v := 0) hx hb dX11_asBit_8 (by decide) ?_
    have hpo : ((0 : Int32).toInt = 1 ∧ p1.toInt ≠ 0) ∨ ((0 : Int32).toInt = 0 ∧ p1.toInt = 0) := (by omega)
    exact ret _ _ _ _ 0 () dX11_asBit_9 hpo hP hD hS
  have c1 := ci_ne c1
  refine lv_iconst (v := 1) hx hb dX11_asBit_4 (by decide) ?_
  refine lv_goto (tgt := 9) hx hb dX11_asBit_5 (by decide) ?_
  have hpo : ((1 : Int32).toInt = 1 ∧ p1.toInt ≠ 0) ∨ ((1 : Int32).toInt = 0 ∧ p1.toInt = 0) := (by omega)
  exact ret _ _ _ _ 1 () dX11_asBit_9 hpo hP hD hS
set_option maxHeartbeats 4000000 in
set_option maxRecDepth 100000 in
theorem k_X11_isInk (l : Launch) (D : va_G) (κ : Nat → ClassId) (β : Nat) (sz : Nat) (p1 : Int32) : Met l yX11_isInk wsX11_isInk ({ frames := 1, cells := 0, slots := 0, locals := 22 } : Room) (PcK D κ β [] sz [.int p1]) (QiK D (fun (r : Int32) (u : Unit) => (r.toInt = 1 ∧ 0 ≤ p1.toInt ∧ p1.toInt ≤ 5) ∨ (r.toInt = 0 ∧ (p1.toInt < 0 ∨ 5 < p1.toInt))) (fun (u : Unit) => []) [] sz) 0 0 (va_A [] sz) := by
  refine ofK_z (cc := cX11_isInk) (maxL := 1) (own := RX11) (by decide) rfl rfl (Nat.le_of_ble_eq_true rfl) ?_
  intro p e s m args below meth c Q A ls hsz hx hb hml hts hown hK hA hAB hP hD hl ret
  have hS : va_S A s.heap s.heap [] := va_S.rf
  have hl : lv_has ls 1 [(0, .int p1)] := hl
  have l0 : (0 : Int32).toInt = 0 := by decide
  have l1 : (5 : Int32).toInt = 5 := by decide
  refine lv_iload_n hx hb dX11_isInk_0 rfl (lv_at hl 0 rfl) ?_
  refine lv_iconst (v := 0) hx hb dX11_isInk_1 (by decide) ?_
  refine lv_iconst (v := 5) hx hb dX11_isInk_2 (by decide) ?_
  refine kcm_i hA hAB hP hD hS [] rfl (fun _ => rfl) (fun hPc hDc => va_runS (As := [.int p1, .int 0, .int 5]) (rest := []) ⟨hx, hb, hml, hown, hts⟩ (k_X11_within l D κ β s.heap.size p1 0 5) (va_cwS 3 hts gX11_isInk_X11_within rfl rfl rfl (by decide +kernel) ⟨Nat.le_of_ble_eq_true rfl, Nat.le_of_ble_eq_true rfl⟩) (pk_S hK hS hAB hPc hDc) rfl rfl hl.1 rfl (lv_room (Nat.le_of_ble_eq_true rfl)) dX11_isInk_3 ⟨Nat.le_of_ble_eq_true rfl, Nat.le_of_ble_eq_true rfl⟩) (fun x1 u2 H locs hw hPD hS => ?_)
  have h3 : (x1.toInt = 1 ∧ (0 : Int32).toInt ≤ p1.toInt ∧ p1.toInt ≤ (5 : Int32).toInt) ∨ (x1.toInt = 0 ∧ (p1.toInt < (0 : Int32).toInt ∨ (5 : Int32).toInt < p1.toInt)) := hw
  obtain ⟨hP, hD⟩ : PD D A [] H := hPD
  have hpo : (x1.toInt = 1 ∧ 0 ≤ p1.toInt ∧ p1.toInt ≤ 5) ∨ (x1.toInt = 0 ∧ (p1.toInt < 0 ∨ 5 < p1.toInt)) := (by omega)
  exact ret _ _ _ _ x1 () dX11_isInk_6 (by omega) hpo hP hD hS
set_option maxHeartbeats 4000000 in
set_option maxRecDepth 100000 in
theorem k_X11_isStuff (l : Launch) (D : va_G) (κ : Nat → ClassId) (β : Nat) (sz : Nat) (p1 : Int32) : Met l yX11_isStuff wsX11_isStuff ({ frames := 1, cells := 0, slots := 0, locals := 22 } : Room) (PcK D κ β [] sz [.int p1]) (QiK D (fun (r : Int32) (u : Unit) => (r.toInt = 1 ∧ 0 ≤ p1.toInt ∧ p1.toInt ≤ 9999) ∨ (r.toInt = 0 ∧ (p1.toInt < 0 ∨ 9999 < p1.toInt))) (fun (u : Unit) => []) [] sz) 0 0 (va_A [] sz) := by
  refine ofK_z (cc := cX11_isStuff) (maxL := 1) (own := RX11) (by decide) rfl rfl (Nat.le_of_ble_eq_true rfl) ?_
  intro p e s m args below meth c Q A ls hsz hx hb hml hts hown hK hA hAB hP hD hl ret
  have hS : va_S A s.heap s.heap [] := va_S.rf
  have hl : lv_has ls 1 [(0, .int p1)] := hl
  have l0 : (0 : Int32).toInt = 0 := by decide
  have l1 : (9999 : Int32).toInt = 9999 := by decide
  refine lv_iload_n hx hb dX11_isStuff_0 rfl (lv_at hl 0 rfl) ?_
  refine lv_iconst (v := 0) hx hb dX11_isStuff_1 (by decide) ?_
  refine lv_sipush (v := 9999) hx hb dX11_isStuff_2 (by decide) ?_
  refine kcm_i hA hAB hP hD hS [] rfl (fun _ => rfl) (fun hPc hDc => va_runS (As := [.int p1, .int 0, .int 9999]) (rest := []) ⟨hx, hb, hml, hown, hts⟩ (k_X11_within l D κ β s.heap.size p1 0 9999) (va_cwS 3 hts gX11_isStuff_X11_within rfl rfl rfl (by decide +kernel) ⟨Nat.le_of_ble_eq_true rfl, Nat.le_of_ble_eq_true rfl⟩) (pk_S hK hS hAB hPc hDc) rfl rfl hl.1 rfl (lv_room (Nat.le_of_ble_eq_true rfl)) dX11_isStuff_5 ⟨Nat.le_of_ble_eq_true rfl, Nat.le_of_ble_eq_true rfl⟩) (fun x1 u2 H locs hw hPD hS => ?_)
  have h3 : (x1.toInt = 1 ∧ (0 : Int32).toInt ≤ p1.toInt ∧ p1.toInt ≤ (9999 : Int32).toInt) ∨ (x1.toInt = 0 ∧ (p1.toInt < (0 : Int32).toInt ∨ (9999 : Int32).toInt < p1.toInt)) := hw
  obtain ⟨hP, hD⟩ : PD D A [] H := hPD
  have hpo : (x1.toInt = 1 ∧ 0 ≤ p1.toInt ∧ p1.toInt ≤ 9999) ∨ (x1.toInt = 0 ∧ (p1.toInt < 0 ∨ 9999 < p1.toInt)) := (by omega)
  exact ret _ _ _ _ x1 () dX11_isStuff_8 (by omega) hpo hP hD hS
set_option maxHeartbeats 4000000 in
set_option maxRecDepth 100000 in
theorem k_X11_isPrior (l : Launch) (D : va_G) (κ : Nat → ClassId) (β : Nat) (sz : Nat) (p1 : Int32) : Met l yX11_isPrior wsX11_isPrior ({ frames := 1, cells := 0, slots := 0, locals := 22 } : Room) (PcK D κ β [] sz [.int p1]) (QiK D (fun (r : Int32) (u : Unit) => (r.toInt = 1 ∧ 1 ≤ p1.toInt ∧ p1.toInt ≤ 99) ∨ (r.toInt = 0 ∧ (p1.toInt < 1 ∨ 99 < p1.toInt))) (fun (u : Unit) => []) [] sz) 0 0 (va_A [] sz) := by
  refine ofK_z (cc := cX11_isPrior) (maxL := 1) (own := RX11) (by decide) rfl rfl (Nat.le_of_ble_eq_true rfl) ?_
  intro p e s m args below meth c Q A ls hsz hx hb hml hts hown hK hA hAB hP hD hl ret
  have hS : va_S A s.heap s.heap [] := va_S.rf
  have hl : lv_has ls 1 [(0, .int p1)] := hl
  have l0 : (1 : Int32).toInt = 1 := by decide
  have l1 : (99 : Int32).toInt = 99 := by decide
  refine lv_iload_n hx hb dX11_isPrior_0 rfl (lv_at hl 0 rfl) ?_
  refine lv_iconst (v := 1) hx hb dX11_isPrior_1 (by decide) ?_
  refine lv_bipush (v := 99) hx hb dX11_isPrior_2 (by decide) ?_
  refine kcm_i hA hAB hP hD hS [] rfl (fun _ => rfl) (fun hPc hDc => va_runS (As := [.int p1, .int 1, .int 99]) (rest := []) ⟨hx, hb, hml, hown, hts⟩ (k_X11_within l D κ β s.heap.size p1 1 99) (va_cwS 3 hts gX11_isPrior_X11_within rfl rfl rfl (by decide +kernel) ⟨Nat.le_of_ble_eq_true rfl, Nat.le_of_ble_eq_true rfl⟩) (pk_S hK hS hAB hPc hDc) rfl rfl hl.1 rfl (lv_room (Nat.le_of_ble_eq_true rfl)) dX11_isPrior_4 ⟨Nat.le_of_ble_eq_true rfl, Nat.le_of_ble_eq_true rfl⟩) (fun x1 u2 H locs hw hPD hS => ?_)
  have h3 : (x1.toInt = 1 ∧ (1 : Int32).toInt ≤ p1.toInt ∧ p1.toInt ≤ (99 : Int32).toInt) ∨ (x1.toInt = 0 ∧ (p1.toInt < (1 : Int32).toInt ∨ (99 : Int32).toInt < p1.toInt)) := hw
  obtain ⟨hP, hD⟩ : PD D A [] H := hPD
  have hpo : (x1.toInt = 1 ∧ 1 ≤ p1.toInt ∧ p1.toInt ≤ 99) ∨ (x1.toInt = 0 ∧ (p1.toInt < 1 ∨ 99 < p1.toInt)) := (by omega)
  exact ret _ _ _ _ x1 () dX11_isPrior_7 (by omega) hpo hP hD hS
set_option maxHeartbeats 4000000 in
set_option maxRecDepth 100000 in
theorem k_X11_isDot (l : Launch) (D : va_G) (κ : Nat → ClassId) (β : Nat) (sz : Nat) (p1 : Int32) (p2 : Int32) (p3 : Int32) : Met l yX11_isDot wsX11_isDot ({ frames := 2, cells := 0, slots := 0, locals := 42 } : Room) (PcK D κ β [] sz [.int p1, .int p2, .int p3]) (QiK D (fun (r : Int32) (u : Unit) => (r.toInt = 1 ∧ 0 ≤ p1.toInt ∧ p1.toInt ≤ 4 ∧ 0 ≤ p2.toInt ∧ p2.toInt ≤ 7 ∧ 0 ≤ p3.toInt ∧ p3.toInt ≤ 9999) ∨ (r.toInt = 0 ∧ (p1.toInt < 0 ∨ 4 < p1.toInt ∨ p2.toInt < 0 ∨ 7 < p2.toInt ∨ p3.toInt < 0 ∨ 9999 < p3.toInt))) (fun (u : Unit) => []) [] sz) 0 0 (va_A [] sz) := by
  refine ofK_z (cc := cX11_isDot) (maxL := 3) (own := RX11) (by decide) rfl rfl (Nat.le_of_ble_eq_true rfl) ?_
  intro p e s m args below meth c Q A ls hsz hx hb hml hts hown hK hA hAB hP hD hl ret
  have hS : va_S A s.heap s.heap [] := va_S.rf
  have hl : lv_has ls 3 [(0, .int p1), (1, .int p2), (2, .int p3)] := hl
  have l0 : (0 : Int32).toInt = 0 := by decide
  have l1 : (4 : Int32).toInt = 4 := by decide
  have l2 : (7 : Int32).toInt = 7 := by decide
  have l3 : (1 : Int32).toInt = 1 := by decide
  refine lv_iload_n hx hb dX11_isDot_0 rfl (lv_at hl 0 rfl) ?_
  refine lv_iconst (v := 0) hx hb dX11_isDot_1 (by decide) ?_
  refine lv_iconst (v := 4) hx hb dX11_isDot_2 (by decide) ?_
  refine kcm_i hA hAB hP hD hS [] rfl (fun _ => rfl) (fun hPc hDc => va_runS (As := [.int p1, .int 0, .int 4]) (rest := []) ⟨hx, hb, hml, hown, hts⟩ (k_X11_within l D κ β s.heap.size p1 0 4) (va_cwS 3 hts gX11_isDot_X11_within rfl rfl rfl (by decide +kernel) ⟨Nat.le_of_ble_eq_true rfl, Nat.le_of_ble_eq_true rfl⟩) (pk_S hK hS hAB hPc hDc) rfl rfl hl.1 rfl (lv_room (Nat.le_of_ble_eq_true rfl)) dX11_isDot_3 ⟨Nat.le_of_ble_eq_true rfl, Nat.le_of_ble_eq_true rfl⟩) (fun x1 u2 H locs hw hPD hS => ?_)
  have h3 : (x1.toInt = 1 ∧ (0 : Int32).toInt ≤ p1.toInt ∧ p1.toInt ≤ (4 : Int32).toInt) ∨ (x1.toInt = 0 ∧ (p1.toInt < (0 : Int32).toInt ∨ (4 : Int32).toInt < p1.toInt)) := hw
  obtain ⟨hP, hD⟩ : PD D A [] H := hPD
  refine lv_if_eq (tgt := 30) hx hb dX11_isDot_6 (by decide) (fun c4 => ?_) (fun c4 => ?_)
  · have c4 := ci_eq c4
    refine lv_iconst (v := 0) hx hb dX11_isDot_30 (by decide) ?_
    have hpo : ((0 : Int32).toInt = 1 ∧ 0 ≤ p1.toInt ∧ p1.toInt ≤ 4 ∧ 0 ≤ p2.toInt ∧ p2.toInt ≤ 7 ∧ 0 ≤ p3.toInt ∧ p3.toInt ≤ 9999) ∨ ((0 : Int32).toInt = 0 ∧ (p1.toInt < 0 ∨ 4 < p1.toInt ∨ p2.toInt < 0 ∨ 7 < p2.toInt ∨ p3.toInt < 0 ∨ 9999 < p3.toInt)) := (by omega)
    exact ret _ _ _ _ 0 () dX11_isDot_31 (by omega) hpo hP hD hS
  have c4 := ci_ne c4
  refine lv_iload_n hx hb dX11_isDot_9 rfl (lv_at hl 1 rfl) ?_
  refine lv_iconst (v := 0) hx hb dX11_isDot_10 (by decide) ?_
  refine lv_bipush (v := 7) hx hb dX11_isDot_11 (by decide) ?_
  refine kcm_i hA hAB hP hD hS [] rfl (fun _ => rfl) (fun hPc hDc => va_runS (As := [.int p2, .int 0, .int 7]) (rest := []) ⟨hx, hb, hml, hown, hts⟩ (k_X11_within l D κ β H.size p2 0 7) (va_cwS 3 hts gX11_isDot_X11_within rfl rfl rfl (by decide +kernel) ⟨Nat.le_of_ble_eq_true rfl, Nat.le_of_ble_eq_true rfl⟩) (pk_S hK hS hAB hPc hDc) rfl rfl hl.1 rfl (lv_room (Nat.le_of_ble_eq_true rfl)) dX11_isDot_13 ⟨Nat.le_of_ble_eq_true rfl, Nat.le_of_ble_eq_true rfl⟩) (fun x5 u6 H locs hw hPD hS => ?_)
  have h7 : (x5.toInt = 1 ∧ (0 : Int32).toInt ≤ p2.toInt ∧ p2.toInt ≤ (7 : Int32).toInt) ∨ (x5.toInt = 0 ∧ (p2.toInt < (0 : Int32).toInt ∨ (7 : Int32).toInt < p2.toInt)) := hw
  obtain ⟨hP, hD⟩ : PD D A [] H := hPD
  refine lv_if_eq (tgt := 30) hx hb dX11_isDot_16 (by decide) (fun c8 => ?_) (fun c8 => ?_)
  · have c8 := ci_eq c8
    refine lv_iconst (v := 0) hx hb dX11_isDot_30 (by decide) ?_
    have hpo : ((0 : Int32).toInt = 1 ∧ 0 ≤ p1.toInt ∧ p1.toInt ≤ 4 ∧ 0 ≤ p2.toInt ∧ p2.toInt ≤ 7 ∧ 0 ≤ p3.toInt ∧ p3.toInt ≤ 9999) ∨ ((0 : Int32).toInt = 0 ∧ (p1.toInt < 0 ∨ 4 < p1.toInt ∨ p2.toInt < 0 ∨ 7 < p2.toInt ∨ p3.toInt < 0 ∨ 9999 < p3.toInt)) := (by omega)
    exact ret _ _ _ _ 0 () dX11_isDot_31 (by omega) hpo hP hD hS
  have c8 := ci_ne c8
  refine lv_iload_n hx hb dX11_isDot_19 rfl (lv_at hl 2 rfl) ?_
  refine kcm_i hA hAB hP hD hS [] rfl (fun _ => rfl) (fun hPc hDc => va_runS (As := [.int p3]) (rest := []) ⟨hx, hb, hml, hown, hts⟩ (k_X11_isStuff l D κ β H.size p3) (va_cwS 1 hts gX11_isDot_X11_isStuff rfl rfl rfl (by decide +kernel) ⟨Nat.le_of_ble_eq_true rfl, Nat.le_of_ble_eq_true rfl⟩) (pk_S hK hS hAB hPc hDc) rfl rfl hl.1 rfl (lv_room (Nat.le_of_ble_eq_true rfl)) dX11_isDot_20 ⟨Nat.le_of_ble_eq_true rfl, Nat.le_of_ble_eq_true rfl⟩) (fun x9 u10 H locs hw hPD hS => ?_)
  have h11 : (x9.toInt = 1 ∧ 0 ≤ p3.toInt ∧ p3.toInt ≤ 9999) ∨ (x9.toInt = 0 ∧ (p3.toInt < 0 ∨ 9999 < p3.toInt)) := hw
  obtain ⟨hP, hD⟩ : PD D A [] H := hPD
  refine lv_if_eq (tgt := 30) hx hb dX11_isDot_23 (by decide) (fun c12 => ?_) (fun c12 => ?_)
  · have c12 := ci_eq c12
    refine lv_iconst (v := 0) hx hb dX11_isDot_30 (by decide) ?_
    have hpo : ((0 : Int32).toInt = 1 ∧ 0 ≤ p1.toInt ∧ p1.toInt ≤ 4 ∧ 0 ≤ p2.toInt ∧ p2.toInt ≤ 7 ∧ 0 ≤ p3.toInt ∧ p3.toInt ≤ 9999) ∨ ((0 : Int32).toInt = 0 ∧ (p1.toInt < 0 ∨ 4 < p1.toInt ∨ p2.toInt < 0 ∨ 7 < p2.toInt ∨ p3.toInt < 0 ∨ 9999 < p3.toInt)) := (by omega)
    exact ret _ _ _ _ 0 () dX11_isDot_31 (by omega) hpo hP hD hS
  have c12 := ci_ne c12
  refine lv_iconst (v := 1) hx hb dX11_isDot_26 (by decide) ?_
  refine lv_goto (tgt := 31) hx hb dX11_isDot_27 (by decide) ?_
  have hpo : ((1 : Int32).toInt = 1 ∧ 0 ≤ p1.toInt ∧ p1.toInt ≤ 4 ∧ 0 ≤ p2.toInt ∧ p2.toInt ≤ 7 ∧ 0 ≤ p3.toInt ∧ p3.toInt ≤ 9999) ∨ ((1 : Int32).toInt = 0 ∧ (p1.toInt < 0 ∨ 4 < p1.toInt ∨ p2.toInt < 0 ∨ 7 < p2.toInt ∨ p3.toInt < 0 ∨ 9999 < p3.toInt)) := (by omega)
  exact ret _ _ _ _ 1 () dX11_isDot_31 (by omega) hpo hP hD hS
set_option maxHeartbeats 4000000 in
set_option maxRecDepth 100000 in
theorem k_X11_hasBit (l : Launch) (D : va_G) (κ : Nat → ClassId) (β : Nat) (sz : Nat) (p1 : Int32) (p2 : Int32) : Met l yX11_hasBit wsX11_hasBit ({ frames := 0, cells := 0, slots := 0, locals := 0 } : Room) (PcK D κ β [] sz [.int p1, .int p2]) (QiK D (fun (r : Int32) (u : Unit) => r.toInt = 0 ∨ r.toInt = 1) (fun (u : Unit) => []) [] sz) 0 0 (va_A [] sz) := by
  refine ofK_z (cc := cX11_hasBit) (maxL := 2) (own := RX11) (by decide) rfl rfl (Nat.le_of_ble_eq_true rfl) ?_
  intro p e s m args below meth c Q A ls hsz hx hb hml hts hown hK hA hAB hP hD hl ret
  have hS : va_S A s.heap s.heap [] := va_S.rf
  have hl : lv_has ls 2 [(0, .int p1), (1, .int p2)] := hl
  have l0 : (1 : Int32).toInt = 1 := by decide
  have l1 : (0 : Int32).toInt = 0 := by decide
  refine lv_iload_n hx hb dX11_hasBit_0 rfl (lv_at hl 0 rfl) ?_
  refine lv_iload_n hx hb dX11_hasBit_1 rfl (lv_at hl 1 rfl) ?_
  refine lv_ishr hx hb dX11_hasBit_2 ?_
  refine lv_topi (fun x1 e2 => ?_)
  refine lv_iconst (v := 1) hx hb dX11_hasBit_3 (by decide) ?_
  refine lv_iand hx hb dX11_hasBit_4 ?_
  refine lv_topi (fun x3 e4 => ?_)
  refine lv_if_eq (tgt := 12) hx hb dX11_hasBit_5 (by decide) (fun c5 => ?_) (fun c5 => ?_)
  · have c5 := ci_eq c5
    refine lv_iconst (v := 0) hx hb dX11_hasBit_12 (by decide) ?_
    have hpo : (0 : Int32).toInt = 0 ∨ (0 : Int32).toInt = 1 := (by omega)
    exact ret _ _ _ _ 0 () dX11_hasBit_13 (by omega) hpo hP hD hS
  have c5 := ci_ne c5
  refine lv_iconst (v := 1) hx hb dX11_hasBit_8 (by decide) ?_
  refine lv_goto (tgt := 13) hx hb dX11_hasBit_9 (by decide) ?_
  have hpo : (1 : Int32).toInt = 0 ∨ (1 : Int32).toInt = 1 := (by omega)
  exact ret _ _ _ _ 1 () dX11_hasBit_13 (by omega) hpo hP hD hS
set_option maxHeartbeats 4000000 in
set_option maxRecDepth 100000 in
theorem k_X11_drawn (l : Launch) (D : va_G) (κ : Nat → ClassId) (β : Nat) (sz : Nat) (p1 : Int32) : Met l yX11_drawn wsX11_drawn ({ frames := 0, cells := 0, slots := 0, locals := 0 } : Room) (PcK D κ β [] sz [.int p1]) (QiK D (fun (r : Int32) (u : Unit) => True) (fun (u : Unit) => []) [] sz) 0 0 (va_A [] sz) := by
  refine ofK_i (cc := cX11_drawn) (maxL := 1) (own := RX11) (by decide) rfl rfl (Nat.le_of_ble_eq_true rfl) ?_
  intro p e s m args below meth c Q A ls hsz hx hb hml hts hown hK hA hAB hP hD hl ret
  have hS : va_S A s.heap s.heap [] := va_S.rf
  have hl : lv_has ls 1 [(0, .int p1)] := hl
  have w0 := hts (.constant RX11 470 (1103515245)) (List.mem_of_getElem? (i := 1) rfl)
  have l0 : (1103515245 : Int32).toInt = 1103515245 := by decide
  have l1 : (12345 : Int32).toInt = 12345 := by decide
  refine lv_iload_n hx hb dX11_drawn_0 rfl (lv_at hl 0 rfl) ?_
  refine lv_ldcw (v := 1103515245) hx hb hown w0 dX11_drawn_1 ?_
  refine lv_imul hx hb dX11_drawn_4 ?_
  refine lv_topi (fun x1 e2 => ?_)
  try have h3 : x1.toInt = 1103515245 * p1.toInt := ci_mulR (n := 1103515245) (by decide) e2 (by omega) (by omega)
  refine lv_sipush (v := 12345) hx hb dX11_drawn_5 (by decide) ?_
  refine lv_iadd hx hb dX11_drawn_8 ?_
  refine lv_topi (fun x4 e5 => ?_)
  try have h6 : x4.toInt = x1.toInt + (12345 : Int32).toInt := ci_add e5 (by omega) (by omega)
  exact ret _ _ _ _ x4 () dX11_drawn_9 trivial hP hD hS
set_option maxHeartbeats 4000000 in
set_option maxRecDepth 100000 in
theorem k_X11_hasBit_f (l : Launch) (D : va_G) (κ : Nat → ClassId) (β : Nat) (sz : Nat) (p1 : Int32) (p2 : Int32) (i1 : 0 ≤ p2.toInt ∧ p2.toInt ≤ 31) : Met l yX11_hasBit wsX11_hasBit ({ frames := 0, cells := 0, slots := 0, locals := 0 } : Room) (PcK D κ β [] sz [.int p1, .int p2]) (QiK D (fun (r : Int32) (u : Unit) => (r.toInt = 1 ∧ hasI p1 p2.toInt) ∨ (r.toInt = 0 ∧ ¬ hasI p1 p2.toInt)) (fun (u : Unit) => []) [] sz) 0 0 (va_A [] sz) := by
  refine ofK_z (cc := cX11_hasBit) (maxL := 2) (own := RX11) (by decide) rfl rfl (Nat.le_of_ble_eq_true rfl) ?_
  intro p e s m args below meth c Q A ls hsz hx hb hml hts hown hK hA hAB hP hD hl ret
  have hS : va_S A s.heap s.heap [] := va_S.rf
  have hl : lv_has ls 2 [(0, .int p1), (1, .int p2)] := hl
  have l0 : (1 : Int32).toInt = 1 := by decide
  have l1 : (0 : Int32).toInt = 0 := by decide
  refine lv_iload_n hx hb dX11_hasBit_0 rfl (lv_at hl 0 rfl) ?_
  refine lv_iload_n hx hb dX11_hasBit_1 rfl (lv_at hl 1 rfl) ?_
  refine lv_ishr hx hb dX11_hasBit_2 ?_
  refine lv_topi (fun x1 e2 => ?_)
  have hs1 := e2
  refine lv_iconst (v := 1) hx hb dX11_hasBit_3 (by decide) ?_
  refine lv_iand hx hb dX11_hasBit_4 ?_
  refine lv_topi (fun x3 e4 => ?_)
  have hs2 := has_bt hs1 e4 (by omega) (by omega)
  refine lv_if_eq (tgt := 12) hx hb dX11_hasBit_5 (by decide) (fun c5 => ?_) (fun c5 => ?_)
  · have c5 := ci_eq c5
    refine lv_iconst (v := 0) hx hb dX11_hasBit_12 (by decide) ?_
    have hpo : ((0 : Int32).toInt = 1 ∧ hasI p1 p2.toInt) ∨ ((0 : Int32).toInt = 0 ∧ ¬ hasI p1 p2.toInt) := (by first | exact Or.inl ⟨by omega, hs2.mp (by omega)⟩ | exact Or.inr ⟨by omega, fun q9 => hs2.mpr q9 (by omega)⟩)
    exact ret _ _ _ _ 0 () dX11_hasBit_13 (by omega) hpo hP hD hS
  have c5 := ci_ne c5
  refine lv_iconst (v := 1) hx hb dX11_hasBit_8 (by decide) ?_
  refine lv_goto (tgt := 13) hx hb dX11_hasBit_9 (by decide) ?_
  have hpo : ((1 : Int32).toInt = 1 ∧ hasI p1 p2.toInt) ∨ ((1 : Int32).toInt = 0 ∧ ¬ hasI p1 p2.toInt) := (by first | exact Or.inl ⟨by omega, hs2.mp (by omega)⟩ | exact Or.inr ⟨by omega, fun q9 => hs2.mpr q9 (by omega)⟩)
  exact ret _ _ _ _ 1 () dX11_hasBit_13 (by omega) hpo hP hD hS
