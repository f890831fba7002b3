def addF (c : Int32) (cap : Int) (f : Nat → Int32) (v : Int32) : Nat → Int32 := if c.toInt < cap then upd f c.toNatClampNeg v else f
theorem addF_ok {c v : Int32} {cap : Int} {f : Nat → Int32} (h : c.toInt < cap) : addF c cap f v = upd f c.toNatClampNeg v := if_pos h
theorem addF_no {c v : Int32} {cap : Int} {f : Nat → Int32} (h : ¬ c.toInt < cap) : addF c cap f v = f := if_neg h
def holeF (a b n c : Int32) (f : Nat → Int32) (v : Int32) : Nat → Int32 := if 0 ≤ a.toInt ∧ a.toInt < n.toInt ∧ 0 ≤ b.toInt ∧ b.toInt ≤ 999 then addF c 40 f v else f
theorem holeF_ok {a b n c v : Int32} {f : Nat → Int32} (h : 0 ≤ a.toInt ∧ a.toInt < n.toInt ∧ 0 ≤ b.toInt ∧ b.toInt ≤ 999) : holeF a b n c f v = addF c 40 f v := if_pos h
theorem holeF_no {a b n c v : Int32} {f : Nat → Int32} (h : ¬ (0 ≤ a.toInt ∧ a.toInt < n.toInt ∧ 0 ≤ b.toInt ∧ b.toInt ≤ 999)) : holeF a b n c f v = f := if_neg h
/-- where a hole at place v goes among the first k of f: behind all that lie at v or ahead of it, from the end on -/
def insA (P : Nat → Int32) (f : Nat → Int32) (v : Int) : Nat → Nat
  | 0 => 0
  | k + 1 => if v < (P (f k).toNatClampNeg).toInt then insA P f v k else k + 1
theorem insA_le {P f : Nat → Int32} {v : Int} : ∀ k : Nat, insA P f v k ≤ k
  | 0 => Nat.le_refl 0
  | k + 1 => by
    show (if v < (P (f k).toNatClampNeg).toInt then insA P f v k else k + 1) ≤ k + 1
    have := insA_le (P := P) (f := f) (v := v) k
    split <;> omega
def insF (f : Nat → Int32) (n a : Nat) (h : Int32) : Nat → Int32 := fun j => if j = a then h else if a < j ∧ j ≤ n then f (j - 1) else f j
/-- the holes 0 .. n - 1 in order of their places -/
def srt (P : Nat → Int32) : Nat → (Nat → Int32)
  | 0 => fun _ => 0
  | n + 1 => insF (srt P n) n (insA P (srt P n) (P n).toInt n) (Int32.ofNat n)
theorem ofNat_of {x : Int32} (h : 0 ≤ x.toInt) : Int32.ofNat x.toInt.toNat = x := by
  apply ci_inj
  rw [ci_len (n := x.toInt.toNat) rfl (by have := ci_rng x; omega)]
  omega
theorem srt_lt {P : Nat → Int32} : ∀ n : Nat, n ≤ 40 → ∀ j : Nat, j < n → 0 ≤ (srt P n j).toInt ∧ (srt P n j).toInt < (n : Int)
  | 0, _, j, h => absurd h (Nat.not_lt_zero j)
  | n + 1, hn, j, h => by
    have ih := srt_lt (P := P) n (by omega)
    have ha := insA_le (P := P) (f := srt P n) (v := (P n).toInt) n
    have e : (Int32.ofNat n).toInt = (n : Int) := ci_len rfl (by omega)
    show 0 ≤ (if j = insA P (srt P n) (P n).toInt n then Int32.ofNat n else if insA P (srt P n) (P n).toInt n < j ∧ j ≤ n then srt P n (j - 1) else srt P n j).toInt ∧ (if j = insA P (srt P n) (P n).toInt n then Int32.ofNat n else if insA P (srt P n) (P n).toInt n < j ∧ j ≤ n then srt P n (j - 1) else srt P n j).toInt < ((n + 1 : Nat) : Int)
    by_cases c : j = insA P (srt P n) (P n).toInt n
    · rw [if_pos c]; omega
    · rw [if_neg c]
      by_cases c2 : insA P (srt P n) (P n).toInt n < j ∧ j ≤ n
      · rw [if_pos c2]
        have := ih (j - 1) (by omega)
        omega
      · rw [if_neg c2]
        have := ih j (by omega)
        omega
theorem insA_congr {P P' f : Nat → Int32} {v : Int} {n : Nat} (h : ∀ q : Nat, q < n → P q = P' q) : ∀ k : Nat, (∀ j : Nat, j < k → (f j).toNatClampNeg < n) → insA P f v k = insA P' f v k
  | 0, _ => rfl
  | k + 1, hf => by
    show (if v < (P (f k).toNatClampNeg).toInt then insA P f v k else k + 1) = (if v < (P' (f k).toNatClampNeg).toInt then insA P' f v k else k + 1)
    rw [h _ (hf k (by omega)), insA_congr h k (fun j hj => hf j (by omega))]
theorem srt_in {P : Nat → Int32} {n : Nat} (hn : n ≤ 40) {j : Nat} (h : j < n) : (srt P n j).toNatClampNeg < n := by
  have h1 := srt_lt (P := P) n hn j h
  have h2 := ci_clamp (i := srt P n j) h1.1
  omega
theorem srt_congr {P P' : Nat → Int32} : ∀ n : Nat, n ≤ 40 → (∀ q : Nat, q < n → P q = P' q) → srt P n = srt P' n
  | 0, _, _ => rfl
  | n + 1, hn, h => by
    have e := srt_congr (P := P) (P' := P') n (by omega) (fun q hq => h q (by omega))
    show insF (srt P n) n (insA P (srt P n) (P n).toInt n) (Int32.ofNat n) = insF (srt P' n) n (insA P' (srt P' n) (P' n).toInt n) (Int32.ofNat n)
    rw [← e, h n (by omega), insA_congr (P := P) (P' := P') (n := n) (fun q hq => h q (by omega)) n (fun j hj => srt_in (by omega) hj)]
/-- a hole more among those kept in order -/
def addB (P f : Nat → Int32) (n v : Int32) : Nat → Int32 := if n.toInt < 40 then insF f n.toNatClampNeg (insA P f v.toInt n.toNatClampNeg) n else f
def hoB (a b m n : Int32) (P f : Nat → Int32) : Nat → Int32 := if 0 ≤ a.toInt ∧ a.toInt < m.toInt ∧ 0 ≤ b.toInt ∧ b.toInt ≤ 999 then addB P f n b else f
theorem hoB_ok {a b m n : Int32} {P f : Nat → Int32} (h : 0 ≤ a.toInt ∧ a.toInt < m.toInt ∧ 0 ≤ b.toInt ∧ b.toInt ≤ 999) : hoB a b m n P f = addB P f n b := if_pos h
theorem hoB_no {a b m n : Int32} {P f : Nat → Int32} (h : ¬ (0 ≤ a.toInt ∧ a.toInt < m.toInt ∧ 0 ≤ b.toInt ∧ b.toInt ≤ 999)) : hoB a b m n P f = f := if_neg h
theorem bp_hole {a b m n n' : Int32} {P f : Nat → Int32} (h : f = srt P n.toInt.toNat) (h0 : 0 ≤ n.toInt) (h40 : n.toInt ≤ 40) (hn : (¬ (0 ≤ a.toInt ∧ a.toInt < m.toInt ∧ 0 ≤ b.toInt ∧ b.toInt ≤ 999) ∧ n'.toInt = n.toInt) ∨ ((0 ≤ a.toInt ∧ a.toInt < m.toInt ∧ 0 ≤ b.toInt ∧ b.toInt ≤ 999) ∧ n.toInt = 40 ∧ n'.toInt = n.toInt) ∨ ((0 ≤ a.toInt ∧ a.toInt < m.toInt ∧ 0 ≤ b.toInt ∧ b.toInt ≤ 999) ∧ n.toInt < 40 ∧ n'.toInt = n.toInt + 1)) : hoB a b m n P f = srt (holeF a b m n P b) n'.toInt.toNat := by
  rcases hn with ⟨h1, h2⟩ | ⟨h1, h2, h3⟩ | ⟨h1, h2, h3⟩
  · rw [hoB_no h1, holeF_no h1, h2, h]
  · rw [hoB_ok h1, holeF_ok h1, addF_no (by omega), h3, h]
    show (if n.toInt < 40 then _ else _) = _
    rw [if_neg (by omega)]
  · have e1 : n'.toInt.toNat = n.toInt.toNat + 1 := by omega
    have e2 : n.toNatClampNeg = n.toInt.toNat := rfl
    rw [hoB_ok h1, holeF_ok h1, addF_ok h2, e1]
    have hP : ∀ q : Nat, q < n.toInt.toNat → P q = upd P n.toNatClampNeg b q := fun q hq => by
      show P q = if q = n.toNatClampNeg then b else P q
      rw [if_neg (by omega)]
    have es := srt_congr (P := P) (P' := upd P n.toNatClampNeg b) n.toInt.toNat (by omega) hP
    have eb : upd P n.toNatClampNeg b n.toInt.toNat = b := by
      show (if n.toInt.toNat = n.toNatClampNeg then b else P n.toInt.toNat) = b
      rw [if_pos e2.symm]
    have ei : insA P (srt P n.toInt.toNat) b.toInt n.toInt.toNat = insA (upd P n.toNatClampNeg b) (srt P n.toInt.toNat) b.toInt n.toInt.toNat := insA_congr (n := n.toInt.toNat) hP n.toInt.toNat (fun j hj => srt_in (by omega) hj)
    show (if n.toInt < 40 then insF f n.toNatClampNeg (insA P f b.toInt n.toNatClampNeg) n else f) = insF (srt (upd P n.toNatClampNeg b) n.toInt.toNat) n.toInt.toNat (insA (upd P n.toNatClampNeg b) (srt (upd P n.toNatClampNeg b) n.toInt.toNat) (upd P n.toNatClampNeg b n.toInt.toNat).toInt n.toInt.toNat) (Int32.ofNat n.toInt.toNat)
    rw [if_pos h2, ← es, eb, ofNat_of h0, ← ei, e2, ← h]
theorem sc_hole {a b m n n' : Int32} {S : Nat → Int32} (h : ∀ j : Nat, (j : Int) < n.toInt → (S j).toInt < m.toInt) (h0 : 0 ≤ n.toInt) (hn : (¬ (0 ≤ a.toInt ∧ a.toInt < m.toInt ∧ 0 ≤ b.toInt ∧ b.toInt ≤ 999) ∧ n'.toInt = n.toInt) ∨ ((0 ≤ a.toInt ∧ a.toInt < m.toInt ∧ 0 ≤ b.toInt ∧ b.toInt ≤ 999) ∧ n.toInt = 40 ∧ n'.toInt = n.toInt) ∨ ((0 ≤ a.toInt ∧ a.toInt < m.toInt ∧ 0 ≤ b.toInt ∧ b.toInt ≤ 999) ∧ n.toInt < 40 ∧ n'.toInt = n.toInt + 1)) : ∀ j : Nat, (j : Int) < n'.toInt → (holeF a b m n S a j).toInt < m.toInt := by
  intro j hj
  rcases hn with ⟨h1, h2⟩ | ⟨h1, h2, h3⟩ | ⟨h1, h2, h3⟩
  · rw [holeF_no h1]; exact h j (by omega)
  · rw [holeF_ok h1, addF_no (by omega)]; exact h j (by omega)
  · rw [holeF_ok h1, addF_ok h2]
    have := ci_clamp (i := n) h0
    show (if j = n.toNatClampNeg then a else S j).toInt < m.toInt
    by_cases c : j = n.toNatClampNeg
    · rw [if_pos c]; omega
    · rw [if_neg c]; exact h j (by omega)
theorem sb_of {P S f : Nat → Int32} {n m : Int32} (h : f = srt P n.toInt.toNat) (h2 : ∀ j : Nat, (j : Int) < n.toInt → (S j).toInt < m.toInt) (h40 : n.toInt ≤ 40) : ∀ j : Nat, (j : Int) < n.toInt → (S (f j).toNatClampNeg).toInt < m.toInt := by
  intro j hj
  have := srt_in (P := P) (n := n.toInt.toNat) (by omega) (j := j) (by omega)
  rw [← h] at this
  exact h2 _ (by omega)
def bitW (x : Int32) : Int32 := (1 : Int32) <<< (x &&& 31)
def allB (c : Int32) : Int32 := ((1 : Int32) <<< (c &&& 31)) - 1
theorem all_tab : ∀ c : Nat, c < 9 → ∀ x : Nat, x < 8 → x < c → (allB (nI c) &&& bitW (nI x)).toInt ≠ 0 := by decide +kernel
theorem all_bit {c x : Int32} (h0 : 0 ≤ x.toInt) (h1 : x.toInt < c.toInt) (h2 : c.toInt ≤ 8) : (allB c &&& bitW x).toInt ≠ 0 := by
  have e1 : c = nI c.toInt.toNat := ci_inj (by rw [nI_toInt (by omega)]; omega)
  have e2 : x = nI x.toInt.toNat := ci_inj (by rw [nI_toInt (by omega)]; omega)
  rw [e1, e2]
  exact all_tab _ (by omega) _ (by omega) (by omega)
def newW (s S P : Nat → Int32) (sl : Int) (k w : Nat) (g : Nat → Int32) : Bool := decide (k = 0) || (decide (sl < (P (s k).toNatClampNeg).toInt - (P (s (k - 1)).toNatClampNeg).toInt) || decide ((g (w - 1) &&& bitW (S (s k).toNatClampNeg)).toInt ≠ 0))
theorem newW_iff {s S P : Nat → Int32} {sl : Int} {k w : Nat} {g : Nat → Int32} : newW s S P sl k w g = true ↔ (k = 0 ∨ sl < (P (s k).toNatClampNeg).toInt - (P (s (k - 1)).toNatClampNeg).toInt ∨ (g (w - 1) &&& bitW (S (s k).toNatClampNeg)).toInt ≠ 0) := by
  unfold newW
  rw [Bool.or_eq_true, Bool.or_eq_true, decide_eq_true_eq, decide_eq_true_eq, decide_eq_true_eq]
/-- worms after k holes: how many, their sheets, of which worm each hole is -/
def wst (s S P : Nat → Int32) (sl : Int) : Nat → Nat × (Nat → Int32) × (Nat → Int32)
  | 0 => (0, fun _ => 0, fun _ => 0)
  | k + 1 => if newW s S P sl k (wst s S P sl k).1 (wst s S P sl k).2.1 = true then ((wst s S P sl k).1 + 1, upd (wst s S P sl k).2.1 (wst s S P sl k).1 (0 ||| bitW (S (s k).toNatClampNeg)), upd (wst s S P sl k).2.2 (s k).toNatClampNeg (Int32.ofNat (wst s S P sl k).1)) else ((wst s S P sl k).1, upd (wst s S P sl k).2.1 ((wst s S P sl k).1 - 1) ((wst s S P sl k).2.1 ((wst s S P sl k).1 - 1) ||| bitW (S (s k).toNatClampNeg)), upd (wst s S P sl k).2.2 (s k).toNatClampNeg (Int32.ofNat ((wst s S P sl k).1 - 1)))
theorem wst_congr {s s' S P : Nat → Int32} {sl : Int} : ∀ n : Nat, (∀ j : Nat, j < n → s j = s' j) → wst s S P sl n = wst s' S P sl n
  | 0, _ => rfl
  | n + 1, h => by
    have e := wst_congr (s := s) (s' := s') (S := S) (P := P) (sl := sl) n (fun j hj => h j (by omega))
    have e2 : newW s S P sl n (wst s S P sl n).1 (wst s S P sl n).2.1 = newW s' S P sl n (wst s' S P sl n).1 (wst s' S P sl n).2.1 := by
      unfold newW
      rw [← e, h n (by omega), h (n - 1) (by omega)]
    show (if newW s S P sl n (wst s S P sl n).1 (wst s S P sl n).2.1 = true then _ else _) = (if newW s' S P sl n (wst s' S P sl n).1 (wst s' S P sl n).2.1 = true then _ else _)
    rw [e2, ← e, h n (by omega)]
def WInv (s S P : Nat → Int32) (sl : Int) (k : Nat) (w : Int32) (g o : Nat → Int32) : Prop := w.toInt = (((wst s S P sl k).1 : Nat) : Int) ∧ (wst s S P sl k).1 ≤ k ∧ (0 < k → 0 < (wst s S P sl k).1) ∧ (∀ j : Nat, j < (wst s S P sl k).1 → g j = (wst s S P sl k).2.1 j) ∧ (∀ i : Nat, i < k → o (s i).toNatClampNeg = (wst s S P sl k).2.2 (s i).toNatClampNeg)
theorem wi_zero {s S P : Nat → Int32} {sl : Int} {w : Int32} {g o : Nat → Int32} (h : w.toInt = 0) : WInv s S P sl 0 w g o := ⟨h, Nat.le_refl 0, fun h => absurd h (Nat.lt_irrefl 0), fun j hj => absurd hj (Nat.not_lt_zero j), fun i hi => absurd hi (Nat.not_lt_zero i)⟩
theorem wi_new {s S P : Nat → Int32} {sl : Int} {k k' w w' i z y b v : Int32} {g g' o o' : Nat → Int32} {q : Nat} (h : WInv s S P sl k.toInt.toNat w g o) (h0 : 0 ≤ k.toInt) (hk : k'.toInt = k.toInt + 1) (hk40 : k.toInt < 40)
    (hn : k.toInt = 0 ∨ sl < (P (s k.toNatClampNeg).toNatClampNeg).toInt - (P (s (k.toInt - 1).toNat).toNatClampNeg).toInt ∨ (0 < k.toInt ∧ (g (w.toInt - 1).toNat &&& b).toInt ≠ 0))
    (hw : w'.toInt = w.toInt + 1) (hg : g' = upd (upd g w.toNatClampNeg 0) i.toNatClampNeg z) (hi : i.toInt = w.toInt) (hy : y = upd g w.toNatClampNeg 0 i.toNatClampNeg) (hz : z = y ||| b) (hb : b = bitW (S (s k.toNatClampNeg).toNatClampNeg)) (ho : o' = upd o q v) (hq : q = (s k.toNatClampNeg).toNatClampNeg) (hv : v.toInt = w.toInt) : WInv s S P sl k'.toInt.toNat w' g' o' := by
  obtain ⟨h1, h2, h3, h4, h5⟩ := h
  have e1 : k'.toInt.toNat = k.toInt.toNat + 1 := by omega
  have e2 : k.toNatClampNeg = k.toInt.toNat := rfl
  have e3 : w.toNatClampNeg = (wst s S P sl k.toInt.toNat).1 := by have : w.toNatClampNeg = w.toInt.toNat := rfl; omega
  have e4 : i.toNatClampNeg = (wst s S P sl k.toInt.toNat).1 := by have : i.toNatClampNeg = i.toInt.toNat := rfl; omega
  have e5 : v = Int32.ofNat (wst s S P sl k.toInt.toNat).1 := by rw [← e3]; exact (show v = w from ci_inj hv) ▸ (ofNat_of (by omega)).symm
  rw [e2] at hn hb hq
  have hN : newW s S P sl k.toInt.toNat (wst s S P sl k.toInt.toNat).1 (wst s S P sl k.toInt.toNat).2.1 = true := by
    rw [newW_iff]
    rcases hn with hn | hn | ⟨hp, hn⟩
    · exact Or.inl (by omega)
    · rw [show (k.toInt - 1).toNat = k.toInt.toNat - 1 by omega] at hn
      exact Or.inr (Or.inl hn)
    · have hp2 := h3 (by omega)
      rw [show (w.toInt - 1).toNat = (wst s S P sl k.toInt.toNat).1 - 1 by omega, h4 _ (by omega), hb] at hn
      exact Or.inr (Or.inr hn)
  have hW : wst s S P sl (k.toInt.toNat + 1) = ((wst s S P sl k.toInt.toNat).1 + 1, upd (wst s S P sl k.toInt.toNat).2.1 (wst s S P sl k.toInt.toNat).1 (0 ||| bitW (S (s k.toInt.toNat).toNatClampNeg)), upd (wst s S P sl k.toInt.toNat).2.2 (s k.toInt.toNat).toNatClampNeg (Int32.ofNat (wst s S P sl k.toInt.toNat).1)) := if_pos hN
  have hy0 : y = 0 := by
    rw [hy, e3, e4]
    show (if _ = _ then (0 : Int32) else _) = 0
    rw [if_pos rfl]
  rw [e1]
  unfold WInv
  rw [hW]
  refine ⟨by show w'.toInt = (((wst s S P sl k.toInt.toNat).1 + 1 : Nat) : Int); omega, by show (wst s S P sl k.toInt.toNat).1 + 1 ≤ _; omega, fun _ => Nat.succ_pos _, fun j hj => ?_, fun j hj => ?_⟩
  · have hj : j < (wst s S P sl k.toInt.toNat).1 + 1 := hj
    rw [hg, e3, e4, hz, hy0, hb]
    show (if j = (wst s S P sl k.toInt.toNat).1 then _ else (if j = (wst s S P sl k.toInt.toNat).1 then (0 : Int32) else g j)) = (if j = (wst s S P sl k.toInt.toNat).1 then _ else (wst s S P sl k.toInt.toNat).2.1 j)
    by_cases c : j = (wst s S P sl k.toInt.toNat).1
    · rw [if_pos c, if_pos c]
    · rw [if_neg c, if_neg c, if_neg c]; exact h4 j (by omega)
  · rw [ho, hq, e5]
    show (if (s j).toNatClampNeg = (s k.toInt.toNat).toNatClampNeg then _ else o (s j).toNatClampNeg) = (if (s j).toNatClampNeg = (s k.toInt.toNat).toNatClampNeg then _ else (wst s S P sl k.toInt.toNat).2.2 (s j).toNatClampNeg)
    by_cases c : (s j).toNatClampNeg = (s k.toInt.toNat).toNatClampNeg
    · rw [if_pos c, if_pos c]
    · rw [if_neg c, if_neg c]
      by_cases c2 : j = k.toInt.toNat
      · exact absurd (by rw [c2]) c
      · exact h5 j (by omega)
theorem wi_old {s S P : Nat → Int32} {sl : Int} {k k' w w' i z y b v : Int32} {g g' o o' : Nat → Int32} {q : Nat} (h : WInv s S P sl k.toInt.toNat w g o) (h0 : 0 < k.toInt) (hk : k'.toInt = k.toInt + 1) (hk40 : k.toInt < 40)
    (hn : ¬ (sl < (P (s k.toNatClampNeg).toNatClampNeg).toInt - (P (s (k.toInt - 1).toNat).toNatClampNeg).toInt)) (hn2 : (g (w.toInt - 1).toNat &&& b).toInt = 0)
    (hw : w'.toInt = w.toInt) (hg : g' = upd g i.toNatClampNeg z) (hi : i.toInt = w.toInt - 1) (hy : y = g i.toNatClampNeg) (hz : z = y ||| b) (hb : b = bitW (S (s k.toNatClampNeg).toNatClampNeg)) (ho : o' = upd o q v) (hq : q = (s k.toNatClampNeg).toNatClampNeg) (hv : v.toInt = w.toInt - 1) : WInv s S P sl k'.toInt.toNat w' g' o' := by
  obtain ⟨h1, h2, h3, h4, h5⟩ := h
  have hp := h3 (by omega)
  have e1 : k'.toInt.toNat = k.toInt.toNat + 1 := by omega
  have e2 : k.toNatClampNeg = k.toInt.toNat := rfl
  have e4 : i.toNatClampNeg = (wst s S P sl k.toInt.toNat).1 - 1 := by have : i.toNatClampNeg = i.toInt.toNat := rfl; omega
  have e5 : v = Int32.ofNat ((wst s S P sl k.toInt.toNat).1 - 1) := by rw [← e4]; exact (show v = i from ci_inj (by omega)) ▸ (ofNat_of (by omega)).symm
  have e6 : (w.toInt - 1).toNat = (wst s S P sl k.toInt.toNat).1 - 1 := by omega
  rw [e2] at hn hb hq
  have hN : ¬ newW s S P sl k.toInt.toNat (wst s S P sl k.toInt.toNat).1 (wst s S P sl k.toInt.toNat).2.1 = true := by
    rw [newW_iff]
    intro z9
    rcases z9 with z9 | z9 | z9
    · omega
    · rw [show (k.toInt - 1).toNat = k.toInt.toNat - 1 by omega] at hn
      exact hn z9
    · rw [e6, h4 _ (by omega), hb] at hn2
      exact z9 hn2
  have hW : wst s S P sl (k.toInt.toNat + 1) = ((wst s S P sl k.toInt.toNat).1, upd (wst s S P sl k.toInt.toNat).2.1 ((wst s S P sl k.toInt.toNat).1 - 1) ((wst s S P sl k.toInt.toNat).2.1 ((wst s S P sl k.toInt.toNat).1 - 1) ||| bitW (S (s k.toInt.toNat).toNatClampNeg)), upd (wst s S P sl k.toInt.toNat).2.2 (s k.toInt.toNat).toNatClampNeg (Int32.ofNat ((wst s S P sl k.toInt.toNat).1 - 1))) := if_neg hN
  rw [e1]
  unfold WInv
  rw [hW]
  refine ⟨by show w'.toInt = (((wst s S P sl k.toInt.toNat).1 : Nat) : Int); omega, by show (wst s S P sl k.toInt.toNat).1 ≤ _; omega, fun _ => hp, fun j hj => ?_, fun j hj => ?_⟩
  · have hj : j < (wst s S P sl k.toInt.toNat).1 := hj
    rw [hg, hz, hy, e4, hb, h4 _ (show (wst s S P sl k.toInt.toNat).1 - 1 < (wst s S P sl k.toInt.toNat).1 by omega)]
    show (if j = (wst s S P sl k.toInt.toNat).1 - 1 then _ else g j) = (if j = (wst s S P sl k.toInt.toNat).1 - 1 then _ else (wst s S P sl k.toInt.toNat).2.1 j)
    by_cases c : j = (wst s S P sl k.toInt.toNat).1 - 1
    · rw [if_pos c, if_pos c]
    · rw [if_neg c, if_neg c]; exact h4 j hj
  · rw [ho, hq, e5]
    show (if (s j).toNatClampNeg = (s k.toInt.toNat).toNatClampNeg then _ else o (s j).toNatClampNeg) = (if (s j).toNatClampNeg = (s k.toInt.toNat).toNatClampNeg then _ else (wst s S P sl k.toInt.toNat).2.2 (s j).toNatClampNeg)
    by_cases c : (s j).toNatClampNeg = (s k.toInt.toNat).toNatClampNeg
    · rw [if_pos c, if_pos c]
    · rw [if_neg c, if_neg c]
      by_cases c2 : j = k.toInt.toNat
      · exact absurd (by rw [c2]) c
      · exact h5 j (by omega)
/-- every hole stands somewhere in the order -/
theorem srt_all {P : Nat → Int32} : ∀ n : Nat, n ≤ 40 → ∀ q : Nat, q < n → ∃ j : Nat, j < n ∧ (srt P n j).toNatClampNeg = q
  | 0, _, q, h => absurd h (Nat.not_lt_zero q)
  | n + 1, hn, q, h => by
    have ha := insA_le (P := P) (f := srt P n) (v := (P n).toInt) n
    have e : (Int32.ofNat n).toInt = (n : Int) := ci_len rfl (by omega)
    have ec := ci_clamp (i := Int32.ofNat n) (by omega)
    have ev : ∀ j : Nat, srt P (n + 1) j = if j = insA P (srt P n) (P n).toInt n then Int32.ofNat n else if insA P (srt P n) (P n).toInt n < j ∧ j ≤ n then srt P n (j - 1) else srt P n j := fun j => rfl
    by_cases c : q = n
    · refine ⟨insA P (srt P n) (P n).toInt n, by omega, ?_⟩
      rw [ev, if_pos rfl]; omega
    · obtain ⟨j, hj, he⟩ := srt_all (P := P) n (by omega) q (by omega)
      by_cases c2 : j < insA P (srt P n) (P n).toInt n
      · refine ⟨j, by omega, ?_⟩
        rw [ev, if_neg (by omega), if_neg (by omega)]; exact he
      · refine ⟨j + 1, by omega, ?_⟩
        rw [ev, if_neg (by omega), if_pos (by omega)]; exact he

theorem addB_ok {P f : Nat → Int32} {n v : Int32} (h : n.toInt < 40) : addB P f n v = insF f n.toNatClampNeg (insA P f v.toInt n.toNatClampNeg) n := if_pos h
theorem addB_no {P f : Nat → Int32} {n v : Int32} (h : ¬ n.toInt < 40) : addB P f n v = f := if_neg h
/-- f with the places above a, up to n, moved one on -/
def shF (f : Nat → Int32) (n a : Nat) : Nat → Int32 := fun j => if a < j ∧ j ≤ n then f (j - 1) else f j
theorem shF_self {f : Nat → Int32} {n a : Nat} (h : n ≤ a) : f = shF f n a := by
  funext j
  show f j = if a < j ∧ j ≤ n then f (j - 1) else f j
  rw [if_neg (by omega)]
theorem ld_at {g : Nat → Int32} {i k z : Int32} (e : z = g i.toNatClampNeg) (h : i.toInt = k.toInt - 1) (h0 : 0 < k.toInt) : z = g (k.toInt - 1).toNat := by
  have := ci_clamp (i := i) (by omega)
  rw [e]
  exact congrArg g (by omega)
theorem sh_step {f g g' : Nat → Int32} {n : Nat} {k k' z : Int32} (h : g = shF f n k.toInt.toNat) (h0 : 0 < k.toInt) (hk : k.toInt ≤ (n : Int)) (h1 : k'.toInt = k.toInt - 1) (hz : z = g (k.toInt - 1).toNat) (hg : g' = upd g k.toNatClampNeg z) : g' = shF f n k'.toInt.toNat := by
  have e1 : k.toNatClampNeg = k'.toInt.toNat + 1 := by have := ci_clamp (i := k) (by omega); omega
  have e2 : (k.toInt - 1).toNat = k'.toInt.toNat := by omega
  have e3 : k.toInt.toNat = k'.toInt.toNat + 1 := by omega
  rw [e3] at h
  rw [hg, hz, e1, e2, h]
  funext j
  show (if j = k'.toInt.toNat + 1 then (if k'.toInt.toNat + 1 < k'.toInt.toNat ∧ k'.toInt.toNat ≤ n then f (k'.toInt.toNat - 1) else f k'.toInt.toNat) else (if k'.toInt.toNat + 1 < j ∧ j ≤ n then f (j - 1) else f j)) = (if k'.toInt.toNat < j ∧ j ≤ n then f (j - 1) else f j)
  by_cases c : j = k'.toInt.toNat + 1
  · rw [if_pos c, if_neg (by omega), if_pos (by omega), c, Nat.add_sub_cancel]
  · rw [if_neg c]
    by_cases c2 : k'.toInt.toNat < j ∧ j ≤ n
    · rw [if_pos c2, if_pos (by omega)]
    · rw [if_neg c2, if_neg (by omega)]
theorem ins_go {P f g : Nat → Int32} {v : Int} {n : Nat} {k k' : Int32} (h : insA P f v n = insA P f v k.toInt.toNat) (hg : g = shF f n k.toInt.toNat) (h0 : 0 < k.toInt) (hb : v < (P (g (k.toInt - 1).toNat).toNatClampNeg).toInt) (h1 : k'.toInt = k.toInt - 1) : insA P f v n = insA P f v k'.toInt.toNat := by
  have e3 : k.toInt.toNat = k'.toInt.toNat + 1 := by omega
  have eg : g (k.toInt - 1).toNat = f k'.toInt.toNat := by
    rw [hg, e3, show (k.toInt - 1).toNat = k'.toInt.toNat by omega]
    exact if_neg (by omega)
  rw [eg] at hb
  rw [h, e3]
  exact if_pos hb
theorem ins_end0 {P f : Nat → Int32} {v : Int} {n : Nat} {k : Int32} (h : insA P f v n = insA P f v k.toInt.toNat) (h0 : k.toInt ≤ 0) : insA P f v n = k.toNatClampNeg := by
  have e : k.toInt.toNat = 0 := by omega
  have e2 : k.toNatClampNeg = k.toInt.toNat := rfl
  rw [h, e2, e]; rfl
theorem ins_end {P f g : Nat → Int32} {v : Int} {n : Nat} {k : Int32} (h : insA P f v n = insA P f v k.toInt.toNat) (hg : g = shF f n k.toInt.toNat) (h0 : 0 < k.toInt) (hb : ¬ v < (P (g (k.toInt - 1).toNat).toNatClampNeg).toInt) : insA P f v n = k.toNatClampNeg := by
  obtain ⟨q, hq⟩ : ∃ q : Nat, k.toInt.toNat = q + 1 := ⟨k.toInt.toNat - 1, by omega⟩
  have e2 : k.toNatClampNeg = k.toInt.toNat := rfl
  have eg : g (k.toInt - 1).toNat = f q := by
    rw [hg, hq, show (k.toInt - 1).toNat = q by omega]
    exact if_neg (by omega)
  rw [eg] at hb
  rw [h, e2, hq]
  exact if_neg hb
theorem ins_put {f g : Nat → Int32} {n a : Nat} {k h : Int32} (hA : a = k.toNatClampNeg) (hg : g = shF f n k.toInt.toNat) : upd g k.toNatClampNeg h = insF f n a h := by
  have e2 : k.toNatClampNeg = k.toInt.toNat := rfl
  rw [hA, hg, e2]; rfl

theorem wi_start {s S P : Nat → Int32} {sl : Int} {k w : Int32} {g o : Nat → Int32} (hk : k.toInt = 0) (h : w.toInt = 0) : WInv s S P sl k.toInt.toNat w g o := by
  rw [hk]; exact wi_zero h
theorem wi_congr {s s' S P : Nat → Int32} {sl : Int} {n : Nat} {w : Int32} {g o : Nat → Int32} (h : WInv s S P sl n w g o) (e : ∀ j : Nat, j < n → s j = s' j) : WInv s' S P sl n w g o := by
  unfold WInv at h ⊢
  rw [← wst_congr (S := S) (P := P) (sl := sl) n e]
  exact ⟨h.1, h.2.1, h.2.2.1, h.2.2.2.1, fun i hi => by rw [← e i hi]; exact h.2.2.2.2 i hi⟩
theorem ta_next {s : Nat → Int32} {k k' h : Int32} (e : h = s k.toNatClampNeg) (h1 : k'.toInt = k.toInt + 1) : h = s (k'.toInt - 1).toNat := by
  have e2 : k.toNatClampNeg = k.toInt.toNat := rfl
  rw [e, e2]
  exact congrArg s (by omega)
theorem insA_congr2 {P f f' : Nat → Int32} {v : Int} : ∀ k : Nat, (∀ j : Nat, j < k → f j = f' j) → insA P f v k = insA P f' v k
  | 0, _ => rfl
  | k + 1, h => by
    show (if v < (P (f k).toNatClampNeg).toInt then insA P f v k else k + 1) = (if v < (P (f' k).toNatClampNeg).toInt then insA P f' v k else k + 1)
    rw [h k (by omega), insA_congr2 k (fun j hj => h j (by omega))]
theorem srt_next {P f g : Nat → Int32} {k k' : Int32} {a : Nat} (h : ∀ j : Nat, (j : Int) < k.toInt → f j = srt P k.toInt.toNat j) (h0 : 0 ≤ k.toInt) (h1 : k'.toInt = k.toInt + 1) (ha : a = insA P f (P k.toNatClampNeg).toInt k.toInt.toNat) (hg : g = insF f k.toInt.toNat a k) : ∀ j : Nat, (j : Int) < k'.toInt → g j = srt P k'.toInt.toNat j := by
  intro j hj
  have e2 : k.toNatClampNeg = k.toInt.toNat := rfl
  have e1 : k'.toInt.toNat = k.toInt.toNat + 1 := by omega
  have ea : a = insA P (srt P k.toInt.toNat) (P k.toInt.toNat).toInt k.toInt.toNat := by
    rw [ha, e2]; exact insA_congr2 _ (fun j hj => h j (by omega))
  have hl := insA_le (P := P) (f := srt P k.toInt.toNat) (v := (P k.toInt.toNat).toInt) k.toInt.toNat
  rw [hg, e1, ea]
  show (if j = insA P (srt P k.toInt.toNat) (P k.toInt.toNat).toInt k.toInt.toNat then k else if insA P (srt P k.toInt.toNat) (P k.toInt.toNat).toInt k.toInt.toNat < j ∧ j ≤ k.toInt.toNat then f (j - 1) else f j) = (if j = insA P (srt P k.toInt.toNat) (P k.toInt.toNat).toInt k.toInt.toNat then Int32.ofNat k.toInt.toNat else if insA P (srt P k.toInt.toNat) (P k.toInt.toNat).toInt k.toInt.toNat < j ∧ j ≤ k.toInt.toNat then srt P k.toInt.toNat (j - 1) else srt P k.toInt.toNat j)
  by_cases c : j = insA P (srt P k.toInt.toNat) (P k.toInt.toNat).toInt k.toInt.toNat
  · rw [if_pos c, if_pos c]; exact (ofNat_of h0).symm
  · rw [if_neg c, if_neg c]
    by_cases c2 : insA P (srt P k.toInt.toNat) (P k.toInt.toNat).toInt k.toInt.toNat < j ∧ j ≤ k.toInt.toNat
    · rw [if_pos c2, if_pos c2]; exact h (j - 1) (by omega)
    · rw [if_neg c2, if_neg c2]; exact h j (by omega)
theorem srt_next2 {P f g : Nat → Int32} {k k' : Int32} {n : Nat} (h : ∀ j : Nat, (j : Int) < k.toInt → f j = srt P k.toInt.toNat j) (h0 : 0 ≤ k.toInt) (h1 : k'.toInt = k.toInt + 1) (hn : n = k.toInt.toNat) (hg : g = insF f n (insA P f (P k.toNatClampNeg).toInt n) k) : ∀ j : Nat, (j : Int) < k'.toInt → g j = srt P k'.toInt.toNat j := by
  subst hn; exact srt_next h h0 h1 rfl hg
theorem ld_if {g : Nat → Int32} {i k z : Int32} (e : z = g i.toNatClampNeg) (h : i.toInt = k.toInt - 1) (h0 : 0 < k.toInt) : z = g (k.toInt - 1).toNat := ld_at e h h0
/-- worms(sl, w) and led(hole, sl), out of the holes alone -/
def wormsR (S P : Nat → Int32) (n : Nat) (sl w : Int) : Int := if w = -1 then (((wst (srt P n) S P sl n).1 : Nat) : Int) else if w < (((wst (srt P n) S P sl n).1 : Nat) : Int) then ((wst (srt P n) S P sl n).2.1 w.toNat).toInt else -1
def ledR (S P : Nat → Int32) (n : Nat) (sl : Int) (h : Nat) : Int := ((wst (srt P n) S P sl n).2.2 h).toInt
theorem led_of {S P : Nat → Int32} {n : Nat} {sl : Int} {w : Int32} {g o : Nat → Int32} {h : Nat} (hW : WInv (srt P n) S P sl n w g o) (hn : n ≤ 40) (hh : h < n) : (o h).toInt = ledR S P n sl h := by
  obtain ⟨j, hj, he⟩ := srt_all (P := P) n hn h hh
  unfold WInv at hW
  have := hW.2.2.2.2 j hj
  rw [he] at this
  unfold ledR
  rw [this]
theorem worms_of {S P : Nat → Int32} {n : Nat} {sl : Int} {w : Int32} {g o : Nat → Int32} (hW : WInv (srt P n) S P sl n w g o) : (∀ v : Int, v = -1 → w.toInt = wormsR S P n sl v) ∧ (∀ v : Int32, 0 ≤ v.toInt → v.toInt < w.toInt → (g v.toNatClampNeg).toInt = wormsR S P n sl v.toInt) ∧ (∀ v : Int, 0 ≤ v → w.toInt ≤ v → -1 = wormsR S P n sl v) := by
  unfold WInv at hW
  obtain ⟨h1, _, _, h4, _⟩ := hW
  unfold wormsR
  refine ⟨fun v hv => ?_, fun v h0 hl => ?_, fun v h0 hl => ?_⟩
  · rw [if_pos hv]; exact h1
  · rw [if_neg (by omega), if_pos (by omega)]
    have e2 : v.toNatClampNeg = v.toInt.toNat := rfl
    rw [e2, h4 _ (by omega)]
  · rw [if_neg (by omega), if_neg (by omega)]
theorem worms_congr {S S' P P' : Nat → Int32} {n n' : Nat} {sl sl' w w' : Int} (h1 : S = S') (h2 : P = P') (h3 : n = n') (h4 : sl = sl') (h5 : w = w') : wormsR S P n sl w = wormsR S' P' n' sl' w' := by rw [h1, h2, h3, h4, h5]
theorem led_congr {S S' P P' : Nat → Int32} {n n' : Nat} {sl sl' : Int} {h h' : Nat} (h1 : S = S') (h2 : P = P') (h3 : n = n') (h4 : sl = sl') (h5 : h = h') : ledR S P n sl h = ledR S' P' n' sl' h' := by rw [h1, h2, h3, h4, h5]
set_option maxHeartbeats 4000000 in
set_option maxRecDepth 100000 in
theorem k_X11_within (l : Launch) (D : va_G) (κ : Nat → ClassId) (β : Nat) (sz : Nat) (p1 : Int32) (p2 : Int32) (p3 : Int32) : Met l yX11_within wsX11_within ({ frames := 0, cells := 0, slots := 0, locals := 0 } : Room) (PcK D κ β [] sz [.int p1, .int p2, .int p3]) (QiK D (fun (r : Int32) (u : Unit) => (r.toInt = 1 ∧ p2.toInt ≤ p1.toInt ∧ p1.toInt ≤ p3.toInt) ∨ (r.toInt = 0 ∧ (p1.toInt < p2.toInt ∨ p3.toInt < p1.toInt))) (fun (u : Unit) => []) [] sz) 0 0 (va_A [] sz) := by
  refine ofK_z (cc := cX11_within) (maxL := 3) (own := RX11) (by decide) rfl rfl (Nat.le_of_ble_eq_true rfl) ?_
  intro p e s m args below meth c Q A ls hsz hx hb hml hts hown hK hA hAB hP hD hl ret
  have hS : va_S A s.heap s.heap [] := va_S.rf
  have hl : lv_has ls 3 [(0, .int p1), (1, .int p2), (2, .int p3)] := hl
  have l0 : (0 : Int32).toInt = 0 := by decide
  have l1 : (1 : Int32).toInt = 1 := by decide
  refine lv_iload_n hx hb dX11_within_0 rfl (lv_at hl 1 rfl) ?_
  refine lv_iload_n hx hb dX11_within_1 rfl (lv_at hl 0 rfl) ?_
  refine lv_icmp_gt (tgt := 14) hx hb dX11_within_2 (by decide) (fun c1 => ?_) (fun c1 => ?_)
  · have c1 := ci_lt c1
    refine lv_iconst (v := 0) hx hb dX11_within_14 (by decide) ?_
    have hpo : ((0 : Int32).toInt = 1 ∧ p2.toInt ≤ p1.toInt ∧ p1.toInt ≤ p3.toInt) ∨ ((0 : Int32).toInt = 0 ∧ (p1.toInt < p2.toInt ∨ p3.toInt < p1.toInt)) := (by omega)
    exact ret _ _ _ _ 0 () dX11_within_15 (by omega) hpo hP hD hS
  have c1 := ci_nlt c1
  refine lv_iload_n hx hb dX11_within_5 rfl (lv_at hl 0 rfl) ?_
  refine lv_iload_n hx hb dX11_within_6 rfl (lv_at hl 2 rfl) ?_
  refine lv_icmp_gt (tgt := 14) hx hb dX11_within_7 (by decide) (fun c2 => ?_) (fun c2 => ?_)
  · have c2 := ci_lt c2
    refine lv_iconst (v := 0) hx hb dX11_within_14 (by decide) ?_
    have hpo : ((0 : Int32).toInt = 1 ∧ p2.toInt ≤ p1.toInt ∧ p1.toInt ≤ p3.toInt) ∨ ((0 : Int32).toInt = 0 ∧ (p1.toInt < p2.toInt ∨ p3.toInt < p1.toInt)) := (by omega)
    exact ret _ _ _ _ 0 () dX11_within_15 (by omega) hpo hP hD hS
  have c2 := ci_nlt c2
  refine lv_iconst (v := 1) hx hb dX11_within_10 (by decide) ?_
  refine lv_goto (tgt := 15) hx hb dX11_within_11 (by decide) ?_
  have hpo : ((1 : Int32).toInt = 1 ∧ p2.toInt ≤ p1.toInt ∧ p1.toInt ≤ p3.toInt) ∨ ((1 : Int32).toInt = 0 ∧ (p1.toInt < p2.toInt ∨ p3.toInt < p1.toInt)) := (by omega)
  exact ret _ _ _ _ 1 () dX11_within_15 (by omega) hpo hP hD hS
set_option maxHeartbeats 4000000 in
set_option maxRecDepth 100000 in
theorem k_X11_isYear (l : Launch) (D : va_G) (κ : Nat → ClassId) (β : Nat) (sz : Nat) (p1 : Int32) : Met l yX11_isYear wsX11_isYear ({ frames := 1, cells := 0, slots := 0, locals := 22 } : Room) (PcK D κ β [] sz [.int p1]) (QiK D (fun (r : Int32) (u : Unit) => (r.toInt = 1 ∧ 0 ≤ p1.toInt ∧ p1.toInt ≤ 2000) ∨ (r.toInt = 0 ∧ (p1.toInt < 0 ∨ 2000 < p1.toInt))) (fun (u : Unit) => []) [] sz) 0 0 (va_A [] sz) := by
  refine ofK_z (cc := cX11_isYear) (maxL := 1) (own := RX11) (by decide) rfl rfl (Nat.le_of_ble_eq_true rfl) ?_
  intro p e s m args below meth c Q A ls hsz hx hb hml hts hown hK hA hAB hP hD hl ret
  have hS : va_S A s.heap s.heap [] := va_S.rf
  have hl : lv_has ls 1 [(0, .int p1)] := hl
  have l0 : (0 : Int32).toInt = 0 := by decide
  have l1 : (2000 : Int32).toInt = 2000 := by decide
  refine lv_iload_n hx hb dX11_isYear_0 rfl (lv_at hl 0 rfl) ?_
  refine lv_iconst (v := 0) hx hb dX11_isYear_1 (by decide) ?_
  refine lv_sipush (v := 2000) hx hb dX11_isYear_2 (by decide) ?_
  refine kcm_i hA hAB hP hD hS [] rfl (fun _ => rfl) (fun hPc hDc => va_runS (As := [.int p1, .int 0, .int 2000]) (rest := []) ⟨hx, hb, hml, hown, hts⟩ (k_X11_within l D κ β s.heap.size p1 0 2000) (va_cwS 3 hts gX11_isYear_X11_within rfl rfl rfl (by decide +kernel) ⟨Nat.le_of_ble_eq_true rfl, Nat.le_of_ble_eq_true rfl⟩) (pk_S hK hS hAB hPc hDc) rfl rfl hl.1 rfl (lv_room (Nat.le_of_ble_eq_true rfl)) dX11_isYear_5 ⟨Nat.le_of_ble_eq_true rfl, Nat.le_of_ble_eq_true rfl⟩) (fun x1 u2 H locs hw hPD hS => ?_)
  have h3 : (x1.toInt = 1 ∧ (0 : Int32).toInt ≤ p1.toInt ∧ p1.toInt ≤ (2000 : Int32).toInt) ∨ (x1.toInt = 0 ∧ (p1.toInt < (0 : Int32).toInt ∨ (2000 : Int32).toInt < p1.toInt)) := hw
  obtain ⟨hP, hD⟩ : PD D A [] H := hPD
  have hpo : (x1.toInt = 1 ∧ 0 ≤ p1.toInt ∧ p1.toInt ≤ 2000) ∨ (x1.toInt = 0 ∧ (p1.toInt < 0 ∨ 2000 < p1.toInt)) := (by omega)
  exact ret _ _ _ _ x1 () dX11_isYear_8 (by omega) hpo hP hD hS
set_option maxHeartbeats 4000000 in
set_option maxRecDepth 100000 in
theorem k_X11_isSlack (l : Launch) (D : va_G) (κ : Nat → ClassId) (β : Nat) (sz : Nat) (p1 : Int32) : Met l yX11_isSlack wsX11_isSlack ({ frames := 1, cells := 0, slots := 0, locals := 22 } : Room) (PcK D κ β [] sz [.int p1]) (QiK D (fun (r : Int32) (u : Unit) => (r.toInt = 1 ∧ 0 ≤ p1.toInt ∧ p1.toInt ≤ 99) ∨ (r.toInt = 0 ∧ (p1.toInt < 0 ∨ 99 < p1.toInt))) (fun (u : Unit) => []) [] sz) 0 0 (va_A [] sz) := by
  refine ofK_z (cc := cX11_isSlack) (maxL := 1) (own := RX11) (by decide) rfl rfl (Nat.le_of_ble_eq_true rfl) ?_
  intro p e s m args below meth c Q A ls hsz hx hb hml hts hown hK hA hAB hP hD hl ret
  have hS : va_S A s.heap s.heap [] := va_S.rf
  have hl : lv_has ls 1 [(0, .int p1)] := hl
  have l0 : (0 : Int32).toInt = 0 := by decide
  have l1 : (99 : Int32).toInt = 99 := by decide
  refine lv_iload_n hx hb dX11_isSlack_0 rfl (lv_at hl 0 rfl) ?_
  refine lv_iconst (v := 0) hx hb dX11_isSlack_1 (by decide) ?_
  refine lv_bipush (v := 99) hx hb dX11_isSlack_2 (by decide) ?_
  refine kcm_i hA hAB hP hD hS [] rfl (fun _ => rfl) (fun hPc hDc => va_runS (As := [.int p1, .int 0, .int 99]) (rest := []) ⟨hx, hb, hml, hown, hts⟩ (k_X11_within l D κ β s.heap.size p1 0 99) (va_cwS 3 hts gX11_isSlack_X11_within rfl rfl rfl (by decide +kernel) ⟨Nat.le_of_ble_eq_true rfl, Nat.le_of_ble_eq_true rfl⟩) (pk_S hK hS hAB hPc hDc) rfl rfl hl.1 rfl (lv_room (Nat.le_of_ble_eq_true rfl)) dX11_isSlack_4 ⟨Nat.le_of_ble_eq_true rfl, Nat.le_of_ble_eq_true rfl⟩) (fun x1 u2 H locs hw hPD hS => ?_)
  have h3 : (x1.toInt = 1 ∧ (0 : Int32).toInt ≤ p1.toInt ∧ p1.toInt ≤ (99 : Int32).toInt) ∨ (x1.toInt = 0 ∧ (p1.toInt < (0 : Int32).toInt ∨ (99 : Int32).toInt < p1.toInt)) := hw
  obtain ⟨hP, hD⟩ : PD D A [] H := hPD
  have hpo : (x1.toInt = 1 ∧ 0 ≤ p1.toInt ∧ p1.toInt ≤ 99) ∨ (x1.toInt = 0 ∧ (p1.toInt < 0 ∨ 99 < p1.toInt)) := (by omega)
  exact ret _ _ _ _ x1 () dX11_isSlack_7 (by omega) hpo hP hD hS
set_option maxHeartbeats 4000000 in
set_option maxRecDepth 100000 in
theorem k_X11_isBit (l : Launch) (D : va_G) (κ : Nat → ClassId) (β : Nat) (sz : Nat) (p1 : Int32) : Met l yX11_isBit wsX11_isBit ({ frames := 0, cells := 0, slots := 0, locals := 0 } : Room) (PcK D κ β [] sz [.int p1]) (QiK D (fun (r : Int32) (u : Unit) => (r.toInt = 1 ∧ 0 ≤ p1.toInt ∧ p1.toInt ≤ 1) ∨ (r.toInt = 0 ∧ (p1.toInt < 0 ∨ 1 < p1.toInt))) (fun (u : Unit) => []) [] sz) 0 0 (va_A [] sz) := by
  refine ofK_z (cc := cX11_isBit) (maxL := 1) (own := RX11) (by decide) rfl rfl (Nat.le_of_ble_eq_true rfl) ?_
  intro p e s m args below meth c Q A ls hsz hx hb hml hts hown hK hA hAB hP hD hl ret
  have hS : va_S A s.heap s.heap [] := va_S.rf
  have hl : lv_has ls 1 [(0, .int p1)] := hl
  have l0 : (0 : Int32).toInt = 0 := by decide
  have l1 : (1 : Int32).toInt = 1 := by decide
  refine lv_iload_n hx hb dX11_isBit_0 rfl (lv_at hl 0 rfl) ?_
  refine lv_if_eq (tgt := 9) hx hb dX11_isBit_1 (by decide) (fun c1 => ?_) (fun c1 => ?_)
  · have c1 := ci_eq c1
    refine lv_iconst (v := 1) hx hb dX11_isBit_9 (by decide) ?_
    refine lv_goto (tgt := 14) hx hb dX11_isBit_10 (by decide) ?_
    have hpo : ((1 : Int32).toInt = 1 ∧ 0 ≤ p1.toInt ∧ p1.toInt ≤ 1) ∨ ((1 : Int32).toInt = 0 ∧ (p1.toInt < 0 ∨ 1 < p1.toInt)) := (by omega)
    exact ret _ _ _ _ 1 () dX11_isBit_14 (by omega) hpo hP hD hS
  have c1 := ci_ne c1
  refine lv_iload_n hx hb dX11_isBit_4 rfl (lv_at hl 0 rfl) ?_
  refine lv_iconst (v := 1) hx hb dX11_isBit_5 (by decide) ?_
  refine lv_icmp_ne (tgt := 13) hx hb dX11_isBit_6 (by decide) (fun c2 => ?_) (fun c2 => ?_)
  · have c2 := ci_ne c2
    refine lv_iconst (v := 0) hx hb dX11_isBit_13 (by decide) ?_
    have hpo : ((0 : Int32).toInt = 1 ∧ 0 ≤ p1.toInt ∧ p1.toInt ≤ 1) ∨ ((0 : Int32).toInt = 0 ∧ (p1.toInt < 0 ∨ 1 < p1.toInt)) := (by omega)
    exact ret _ _ _ _ 0 () dX11_isBit_14 (by omega) hpo hP hD hS
  have c2 := ci_eq c2
  refine lv_iconst (v := 1) hx hb dX11_isBit_9 (by decide) ?_
  refine lv_goto (tgt := 14) hx hb dX11_isBit_10 (by decide) ?_
  have hpo : ((1 : Int32).toInt = 1 ∧ 0 ≤ p1.toInt ∧ p1.toInt ≤ 1) ∨ ((1 : Int32).toInt = 0 ∧ (p1.toInt < 0 ∨ 1 < p1.toInt)) := (by omega)
  exact ret _ _ _ _ 1 () dX11_isBit_14 (by omega) hpo hP hD hS
set_option maxHeartbeats 4000000 in
set_option maxRecDepth 100000 in
theorem k_X11_asBit (l : Launch) (D : va_G) (κ : Nat → ClassId) (β : Nat) (sz : Nat) (p1 : Int32) : Met l yX11_asBit wsX11_asBit ({ frames := 0, cells := 0, slots := 0, locals := 0 } : Room) (PcK D κ β [] sz [.int p1]) (QiK D (fun (r : Int32) (u : Unit) => (r.toInt = 1 ∧ p1.toInt ≠ 0) ∨ (r.toInt = 0 ∧ p1.toInt = 0)) (fun (u : Unit) => []) [] sz) 0 0 (va_A [] sz) := by
  refine ofK_i (cc := cX11_asBit) (maxL := 1) (own := RX11) (by decide) rfl rfl (Nat.le_of_ble_eq_true rfl) ?_
  intro p e s m args below meth c Q A ls hsz hx hb hml hts hown hK hA hAB hP hD hl ret
  have hS : va_S A s.heap s.heap [] := va_S.rf
  have hl : lv_has ls 1 [(0, .int p1)] := hl
  have l0 : (0 : Int32).toInt = 0 := by decide
  have l1 : (1 : Int32).toInt = 1 := by decide
  refine lv_iload_n hx hb dX11_asBit_0 rfl (lv_at hl 0 rfl) ?_
  refine lv_if_eq (tgt := 8) hx hb dX11_asBit_1 (by decide) (fun c1 => ?_) (fun c1 => ?_)
  · have c1 := ci_eq c1
    refine lv_iconst (v := 0) hx hb dX11_asBit_8 (by decide) ?_
    have hpo : ((0 : Int32).toInt = 1 ∧ p1.toInt ≠ 0) ∨ ((0 : Int32).toInt = 0 ∧ p1.toInt = 0) := (by omega)
    exact ret _ _ _ _ 0 () dX11_asBit_9 hpo hP hD hS
  have c1 := ci_ne c1
  refine lv_iconst (v := 1) hx hb dX11_asBit_4 (by decide) ?_
  refine lv_goto (tgt := 9) hx hb dX11_asBit_5 (by decide) ?_
  have hpo : ((1 : Int32).toInt = 1 ∧ p1.toInt ≠ 0) ∨ ((1 : Int32).toInt = 0 ∧ p1.toInt = 0) := (by omega)
  exact ret _ _ _ _ 1 () dX11_asBit_9 hpo hP hD hS
set_option maxHeartbeats 4000000 in
set_option maxRecDepth 100000 in
theorem k_X11_isInk (l : Launch) (D : va_G) (κ : Nat → ClassId) (β : Nat) (sz : Nat) (p1 : Int32) : Met l yX11_isInk wsX11_isInk ({ frames := 1, cells := 0, slots := 0, locals := 22 } : Room) (PcK D κ β [] sz [.int p1]) (QiK D (fun (r : Int32) (u : Unit) => (r.toInt = 1 ∧ 0 ≤ p1.toInt ∧ p1.toInt ≤ 5) ∨ (r.toInt = 0 ∧ (p1.toInt < 0 ∨ 5 < p1.toInt))) (fun (u : Unit) => []) [] sz) 0 0 (va_A [] sz) := by
  refine ofK_z (cc := cX11_isInk) (maxL := 1) (own := RX11) (by decide) rfl rfl (Nat.le_of_ble_eq_true rfl) ?_
  intro p e s m args below meth c Q A ls hsz hx hb hml hts hown hK hA hAB hP hD hl ret
  have hS : va_S A s.heap s.heap [] := va_S.rf
  have hl : lv_has ls 1 [(0, .int p1)] := hl
  have l0 : (0 : Int32).toInt = 0 := by decide
  have l1 : (5 : Int32).toInt = 5 := by decide
  refine lv_iload_n hx hb dX11_isInk_0 rfl (lv_at hl 0 rfl) ?_
  refine lv_iconst (v := 0) hx hb dX11_isInk_1 (by decide) ?_
  refine lv_iconst (v := 5) hx hb dX11_isInk_2 (by decide) ?_
  refine kcm_i hA hAB hP hD hS [] rfl (fun _ => rfl) (fun hPc hDc => va_runS (As := [.int p1, .int 0, .int 5]) (rest := []) ⟨hx, hb, hml, hown, hts⟩ (k_X11_within l D κ β s.heap.size p1 0 5) (va_cwS 3 hts gX11_isInk_X11_within rfl rfl rfl (by decide +kernel) ⟨Nat.le_of_ble_eq_true rfl, Nat.le_of_ble_eq_true rfl⟩) (pk_S hK hS hAB hPc hDc) rfl rfl hl.1 rfl (lv_room (Nat.le_of_ble_eq_true rfl)) dX11_isInk_3 ⟨Nat.le_of_ble_eq_true rfl, Nat.le_of_ble_eq_true rfl⟩) (fun x1 u2 H locs hw hPD hS => ?_)
  have h3 : (x1.toInt = 1 ∧ (0 : Int32).toInt ≤ p1.toInt ∧ p1.toInt ≤ (5 : Int32).toInt) ∨ (x1.toInt = 0 ∧ (p1.toInt < (0 : Int32).toInt ∨ (5 : Int32).toInt < p1.toInt)) := hw
  obtain ⟨hP, hD⟩ : PD D A [] H := hPD
  have hpo : (x1.toInt = 1 ∧ 0 ≤ p1.toInt ∧ p1.toInt ≤ 5) ∨ (x1.toInt = 0 ∧ (p1.toInt < 0 ∨ 5 < p1.toInt)) := (by omega)
  exact ret _ _ _ _ x1 () dX11_isInk_6 (by omega) hpo hP hD hS
set_option maxHeartbeats 4000000 in
set_option maxRecDepth 100000 in
theorem k_X11_isStuff (l : Launch) (D : va_G) (κ : Nat → ClassId) (β : Nat) (sz : Nat) (p1 : Int32) : Met l yX11_isStuff wsX11_isStuff ({ frames := 1, cells := 0, slots := 0, locals := 22 } : Room) (PcK D κ β [] sz [.int p1]) (QiK D (fun (r : Int32) (u : Unit) => (r.toInt = 1 ∧ 0 ≤ p1.toInt ∧ p1.toInt ≤ 9999) ∨ (r.toInt = 0 ∧ (p1.toInt < 0 ∨ 9999 < p1.toInt))) (fun (u : Unit) => []) [] sz) 0 0 (va_A [] sz) := by
  refine ofK_z (cc := cX11_isStuff) (maxL := 1) (own := RX11) (by decide) rfl rfl (Nat.le_of_ble_eq_true rfl) ?_
  intro p e s m args below meth c Q A ls hsz hx hb hml hts hown hK hA hAB hP hD hl ret
  have hS : va_S A s.heap s.heap [] := va_S.rf
  have hl : lv_has ls 1 [(0, .int p1)] := hl
  have l0 : (0 : Int32).toInt = 0 := by decide
  have l1 : (9999 : Int32).toInt = 9999 := by decide
  refine lv_iload_n hx hb dX11_isStuff_0 rfl (lv_at hl 0 rfl) ?_
  refine lv_iconst (v := 0) hx hb dX11_isStuff_1 (by decide) ?_
  refine lv_sipush (v := 9999) hx hb dX11_isStuff_2 (by decide) ?_
  refine kcm_i hA hAB hP hD hS [] rfl (fun _ => rfl) (fun hPc hDc => va_runS (As := [.int p1, .int 0, .int 9999]) (rest := []) ⟨hx, hb, hml, hown, hts⟩ (k_X11_within l D κ β s.heap.size p1 0 9999) (va_cwS 3 hts gX11_isStuff_X11_within rfl rfl rfl (by decide +kernel) ⟨Nat.le_of_ble_eq_true rfl, Nat.le_of_ble_eq_true rfl⟩) (pk_S hK hS hAB hPc hDc) rfl rfl hl.1 rfl (lv_room (Nat.le_of_ble_eq_true rfl)) dX11_isStuff_5 ⟨Nat.le_of_ble_eq_true rfl, Nat.le_of_ble_eq_true rfl⟩) (fun x1 u2 H locs hw hPD hS => ?_)
  have h3 : (x1.toInt = 1 ∧ (0 : Int32).toInt ≤ p1.toInt ∧ p1.toInt ≤ (9999 : Int32).toInt) ∨ (x1.toInt = 0 ∧ (p1.toInt < (0 : Int32).toInt ∨ (9999 : Int32).toInt < p1.toInt)) := hw
  obtain ⟨hP, hD⟩ : PD D A [] H := hPD
  have hpo : (x1.toInt = 1 ∧ 0 ≤ p1.toInt ∧ p1.toInt ≤ 9999) ∨ (x1.toInt = 0 ∧ (p1.toInt < 0 ∨ 9999 < p1.toInt)) := (by omega)
  exact ret _ _ _ _ x1 () dX11_isStuff_8 (by omega) hpo hP hD hS
set_option maxHeartbeats 4000000 in
set_option maxRecDepth 100000 in
theorem k_X11_isPrior (l : Launch) (D : va_G) (κ : Nat → ClassId) (β : Nat) (sz : Nat) (p1 : Int32) : Met l yX11_isPrior wsX11_isPrior ({ frames := 1, cells := 0, slots := 0, locals := 22 } : Room) (PcK D κ β [] sz [.int p1]) (QiK D (fun (r : Int32) (u : Unit) => (r.toInt = 1 ∧ 1 ≤ p1.toInt ∧ p1.toInt ≤ 99) ∨ (r.toInt = 0 ∧ (p1.toInt < 1 ∨ 99 < p1.toInt))) (fun (u : Unit) => []) [] sz) 0 0 (va_A [] sz) := by
  refine ofK_z (cc := cX11_isPrior) (maxL := 1) (own := RX11) (by decide) rfl rfl (Nat.le_of_ble_eq_true rfl) ?_
  intro p e s m args below meth c Q A ls hsz hx hb hml hts hown hK hA hAB hP hD hl ret
  have hS : va_S A s.heap s.heap [] := va_S.rf
  have hl : lv_has ls 1 [(0, .int p1)] := hl
  have l0 : (1 : Int32).toInt = 1 := by decide
  have l1 : (99 : Int32).toInt = 99 := by decide
  refine lv_iload_n hx hb dX11_isPrior_0 rfl (lv_at hl 0 rfl) ?_
  refine lv_iconst (v := 1) hx hb dX11_isPrior_1 (by decide) ?_
  refine lv_bipush (v := 99) hx hb dX11_isPrior_2 (by decide) ?_
  refine kcm_i hA hAB hP hD hS [] rfl (fun _ => rfl) (fun hPc hDc => va_runS (As := [.int p1, .int 1, .int 99]) (rest := []) ⟨hx, hb, hml, hown, hts⟩ (k_X11_within l D κ β s.heap.size p1 1 99) (va_cwS 3 hts gX11_isPrior_X11_within rfl rfl rfl (by decide +kernel) ⟨Nat.le_of_ble_eq_true rfl, Nat.le_of_ble_eq_true rfl⟩) (pk_S hK hS hAB hPc hDc) rfl rfl hl.1 rfl (lv_room (Nat.le_of_ble_eq_true rfl)) dX11_isPrior_4 ⟨Nat.le_of_ble_eq_true rfl, Nat.le_of_ble_eq_true rfl⟩) (fun x1 u2 H locs hw hPD hS => ?_)
  have h3 : (x1.toInt = 1 ∧ (1 : Int32).toInt ≤ p1.toInt ∧ p1.toInt ≤ (99 : Int32).toInt) ∨ (x1.toInt = 0 ∧ (p1.toInt < (1 : Int32).toInt ∨ (99 : Int32).toInt < p1.toInt)) := hw
  obtain ⟨hP, hD⟩ : PD D A [] H := hPD
  have hpo : (x1.toInt = 1 ∧ 1 ≤ p1.toInt ∧ p1.toInt ≤ 99) ∨ (x1.toInt = 0 ∧ (p1.toInt < 1 ∨ 99 < p1.toInt)) := (by omega)
  exact ret _ _ _ _ x1 () dX11_isPrior_7 (by omega) hpo hP hD hS
set_option maxHeartbeats 4000000 in
set_option maxRecDepth 100000 in
theorem k_X11_isDot (l : Launch) (D : va_G) (κ : Nat → ClassId) (β : Nat) (sz : Nat) (p1 : Int32) (p2 : Int32) (p3 : Int32) : Met l yX11_isDot wsX11_isDot ({ frames := 2, cells := 0, slots := 0, locals := 42 } : Room) (PcK D κ β [] sz [.int p1, .int p2, .int p3]) (QiK D (fun (r : Int32) (u : Unit) => (r.toInt = 1 ∧ 0 ≤ p1.toInt ∧ p1.toInt ≤ 4 ∧ 0 ≤ p2.toInt ∧ p2.toInt ≤ 7 ∧ 0 ≤ p3.toInt ∧ p3.toInt ≤ 9999) ∨ (r.toInt = 0 ∧ (p1.toInt < 0 ∨ 4 < p1.toInt ∨ p2.toInt < 0 ∨ 7 < p2.toInt ∨ p3.toInt < 0 ∨ 9999 < p3.toInt))) (fun (u : Unit) => []) [] sz) 0 0 (va_A [] sz) := by
  refine ofK_z (cc := cX11_isDot) (maxL := 3) (own := RX11) (by decide) rfl rfl (Nat.le_of_ble_eq_true rfl) ?_
  intro p e s m args below meth c Q A ls hsz hx hb hml hts hown hK hA hAB hP hD hl ret
  have hS : va_S A s.heap s.heap [] := va_S.rf
  have hl : lv_has ls 3 [(0, .int p1), (1, .int p2), (2, .int p3)] := hl
  have l0 : (0 : Int32).toInt = 0 := by decide
  have l1 : (4 : Int32).toInt = 4 := by decide
  have l2 : (7 : Int32).toInt = 7 := by decide
  have l3 : (1 : Int32).toInt = 1 := by decide
  refine lv_iload_n hx hb dX11_isDot_0 rfl (lv_at hl 0 rfl) ?_
  refine lv_iconst (v := 0) hx hb dX11_isDot_1 (by decide) ?_
  refine lv_iconst (v := 4) hx hb dX11_isDot_2 (by decide) ?_
  refine kcm_i hA hAB hP hD hS [] rfl (fun _ => rfl) (fun hPc hDc => va_runS (As := [.int p1, .int 0, .int 4]) (rest := []) ⟨hx, hb, hml, hown, hts⟩ (k_X11_within l D κ β s.heap.size p1 0 4) (va_cwS 3 hts gX11_isDot_X11_within rfl rfl rfl (by decide +kernel) ⟨Nat.le_of_ble_eq_true rfl, Nat.le_of_ble_eq_true rfl⟩) (pk_S hK hS hAB hPc hDc) rfl rfl hl.1 rfl (lv_room (Nat.le_of_ble_eq_true rfl)) dX11_isDot_3 ⟨Nat.le_of_ble_eq_true rfl, Nat.le_of_ble_eq_true rfl⟩) (fun x1 u2 H locs hw hPD hS => ?_)
  have h3 : (x1.toInt = 1 ∧ (0 : Int32).toInt ≤ p1.toInt ∧ p1.toInt ≤ (4 : Int32).toInt) ∨ (x1.toInt = 0 ∧ (p1.toInt < (0 : Int32).toInt ∨ (4 : Int32).toInt < p1.toInt)) := hw
  obtain ⟨hP, hD⟩ : PD D A [] H := hPD
  refine lv_if_eq (tgt := 30) hx hb dX11_isDot_6 (by decide) (fun c4 => ?_) (fun c4 => ?_)
  · have c4 := ci_eq c4
    refine lv_iconst (v := 0) hx hb dX11_isDot_30 (by decide) ?_
    have hpo : ((0 : Int32).toInt = 1 ∧ 0 ≤ p1.toInt ∧ p1.toInt ≤ 4 ∧ 0 ≤ p2.toInt ∧ p2.toInt ≤ 7 ∧ 0 ≤ p3.toInt ∧ p3.toInt ≤ 9999) ∨ ((0 : Int32).toInt = 0 ∧ (p1.toInt < 0 ∨ 4 < p1.toInt ∨ p2.toInt < 0 ∨ 7 < p2.toInt ∨ p3.toInt < 0 ∨ 9999 < p3.toInt)) := (by omega)
    exact ret _ _ _ _ 0 () dX11_isDot_31 (by omega) hpo hP hD hS
  have c4 := ci_ne c4
  refine lv_iload_n hx hb dX11_isDot_9 rfl (lv_at hl 1 rfl) ?_
  refine lv_iconst (v := 0) hx hb dX11_isDot_10 (by decide) ?_
  refine lv_bipush (v := 7) hx hb dX11_isDot_11 (by decide) ?_
  refine kcm_i hA hAB hP hD hS [] rfl (fun _ => rfl) (fun hPc hDc => va_runS (As := [.int p2, .int 0, .int 7]) (rest := []) ⟨hx, hb, hml, hown, hts⟩ (k_X11_within l D κ β H.size p2 0 7) (va_cwS 3 hts gX11_isDot_X11_within rfl rfl rfl (by decide +kernel) ⟨Nat.le_of_ble_eq_true rfl, Nat.le_of_ble_eq_true rfl⟩) (pk_S hK hS hAB hPc hDc) rfl rfl hl.1 rfl (lv_room (Nat.le_of_ble_eq_true rfl)) dX11_isDot_13 ⟨Nat.le_of_ble_eq_true rfl, Nat.le_of_ble_eq_true rfl⟩) (fun x5 u6 H locs hw hPD hS => ?_)
  have h7 : (x5.toInt = 1 ∧ (0 : Int32).toInt ≤ p2.toInt ∧ p2.toInt ≤ (7 : Int32).toInt) ∨ (x5.toInt = 0 ∧ (p2.toInt < (0 : Int32).toInt ∨ (7 : Int32).toInt < p2.toInt)) := hw
  obtain ⟨hP, hD⟩ : PD D A [] H := hPD
  refine lv_if_eq (tgt := 30) hx hb dX11_isDot_16 (by decide) (fun c8 => ?_) (fun c8 => ?_)
  · have c8 := ci_eq c8
    refine lv_iconst (v := 0) hx hb dX11_isDot_30 (by decide) ?_
    have hpo : ((0 : Int32).toInt = 1 ∧ 0 ≤ p1.toInt ∧ p1.toInt ≤ 4 ∧ 0 ≤ p2.toInt ∧ p2.toInt ≤ 7 ∧ 0 ≤ p3.toInt ∧ p3.toInt ≤ 9999) ∨ ((0 : Int32).toInt = 0 ∧ (p1.toInt < 0 ∨ 4 < p1.toInt ∨ p2.toInt < 0 ∨ 7 < p2.toInt ∨ p3.toInt < 0 ∨ 9999 < p3.toInt)) := (by omega)
    exact ret _ _ _ _ 0 () dX11_isDot_31 (by omega) hpo hP hD hS
  have c8 := ci_ne c8
  refine lv_iload_n hx hb dX11_isDot_19 rfl (lv_at hl 2 rfl) ?_
  refine kcm_i hA hAB hP hD hS [] rfl (fun _ => rfl) (fun hPc hDc => va_runS (As := [.int p3]) (rest := []) ⟨hx, hb, hml, hown, hts⟩ (k_X11_isStuff l D κ β H.size p3) (va_cwS 1 hts gX11_isDot_X11_isStuff rfl rfl rfl (by decide +kernel) ⟨Nat.le_of_ble_eq_true rfl, Nat.le_of_ble_eq_true rfl⟩) (pk_S hK hS hAB hPc hDc) rfl rfl hl.1 rfl (lv_room (Nat.le_of_ble_eq_true rfl)) dX11_isDot_20 ⟨Nat.le_of_ble_eq_true rfl, Nat.le_of_ble_eq_true rfl⟩) (fun x9 u10 H locs hw hPD hS => ?_)
  have h11 : (x9.toInt = 1 ∧ 0 ≤ p3.toInt ∧ p3.toInt ≤ 9999) ∨ (x9.toInt = 0 ∧ (p3.toInt < 0 ∨ 9999 < p3.toInt)) := hw
  obtain ⟨hP, hD⟩ : PD D A [] H := hPD
  refine lv_if_eq (tgt := 30) hx hb dX11_isDot_23 (by decide) (fun c12 => ?_) (fun c12 => ?_)
  · have c12 := ci_eq c12
    refine lv_iconst (v := 0) hx hb dX11_isDot_30 (by decide) ?_
    have hpo : ((0 : Int32).toInt = 1 ∧ 0 ≤ p1.toInt ∧ p1.toInt ≤ 4 ∧ 0 ≤ p2.toInt ∧ p2.toInt ≤ 7 ∧ 0 ≤ p3.toInt ∧ p3.toInt ≤ 9999) ∨ ((0 : Int32).toInt = 0 ∧ (p1.toInt < 0 ∨ 4 < p1.toInt ∨ p2.toInt < 0 ∨ 7 < p2.toInt ∨ p3.toInt < 0 ∨ 9999 < p3.toInt)) := (by omega)
    exact ret _ _ _ _ 0 () dX11_isDot_31 (by omega) hpo hP hD hS
  have c12 := ci_ne c12
  refine lv_iconst (v := 1) hx hb dX11_isDot_26 (by decide) ?_
  refine lv_goto (tgt := 31) hx hb dX11_isDot_27 (by decide) ?_
  have hpo : ((1 : Int32).toInt = 1 ∧ 0 ≤ p1.toInt ∧ p1.toInt ≤ 4 ∧ 0 ≤ p2.toInt ∧ p2.toInt ≤ 7 ∧ 0 ≤ p3.toInt ∧ p3.toInt ≤ 9999) ∨ ((1 : Int32).toInt = 0 ∧ (p1.toInt < 0 ∨ 4 < p1.toInt ∨ p2.toInt < 0 ∨ 7 < p2.toInt ∨ p3.toInt < 0 ∨ 9999 < p3.toInt)) := (by omega)
  exact ret _ _ _ _ 1 () dX11_isDot_31 (by omega) hpo hP hD hS
set_option maxHeartbeats 4000000 in
set_option maxRecDepth 100000 in
theorem k_X11_hasBit (l : Launch) (D : va_G) (κ : Nat → ClassId) (β : Nat) (sz : Nat) (p1 : Int32) (p2 : Int32) : Met l yX11_hasBit wsX11_hasBit ({ frames := 0, cells := 0, slots := 0, locals := 0 } : Room) (PcK D κ β [] sz [.int p1, .int p2]) (QiK D (fun (r : Int32) (u : Unit) => r.toInt = 0 ∨ r.toInt = 1) (fun (u : Unit) => []) [] sz) 0 0 (va_A [] sz) := by
  refine ofK_z (cc := cX11_hasBit) (maxL := 2) (own := RX11) (by decide) rfl rfl (Nat.le_of_ble_eq_true rfl) ?_
  intro p e s m args below meth c Q A ls hsz hx hb hml hts hown hK hA hAB hP hD hl ret
  have hS : va_S A s.heap s.heap [] := va_S.rf
  have hl : lv_has ls 2 [(0, .int p1), (1, .int p2)] := hl
  have l0 : (1 : Int32).toInt = 1 := by decide
  have l1 : (0 : Int32).toInt = 0 := by decide
  refine lv_iload_n hx hb dX11_hasBit_0 rfl (lv_at hl 0 rfl) ?_
  refine lv_iload_n hx hb dX11_hasBit_1 rfl (lv_at hl 1 rfl) ?_
  refine lv_ishr hx hb dX11_hasBit_2 ?_
  refine lv_topi (fun x1 e2 => ?_)
  refine lv_iconst (v := 1) hx hb dX11_hasBit_3 (by decide) ?_
  refine lv_iand hx hb dX11_hasBit_4 ?_
  refine lv_topi (fun x3 e4 => ?_)
  refine lv_if_eq (tgt := 12) hx hb dX11_hasBit_5 (by decide) (fun c5 => ?_) (fun c5 => ?_)
  · have c5 := ci_eq c5
    refine lv_iconst (v := 0) hx hb dX11_hasBit_12 (by decide) ?_
    have hpo : (0 : Int32).toInt = 0 ∨ (0 : Int32).toInt = 1 := (by omega)
    exact ret _ _ _ _ 0 () dX11_hasBit_13 (by omega) hpo hP hD hS
  have c5 := ci_ne c5
  refine lv_iconst (v := 1) hx hb dX11_hasBit_8 (by decide) ?_
  refine lv_goto (tgt := 13) hx hb dX11_hasBit_9 (by decide) ?_
  have hpo : (1 : Int32).toInt = 0 ∨ (1 : Int32).toInt = 1 := (by omega)
  exact ret _ _ _ _ 1 () dX11_hasBit_13 (by omega) hpo hP hD hS
set_option maxHeartbeats 4000000 in
set_option maxRecDepth 100000 in
theorem k_X11_drawn (l : Launch) (D : va_G) (κ : Nat → ClassId) (β : Nat) (sz : Nat) (p1 : Int32) : Met l yX11_drawn wsX11_drawn ({ frames := 0, cells := 0, slots := 0, locals := 0 } : Room) (PcK D κ β [] sz [.int p1]) (QiK D (fun (r : Int32) (u : Unit) => True) (fun (u : Unit) => []) [] sz) 0 0 (va_A [] sz) := by
  refine ofK_i (cc := cX11_drawn) (maxL := 1) (own := RX11) (by decide) rfl rfl (Nat.le_of_ble_eq_true rfl) ?_
  intro p e s m args below meth c Q A ls hsz hx hb hml hts hown hK hA hAB hP hD hl ret
  have hS : va_S A s.heap s.heap [] := va_S.rf
  have hl : lv_has ls 1 [(0, .int p1)] := hl
  have w0 := hts (.constant RX11 470 (1103515245)) (List.mem_of_getElem? (i := 1) rfl)
  have l0 : (1103515245 : Int32).toInt = 1103515245 := by decide
  have l1 : (12345 : Int32).toInt = 12345 := by decide
  refine lv_iload_n hx hb dX11_drawn_0 rfl (lv_at hl 0 rfl) ?_
  refine lv_ldcw (v := 1103515245) hx hb hown w0 dX11_drawn_1 ?_
  refine lv_imul hx hb dX11_drawn_4 ?_
  refine lv_topi (fun x1 e2 => ?_)
  try have h3 : x1.toInt = 1103515245 * p1.toInt := ci_mulR (n := 1103515245) (by decide) e2 (by omega) (by omega)
  refine lv_sipush (v := 12345) hx hb dX11_drawn_5 (by decide) ?_
  refine lv_iadd hx hb dX11_drawn_8 ?_
  refine lv_topi (fun x4 e5 => ?_)
  try have h6 : x4.toInt = x1.toInt + (12345 : Int32).toInt := ci_add e5 (by omega) (by omega)
  exact ret _ _ _ _ x4 () dX11_drawn_9 trivial hP hD hS
