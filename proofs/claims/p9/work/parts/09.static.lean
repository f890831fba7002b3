def addF (c : Int32) (cap : Int) (f : Nat → Int32) (v : Int32) : Nat → Int32 := if c.toInt < cap then upd f c.toNatClampNeg v else f
theorem addF_ok {c v : Int32} {cap : Int} {f : Nat → Int32} (h : c.toInt < cap) : addF c cap f v = upd f c.toNatClampNeg v := if_pos h
theorem addF_no {c v : Int32} {cap : Int} {f : Nat → Int32} (h : ¬ c.toInt < cap) : addF c cap f v = f := if_neg h
def holeF (a b n c : Int32) (f : Nat → Int32) (v : Int32) : Nat → Int32 := if 0 ≤ a.toInt ∧ a.toInt < n.toInt ∧ 0 ≤ b.toInt ∧ b.toInt ≤ 999 then addF c 40 f v else f
theorem holeF_ok {a b n c v : Int32} {f : Nat → Int32} (h : 0 ≤ a.toInt ∧ a.toInt < n.toInt ∧ 0 ≤ b.toInt ∧ b.toInt ≤ 999) : holeF a b n c f v = addF c 40 f v := if_pos h
theorem holeF_no {a b n c v : Int32} {f : Nat → Int32} (h : ¬ (0 ≤ a.toInt ∧ a.toInt < n.toInt ∧ 0 ≤ b.toInt ∧ b.toInt ≤ 999)) : holeF a b n c f v = f := if_neg h
/-- where a hole at place v goes among the first k of f: behind all that lie at v or ahead of it, from the end on -/
def insA (P : Nat → Int32) (f : Nat → Int32) (v : Int) : Nat → Nat
  | 0 => 0
  | k + 1 => if v < (P (f k).toNatClampNeg).toInt then insA P f v k else k + 1
theorem insA_le {P f : Nat → Int32} {v : Int} : ∀ k : Nat, insA P f v k ≤ k
  | 0 => Nat.le_refl 0
  | k + 1 => by
    show (if v < (P (f k).toNatClampNeg).toInt then insA P f v k else k + 1) ≤ k + 1
    have := insA_le (P := P) (f := f) (v := v) k
    split <;> omega
def insF (f : Nat → Int32) (n a : Nat) (h : Int32) : Nat → Int32 := fun j => if j = a then h else if a < j ∧ j ≤ n then f (j - 1) else f j
/-- the holes 0 .. n - 1 in order of their places -/
def srt (P : Nat → Int32) : Nat → (Nat → Int32)
  | 0 => fun _ => 0
  | n + 1 => insF (srt P n) n (insA P (srt P n) (P n).toInt n) (Int32.ofNat n)
theorem ofNat_of {x : Int32} (h : 0 ≤ x.toInt) : Int32.ofNat x.toInt.toNat = x := by
  apply ci_inj
  rw [ci_len (n := x.toInt.toNat) rfl (by have := ci_rng x; omega)]
  omega
theorem srt_lt {P : Nat → Int32} : ∀ n : Nat, n ≤ 40 → ∀ j : Nat, j < n → 0 ≤ (srt P n j).toInt ∧ (srt P n j).toInt < (n : Int)
  | 0, _, j, h => absurd h (Nat.not_lt_zero j)
  | n + 1, hn, j, h => by
    have ih := srt_lt (P := P) n (by omega)
    have ha := insA_le (P := P) (f := srt P n) (v := (P n).toInt) n
    have e : (Int32.ofNat n).toInt = (n : Int) := ci_len rfl (by omega)
    show 0 ≤ (if j = insA P (srt P n) (P n).toInt n then Int32.ofNat n else if insA P (srt P n) (P n).toInt n < j ∧ j ≤ n then srt P n (j - 1) else srt P n j).toInt ∧ (if j = insA P (srt P n) (P n).toInt n then Int32.ofNat n else if insA P (srt P n) (P n).toInt n < j ∧ j ≤ n then srt P n (j - 1) else srt P n j).toInt < ((n + 1 : Nat) : Int)
    by_cases c : j = insA P (srt P n) (P n).toInt n
    · rw [if_pos c]; omega
    · rw [if_neg c]
      by_cases c2 : insA P (srt P n) (P n).toInt n < j ∧ j ≤ n
      · rw [if_pos c2]
        have := ih (j - 1) (by omega)
        omega
      · rw [if_neg c2]
        have := ih j (by omega)
        omega
theorem insA_congr {P P' f : Nat → Int32} {v : Int} {n : Nat} (h : ∀ q : Nat, q < n → P q = P' q) : ∀ k : Nat, (∀ j : Nat, j < k → (f j).toNatClampNeg < n) → insA P f v k = insA P' f v k
  | 0, _ => rfl
  | k + 1, hf => by
    show (if v < (P (f k).toNatClampNeg).toInt then insA P f v k else k + 1) = (if v < (P' (f k).toNatClampNeg).toInt then insA P' f v k else k + 1)
    rw [h _ (hf k (by omega)), insA_congr h k (fun j hj => hf j (by omega))]
theorem srt_in {P : Nat → Int32} {n : Nat} (hn : n ≤ 40) {j : Nat} (h : j < n) : (srt P n j).toNatClampNeg < n := by
  have h1 := srt_lt (P := P) n hn j h
  have h2 := ci_clamp (i := srt P n j) h1.1
  omega
theorem srt_congr {P P' : Nat → Int32} : ∀ n : Nat, n ≤ 40 → (∀ q : Nat, q < n → P q = P' q) → srt P n = srt P' n
  | 0, _, _ => rfl
  | n + 1, hn, h => by
    have e := srt_congr (P := P) (P' := P') n (by omega) (fun q hq => h q (by omega))
    show insF (srt P n) n (insA P (srt P n) (P n).toInt n) (Int32.ofNat n) = insF (srt P' n) n (insA P' (srt P' n) (P' n).toInt n) (Int32.ofNat n)
    rw [← e, h n (by omega), insA_congr (P := P) (P' := P') (n := n) (fun q hq => h q (by omega)) n (fun j hj => srt_in (by omega) hj)]
/-- a hole more among those kept in order -/
def addB (P f : Nat → Int32) (n v : Int32) : Nat → Int32 := if n.toInt < 40 then insF f n.toNatClampNeg (insA P f v.toInt n.toNatClampNeg) n else f
def hoB (a b m n : Int32) (P f : Nat → Int32) : Nat → Int32 := if 0 ≤ a.toInt ∧ a.toInt < m.toInt ∧ 0 ≤ b.toInt ∧ b.toInt ≤ 999 then addB P f n b else f
theorem hoB_ok {a b m n : Int32} {P f : Nat → Int32} (h : 0 ≤ a.toInt ∧ a.toInt < m.toInt ∧ 0 ≤ b.toInt ∧ b.toInt ≤ 999) : hoB a b m n P f = addB P f n b := if_pos h
theorem hoB_no {a b m n : Int32} {P f : Nat → Int32} (h : ¬ (0 ≤ a.toInt ∧ a.toInt < m.toInt ∧ 0 ≤ b.toInt ∧ b.toInt ≤ 999)) : hoB a b m n P f = f := if_neg h
theorem bp_hole {a b m n n' : Int32} {P f : Nat → Int32} (h : f = srt P n.toInt.toNat) (h0 : 0 ≤ n.toInt) (h40 : n.toInt ≤ 40) (hn : (¬ (0 ≤ a.toInt ∧ a.toInt < m.toInt ∧ 0 ≤ b.toInt ∧ b.toInt ≤ 999) ∧ n'.toInt = n.toInt) ∨ ((0 ≤ a.toInt ∧ a.toInt < m.toInt ∧ 0 ≤ b.toInt ∧ b.toInt ≤ 999) ∧ n.toInt = 40 ∧ n'.toInt = n.toInt) ∨ ((0 ≤ a.toInt ∧ a.toInt < m.toInt ∧ 0 ≤ b.toInt ∧ b.toInt ≤ 999) ∧ n.toInt < 40 ∧ n'.toInt = n.toInt + 1)) : hoB a b m n P f = srt (holeF a b m n P b) n'.toInt.toNat := by
  rcases hn with ⟨h1, h2⟩ | ⟨h1, h2, h3⟩ | ⟨h1, h2, h3⟩
  · rw [hoB_no h1, holeF_no h1, h2, h]
  · rw [hoB_ok h1, holeF_ok h1, addF_no (by omega), h3, h]
    show (if n.toInt < 40 then _ else _) = _
    rw [if_neg (by omega)]
  · have e1 : n'.toInt.toNat = n.toInt.toNat + 1 := by omega
    have e2 : n.toNatClampNeg = n.toInt.toNat := rfl
    rw [hoB_ok h1, holeF_ok h1, addF_ok h2, e1]
    have hP : ∀ q : Nat, q < n.toInt.toNat → P q = upd P n.toNatClampNeg b q := fun q hq => by
      show P q = if q = n.toNatClampNeg then b else P q
      rw [if_neg (by omega)]
    have es := srt_congr (P := P) (P' := upd P n.toNatClampNeg b) n.toInt.toNat (by omega) hP
    have eb : upd P n.toNatClampNeg b n.toInt.toNat = b := by
      show (if n.toInt.toNat = n.toNatClampNeg then b else P n.toInt.toNat) = b
      rw [if_pos e2.symm]
    have ei : insA P (srt P n.toInt.toNat) b.toInt n.toInt.toNat = insA (upd P n.toNatClampNeg b) (srt P n.toInt.toNat) b.toInt n.toInt.toNat := insA_congr (n := n.toInt.toNat) hP n.toInt.toNat (fun j hj => srt_in (by omega) hj)
    show (if n.toInt < 40 then insF f n.toNatClampNeg (insA P f b.toInt n.toNatClampNeg) n else f) = insF (srt (upd P n.toNatClampNeg b) n.toInt.toNat) n.toInt.toNat (insA (upd P n.toNatClampNeg b) (srt (upd P n.toNatClampNeg b) n.toInt.toNat) (upd P n.toNatClampNeg b n.toInt.toNat).toInt n.toInt.toNat) (Int32.ofNat n.toInt.toNat)
    rw [if_pos h2, ← es, eb, ofNat_of h0, ← ei, e2, ← h]
theorem sc_hole {a b m n n' : Int32} {S : Nat → Int32} (h : ∀ j : Nat, (j : Int) < n.toInt → (S j).toInt < m.toInt) (h0 : 0 ≤ n.toInt) (hn : (¬ (0 ≤ a.toInt ∧ a.toInt < m.toInt ∧ 0 ≤ b.toInt ∧ b.toInt ≤ 999) ∧ n'.toInt = n.toInt) ∨ ((0 ≤ a.toInt ∧ a.toInt < m.toInt ∧ 0 ≤ b.toInt ∧ b.toInt ≤ 999) ∧ n.toInt = 40 ∧ n'.toInt = n.toInt) ∨ ((0 ≤ a.toInt ∧ a.toInt < m.toInt ∧ 0 ≤ b.toInt ∧ b.toInt ≤ 999) ∧ n.toInt < 40 ∧ n'.toInt = n.toInt + 1)) : ∀ j : Nat, (j : Int) < n'.toInt → (holeF a b m n S a j).toInt < m.toInt := by
  intro j hj
  rcases hn with ⟨h1, h2⟩ | ⟨h1, h2, h3⟩ | ⟨h1, h2, h3⟩
  · rw [holeF_no h1]; exact h j (by omega)
  · rw [holeF_ok h1, addF_no (by omega)]; exact h j (by omega)
  · rw [holeF_ok h1, addF_ok h2]
    have := ci_clamp (i := n) h0
    show (if j = n.toNatClampNeg then a else S j).toInt < m.toInt
    by_cases c : j = n.toNatClampNeg
    · rw [if_pos c]; omega
    · rw [if_neg c]; exact h j (by omega)
theorem sb_of {P S f : Nat → Int32} {n m : Int32} (h : f = srt P n.toInt.toNat) (h2 : ∀ j : Nat, (j : Int) < n.toInt → (S j).toInt < m.toInt) (h40 : n.toInt ≤ 40) : ∀ j : Nat, (j : Int) < n.toInt → (S (f j).toNatClampNeg).toInt < m.toInt := by
  intro j hj
  have := srt_in (P := P) (n := n.toInt.toNat) (by omega) (j := j) (by omega)
  rw [← h] at this
  exact h2 _ (by omega)
def bitW (x : Int32) : Int32 := (1 : Int32) <<< (x &&& 31)
def allB (c : Int32) : Int32 := ((1 : Int32) <<< (c &&& 31)) - 1
theorem all_tab : ∀ c : Nat, c < 9 → ∀ x : Nat, x < 8 → x < c → (allB (nI c) &&& bitW (nI x)).toInt ≠ 0 := by decide +kernel
theorem all_bit {c x : Int32} (h0 : 0 ≤ x.toInt) (h1 : x.toInt < c.toInt) (h2 : c.toInt ≤ 8) : (allB c &&& bitW x).toInt ≠ 0 := by
  have e1 : c = nI c.toInt.toNat := ci_inj (by rw [nI_toInt (by omega)]; omega)
  have e2 : x = nI x.toInt.toNat := ci_inj (by rw [nI_toInt (by omega)]; omega)
  rw [e1, e2]
  exact all_tab _ (by omega) _ (by omega) (by omega)
def newW (s S P : Nat → Int32) (sl : Int) (k w : Nat) (g : Nat → Int32) : Bool := decide (k = 0) || (decide (sl < (P (s k).toNatClampNeg).toInt - (P (s (k - 1)).toNatClampNeg).toInt) || decide ((g (w - 1) &&& bitW (S (s k).toNatClampNeg)).toInt ≠ 0))
theorem newW_iff {s S P : Nat → Int32} {sl : Int} {k w : Nat} {g : Nat → Int32} : newW s S P sl k w g = true ↔ (k = 0 ∨ sl < (P (s k).toNatClampNeg).toInt - (P (s (k - 1)).toNatClampNeg).toInt ∨ (g (w - 1) &&& bitW (S (s k).toNatClampNeg)).toInt ≠ 0) := by
  unfold newW
  rw [Bool.or_eq_true, Bool.or_eq_true, decide_eq_true_eq, decide_eq_true_eq, decide_eq_true_eq]
/-- worms after k holes: how many, their sheets, of which worm each hole is -/
def wst (s S P : Nat → Int32) (sl : Int) : Nat → Nat × (Nat → Int32) × (Nat → Int32)
  | 0 => (0, fun _ => 0, fun _ => 0)
  | k + 1 => if newW s S P sl k (wst s S P sl k).1 (wst s S P sl k).2.1 = true then ((wst s S P sl k).1 + 1, upd (wst s S P sl k).2.1 (wst s S P sl k).1 (0 ||| bitW (S (s k).toNatClampNeg)), upd (wst s S P sl k).2.2 (s k).toNatClampNeg (Int32.ofNat (wst s S P sl k).1)) else ((wst s S P sl k).1, upd (wst s S P sl k).2.1 ((wst s S P sl k).1 - 1) ((wst s S P sl k).2.1 ((wst s S P sl k).1 - 1) ||| bitW (S (s k).toNatClampNeg)), upd (wst s S P sl k).2.2 (s k).toNatClampNeg (Int32.ofNat ((wst s S P sl k).1 - 1)))
theorem wst_congr {s s' S P : Nat → Int32} {sl : Int} : ∀ n : Nat, (∀ j : Nat, j < n → s j = s' j) → wst s S P sl n = wst s' S P sl n
  | 0, _ => rfl
  | n + 1, h => by
    have e := wst_congr (s := s) (s' := s') (S := S) (P := P) (sl := sl) n (fun j hj => h j (by omega))
    have e2 : newW s S P sl n (wst s S P sl n).1 (wst s S P sl n).2.1 = newW s' S P sl n (wst s' S P sl n).1 (wst s' S P sl n).2.1 := by
      unfold newW
      rw [← e, h n (by omega), h (n - 1) (by omega)]
    show (if newW s S P sl n (wst s S P sl n).1 (wst s S P sl n).2.1 = true then _ else _) = (if newW s' S P sl n (wst s' S P sl n).1 (wst s' S P sl n).2.1 = true then _ else _)
    rw [e2, ← e, h n (by omega)]
def WInv (s S P : Nat → Int32) (sl : Int) (k : Nat) (w : Int32) (g o : Nat → Int32) : Prop := w.toInt = (((wst s S P sl k).1 : Nat) : Int) ∧ (wst s S P sl k).1 ≤ k ∧ (0 < k → 0 < (wst s S P sl k).1) ∧ (∀ j : Nat, j < (wst s S P sl k).1 → g j = (wst s S P sl k).2.1 j) ∧ (∀ i : Nat, i < k → o (s i).toNatClampNeg = (wst s S P sl k).2.2 (s i).toNatClampNeg)
theorem wi_zero {s S P : Nat → Int32} {sl : Int} {w : Int32} {g o : Nat → Int32} (h : w.toInt = 0) : WInv s S P sl 0 w g o := ⟨h, Nat.le_refl 0, fun h => absurd h (Nat.lt_irrefl 0), fun j hj => absurd hj (Nat.not_lt_zero j), fun i hi => absurd hi (Nat.not_lt_zero i)⟩
theorem wi_new {s S P : Nat → Int32} {sl : Int} {k k' w w' i z y b v : Int32} {g g' o o' : Nat → Int32} {q : Nat} (h : WInv s S P sl k.toInt.toNat w g o) (h0 : 0 ≤ k.toInt) (hk : k'.toInt = k.toInt + 1) (hk40 : k.toInt < 40)
    (hn : k.toInt = 0 ∨ sl < (P (s k.toNatClampNeg).toNatClampNeg).toInt - (P (s (k.toInt - 1).toNat).toNatClampNeg).toInt ∨ (0 < k.toInt ∧ (g (w.toInt - 1).toNat &&& b).toInt ≠ 0))
    (hw : w'.toInt = w.toInt + 1) (hg : g' = upd (upd g w.toNatClampNeg 0) i.toNatClampNeg z) (hi : i.toInt = w.toInt) (hy : y = upd g w.toNatClampNeg 0 i.toNatClampNeg) (hz : z = y ||| b) (hb : b = bitW (S (s k.toNatClampNeg).toNatClampNeg)) (ho : o' = upd o q v) (hq : q = (s k.toNatClampNeg).toNatClampNeg) (hv : v.toInt = w.toInt) : WInv s S P sl k'.toInt.toNat w' g' o' := by
  obtain ⟨h1, h2, h3, h4, h5⟩ := h
  have e1 : k'.toInt.toNat = k.toInt.toNat + 1 := by omega
  have e2 : k.toNatClampNeg = k.toInt.toNat := rfl
  have e3 : w.toNatClampNeg = (wst s S P sl k.toInt.toNat).1 := by have : w.toNatClampNeg = w.toInt.toNat := rfl; omega
  have e4 : i.toNatClampNeg = (wst s S P sl k.toInt.toNat).1 := by have : i.toNatClampNeg = i.toInt.toNat := rfl; omega
  have e5 : v = Int32.ofNat (wst s S P sl k.toInt.toNat).1 := by rw [← e3]; exact (show v = w from ci_inj hv) ▸ (ofNat_of (by omega)).symm
  rw [e2] at hn hb hq
  have hN : newW s S P sl k.toInt.toNat (wst s S P sl k.toInt.toNat).1 (wst s S P sl k.toInt.toNat).2.1 = true := by
    rw [newW_iff]
    rcases hn with hn | hn | ⟨hp, hn⟩
    · exact Or.inl (by omega)
    · rw [show (k.toInt - 1).toNat = k.toInt.toNat - 1 by omega] at hn
      exact Or.inr (Or.inl hn)
    · have hp2 := h3 (by omega)
      rw [show (w.toInt - 1).toNat = (wst s S P sl k.toInt.toNat).1 - 1 by omega, h4 _ (by omega), hb] at hn
      exact Or.inr (Or.inr hn)
  have hW : wst s S P sl (k.toInt.toNat + 1) = ((wst s S P sl k.toInt.toNat).1 + 1, upd (wst s S P sl k.toInt.toNat).2.1 (wst s S P sl k.toInt.toNat).1 (0 ||| bitW (S (s k.toInt.toNat).toNatClampNeg)), upd (wst s S P sl k.toInt.toNat).2.2 (s k.toInt.toNat).toNatClampNeg (Int32.ofNat (wst s S P sl k.toInt.toNat).1)) := if_pos hN
  have hy0 : y = 0 := by
    rw [hy, e3, e4]
    show (if _ = _ then (0 : Int32) else _) = 0
    rw [if_pos rfl]
  rw [e1]
  unfold WInv
  rw [hW]
  refine ⟨by show w'.toInt = (((wst s S P sl k.toInt.toNat).1 + 1 : Nat) : Int); omega, by show (wst s S P sl k.toInt.toNat).1 + 1 ≤ _; omega, fun _ => Nat.succ_pos _, fun j hj => ?_, fun j hj => ?_⟩
  · have hj : j < (wst s S P sl k.toInt.toNat).1 + 1 := hj
    rw [hg, e3, e4, hz, hy0, hb]
    show (if j = (wst s S P sl k.toInt.toNat).1 then _ else (if j = (wst s S P sl k.toInt.toNat).1 then (0 : Int32) else g j)) = (if j = (wst s S P sl k.toInt.toNat).1 then _ else (wst s S P sl k.toInt.toNat).2.1 j)
    by_cases c : j = (wst s S P sl k.toInt.toNat).1
    · rw [if_pos c, if_pos c]
    · rw [if_neg c, if_neg c, if_neg c]; exact h4 j (by omega)
  · rw [ho, hq, e5]
    show (if (s j).toNatClampNeg = (s k.toInt.toNat).toNatClampNeg then _ else o (s j).toNatClampNeg) = (if (s j).toNatClampNeg = (s k.toInt.toNat).toNatClampNeg then _ else (wst s S P sl k.toInt.toNat).2.2 (s j).toNatClampNeg)
    by_cases c : (s j).toNatClampNeg = (s k.toInt.toNat).toNatClampNeg
    · rw [if_pos c, if_pos c]
    · rw [if_neg c, if_neg c]
      by_cases c2 : j = k.toInt.toNat
      · exact absurd (by rw [c2]) c
      · exact h5 j (by omega)
theorem wi_old {s S P : Nat → Int32} {sl : Int} {k k' w w' i z y b v : Int32} {g g' o o' : Nat → Int32} {q : Nat} (h : WInv s S P sl k.toInt.toNat w g o) (h0 : 0 < k.toInt) (hk : k'.toInt = k.toInt + 1) (hk40 : k.toInt < 40)
    (hn : ¬ (sl < (P (s k.toNatClampNeg).toNatClampNeg).toInt - (P (s (k.toInt - 1).toNat).toNatClampNeg).toInt)) (hn2 : (g (w.toInt - 1).toNat &&& b).toInt = 0)
    (hw : w'.toInt = w.toInt) (hg : g' = upd g i.toNatClampNeg z) (hi : i.toInt = w.toInt - 1) (hy : y = g i.toNatClampNeg) (hz : z = y ||| b) (hb : b = bitW (S (s k.toNatClampNeg).toNatClampNeg)) (ho : o' = upd o q v) (hq : q = (s k.toNatClampNeg).toNatClampNeg) (hv : v.toInt = w.toInt - 1) : WInv s S P sl k'.toInt.toNat w' g' o' := by
  obtain ⟨h1, h2, h3, h4, h5⟩ := h
  have hp := h3 (by omega)
  have e1 : k'.toInt.toNat = k.toInt.toNat + 1 := by omega
  have e2 : k.toNatClampNeg = k.toInt.toNat := rfl
  have e4 : i.toNatClampNeg = (wst s S P sl k.toInt.toNat).1 - 1 := by have : i.toNatClampNeg = i.toInt.toNat := rfl; omega
  have e5 : v = Int32.ofNat ((wst s S P sl k.toInt.toNat).1 - 1) := by rw [← e4]; exact (show v = i from ci_inj (by omega)) ▸ (ofNat_of (by omega)).symm
  have e6 : (w.toInt - 1).toNat = (wst s S P sl k.toInt.toNat).1 - 1 := by omega
  rw [e2] at hn hb hq
  have hN : ¬ newW s S P sl k.toInt.toNat (wst s S P sl k.toInt.toNat).1 (wst s S P sl k.toInt.toNat).2.1 = true := by
    rw [newW_iff]
    intro z9
    rcases z9 with z9 | z9 | z9
    · omega
    · rw [show (k.toInt - 1).toNat = k.toInt.toNat - 1 by omega] at hn
      exact hn z9
    · rw [e6, h4 _ (by omega), hb] at hn2
      exact z9 hn2
  have hW : wst s S P sl (k.toInt.toNat + 1) = ((wst s S P sl k.toInt.toNat).1, upd (wst s S P sl k.toInt.toNat).2.1 ((wst s S P sl k.toInt.toNat).1 - 1) ((wst s S P sl k.toInt.toNat).2.1 ((wst s S P sl k.toInt.toNat).1 - 1) ||| bitW (S (s k.toInt.toNat).toNatClampNeg)), upd (wst s S P sl k.toInt.toNat).2.2 (s k.toInt.toNat).toNatClampNeg (Int32.ofNat ((wst s S P sl k.toInt.toNat).1 - 1))) := if_neg hN
  rw [e1]
  unfold WInv
  rw [hW]
  refine ⟨by show w'.toInt = (((wst s S P sl k.toInt.toNat).1 : Nat) : Int); omega, by show (wst s S P sl k.toInt.toNat).1 ≤ _; omega, fun _ => hp, fun j hj => ?_, fun j hj => ?_⟩
  · have hj : j < (wst s S P sl k.toInt.toNat).1 := hj
    rw [hg, hz, hy, e4, hb, h4 _ (show (wst s S P sl k.toInt.toNat).1 - 1 < (wst s S P sl k.toInt.toNat).1 by omega)]
    show (if j = (wst s S P sl k.toInt.toNat).1 - 1 then _ else g j) = (if j = (wst s S P sl k.toInt.toNat).1 - 1 then _ else (wst s S P sl k.toInt.toNat).2.1 j)
    by_cases c : j = (wst s S P sl k.toInt.toNat).1 - 1
    · rw [if_pos c, if_pos c]
    · rw [if_neg c, if_neg c]; exact h4 j hj
  · rw [ho, hq, e5]
    show (if (s j).toNatClampNeg = (s k.toInt.toNat).toNatClampNeg then _ else o (s j).toNatClampNeg) = (if (s j).toNatClampNeg = (s k.toInt.toNat).toNatClampNeg then _ else (wst s S P sl k.toInt.toNat).2.2 (s j).toNatClampNeg)
    by_cases c : (s j).toNatClampNeg = (s k.toInt.toNat).toNatClampNeg
    · rw [if_pos c, if_pos c]
    · rw [if_neg c, if_neg c]
      by_cases c2 : j = k.toInt.toNat
      · exact absurd (by rw [c2]) c
      · exact h5 j (by omega)
/-- every hole stands somewhere in the order -/
theorem srt_all {P : Nat → Int32} : ∀ n : Nat, n ≤ 40 → ∀ q : Nat, q < n → ∃ j : Nat, j < n ∧ (srt P n j).toNatClampNeg = q
  | 0, _, q, h => absurd h (Nat.not_lt_zero q)
  | n + 1, hn, q, h => by
    have ha := insA_le (P := P) (f := srt P n) (v := (P n).toInt) n
    have e : (Int32.ofNat n).toInt = (n : Int) := ci_len rfl (by omega)
    have ec := ci_clamp (i := Int32.ofNat n) (by omega)
    have ev : ∀ j : Nat, srt P (n + 1) j = if j = insA P (srt P n) (P n).toInt n then Int32.ofNat n else if insA P (srt P n) (P n).toInt n < j ∧ j ≤ n then srt P n (j - 1) else srt P n j := fun j => rfl
    by_cases c : q = n
    · refine ⟨insA P (srt P n) (P n).toInt n, by omega, ?_⟩
      rw [ev, if_pos rfl]; omega
    · obtain ⟨j, hj, he⟩ := srt_all (P := P) n (by omega) q (by omega)
      by_cases c2 : j < insA P (srt P n) (P n).toInt n
      · refine ⟨j, by omega, ?_⟩
        rw [ev, if_neg (by omega), if_neg (by omega)]; exact he
      · refine ⟨j + 1, by omega, ?_⟩
        rw [ev, if_neg (by omega), if_pos (by omega)]; exact he

theorem addB_ok {P f : Nat → Int32} {n v : Int32} (h : n.toInt < 40) : addB P f n v = insF f n.toNatClampNeg (insA P f v.toInt n.toNatClampNeg) n := if_pos h
theorem addB_no {P f : Nat → Int32} {n v : Int32} (h : ¬ n.toInt < 40) : addB P f n v = f := if_neg h
/-- f with the places above a, up to n, moved one on -/
def shF (f : Nat → Int32) (n a : Nat) : Nat → Int32 := fun j => if a < j ∧ j ≤ n then f (j - 1) else f j
theorem shF_self {f : Nat → Int32} {n a : Nat} (h : n ≤ a) : f = shF f n a := by
  funext j
  show f j = if a < j ∧ j ≤ n then f (j - 1) else f j
  rw [if_neg (by omega)]
theorem ld_at {g : Nat → Int32} {i k z : Int32} (e : z = g i.toNatClampNeg) (h : i.toInt = k.toInt - 1) (h0 : 0 < k.toInt) : z = g (k.toInt - 1).toNat := by
  have := ci_clamp (i := i) (by omega)
  rw [e]
  exact congrArg g (by omega)
theorem sh_step {f g g' : Nat → Int32} {n : Nat} {k k' z : Int32} (h : g = shF f n k.toInt.toNat) (h0 : 0 < k.toInt) (hk : k.toInt ≤ (n : Int)) (h1 : k'.toInt = k.toInt - 1) (hz : z = g (k.toInt - 1).toNat) (hg : g' = upd g k.toNatClampNeg z) : g' = shF f n k'.toInt.toNat := by
  have e1 : k.toNatClampNeg = k'.toInt.toNat + 1 := by have := ci_clamp (i := k) (by omega); omega
  have e2 : (k.toInt - 1).toNat = k'.toInt.toNat := by omega
  have e3 : k.toInt.toNat = k'.toInt.toNat + 1 := by omega
  rw [e3] at h
  rw [hg, hz, e1, e2, h]
  funext j
  show (if j = k'.toInt.toNat + 1 then (if k'.toInt.toNat + 1 < k'.toInt.toNat ∧ k'.toInt.toNat ≤ n then f (k'.toInt.toNat - 1) else f k'.toInt.toNat) else (if k'.toInt.toNat + 1 < j ∧ j ≤ n then f (j - 1) else f j)) = (if k'.toInt.toNat < j ∧ j ≤ n then f (j - 1) else f j)
  by_cases c : j = k'.toInt.toNat + 1
  · rw [if_pos c, if_neg (by omega), if_pos (by omega), c, Nat.add_sub_cancel]
  · rw [if_neg c]
    by_cases c2 : k'.toInt.toNat < j ∧ j ≤ n
    · rw [if_pos c2, if_pos (by omega)]
    · rw [if_neg c2, if_neg (by omega)]
theorem ins_go {P f g : Nat → Int32} {v : Int} {n : Nat} {k k' : Int32} (h : insA P f v n = insA P f v k.toInt.toNat) (hg : g = shF f n k.toInt.toNat) (h0 : 0 < k.toInt) (hb : v < (P (g (k.toInt - 1).toNat).toNatClampNeg).toInt) (h1 : k'.toInt = k.toInt - 1) : insA P f v n = insA P f v k'.toInt.toNat := by
  have e3 : k.toInt.toNat = k'.toInt.toNat + 1 := by omega
  have eg : g (k.toInt - 1).toNat = f k'.toInt.toNat := by
    rw [hg, e3, show (k.toInt - 1).toNat = k'.toInt.toNat by omega]
    exact if_neg (by omega)
  rw [eg] at hb
  rw [h, e3]
  exact if_pos hb
theorem ins_end0 {P f : Nat → Int32} {v : Int} {n : Nat} {k : Int32} (h : insA P f v n = insA P f v k.toInt.toNat) (h0 : k.toInt ≤ 0) : insA P f v n = k.toNatClampNeg := by
  have e : k.toInt.toNat = 0 := by omega
  have e2 : k.toNatClampNeg = k.toInt.toNat := rfl
  rw [h, e2, e]; rfl
theorem ins_end {P f g : Nat → Int32} {v : Int} {n : Nat} {k : Int32} (h : insA P f v n = insA P f v k.toInt.toNat) (hg : g = shF f n k.toInt.toNat) (h0 : 0 < k.toInt) (hb : ¬ v < (P (g (k.toInt - 1).toNat).toNatClampNeg).toInt) : insA P f v n = k.toNatClampNeg := by
  obtain ⟨q, hq⟩ : ∃ q : Nat, k.toInt.toNat = q + 1 := ⟨k.toInt.toNat - 1, by omega⟩
  have e2 : k.toNatClampNeg = k.toInt.toNat := rfl
  have eg : g (k.toInt - 1).toNat = f q := by
    rw [hg, hq, show (k.toInt - 1).toNat = q by omega]
    exact if_neg (by omega)
  rw [eg] at hb
  rw [h, e2, hq]
  exact if_neg hb
theorem ins_put {f g : Nat → Int32} {n a : Nat} {k h : Int32} (hA : a = k.toNatClampNeg) (hg : g = shF f n k.toInt.toNat) : upd g k.toNatClampNeg h = insF f n a h := by
  have e2 : k.toNatClampNeg = k.toInt.toNat := rfl
  rw [hA, hg, e2]; rfl

theorem wi_start {s S P : Nat → Int32} {sl : Int} {k w : Int32} {g o : Nat → Int32} (hk : k.toInt = 0) (h : w.toInt = 0) : WInv s S P sl k.toInt.toNat w g o := by
  rw [hk]; exact wi_zero h
theorem wi_congr {s s' S P : Nat → Int32} {sl : Int} {n : Nat} {w : Int32} {g o : Nat → Int32} (h : WInv s S P sl n w g o) (e : ∀ j : Nat, j < n → s j = s' j) : WInv s' S P sl n w g o := by
  unfold WInv at h ⊢
  rw [← wst_congr (S := S) (P := P) (sl := sl) n e]
  exact ⟨h.1, h.2.1, h.2.2.1, h.2.2.2.1, fun i hi => by rw [← e i hi]; exact h.2.2.2.2 i hi⟩
theorem ta_next {s : Nat → Int32} {k k' h : Int32} (e : h = s k.toNatClampNeg) (h1 : k'.toInt = k.toInt + 1) : h = s (k'.toInt - 1).toNat := by
  have e2 : k.toNatClampNeg = k.toInt.toNat := rfl
  rw [e, e2]
  exact congrArg s (by omega)
theorem insA_congr2 {P f f' : Nat → Int32} {v : Int} : ∀ k : Nat, (∀ j : Nat, j < k → f j = f' j) → insA P f v k = insA P f' v k
  | 0, _ => rfl
  | k + 1, h => by
    show (if v < (P (f k).toNatClampNeg).toInt then insA P f v k else k + 1) = (if v < (P (f' k).toNatClampNeg).toInt then insA P f' v k else k + 1)
    rw [h k (by omega), insA_congr2 k (fun j hj => h j (by omega))]
theorem srt_next {P f g : Nat → Int32} {k k' : Int32} {a : Nat} (h : ∀ j : Nat, (j : Int) < k.toInt → f j = srt P k.toInt.toNat j) (h0 : 0 ≤ k.toInt) (h1 : k'.toInt = k.toInt + 1) (ha : a = insA P f (P k.toNatClampNeg).toInt k.toInt.toNat) (hg : g = insF f k.toInt.toNat a k) : ∀ j : Nat, (j : Int) < k'.toInt → g j = srt P k'.toInt.toNat j := by
  intro j hj
  have e2 : k.toNatClampNeg = k.toInt.toNat := rfl
  have e1 : k'.toInt.toNat = k.toInt.toNat + 1 := by omega
  have ea : a = insA P (srt P k.toInt.toNat) (P k.toInt.toNat).toInt k.toInt.toNat := by
    rw [ha, e2]; exact insA_congr2 _ (fun j hj => h j (by omega))
  have hl := insA_le (P := P) (f := srt P k.toInt.toNat) (v := (P k.toInt.toNat).toInt) k.toInt.toNat
  rw [hg, e1, ea]
  show (if j = insA P (srt P k.toInt.toNat) (P k.toInt.toNat).toInt k.toInt.toNat then k else if insA P (srt P k.toInt.toNat) (P k.toInt.toNat).toInt k.toInt.toNat < j ∧ j ≤ k.toInt.toNat then f (j - 1) else f j) = (if j = insA P (srt P k.toInt.toNat) (P k.toInt.toNat).toInt k.toInt.toNat then Int32.ofNat k.toInt.toNat else if insA P (srt P k.toInt.toNat) (P k.toInt.toNat).toInt k.toInt.toNat < j ∧ j ≤ k.toInt.toNat then srt P k.toInt.toNat (j - 1) else srt P k.toInt.toNat j)
  by_cases c : j = insA P (srt P k.toInt.toNat) (P k.toInt.toNat).toInt k.toInt.toNat
  · rw [if_pos c, if_pos c]; exact (ofNat_of h0).symm
  · rw [if_neg c, if_neg c]
    by_cases c2 : insA P (srt P k.toInt.toNat) (P k.toInt.toNat).toInt k.toInt.toNat < j ∧ j ≤ k.toInt.toNat
    · rw [if_pos c2, if_pos c2]; exact h (j - 1) (by omega)
    · rw [if_neg c2, if_neg c2]; exact h j (by omega)
theorem srt_next2 {P f g : Nat → Int32} {k k' : Int32} {n : Nat} (h : ∀ j : Nat, (j : Int) < k.toInt → f j = srt P k.toInt.toNat j) (h0 : 0 ≤ k.toInt) (h1 : k'.toInt = k.toInt + 1) (hn : n = k.toInt.toNat) (hg : g = insF f n (insA P f (P k.toNatClampNeg).toInt n) k) : ∀ j : Nat, (j : Int) < k'.toInt → g j = srt P k'.toInt.toNat j := by
  subst hn; exact srt_next h h0 h1 rfl hg
theorem ld_if {g : Nat → Int32} {i k z : Int32} (e : z = g i.toNatClampNeg) (h : i.toInt = k.toInt - 1) (h0 : 0 < k.toInt) : z = g (k.toInt - 1).toNat := ld_at e h h0
/-- worms(sl, w) and led(hole, sl), out of the holes alone -/
def wormsR (S P : Nat → Int32) (n : Nat) (sl w : Int) : Int := if w = -1 then (((wst (srt P n) S P sl n).1 : Nat) : Int) else if w < (((wst (srt P n) S P sl n).1 : Nat) : Int) then ((wst (srt P n) S P sl n).2.1 w.toNat).toInt else -1
def ledR (S P : Nat → Int32) (n : Nat) (sl : Int) (h : Nat) : Int := ((wst (srt P n) S P sl n).2.2 h).toInt
theorem led_of {S P : Nat → Int32} {n : Nat} {sl : Int} {w : Int32} {g o : Nat → Int32} {h : Nat} (hW : WInv (srt P n) S P sl n w g o) (hn : n ≤ 40) (hh : h < n) : (o h).toInt = ledR S P n sl h := by
  obtain ⟨j, hj, he⟩ := srt_all (P := P) n hn h hh
  unfold WInv at hW
  have := hW.2.2.2.2 j hj
  rw [he] at this
  unfold ledR
  rw [this]
theorem worms_of {S P : Nat → Int32} {n : Nat} {sl : Int} {w : Int32} {g o : Nat → Int32} (hW : WInv (srt P n) S P sl n w g o) : (∀ v : Int, v = -1 → w.toInt = wormsR S P n sl v) ∧ (∀ v : Int32, 0 ≤ v.toInt → v.toInt < w.toInt → (g v.toNatClampNeg).toInt = wormsR S P n sl v.toInt) ∧ (∀ v : Int, 0 ≤ v → w.toInt ≤ v → -1 = wormsR S P n sl v) := by
  unfold WInv at hW
  obtain ⟨h1, _, _, h4, _⟩ := hW
  unfold wormsR
  refine ⟨fun v hv => ?_, fun v h0 hl => ?_, fun v h0 hl => ?_⟩
  · rw [if_pos hv]; exact h1
  · rw [if_neg (by omega), if_pos (by omega)]
    have e2 : v.toNatClampNeg = v.toInt.toNat := rfl
    rw [e2, h4 _ (by omega)]
  · rw [if_neg (by omega), if_neg (by omega)]
theorem worms_congr {S S' P P' : Nat → Int32} {n n' : Nat} {sl sl' w w' : Int} (h1 : S = S') (h2 : P = P') (h3 : n = n') (h4 : sl = sl') (h5 : w = w') : wormsR S P n sl w = wormsR S' P' n' sl' w' := by rw [h1, h2, h3, h4, h5]
theorem led_congr {S S' P P' : Nat → Int32} {n n' : Nat} {sl sl' : Int} {h h' : Nat} (h1 : S = S') (h2 : P = P') (h3 : n = n') (h4 : sl = sl') (h5 : h = h') : ledR S P n sl h = ledR S' P' n' sl' h' := by rw [h1, h2, h3, h4, h5]
def bt (x : Int32) (i : Nat) : Bool := x.toBitVec.getLsbD i
theorem b_ext {x y : Int32} (h : ∀ i, i < 32 → bt x i = bt y i) : x = y := Int32.toBitVec_inj.mp (BitVec.eq_of_getLsbD_eq (fun i hi => h i hi))
theorem b_or (x y : Int32) (i : Nat) : bt (x ||| y) i = (bt x i || bt y i) := by unfold bt; rw [Int32.toBitVec_or, BitVec.getLsbD_or]
theorem b_and (x y : Int32) (i : Nat) : bt (x &&& y) i = (bt x i && bt y i) := by unfold bt; rw [Int32.toBitVec_and, BitVec.getLsbD_and]
theorem b_xor (x y : Int32) (i : Nat) : bt (x ^^^ y) i = (bt x i ^^ bt y i) := by unfold bt; rw [Int32.toBitVec_xor, BitVec.getLsbD_xor]
theorem b_big {x : Int32} {i : Nat} (h : 32 ≤ i) : bt x i = false := BitVec.getLsbD_of_ge _ _ h
theorem b_255 (i : Nat) : bt 255 i = decide (i < 8) := by
  rcases Nat.lt_or_ge i 32 with h | h
  · exact (by decide +kernel : ∀ i, i < 32 → bt 255 i = decide (i < 8)) i h
  · rw [b_big h, decide_eq_false (by omega)]
theorem b_65535 (i : Nat) : bt 65535 i = decide (i < 16) := by
  rcases Nat.lt_or_ge i 32 with h | h
  · exact (by decide +kernel : ∀ i, i < 32 → bt 65535 i = decide (i < 16)) i h
  · rw [b_big h, decide_eq_false (by omega)]
theorem b_m1 : ∀ i, i < 32 → bt (-1) i = true := by decide +kernel
theorem b_0 (i : Nat) : bt 0 i = false := BitVec.getLsbD_zero
theorem s_l : ∀ n, n < 32 → ((nI n &&& 31).toBitVec.smod 32).toNat = n := by decide +kernel
theorem s_u : ∀ n, n < 32 → (((nI n).toUInt32 &&& Int32.toUInt32 31).toBitVec % 32).toNat = n := by decide +kernel
theorem b_shl (n : Nat) (hn : n < 32) (x : Int32) {i : Nat} (hi : i < 32) : bt (x <<< (nI n &&& 31)) i = (decide (n ≤ i) && bt x (i - n)) := by
  unfold bt
  rw [Int32.toBitVec_shiftLeft]
  show (x.toBitVec <<< ((nI n &&& 31).toBitVec.smod 32).toNat).getLsbD i = _
  rw [s_l n hn, BitVec.getLsbD_shiftLeft]
  rcases Nat.lt_or_ge i n with h | h
  · simp [h, Nat.not_le.mpr h]
  · simp [hi, h, Nat.not_lt.mpr h]
theorem b_ushr (n : Nat) (hn : n < 32) (x : Int32) (i : Nat) : bt ((x.toUInt32 >>> ((nI n).toUInt32 &&& Int32.toUInt32 31)).toInt32) i = bt x (n + i) := by
  show (x.toUInt32 >>> ((nI n).toUInt32 &&& Int32.toUInt32 31)).toBitVec.getLsbD i = x.toUInt32.toBitVec.getLsbD (n + i)
  rw [UInt32.toBitVec_shiftRight]
  show (x.toUInt32.toBitVec >>> (((nI n).toUInt32 &&& Int32.toUInt32 31).toBitVec % 32).toNat).getLsbD i = _
  rw [s_u n hn, BitVec.getLsbD_ushiftRight]
theorem b_sshr (n : Nat) (hn : n < 32) (x : Int32) {i : Nat} (hi : i < 32) : bt (x >>> (nI n &&& 31)) i = if n + i < 32 then bt x (n + i) else bt x 31 := by
  unfold bt
  rw [Int32.toBitVec_shiftRight]
  show (x.toBitVec.sshiftRight ((nI n &&& 31).toBitVec.smod 32).toNat).getLsbD i = _
  rw [s_l n hn, BitVec.getLsbD_sshiftRight, BitVec.msb_eq_getLsbD_last]
  simp [hi]
theorem i_m1 : ((-1 : Int32)).toInt = -1 := by decide
theorem i_p0 : ((0 : Int32)).toInt = 0 := by decide
theorem i_p1 : ((1 : Int32)).toInt = 1 := by decide
theorem hq_of {r : Int32} {P : Prop} (h : (r.toInt = 1 ∧ P) ∨ (r.toInt = 0 ∧ ¬ P)) : (r.toInt = 1 ∧ P) ∨ (r.toInt = 0 ∧ ¬ P) := h
theorem no_of {r : Int32} {P : Prop} (h : (r.toInt = 1 ∧ P) ∨ (r.toInt = 0 ∧ ¬ P)) (h0 : r.toInt = 0) : ¬ P := by
  rcases h with ⟨h1, _⟩ | ⟨_, h2⟩
  · exact absurd h1 (by omega)
  · exact h2
theorem yes_of {r : Int32} {P : Prop} (h : (r.toInt = 1 ∧ P) ∨ (r.toInt = 0 ∧ ¬ P)) (h0 : ¬ r.toInt = 0) : P := by
  rcases h with ⟨_, h1⟩ | ⟨h2, _⟩
  · exact h1
  · exact absurd h2 h0
theorem nI_ofI {x : Int32} (h : 0 ≤ x.toInt) : x = nI x.toInt.toNat := ci_inj (by rw [nI_toInt (by have := ci_rng x; omega)]; omega)
theorem b_one : ∀ i, i < 32 → bt 1 i = decide (i = 0) := by decide +kernel
/-- whether a bit is set -/
def hasI (x : Int32) (s : Int) : Prop := bt x s.toNat = true
theorem has_bt {x y z1 z2 : Int32} (e1 : z1 = x >>> (y &&& 31)) (e2 : z2 = z1 &&& 1) (h0 : 0 ≤ y.toInt) (h1 : y.toInt ≤ 31) : z2.toInt ≠ 0 ↔ hasI x y.toInt := by
  have ey := nI_ofI h0
  unfold hasI
  obtain ⟨n, hn⟩ : ∃ n : Nat, n = y.toInt.toNat := ⟨_, rfl⟩
  rw [← hn] at ey ⊢
  have hn2 : n < 32 := by omega
  have hb : ∀ i, i < 32 → bt z2 i = (decide (i = 0) && bt x n) := fun i hi => by
    rw [e2, b_and, b_one i hi, e1, ey, b_sshr n hn2 x hi]
    by_cases c : i = 0
    · rw [c, if_pos (by omega), Nat.add_zero, decide_eq_true rfl, Bool.and_true, Bool.true_and]
    · rw [decide_eq_false c, Bool.and_false, Bool.false_and]
  cases hx : bt x n
  · have ez : z2 = 0 := b_ext (fun i hi => by rw [hb i hi, hx, Bool.and_false, b_0])
    rw [ez]
    exact ⟨fun h => absurd i_p0 h, fun h => absurd h Bool.false_ne_true⟩
  · have ez : z2 = 1 := b_ext (fun i hi => by rw [hb i hi, hx, Bool.and_true, b_one i hi])
    rw [ez]
    exact ⟨fun _ => rfl, fun _ => by decide⟩
theorem bw_tab : ∀ s : Nat, s < 6 → ∀ i : Nat, i < 32 → bt (bitW (nI s)) i = decide (i = s) := by decide +kernel
theorem bw_ntab : ∀ s : Nat, s < 6 → ∀ i : Nat, i < 32 → bt (bitW (nI s) ^^^ (-1)) i = decide (i ≠ s) := by decide +kernel
theorem bw_bit {s : Int32} (h0 : 0 ≤ s.toInt) (h1 : s.toInt ≤ 5) {i : Nat} (hi : i < 32) : bt (bitW s) i = true ↔ (i : Int) = s.toInt := by
  rw [nI_ofI h0, bw_tab _ (by omega) i hi, decide_eq_true_eq, nI_toInt (by omega)]
  omega
theorem bw_nbit {s : Int32} (h0 : 0 ≤ s.toInt) (h1 : s.toInt ≤ 5) {i : Nat} (hi : i < 32) : bt (bitW s ^^^ (-1)) i = true ↔ (i : Int) ≠ s.toInt := by
  rw [nI_ofI h0, bw_ntab _ (by omega) i hi, decide_eq_true_eq, nI_toInt (by omega)]
  omega

theorem has_01 {x y z1 z2 : Int32} (e1 : z1 = x >>> (y &&& 31)) (e2 : z2 = z1 &&& 1) : z2.toInt = 0 ∨ z2.toInt = 1 := by
  have hb : ∀ i, i < 32 → bt z2 i = (bt z1 i && decide (i = 0)) := fun i hi => by rw [e2, b_and, b_one i hi]
  cases hx : bt z1 0
  · refine Or.inl ?_
    have ez : z2 = 0 := b_ext (fun i hi => by
      rw [hb i hi, b_0]
      by_cases c : i = 0
      · rw [c, hx, Bool.false_and]
      · rw [decide_eq_false c, Bool.and_false])
    rw [ez]; decide
  · refine Or.inr ?_
    have ez : z2 = 1 := b_ext (fun i hi => by
      rw [hb i hi, b_one i hi]
      by_cases c : i = 0
      · rw [c, hx, Bool.true_and]
      · rw [decide_eq_false c, Bool.and_false])
    rw [ez]; decide
theorem bw8_tab : ∀ s : Nat, s < 8 → ∀ i : Nat, i < 32 → bt (bitW (nI s)) i = decide (i = s) := by decide +kernel
theorem bw_8 {s : Int32} (h0 : 0 ≤ s.toInt) (h1 : s.toInt ≤ 7) {i : Nat} (hi : i < 32) : bt (bitW s) i = decide (i = s.toInt.toNat) := by
  obtain ⟨n, hn⟩ : ∃ n : Nat, n = s.toInt.toNat := ⟨_, rfl⟩
  have e := nI_ofI h0
  rw [← hn] at e ⊢
  rw [e, bw8_tab n (by omega) i hi]
theorem bt_not {x : Int32} {i : Nat} (hi : i < 32) : bt (x ^^^ (-1)) i = !bt x i := by rw [b_xor, b_m1 i hi, Bool.xor_true]
theorem b_nz {x : Int32} {i : Nat} (h : bt x i = true) : x.toInt ≠ 0 := fun e => by
  have e2 : x = 0 := ci_inj (by rw [e]; decide)
  rw [e2, b_0] at h
  exact Bool.false_ne_true h
/-- the set of what lies there: B and the first m of a -/
def uF (B : Int32) (a : Nat → Int32) : Nat → Int32
  | 0 => B
  | j + 1 => uF B a j ||| bitW (a j)
theorem uF_congr {B : Int32} {a a' : Nat → Int32} : ∀ m : Nat, (∀ j : Nat, j < m → a j = a' j) → uF B a m = uF B a' m
  | 0, _ => rfl
  | m + 1, h => by
    show uF B a m ||| bitW (a m) = uF B a' m ||| bitW (a' m)
    rw [uF_congr m (fun j hj => h j (by omega)), h m (by omega)]
/-- a worm w that has begun and not ended lets only its own sheets lie next -/
def okJ (w U a : Int32) : Prop := (w &&& U).toInt ≠ 0 → (w &&& (U ^^^ (-1))).toInt ≠ 0 → hasI w a.toInt
def okW (w : Int32) (a : Nat → Int32) (m : Int) : Prop := ∀ j : Nat, (j : Int) < m → okJ w (uF 0 a j) (a j)
def letP (g a : Nat → Int32) (nw m : Int) : Prop := ∀ k : Nat, (k : Int) < nw → okW (g k) a m
def dsP (a : Nat → Int32) (m : Int) : Prop := ∀ j : Nat, (j : Int) < m → ¬ hasI (uF 0 a j) (a j).toInt
def stI (b : Int) (x : Int32) : Prop := (b = 1 ∧ x.toInt ≠ 0) ∨ (b = 0 ∧ x.toInt = 0)
theorem ls_zero {w L : Int32} {a : Nat → Int32} {k : Int32} (h : L = w) (hk : k.toInt = 0) : L = w &&& (uF 0 a k.toInt.toNat ^^^ (-1)) := by
  rw [h, hk]
  exact b_ext (fun i hi => by
    rw [b_and, bt_not hi]
    show bt w i = (bt w i && !bt (0 : Int32) i)
    rw [b_0, Bool.not_false, Bool.and_true])
theorem st_zero {w : Int32} {a : Nat → Int32} {b : Int} {k : Int32} (h : b = 0) (hk : k.toInt = 0) : stI b (w &&& uF 0 a k.toInt.toNat) := by
  rw [hk]
  refine Or.inr ⟨h, ?_⟩
  have e : w &&& uF 0 a (0 : Int).toNat = 0 := b_ext (fun i hi => by
    rw [b_and, b_0]
    show (bt w i && bt (0 : Int32) i) = false
    rw [b_0, Bool.and_false])
  rw [e]; decide
theorem ok_zero {w : Int32} {a : Nat → Int32} {m : Int} (h : m ≤ 0) : okW w a m := fun j hj => by omega
theorem ls_on {w L y z n b : Int32} {a : Nat → Int32} {k k' : Int32} (hL : L = w &&& (uF 0 a k.toInt.toNat ^^^ (-1))) (h0 : 0 ≤ k.toInt) (h1 : k'.toInt = k.toInt + 1) (hy : y = a k.toInt.toNat) (y0 : 0 ≤ y.toInt) (y7 : y.toInt ≤ 7) (hb : b = (1 : Int32) <<< (y &&& 31)) (hn : n = b ^^^ (-1)) (hz : z = L &&& n) : z = w &&& (uF 0 a k'.toInt.toNat ^^^ (-1)) := by
  have e : k'.toInt.toNat = k.toInt.toNat + 1 := by omega
  have hb2 : b = bitW y := hb
  rw [e, hz, hL, hn, hb2]
  exact b_ext (fun i hi => by
    rw [b_and, b_and, b_and, bt_not hi, bt_not hi, bt_not hi]
    show (bt w i && !bt (uF 0 a k.toInt.toNat) i && !bt (bitW y) i) = (bt w i && !bt (uF 0 a k.toInt.toNat ||| bitW (a k.toInt.toNat)) i)
    rw [b_or, ← hy, Bool.not_or, Bool.and_assoc])
theorem ls_off {w L x : Int32} {a : Nat → Int32} {k k' : Int32} (hL : L = w &&& (uF 0 a k.toInt.toNat ^^^ (-1))) (h0 : 0 ≤ k.toInt) (h1 : k'.toInt = k.toInt + 1) (hx : x = a k.toInt.toNat) (x0 : 0 ≤ x.toInt) (x7 : x.toInt ≤ 7) (hno : ¬ hasI L x.toInt) : L = w &&& (uF 0 a k'.toInt.toNat ^^^ (-1)) := by
  have e : k'.toInt.toNat = k.toInt.toNat + 1 := by omega
  unfold hasI at hno
  rw [e]
  exact b_ext (fun i hi => by
    rw [b_and, bt_not hi]
    show bt L i = (bt w i && !bt (uF 0 a k.toInt.toNat ||| bitW (a k.toInt.toNat)) i)
    have hl : bt L i = (bt w i && !bt (uF 0 a k.toInt.toNat) i) := by rw [hL, b_and, bt_not hi]
    rw [b_or, ← hx, bw_8 x0 x7 hi]
    by_cases c : i = x.toInt.toNat
    · rw [decide_eq_true c, Bool.or_true, Bool.not_true, Bool.and_false]
      rw [← c] at hno
      exact Bool.eq_false_iff.mpr hno
    · rw [decide_eq_false c, Bool.or_false, hl])
theorem ls_has {w L x : Int32} {U : Int32} (hL : L = w &&& (U ^^^ (-1))) (x0 : 0 ≤ x.toInt) (x7 : x.toInt ≤ 7) (hd : ¬ hasI U x.toInt) : hasI L x.toInt ↔ hasI w x.toInt := by
  unfold hasI at hd ⊢
  rw [hL, b_and, bt_not (by omega), Bool.eq_false_iff.mpr hd, Bool.not_false, Bool.and_true]
theorem st_on {w x : Int32} {a : Nat → Int32} {b : Int} {k k' : Int32} (h0 : 0 ≤ k.toInt) (h1 : k'.toInt = k.toInt + 1) (hx : x = a k.toInt.toNat) (x0 : 0 ≤ x.toInt) (x7 : x.toInt ≤ 7) (hw : hasI w x.toInt) (hb : b = 1) : stI b (w &&& uF 0 a k'.toInt.toNat) := by
  have e : k'.toInt.toNat = k.toInt.toNat + 1 := by omega
  unfold hasI at hw
  rw [e]
  refine Or.inl ⟨hb, b_nz (i := x.toInt.toNat) ?_⟩
  rw [b_and, hw, Bool.true_and]
  show bt (uF 0 a k.toInt.toNat ||| bitW (a k.toInt.toNat)) x.toInt.toNat = true
  rw [b_or, ← hx, bw_8 x0 x7 (by omega), decide_eq_true rfl, Bool.or_true]
theorem st_off {w x : Int32} {a : Nat → Int32} {b : Int} {k k' : Int32} (hS : stI b (w &&& uF 0 a k.toInt.toNat)) (h0 : 0 ≤ k.toInt) (h1 : k'.toInt = k.toInt + 1) (hx : x = a k.toInt.toNat) (x0 : 0 ≤ x.toInt) (x7 : x.toInt ≤ 7) (hw : ¬ hasI w x.toInt) : stI b (w &&& uF 0 a k'.toInt.toNat) := by
  have e : k'.toInt.toNat = k.toInt.toNat + 1 := by omega
  unfold hasI at hw
  have e2 : w &&& uF 0 a k'.toInt.toNat = w &&& uF 0 a k.toInt.toNat := by
    rw [e]
    exact b_ext (fun i hi => by
      rw [b_and, b_and]
      show (bt w i && bt (uF 0 a k.toInt.toNat ||| bitW (a k.toInt.toNat)) i) = _
      rw [b_or, ← hx, bw_8 x0 x7 hi]
      by_cases c : i = x.toInt.toNat
      · rw [← c] at hw
        rw [Bool.eq_false_iff.mpr hw, Bool.false_and, Bool.false_and]
      · rw [decide_eq_false c, Bool.or_false])
  rw [e2]; exact hS
theorem ok_step {w : Int32} {a : Nat → Int32} {k k' : Int32} (h : okW w a k.toInt) (h0 : 0 ≤ k.toInt) (h1 : k'.toInt = k.toInt + 1) (hj : okJ w (uF 0 a k.toInt.toNat) (a k.toInt.toNat)) : okW w a k'.toInt := fun j hj2 => by
  by_cases c : (j : Int) < k.toInt
  · exact h j c
  · have e : j = k.toInt.toNat := by omega
    rw [e]; exact hj
theorem let_zero {g a : Nat → Int32} {nw m : Int} (h : nw ≤ 0) : letP g a nw m := fun k hk => by omega
theorem let_step {g a : Nat → Int32} {m : Int} {k k' : Int32} (h : letP g a k.toInt m) (h0 : 0 ≤ k.toInt) (h1 : k'.toInt = k.toInt + 1) (hk : okW (g k.toNatClampNeg) a m) : letP g a k'.toInt m := fun j hj => by
  by_cases c : (j : Int) < k.toInt
  · exact h j c
  · have e : j = k.toNatClampNeg := by have e2 : k.toNatClampNeg = k.toInt.toNat := rfl; omega
    rw [e]; exact hk
theorem ok_end {w : Int32} {a : Nat → Int32} {k m : Int} (h : okW w a k) (e : m ≤ k) : okW w a m := fun j hj => h j (by omega)
theorem let_end {g a : Nat → Int32} {k nw m : Int} (h : letP g a k m) (e : nw ≤ k) : letP g a nw m := fun j hj => h j (by omega)
theorem let_no {g a : Nat → Int32} {nw m : Int} {k : Int32} {j : Int32} (h0 : 0 ≤ k.toInt) (hk : k.toInt < nw) (j0 : 0 ≤ j.toInt) (hj : j.toInt < m) (hn : ¬ okJ (g k.toNatClampNeg) (uF 0 a j.toInt.toNat) (a j.toInt.toNat)) : ¬ letP g a nw m := fun h => by
  have e2 : k.toNatClampNeg = k.toInt.toNat := rfl
  exact hn (h k.toNatClampNeg (by omega) j.toInt.toNat (by omega))

def filled (f : Nat → Int32) (n : Int) (v : Int32) : Prop := ∀ j : Nat, (j : Int) < n → f j = v
theorem fl_of {f : Nat → Int32} {n : Int} {v : Int32} (h : filled f n v) : filled f n v := h
theorem fill_zero {f : Nat → Int32} {n : Int} {v : Int32} (h : n ≤ 0) : filled f n v := fun j hj => by omega
theorem fill_step {f f' : Nat → Int32} {k k' v : Int32} (h : filled f k.toInt v) (h0 : 0 ≤ k.toInt) (h1 : k'.toInt = k.toInt + 1) (hs : f' = upd f k.toNatClampNeg v) : filled f' k'.toInt v := fun j hj => by
  rw [hs]
  have e2 : k.toNatClampNeg = k.toInt.toNat := rfl
  show (if j = k.toNatClampNeg then v else f j) = v
  by_cases c : j = k.toNatClampNeg
  · rw [if_pos c]
  · rw [if_neg c]; exact h j (by omega)
theorem fill_end {f : Nat → Int32} {k n : Int} {v : Int32} (h : filled f k v) (hn : n ≤ k) : filled f n v := fun j hj => h j (by omega)
/-! which sheets may lie next, and how many orders go on from there -/
def fB (g : Nat → Int32) (L : Int32) (s k : Nat) : Bool := decide ((g k &&& L).toInt = 0) || decide ((g k &&& (L ^^^ (-1))).toInt = 0) || bt (g k) s
def mayB (g : Nat → Int32) (nw : Nat) (al L : Int32) (s : Nat) : Bool := (bt al s && !bt L s) && (List.range nw).all (fB g L s)
theorem mayB_succ {g : Nat → Int32} {k : Nat} {al L : Int32} {s : Nat} : mayB g (k + 1) al L s = (mayB g k al L s && fB g L s k) := by
  show ((bt al s && !bt L s) && (List.range (k + 1)).all (fB g L s)) = (((bt al s && !bt L s) && (List.range k).all (fB g L s)) && fB g L s k)
  rw [List.range_succ, List.all_append]
  generalize (bt al s && !bt L s) = A
  show (A && ((List.range k).all (fB g L s) && (fB g L s k && true))) = _
  rw [Bool.and_true, Bool.and_assoc]
def mayI (g : Nat → Int32) (al L m : Int32) (k : Nat) : Prop := ∀ s : Nat, s < 32 → bt m s = mayB g k al L s
theorem may_zero {g : Nat → Int32} {al L m n : Int32} {k : Int32} (hn : n = L ^^^ (-1)) (h : m = al &&& n) (hk : k.toInt = 0) : mayI g al L m k.toInt.toNat := fun s hs => by
  rw [h, hn, b_and, bt_not hs, hk]
  show _ = ((bt al s && !bt L s) && true)
  rw [Bool.and_true]
theorem may_keep {g : Nat → Int32} {al L m : Int32} {k k' : Int32} (h : mayI g al L m k.toInt.toNat) (h0 : 0 ≤ k.toInt) (h1 : k'.toInt = k.toInt + 1) (hc : (g k.toInt.toNat &&& L).toInt = 0 ∨ (g k.toInt.toNat &&& (L ^^^ (-1))).toInt = 0) : mayI g al L m k'.toInt.toNat := fun s hs => by
  have e : k'.toInt.toNat = k.toInt.toNat + 1 := by omega
  rw [e, mayB_succ, ← h s hs]
  have hf : fB g L s k.toInt.toNat = true := by
    unfold fB
    rcases hc with hc | hc
    · rw [decide_eq_true hc, Bool.true_or, Bool.true_or]
    · rw [decide_eq_true hc, Bool.or_true, Bool.true_or]
  rw [hf, Bool.and_true]
theorem may_cut {g : Nat → Int32} {al L m m' v : Int32} {k k' : Int32} (h : mayI g al L m k.toInt.toNat) (h0 : 0 ≤ k.toInt) (h1 : k'.toInt = k.toInt + 1) (hc1 : (g k.toInt.toNat &&& L).toInt ≠ 0) (hc2 : (g k.toInt.toNat &&& (L ^^^ (-1))).toInt ≠ 0) (hv : v = g k.toInt.toNat) (hm : m' = m &&& v) : mayI g al L m' k'.toInt.toNat := fun s hs => by
  have e : k'.toInt.toNat = k.toInt.toNat + 1 := by omega
  rw [e, mayB_succ, ← h s hs, hm, b_and, hv]
  have hf : fB g L s k.toInt.toNat = bt (g k.toInt.toNat) s := by
    unfold fB
    rw [decide_eq_false hc1, decide_eq_false hc2, Bool.false_or, Bool.false_or]
  rw [hf]
def thP (g : Nat → Int32) (al L : Int32) (n : Nat) (r : Int32) : Prop := ((L &&& (al ^^^ (-1))).toInt = 0 → mayI g al L r n) ∧ ((L &&& (al ^^^ (-1))).toInt ≠ 0 → r = 0)
def sumT (h : Nat → Nat) : Nat → Nat
  | 0 => 0
  | k + 1 => sumT h k + h k
theorem sumT_congr {h h' : Nat → Nat} : ∀ k : Nat, (∀ s : Nat, s < k → h s = h' s) → sumT h k = sumT h' k
  | 0, _ => rfl
  | k + 1, e => by
    show sumT h k + h k = sumT h' k + h' k
    rw [sumT_congr k (fun s hs => e s (by omega)), e k (by omega)]
theorem sumT_le {h : Nat → Nat} {b : Nat} : ∀ k : Nat, (∀ s : Nat, s < k → h s ≤ b) → sumT h k ≤ k * b
  | 0, _ => Nat.zero_le _
  | k + 1, e => by
    show sumT h k + h k ≤ (k + 1) * b
    have h1 := sumT_le (h := h) (b := b) k (fun s hs => e s (by omega))
    have h2 := e k (by omega)
    rw [Nat.succ_mul]
    omega
theorem sumT_mono {h : Nat → Nat} {k : Nat} : ∀ m : Nat, k ≤ m → sumT h k ≤ sumT h m
  | 0, e => by rw [show k = 0 by omega]; exact Nat.le_refl _
  | m + 1, e => by
    by_cases c : k = m + 1
    · rw [c]; exact Nat.le_refl _
    · have := sumT_mono (h := h) m (show k ≤ m by omega)
      show _ ≤ sumT h m + h m
      omega
theorem sumT_pos {h : Nat → Nat} : ∀ k : Nat, 0 < sumT h k → ∃ s : Nat, s < k ∧ 0 < h s
  | 0, e => absurd e (Nat.lt_irrefl 0)
  | k + 1, e => by
    have e : 0 < sumT h k + h k := e
    by_cases c : 0 < h k
    · exact ⟨k, by omega, c⟩
    · obtain ⟨s, hs, hp⟩ := sumT_pos (h := h) k (by omega)
      exact ⟨s, by omega, hp⟩
theorem sumT_zero {h : Nat → Nat} : ∀ k : Nat, (∀ s : Nat, s < k → h s = 0) → sumT h k = 0
  | 0, _ => rfl
  | k + 1, e => by
    show sumT h k + h k = 0
    rw [sumT_zero k (fun s hs => e s (by omega)), e k (by omega)]
/-- how many orders go on from L, d sheets being left -/
def cN (mb : Int32 → Nat → Bool) : Nat → Int32 → Nat
  | 0, _ => 1
  | d + 1, L => sumT (fun s => if mb L s = true then cN mb d (L ||| bitW (nI s)) else 0) 8
def pw8 : Nat → Nat
  | 0 => 1
  | d + 1 => 8 * pw8 d
theorem cN_le {mb : Int32 → Nat → Bool} : ∀ (d : Nat) (L : Int32), cN mb d L ≤ pw8 d
  | 0, _ => Nat.le_refl 1
  | d + 1, L => by
    show sumT (fun s => if mb L s = true then cN mb d (L ||| bitW (nI s)) else 0) 8 ≤ 8 * pw8 d
    refine sumT_le 8 (fun s _ => ?_)
    show (if mb L s = true then cN mb d (L ||| bitW (nI s)) else 0) ≤ pw8 d
    split
    · exact cN_le d _
    · exact Nat.zero_le _
theorem pw8_le : ∀ d : Nat, d ≤ 8 → pw8 d ≤ 16777216 := by decide +kernel
theorem cN_lt {mb : Int32 → Nat → Bool} {d : Nat} {L : Int32} (h : d ≤ 8) : cN mb d L ≤ 16777216 := Nat.le_trans (cN_le d L) (pw8_le d h)
theorem cN_congr {mb mb' : Int32 → Nat → Bool} (e : ∀ (L : Int32) (s : Nat), s < 8 → mb L s = mb' L s) : ∀ (d : Nat) (L : Int32), cN mb d L = cN mb' d L
  | 0, _ => rfl
  | d + 1, L => sumT_congr 8 (fun s hs => by
    show (if mb L s = true then cN mb d (L ||| bitW (nI s)) else 0) = (if mb' L s = true then cN mb' d (L ||| bitW (nI s)) else 0)
    rw [e L s hs, cN_congr e d])
/-- the first of m from k on with Q; else the end -/
def lstN (Q : Nat → Bool) : Nat → Nat → Nat
  | 0, k => k
  | m + 1, k => if Q k = true then k else lstN Q m (k + 1)
theorem lstN_spec {Q : Nat → Bool} : ∀ (m k t : Nat), k ≤ t → t ≤ k + m → Q t = true → Q (lstN Q m k) = true ∧ lstN Q m k ≤ t
  | 0, k, t, h1, h2, h3 => by
    have e : k = t := by omega
    subst e
    exact ⟨h3, Nat.le_refl _⟩
  | m + 1, k, t, h1, h2, h3 => by
    by_cases c : Q k = true
    · have e : lstN Q (m + 1) k = k := if_pos c
      rw [e]; exact ⟨c, h1⟩
    · have e : lstN Q (m + 1) k = lstN Q m (k + 1) := if_neg c
      rw [e]
      have hne : k ≠ t := fun q => c (by rw [q]; exact h3)
      exact lstN_spec m (k + 1) t (by omega) (by omega) h3
theorem lstN_first {Q : Nat → Bool} : ∀ (m k t : Nat), k ≤ t → t ≤ k + m → Q t = true → (∀ j : Nat, k ≤ j → j < t → Q j = false) → lstN Q m k = t
  | 0, k, t, h1, h2, _, _ => by show k = t; omega
  | m + 1, k, t, h1, h2, h3, h4 => by
    by_cases c : k = t
    · subst c; exact if_pos h3
    · have e : lstN Q (m + 1) k = lstN Q m (k + 1) := if_neg (by rw [h4 k (Nat.le_refl _) (by omega)]; exact Bool.false_ne_true)
      rw [e]
      exact lstN_first m (k + 1) t (by omega) (by omega) h3 (fun j a b => h4 j (by omega) b)
def goB (mb : Int32 → Nat → Bool) (d : Nat) (L : Int32) (s : Nat) : Bool := mb L s && decide (0 < cN mb d (L ||| bitW (nI s)))
/-- the first order's digits from L on, d sheets being left -/
def fN (mb : Int32 → Nat → Bool) : Nat → Int32 → Int32 → Int32
  | 0, _, D => D
  | d + 1, L, D => fN mb d (L ||| bitW (nI (lstN (goB mb d L) 7 0))) (10 * D + nI (lstN (goB mb d L) 7 0) + 1)
theorem fN_congr {mb mb' : Int32 → Nat → Bool} (e : ∀ (L : Int32) (s : Nat), s < 8 → mb L s = mb' L s) : ∀ (d : Nat) (L D : Int32), fN mb d L D = fN mb' d L D
  | 0, _, _ => rfl
  | d + 1, L, D => by
    have hl : ∀ (m k : Nat), k + m ≤ 8 → lstN (goB mb d L) m k = lstN (goB mb' d L) m k := fun m => by
      induction m with
      | zero => intro k _; rfl
      | succ m ih =>
        intro k hk
        have eq : goB mb d L k = goB mb' d L k := by unfold goB; rw [e L k (by omega), cN_congr e]
        show (if goB mb d L k = true then k else lstN (goB mb d L) m (k + 1)) = (if goB mb' d L k = true then k else lstN (goB mb' d L) m (k + 1))
        rw [eq, ih (k + 1) (by omega)]
    show fN mb d (L ||| bitW (nI (lstN (goB mb d L) 7 0))) (10 * D + nI (lstN (goB mb d L) 7 0) + 1) = fN mb' d (L ||| bitW (nI (lstN (goB mb' d L) 7 0))) (10 * D + nI (lstN (goB mb' d L) 7 0) + 1)
    rw [hl 7 0 (by omega), fN_congr e d]
theorem nI_sum (a b : Nat) : nI (a + b) = nI a + nI b := Int32.toBitVec_inj.mp (by
  show BitVec.ofNat 32 (a + b) = BitVec.ofNat 32 a + BitVec.ofNat 32 b
  exact BitVec.ofNat_add ..)
def pcN (L : Nat) : Nat := sumT (fun s => if L.testBit s = true then 1 else 0) 8
theorem tab_or : ∀ L : Nat, L < 256 → ∀ s : Nat, s < 8 → L.testBit s = false → nI L ||| bitW (nI s) = nI (L ||| 2 ^ s) ∧ L < L ||| 2 ^ s ∧ L ||| 2 ^ s < 256 ∧ pcN (L ||| 2 ^ s) = pcN L + 1 := by decide +kernel
theorem tab_bt : ∀ L : Nat, L < 256 → ∀ s : Nat, s < 32 → bt (nI L) s = L.testBit s := by decide +kernel
theorem tab_all : ∀ c : Nat, c < 9 → allB (nI c) = nI (2 ^ c - 1) := by decide +kernel
theorem tab_albt : ∀ c : Nat, c < 9 → ∀ s : Nat, s < 8 → bt (nI (2 ^ c - 1)) s = decide (s < c) := by decide +kernel
theorem tab_p2 : ∀ c : Nat, c < 9 → 2 ^ c ≤ 256 ∧ 0 < 2 ^ c := by decide +kernel
theorem tab_pc8 : ∀ L : Nat, L < 256 → pcN L ≤ 8 := by decide +kernel
/-! sets among those of A -/
def sb (A j : Nat) : Prop := j &&& A = j
theorem sb_le {A j : Nat} (h : sb A j) : j ≤ A := by
  unfold sb at h
  rw [← h]; exact Nat.and_le_right
theorem sb_0 {A : Nat} : sb A 0 := Nat.zero_and A
theorem sb_self {A : Nat} : sb A A := Nat.and_self A
theorem sb_bit {A j s : Nat} (h : sb A j) (t : j.testBit s = true) : A.testBit s = true := by
  unfold sb at h
  rw [← h, Nat.testBit_and, Bool.and_eq_true] at t
  exact t.2
theorem tb_hi {L s : Nat} (h : L < 256) (hs : 8 ≤ s) : L.testBit s = false := Nat.testBit_lt_two_pow (Nat.lt_of_lt_of_le h (Nat.le_trans (by decide : 256 ≤ 2 ^ 8) (Nat.pow_le_pow_right (by decide) hs)))
theorem sbs_of {A j : Nat} (hj : j < 256) (h : ∀ s : Nat, s < 8 → j.testBit s = true → A.testBit s = true) : sb A j := Nat.eq_of_testBit_eq (fun i => by
  rw [Nat.testBit_and]
  cases hx : j.testBit i
  · rw [Bool.false_and]
  · by_cases c : i < 8
    · rw [h i c hx, Bool.true_and]
    · rw [tb_hi hj (by omega)] at hx
      exact absurd hx Bool.false_ne_true)
theorem sb_or {A L s : Nat} (hL : L < 256) (hs : s < 8) (h : sb A L) (t : A.testBit s = true) : sb A (L ||| 2 ^ s) := by
  refine sbs_of (Nat.or_lt_two_pow (n := 8) hL (Nat.pow_lt_pow_right (by decide) hs)) (fun i _ hi => ?_)
  rw [Nat.testBit_or, Bool.or_eq_true, Nat.testBit_two_pow, decide_eq_true_eq] at hi
  rcases hi with hi | hi
  · exact sb_bit h hi
  · rw [← hi]; exact t
theorem sumT_mono2 {h h' : Nat → Nat} : ∀ k : Nat, (∀ s : Nat, s < k → h s ≤ h' s) → sumT h k ≤ sumT h' k
  | 0, _ => Nat.le_refl _
  | k + 1, e => by
    have := sumT_mono2 (h := h) (h' := h') k (fun s hs => e s (by omega))
    have := e k (by omega)
    show sumT h k + h k ≤ sumT h' k + h' k
    omega
theorem sumT_same {h h' : Nat → Nat} : ∀ k : Nat, (∀ s : Nat, s < k → h s ≤ h' s) → sumT h k = sumT h' k → ∀ s : Nat, s < k → h s = h' s
  | 0, _, _, s, hs => absurd hs (Nat.not_lt_zero s)
  | k + 1, e, q, s, hs => by
    have q : sumT h k + h k = sumT h' k + h' k := q
    have h1 := sumT_mono2 (h := h) (h' := h') k (fun s hs => e s (by omega))
    have h2 := e k (by omega)
    by_cases c : s = k
    · rw [c]; omega
    · exact sumT_same k (fun s hs => e s (by omega)) (by omega) s (by omega)
theorem sb_pc {A j : Nat} (hA : A < 256) (h : sb A j) : pcN j ≤ pcN A ∧ (pcN j = pcN A → j = A) := by
  have hj : j < 256 := by have := sb_le h; omega
  have hp : ∀ s : Nat, s < 8 → (if j.testBit s = true then 1 else 0) ≤ (if A.testBit s = true then 1 else 0) := fun s _ => by
    by_cases c : j.testBit s = true
    · rw [if_pos c, if_pos (sb_bit h c)]; exact Nat.le_refl 1
    · rw [if_neg c]; exact Nat.zero_le _
  refine ⟨sumT_mono2 8 hp, fun q => Nat.eq_of_testBit_eq (fun i => ?_)⟩
  by_cases c : i < 8
  · have e := sumT_same 8 hp q i c
    have e : (if j.testBit i = true then 1 else 0) = (if A.testBit i = true then 1 else 0) := e
    cases hx : j.testBit i
    · cases hy : A.testBit i
      · rfl
      · rw [hx, hy, if_neg Bool.false_ne_true, if_pos rfl] at e
        exact absurd e (by decide)
    · rw [sb_bit h hx]
  · rw [tb_hi hj (by omega), tb_hi hA (by omega)]
theorem sb_int {L A : Nat} (hL : L < 256) (hA : A < 256) : (nI L &&& (nI A ^^^ (-1))).toInt = 0 ↔ sb A L := by
  constructor
  · intro h
    have e : nI L &&& (nI A ^^^ (-1)) = 0 := ci_inj (by rw [h]; decide)
    refine sbs_of hL (fun s hs t => ?_)
    have q := congrArg (fun x => bt x s) e
    have q : bt (nI L &&& (nI A ^^^ (-1))) s = bt 0 s := q
    rw [b_0, b_and, bt_not (by omega), tab_bt L hL s (by omega), tab_bt A hA s (by omega), t, Bool.true_and] at q
    cases hx : A.testBit s
    · rw [hx] at q; exact absurd q (by decide)
    · rfl
  · intro h
    have e : nI L &&& (nI A ^^^ (-1)) = 0 := b_ext (fun i hi => by
      rw [b_0, b_and, bt_not hi, tab_bt L hL i hi, tab_bt A hA i hi]
      cases hx : L.testBit i
      · rfl
      · rw [sb_bit h hx]; rfl)
    rw [e]; decide

/-- the class' bits say which sheets may lie next: none from a set that isn't of A -/
def maI (ma : Nat → Int32) (mb : Int32 → Nat → Bool) (A : Nat) : Prop := ∀ L : Nat, L ≤ A → ∀ s : Nat, s < 8 → (bt (ma L) s = true ↔ (sb A L ∧ mb (nI L) s = true))
def woR (wo : Nat → Int32) (mb : Int32 → Nat → Bool) (A j : Nat) : Prop := wo j = nI (cN mb (pcN A - pcN j) (nI j))
/-- after the sets above L are counted -/
def woO (wo : Nat → Int32) (mb : Int32 → Nat → Bool) (A : Nat) (L : Int) : Prop := (∀ j : Nat, L < (j : Int) → sb A j → woR wo mb A j) ∧ ∀ j : Nat, (j : Int) ≤ L → sb A j → wo j = if j = A then 1 else 0
def woS (mb : Int32 → Nat → Bool) (A L k : Nat) : Nat := (if L = A then 1 else 0) + sumT (fun s => if mb (nI L) s = true then cN mb (pcN A - pcN L - 1) (nI L ||| bitW (nI s)) else 0) k
/-- within L, after the sheets below k -/
def woN (wo : Nat → Int32) (mb : Int32 → Nat → Bool) (A L k : Nat) : Prop := (∀ j : Nat, L < j → sb A j → woR wo mb A j) ∧ (∀ j : Nat, j < L → sb A j → wo j = if j = A then 1 else 0) ∧ (sb A L → wo L = nI (woS mb A L k))
/-- what a sheet that may lie next is: of those that there are, and not laid -/
def mbOK (mb : Int32 → Nat → Bool) (A : Nat) : Prop := ∀ (L s : Nat), sb A L → s < 8 → mb (nI L) s = true → A.testBit s = true ∧ L.testBit s = false
theorem nI_of8 {x : Int32} {n : Nat} (h : x.toInt = (n : Int)) (hn : n < 256) : x = nI n := ci_inj (by rw [h, nI_toInt (by omega)])
theorem wo_start {f wo : Nat → Int32} {mb : Int32 → Nat → Bool} {A : Nat} {a z v : Int32} {m : Int} (hf : filled f m z) (hm : 256 ≤ m) (hz : z.toInt = 0) (hA : A < 256) (ha : a.toInt = ((A : Nat) : Int)) (hv : v.toInt = 1) (hs : wo = upd f a.toNatClampNeg v) : woO wo mb A a.toInt := by
  have ez : z = 0 := ci_inj (by rw [hz]; decide)
  have ev : v = 1 := ci_inj (by rw [hv]; decide)
  refine ⟨fun j h1 h2 => by have := sb_le h2; omega, fun j h1 h2 => ?_⟩
  have ea : a.toNatClampNeg = A := by have e2 : a.toNatClampNeg = a.toInt.toNat := rfl; omega
  have := sb_le h2
  rw [hs, ev]
  show (if j = a.toNatClampNeg then (1 : Int32) else f j) = _
  rw [ea]
  by_cases q : j = A
  · rw [if_pos q, if_pos q]
  · rw [if_neg q, if_neg q, hf j (by omega), ez]
theorem wo_in {wo : Nat → Int32} {mb : Int32 → Nat → Bool} {A : Nat} {L k : Int32} (h : woO wo mb A L.toInt) (hL : 0 ≤ L.toInt) (hk : k.toInt = 0) : woN wo mb A L.toInt.toNat k.toInt.toNat := by
  refine ⟨fun j h1 h2 => h.1 j (by omega) h2, fun j h1 h2 => h.2 j (by omega) h2, fun hsb => ?_⟩
  rw [h.2 L.toInt.toNat (by omega) hsb, hk]
  show (if L.toInt.toNat = A then (1 : Int32) else 0) = nI ((if L.toInt.toNat = A then 1 else 0) + 0)
  by_cases q : L.toInt.toNat = A
  · rw [if_pos q, if_pos q]; decide
  · rw [if_neg q, if_neg q]; decide
theorem woS_succ {mb : Int32 → Nat → Bool} {A L k : Nat} : woS mb A L (k + 1) = woS mb A L k + (if mb (nI L) k = true then cN mb (pcN A - pcN L - 1) (nI L ||| bitW (nI k)) else 0) := by
  show (if L = A then 1 else 0) + (sumT (fun s => if mb (nI L) s = true then cN mb (pcN A - pcN L - 1) (nI L ||| bitW (nI s)) else 0) k + (if mb (nI L) k = true then cN mb (pcN A - pcN L - 1) (nI L ||| bitW (nI k)) else 0)) = (if L = A then 1 else 0) + sumT (fun s => if mb (nI L) s = true then cN mb (pcN A - pcN L - 1) (nI L ||| bitW (nI s)) else 0) k + _
  omega
theorem wo_skip {wo ma : Nat → Int32} {mb : Int32 → Nat → Bool} {A : Nat} {L k k' : Int32} (h : woN wo mb A L.toInt.toNat k.toInt.toNat) (hM : maI ma mb A) (hL : 0 ≤ L.toInt) (h0 : 0 ≤ k.toInt) (h8 : k.toInt < 8) (h1 : k'.toInt = k.toInt + 1) (hno : ¬ hasI (ma L.toNatClampNeg) k.toInt) : woN wo mb A L.toInt.toNat k'.toInt.toNat := by
  refine ⟨h.1, h.2.1, fun hsb => ?_⟩
  have e : k'.toInt.toNat = k.toInt.toNat + 1 := by omega
  have e2 : L.toNatClampNeg = L.toInt.toNat := rfl
  unfold hasI at hno
  rw [e2, hM L.toInt.toNat (sb_le hsb) k.toInt.toNat (by omega)] at hno
  rw [e, woS_succ, if_neg (fun q => hno ⟨hsb, q⟩), Nat.add_zero]
  exact h.2.2 hsb
/-- what a set bit of the class' says: the set with the sheet more -/
theorem nx_or {ma : Nat → Int32} {mb : Int32 → Nat → Bool} {A : Nat} {L k x b : Int32} (hM : maI ma mb A) (hB : mbOK mb A) (hA : A < 256) (hL : 0 ≤ L.toInt) (hl : L.toInt ≤ (A : Int)) (h0 : 0 ≤ k.toInt) (h8 : k.toInt < 8) (hyes : hasI (ma L.toNatClampNeg) k.toInt) (hb : b = (1 : Int32) <<< (k &&& 31)) (hx : x = L ||| b) : sb A L.toInt.toNat ∧ mb (nI L.toInt.toNat) k.toInt.toNat = true ∧ A.testBit k.toInt.toNat = true ∧ L.toInt.toNat.testBit k.toInt.toNat = false ∧ x = nI (L.toInt.toNat ||| 2 ^ k.toInt.toNat) ∧ x.toInt.toNat = L.toInt.toNat ||| 2 ^ k.toInt.toNat ∧ sb A (L.toInt.toNat ||| 2 ^ k.toInt.toNat) ∧ L.toInt.toNat < L.toInt.toNat ||| 2 ^ k.toInt.toNat ∧ pcN (L.toInt.toNat ||| 2 ^ k.toInt.toNat) = pcN L.toInt.toNat + 1 ∧ nI L.toInt.toNat ||| bitW (nI k.toInt.toNat) = nI (L.toInt.toNat ||| 2 ^ k.toInt.toNat) := by
  have e2 : L.toNatClampNeg = L.toInt.toNat := rfl
  have eL : L = nI L.toInt.toNat := nI_ofI hL
  have ek : k = nI k.toInt.toNat := nI_ofI h0
  have hb2 : b = bitW k := hb
  unfold hasI at hyes
  rw [e2] at hyes
  obtain ⟨hsb, hyes⟩ := (hM L.toInt.toNat (by omega) k.toInt.toNat (by omega)).mp hyes
  obtain ⟨q1, q2⟩ := hB _ _ hsb (by omega) hyes
  obtain ⟨t1, t2, t3, t4⟩ := tab_or L.toInt.toNat (by omega) k.toInt.toNat (by omega) q2
  have hx2 : x = nI (L.toInt.toNat ||| 2 ^ k.toInt.toNat) := by rw [hx, hb2, ← t1, ← eL, ← ek]
  refine ⟨hsb, hyes, q1, q2, hx2, ?_, sb_or (by omega) (by omega) hsb q1, t2, t4, t1⟩
  rw [hx2, nI_toInt (by omega)]; omega
theorem wo_take {wo wo' ma : Nat → Int32} {mb : Int32 → Nat → Bool} {A : Nat} {L k k' x b v y z : Int32} (h : woN wo mb A L.toInt.toNat k.toInt.toNat) (hM : maI ma mb A) (hB : mbOK mb A) (hA : A < 256) (hL : 0 ≤ L.toInt) (hl : L.toInt ≤ (A : Int)) (h0 : 0 ≤ k.toInt) (h8 : k.toInt < 8) (h1 : k'.toInt = k.toInt + 1) (hyes : hasI (ma L.toNatClampNeg) k.toInt) (hb : b = (1 : Int32) <<< (k &&& 31)) (hx : x = L ||| b) (hv : v = wo x.toNatClampNeg) (hy : y = wo L.toNatClampNeg) (hz : z = y + v) (hs : wo' = upd wo L.toNatClampNeg z) : woN wo' mb A L.toInt.toNat k'.toInt.toNat := by
  obtain ⟨hsb, hm, q1, q2, hx2, hxn, hsx, hlt, hpc, t1⟩ := nx_or hM hB hA hL hl h0 h8 hyes hb hx
  have e : k'.toInt.toNat = k.toInt.toNat + 1 := by omega
  have e2 : L.toNatClampNeg = L.toInt.toNat := rfl
  have e3 : x.toNatClampNeg = x.toInt.toNat := rfl
  rw [e3, hxn] at hv
  rw [e2] at hy hs
  have hv2 : v = nI (cN mb (pcN A - pcN L.toInt.toNat - 1) (nI L.toInt.toNat ||| bitW (nI k.toInt.toNat))) := by
    rw [hv, h.1 _ hlt hsx, hpc, t1, show pcN A - (pcN L.toInt.toNat + 1) = pcN A - pcN L.toInt.toNat - 1 by omega]
  refine ⟨fun j a b2 => ?_, fun j a b2 => ?_, fun _ => ?_⟩
  · unfold woR
    rw [hs]
    show (if j = L.toInt.toNat then z else wo j) = _
    rw [if_neg (by omega)]; exact h.1 j a b2
  · rw [hs]
    show (if j = L.toInt.toNat then z else wo j) = _
    rw [if_neg (by omega)]; exact h.2.1 j a b2
  · rw [hs, e]
    show (if L.toInt.toNat = L.toInt.toNat then z else wo L.toInt.toNat) = _
    rw [if_pos rfl, hz, hy, h.2.2 hsb, hv2, woS_succ, if_pos hm, nI_sum]
theorem mb_full {mb : Int32 → Nat → Bool} {A s : Nat} (hB : mbOK mb A) (hs : s < 8) : ¬ mb (nI A) s = true := fun h => by
  obtain ⟨q1, q2⟩ := hB A s sb_self hs h
  rw [q1] at q2
  exact Bool.false_ne_true q2.symm
theorem wo_out {wo : Nat → Int32} {mb : Int32 → Nat → Bool} {A : Nat} {L L' k : Int32} (h : woN wo mb A L.toInt.toNat k.toInt.toNat) (hB : mbOK mb A) (hA : A < 256) (hL : 0 ≤ L.toInt) (hk : k.toInt = 8) (h1 : L'.toInt = L.toInt - 1) : woO wo mb A L'.toInt := by
  refine ⟨fun j a b => ?_, fun j a b => h.2.1 j (by omega) b⟩
  by_cases q : j = L.toInt.toNat
  · unfold woR
    rw [q] at b ⊢
    rw [h.2.2 b, hk]
    obtain ⟨t1, t2⟩ := sb_pc hA b
    show nI ((if L.toInt.toNat = A then 1 else 0) + sumT (fun s => if mb (nI L.toInt.toNat) s = true then cN mb (pcN A - pcN L.toInt.toNat - 1) (nI L.toInt.toNat ||| bitW (nI s)) else 0) 8) = _
    by_cases q2 : L.toInt.toNat = A
    · rw [if_pos q2, q2, Nat.sub_self]
      rw [sumT_zero 8 (fun s hs => ?_)]
      · rfl
      · show (if mb (nI A) s = true then _ else 0) = 0
        rw [if_neg (mb_full hB hs)]
    · have q3 : pcN L.toInt.toNat ≠ pcN A := fun z => q2 (t2 z)
      obtain ⟨d, hd⟩ : ∃ d : Nat, pcN A - pcN L.toInt.toNat = d + 1 := ⟨pcN A - pcN L.toInt.toNat - 1, by omega⟩
      rw [if_neg q2, hd, Nat.zero_add, Nat.add_sub_cancel]
      rfl
  · exact h.1 j (by omega) b
/-- all counted -/
def woA (wo : Nat → Int32) (mb : Int32 → Nat → Bool) (A : Nat) : Prop := ∀ j : Nat, sb A j → woR wo mb A j
theorem wo_all {wo : Nat → Int32} {mb : Int32 → Nat → Bool} {A : Nat} {L : Int} (h : woO wo mb A L) (hL : L < 0) : woA wo mb A := fun j hj => h.1 j (by omega) hj
theorem wo_pos {wo : Nat → Int32} {mb : Int32 → Nat → Bool} {A j : Nat} (h : woA wo mb A) (hA : A < 256) (hj : sb A j) : (wo j).toInt = ((cN mb (pcN A - pcN j) (nI j) : Nat) : Int) := by
  have e := h j hj
  unfold woR at e
  have := tab_pc8 A hA
  have hl := cN_lt (mb := mb) (d := pcN A - pcN j) (L := nI j) (by omega)
  rw [e, nI_toInt (by omega)]
/-- the least sheet that goes on from L -/
theorem le_go {wo ma : Nat → Int32} {mb : Int32 → Nat → Bool} {A : Nat} {L k x b v : Int32} (hW : woA wo mb A) (hM : maI ma mb A) (hB : mbOK mb A) (hA : A < 256) (hL : 0 ≤ L.toInt) (hl : L.toInt ≤ (A : Int)) (h0 : 0 ≤ k.toInt) (h8 : k.toInt < 8) (hyes : hasI (ma L.toNatClampNeg) k.toInt) (hb : b = (1 : Int32) <<< (k &&& 31)) (hx : x = L ||| b) (hv : v = wo x.toNatClampNeg) : (0 < v.toInt ↔ goB mb (pcN A - pcN L.toInt.toNat - 1) L k.toInt.toNat = true) := by
  obtain ⟨hsb, hm, q1, q2, hx2, hxn, hsx, hlt, hpc, t1⟩ := nx_or hM hB hA hL hl h0 h8 hyes hb hx
  have eL : L = nI L.toInt.toNat := nI_ofI hL
  have e3 : x.toNatClampNeg = x.toInt.toNat := rfl
  have hv2 : v.toInt = ((cN mb (pcN A - pcN L.toInt.toNat - 1) (L ||| bitW (nI k.toInt.toNat)) : Nat) : Int) := by
    have t2 : L ||| bitW (nI k.toInt.toNat) = nI (L.toInt.toNat ||| 2 ^ k.toInt.toNat) := by rw [← t1, ← eL]
    rw [hv, e3, hxn, wo_pos hW hA hsx, hpc, t2, show pcN A - (pcN L.toInt.toNat + 1) = pcN A - pcN L.toInt.toNat - 1 by omega]
  have hm2 : mb L k.toInt.toNat = true := by rw [eL]; exact hm
  unfold goB
  rw [hv2, hm2, Bool.true_and, decide_eq_true_eq]
  omega
theorem le_no {ma : Nat → Int32} {mb : Int32 → Nat → Bool} {A d : Nat} {L k : Int32} (hM : maI ma mb A) (hL : 0 ≤ L.toInt) (hsb : sb A L.toInt.toNat) (h0 : 0 ≤ k.toInt) (h8 : k.toInt < 8) (hno : ¬ hasI (ma L.toNatClampNeg) k.toInt) : ¬ goB mb d L k.toInt.toNat = true := by
  have e2 : L.toNatClampNeg = L.toInt.toNat := rfl
  have eL : L = nI L.toInt.toNat := nI_ofI hL
  unfold hasI at hno
  rw [e2, hM L.toInt.toNat (sb_le hsb) k.toInt.toNat (by omega), ← eL] at hno
  unfold goB
  have hf : mb L k.toInt.toNat = false := Bool.eq_false_iff.mpr (fun q => hno ⟨hsb, q⟩)
  rw [hf, Bool.false_and]
  exact Bool.false_ne_true
theorem ls_next {Q : Nat → Bool} {F : Nat} {k k' : Int32} (hT : F = lstN Q (7 - k.toInt.toNat) k.toInt.toNat) (h0 : 0 ≤ k.toInt) (h7 : k.toInt < 7) (h1 : k'.toInt = k.toInt + 1) (hn : ¬ Q k.toInt.toNat = true) : F = lstN Q (7 - k'.toInt.toNat) k'.toInt.toNat := by
  have e : k'.toInt.toNat = k.toInt.toNat + 1 := by omega
  have e2 : 7 - k.toInt.toNat = (7 - k'.toInt.toNat) + 1 := by omega
  rw [hT, e2, e]
  exact if_neg hn
theorem ls_end7 {Q : Nat → Bool} {F : Nat} {k : Int32} (hT : F = lstN Q (7 - k.toInt.toNat) k.toInt.toNat) (h7 : 7 ≤ k.toInt) : k.toInt = (F : Int) := by
  rw [show 7 - k.toInt.toNat = 0 by omega] at hT
  have h5 : F = k.toInt.toNat := hT
  omega
theorem ls_hit {Q : Nat → Bool} {F : Nat} {k : Int32} (hT : F = lstN Q (7 - k.toInt.toNat) k.toInt.toNat) (h0 : 0 ≤ k.toInt) (h7 : k.toInt < 7) (hq : Q k.toInt.toNat = true) : k.toInt = (F : Int) := by
  rw [show 7 - k.toInt.toNat = (7 - k.toInt.toNat - 1) + 1 by omega] at hT
  have h5 : F = k.toInt.toNat := hT.trans (if_pos hq)
  omega
theorem cN_go {mb : Int32 → Nat → Bool} {d : Nat} {L : Int32} (h : 0 < cN mb (d + 1) L) : goB mb d L (lstN (goB mb d L) 7 0) = true ∧ lstN (goB mb d L) 7 0 < 8 := by
  obtain ⟨s, hs, hp⟩ := sumT_pos 8 h
  have hp : 0 < (if mb L s = true then cN mb d (L ||| bitW (nI s)) else 0) := hp
  have hq : goB mb d L s = true := by
    by_cases c : mb L s = true
    · rw [if_pos c] at hp
      unfold goB
      rw [c, Bool.true_and, decide_eq_true_eq]; exact hp
    · rw [if_neg c] at hp
      exact absurd hp (Nat.lt_irrefl 0)
  have := lstN_spec (Q := goB mb d L) 7 0 s (Nat.zero_le _) (by omega) hq
  exact ⟨this.1, by omega⟩
/-- the class' walk along the first order -/
def fdI (mb : Int32 → Nat → Bool) (A : Nat) (L D k : Int32) : Prop := 0 ≤ L.toInt ∧ sb A L.toInt.toNat ∧ ((pcN L.toInt.toNat : Nat) : Int) = k.toInt ∧ 0 < cN mb (pcN A - pcN L.toInt.toNat) L ∧ fN mb (pcN A) 0 0 = fN mb (pcN A - pcN L.toInt.toNat) L D
theorem pc0 : pcN 0 = 0 := by decide
theorem fd_zero {mb : Int32 → Nat → Bool} {A : Nat} {L D k : Int32} (hL : L.toInt = 0) (hD : D.toInt = 0) (hk : k.toInt = 0) (h : 0 < cN mb (pcN A) 0) : fdI mb A L D k := by
  have eL : L = 0 := ci_inj (by rw [hL]; decide)
  have eD : D = 0 := ci_inj (by rw [hD]; decide)
  have e0 : L.toInt.toNat = 0 := by omega
  refine ⟨by omega, ?_, ?_, ?_, ?_⟩
  · rw [e0]; exact sb_0
  · rw [e0, pc0]; omega
  · rw [e0, pc0, eL]; exact h
  · rw [e0, pc0, eL, eD]; rfl
theorem fd_step {mb : Int32 → Nat → Bool} {A : Nat} {L D k L' D' k' s b t u : Int32} (h : fdI mb A L D k) (hB : mbOK mb A) (hA : A < 256) (hne : L.toInt ≠ (A : Int)) (hs : s.toInt = ((lstN (goB mb (pcN A - pcN L.toInt.toNat - 1) L) 7 0 : Nat) : Int)) (hb : b = (1 : Int32) <<< (s &&& 31)) (hL' : L' = L ||| b) (ht : t = D * 10) (hu : u = t + s) (hD' : D' = u + 1) (hk : k'.toInt = k.toInt + 1) : fdI mb A L' D' k' := by
  obtain ⟨a1, a2, a3, a4, a5⟩ := h
  obtain ⟨t1, t2⟩ := sb_pc hA a2
  have hle := sb_le a2
  have hpc : pcN L.toInt.toNat ≠ pcN A := fun z => by have := t2 z; omega
  obtain ⟨d, hd⟩ : ∃ d : Nat, pcN A - pcN L.toInt.toNat = d + 1 := ⟨pcN A - pcN L.toInt.toNat - 1, by omega⟩
  rw [hd] at a4 a5
  rw [show pcN A - pcN L.toInt.toNat - 1 = d by omega] at hs
  obtain ⟨g1, g2⟩ := cN_go a4
  have eL : L = nI L.toInt.toNat := nI_ofI a1
  obtain ⟨n, hn⟩ : ∃ n : Nat, n = L.toInt.toNat := ⟨_, rfl⟩
  rw [← hn] at eL hd t1 hpc a2 hle
  obtain ⟨v, hv⟩ : ∃ v : Nat, v = lstN (goB mb d L) 7 0 := ⟨_, rfl⟩
  rw [← hv] at g1 g2 hs
  have es : s = nI v := nI_of8 hs (by omega)
  have g3 : mb L v = true ∧ 0 < cN mb d (L ||| bitW (nI v)) := by
    unfold goB at g1
    rw [Bool.and_eq_true, decide_eq_true_eq] at g1
    exact g1
  rw [eL] at g3
  obtain ⟨q1, q2⟩ := hB n v a2 g2 g3.1
  obtain ⟨z1, z2, z3, z4⟩ := tab_or n (by omega) v g2 q2
  have hlt : sb A (n ||| 2 ^ v) := sb_or (by omega) g2 a2 q1
  have hb2 : b = bitW s := hb
  have hL2 : L' = nI (n ||| 2 ^ v) := by rw [hL', hb2, es, eL, z1]
  have hLi : L'.toInt = ((n ||| 2 ^ v : Nat) : Int) := by rw [hL2, nI_toInt (by omega)]
  have hLn : L'.toInt.toNat = n ||| 2 ^ v := by omega
  refine ⟨by omega, ?_, ?_, ?_, ?_⟩
  · rw [hLn]; exact hlt
  · rw [hLn, z4, hn]; omega
  · rw [hLn, z4, show pcN A - (pcN n + 1) = d by omega, hL2, ← z1]; exact g3.2
  · rw [a5, hLn, z4, show pcN A - (pcN n + 1) = d by omega]
    show fN mb d (L ||| bitW (nI (lstN (goB mb d L) 7 0))) (10 * D + nI (lstN (goB mb d L) 7 0) + 1) = _
    rw [← hv, hD', hu, ht, ← es, Int32.mul_comm D 10, hL', hb2]
theorem fd_end {mb : Int32 → Nat → Bool} {A : Nat} {L D k : Int32} (h : fdI mb A L D k) (hA : A < 256) (he : L.toInt = (A : Int) ∨ 8 ≤ k.toInt) : D = fN mb (pcN A) 0 0 := by
  obtain ⟨a1, a2, a3, a4, a5⟩ := h
  obtain ⟨t1, t2⟩ := sb_pc hA a2
  have := tab_pc8 A hA
  have hpc : pcN L.toInt.toNat = pcN A := by
    rcases he with he | he
    · rw [show L.toInt.toNat = A by omega]
    · omega
  rw [a5, hpc, Nat.sub_self]
  rfl

/-! there: sheet by sheet -/
def agF (a a' : Nat → Int32) (m : Int) : Prop := ∀ j : Nat, (j : Int) < m → a' j = a j
def goP (a g : Nat → Int32) (nw m n : Int) (U : Int32) : Prop := ∃ B : Int32, U = uF B a m.toNat ∧ letP g a nw m ∧ dsP a m ∧ (∀ j : Nat, (j : Int) < m → 0 ≤ (a j).toInt ∧ (a j).toInt < n) ∧ ∀ k : Nat, (k : Int) < nw → g k &&& B = 0
theorem uF_B {B : Int32} {a : Nat → Int32} : ∀ m : Nat, uF B a m = uF 0 a m ||| B
  | 0 => b_ext (fun i hi => by
    show bt B i = bt ((0 : Int32) ||| B) i
    rw [b_or, b_0, Bool.false_or])
  | m + 1 => b_ext (fun i hi => by
    show bt (uF B a m ||| bitW (a m)) i = bt ((uF 0 a m ||| bitW (a m)) ||| B) i
    rw [uF_B m, b_or, b_or, b_or, b_or]
    cases bt (uF 0 a m) i <;> cases bt B i <;> cases bt (bitW (a m)) i <;> rfl)
theorem gB_and {g B X : Int32} (h : g &&& B = 0) : g &&& (X ||| B) = g &&& X ∧ g &&& ((X ||| B) ^^^ (-1)) = g &&& (X ^^^ (-1)) := by
  have hb : ∀ i : Nat, (bt g i && bt B i) = false := fun i => by rw [← b_and, h, b_0]
  constructor
  · exact b_ext (fun i hi => by
      rw [b_and, b_and, b_or]
      have := hb i
      revert this
      cases bt g i <;> cases bt B i <;> cases bt X i <;> decide)
  · exact b_ext (fun i hi => by
      rw [b_and, b_and, bt_not hi, bt_not hi, b_or]
      have := hb i
      revert this
      cases bt g i <;> cases bt B i <;> cases bt X i <;> decide)
theorem ag_rfl {a : Nat → Int32} {m : Int} : agF a a m := fun _ _ => rfl
theorem ag_set {a a' a2 : Nat → Int32} {m : Int} {k v : Int32} (h : agF a a' m) (hs : a2 = upd a' k.toNatClampNeg v) (hk : m ≤ k.toInt) : agF a a2 m := fun j hj => by
  rw [hs]
  have e2 : k.toNatClampNeg = k.toInt.toNat := rfl
  show (if j = k.toNatClampNeg then v else a' j) = a j
  rw [if_neg (by omega)]; exact h j hj
theorem ag_trans {a a' a2 : Nat → Int32} {m m' : Int} (h : agF a a' m) (h2 : agF a' a2 m') (e : m ≤ m') : agF a a2 m := fun j hj => by rw [h2 j (by omega), h j hj]
theorem ag_uF {B : Int32} {a a' : Nat → Int32} {m : Int} (h : agF a a' m) : ∀ j : Nat, (j : Int) ≤ m → uF B a' j = uF B a j := fun j hj => uF_congr j (fun i hi => h i (by omega))
theorem ag_goP {a a' g : Nat → Int32} {nw m n : Int} {U : Int32} (h : goP a g nw m n U) (e : agF a a' m) (h0 : 0 ≤ m) : goP a' g nw m n U := by
  obtain ⟨B, h1, h2, h3, h4, h5⟩ := h
  refine ⟨B, ?_, fun k hk j hj => ?_, fun j hj => ?_, fun j hj => ?_, h5⟩
  · rw [h1]; exact (ag_uF e m.toNat (by omega)).symm
  · rw [ag_uF e j (by omega), e j hj]; exact h2 k hk j hj
  · rw [ag_uF e j (by omega), e j hj]; exact h3 j hj
  · rw [e j hj]; exact h4 j hj
theorem ds_next {a a' g : Nat → Int32} {nw n : Int} {m m' s U : Int32} (h : goP a g nw m.toInt n U) (h0 : 0 ≤ m.toInt) (hs : a' = upd a m.toNatClampNeg s) (hm : m'.toInt = m.toInt + 1) (hno : ¬ hasI U s.toInt) : dsP a' m'.toInt := fun j hj => by
  have e2 : m.toNatClampNeg = m.toInt.toNat := rfl
  have ea : agF a a' m.toInt := ag_set ag_rfl hs (Int.le_refl _)
  obtain ⟨B, h1, h2, h3, h4, h5⟩ := h
  by_cases c : (j : Int) < m.toInt
  · rw [ag_uF ea j (by omega), ea j c]; exact h3 j c
  · have e : j = m.toInt.toNat := by omega
    have ev : a' j = s := by
      rw [hs]
      show (if j = m.toNatClampNeg then s else a j) = s
      rw [if_pos (by omega)]
    rw [ag_uF ea j (by omega), ev, e]
    intro z
    refine hno ?_
    rw [h1, uF_B]
    unfold hasI at z ⊢
    rw [b_or, z, Bool.true_or]
theorem all_nI {n : Int32} (h0 : 0 ≤ n.toInt) (h8 : n.toInt ≤ 8) : allB n = nI (2 ^ n.toInt.toNat - 1) := by
  have e := nI_ofI h0
  have t := tab_all n.toInt.toNat (by omega)
  rw [← e] at t; exact t
theorem bt_all {n : Int32} (h0 : 0 ≤ n.toInt) (h8 : n.toInt ≤ 8) {s : Nat} (hs : s < 8) : bt (allB n) s = decide (s < n.toInt.toNat) := by
  rw [all_nI h0 h8]; exact tab_albt n.toInt.toNat (by omega) s hs
theorem let_iff {a a' g : Nat → Int32} {nw : Int} {n m m' s U : Int32} (h : goP a g nw m.toInt n.toInt U) (h0 : 0 ≤ m.toInt) (n0 : 0 ≤ n.toInt) (n8 : n.toInt ≤ 8) (hs : a' = upd a m.toNatClampNeg s) (hm : m'.toInt = m.toInt + 1) (s0 : 0 ≤ s.toInt) (s1 : s.toInt < n.toInt) (hno : ¬ hasI U s.toInt) : letP g a' nw m'.toInt ↔ mayB g nw.toNat (allB n) U s.toInt.toNat = true := by
  have e2 : m.toNatClampNeg = m.toInt.toNat := rfl
  have ea : agF a a' m.toInt := ag_set ag_rfl hs (Int.le_refl _)
  obtain ⟨B, h1, h2, h3, h4, h5⟩ := h
  have ev : a' m.toInt.toNat = s := by
    rw [hs]
    show (if m.toInt.toNat = m.toNatClampNeg then s else a m.toInt.toNat) = s
    rw [if_pos e2.symm]
  have eU : uF 0 a' m.toInt.toNat = uF 0 a m.toInt.toNat := ag_uF ea _ (by omega)
  have hUB : U = uF 0 a m.toInt.toNat ||| B := by rw [h1, uF_B]
  have hb : (bt (allB n) s.toInt.toNat && !bt U s.toInt.toNat) = true := by
    unfold hasI at hno
    rw [bt_all n0 n8 (by omega), decide_eq_true (by omega), Bool.eq_false_iff.mpr hno]; rfl
  have hf : ∀ k : Nat, (k : Int) < nw → (fB g U s.toInt.toNat k = true ↔ okJ (g k) (uF 0 a m.toInt.toNat) s) := fun k hk9 => by
    obtain ⟨x1, x2⟩ := gB_and (X := uF 0 a m.toInt.toNat) (h5 k hk9)
    unfold fB okJ hasI
    rw [hUB, x1, x2]
    rw [Bool.or_eq_true, Bool.or_eq_true, decide_eq_true_eq, decide_eq_true_eq]
    constructor
    · intro q a1 a2
      rcases q with (q | q) | q
      · exact absurd q a1
      · exact absurd q a2
      · exact q
    · intro q
      by_cases a1 : (g k &&& uF 0 a m.toInt.toNat).toInt = 0
      · exact Or.inl (Or.inl a1)
      · by_cases a2 : (g k &&& (uF 0 a m.toInt.toNat ^^^ (-1))).toInt = 0
        · exact Or.inl (Or.inr a2)
        · exact Or.inr (q a1 a2)
  unfold mayB
  rw [hb, Bool.true_and, List.all_eq_true]
  constructor
  · intro q k hk
    have hk2 := List.mem_range.mp hk
    refine (hf k (by omega)).mpr ?_
    have := q k (by omega) m.toInt.toNat (by omega)
    rw [eU, ev] at this
    exact this
  · intro q k hk j hj
    by_cases c : (j : Int) < m.toInt
    · rw [ag_uF ea j (by omega), ea j c]; exact h2 k hk j c
    · have e : j = m.toInt.toNat := by omega
      rw [e, eU, ev]
      exact (hf k hk).mp (q k (List.mem_range.mpr (by omega)))
theorem go_next {a a' g : Nat → Int32} {nw n : Int} {m m' s U U' b : Int32} (h : goP a g nw m.toInt n U) (h0 : 0 ≤ m.toInt) (hs : a' = upd a m.toNatClampNeg s) (hm : m'.toInt = m.toInt + 1) (s0 : 0 ≤ s.toInt) (s1 : s.toInt < n) (hno : ¬ hasI U s.toInt) (hl : letP g a' nw m'.toInt) (hb : b = (1 : Int32) <<< (s &&& 31)) (hU : U' = U ||| b) : goP a' g nw m'.toInt n U' := by
  have e2 : m.toNatClampNeg = m.toInt.toNat := rfl
  have ea : agF a a' m.toInt := ag_set ag_rfl hs (Int.le_refl _)
  have hd := ds_next h h0 hs hm hno
  obtain ⟨B, h1, h2, h3, h4, h5⟩ := h
  have ev : a' m.toInt.toNat = s := by
    rw [hs]
    show (if m.toInt.toNat = m.toNatClampNeg then s else a m.toInt.toNat) = s
    rw [if_pos e2.symm]
  have hb2 : b = bitW s := hb
  refine ⟨B, ?_, hl, hd, fun j hj => ?_, h5⟩
  · rw [show m'.toInt.toNat = m.toInt.toNat + 1 by omega]
    show U' = uF B a' m.toInt.toNat ||| bitW (a' m.toInt.toNat)
    rw [ev, ag_uF ea _ (by omega), ← h1, hU, hb2]
  · by_cases c : (j : Int) < m.toInt
    · rw [ea j c]; exact h4 j c
    · rw [show j = m.toInt.toNat by omega, ev]; exact ⟨s0, s1⟩
theorem may_used {g : Nat → Int32} {nw : Nat} {al U : Int32} {s : Int} (h : hasI U s) : mayB g nw al U s.toNat = false := by
  unfold hasI at h
  unfold mayB
  rw [h, Bool.not_true, Bool.and_false, Bool.false_and]
theorem may_over {g : Nat → Int32} {nw : Nat} {n U : Int32} {s : Nat} (n0 : 0 ≤ n.toInt) (n8 : n.toInt ≤ 8) (hs : s < 8) (h : n.toInt ≤ (s : Int)) : mayB g nw (allB n) U s = false := by
  unfold mayB
  rw [bt_all n0 n8 hs, decide_eq_false (by omega), Bool.false_and, Bool.false_and]
def goH (mb : Int32 → Nat → Bool) (d : Nat) (L : Int32) (s : Nat) : Nat := if mb L s = true then cN mb (d - 1) (L ||| bitW (nI s)) else 0
theorem goH_le {mb : Int32 → Nat → Bool} {d : Nat} {L : Int32} {k : Nat} (hd : 0 < d) (hk : k < 8) : sumT (goH mb d L) k + pw8 (d - 1) ≤ pw8 d := by
  obtain ⟨e, he⟩ : ∃ e : Nat, d = e + 1 := ⟨d - 1, by omega⟩
  subst he
  have h1 : sumT (goH mb (e + 1) L) k ≤ k * pw8 e := sumT_le k (fun s _ => by
    show (if mb L s = true then cN mb e (L ||| bitW (nI s)) else 0) ≤ pw8 e
    split
    · exact cN_le e _
    · exact Nat.zero_le _)
  have h2 : k * pw8 e ≤ 7 * pw8 e := Nat.mul_le_mul_right _ (by omega)
  show sumT (goH mb (e + 1) L) k + pw8 e ≤ 8 * pw8 e
  omega
theorem goH_all {mb : Int32 → Nat → Bool} {d : Nat} {L : Int32} (hd : 0 < d) : sumT (goH mb d L) 8 = cN mb d L := by
  obtain ⟨e, he⟩ : ∃ e : Nat, d = e + 1 := ⟨d - 1, by omega⟩
  subst he; rfl
theorem goH_end {g : Nat → Int32} {nw d : Nat} {n L : Int32} {k : Nat} (n0 : 0 ≤ n.toInt) (n8 : n.toInt ≤ 8) (hd : 0 < d) (hk : n.toInt ≤ (k : Int)) (hk8 : k ≤ 8) : sumT (goH (mayB g nw (allB n)) d L) k = cN (mayB g nw (allB n)) d L := by
  rw [← goH_all hd]
  have hz : ∀ m : Nat, k + m ≤ 8 → sumT (goH (mayB g nw (allB n)) d L) (k + m) = sumT (goH (mayB g nw (allB n)) d L) k := fun m => by
    induction m with
    | zero => intro _; rfl
    | succ m ih =>
      intro hm
      show sumT (goH (mayB g nw (allB n)) d L) (k + m) + goH (mayB g nw (allB n)) d L (k + m) = _
      rw [ih (by omega)]
      unfold goH
      rw [may_over n0 n8 (by omega) (by omega), if_neg Bool.false_ne_true, Nat.add_zero]
  have := hz (8 - k) (by omega)
  rw [show k + (8 - k) = 8 by omega] at this
  exact this.symm
/-- the counts and the first order after the sheets below k -/
def goT (mb : Int32 → Nat → Bool) (d : Nat) (U D : Int32) (o0 o : Int) (f0 f : Int32) (k : Nat) : Prop := o = o0 + ((sumT (goH mb d U) k : Nat) : Int) ∧ f = if o0 = 0 ∧ 0 < sumT (goH mb d U) k then fN mb d U D else f0
theorem go_zero {mb : Int32 → Nat → Bool} {d : Nat} {U D : Int32} {o0 o : Int} {f0 f : Int32} {k : Int32} (ho : o = o0) (hf : f = f0) (hk : k.toInt = 0) : goT mb d U D o0 o f0 f k.toInt.toNat := by
  rw [hk]
  refine ⟨by show o = o0 + ((0 : Nat) : Int); omega, ?_⟩
  exact hf.trans (if_neg (fun q => absurd q.2 (Nat.lt_irrefl 0))).symm
theorem go_skip {mb : Int32 → Nat → Bool} {d : Nat} {U D : Int32} {o0 o : Int} {f0 f : Int32} {k k' : Int32} (h : goT mb d U D o0 o f0 f k.toInt.toNat) (h0 : 0 ≤ k.toInt) (h1 : k'.toInt = k.toInt + 1) (hno : mb U k.toInt.toNat = false) : goT mb d U D o0 o f0 f k'.toInt.toNat := by
  have e : sumT (goH mb d U) k'.toInt.toNat = sumT (goH mb d U) k.toInt.toNat := by
    rw [show k'.toInt.toNat = k.toInt.toNat + 1 by omega]
    show sumT (goH mb d U) k.toInt.toNat + goH mb d U k.toInt.toNat = _
    unfold goH
    rw [hno, if_neg Bool.false_ne_true, Nat.add_zero]
  unfold goT at h ⊢
  rw [e]; exact h
theorem goH_no {mb : Int32 → Nat → Bool} {d : Nat} {U : Int32} : ∀ k : Nat, sumT (goH mb d U) k = 0 → ∀ j : Nat, j < k → goH mb d U j = 0
  | 0, _, j, h => absurd h (Nat.not_lt_zero j)
  | k + 1, e, j, h => by
    have e : sumT (goH mb d U) k + goH mb d U k = 0 := e
    by_cases c : j = k
    · rw [c]; omega
    · exact goH_no k (by omega) j (by omega)
theorem go_take {mb : Int32 → Nat → Bool} {d d' : Nat} {U D U' D' b t u : Int32} {o0 o o' : Int} {f0 f f' : Int32} {k k' : Int32} (h : goT mb d U D o0 o f0 f k.toInt.toNat) (o00 : 0 ≤ o0) (h0 : 0 ≤ k.toInt) (h8 : k.toInt < 8) (h1 : k'.toInt = k.toInt + 1) (hd : d = d' + 1) (hyes : mb U k.toInt.toNat = true) (hb : b = (1 : Int32) <<< (k &&& 31)) (hU : U' = U ||| b) (ht : t = 10 * D) (hu : u = t + k) (hD : D' = u + 1) (ho' : o' = o + ((cN mb d' U' : Nat) : Int)) (hf' : f' = if o = 0 ∧ 0 < cN mb d' U' then fN mb d' U' D' else f) : goT mb d U D o0 o' f0 f' k'.toInt.toNat := by
  have hb2 : b = bitW k := hb
  have ek : k = nI k.toInt.toNat := nI_ofI h0
  have eU : U' = U ||| bitW (nI k.toInt.toNat) := by rw [hU, hb2, ← ek]
  subst hd
  have hH : goH mb (d' + 1) U k.toInt.toNat = cN mb d' U' := by
    show (if mb U k.toInt.toNat = true then cN mb d' (U ||| bitW (nI k.toInt.toNat)) else 0) = _
    rw [if_pos hyes, eU]
  have e : sumT (goH mb (d' + 1) U) k'.toInt.toNat = sumT (goH mb (d' + 1) U) k.toInt.toNat + cN mb d' U' := by
    rw [show k'.toInt.toNat = k.toInt.toNat + 1 by omega, ← hH]; rfl
  obtain ⟨g1, g2⟩ := h
  refine ⟨by rw [e]; omega, ?_⟩
  rw [e, hf']
  by_cases c1 : o0 = 0
  · by_cases c2 : sumT (goH mb (d' + 1) U) k.toInt.toNat = 0
    · by_cases c3 : 0 < cN mb d' U'
      · rw [if_pos ⟨by omega, c3⟩, if_pos ⟨c1, by omega⟩]
        have hq : goB mb d' U k.toInt.toNat = true := by
          unfold goB
          rw [hyes, Bool.true_and, decide_eq_true_eq, ← eU]; exact c3
        have hl : lstN (goB mb d' U) 7 0 = k.toInt.toNat := lstN_first 7 0 k.toInt.toNat (Nat.zero_le _) (by omega) hq (fun j _ hj => by
          have hz := goH_no k.toInt.toNat c2 j hj
          have hz : (if mb U j = true then cN mb d' (U ||| bitW (nI j)) else 0) = 0 := hz
          unfold goB
          by_cases c4 : mb U j = true
          · rw [if_pos c4] at hz
            rw [hz, decide_eq_false (Nat.lt_irrefl 0), Bool.and_false]
          · rw [Bool.eq_false_iff.mpr c4, Bool.false_and])
        show fN mb d' U' D' = fN mb d' (U ||| bitW (nI (lstN (goB mb d' U) 7 0))) (10 * D + nI (lstN (goB mb d' U) 7 0) + 1)
        rw [hl, ← ek, hD, hu, ht, hU, hb2]
      · rw [if_neg (fun q => c3 q.2), g2, if_neg (by omega), if_neg (by omega)]
    · rw [if_neg (by omega), g2, if_pos ⟨c1, by omega⟩, if_pos ⟨c1, by omega⟩]
  · rw [if_neg (by omega), g2, if_neg (fun q => c1 q.1), if_neg (fun q => c1 q.1)]
theorem go_fin {g : Nat → Int32} {nw d : Nat} {n U D : Int32} {o0 o : Int} {f0 f : Int32} {k : Int32} (h : goT (mayB g nw (allB n)) d U D o0 o f0 f k.toInt.toNat) (n0 : 0 ≤ n.toInt) (n8 : n.toInt ≤ 8) (hd : 0 < d) (hk : n.toInt ≤ k.toInt) (hk8 : k.toInt ≤ 8) : o = o0 + ((cN (mayB g nw (allB n)) d U : Nat) : Int) ∧ f = if o0 = 0 ∧ 0 < cN (mayB g nw (allB n)) d U then fN (mayB g nw (allB n)) d U D else f0 := by
  unfold goT at h
  rw [goH_end n0 n8 hd (by omega) (by omega)] at h
  exact h
theorem go_leaf {mb : Int32 → Nat → Bool} {d : Nat} {U D : Int32} {o0 o : Int} {f0 f : Int32} (hd : d = 0) (ho : o = o0 + 1) (hf : (o0 = 0 ∧ f = D) ∨ (o0 ≠ 0 ∧ f = f0)) : o = o0 + ((cN mb d U : Nat) : Int) ∧ f = if o0 = 0 ∧ 0 < cN mb d U then fN mb d U D else f0 := by
  subst hd
  refine ⟨ho, ?_⟩
  rcases hf with ⟨a, b⟩ | ⟨a, b⟩
  · exact b.trans (if_pos ⟨a, Nat.one_pos⟩).symm
  · exact b.trans (if_neg (fun q => a q.1)).symm

/-! both sides' answers -/
def maB (ma : Nat → Int32) (L : Int32) (s : Nat) : Bool := bt (ma L.toInt.toNat) s
/-- no sheet may lie next behind a set that isn't of A -/
def maZ (ma : Nat → Int32) (A : Nat) : Prop := ∀ L : Nat, L ≤ A → ∀ s : Nat, s < 8 → bt (ma L) s = true → sb A L
theorem tab_pca : ∀ c : Nat, c < 9 → pcN (2 ^ c - 1) = c := by decide +kernel
theorem al_of {n : Int32} (n0 : 0 ≤ n.toInt) (n8 : n.toInt ≤ 8) : 0 ≤ (allB n).toInt ∧ (allB n).toInt ≤ 255 ∧ pcN (allB n).toInt.toNat = n.toInt.toNat := by
  have hp := tab_p2 n.toInt.toNat (by omega)
  have e := all_nI n0 n8
  have e2 : (allB n).toInt = ((2 ^ n.toInt.toNat - 1 : Nat) : Int) := by rw [e, nI_toInt (by omega)]
  refine ⟨by omega, by omega, ?_⟩
  rw [show (allB n).toInt.toNat = 2 ^ n.toInt.toNat - 1 by omega, tab_pca _ (by omega)]
theorem maB_I {ma : Nat → Int32} {A : Nat} (hZ : maZ ma A) (hA : A < 256) : maI ma (maB ma) A := fun L hL s hs => by
  have e : maB ma (nI L) s = bt (ma L) s := by
    unfold maB
    rw [nI_toInt (by omega)]; rfl
  rw [e]
  exact ⟨fun q => ⟨hZ L hL s hs q, q⟩, fun q => q.2⟩
theorem wo_0 {wo : Nat → Int32} {mb : Int32 → Nat → Bool} {A : Nat} (h : woA wo mb A) (hA : A < 256) : (wo 0).toInt = ((cN mb (pcN A) 0 : Nat) : Int) := by
  have := wo_pos h hA (j := 0) sb_0
  rw [pc0] at this
  exact this
/-- the rows of mayFollow below k -/
def maU (ma g : Nat → Int32) (n : Nat) (al : Int32) (k : Int) : Prop := ∀ L : Nat, (L : Int) < k → ∀ s : Nat, s < 8 → (bt (ma L) s = true ↔ (sb al.toInt.toNat L ∧ mayB g n al (nI L) s = true))
theorem mu_zero {ma g : Nat → Int32} {n : Nat} {al : Int32} {k : Int} (h : k ≤ 0) : maU ma g n al k := fun L hL => by omega
theorem mu_step {ma ma' g : Nat → Int32} {al r : Int32} {n : Nat} {k k' : Int32} (h : maU ma g n al k.toInt) (a0 : 0 ≤ al.toInt) (a1 : al.toInt ≤ 255) (h0 : 0 ≤ k.toInt) (hk : k.toInt ≤ al.toInt) (h1 : k'.toInt = k.toInt + 1) (hr : thP g al k n r) (hs : ma' = upd ma k.toNatClampNeg r) : maU ma' g n al k'.toInt := fun L hL s hs8 => by
  have e2 : k.toNatClampNeg = k.toInt.toNat := rfl
  rw [hs]
  show bt (if L = k.toNatClampNeg then r else ma L) s = true ↔ _
  by_cases c : L = k.toNatClampNeg
  · rw [if_pos c]
    have ek : k = nI L := nI_of8 (by omega) (by omega)
    have ea : al = nI al.toInt.toNat := nI_ofI a0
    have hz : (k &&& (al ^^^ (-1))).toInt = 0 ↔ sb al.toInt.toNat L := by
      have t := sb_int (L := L) (A := al.toInt.toNat) (by omega) (by omega)
      rw [← ea, ← ek] at t; exact t
    by_cases q : sb al.toInt.toNat L
    · rw [hr.1 (hz.mpr q) s (by omega), ← ek]
      exact ⟨fun z => ⟨q, z⟩, fun z => z.2⟩
    · rw [hr.2 (fun z => q (hz.mp z)), b_0]
      exact ⟨fun z => absurd z Bool.false_ne_true, fun z => absurd z.1 q⟩
  · rw [if_neg c]; exact h L (by omega) s hs8
theorem mu_all {ma g : Nat → Int32} {n : Nat} {al : Int32} {k : Int} (h : maU ma g n al k) (a0 : 0 ≤ al.toInt) (hk : al.toInt < k) : maI ma (mayB g n al) al.toInt.toNat := fun L hL s hs => h L (by omega) s hs
theorem mi_Z {ma : Nat → Int32} {mb : Int32 → Nat → Bool} {A : Nat} (h : maI ma mb A) : maZ ma A := fun L hL s hs q => ((h L hL s hs).mp q).1
theorem may_OK {g : Nat → Int32} {n : Nat} {al : Int32} (a0 : 0 ≤ al.toInt) (a1 : al.toInt ≤ 255) : mbOK (mayB g n al) al.toInt.toNat := fun L s hL hs h => by
  have hle := sb_le hL
  unfold mayB at h
  rw [Bool.and_eq_true, Bool.and_eq_true] at h
  obtain ⟨⟨h1, h2⟩, _⟩ := h
  have ea : al = nI al.toInt.toNat := nI_ofI a0
  have t := tab_bt al.toInt.toNat (by omega) s (by omega)
  rw [← ea, h1] at t
  have t2 := tab_bt L (by omega) s (by omega)
  rw [t2] at h2
  refine ⟨t.symm, ?_⟩
  cases hx : L.testBit s
  · rfl
  · rw [hx] at h2; exact absurd h2 (by decide)
theorem mb_eq {ma : Nat → Int32} {mb : Int32 → Nat → Bool} {A : Nat} (hA : A < 256) (h : maI ma mb A) : ∀ j : Nat, sb A j → ∀ s : Nat, s < 8 → maB ma (nI j) s = mb (nI j) s := fun j hj s hs => by
  have hle := sb_le hj
  have e : maB ma (nI j) s = bt (ma j) s := by
    unfold maB
    rw [nI_toInt (by omega)]; rfl
  rw [e, Bool.eq_iff_iff, h j hle s hs]
  exact ⟨fun q => q.2, fun q => ⟨hj, q⟩⟩
theorem OK_eq {mb mb' : Int32 → Nat → Bool} {A : Nat} (e : ∀ j : Nat, sb A j → ∀ s : Nat, s < 8 → mb (nI j) s = mb' (nI j) s) (h : mbOK mb' A) : mbOK mb A := fun L s hL hs q => h L s hL hs (by rw [← e L hL s hs]; exact q)
theorem cN_eq {mb mb' : Int32 → Nat → Bool} {A : Nat} (hA : A < 256) (e : ∀ j : Nat, sb A j → ∀ s : Nat, s < 8 → mb (nI j) s = mb' (nI j) s) (h : mbOK mb' A) : ∀ (d j : Nat), sb A j → cN mb d (nI j) = cN mb' d (nI j)
  | 0, _, _ => rfl
  | d + 1, j, hj => sumT_congr 8 (fun s hs => by
    have hle := sb_le hj
    show (if mb (nI j) s = true then cN mb d (nI j ||| bitW (nI s)) else 0) = (if mb' (nI j) s = true then cN mb' d (nI j ||| bitW (nI s)) else 0)
    rw [e j hj s hs]
    by_cases q : mb' (nI j) s = true
    · obtain ⟨q1, q2⟩ := h j s hj hs q
      obtain ⟨t1, t2, t3, t4⟩ := tab_or j (by omega) s hs q2
      rw [if_pos q, if_pos q, t1, cN_eq hA e h d _ (sb_or (by omega) hs hj q1)]
    · rw [if_neg q, if_neg q])
theorem fN_eq {mb mb' : Int32 → Nat → Bool} {A : Nat} (hA : A < 256) (e : ∀ j : Nat, sb A j → ∀ s : Nat, s < 8 → mb (nI j) s = mb' (nI j) s) (h : mbOK mb' A) : ∀ (d j : Nat) (D : Int32), sb A j → 0 < cN mb' d (nI j) → fN mb d (nI j) D = fN mb' d (nI j) D
  | 0, _, _, _, _ => rfl
  | d + 1, j, D, hj, hpos => by
    have hle := sb_le hj
    have hg : ∀ s : Nat, s < 8 → goB mb d (nI j) s = goB mb' d (nI j) s := fun s hs => by
      unfold goB
      rw [e j hj s hs]
      by_cases q : mb' (nI j) s = true
      · obtain ⟨q1, q2⟩ := h j s hj hs q
        obtain ⟨t1, t2, t3, t4⟩ := tab_or j (by omega) s hs q2
        rw [t1, cN_eq hA e h d _ (sb_or (by omega) hs hj q1)]
      · rw [Bool.eq_false_iff.mpr q, Bool.false_and, Bool.false_and]
    have hl : ∀ (m k : Nat), k + m ≤ 8 → lstN (goB mb d (nI j)) m k = lstN (goB mb' d (nI j)) m k := fun m => by
      induction m with
      | zero => intro k _; rfl
      | succ m ih =>
        intro k hk
        show (if goB mb d (nI j) k = true then k else lstN (goB mb d (nI j)) m (k + 1)) = (if goB mb' d (nI j) k = true then k else lstN (goB mb' d (nI j)) m (k + 1))
        rw [hg k (by omega), ih (k + 1) (by omega)]
    obtain ⟨g1, g2⟩ := cN_go hpos
    obtain ⟨v, hv⟩ : ∃ v : Nat, v = lstN (goB mb' d (nI j)) 7 0 := ⟨_, rfl⟩
    rw [← hv] at g1 g2
    unfold goB at g1
    rw [Bool.and_eq_true, decide_eq_true_eq] at g1
    obtain ⟨q1, q2⟩ := h j v hj g2 g1.1
    obtain ⟨t1, t2, t3, t4⟩ := tab_or j (by omega) v g2 q2
    show fN mb d (nI j ||| bitW (nI (lstN (goB mb d (nI j)) 7 0))) (10 * D + nI (lstN (goB mb d (nI j)) 7 0) + 1) = fN mb' d (nI j ||| bitW (nI (lstN (goB mb' d (nI j)) 7 0))) (10 * D + nI (lstN (goB mb' d (nI j)) 7 0) + 1)
    have g3 := g1.2
    rw [t1] at g3
    rw [hl 7 0 (by omega), ← hv, t1]
    exact fN_eq hA e h d _ _ (sb_or (by omega) g2 hj q1) g3
/-- the worms' sheets out of the holes alone -/
def wG (S P : Nat → Int32) (n : Nat) (sl : Int) : Nat → Int32 := (wst (srt P n) S P sl n).2.1
def wK (S P : Nat → Int32) (n : Nat) (sl : Int) : Nat := (wst (srt P n) S P sl n).1
def mbC (S P : Nat → Int32) (n : Nat) (sl : Int) (al : Int32) : Int32 → Nat → Bool := mayB (wG S P n sl) (wK S P n sl) al
theorem mayB_congr {g g' : Nat → Int32} {nw : Nat} {al L : Int32} {s : Nat} (e : ∀ k : Nat, k < nw → g k = g' k) : mayB g nw al L s = mayB g' nw al L s := by
  have h : (List.range nw).all (fB g L s) = (List.range nw).all (fB g' L s) := by
    rw [Bool.eq_iff_iff, List.all_eq_true, List.all_eq_true]
    constructor
    · intro q k hk
      have := q k hk
      unfold fB at this ⊢
      rw [← e k (List.mem_range.mp hk)]; exact this
    · intro q k hk
      have := q k hk
      unfold fB at this ⊢
      rw [e k (List.mem_range.mp hk)]; exact this
  unfold mayB
  rw [h]
theorem mbC_of {S P : Nat → Int32} {n : Nat} {sl : Int} {w al : Int32} {g o : Nat → Int32} (hW : WInv (srt P n) S P sl n w g o) : mayB g w.toInt.toNat al = mbC S P n sl al := by
  funext L s
  unfold WInv at hW
  unfold mbC wG wK
  rw [show w.toInt.toNat = (wst (srt P n) S P sl n).1 by omega]
  exact mayB_congr (fun k hk => hW.2.2.2.1 k hk)
/-- how many orders (what 0), the first as digits (1) -/
def orR (mb : Int32 → Nat → Bool) (c : Nat) (what r : Int) : Prop := (what = 0 ∧ r = ((cN mb c 0 : Nat) : Int)) ∨ (what ≠ 0 ∧ cN mb c 0 = 0 ∧ r = -2) ∨ (what ≠ 0 ∧ 0 < cN mb c 0 ∧ r = (fN mb c 0 0).toInt)
theorem orR_one {mb : Int32 → Nat → Bool} {c : Nat} {what r r' : Int} (h : orR mb c what r) (h' : orR mb c what r') : r = r' := by
  unfold orR at h h'
  rcases h with h | h | h <;> rcases h' with h' | h' | h' <;> omega
theorem orR_cls {ma g o S P : Nat → Int32} {n : Nat} {sl what r : Int} {w al : Int32} (hW : WInv (srt P n) S P sl n w g o) (a0 : 0 ≤ al.toInt) (a1 : al.toInt ≤ 255) (hM : maI ma (mayB g w.toInt.toNat al) al.toInt.toNat) (h : orR (maB ma) (pcN al.toInt.toNat) what r) : orR (mbC S P n sl al) (pcN al.toInt.toNat) what r := by
  have hA : al.toInt.toNat < 256 := by omega
  rw [mbC_of hW] at hM
  have e := mb_eq hA hM
  have hOK : mbOK (mbC S P n sl al) al.toInt.toNat := may_OK a0 a1
  have e1 : cN (maB ma) (pcN al.toInt.toNat) 0 = cN (mbC S P n sl al) (pcN al.toInt.toNat) 0 := cN_eq hA e hOK _ 0 sb_0
  unfold orR at h ⊢
  rw [e1] at h
  rcases h with h | h | ⟨h1, h2, h3⟩
  · exact Or.inl h
  · exact Or.inr (Or.inl h)
  · have e2 : fN (maB ma) (pcN al.toInt.toNat) 0 0 = fN (mbC S P n sl al) (pcN al.toInt.toNat) 0 0 := fN_eq hA e hOK _ 0 0 sb_0 h2
    rw [e2] at h3
    exact Or.inr (Or.inr ⟨h1, h2, h3⟩)
theorem orR_congr {S S' P P' : Nat → Int32} {n n' c c' : Nat} {sl sl' what what' r r' : Int} {al al' : Int32} (h : orR (mbC S P n sl al) c what r) (h' : orR (mbC S' P' n' sl' al') c' what' r') (e1 : S = S') (e2 : P = P') (e3 : n = n') (e4 : sl = sl') (e5 : al = al') (e6 : c = c') (e7 : what = what') : r = r' := by
  subst e1 e2 e3 e4 e5 e6 e7
  exact orR_one h h'
theorem go_start {a g : Nat → Int32} {nw m n : Int} {U : Int32} (hm : m = 0) (hU : ∀ k : Nat, (k : Int) < nw → g k &&& U = 0) : goP a g nw m n U := by
  subst hm
  exact ⟨U, rfl, fun k _ j hj => by omega, fun j hj => by omega, fun j hj => by omega, hU⟩
theorem and_z {x z : Int32} (h : z.toInt = 0) : x &&& z = 0 := by
  have e : z = 0 := ci_inj (by rw [h]; decide)
  rw [e]
  exact b_ext (fun i hi => by rw [b_and, b_0, Bool.and_false])

theorem tri_eq {V V' F F' : Prop} {a a' r r' : Int} (h : (¬ V ∧ r = -1) ∨ (V ∧ 6 < a ∧ r = -4) ∨ (V ∧ a ≤ 6 ∧ F)) (h' : (¬ V' ∧ r' = -1) ∨ (V' ∧ 6 < a' ∧ r' = -4) ∨ (V' ∧ a' ≤ 6 ∧ F')) (e : V ↔ V') (ea : a = a') (k : F → F' → r = r') : r = r' := by
  rcases h with ⟨h1, h2⟩ | ⟨h1, h2, h3⟩ | ⟨h1, h2, h3⟩
  · rcases h' with ⟨g1, g2⟩ | ⟨g1, g2, g3⟩ | ⟨g1, g2, g3⟩
    · omega
    · exact absurd (e.mpr g1) h1
    · exact absurd (e.mpr g1) h1
  · rcases h' with ⟨g1, g2⟩ | ⟨g1, g2, g3⟩ | ⟨g1, g2, g3⟩
    · exact absurd (e.mp h1) g1
    · omega
    · omega
  · rcases h' with ⟨g1, g2⟩ | ⟨g1, g2, g3⟩ | ⟨g1, g2, g3⟩
    · exact absurd (e.mp h1) g1
    · omega
    · exact k h3 g3

def le9 (P : Nat → Int32) (v : Int) (h : Nat) : Bool := decide ((P h).toInt ≤ v)
def insL (P : Nat → Int32) (l : List Nat) (n : Nat) : List Nat := l.filter (le9 P (P n).toInt) ++ n :: l.filter (fun h => !le9 P (P n).toInt h)
/-- the holes 0 .. n - 1 in the order of their places -/
def LL (P : Nat → Int32) : Nat → List Nat
  | 0 => []
  | n + 1 => insL P (LL P n) n
/-- those of them that are kept -/
def KL (P : Nat → Int32) (kp : Nat → Bool) : Nat → List Nat
  | 0 => []
  | n + 1 => if kp n = true then insL P (KL P kp n) n else KL P kp n
def srtd (P : Nat → Int32) (l : List Nat) : Prop := l.Pairwise (fun a b => (P a).toInt ≤ (P b).toInt)
theorem ins_srtd {P : Nat → Int32} {l : List Nat} {n : Nat} (h : srtd P l) : srtd P (insL P l n) := by
  unfold srtd insL
  rw [List.pairwise_append, List.pairwise_cons]
  refine ⟨List.Pairwise.filter _ h, ⟨fun a ha => ?_, List.Pairwise.filter _ h⟩, fun a ha b hb => ?_⟩
  · have h2 := (List.mem_filter.mp ha).2
    unfold le9 at h2
    rw [Bool.not_eq_true', decide_eq_false_iff_not] at h2
    omega
  · have h1 := (List.mem_filter.mp ha).2
    unfold le9 at h1
    rw [decide_eq_true_eq] at h1
    rcases List.mem_cons.mp hb with e | hb
    · rw [e]; exact h1
    · have h2 := (List.mem_filter.mp hb).2
      unfold le9 at h2
      rw [Bool.not_eq_true', decide_eq_false_iff_not] at h2
      omega
theorem LL_srtd {P : Nat → Int32} : ∀ n : Nat, srtd P (LL P n)
  | 0 => List.Pairwise.nil
  | n + 1 => ins_srtd (LL_srtd n)
theorem KL_srtd {P : Nat → Int32} {kp : Nat → Bool} : ∀ n : Nat, srtd P (KL P kp n)
  | 0 => List.Pairwise.nil
  | n + 1 => by
    show srtd P (if kp n = true then insL P (KL P kp n) n else KL P kp n)
    by_cases c : kp n = true
    · rw [if_pos c]; exact ins_srtd (KL_srtd n)
    · rw [if_neg c]; exact KL_srtd n
theorem split9 {P : Nat → Int32} {v : Int} : ∀ l : List Nat, srtd P l → l.filter (le9 P v) ++ l.filter (fun h => !le9 P v h) = l
  | [], _ => rfl
  | x :: l, h => by
    unfold srtd at h
    rw [List.pairwise_cons] at h
    by_cases c : le9 P v x = true
    · rw [List.filter_cons_of_pos c, List.filter_cons_of_neg (by rw [c]; decide), List.cons_append, split9 l h.2]
    · have hx : v < (P x).toInt := by
        unfold le9 at c
        rw [decide_eq_true_eq] at c
        omega
      have h1 : l.filter (le9 P v) = [] := by
        rw [List.filter_eq_nil_iff]
        intro a ha
        have := h.1 a ha
        unfold le9
        rw [decide_eq_true_eq]
        omega
      have h2 : l.filter (fun h => !le9 P v h) = l := by
        rw [List.filter_eq_self]
        intro a ha
        have := h.1 a ha
        unfold le9
        rw [Bool.not_eq_true', decide_eq_false_iff_not]
        omega
      rw [List.filter_cons_of_neg c, List.filter_cons_of_pos (by rw [Bool.eq_false_iff.mpr c]; rfl), h1, h2, List.nil_append]
theorem ins_len {P : Nat → Int32} {l : List Nat} {n : Nat} (h : srtd P l) : (insL P l n).length = l.length + 1 := by
  have e := congrArg List.length (split9 (v := (P n).toInt) l h)
  rw [List.length_append] at e
  unfold insL
  rw [List.length_append, List.length_cons]
  omega
theorem LL_len {P : Nat → Int32} : ∀ n : Nat, (LL P n).length = n
  | 0 => rfl
  | n + 1 => by
    show (insL P (LL P n) n).length = n + 1
    rw [ins_len (LL_srtd n), LL_len n]
theorem mem_ins {P : Nat → Int32} {l : List Nat} {n x : Nat} (h : x ∈ insL P l n) : x = n ∨ x ∈ l := by
  unfold insL at h
  rcases List.mem_append.mp h with h | h
  · exact Or.inr (List.mem_filter.mp h).1
  · rcases List.mem_cons.mp h with h | h
    · exact Or.inl h
    · exact Or.inr (List.mem_filter.mp h).1
theorem LL_lt {P : Nat → Int32} : ∀ (n x : Nat), x ∈ LL P n → x < n
  | 0, x, h => absurd h List.not_mem_nil
  | n + 1, x, h => by
    rcases mem_ins h with h | h
    · omega
    · have := LL_lt n x h; omega
theorem KL_lt {P : Nat → Int32} {kp : Nat → Bool} : ∀ (n x : Nat), x ∈ KL P kp n → x < n ∧ kp x = true
  | 0, x, h => absurd h List.not_mem_nil
  | n + 1, x, h => by
    have h : x ∈ (if kp n = true then insL P (KL P kp n) n else KL P kp n) := h
    by_cases c : kp n = true
    · rw [if_pos c] at h
      rcases mem_ins h with h | h
      · rw [h]; exact ⟨Nat.lt_succ_self n, c⟩
      · have := KL_lt n x h; exact ⟨by omega, this.2⟩
    · rw [if_neg c] at h
      have := KL_lt n x h; exact ⟨by omega, this.2⟩
theorem filter_swap {p q : Nat → Bool} : ∀ l : List Nat, (l.filter p).filter q = (l.filter q).filter p
  | [] => rfl
  | x :: l => by
    by_cases c1 : p x = true
    · by_cases c2 : q x = true
      · rw [List.filter_cons_of_pos c1, List.filter_cons_of_pos c2, List.filter_cons_of_pos c2, List.filter_cons_of_pos c1, filter_swap l]
      · rw [List.filter_cons_of_pos c1, List.filter_cons_of_neg c2, List.filter_cons_of_neg c2, filter_swap l]
    · by_cases c2 : q x = true
      · rw [List.filter_cons_of_neg c1, List.filter_cons_of_pos c2, List.filter_cons_of_neg c1, filter_swap l]
      · rw [List.filter_cons_of_neg c1, List.filter_cons_of_neg c2, filter_swap l]
theorem KL_eq {P : Nat → Int32} {kp : Nat → Bool} : ∀ n : Nat, KL P kp n = (LL P n).filter kp
  | 0 => rfl
  | n + 1 => by
    show (if kp n = true then insL P (KL P kp n) n else KL P kp n) = (insL P (LL P n) n).filter kp
    unfold insL
    rw [List.filter_append, KL_eq n]
    by_cases c : kp n = true
    · rw [if_pos c, List.filter_cons_of_pos c, filter_swap (p := kp) (q := le9 P (P n).toInt), filter_swap (p := kp) (q := fun h => !le9 P (P n).toInt h)]
    · rw [if_neg c, List.filter_cons_of_neg c, ← List.filter_append, split9 _ (LL_srtd n)]
/-- an array holds a list -/
def arL (f : Nat → Int32) (l : List Nat) : Prop := ∀ (j v : Nat), l[j]? = some v → f j = nI v
theorem insA_cnt {P f : Nat → Int32} {v : Int} {l : List Nat} (hs : srtd P l) (ha : arL f l) (hl : ∀ x ∈ l, x < 1000) : ∀ k : Nat, k ≤ l.length → insA P f v k = ((l.take k).filter (le9 P v)).length
  | 0, _ => by rw [List.take_zero]; rfl
  | k + 1, hk => by
    obtain ⟨x, hx⟩ : ∃ x : Nat, l[k]? = some x := ⟨l[k], List.getElem?_eq_getElem (by omega)⟩
    have hfx : f k = nI x := ha k x hx
    have hx1 := hl x (List.mem_of_getElem? hx)
    have hn : (f k).toNatClampNeg = x := by
      have e : (f k).toNatClampNeg = (f k).toInt.toNat := rfl
      rw [e, hfx, nI_toInt (by omega)]; omega
    have ht : l.take (k + 1) = l.take k ++ [x] := by rw [List.take_succ, hx]; rfl
    show (if v < (P (f k).toNatClampNeg).toInt then insA P f v k else k + 1) = _
    rw [hn, ht, List.filter_append, List.length_append]
    by_cases c : v < (P x).toInt
    · have hz : ([x].filter (le9 P v)).length = 0 := by
        rw [List.filter_cons_of_neg (by unfold le9; rw [decide_eq_true_eq]; omega)]; rfl
      rw [if_pos c, hz, Nat.add_zero, insA_cnt hs ha hl k (by omega)]
    · have hall : (l.take k).filter (le9 P v) = l.take k := by
        rw [List.filter_eq_self]
        intro y hy
        obtain ⟨i, hi, hiy⟩ := List.getElem_of_mem hy
        have hi2 : i < k := by rw [List.length_take] at hi; omega
        have hp : (P l[i]).toInt ≤ (P l[k]).toInt := List.pairwise_iff_getElem.mp hs i k (by omega) (by omega) hi2
        have e1 : l[i] = y := by rw [← hiy, List.getElem_take]
        have e2 : l[k] = x := by
          have := List.getElem?_eq_getElem (l := l) (i := k) (by omega)
          rw [hx] at this; exact (Option.some.inj this).symm
        rw [e1, e2] at hp
        unfold le9
        rw [decide_eq_true_eq]
        omega
      have hz : ([x].filter (le9 P v)).length = 1 := by
        rw [List.filter_cons_of_pos (by unfold le9; rw [decide_eq_true_eq]; omega)]; rfl
      rw [if_neg c, hz, hall, List.length_take, Nat.min_eq_left (by omega)]
theorem insF_list {P f : Nat → Int32} {l : List Nat} {n : Nat} {h : Int32} (hs : srtd P l) (ha : arL f l) (hl : ∀ x ∈ l, x < 1000) (hh : h = nI n) : arL (insF f l.length (insA P f (P n).toInt l.length) h) (insL P l n) := by
  have hA := insA_cnt (v := (P n).toInt) hs ha hl l.length (Nat.le_refl _)
  rw [List.take_length] at hA
  have hsp := split9 (v := (P n).toInt) l hs
  obtain ⟨A, eA⟩ : ∃ A : List Nat, A = l.filter (le9 P (P n).toInt) := ⟨_, rfl⟩
  obtain ⟨B, eB⟩ : ∃ B : List Nat, B = l.filter (fun h => !le9 P (P n).toInt h) := ⟨_, rfl⟩
  rw [← eA, ← eB] at hsp
  rw [← eA] at hA
  intro j v hv
  unfold insL at hv
  rw [← eA, ← eB] at hv
  rw [hA]
  have hlen : A.length + B.length = l.length := by rw [← hsp, List.length_append]
  show (if j = A.length then h else if A.length < j ∧ j ≤ l.length then f (j - 1) else f j) = nI v
  by_cases c : j < A.length
  · rw [List.getElem?_append_left c] at hv
    rw [if_neg (by omega), if_neg (by omega)]
    refine ha j v ?_
    rw [← hsp, List.getElem?_append_left c]; exact hv
  · rw [List.getElem?_append_right (by omega)] at hv
    by_cases c2 : j = A.length
    · rw [c2, Nat.sub_self, List.getElem?_cons_zero] at hv
      rw [if_pos c2, hh, Option.some.inj hv]
    · obtain ⟨i, hi⟩ : ∃ i : Nat, j - A.length = i + 1 := ⟨j - A.length - 1, by omega⟩
      rw [hi, List.getElem?_cons_succ] at hv
      have hiB : i < B.length := by
        by_cases q : i < B.length
        · exact q
        · rw [List.getElem?_eq_none (by omega)] at hv; cases hv
      rw [if_neg c2, if_pos (by omega)]
      refine ha (j - 1) v ?_
      rw [← hsp, List.getElem?_append_right (by omega), show j - 1 - A.length = i by omega]; exact hv
theorem srt_list {P : Nat → Int32} : ∀ n : Nat, n ≤ 1000 → arL (srt P n) (LL P n)
  | 0, _ => fun j v hv => by cases hv
  | n + 1, hn => by
    have h := insF_list (n := n) (h := Int32.ofNat n) (LL_srtd (P := P) n) (srt_list n (by omega)) (fun x hx => by have := LL_lt n x hx; omega) rfl
    rw [LL_len n] at h
    exact h

/-- how many of the first k holes in order are kept; the kept ones in order -/
def kcN (P : Nat → Int32) (kp : Nat → Bool) (n k : Nat) : Nat := (((LL P n).take k).filter kp).length
def csF (P : Nat → Int32) (kp : Nat → Bool) (n : Nat) (j : Nat) : Int32 := nI ((KL P kp n).getD j 0)
theorem kc_zero {P : Nat → Int32} {kp : Nat → Bool} {n : Nat} : kcN P kp n 0 = 0 := by
  unfold kcN
  rw [List.take_zero]; rfl
theorem take_s {l : List Nat} {k x : Nat} (h : l[k]? = some x) : l.take (k + 1) = l.take k ++ [x] := by
  rw [List.take_succ, h]; rfl
theorem kc_skip {P : Nat → Int32} {kp : Nat → Bool} {n k x : Nat} (hx : (LL P n)[k]? = some x) (hk : ¬ kp x = true) : kcN P kp n (k + 1) = kcN P kp n k := by
  unfold kcN
  rw [take_s hx, List.filter_append, List.filter_cons_of_neg hk, List.filter_nil, List.append_nil]
theorem kc_keep {P : Nat → Int32} {kp : Nat → Bool} {n k x : Nat} (hx : (LL P n)[k]? = some x) (hk : kp x = true) : kcN P kp n (k + 1) = kcN P kp n k + 1 ∧ csF P kp n (kcN P kp n k) = nI x := by
  constructor
  · unfold kcN
    rw [take_s hx, List.filter_append, List.filter_cons_of_pos hk, List.filter_nil, List.length_append]; rfl
  · have hlt : k < (LL P n).length := by
      by_cases q : k < (LL P n).length
      · exact q
      · rw [List.getElem?_eq_none (by omega)] at hx; cases hx
    have hd : (LL P n).drop k = x :: (LL P n).drop (k + 1) := by
      rw [List.drop_eq_getElem_cons hlt]
      have := List.getElem?_eq_getElem hlt
      rw [hx] at this
      rw [← Option.some.inj this]
    have e : KL P kp n = ((LL P n).take k).filter kp ++ (x :: ((LL P n).drop (k + 1)).filter kp) := by
      rw [KL_eq, ← List.filter_cons_of_pos (l := (LL P n).drop (k + 1)) hk, ← hd, ← List.filter_append, List.take_append_drop]
    unfold csF kcN
    rw [e, List.getD_eq_getElem?_getD, List.getElem?_append_right (Nat.le_refl _), Nat.sub_self, List.getElem?_cons_zero]
    rfl
theorem kc_all {P : Nat → Int32} {kp : Nat → Bool} {n : Nat} : kcN P kp n n = (KL P kp n).length := by
  unfold kcN
  have e : (LL P n).take n = LL P n := List.take_of_length_le (by rw [LL_len]; exact Nat.le_refl n)
  rw [e, KL_eq]
theorem kc_le {P : Nat → Int32} {kp : Nat → Bool} {n k : Nat} : kcN P kp n k ≤ k := by
  unfold kcN
  have h1 := List.length_filter_le kp ((LL P n).take k)
  rw [List.length_take] at h1
  omega
theorem srt_at {P : Nat → Int32} {n k : Nat} (hn : n ≤ 40) (hk : k < n) : ∃ x : Nat, (LL P n)[k]? = some x ∧ srt P n k = nI x ∧ x < n := by
  have hl : k < (LL P n).length := by rw [LL_len]; exact hk
  refine ⟨(LL P n)[k], List.getElem?_eq_getElem hl, ?_, LL_lt n _ (List.getElem_mem hl)⟩
  exact srt_list n (by omega) k _ (List.getElem?_eq_getElem hl)
/-- WInv's steps, by places told as numbers -/
theorem wn_new {s S P : Nat → Int32} {sl : Int} {m : Nat} {w w' i z y b v : Int32} {g g' o o' : Nat → Int32} {q : Nat} (h : WInv s S P sl m w g o) (hm : m < 40)
    (hn : m = 0 ∨ sl < (P (s m).toNatClampNeg).toInt - (P (s (m - 1)).toNatClampNeg).toInt ∨ (0 < m ∧ (g (w.toInt - 1).toNat &&& b).toInt ≠ 0))
    (hw : w'.toInt = w.toInt + 1) (hg : g' = upd (upd g w.toNatClampNeg 0) i.toNatClampNeg z) (hi : i.toInt = w.toInt) (hy : y = upd g w.toNatClampNeg 0 i.toNatClampNeg) (hz : z = y ||| b) (hb : b = bitW (S (s m).toNatClampNeg)) (ho : o' = upd o q v) (hq : q = (s m).toNatClampNeg) (hv : v.toInt = w.toInt) : WInv s S P sl (m + 1) w' g' o' := by
  have e1 : (nI m).toInt = (m : Int) := nI_toInt (by omega)
  have e2 : (nI (m + 1)).toInt = ((m + 1 : Nat) : Int) := nI_toInt (by omega)
  have e3 : (nI m).toNatClampNeg = m := by have e9 : (nI m).toNatClampNeg = (nI m).toInt.toNat := rfl; omega
  have t := wi_new (s := s) (S := S) (P := P) (sl := sl) (k := nI m) (k' := nI (m + 1)) (w := w) (w' := w') (i := i) (z := z) (y := y) (b := b) (v := v) (g := g) (g' := g') (o := o) (o' := o') (q := q) (by rw [show (nI m).toInt.toNat = m by omega]; exact h) (by omega) (by omega) (by omega) (by
    rw [e3, show ((nI m).toInt - 1).toNat = m - 1 by omega]
    rcases hn with hn | hn | hn
    · exact Or.inl (by omega)
    · exact Or.inr (Or.inl hn)
    · exact Or.inr (Or.inr ⟨by omega, hn.2⟩)) hw hg hi hy hz (by rw [e3]; exact hb) ho (by rw [e3]; exact hq) hv
  rw [show (nI (m + 1)).toInt.toNat = m + 1 by omega] at t
  exact t
theorem wn_old {s S P : Nat → Int32} {sl : Int} {m : Nat} {w w' i z y b v : Int32} {g g' o o' : Nat → Int32} {q : Nat} (h : WInv s S P sl m w g o) (hm : m < 40) (h0 : 0 < m)
    (hn : ¬ (sl < (P (s m).toNatClampNeg).toInt - (P (s (m - 1)).toNatClampNeg).toInt)) (hn2 : (g (w.toInt - 1).toNat &&& b).toInt = 0)
    (hw : w'.toInt = w.toInt) (hg : g' = upd g i.toNatClampNeg z) (hi : i.toInt = w.toInt - 1) (hy : y = g i.toNatClampNeg) (hz : z = y ||| b) (hb : b = bitW (S (s m).toNatClampNeg)) (ho : o' = upd o q v) (hq : q = (s m).toNatClampNeg) (hv : v.toInt = w.toInt - 1) : WInv s S P sl (m + 1) w' g' o' := by
  have e1 : (nI m).toInt = (m : Int) := nI_toInt (by omega)
  have e2 : (nI (m + 1)).toInt = ((m + 1 : Nat) : Int) := nI_toInt (by omega)
  have e3 : (nI m).toNatClampNeg = m := by have e9 : (nI m).toNatClampNeg = (nI m).toInt.toNat := rfl; omega
  have t := wi_old (s := s) (S := S) (P := P) (sl := sl) (k := nI m) (k' := nI (m + 1)) (w := w) (w' := w') (i := i) (z := z) (y := y) (b := b) (v := v) (g := g) (g' := g') (o := o) (o' := o') (q := q) (by rw [show (nI m).toInt.toNat = m by omega]; exact h) (by omega) (by omega) (by omega) (by rw [e3, show ((nI m).toInt - 1).toNat = m - 1 by omega]; exact hn) hn2 hw hg hi hy hz (by rw [e3]; exact hb) ho (by rw [e3]; exact hq) hv
  rw [show (nI (m + 1)).toInt.toNat = m + 1 by omega] at t
  exact t

def kpA (S : Nat → Int32) (a : Int32) (h : Nat) : Bool := decide ((a &&& bitW (S h)).toInt ≠ 0)
def kp9 (S : Nat → Int32) (x : Int32) (h : Nat) : Bool := decide ((S h).toInt ≠ x.toInt)
theorem kpa_yes {S : Nat → Int32} {a z : Int32} {h : Nat} (e : z = a &&& bitW (S h)) (hz : z.toInt ≠ 0) : kpA S a h = true := by
  unfold kpA
  rw [decide_eq_true_eq, ← e]; exact hz
theorem kpa_no {S : Nat → Int32} {a z : Int32} {h : Nat} (e : z = a &&& bitW (S h)) (hz : z.toInt = 0) : ¬ kpA S a h = true := by
  unfold kpA
  rw [decide_eq_true_eq, ← e]
  exact fun q => q hz
theorem kp9_yes {S : Nat → Int32} {x k z : Int32} (e : z = S k.toNatClampNeg) (hz : z.toInt ≠ x.toInt) : kp9 S x k.toInt.toNat = true := by
  have e2 : k.toNatClampNeg = k.toInt.toNat := rfl
  unfold kp9
  rw [decide_eq_true_eq, ← e2, ← e]; exact hz
theorem kp9_no {S : Nat → Int32} {x k z : Int32} (e : z = S k.toNatClampNeg) (hz : z.toInt = x.toInt) : ¬ kp9 S x k.toInt.toNat = true := by
  have e2 : k.toNatClampNeg = k.toInt.toNat := rfl
  unfold kp9
  rw [decide_eq_true_eq, ← e2, ← e]
  exact fun q => q hz
theorem kc_at {P bp : Nat → Int32} {kp : Nat → Bool} {n : Nat} {h K : Int32} (hbp : bp = srt P n) (hh : h = bp K.toNatClampNeg) (hn : n ≤ 40) (h0 : 0 ≤ K.toInt) (hk : K.toInt < (n : Int)) : h.toNatClampNeg < n ∧ (¬ kp h.toNatClampNeg = true → kcN P kp n (K.toInt.toNat + 1) = kcN P kp n K.toInt.toNat) ∧ (kp h.toNatClampNeg = true → kcN P kp n (K.toInt.toNat + 1) = kcN P kp n K.toInt.toNat + 1 ∧ csF P kp n (kcN P kp n K.toInt.toNat) = h) := by
  have e2 : K.toNatClampNeg = K.toInt.toNat := rfl
  obtain ⟨x, hx1, hx2, hx3⟩ := srt_at (P := P) (n := n) (k := K.toInt.toNat) hn (by omega)
  have e3 : h = nI x := by rw [hh, hbp, e2, hx2]
  have e4 : (nI x).toInt = (x : Int) := nI_toInt (by omega)
  have e5 : (nI x).toNatClampNeg = x := by
    have e9 : (nI x).toNatClampNeg = (nI x).toInt.toNat := rfl
    omega
  rw [e3, e5]
  exact ⟨hx3, fun q => kc_skip hx1 q, fun q => kc_keep hx1 q⟩
theorem kc_z {P : Nat → Int32} {kp : Nat → Bool} {n : Nat} {k : Int32} (h : k.toInt = 0) : kcN P kp n k.toInt.toNat = 0 := by
  rw [h]; exact kc_zero
theorem cs_rng {P : Nat → Int32} {kp : Nat → Bool} {n j : Nat} (hn : n ≤ 40) : 0 ≤ (csF P kp n j).toInt ∧ (csF P kp n j).toInt ≤ 39 := by
  by_cases hj : j < (KL P kp n).length
  · have e : csF P kp n j = nI ((KL P kp n)[j]) := by
      unfold csF
      simp only [List.getD_eq_getElem?_getD, List.getElem?_eq_getElem hj, Option.getD_some]
    have hm := (KL_lt n _ (List.getElem_mem hj)).1
    rw [e, nI_toInt (by omega)]; omega
  · have e : csF P kp n j = nI 0 := by
      unfold csF
      simp only [List.getD_eq_getElem?_getD, List.getElem?_eq_none (Nat.le_of_not_lt hj), Option.getD_none]
    rw [e]; decide
theorem cs_kept {P : Nat → Int32} {kp : Nat → Bool} {n j : Nat} (hj : j < (KL P kp n).length) (hn : n ≤ 40) : (csF P kp n j).toNatClampNeg < n ∧ kp (csF P kp n j).toNatClampNeg = true := by
  have e : csF P kp n j = nI ((KL P kp n)[j]) := by
    unfold csF
    simp only [List.getD_eq_getElem?_getD, List.getElem?_eq_getElem hj, Option.getD_some]
  have hm := KL_lt n _ (List.getElem_mem hj)
  have e4 : (nI ((KL P kp n)[j])).toInt = (((KL P kp n)[j] : Nat) : Int) := nI_toInt (by omega)
  have e5 : (nI ((KL P kp n)[j])).toNatClampNeg = (KL P kp n)[j] := by
    have e9 : (nI ((KL P kp n)[j])).toNatClampNeg = (nI ((KL P kp n)[j])).toInt.toNat := rfl
    omega
  rw [e, e5]; exact hm
/-! the class' search through those sheets whose bits are set -/
theorem w9_start {P S : Nat → Int32} {kp : Nat → Bool} {n : Nat} {sl : Int} {k w : Int32} {g o : Nat → Int32} (hk : k.toInt = 0) (h : w.toInt = 0) : WInv (csF P kp n) S P sl (kcN P kp n k.toInt.toNat) w g o := by
  rw [kc_z hk]; exact wi_zero h
theorem w9_skip {P S : Nat → Int32} {kp : Nat → Bool} {n : Nat} {sl : Int} {k k' w : Int32} {g o : Nat → Int32} (h : WInv (csF P kp n) S P sl (kcN P kp n k.toInt.toNat) w g o) (hk1 : kcN P kp n (k.toInt.toNat + 1) = kcN P kp n k.toInt.toNat) (h0 : 0 ≤ k.toInt) (hk : k'.toInt = k.toInt + 1) : WInv (csF P kp n) S P sl (kcN P kp n k'.toInt.toNat) w g o := by
  rw [show k'.toInt.toNat = k.toInt.toNat + 1 by omega, hk1]; exact h
theorem w9_new {P S : Nat → Int32} {kp : Nat → Bool} {n : Nat} {sl : Int} {k k' w w' i z y b v : Int32} {g g' o o' : Nat → Int32} {q : Nat} (h : WInv (csF P kp n) S P sl (kcN P kp n k.toInt.toNat) w g o) (hk1 : kcN P kp n (k.toInt.toNat + 1) = kcN P kp n k.toInt.toNat + 1) (h0 : 0 ≤ k.toInt) (hk : k'.toInt = k.toInt + 1) (h40 : k.toInt < 40)
    (hn : kcN P kp n k.toInt.toNat = 0 ∨ sl < (P (csF P kp n (kcN P kp n k.toInt.toNat)).toNatClampNeg).toInt - (P (csF P kp n (kcN P kp n k.toInt.toNat - 1)).toNatClampNeg).toInt ∨ (0 < kcN P kp n k.toInt.toNat ∧ (g (w.toInt - 1).toNat &&& b).toInt ≠ 0))
    (hw : w'.toInt = w.toInt + 1) (hg : g' = upd (upd g w.toNatClampNeg 0) i.toNatClampNeg z) (hi : i.toInt = w.toInt) (hy : y = upd g w.toNatClampNeg 0 i.toNatClampNeg) (hz : z = y ||| b) (hb : b = bitW (S (csF P kp n (kcN P kp n k.toInt.toNat)).toNatClampNeg)) (ho : o' = upd o q v) (hq : q = (csF P kp n (kcN P kp n k.toInt.toNat)).toNatClampNeg) (hv : v.toInt = w.toInt) : WInv (csF P kp n) S P sl (kcN P kp n k'.toInt.toNat) w' g' o' := by
  have hle := kc_le (P := P) (kp := kp) (n := n) (k := k.toInt.toNat)
  have t := wn_new h (by omega) hn hw hg hi hy hz hb ho hq hv
  rw [show k'.toInt.toNat = k.toInt.toNat + 1 by omega, hk1]; exact t
theorem w9_old {P S : Nat → Int32} {kp : Nat → Bool} {n : Nat} {sl : Int} {k k' w w' i z y b v : Int32} {g g' o o' : Nat → Int32} {q : Nat} (h : WInv (csF P kp n) S P sl (kcN P kp n k.toInt.toNat) w g o) (hk1 : kcN P kp n (k.toInt.toNat + 1) = kcN P kp n k.toInt.toNat + 1) (h0 : 0 ≤ k.toInt) (hk : k'.toInt = k.toInt + 1) (h40 : k.toInt < 40) (hp : 0 < kcN P kp n k.toInt.toNat)
    (hn : ¬ (sl < (P (csF P kp n (kcN P kp n k.toInt.toNat)).toNatClampNeg).toInt - (P (csF P kp n (kcN P kp n k.toInt.toNat - 1)).toNatClampNeg).toInt)) (hn2 : (g (w.toInt - 1).toNat &&& b).toInt = 0)
    (hw : w'.toInt = w.toInt) (hg : g' = upd g i.toNatClampNeg z) (hi : i.toInt = w.toInt - 1) (hy : y = g i.toNatClampNeg) (hz : z = y ||| b) (hb : b = bitW (S (csF P kp n (kcN P kp n k.toInt.toNat)).toNatClampNeg)) (ho : o' = upd o q v) (hq : q = (csF P kp n (kcN P kp n k.toInt.toNat)).toNatClampNeg) (hv : v.toInt = w.toInt - 1) : WInv (csF P kp n) S P sl (kcN P kp n k'.toInt.toNat) w' g' o' := by
  have hle := kc_le (P := P) (kp := kp) (n := n) (k := k.toInt.toNat)
  have t := wn_old h (by omega) hp hn hn2 hw hg hi hy hz hb ho hq hv
  rw [show k'.toInt.toNat = k.toInt.toNat + 1 by omega, hk1]; exact t
theorem w9_end {P S : Nat → Int32} {kp : Nat → Bool} {n m : Nat} {sl : Int} {w : Int32} {g o : Nat → Int32} (h : WInv (csF P kp n) S P sl (kcN P kp n m) w g o) (hm : m = n) : WInv (csF P kp n) S P sl (KL P kp n).length w g o := by
  subst hm
  rw [kc_all] at h; exact h
def ta9 (P : Nat → Int32) (kp : Nat → Bool) (n m : Nat) (L : Int32) : Prop := (kcN P kp n m = 0 ∧ L.toInt = -1) ∨ (0 < kcN P kp n m ∧ L = csF P kp n (kcN P kp n m - 1))
theorem ta9_start {P : Nat → Int32} {kp : Nat → Bool} {n : Nat} {k L : Int32} (hk : k.toInt = 0) (h : L.toInt = -1) : ta9 P kp n k.toInt.toNat L := Or.inl ⟨kc_z hk, h⟩
theorem ta9_skip {P : Nat → Int32} {kp : Nat → Bool} {n : Nat} {k k' L : Int32} (h : ta9 P kp n k.toInt.toNat L) (hk1 : kcN P kp n (k.toInt.toNat + 1) = kcN P kp n k.toInt.toNat) (h0 : 0 ≤ k.toInt) (hk : k'.toInt = k.toInt + 1) : ta9 P kp n k'.toInt.toNat L := by
  unfold ta9 at h ⊢
  rw [show k'.toInt.toNat = k.toInt.toNat + 1 by omega, hk1]; exact h
theorem ta9_keep {P : Nat → Int32} {kp : Nat → Bool} {n : Nat} {k k' h : Int32} (hk1 : kcN P kp n (k.toInt.toNat + 1) = kcN P kp n k.toInt.toNat + 1) (hcs : csF P kp n (kcN P kp n k.toInt.toNat) = h) (h0 : 0 ≤ k.toInt) (hk : k'.toInt = k.toInt + 1) : ta9 P kp n k'.toInt.toNat h := by
  unfold ta9
  rw [show k'.toInt.toNat = k.toInt.toNat + 1 by omega, hk1, Nat.add_sub_cancel]
  exact Or.inr ⟨Nat.succ_pos _, hcs.symm⟩
theorem ta9_nn {P : Nat → Int32} {kp : Nat → Bool} {n m : Nat} {L : Int32} (h : ta9 P kp n m L) (hn : n ≤ 40) : kcN P kp n m = 0 ∨ 0 ≤ L.toInt := by
  rcases h with h | h
  · exact Or.inl h.1
  · exact Or.inr (by rw [h.2]; exact (cs_rng hn).1)
theorem ta9_at {P : Nat → Int32} {kp : Nat → Bool} {n m : Nat} {L : Int32} (h : ta9 P kp n m L) (h0 : 0 ≤ L.toInt) : 0 < kcN P kp n m ∧ L = csF P kp n (kcN P kp n m - 1) := by
  rcases h with h | h
  · omega
  · exact h
/-! the reference's: the holes of the other sheets put in order first -/
theorem kl_start {P f : Nat → Int32} {kp : Nat → Bool} {k : Int32} (h : k.toInt = 0) : arL f (KL P kp k.toInt.toNat) := by
  rw [h]; exact fun j v hv => by cases hv
theorem kl_len0 {P : Nat → Int32} {kp : Nat → Bool} {k m : Int32} (h : k.toInt = 0) (hm : m.toInt = 0) : m.toInt = (((KL P kp k.toInt.toNat).length : Nat) : Int) := by
  rw [h, hm]; rfl
theorem kl_yes {P : Nat → Int32} {kp : Nat → Bool} {k k' : Int32} (h0 : 0 ≤ k.toInt) (h1 : k'.toInt = k.toInt + 1) (hk : kp k.toInt.toNat = true) : KL P kp k'.toInt.toNat = insL P (KL P kp k.toInt.toNat) k.toInt.toNat := by
  rw [show k'.toInt.toNat = k.toInt.toNat + 1 by omega]
  exact if_pos hk
theorem kl_no {P : Nat → Int32} {kp : Nat → Bool} {k k' : Int32} (h0 : 0 ≤ k.toInt) (h1 : k'.toInt = k.toInt + 1) (hk : ¬ kp k.toInt.toNat = true) : KL P kp k'.toInt.toNat = KL P kp k.toInt.toNat := by
  rw [show k'.toInt.toNat = k.toInt.toNat + 1 by omega]
  exact if_neg hk
theorem kl_lenS {P : Nat → Int32} {kp : Nat → Bool} {k k' m : Int32} (h : m.toInt = (((KL P kp k.toInt.toNat).length : Nat) : Int)) (h0 : 0 ≤ k.toInt) (h1 : k'.toInt = k.toInt + 1) (hk : ¬ kp k.toInt.toNat = true) : m.toInt = (((KL P kp k'.toInt.toNat).length : Nat) : Int) := by
  rw [kl_no h0 h1 hk]; exact h
theorem kl_lenN {P : Nat → Int32} {kp : Nat → Bool} {k k' m m' : Int32} (h : m.toInt = (((KL P kp k.toInt.toNat).length : Nat) : Int)) (h0 : 0 ≤ k.toInt) (h1 : k'.toInt = k.toInt + 1) (hk : kp k.toInt.toNat = true) (hm : m'.toInt = m.toInt + 1) : m'.toInt = (((KL P kp k'.toInt.toNat).length : Nat) : Int) := by
  rw [kl_yes h0 h1 hk, ins_len (KL_srtd _)]
  omega
theorem kl_skip {P f : Nat → Int32} {kp : Nat → Bool} {k k' : Int32} (h : arL f (KL P kp k.toInt.toNat)) (h0 : 0 ≤ k.toInt) (h1 : k'.toInt = k.toInt + 1) (hk : ¬ kp k.toInt.toNat = true) : arL f (KL P kp k'.toInt.toNat) := by
  rw [kl_no h0 h1 hk]; exact h
theorem kl_next {P f g : Nat → Int32} {kp : Nat → Bool} {k k' m : Int32} (h : arL f (KL P kp k.toInt.toNat)) (hm : m.toInt = (((KL P kp k.toInt.toNat).length : Nat) : Int)) (h0 : 0 ≤ k.toInt) (h40 : k.toInt < 40) (h1 : k'.toInt = k.toInt + 1) (hk : kp k.toInt.toNat = true) (hg : g = insF f m.toInt.toNat (insA P f (P k.toNatClampNeg).toInt m.toInt.toNat) k) : arL g (KL P kp k'.toInt.toNat) := by
  have e2 : k.toNatClampNeg = k.toInt.toNat := rfl
  have em : m.toInt.toNat = (KL P kp k.toInt.toNat).length := by omega
  rw [kl_yes h0 h1 hk, hg, em, e2]
  exact insF_list (KL_srtd _) h (fun x hx => by have := (KL_lt _ x hx).1; omega) (nI_ofI h0)
theorem ar_cs {P f : Nat → Int32} {kp : Nat → Bool} {n j : Nat} (h : arL f (KL P kp n)) (hj : j < (KL P kp n).length) : f j = csF P kp n j := by
  have e : csF P kp n j = nI ((KL P kp n)[j]) := by
    unfold csF
    simp only [List.getD_eq_getElem?_getD, List.getElem?_eq_getElem hj, Option.getD_some]
  rw [e]; exact h j _ (List.getElem?_eq_getElem hj)
theorem w9_fin {P S f : Nat → Int32} {kp : Nat → Bool} {n m : Nat} {sl : Int} {w : Int32} {g o : Nat → Int32} (h : WInv f S P sl m w g o) (ha : arL f (KL P kp n)) (hm : m = (KL P kp n).length) : WInv (csF P kp n) S P sl (KL P kp n).length w g o := by
  rw [hm] at h
  exact wi_congr h (fun j hj => ar_cs ha hj)
/-! both sides' answer -/
def al9 (c x : Int32) : Int32 := allB c &&& (bitW x ^^^ (-1))
theorem al9_tab : ∀ c : Nat, c < 9 → ∀ x : Nat, x < c → ∀ y : Nat, y < c → ((al9 (nI c) (nI x) &&& bitW (nI y)).toInt ≠ 0 ↔ y ≠ x) := by decide +kernel
theorem al9_pc : ∀ c : Nat, c < 9 → ∀ x : Nat, x < c → 0 ≤ (al9 (nI c) (nI x)).toInt ∧ (al9 (nI c) (nI x)).toInt ≤ 255 ∧ pcN (al9 (nI c) (nI x)).toInt.toNat = c - 1 := by decide +kernel
theorem bit_tab : ∀ x : Nat, x < 8 → ∀ y : Nat, y < 8 → y ≠ x → bitW (nI y) &&& bitW (nI x) = 0 := by decide +kernel
def nk9 (S P : Nat → Int32) (n : Nat) (x : Int32) : Nat := (KL P (kp9 S x) n).length
def mbK (S P : Nat → Int32) (n : Nat) (sl : Int) (x c : Int32) : Int32 → Nat → Bool := mayB (wst (csF P (kp9 S x) n) S P sl (nk9 S P n x)).2.1 (wst (csF P (kp9 S x) n) S P sl (nk9 S P n x)).1 (al9 c x)
theorem KL_congr {P : Nat → Int32} {kp kp' : Nat → Bool} : ∀ n : Nat, (∀ h : Nat, h < n → kp h = kp' h) → KL P kp n = KL P kp' n
  | 0, _ => rfl
  | n + 1, h => by
    show (if kp n = true then insL P (KL P kp n) n else KL P kp n) = (if kp' n = true then insL P (KL P kp' n) n else KL P kp' n)
    rw [h n (Nat.lt_succ_self n), KL_congr n (fun q hq => h q (by omega))]
theorem kpA_9 {S : Nat → Int32} {c x : Int32} {h : Nat} (c8 : c.toInt ≤ 8) (x0 : 0 ≤ x.toInt) (xc : x.toInt < c.toInt) (s0 : 0 ≤ (S h).toInt) (sc : (S h).toInt < c.toInt) : kpA S (al9 c x) h = kp9 S x h := by
  have t := al9_tab c.toInt.toNat (by omega) x.toInt.toNat (by omega) (S h).toInt.toNat (by omega)
  rw [← nI_ofI (show 0 ≤ c.toInt by omega), ← nI_ofI x0, ← nI_ofI s0] at t
  unfold kpA kp9
  rw [decide_eq_decide, t]
  omega
theorem wst_B {s S P : Nat → Int32} {sl : Int} {B : Int32} : ∀ m : Nat, (∀ j : Nat, j < m → bitW (S (s j).toNatClampNeg) &&& B = 0) → ∀ k : Nat, k < (wst s S P sl m).1 → (wst s S P sl m).2.1 k &&& B = 0
  | 0, _, k, hk => absurd hk (Nat.not_lt_zero k)
  | m + 1, h, k, hk => by
    have ih := wst_B (s := s) (S := S) (P := P) (sl := sl) (B := B) m (fun j hj => h j (by omega))
    have hb := h m (Nat.lt_succ_self m)
    have hor : ∀ a b : Int32, a &&& B = 0 → b &&& B = 0 → (a ||| b) &&& B = 0 := fun a b ha hb => b_ext (fun i hi => by
      have e1 : bt (a &&& B) i = bt 0 i := by rw [ha]
      have e2 : bt (b &&& B) i = bt 0 i := by rw [hb]
      rw [b_and, b_0] at e1 e2
      rw [b_and, b_or, b_0]
      revert e1 e2
      cases bt a i <;> cases bt b i <;> cases bt B i <;> decide)
    have hz : (0 : Int32) &&& B = 0 := b_ext (fun i hi => by rw [b_and, b_0, Bool.false_and])
    by_cases c : newW s S P sl m (wst s S P sl m).1 (wst s S P sl m).2.1 = true
    · have hW : wst s S P sl (m + 1) = ((wst s S P sl m).1 + 1, upd (wst s S P sl m).2.1 (wst s S P sl m).1 (0 ||| bitW (S (s m).toNatClampNeg)), upd (wst s S P sl m).2.2 (s m).toNatClampNeg (Int32.ofNat (wst s S P sl m).1)) := if_pos c
      rw [hW] at hk ⊢
      have hk : k < (wst s S P sl m).1 + 1 := hk
      show (if k = (wst s S P sl m).1 then (0 ||| bitW (S (s m).toNatClampNeg)) else (wst s S P sl m).2.1 k) &&& B = 0
      by_cases q : k = (wst s S P sl m).1
      · rw [if_pos q]; exact hor _ _ hz hb
      · rw [if_neg q]; exact ih k (by omega)
    · have hW : wst s S P sl (m + 1) = ((wst s S P sl m).1, upd (wst s S P sl m).2.1 ((wst s S P sl m).1 - 1) ((wst s S P sl m).2.1 ((wst s S P sl m).1 - 1) ||| bitW (S (s m).toNatClampNeg)), upd (wst s S P sl m).2.2 (s m).toNatClampNeg (Int32.ofNat ((wst s S P sl m).1 - 1))) := if_neg c
      rw [hW] at hk ⊢
      have hk : k < (wst s S P sl m).1 := hk
      show (if k = (wst s S P sl m).1 - 1 then ((wst s S P sl m).2.1 ((wst s S P sl m).1 - 1) ||| bitW (S (s m).toNatClampNeg)) else (wst s S P sl m).2.1 k) &&& B = 0
      by_cases q : k = (wst s S P sl m).1 - 1
      · rw [if_pos q]; exact hor _ _ (ih _ (by omega)) hb
      · rw [if_neg q]; exact ih k hk
theorem may_B {g : Nat → Int32} {nw : Nat} {c x L : Int32} {s : Nat} (hs : s < 8) (hg : ∀ k : Nat, k < nw → g k &&& bitW x = 0) : mayB g nw (allB c) (L ||| bitW x) s = mayB g nw (al9 c x) L s := by
  have h1 : (bt (allB c) s && !bt (L ||| bitW x) s) = (bt (al9 c x) s && !bt L s) := by
    unfold al9
    rw [b_and, bt_not (by omega), b_or]
    cases bt (allB c) s <;> cases bt L s <;> cases bt (bitW x) s <;> rfl
  have e : ∀ k : Nat, k ∈ List.range nw → fB g (L ||| bitW x) s k = fB g L s k := fun k hk => by
    obtain ⟨q1, q2⟩ := gB_and (X := L) (hg k (List.mem_range.mp hk))
    unfold fB
    rw [q1, q2]
  have h2 : (List.range nw).all (fB g (L ||| bitW x) s) = (List.range nw).all (fB g L s) := by
    rw [Bool.eq_iff_iff, List.all_eq_true, List.all_eq_true]
    exact ⟨fun q k hk => by rw [← e k hk]; exact q k hk, fun q k hk => by rw [e k hk]; exact q k hk⟩
  unfold mayB
  rw [h1, h2]
theorem cN_B {mb mb' : Int32 → Nat → Bool} {B : Int32} (e : ∀ (L : Int32) (s : Nat), s < 8 → mb (L ||| B) s = mb' L s) : ∀ (d : Nat) (L : Int32), cN mb d (L ||| B) = cN mb' d L
  | 0, _ => rfl
  | d + 1, L => sumT_congr 8 (fun s hs => by
    show (if mb (L ||| B) s = true then cN mb d ((L ||| B) ||| bitW (nI s)) else 0) = (if mb' L s = true then cN mb' d (L ||| bitW (nI s)) else 0)
    have ec : (L ||| B) ||| bitW (nI s) = (L ||| bitW (nI s)) ||| B := b_ext (fun i _ => by
      rw [b_or, b_or, b_or, b_or]
      cases bt L i <;> cases bt B i <;> cases bt (bitW (nI s)) i <;> rfl)
    rw [e L s hs, ec, cN_B e d])
def wtR (S P : Nat → Int32) (n : Nat) (sl : Int) (x c : Int32) (r : Int) : Prop := r = ((cN (mbK S P n sl x c) (c.toInt.toNat - 1) 0 : Nat) : Int)
theorem wtR_congr {S S' P P' : Nat → Int32} {n n' : Nat} {sl sl' r r' : Int} {x x' c c' : Int32} (h : wtR S P n sl x c r) (h' : wtR S' P' n' sl' x' c' r') (e1 : S = S') (e2 : P = P') (e3 : n = n') (e4 : sl = sl') (e5 : x = x') (e6 : c = c') : r = r' := by
  subst e1 e2 e3 e4 e5 e6
  unfold wtR at h h'
  rw [h, h']
theorem mbK_of {S P g o : Nat → Int32} {n : Nat} {sl : Int} {x w c : Int32} (hW : WInv (csF P (kp9 S x) n) S P sl (nk9 S P n x) w g o) : mayB g w.toInt.toNat (al9 c x) = mbK S P n sl x c := by
  funext L s
  unfold WInv at hW
  unfold mbK
  rw [show w.toInt.toNat = (wst (csF P (kp9 S x) n) S P sl (nk9 S P n x)).1 by omega]
  exact mayB_congr (fun k hk => hW.2.2.2.1 k hk)
theorem wt_cls {ma wo g o S P : Nat → Int32} {n : Nat} {sl : Int} {a w c x : Int32} (hW : WInv (csF P (kpA S a) n) S P sl (KL P (kpA S a) n).length w g o) (ha : a = al9 c x) (c8 : c.toInt ≤ 8) (x0 : 0 ≤ x.toInt) (xc : x.toInt < c.toInt) (hS : ∀ j : Nat, j < n → 0 ≤ (S j).toInt ∧ (S j).toInt < c.toInt) (hWA : woA wo (maB ma) a.toInt.toNat) (hM : maI ma (mayB g w.toInt.toNat a) a.toInt.toNat) : wtR S P n sl x c (wo 0).toInt := by
  subst ha
  have hk : ∀ h : Nat, h < n → kpA S (al9 c x) h = kp9 S x h := fun h hh => kpA_9 c8 x0 xc (hS h hh).1 (hS h hh).2
  have eK : KL P (kpA S (al9 c x)) n = KL P (kp9 S x) n := KL_congr n hk
  have eC : csF P (kpA S (al9 c x)) n = csF P (kp9 S x) n := by
    funext j
    unfold csF
    rw [eK]
  rw [eK, eC] at hW
  have t := al9_pc c.toInt.toNat (by omega) x.toInt.toNat (by omega)
  rw [← nI_ofI (show 0 ≤ c.toInt by omega), ← nI_ofI x0] at t
  obtain ⟨t1, t2, t3⟩ := t
  rw [mbK_of hW] at hM
  have hA : (al9 c x).toInt.toNat < 256 := by omega
  have hOK : mbOK (mbK S P n sl x c) (al9 c x).toInt.toNat := may_OK t1 t2
  have e1 := cN_eq hA (mb_eq hA hM) hOK (pcN (al9 c x).toInt.toNat) 0 sb_0
  have e0 := wo_0 hWA hA
  have z0 : nI 0 = (0 : Int32) := by decide
  rw [z0, t3] at e1
  unfold wtR
  rw [e0, t3, e1]
theorem wt_ref {S P g o : Nat → Int32} {n : Nat} {sl : Int} {w x : Int32} (c : Int32) (hW : WInv (csF P (kp9 S x) n) S P sl (KL P (kp9 S x) n).length w g o) (hn : n ≤ 40) (hS : ∀ j : Nat, 0 ≤ (S j).toInt ∧ (S j).toInt ≤ 7) (x0 : 0 ≤ x.toInt) (x7 : x.toInt ≤ 7) : (∀ k : Nat, (k : Int) < w.toInt → g k &&& bitW x = 0) ∧ ∀ d : Nat, cN (mayB g w.toInt.toNat (allB c)) d (bitW x) = cN (mbK S P n sl x c) d 0 := by
  have hb : ∀ j : Nat, j < (KL P (kp9 S x) n).length → bitW (S (csF P (kp9 S x) n j).toNatClampNeg) &&& bitW x = 0 := fun j hj => by
    have hk := (cs_kept hj hn).2
    have hs := hS (csF P (kp9 S x) n j).toNatClampNeg
    have hk : (S (csF P (kp9 S x) n j).toNatClampNeg).toInt ≠ x.toInt := of_decide_eq_true hk
    obtain ⟨y, hy⟩ : ∃ y : Int32, y = S (csF P (kp9 S x) n j).toNatClampNeg := ⟨_, rfl⟩
    rw [← hy] at hk hs ⊢
    have t := bit_tab x.toInt.toNat (by omega) y.toInt.toNat (by omega) (by omega)
    rw [← nI_ofI x0, ← nI_ofI hs.1] at t
    exact t
  have h1 : ∀ k : Nat, k < w.toInt.toNat → g k &&& bitW x = 0 := fun k hk => by
    unfold WInv at hW
    rw [hW.2.2.2.1 k (by omega)]
    exact wst_B _ hb k (by omega)
  refine ⟨fun k hk => h1 k (by omega), fun d => ?_⟩
  have hz : bitW x = 0 ||| bitW x := b_ext (fun i hi => by rw [b_or, b_0, Bool.false_or])
  rw [← mbK_of (c := c) hW]
  have e := cN_B (mb := mayB g w.toInt.toNat (allB c)) (mb' := mayB g w.toInt.toNat (al9 c x)) (B := bitW x) (fun L s hs => may_B hs h1) d 0
  rw [← hz] at e
  exact e
set_option maxHeartbeats 4000000 in
set_option maxRecDepth 100000 in
theorem k_X11_within (l : Launch) (D : va_G) (κ : Nat → ClassId) (β : Nat) (sz : Nat) (p1 : Int32) (p2 : Int32) (p3 : Int32) : Met l yX11_within wsX11_within ({ frames := 0, cells := 0, slots := 0, locals := 0 } : Room) (PcK D κ β [] sz [.int p1, .int p2, .int p3]) (QiK D (fun (r : Int32) (u : Unit) => (r.toInt = 1 ∧ p2.toInt ≤ p1.toInt ∧ p1.toInt ≤ p3.toInt) ∨ (r.toInt = 0 ∧ (p1.toInt < p2.toInt ∨ p3.toInt < p1.toInt))) (fun (u : Unit) => []) [] sz) 0 0 (va_A [] sz) := by
  refine ofK_z (cc := cX11_within) (maxL := 3) (own := RX11) (by decide) rfl rfl (Nat.le_of_ble_eq_true rfl) ?_
  intro p e s m args below meth c Q A ls hsz hx hb hml hts hown hK hA hAB hP hD hl ret
  have hS : va_S A s.heap s.heap [] := va_S.rf
  have hl : lv_has ls 3 [(0, .int p1), (1, .int p2), (2, .int p3)] := hl
  have l0 : (0 : Int32).toInt = 0 := by decide
  have l1 : (1 : Int32).toInt = 1 := by decide
  refine lv_iload_n hx hb dX11_within_0 rfl (lv_at hl 1 rfl) ?_
  refine lv_iload_n hx hb dX11_within_1 rfl (lv_at hl 0 rfl) ?_
  refine lv_icmp_gt (tgt := 14) hx hb dX11_within_2 (by decide) (fun c1 => ?_) (fun c1 => ?_)
  · have c1 := ci_lt c1
    refine lv_iconst (v := 0) hx hb dX11_within_14 (by decide) ?_
    have hpo : ((0 : Int32).toInt = 1 ∧ p2.toInt ≤ p1.toInt ∧ p1.toInt ≤ p3.toInt) ∨ ((0 : Int32).toInt = 0 ∧ (p1.toInt < p2.toInt ∨ p3.toInt < p1.toInt)) := (by omega)
    exact ret _ _ _ _ 0 () dX11_within_15 (by omega) hpo hP hD hS
  have c1 := ci_nlt c1
  refine lv_iload_n hx hb dX11_within_5 rfl (lv_at hl 0 rfl) ?_
  refine lv_iload_n hx hb dX11_within_6 rfl (lv_at hl 2 rfl) ?_
  refine lv_icmp_gt (tgt := 14) hx hb dX11_within_7 (by decide) (fun c2 => ?_) (fun c2 => ?_)
  · have c2 := ci_lt c2
    refine lv_iconst (v := 0) hx hb dX11_within_14 (by decide) ?_
    have hpo : ((0 : Int32).toInt = 1 ∧ p2.toInt ≤ p1.toInt ∧ p1.toInt ≤ p3.toInt) ∨ ((0 : Int32).toInt = 0 ∧ (p1.toInt < p2.toInt ∨ p3.toInt < p1.toInt)) := (by omega)
    exact ret _ _ _ _ 0 () dX11_within_15 (by omega) hpo hP hD hS
  have c2 := ci_nlt c2
  refine lv_iconst (v := 1) hx hb dX11_within_10 (by decide) ?_
  refine lv_goto (tgt := 15) hx hb dX11_within_11 (by decide) ?_
  have hpo : ((1 : Int32).toInt = 1 ∧ p2.toInt ≤ p1.toInt ∧ p1.toInt ≤ p3.toInt) ∨ ((1 : Int32).toInt = 0 ∧ (p1.toInt < p2.toInt ∨ p3.toInt < p1.toInt)) := (by omega)
  exact ret _ _ _ _ 1 () dX11_within_15 (by omega) hpo hP hD hS
set_option maxHeartbeats 4000000 in
set_option maxRecDepth 100000 in
theorem k_X11_isYear (l : Launch) (D : va_G) (κ : Nat → ClassId) (β : Nat) (sz : Nat) (p1 : Int32) : Met l yX11_isYear wsX11_isYear ({ frames := 1, cells := 0, slots := 0, locals := 22 } : Room) (PcK D κ β [] sz [.int p1]) (QiK D (fun (r : Int32) (u : Unit) => (r.toInt = 1 ∧ 0 ≤ p1.toInt ∧ p1.toInt ≤ 2000) ∨ (r.toInt = 0 ∧ (p1.toInt < 0 ∨ 2000 < p1.toInt))) (fun (u : Unit) => []) [] sz) 0 0 (va_A [] sz) := by
  refine ofK_z (cc := cX11_isYear) (maxL := 1) (own := RX11) (by decide) rfl rfl (Nat.le_of_ble_eq_true rfl) ?_
  intro p e s m args below meth c Q A ls hsz hx hb hml hts hown hK hA hAB hP hD hl ret
  have hS : va_S A s.heap s.heap [] := va_S.rf
  have hl : lv_has ls 1 [(0, .int p1)] := hl
  have l0 : (0 : Int32).toInt = 0 := by decide
  have l1 : (2000 : Int32).toInt = 2000 := by decide
  refine lv_iload_n hx hb dX11_isYear_0 rfl (lv_at hl 0 rfl) ?_
  refine lv_iconst (v := 0) hx hb dX11_isYear_1 (by decide) ?_
  refine lv_sipush (v := 2000) hx hb dX11_isYear_2 (by decide) ?_
  refine kcm_i hA hAB hP hD hS [] rfl (fun _ => rfl) (fun hPc hDc => va_runS (As := [.int p1, .int 0, .int 2000]) (rest := []) ⟨hx, hb, hml, hown, hts⟩ (k_X11_within l D κ β s.heap.size p1 0 2000) (va_cwS 3 hts gX11_isYear_X11_within rfl rfl rfl (by decide +kernel) ⟨Nat.le_of_ble_eq_true rfl, Nat.le_of_ble_eq_true rfl⟩) (pk_S hK hS hAB hPc hDc) rfl rfl hl.1 rfl (lv_room (Nat.le_of_ble_eq_true rfl)) dX11_isYear_5 ⟨Nat.le_of_ble_eq_true rfl, Nat.le_of_ble_eq_true rfl⟩) (fun x1 u2 H locs hw hPD hS => ?_)
  have h3 : (x1.toInt = 1 ∧ (0 : Int32).toInt ≤ p1.toInt ∧ p1.toInt ≤ (2000 : Int32).toInt) ∨ (x1.toInt = 0 ∧ (p1.toInt < (0 : Int32).toInt ∨ (2000 : Int32).toInt < p1.toInt)) := hw
  obtain ⟨hP, hD⟩ : PD D A [] H := hPD
  have hpo : (x1.toInt = 1 ∧ 0 ≤ p1.toInt ∧ p1.toInt ≤ 2000) ∨ (x1.toInt = 0 ∧ (p1.toInt < 0 ∨ 2000 < p1.toInt)) := (by omega)
  exact ret _ _ _ _ x1 () dX11_isYear_8 (by omega) hpo hP hD hS
set_option maxHeartbeats 4000000 in
set_option maxRecDepth 100000 in
theorem k_X11_isSlack (l : Launch) (D : va_G) (κ : Nat → ClassId) (β : Nat) (sz : Nat) (p1 : Int32) : Met l yX11_isSlack wsX11_isSlack ({ frames := 1, cells := 0, slots := 0, locals := 22 } : Room) (PcK D κ β [] sz [.int p1]) (QiK D (fun (r : Int32) (u : Unit) => (r.toInt = 1 ∧ 0 ≤ p1.toInt ∧ p1.toInt ≤ 99) ∨ (r.toInt = 0 ∧ (p1.toInt < 0 ∨ 99 < p1.toInt))) (fun (u : Unit) => []) [] sz) 0 0 (va_A [] sz) := by
  refine ofK_z (cc := cX11_isSlack) (maxL := 1) (own := RX11) (by decide) rfl rfl (Nat.le_of_ble_eq_true rfl) ?_
  intro p e s m args below meth c Q A ls hsz hx hb hml hts hown hK hA hAB hP hD hl ret
  have hS : va_S A s.heap s.heap [] := va_S.rf
  have hl : lv_has ls 1 [(0, .int p1)] := hl
  have l0 : (0 : Int32).toInt = 0 := by decide
  have l1 : (99 : Int32).toInt = 99 := by decide
  refine lv_iload_n hx hb dX11_isSlack_0 rfl (lv_at hl 0 rfl) ?_
  refine lv_iconst (v := 0) hx hb dX11_isSlack_1 (by decide) ?_
  refine lv_bipush (v := 99) hx hb dX11_isSlack_2 (by decide) ?_
  refine kcm_i hA hAB hP hD hS [] rfl (fun _ => rfl) (fun hPc hDc => va_runS (As := [.int p1, .int 0, .int 99]) (rest := []) ⟨hx, hb, hml, hown, hts⟩ (k_X11_within l D κ β s.heap.size p1 0 99) (va_cwS 3 hts gX11_isSlack_X11_within rfl rfl rfl (by decide +kernel) ⟨Nat.le_of_ble_eq_true rfl, Nat.le_of_ble_eq_true rfl⟩) (pk_S hK hS hAB hPc hDc) rfl rfl hl.1 rfl (lv_room (Nat.le_of_ble_eq_true rfl)) dX11_isSlack_4 ⟨Nat.le_of_ble_eq_true rfl, Nat.le_of_ble_eq_true rfl⟩) (fun x1 u2 H locs hw hPD hS => ?_)
  have h3 : (x1.toInt = 1 ∧ (0 : Int32).toInt ≤ p1.toInt ∧ p1.toInt ≤ (99 : Int32).toInt) ∨ (x1.toInt = 0 ∧ (p1.toInt < (0 : Int32).toInt ∨ (99 : Int32).toInt < p1.toInt)) := hw
  obtain ⟨hP, hD⟩ : PD D A [] H := hPD
  have hpo : (x1.toInt = 1 ∧ 0 ≤ p1.toInt ∧ p1.toInt ≤ 99) ∨ (x1.toInt = 0 ∧ (p1.toInt < 0 ∨ 99 < p1.toInt)) := (by omega)
  exact ret _ _ _ _ x1 () dX11_isSlack_7 (by omega) hpo hP hD hS
set_option maxHeartbeats 4000000 in
set_option maxRecDepth 100000 in
theorem k_X11_isBit (l : Launch) (D : va_G) (κ : Nat → ClassId) (β : Nat) (sz : Nat) (p1 : Int32) : Met l yX11_isBit wsX11_isBit ({ frames := 0, cells := 0, slots := 0, locals := 0 } : Room) (PcK D κ β [] sz [.int p1]) (QiK D (fun (r : Int32) (u : Unit) => (r.toInt = 1 ∧ 0 ≤ p1.toInt ∧ p1.toInt ≤ 1) ∨ (r.toInt = 0 ∧ (p1.toInt < 0 ∨ 1 < p1.toInt))) (fun (u : Unit) => []) [] sz) 0 0 (va_A [] sz) := by
  refine ofK_z (cc := cX11_isBit) (maxL := 1) (own := RX11) (by decide) rfl rfl (Nat.le_of_ble_eq_true rfl) ?_
  intro p e s m args below meth c Q A ls hsz hx hb hml hts hown hK hA hAB hP hD hl ret
  have hS : va_S A s.heap s.heap [] := va_S.rf
  have hl : lv_has ls 1 [(0, .int p1)] := hl
  have l0 : (0 : Int32).toInt = 0 := by decide
  have l1 : (1 : Int32).toInt = 1 := by decide
  refine lv_iload_n hx hb dX11_isBit_0 rfl (lv_at hl 0 rfl) ?_
  refine lv_if_eq (tgt := 9) hx hb dX11_isBit_1 (by decide) (fun c1 => ?_) (fun c1 => ?_)
  · have c1 := ci_eq c1
    refine lv_iconst (v := 1) hx hb dX11_isBit_9 (by decide) ?_
    refine lv_goto (tgt := 14) hx hb dX11_isBit_10 (by decide) ?_
    have hpo : ((1 : Int32).toInt = 1 ∧ 0 ≤ p1.toInt ∧ p1.toInt ≤ 1) ∨ ((1 : Int32).toInt = 0 ∧ (p1.toInt < 0 ∨ 1 < p1.toInt)) := (by omega)
    exact ret _ _ _ _ 1 () dX11_isBit_14 (by omega) hpo hP hD hS
  have c1 := ci_ne c1
  refine lv_iload_n hx hb dX11_isBit_4 rfl (lv_at hl 0 rfl) ?_
  refine lv_iconst (v := 1) hx hb dX11_isBit_5 (by decide) ?_
  refine lv_icmp_ne (tgt := 13) hx hb dX11_isBit_6 (by decide) (fun c2 => ?_) (fun c2 => ?_)
  · have c2 := ci_ne c2
    refine lv_iconst (v := 0) hx hb dX11_isBit_13 (by decide) ?_
    have hpo : ((0 : Int32).toInt = 1 ∧ 0 ≤ p1.toInt ∧ p1.toInt ≤ 1) ∨ ((0 : Int32).toInt = 0 ∧ (p1.toInt < 0 ∨ 1 < p1.toInt)) := (by omega)
    exact ret _ _ _ _ 0 () dX11_isBit_14 (by omega) hpo hP hD hS
  have c2 := ci_eq c2
  refine lv_iconst (v := 1) hx hb dX11_isBit_9 (by decide) ?_
  refine lv_goto (tgt := 14) hx hb dX11_isBit_10 (by decide) ?_
  have hpo : ((1 : Int32).toInt = 1 ∧ 0 ≤ p1.toInt ∧ p1.toInt ≤ 1) ∨ ((1 : Int32).toInt = 0 ∧ (p1.toInt < 0 ∨ 1 < p1.toInt)) := (by omega)
  exact ret _ _ _ _ 1 () dX11_isBit_14 (by omega) hpo hP hD hS
set_option maxHeartbeats 4000000 in
set_option maxRecDepth 100000 in
theorem k_X11_asBit (l : Launch) (D : va_G) (κ : Nat → ClassId) (β : Nat) (sz : Nat) (p1 : Int32) : Met l yX11_asBit wsX11_asBit ({ frames := 0, cells := 0, slots := 0, locals := 0 } : Room) (PcK D κ β [] sz [.int p1]) (QiK D (fun (r : Int32) (u : Unit) => (r.toInt = 1 ∧ p1.toInt ≠ 0) ∨ (r.toInt = 0 ∧ p1.toInt = 0)) (fun (u : Unit) => []) [] sz) 0 0 (va_A [] sz) := by
  refine ofK_i (cc := cX11_asBit) (maxL := 1) (own := RX11) (by decide) rfl rfl (Nat.le_of_ble_eq_true rfl) ?_
  intro p e s m args below meth c Q A ls hsz hx hb hml hts hown hK hA hAB hP hD hl ret
  have hS : va_S A s.heap s.heap [] := va_S.rf
  have hl : lv_has ls 1 [(0, .int p1)] := hl
  have l0 : (0 : Int32).toInt = 0 := by decide
  have l1 : (1 : Int32).toInt = 1 := by decide
  refine lv_iload_n hx hb dX11_asBit_0 rfl (lv_at hl 0 rfl) ?_
  refine lv_if_eq (tgt := 8) hx hb dX11_asBit_1 (by decide) (fun c1 => ?_) (fun c1 => ?_)
  · have c1 := ci_eq c1
    refine lv_iconst (v := 0) hx hb dX11_asBit_8 (by decide) ?_
    have hpo : ((0 : Int32).toInt = 1 ∧ p1.toInt ≠ 0) ∨ ((0 : Int32).toInt = 0 ∧ p1.toInt = 0) := (by omega)
    exact ret _ _ _ _ 0 () dX11_asBit_9 hpo hP hD hS
  have c1 := ci_ne c1
  refine lv_iconst (v := 1) hx hb dX11_asBit_4 (by decide) ?_
  refine lv_goto (tgt := 9) hx hb dX11_asBit_5 (by decide) ?_
  have hpo : ((1 : Int32).toInt = 1 ∧ p1.toInt ≠ 0) ∨ ((1 : Int32).toInt = 0 ∧ p1.toInt = 0) := (by omega)
  exact ret _ _ _ _ 1 () dX11_asBit_9 hpo hP hD hS
set_option maxHeartbeats 4000000 in
set_option maxRecDepth 100000 in
theorem k_X11_isInk (l : Launch) (D : va_G) (κ : Nat → ClassId) (β : Nat) (sz : Nat) (p1 : Int32) : Met l yX11_isInk wsX11_isInk ({ frames := 1, cells := 0, slots := 0, locals := 22 } : Room) (PcK D κ β [] sz [.int p1]) (QiK D (fun (r : Int32) (u : Unit) => (r.toInt = 1 ∧ 0 ≤ p1.toInt ∧ p1.toInt ≤ 5) ∨ (r.toInt = 0 ∧ (p1.toInt < 0 ∨ 5 < p1.toInt))) (fun (u : Unit) => []) [] sz) 0 0 (va_A [] sz) := by
  refine ofK_z (cc := cX11_isInk) (maxL := 1) (own := RX11) (by decide) rfl rfl (Nat.le_of_ble_eq_true rfl) ?_
  intro p e s m args below meth c Q A ls hsz hx hb hml hts hown hK hA hAB hP hD hl ret
  have hS : va_S A s.heap s.heap [] := va_S.rf
  have hl : lv_has ls 1 [(0, .int p1)] := hl
  have l0 : (0 : Int32).toInt = 0 := by decide
  have l1 : (5 : Int32).toInt = 5 := by decide
  refine lv_iload_n hx hb dX11_isInk_0 rfl (lv_at hl 0 rfl) ?_
  refine lv_iconst (v := 0) hx hb dX11_isInk_1 (by decide) ?_
  refine lv_iconst (v := 5) hx hb dX11_isInk_2 (by decide) ?_
  refine kcm_i hA hAB hP hD hS [] rfl (fun _ => rfl) (fun hPc hDc => va_runS (As := [.int p1, .int 0, .int 5]) (rest := []) ⟨hx, hb, hml, hown, hts⟩ (k_X11_within l D κ β s.heap.size p1 0 5) (va_cwS 3 hts gX11_isInk_X11_within rfl rfl rfl (by decide +kernel) ⟨Nat.le_of_ble_eq_true rfl, Nat.le_of_ble_eq_true rfl⟩) (pk_S hK hS hAB hPc hDc) rfl rfl hl.1 rfl (lv_room (Nat.le_of_ble_eq_true rfl)) dX11_isInk_3 ⟨Nat.le_of_ble_eq_true rfl, Nat.le_of_ble_eq_true rfl⟩) (fun x1 u2 H locs hw hPD hS => ?_)
  have h3 : (x1.toInt = 1 ∧ (0 : Int32).toInt ≤ p1.toInt ∧ p1.toInt ≤ (5 : Int32).toInt) ∨ (x1.toInt = 0 ∧ (p1.toInt < (0 : Int32).toInt ∨ (5 : Int32).toInt < p1.toInt)) := hw
  obtain ⟨hP, hD⟩ : PD D A [] H := hPD
  have hpo : (x1.toInt = 1 ∧ 0 ≤ p1.toInt ∧ p1.toInt ≤ 5) ∨ (x1.toInt = 0 ∧ (p1.toInt < 0 ∨ 5 < p1.toInt)) := (by omega)
  exact ret _ _ _ _ x1 () dX11_isInk_6 (by omega) hpo hP hD hS
set_option maxHeartbeats 4000000 in
set_option maxRecDepth 100000 in
theorem k_X11_isStuff (l : Launch) (D : va_G) (κ : Nat → ClassId) (β : Nat) (sz : Nat) (p1 : Int32) : Met l yX11_isStuff wsX11_isStuff ({ frames := 1, cells := 0, slots := 0, locals := 22 } : Room) (PcK D κ β [] sz [.int p1]) (QiK D (fun (r : Int32) (u : Unit) => (r.toInt = 1 ∧ 0 ≤ p1.toInt ∧ p1.toInt ≤ 9999) ∨ (r.toInt = 0 ∧ (p1.toInt < 0 ∨ 9999 < p1.toInt))) (fun (u : Unit) => []) [] sz) 0 0 (va_A [] sz) := by
  refine ofK_z (cc := cX11_isStuff) (maxL := 1) (own := RX11) (by decide) rfl rfl (Nat.le_of_ble_eq_true rfl) ?_
  intro p e s m args below meth c Q A ls hsz hx hb hml hts hown hK hA hAB hP hD hl ret
  have hS : va_S A s.heap s.heap [] := va_S.rf
  have hl : lv_has ls 1 [(0, .int p1)] := hl
  have l0 : (0 : Int32).toInt = 0 := by decide
  have l1 : (9999 : Int32).toInt = 9999 := by decide
  refine lv_iload_n hx hb dX11_isStuff_0 rfl (lv_at hl 0 rfl) ?_
  refine lv_iconst (v := 0) hx hb dX11_isStuff_1 (by decide) ?_
  refine lv_sipush (v := 9999) hx hb dX11_isStuff_2 (by decide) ?_
  refine kcm_i hA hAB hP hD hS [] rfl (fun _ => rfl) (fun hPc hDc => va_runS (As := [.int p1, .int 0, .int 9999]) (rest := []) ⟨hx, hb, hml, hown, hts⟩ (k_X11_within l D κ β s.heap.size p1 0 9999) (va_cwS 3 hts gX11_isStuff_X11_within rfl rfl rfl (by decide +kernel) ⟨Nat.le_of_ble_eq_true rfl, Nat.le_of_ble_eq_true rfl⟩) (pk_S hK hS hAB hPc hDc) rfl rfl hl.1 rfl (lv_room (Nat.le_of_ble_eq_true rfl)) dX11_isStuff_5 ⟨Nat.le_of_ble_eq_true rfl, Nat.le_of_ble_eq_true rfl⟩) (fun x1 u2 H locs hw hPD hS => ?_)
  have h3 : (x1.toInt = 1 ∧ (0 : Int32).toInt ≤ p1.toInt ∧ p1.toInt ≤ (9999 : Int32).toInt) ∨ (x1.toInt = 0 ∧ (p1.toInt < (0 : Int32).toInt ∨ (9999 : Int32).toInt < p1.toInt)) := hw
  obtain ⟨hP, hD⟩ : PD D A [] H := hPD
  have hpo : (x1.toInt = 1 ∧ 0 ≤ p1.toInt ∧ p1.toInt ≤ 9999) ∨ (x1.toInt = 0 ∧ (p1.toInt < 0 ∨ 9999 < p1.toInt)) := (by omega)
  exact ret _ _ _ _ x1 () dX11_isStuff_8 (by omega) hpo hP hD hS
set_option maxHeartbeats 4000000 in
set_option maxRecDepth 100000 in
theorem k_X11_isPrior (l : Launch) (D : va_G) (κ : Nat → ClassId) (β : Nat) (sz : Nat) (p1 : Int32) : Met l yX11_isPrior wsX11_isPrior ({ frames := 1, cells := 0, slots := 0, locals := 22 } : Room) (PcK D κ β [] sz [.int p1]) (QiK D (fun (r : Int32) (u : Unit) => (r.toInt = 1 ∧ 1 ≤ p1.toInt ∧ p1.toInt ≤ 99) ∨ (r.toInt = 0 ∧ (p1.toInt < 1 ∨ 99 < p1.toInt))) (fun (u : Unit) => []) [] sz) 0 0 (va_A [] sz) := by
  refine ofK_z (cc := cX11_isPrior) (maxL := 1) (own := RX11) (by decide) rfl rfl (Nat.le_of_ble_eq_true rfl) ?_
  intro p e s m args below meth c Q A ls hsz hx hb hml hts hown hK hA hAB hP hD hl ret
  have hS : va_S A s.heap s.heap [] := va_S.rf
  have hl : lv_has ls 1 [(0, .int p1)] := hl
  have l0 : (1 : Int32).toInt = 1 := by decide
  have l1 : (99 : Int32).toInt = 99 := by decide
  refine lv_iload_n hx hb dX11_isPrior_0 rfl (lv_at hl 0 rfl) ?_
  refine lv_iconst (v := 1) hx hb dX11_isPrior_1 (by decide) ?_
  refine lv_bipush (v := 99) hx hb dX11_isPrior_2 (by decide) ?_
  refine kcm_i hA hAB hP hD hS [] rfl (fun _ => rfl) (fun hPc hDc => va_runS (As := [.int p1, .int 1, .int 99]) (rest := []) ⟨hx, hb, hml, hown, hts⟩ (k_X11_within l D κ β s.heap.size p1 1 99) (va_cwS 3 hts gX11_isPrior_X11_within rfl rfl rfl (by decide +kernel) ⟨Nat.le_of_ble_eq_true rfl, Nat.le_of_ble_eq_true rfl⟩) (pk_S hK hS hAB hPc hDc) rfl rfl hl.1 rfl (lv_room (Nat.le_of_ble_eq_true rfl)) dX11_isPrior_4 ⟨Nat.le_of_ble_eq_true rfl, Nat.le_of_ble_eq_true rfl⟩) (fun x1 u2 H locs hw hPD hS => ?_)
  have h3 : (x1.toInt = 1 ∧ (1 : Int32).toInt ≤ p1.toInt ∧ p1.toInt ≤ (99 : Int32).toInt) ∨ (x1.toInt = 0 ∧ (p1.toInt < (1 : Int32).toInt ∨ (99 : Int32).toInt < p1.toInt)) := hw
  obtain ⟨hP, hD⟩ : PD D A [] H := hPD
  have hpo : (x1.toInt = 1 ∧ 1 ≤ p1.toInt ∧ p1.toInt ≤ 99) ∨ (x1.toInt = 0 ∧ (p1.toInt < 1 ∨ 99 < p1.toInt)) := (by omega)
  exact ret _ _ _ _ x1 () dX11_isPrior_7 (by omega) hpo hP hD hS
set_option maxHeartbeats 4000000 in
set_option maxRecDepth 100000 in
theorem k_X11_isDot (l : Launch) (D : va_G) (κ : Nat → ClassId) (β : Nat) (sz : Nat) (p1 : Int32) (p2 : Int32) (p3 : Int32) : Met l yX11_isDot wsX11_isDot ({ frames := 2, cells := 0, slots := 0, locals := 42 } : Room) (PcK D κ β [] sz [.int p1, .int p2, .int p3]) (QiK D (fun (r : Int32) (u : Unit) => (r.toInt = 1 ∧ 0 ≤ p1.toInt ∧ p1.toInt ≤ 4 ∧ 0 ≤ p2.toInt ∧ p2.toInt ≤ 7 ∧ 0 ≤ p3.toInt ∧ p3.toInt ≤ 9999) ∨ (r.toInt = 0 ∧ (p1.toInt < 0 ∨ 4 < p1.toInt ∨ p2.toInt < 0 ∨ 7 < p2.toInt ∨ p3.toInt < 0 ∨ 9999 < p3.toInt))) (fun (u : Unit) => []) [] sz) 0 0 (va_A [] sz) := by
  refine ofK_z (cc := cX11_isDot) (maxL := 3) (own := RX11) (by decide) rfl rfl (Nat.le_of_ble_eq_true rfl) ?_
  intro p e s m args below meth c Q A ls hsz hx hb hml hts hown hK hA hAB hP hD hl ret
  have hS : va_S A s.heap s.heap [] := va_S.rf
  have hl : lv_has ls 3 [(0, .int p1), (1, .int p2), (2, .int p3)] := hl
  have l0 : (0 : Int32).toInt = 0 := by decide
  have l1 : (4 : Int32).toInt = 4 := by decide
  have l2 : (7 : Int32).toInt = 7 := by decide
  have l3 : (1 : Int32).toInt = 1 := by decide
  refine lv_iload_n hx hb dX11_isDot_0 rfl (lv_at hl 0 rfl) ?_
  refine lv_iconst (v := 0) hx hb dX11_isDot_1 (by decide) ?_
  refine lv_iconst (v := 4) hx hb dX11_isDot_2 (by decide) ?_
  refine kcm_i hA hAB hP hD hS [] rfl (fun _ => rfl) (fun hPc hDc => va_runS (As := [.int p1, .int 0, .int 4]) (rest := []) ⟨hx, hb, hml, hown, hts⟩ (k_X11_within l D κ β s.heap.size p1 0 4) (va_cwS 3 hts gX11_isDot_X11_within rfl rfl rfl (by decide +kernel) ⟨Nat.le_of_ble_eq_true rfl, Nat.le_of_ble_eq_true rfl⟩) (pk_S hK hS hAB hPc hDc) rfl rfl hl.1 rfl (lv_room (Nat.le_of_ble_eq_true rfl)) dX11_isDot_3 ⟨Nat.le_of_ble_eq_true rfl, Nat.le_of_ble_eq_true rfl⟩) (fun x1 u2 H locs hw hPD hS => ?_)
  have h3 : (x1.toInt = 1 ∧ (0 : Int32).toInt ≤ p1.toInt ∧ p1.toInt ≤ (4 : Int32).toInt) ∨ (x1.toInt = 0 ∧ (p1.toInt < (0 : Int32).toInt ∨ (4 : Int32).toInt < p1.toInt)) := hw
  obtain ⟨hP, hD⟩ : PD D A [] H := hPD
  refine lv_if_eq (tgt := 30) hx hb dX11_isDot_6 (by decide) (fun c4 => ?_) (fun c4 => ?_)
  · have c4 := ci_eq c4
    refine lv_iconst (v := 0) hx hb dX11_isDot_30 (by decide) ?_
    have hpo : ((0 : Int32).toInt = 1 ∧ 0 ≤ p1.toInt ∧ p1.toInt ≤ 4 ∧ 0 ≤ p2.toInt ∧ p2.toInt ≤ 7 ∧ 0 ≤ p3.toInt ∧ p3.toInt ≤ 9999) ∨ ((0 : Int32).toInt = 0 ∧ (p1.toInt < 0 ∨ 4 < p1.toInt ∨ p2.toInt < 0 ∨ 7 < p2.toInt ∨ p3.toInt < 0 ∨ 9999 < p3.toInt)) := (by omega)
    exact ret _ _ _ _ 0 () dX11_isDot_31 (by omega) hpo hP hD hS
  have c4 := ci_ne c4
  refine lv_iload_n hx hb dX11_isDot_9 rfl (lv_at hl 1 rfl) ?_
  refine lv_iconst (v := 0) hx hb dX11_isDot_10 (by decide) ?_
  refine lv_bipush (v := 7) hx hb dX11_isDot_11 (by decide) ?_
  refine kcm_i hA hAB hP hD hS [] rfl (fun _ => rfl) (fun hPc hDc => va_runS (As := [.int p2, .int 0, .int 7]) (rest := []) ⟨hx, hb, hml, hown, hts⟩ (k_X11_within l D κ β H.size p2 0 7) (va_cwS 3 hts gX11_isDot_X11_within rfl rfl rfl (by decide +kernel) ⟨Nat.le_of_ble_eq_true rfl, Nat.le_of_ble_eq_true rfl⟩) (pk_S hK hS hAB hPc hDc) rfl rfl hl.1 rfl (lv_room (Nat.le_of_ble_eq_true rfl)) dX11_isDot_13 ⟨Nat.le_of_ble_eq_true rfl, Nat.le_of_ble_eq_true rfl⟩) (fun x5 u6 H locs hw hPD hS => ?_)
  have h7 : (x5.toInt = 1 ∧ (0 : Int32).toInt ≤ p2.toInt ∧ p2.toInt ≤ (7 : Int32).toInt) ∨ (x5.toInt = 0 ∧ (p2.toInt < (0 : Int32).toInt ∨ (7 : Int32).toInt < p2.toInt)) := hw
  obtain ⟨hP, hD⟩ : PD D A [] H := hPD
  refine lv_if_eq (tgt := 30) hx hb dX11_isDot_16 (by decide) (fun c8 => ?_) (fun c8 => ?_)
  · have c8 := ci_eq c8
    refine lv_iconst (v := 0) hx hb dX11_isDot_30 (by decide) ?_
    have hpo : ((0 : Int32).toInt = 1 ∧ 0 ≤ p1.toInt ∧ p1.toInt ≤ 4 ∧ 0 ≤ p2.toInt ∧ p2.toInt ≤ 7 ∧ 0 ≤ p3.toInt ∧ p3.toInt ≤ 9999) ∨ ((0 : Int32).toInt = 0 ∧ (p1.toInt < 0 ∨ 4 < p1.toInt ∨ p2.toInt < 0 ∨ 7 < p2.toInt ∨ p3.toInt < 0 ∨ 9999 < p3.toInt)) := (by omega)
    exact ret _ _ _ _ 0 () dX11_isDot_31 (by omega) hpo hP hD hS
  have c8 := ci_ne c8
  refine lv_iload_n hx hb dX11_isDot_19 rfl (lv_at hl 2 rfl) ?_
  refine kcm_i hA hAB hP hD hS [] rfl (fun _ => rfl) (fun hPc hDc => va_runS (As := [.int p3]) (rest := []) ⟨hx, hb, hml, hown, hts⟩ (k_X11_isStuff l D κ β H.size p3) (va_cwS 1 hts gX11_isDot_X11_isStuff rfl rfl rfl (by decide +kernel) ⟨Nat.le_of_ble_eq_true rfl, Nat.le_of_ble_eq_true rfl⟩) (pk_S hK hS hAB hPc hDc) rfl rfl hl.1 rfl (lv_room (Nat.le_of_ble_eq_true rfl)) dX11_isDot_20 ⟨Nat.le_of_ble_eq_true rfl, Nat.le_of_ble_eq_true rfl⟩) (fun x9 u10 H locs hw hPD hS => ?_)
  have h11 : (x9.toInt = 1 ∧ 0 ≤ p3.toInt ∧ p3.toInt ≤ 9999) ∨ (x9.toInt = 0 ∧ (p3.toInt < 0 ∨ 9999 < p3.toInt)) := hw
  obtain ⟨hP, hD⟩ : PD D A [] H := hPD
  refine lv_if_eq (tgt := 30) hx hb dX11_isDot_23 (by decide) (fun c12 => ?_) (fun c12 => ?_)
  · have c12 := ci_eq c12
    refine lv_iconst (v := 0) hx hb dX11_isDot_30 (by decide) ?_
    have hpo : ((0 : Int32).toInt = 1 ∧ 0 ≤ p1.toInt ∧ p1.toInt ≤ 4 ∧ 0 ≤ p2.toInt ∧ p2.toInt ≤ 7 ∧ 0 ≤ p3.toInt ∧ p3.toInt ≤ 9999) ∨ ((0 : Int32).toInt = 0 ∧ (p1.toInt < 0 ∨ 4 < p1.toInt ∨ p2.toInt < 0 ∨ 7 < p2.toInt ∨ p3.toInt < 0 ∨ 9999 < p3.toInt)) := (by omega)
    exact ret _ _ _ _ 0 () dX11_isDot_31 (by omega) hpo hP hD hS
  have c12 := ci_ne c12
  refine lv_iconst (v := 1) hx hb dX11_isDot_26 (by decide) ?_
  refine lv_goto (tgt := 31) hx hb dX11_isDot_27 (by decide) ?_
  have hpo : ((1 : Int32).toInt = 1 ∧ 0 ≤ p1.toInt ∧ p1.toInt ≤ 4 ∧ 0 ≤ p2.toInt ∧ p2.toInt ≤ 7 ∧ 0 ≤ p3.toInt ∧ p3.toInt ≤ 9999) ∨ ((1 : Int32).toInt = 0 ∧ (p1.toInt < 0 ∨ 4 < p1.toInt ∨ p2.toInt < 0 ∨ 7 < p2.toInt ∨ p3.toInt < 0 ∨ 9999 < p3.toInt)) := (by omega)
  exact ret _ _ _ _ 1 () dX11_isDot_31 (by omega) hpo hP hD hS
set_option maxHeartbeats 4000000 in
set_option maxRecDepth 100000 in
theorem k_X11_hasBit (l : Launch) (D : va_G) (κ : Nat → ClassId) (β : Nat) (sz : Nat) (p1 : Int32) (p2 : Int32) : Met l yX11_hasBit wsX11_hasBit ({ frames := 0, cells := 0, slots := 0, locals := 0 } : Room) (PcK D κ β [] sz [.int p1, .int p2]) (QiK D (fun (r : Int32) (u : Unit) => r.toInt = 0 ∨ r.toInt = 1) (fun (u : Unit) => []) [] sz) 0 0 (va_A [] sz) := by
  refine ofK_z (cc := cX11_hasBit) (maxL := 2) (own := RX11) (by decide) rfl rfl (Nat.le_of_ble_eq_true rfl) ?_
  intro p e s m args below meth c Q A ls hsz hx hb hml hts hown hK hA hAB hP hD hl ret
  have hS : va_S A s.heap s.heap [] := va_S.rf
  have hl : lv_has ls 2 [(0, .int p1), (1, .int p2)] := hl
  have l0 : (1 : Int32).toInt = 1 := by decide
  have l1 : (0 : Int32).toInt = 0 := by decide
  refine lv_iload_n hx hb dX11_hasBit_0 rfl (lv_at hl 0 rfl) ?_
  refine lv_iload_n hx hb dX11_hasBit_1 rfl (lv_at hl 1 rfl) ?_
  refine lv_ishr hx hb dX11_hasBit_2 ?_
  refine lv_topi (fun x1 e2 => ?_)
  refine lv_iconst (v := 1) hx hb dX11_hasBit_3 (by decide) ?_
  refine lv_iand hx hb dX11_hasBit_4 ?_
  refine lv_topi (fun x3 e4 => ?_)
  refine lv_if_eq (tgt := 12) hx hb dX11_hasBit_5 (by decide) (fun c5 => ?_) (fun c5 => ?_)
  · have c5 := ci_eq c5
    refine lv_iconst (v := 0) hx hb dX11_hasBit_12 (by decide) ?_
    have hpo : (0 : Int32).toInt = 0 ∨ (0 : Int32).toInt = 1 := (by omega)
    exact ret _ _ _ _ 0 () dX11_hasBit_13 (by omega) hpo hP hD hS
  have c5 := ci_ne c5
  refine lv_iconst (v := 1) hx hb dX11_hasBit_8 (by decide) ?_
  refine lv_goto (tgt := 13) hx hb dX11_hasBit_9 (by decide) ?_
  have hpo : (1 : Int32).toInt = 0 ∨ (1 : Int32).toInt = 1 := (by omega)
  exact ret _ _ _ _ 1 () dX11_hasBit_13 (by omega) hpo hP hD hS
set_option maxHeartbeats 4000000 in
set_option maxRecDepth 100000 in
theorem k_X11_drawn (l : Launch) (D : va_G) (κ : Nat → ClassId) (β : Nat) (sz : Nat) (p1 : Int32) : Met l yX11_drawn wsX11_drawn ({ frames := 0, cells := 0, slots := 0, locals := 0 } : Room) (PcK D κ β [] sz [.int p1]) (QiK D (fun (r : Int32) (u : Unit) => True) (fun (u : Unit) => []) [] sz) 0 0 (va_A [] sz) := by
  refine ofK_i (cc := cX11_drawn) (maxL := 1) (own := RX11) (by decide) rfl rfl (Nat.le_of_ble_eq_true rfl) ?_
  intro p e s m args below meth c Q A ls hsz hx hb hml hts hown hK hA hAB hP hD hl ret
  have hS : va_S A s.heap s.heap [] := va_S.rf
  have hl : lv_has ls 1 [(0, .int p1)] := hl
  have w0 := hts (.constant RX11 470 (1103515245)) (List.mem_of_getElem? (i := 1) rfl)
  have l0 : (1103515245 : Int32).toInt = 1103515245 := by decide
  have l1 : (12345 : Int32).toInt = 12345 := by decide
  refine lv_iload_n hx hb dX11_drawn_0 rfl (lv_at hl 0 rfl) ?_
  refine lv_ldcw (v := 1103515245) hx hb hown w0 dX11_drawn_1 ?_
  refine lv_imul hx hb dX11_drawn_4 ?_
  refine lv_topi (fun x1 e2 => ?_)
  try have h3 : x1.toInt = 1103515245 * p1.toInt := ci_mulR (n := 1103515245) (by decide) e2 (by omega) (by omega)
  refine lv_sipush (v := 12345) hx hb dX11_drawn_5 (by decide) ?_
  refine lv_iadd hx hb dX11_drawn_8 ?_
  refine lv_topi (fun x4 e5 => ?_)
  try have h6 : x4.toInt = x1.toInt + (12345 : Int32).toInt := ci_add e5 (by omega) (by omega)
  exact ret _ _ _ _ x4 () dX11_drawn_9 trivial hP hD hS
set_option maxHeartbeats 4000000 in
set_option maxRecDepth 100000 in
theorem k_X11_hasBit_f (l : Launch) (D : va_G) (κ : Nat → ClassId) (β : Nat) (sz : Nat) (p1 : Int32) (p2 : Int32) (i1 : 0 ≤ p2.toInt ∧ p2.toInt ≤ 31) : Met l yX11_hasBit wsX11_hasBit ({ frames := 0, cells := 0, slots := 0, locals := 0 } : Room) (PcK D κ β [] sz [.int p1, .int p2]) (QiK D (fun (r : Int32) (u : Unit) => (r.toInt = 1 ∧ hasI p1 p2.toInt) ∨ (r.toInt = 0 ∧ ¬ hasI p1 p2.toInt)) (fun (u : Unit) => []) [] sz) 0 0 (va_A [] sz) := by
  refine ofK_z (cc := cX11_hasBit) (maxL := 2) (own := RX11) (by decide) rfl rfl (Nat.le_of_ble_eq_true rfl) ?_
  intro p e s m args below meth c Q A ls hsz hx hb hml hts hown hK hA hAB hP hD hl ret
  have hS : va_S A s.heap s.heap [] := va_S.rf
  have hl : lv_has ls 2 [(0, .int p1), (1, .int p2)] := hl
  have l0 : (1 : Int32).toInt = 1 := by decide
  have l1 : (0 : Int32).toInt = 0 := by decide
  refine lv_iload_n hx hb dX11_hasBit_0 rfl (lv_at hl 0 rfl) ?_
  refine lv_iload_n hx hb dX11_hasBit_1 rfl (lv_at hl 1 rfl) ?_
  refine lv_ishr hx hb dX11_hasBit_2 ?_
  refine lv_topi (fun x1 e2 => ?_)
  have hs1 := e2
  refine lv_iconst (v := 1) hx hb dX11_hasBit_3 (by decide) ?_
  refine lv_iand hx hb dX11_hasBit_4 ?_
  refine lv_topi (fun x3 e4 => ?_)
  have hs2 := has_bt hs1 e4 (by omega) (by omega)
  refine lv_if_eq (tgt := 12) hx hb dX11_hasBit_5 (by decide) (fun c5 => ?_) (fun c5 => ?_)
  · have c5 := ci_eq c5
    refine lv_iconst (v := 0) hx hb dX11_hasBit_12 (by decide) ?_
    have hpo : ((0 : Int32).toInt = 1 ∧ hasI p1 p2.toInt) ∨ ((0 : Int32).toInt = 0 ∧ ¬ hasI p1 p2.toInt) := (by first | exact Or.inl ⟨by omega, hs2.mp (by omega)⟩ | exact Or.inr ⟨by omega, fun q9 => hs2.mpr q9 (by omega)⟩)
    exact ret _ _ _ _ 0 () dX11_hasBit_13 (by omega) hpo hP hD hS
  have c5 := ci_ne c5
  refine lv_iconst (v := 1) hx hb dX11_hasBit_8 (by decide) ?_
  refine lv_goto (tgt := 13) hx hb dX11_hasBit_9 (by decide) ?_
  have hpo : ((1 : Int32).toInt = 1 ∧ hasI p1 p2.toInt) ∨ ((1 : Int32).toInt = 0 ∧ ¬ hasI p1 p2.toInt) := (by first | exact Or.inl ⟨by omega, hs2.mp (by omega)⟩ | exact Or.inr ⟨by omega, fun q9 => hs2.mpr q9 (by omega)⟩)
  exact ret _ _ _ _ 1 () dX11_hasBit_13 (by omega) hpo hP hD hS
