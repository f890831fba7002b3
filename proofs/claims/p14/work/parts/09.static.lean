def keepF (a w n : Int32) (f : Nat → Int32) (v : Int32) : Nat → Int32 := if 0 ≤ a.toInt ∧ a.toInt ≤ 5 ∧ (w.toInt = -1 ∨ (0 ≤ w.toInt ∧ w.toInt < n.toInt)) then upd f a.toNatClampNeg v else f
theorem keepF_ok {a w n v : Int32} {f : Nat → Int32} (h : 0 ≤ a.toInt ∧ a.toInt ≤ 5 ∧ (w.toInt = -1 ∨ (0 ≤ w.toInt ∧ w.toInt < n.toInt))) : keepF a w n f v = upd f a.toNatClampNeg v := if_pos h
theorem keepF_no {a w n v : Int32} {f : Nat → Int32} (h : ¬ (0 ≤ a.toInt ∧ a.toInt ≤ 5 ∧ (w.toInt = -1 ∨ (0 ≤ w.toInt ∧ w.toInt < n.toInt)))) : keepF a w n f v = f := if_neg h
def rowF (a s n : Int32) (f : Nat → Int32) (v : Int32) : Nat → Int32 := if 0 ≤ a.toInt ∧ a.toInt ≤ 5 ∧ 0 ≤ s.toInt ∧ s.toInt ≤ 4 ∧ 0 ≤ n.toInt ∧ n.toInt ≤ 60 then upd f a.toNatClampNeg v else f
theorem rowF_ok {a s n v : Int32} {f : Nat → Int32} (h : 0 ≤ a.toInt ∧ a.toInt ≤ 5 ∧ 0 ≤ s.toInt ∧ s.toInt ≤ 4 ∧ 0 ≤ n.toInt ∧ n.toInt ≤ 60) : rowF a s n f v = upd f a.toNatClampNeg v := if_pos h
theorem rowF_no {a s n v : Int32} {f : Nat → Int32} (h : ¬ (0 ≤ a.toInt ∧ a.toInt ≤ 5 ∧ 0 ≤ s.toInt ∧ s.toInt ≤ 4 ∧ 0 ≤ n.toInt ∧ n.toInt ≤ 60)) : rowF a s n f v = f := if_neg h
/-- a shelf here (sort, length) and there (what lies on it, how many) -/
def shR (s l t m : Int) : Prop := (s = -1 ∧ t = -1) ∨ (s = 5 ∧ 0 ≤ t ∧ t < 50) ∨ (0 ≤ s ∧ s ≤ 4 ∧ t = 50 + s ∧ l = m)
def shRel (S L T M : Nat → Int32) : Prop := ∀ j : Nat, j < 6 → shR (S j).toInt (L j).toInt (T j).toInt (M j).toInt
theorem shRel_im {S L T M : Nat → Int32} (h : shRel S L T M) (x : Int32) : x.toInt < 0 ∨ 5 < x.toInt ∨ ((S x.toNatClampNeg).toInt = -1 ∧ (T x.toNatClampNeg).toInt = -1) ∨ ((S x.toNatClampNeg).toInt = 5 ∧ 0 ≤ (T x.toNatClampNeg).toInt ∧ (T x.toNatClampNeg).toInt < 50) ∨ (0 ≤ (S x.toNatClampNeg).toInt ∧ (S x.toNatClampNeg).toInt ≤ 4 ∧ (T x.toNatClampNeg).toInt = 50 + (S x.toNatClampNeg).toInt ∧ (L x.toNatClampNeg).toInt = (M x.toNatClampNeg).toInt) := by
  by_cases h1 : x.toInt < 0 ∨ 5 < x.toInt
  · omega
  · have h2 := ci_clamp (i := x) (by omega)
    exact Or.inr (Or.inr (h _ (by omega)))
theorem sh_keep {S L T M : Nat → Int32} (h : shRel S L T M) {a w n n' : Int32} (hn : n.toInt = n'.toInt) (hn5 : n.toInt ≤ 50) : shRel (keepF a w n S (if w.toInt = -1 then -1 else 5)) L (keepF a w n' T w) (keepF a w n' M 0) := by
  intro j hj
  unfold keepF
  rw [← hn]
  by_cases c : 0 ≤ a.toInt ∧ a.toInt ≤ 5 ∧ (w.toInt = -1 ∨ (0 ≤ w.toInt ∧ w.toInt < n.toInt))
  · rw [if_pos c, if_pos c, if_pos c]
    show shR (if j = a.toNatClampNeg then (if w.toInt = -1 then (-1 : Int32) else 5) else S j).toInt (L j).toInt (if j = a.toNatClampNeg then w else T j).toInt (if j = a.toNatClampNeg then (0 : Int32) else M j).toInt
    by_cases e : j = a.toNatClampNeg
    · rw [if_pos e, if_pos e, if_pos e]
      by_cases hw : w.toInt = -1
      · rw [if_pos hw]; exact Or.inl ⟨by decide, hw⟩
      · rw [if_neg hw]; exact Or.inr (Or.inl ⟨by decide, by omega, by omega⟩)
    · rw [if_neg e, if_neg e, if_neg e]; exact h j hj
  · rw [if_neg c, if_neg c, if_neg c]; exact h j hj
theorem sh_row {S L T M : Nat → Int32} (h : shRel S L T M) {a s n : Int32} : shRel (rowF a s n S s) (rowF a s n L n) (rowF a s n T (50 + s)) (rowF a s n M n) := by
  intro j hj
  unfold rowF
  by_cases c : 0 ≤ a.toInt ∧ a.toInt ≤ 5 ∧ 0 ≤ s.toInt ∧ s.toInt ≤ 4 ∧ 0 ≤ n.toInt ∧ n.toInt ≤ 60
  · rw [if_pos c, if_pos c, if_pos c, if_pos c]
    show shR (if j = a.toNatClampNeg then s else S j).toInt (if j = a.toNatClampNeg then n else L j).toInt (if j = a.toNatClampNeg then (50 + s : Int32) else T j).toInt (if j = a.toNatClampNeg then n else M j).toInt
    have l50 : (50 : Int32).toInt = 50 := by decide
    have hx : (50 + s : Int32).toInt = (50 : Int32).toInt + s.toInt := ci_add rfl (by omega) (by omega)
    by_cases e : j = a.toNatClampNeg
    · rw [if_pos e, if_pos e, if_pos e, if_pos e]; exact Or.inr (Or.inr ⟨by omega, by omega, by omega, rfl⟩)
    · rw [if_neg e, if_neg e, if_neg e, if_neg e]; exact h j hj
  · rw [if_neg c, if_neg c, if_neg c, if_neg c]; exact h j hj
theorem fr_hit {f g : Nat → Int32} {k j : Nat} {v : Int32} (e : g = upd f k v) (h : j = k) : (g j).toInt = v.toInt := by
  rw [e, h]; show (if k = k then v else f k).toInt = _; rw [if_pos rfl]
theorem fr_miss {f g : Nat → Int32} {k j : Nat} {v : Int32} (e : g = upd f k v) (h : j ≠ k) : (g j).toInt = (f j).toInt := by
  rw [e]; show (if j = k then v else f j).toInt = _; rw [if_neg h]
theorem fr_upd {f g : Nat → Int32} {k j : Nat} {v : Int32} (e : g = upd f k v) : (j = k ∧ (g j).toInt = v.toInt) ∨ (j ≠ k ∧ (g j).toInt = (f j).toInt) := by
  by_cases h : j = k
  · exact Or.inl ⟨h, fr_hit e h⟩
  · exact Or.inr ⟨h, fr_miss e h⟩
def shI (V B A I : Prop) (n r : Int) : Prop := (¬ V ∧ r = -1) ∨ (V ∧ B ∧ r = -11) ∨ (V ∧ ¬ B ∧ ¬ A ∧ r = -12) ∨ (V ∧ ¬ B ∧ A ∧ ¬ I ∧ r = -13) ∨ (V ∧ ¬ B ∧ A ∧ I ∧ r = n)
theorem shI_eq {V V' B B' A A' I I' : Prop} {n n' r r' : Int} (h : shI V B A I n r) (h' : shI V' B' A' I' n' r') (eV : V ↔ V') (eB : V → (B ↔ B')) (eA : V → ¬ B → (A ↔ A')) (eI : V → ¬ B → A → (I ↔ I')) (en : n = n') : r = r' := by
  unfold shI at h h'
  by_cases hV : V
  · by_cases hB : B
    · have hV' := eV.mp hV
      have hB' := (eB hV).mp hB
      rcases h with h | h | h | h | h
      · exact absurd hV h.1
      · rcases h' with h' | h' | h' | h' | h'
        · exact absurd hV' h'.1
        · rw [h.2.2, h'.2.2]
        · exact absurd hB' h'.2.1
        · exact absurd hB' h'.2.1
        · exact absurd hB' h'.2.1
      · exact absurd hB h.2.1
      · exact absurd hB h.2.1
      · exact absurd hB h.2.1
    · have hV' := eV.mp hV
      have hB' := fun q => hB ((eB hV).mpr q)
      have eA2 := eA hV hB
      have eI2 := eI hV hB
      rcases h with h | h | h | h | h
      · exact absurd hV h.1
      · exact absurd h.2.1 hB
      · rcases h' with h' | h' | h' | h' | h'
        · exact absurd hV' h'.1
        · exact absurd h'.2.1 hB'
        · rw [h.2.2.2, h'.2.2.2]
        · exact absurd (eA2.mpr h'.2.2.1) h.2.2.1
        · exact absurd (eA2.mpr h'.2.2.1) h.2.2.1
      · rcases h' with h' | h' | h' | h' | h'
        · exact absurd hV' h'.1
        · exact absurd h'.2.1 hB'
        · exact absurd (eA2.mp h.2.2.1) h'.2.2.1
        · rw [h.2.2.2.2, h'.2.2.2.2]
        · exact absurd ((eI2 h.2.2.1).mpr h'.2.2.2.1) h.2.2.2.1
      · rcases h' with h' | h' | h' | h' | h'
        · exact absurd hV' h'.1
        · exact absurd h'.2.1 hB'
        · exact absurd (eA2.mp h.2.2.1) h'.2.2.1
        · exact absurd ((eI2 h.2.2.1).mp h.2.2.2.1) h'.2.2.2.1
        · rw [h.2.2.2.2, h'.2.2.2.2, en]
  · have hV' : ¬ V' := fun q => hV (eV.mpr q)
    rcases h with h | h | h | h | h
    · rcases h' with h' | h' | h' | h' | h'
      · rw [h.2, h'.2]
      · exact absurd h'.1 hV'
      · exact absurd h'.1 hV'
      · exact absurd h'.1 hV'
      · exact absurd h'.1 hV'
    · exact absurd h.1 hV
    · exact absurd h.1 hV
    · exact absurd h.1 hV
    · exact absurd h.1 hV
theorem shI_in {V B A I : Prop} {n r : Int} (h : shI V B A I n r) (hr : 0 ≤ r) : V ∧ ¬ B ∧ A ∧ I := by
  unfold shI at h
  rcases h with h | h | h | h | h
  · have := h.2; omega
  · have := h.2.2; omega
  · have := h.2.2.2; omega
  · have := h.2.2.2.2; omega
  · exact ⟨h.1, h.2.1, h.2.2.1, h.2.2.2.1⟩
def vw (f : Nat → Int64) : Nat → Nat → Int64 := fun a b => f (60 * a + b)
def eqV (F G : Nat → Nat → Int64) : Prop := ∀ a b : Nat, a < 6 → b < 60 → F a b = G a b
theorem eqV_rf {F : Nat → Nat → Int64} : eqV F F := fun _ _ _ _ => rfl
theorem eqV_im {F G : Nat → Nat → Int64} (h : eqV F G) (x y : Int32) : x.toInt < 0 ∨ 5 < x.toInt ∨ y.toInt < 0 ∨ 59 < y.toInt ∨ (F x.toNatClampNeg y.toNatClampNeg).toInt = (G x.toNatClampNeg y.toNatClampNeg).toInt := by
  by_cases h1 : x.toInt < 0 ∨ 5 < x.toInt ∨ y.toInt < 0 ∨ 59 < y.toInt
  · omega
  · have h2 := ci_clamp (i := x) (by omega)
    have h3 := ci_clamp (i := y) (by omega)
    rw [h _ _ (show x.toNatClampNeg < 6 by omega) (show y.toNatClampNeg < 60 by omega)]
    omega
def rowV (p s n : Int32) (F : Nat → Nat → Int64) : Nat → Nat → Int64 := fun a b => if (0 ≤ p.toInt ∧ p.toInt ≤ 5 ∧ 0 ≤ s.toInt ∧ s.toInt ≤ 4 ∧ 0 ≤ n.toInt ∧ n.toInt ≤ 60) ∧ a = p.toNatClampNeg then 0 else F a b
theorem rowV_no {F : Nat → Nat → Int64} {p s n : Int32} (h : ¬ (0 ≤ p.toInt ∧ p.toInt ≤ 5 ∧ 0 ≤ s.toInt ∧ s.toInt ≤ 4 ∧ 0 ≤ n.toInt ∧ n.toInt ≤ 60)) : eqV F (rowV p s n F) := by
  intro a b ha hb
  show F a b = (if (0 ≤ p.toInt ∧ p.toInt ≤ 5 ∧ 0 ≤ s.toInt ∧ s.toInt ≤ 4 ∧ 0 ≤ n.toInt ∧ n.toInt ≤ 60) ∧ a = p.toNatClampNeg then 0 else F a b)
  rw [if_neg (fun z => h z.1)]
theorem eqV_row {F F' G G' : Nat → Nat → Int64} {p s n : Int32} (h : eqV F G) (h1 : eqV F' (rowV p s n F)) (h2 : eqV G' (rowV p s n G)) : eqV F' G' := by
  intro a b ha hb
  rw [h1 a b ha hb, h2 a b ha hb]
  unfold rowV
  rw [h a b ha hb]
def putV (r p i : Int32) (v : Int64) (F : Nat → Nat → Int64) : Nat → Nat → Int64 := fun a b => if r.toInt = 1 ∧ a = p.toNatClampNeg ∧ b = i.toNatClampNeg then v else F a b
theorem putV_no {F : Nat → Nat → Int64} {r p i : Int32} {v : Int64} (hr : r.toInt ≠ 1) : eqV F (putV r p i v F) := by
  intro a b ha hb
  show F a b = (if r.toInt = 1 ∧ a = p.toNatClampNeg ∧ b = i.toNatClampNeg then v else F a b)
  rw [if_neg (fun z => hr z.1)]
theorem putI_ok {f f' : Nat → Int64} {m : Nat} {r p i : Int32} {v : Int64} (e : f' = vp_updL f m v) (hm : m = 60 * p.toNatClampNeg + i.toNatClampNeg) (hi : i.toNatClampNeg < 60) (hr : r.toInt = 1) : eqV (vw f') (putV r p i v (vw f)) := by
  intro a b ha hb
  rw [e]
  show (if 60 * a + b = m then v else f (60 * a + b)) = (if r.toInt = 1 ∧ a = p.toNatClampNeg ∧ b = i.toNatClampNeg then v else f (60 * a + b))
  by_cases q : 60 * a + b = m
  · rw [if_pos q, if_pos ⟨hr, by omega, by omega⟩]
  · rw [if_neg q, if_neg (fun z => q (by omega))]
theorem eqV_put {F F' G G' : Nat → Nat → Int64} {r r' p i : Int32} {v v' : Int64} (h : eqV F G) (h1 : eqV F' (putV r p i v F)) (h2 : eqV G' (putV r' p i v' G)) (hr : r.toInt = r'.toInt) (hv : r.toInt = 1 → v = v') : eqV F' G' := by
  intro a b ha hb
  rw [h1 a b ha hb, h2 a b ha hb]
  unfold putV
  rw [h a b ha hb, ← hr]
  by_cases q : r.toInt = 1 ∧ a = p.toNatClampNeg ∧ b = i.toNatClampNeg
  · rw [if_pos q, if_pos q, hv q.1]
  · rw [if_neg q, if_neg q]
def shV (r d i e j n : Int32) (F : Nat → Nat → Int64) : Nat → Nat → Int64 := fun a b => if 0 ≤ r.toInt ∧ a = e.toNatClampNeg ∧ j.toNatClampNeg ≤ b ∧ b < j.toNatClampNeg + n.toNatClampNeg then F d.toNatClampNeg (i.toNatClampNeg + (b - j.toNatClampNeg)) else F a b
theorem shV_no {F : Nat → Nat → Int64} {r d i e j n : Int32} (hr : r.toInt < 0) : eqV F (shV r d i e j n F) := by
  intro a b ha hb
  show F a b = (if 0 ≤ r.toInt ∧ a = e.toNatClampNeg ∧ j.toNatClampNeg ≤ b ∧ b < j.toNatClampNeg + n.toNatClampNeg then F d.toNatClampNeg (i.toNatClampNeg + (b - j.toNatClampNeg)) else F a b)
  rw [if_neg (fun z => absurd z.1 (by omega))]
theorem shI_ok {f f' c : Nat → Int64} {r d i e j n : Int32} (hr : 0 ≤ r.toInt) (hc : ∀ q : Nat, (q : Int) < n.toInt → c q = f (60 * d.toNatClampNeg + i.toNatClampNeg + q)) (hf : ∀ m : Nat, f' m = if 60 * e.toNatClampNeg + j.toNatClampNeg ≤ m ∧ m < 60 * e.toNatClampNeg + j.toNatClampNeg + n.toNatClampNeg then c (m - (60 * e.toNatClampNeg + j.toNatClampNeg)) else f m) (hn : 0 ≤ n.toInt) (hj : j.toNatClampNeg + n.toNatClampNeg ≤ 60) : eqV (vw f') (shV r d i e j n (vw f)) := by
  intro a b ha hb
  have hn2 := ci_clamp (i := n) hn
  show f' (60 * a + b) = (if 0 ≤ r.toInt ∧ a = e.toNatClampNeg ∧ j.toNatClampNeg ≤ b ∧ b < j.toNatClampNeg + n.toNatClampNeg then f (60 * d.toNatClampNeg + (i.toNatClampNeg + (b - j.toNatClampNeg))) else f (60 * a + b))
  rw [hf]
  by_cases q : a = e.toNatClampNeg ∧ j.toNatClampNeg ≤ b ∧ b < j.toNatClampNeg + n.toNatClampNeg
  · rw [if_pos (by omega), if_pos ⟨hr, q⟩, hc _ (by omega)]
    congr 1
    omega
  · rw [if_neg (by omega), if_neg (fun z => q z.2)]
theorem eqV_sh {F F' G G' : Nat → Nat → Int64} {r r' d i e j n : Int32} (h : eqV F G) (h1 : eqV F' (shV r d i e j n F)) (h2 : eqV G' (shV r' d i e j n G)) (hr : r.toInt = r'.toInt) (hok : 0 ≤ r.toInt → 0 ≤ d.toInt ∧ d.toInt ≤ 5 ∧ 0 ≤ i.toInt ∧ 0 ≤ n.toInt ∧ i.toInt + n.toInt ≤ 60) : eqV F' G' := by
  intro a b ha hb
  rw [h1 a b ha hb, h2 a b ha hb]
  unfold shV
  rw [h a b ha hb, ← hr]
  by_cases q : 0 ≤ r.toInt ∧ a = e.toNatClampNeg ∧ j.toNatClampNeg ≤ b ∧ b < j.toNatClampNeg + n.toNatClampNeg
  · obtain ⟨q1, q2, q3, q4, q5⟩ := hok q.1
    have c1 := ci_clamp (i := d) q1
    have c2 := ci_clamp (i := i) q3
    have c3 := ci_clamp (i := n) q4
    rw [if_pos q, if_pos q, h _ _ (by omega) (by omega)]
  · rw [if_neg q, if_neg q]
theorem fillL_step {f f' : Nat → Int64} {v : Int64} {k k' : Int32} (h : ∀ j : Nat, (j : Int) < k.toInt → f j = v) (e : f' = vp_updL f k.toNatClampNeg v) (h0 : 0 ≤ k.toInt) (h1 : k'.toInt = k.toInt + 1) : ∀ j : Nat, (j : Int) < k'.toInt → f' j = v := by
  intro j hj
  have h2 := ci_clamp (i := k) h0
  rw [e]
  show (if j = k.toNatClampNeg then v else f j) = v
  by_cases q : j = k.toNatClampNeg
  · rw [if_pos q]
  · rw [if_neg q]; exact h j (by omega)
theorem carr_step {f c c' : Nat → Int64} {b m : Nat} {x : Int64} {k k' : Int32} (h : ∀ q : Nat, (q : Int) < k.toInt → c q = f (b + q)) (e : c' = vp_updL c k.toNatClampNeg x) (hx : x = f m) (hm : m = b + k.toNatClampNeg) (h0 : 0 ≤ k.toInt) (h1 : k'.toInt = k.toInt + 1) : ∀ q : Nat, (q : Int) < k'.toInt → c' q = f (b + q) := by
  intro q hq
  have h2 := ci_clamp (i := k) h0
  rw [e]
  show (if q = k.toNatClampNeg then x else c q) = _
  by_cases z : q = k.toNatClampNeg
  · rw [if_pos z, hx, hm, z]
  · rw [if_neg z]; exact h q (by omega)
theorem lay_step {f f' g c : Nat → Int64} {b m : Nat} {x : Int64} {k k' : Int32} (h : ∀ q : Nat, f q = if b ≤ q ∧ q < b + k.toNatClampNeg then c (q - b) else g q) (e : f' = vp_updL f m x) (hx : x = c k.toNatClampNeg) (hm : m = b + k.toNatClampNeg) (h0 : 0 ≤ k.toInt) (h1 : k'.toInt = k.toInt + 1) : ∀ q : Nat, f' q = if b ≤ q ∧ q < b + k'.toNatClampNeg then c (q - b) else g q := by
  intro q
  have h2 := ci_clamp (i := k) h0
  have h3 := ci_clamp (i := k') (by omega)
  rw [e]
  show (if q = m then x else f q) = _
  by_cases z : q = m
  · rw [if_pos z, if_pos (by omega), hx]
    congr 1
    omega
  · rw [if_neg z, h q]
    by_cases y : b ≤ q ∧ q < b + k.toNatClampNeg
    · rw [if_pos y, if_pos (by omega)]
    · rw [if_neg y, if_neg (by omega)]
def lowB (s : Int) (v : Int64) : Int64 := if s = 0 then v.toInt32.toInt8.toInt32.toInt64 else if s = 1 then v.toInt32.toInt16.toInt32.toInt64 else if s = 2 then v.toInt32.toInt64 else if s = 4 then (if v.toInt = 0 then 0 else 1) else v
theorem zero_step {f f' g : Nat → Int64} {b : Nat} {k k' : Int32} (h : ∀ q : Nat, f q = if b ≤ q ∧ q < k.toNatClampNeg then 0 else g q) (e : f' = vp_updL f k.toNatClampNeg 0) (hb : b ≤ k.toNatClampNeg) (h0 : 0 ≤ k.toInt) (h1 : k'.toInt = k.toInt + 1) : ∀ q : Nat, f' q = if b ≤ q ∧ q < k'.toNatClampNeg then 0 else g q := by
  intro q
  have h2 := ci_clamp (i := k) h0
  have h3 := ci_clamp (i := k') (by omega)
  rw [e]
  show (if q = k.toNatClampNeg then 0 else f q) = _
  by_cases z : q = k.toNatClampNeg
  · rw [if_pos z, if_pos (by omega)]
  · rw [if_neg z, h q]
    by_cases y : b ≤ q ∧ q < k.toNatClampNeg
    · rw [if_pos y, if_pos (by omega)]
    · rw [if_neg y, if_neg (by omega)]
theorem rowI_ok {f f' : Nat → Int64} {p s n k : Int32} (hf : ∀ q : Nat, f' q = if 60 * p.toNatClampNeg ≤ q ∧ q < k.toNatClampNeg then 0 else f q) (hk : k.toNatClampNeg = 60 * p.toNatClampNeg + 60) (h : 0 ≤ p.toInt ∧ p.toInt ≤ 5 ∧ 0 ≤ s.toInt ∧ s.toInt ≤ 4 ∧ 0 ≤ n.toInt ∧ n.toInt ≤ 60) : eqV (vw f') (rowV p s n (vw f)) := by
  intro a b ha hb
  show f' (60 * a + b) = (if (0 ≤ p.toInt ∧ p.toInt ≤ 5 ∧ 0 ≤ s.toInt ∧ s.toInt ≤ 4 ∧ 0 ≤ n.toInt ∧ n.toInt ≤ 60) ∧ a = p.toNatClampNeg then 0 else f (60 * a + b))
  rw [hf]
  by_cases q : a = p.toNatClampNeg
  · rw [if_pos (by omega), if_pos ⟨h, q⟩]
  · rw [if_neg (by omega), if_neg (fun z => q z.2)]
theorem fr_div {x y z : Int32} {n : Int} (hy : y.toInt = n) (hn : 1 < n) (e : z = x / y) : x.toInt < 0 → z.toInt = -((-x.toInt) / n) := fun h => by
  have h0 : 0 ≤ -x.toInt := by omega
  have h1 : 0 ≤ (-x.toInt) / n := Int.ediv_nonneg h0 (by omega)
  have h2 : (-x.toInt) / n ≤ -x.toInt := Int.ediv_le_self n h0
  have h3 : (-x.toInt) / n < -x.toInt := Int.ediv_lt_self_of_pos_of_ne_one (by omega) (by omega)
  have hr := ci_rng x
  have hq : x.toInt.tdiv n = -((-x.toInt) / n) := by
    obtain ⟨m, hm⟩ : ∃ m : Int, m = -x.toInt := ⟨_, rfl⟩
    have hx' : x.toInt = -m := by omega
    rw [hx', Int.neg_tdiv, Int.tdiv_eq_ediv_of_nonneg (by omega), Int.neg_neg]
  rw [e, Int32.toInt_div, hy, hq]
  exact ci_bmod (by omega) (by omega)
theorem fr_rem {x y z : Int32} {n : Int} (hy : y.toInt = n) (hn : 1 < n) (e : z = x - x / y * y) : x.toInt < 0 → z.toInt = -((-x.toInt) % n) := fun h => by
  have hq := fr_div (z := x / y) hy hn rfl h
  have h0 : 0 ≤ -x.toInt := by omega
  have h1 : 0 ≤ (-x.toInt) / n := Int.ediv_nonneg h0 (by omega)
  have h3 : (-x.toInt) / n * n ≤ -x.toInt := Int.ediv_mul_le _ (by omega)
  have h4 : 0 ≤ (-x.toInt) / n * n := Int.mul_nonneg h1 (by omega)
  have hr := ci_rng x
  have hm : (x / y * y).toInt = -((-x.toInt) / n * n) := by rw [Int32.toInt_mul, hq, hy, Int.neg_mul]; exact ci_bmod (by omega) (by omega)
  have h5 : (-x.toInt) % n = -x.toInt - (-x.toInt) / n * n := by rw [Int.emod_def, Int.mul_comm n]
  rw [h5, e, Int32.toInt_sub, hm, ci_bmod (by omega) (by omega)]
  omega
def dtI (F : Nat → Nat → Int64) (d a : Nat) : Int := if 0 ≤ (F d a).toInt32.toInt ∧ (F d a).toInt32.toInt ≤ 4 ∧ 0 ≤ (F d (a + 1)).toInt32.toInt ∧ (F d (a + 1)).toInt32.toInt ≤ 7 ∧ 0 ≤ (F d (a + 2)).toInt32.toInt ∧ (F d (a + 2)).toInt32.toInt ≤ 9999 then 1 else 0
theorem dt_cases (F : Nat → Nat → Int64) (d a : Nat) : (dtI F d a = 1 ∧ 0 ≤ (F d a).toInt32.toInt ∧ (F d a).toInt32.toInt ≤ 4 ∧ 0 ≤ (F d (a + 1)).toInt32.toInt ∧ (F d (a + 1)).toInt32.toInt ≤ 7 ∧ 0 ≤ (F d (a + 2)).toInt32.toInt ∧ (F d (a + 2)).toInt32.toInt ≤ 9999) ∨ (dtI F d a = 0 ∧ ¬ (0 ≤ (F d a).toInt32.toInt ∧ (F d a).toInt32.toInt ≤ 4 ∧ 0 ≤ (F d (a + 1)).toInt32.toInt ∧ (F d (a + 1)).toInt32.toInt ≤ 7 ∧ 0 ≤ (F d (a + 2)).toInt32.toInt ∧ (F d (a + 2)).toInt32.toInt ≤ 9999)) := by
  by_cases h : 0 ≤ (F d a).toInt32.toInt ∧ (F d a).toInt32.toInt ≤ 4 ∧ 0 ≤ (F d (a + 1)).toInt32.toInt ∧ (F d (a + 1)).toInt32.toInt ≤ 7 ∧ 0 ≤ (F d (a + 2)).toInt32.toInt ∧ (F d (a + 2)).toInt32.toInt ≤ 9999
  · exact Or.inl ⟨if_pos h, h⟩
  · exact Or.inr ⟨if_neg h, h⟩
/-- how many of the first k tries of a row came: i the place, len the length, c the dots that there were -/
def cmI (F : Nat → Nat → Int64) (d : Nat) (len i c : Int) : Nat → Int
  | 0 => 0
  | k + 1 => if cmI F d len i c k = (k : Int) ∧ c + (k : Int) < 40 ∧ 0 ≤ i ∧ i + 3 * (k : Int) + 3 ≤ len ∧ dtI F d (i + 3 * (k : Int)).toNat = 1 then (k : Int) + 1 else cmI F d len i c k
theorem cm_ok {F : Nat → Nat → Int64} {d : Nat} {len i c : Int} {k k' : Int32} (h : cmI F d len i c k.toInt.toNat = k.toInt) (h0 : 0 ≤ k.toInt) (h1 : k'.toInt = k.toInt + 1) (hc : c + k.toInt < 40) (hi : 0 ≤ i) (hl : i + 3 * k.toInt + 3 ≤ len) (hd : dtI F d (i + 3 * k.toInt).toNat = 1) : cmI F d len i c k'.toInt.toNat = k'.toInt := by
  have h2 : k'.toInt.toNat = k.toInt.toNat + 1 := by omega
  have h3 : ((k.toInt.toNat : Nat) : Int) = k.toInt := by omega
  rw [h2]
  show (if cmI F d len i c k.toInt.toNat = ((k.toInt.toNat : Nat) : Int) ∧ c + ((k.toInt.toNat : Nat) : Int) < 40 ∧ 0 ≤ i ∧ i + 3 * ((k.toInt.toNat : Nat) : Int) + 3 ≤ len ∧ dtI F d (i + 3 * ((k.toInt.toNat : Nat) : Int)).toNat = 1 then ((k.toInt.toNat : Nat) : Int) + 1 else cmI F d len i c k.toInt.toNat) = _
  rw [h3, if_pos ⟨h, hc, hi, hl, hd⟩]
  omega
theorem cm_stop {F : Nat → Nat → Int64} {d : Nat} {len i c : Int} {k : Int32} (h : cmI F d len i c k.toInt.toNat = k.toInt) (h0 : 0 ≤ k.toInt) (hn : ¬ (c + k.toInt < 40 ∧ 0 ≤ i ∧ i + 3 * k.toInt + 3 ≤ len ∧ dtI F d (i + 3 * k.toInt).toNat = 1)) : ∀ m : Nat, k.toInt ≤ (m : Int) → cmI F d len i c m = k.toInt := by
  intro m
  induction m with
  | zero =>
    intro hm
    have : k.toInt.toNat = 0 := by omega
    rw [this] at h
    exact h
  | succ m ih =>
    intro hm
    by_cases e : ((m : Nat) : Int) + 1 = k.toInt
    · have : m + 1 = k.toInt.toNat := by omega
      rw [this]; exact h
    · have h5 := ih (by omega)
      show (if cmI F d len i c m = (m : Int) ∧ c + (m : Int) < 40 ∧ 0 ≤ i ∧ i + 3 * (m : Int) + 3 ≤ len ∧ dtI F d (i + 3 * (m : Int)).toNat = 1 then (m : Int) + 1 else cmI F d len i c m) = _
      rw [if_neg, h5]
      intro z
      have h6 : (m : Int) = k.toInt := by omega
      rw [h6] at z
      exact hn z.2
theorem cm_neg {F : Nat → Nat → Int64} {d : Nat} {len i c : Int} (h : i < 0) : ∀ m : Nat, cmI F d len i c m = 0 := by
  intro m
  induction m with
  | zero => rfl
  | succ m ih =>
    show (if cmI F d len i c m = (m : Int) ∧ c + (m : Int) < 40 ∧ 0 ≤ i ∧ i + 3 * (m : Int) + 3 ≤ len ∧ dtI F d (i + 3 * (m : Int)).toNat = 1 then (m : Int) + 1 else cmI F d len i c m) = 0
    rw [if_neg (fun z => absurd z.2.2.1 (by omega)), ih]
theorem cm_congr {F G : Nat → Nat → Int64} {d : Nat} {len i c : Int} (h : eqV F G) (hd : d < 6) (hlen : len ≤ 60) : ∀ m : Nat, cmI F d len i c m = cmI G d len i c m := by
  intro m
  induction m with
  | zero => rfl
  | succ m ih =>
    show (if cmI F d len i c m = (m : Int) ∧ c + (m : Int) < 40 ∧ 0 ≤ i ∧ i + 3 * (m : Int) + 3 ≤ len ∧ dtI F d (i + 3 * (m : Int)).toNat = 1 then (m : Int) + 1 else cmI F d len i c m) = (if cmI G d len i c m = (m : Int) ∧ c + (m : Int) < 40 ∧ 0 ≤ i ∧ i + 3 * (m : Int) + 3 ≤ len ∧ dtI G d (i + 3 * (m : Int)).toNat = 1 then (m : Int) + 1 else cmI G d len i c m)
    rw [ih]
    by_cases z : 0 ≤ i ∧ i + 3 * (m : Int) + 3 ≤ len
    · have e : dtI F d (i + 3 * (m : Int)).toNat = dtI G d (i + 3 * (m : Int)).toNat := by
        unfold dtI
        rw [h d _ hd (show (i + 3 * (m : Int)).toNat < 60 by omega), h d _ hd (show (i + 3 * (m : Int)).toNat + 1 < 60 by omega), h d _ hd (show (i + 3 * (m : Int)).toNat + 2 < 60 by omega)]
      rw [e]
    · rw [if_neg (fun y => z ⟨y.2.2.1, y.2.2.2.1⟩), if_neg (fun y => z ⟨y.2.2.1, y.2.2.2.1⟩)]
def dtR (V B R : Prop) (cm c d r : Int) : Prop := (¬ V ∧ r = -1 ∧ d = c) ∨ (V ∧ B ∧ r = 0 ∧ d = c) ∨ (V ∧ ¬ B ∧ ¬ R ∧ r = -12 ∧ d = c) ∨ (V ∧ ¬ B ∧ R ∧ r = cm ∧ d = c + r)
theorem dtR_eq {V V' B B' R R' : Prop} {cm cm' c c' d d' r r' : Int} (h : dtR V B R cm c d r) (h' : dtR V' B' R' cm' c' d' r') (eV : V ↔ V') (eB : V → (B ↔ B')) (eR : V → ¬ B → (R ↔ R')) (em : V → ¬ B → R → cm = cm') (ec : c = c') : r = r' ∧ d = d' := by
  unfold dtR at h h'
  by_cases hV : V
  · have hV' := eV.mp hV
    by_cases hB : B
    · have hB' := (eB hV).mp hB
      rcases h with h | h | h | h
      · exact absurd hV h.1
      · rcases h' with h' | h' | h' | h'
        · exact absurd hV' h'.1
        · exact ⟨by rw [h.2.2.1, h'.2.2.1], by rw [h.2.2.2, h'.2.2.2, ec]⟩
        · exact absurd hB' h'.2.1
        · exact absurd hB' h'.2.1
      · exact absurd hB h.2.1
      · exact absurd hB h.2.1
    · have hB' := fun q => hB ((eB hV).mpr q)
      have eR2 := eR hV hB
      rcases h with h | h | h | h
      · exact absurd hV h.1
      · exact absurd h.2.1 hB
      · rcases h' with h' | h' | h' | h'
        · exact absurd hV' h'.1
        · exact absurd h'.2.1 hB'
        · exact ⟨by rw [h.2.2.2.1, h'.2.2.2.1], by rw [h.2.2.2.2, h'.2.2.2.2, ec]⟩
        · exact absurd (eR2.mpr h'.2.2.1) h.2.2.1
      · rcases h' with h' | h' | h' | h'
        · exact absurd hV' h'.1
        · exact absurd h'.2.1 hB'
        · exact absurd (eR2.mp h.2.2.1) h'.2.2.1
        · have e := em hV hB h.2.2.1
          have h4 := h.2.2.2.1
          have h5 := h.2.2.2.2
          have g4 := h'.2.2.2.1
          have g5 := h'.2.2.2.2
          exact ⟨by omega, by omega⟩
  · have hV' : ¬ V' := fun q => hV (eV.mpr q)
    rcases h with h | h | h | h
    · rcases h' with h' | h' | h' | h'
      · exact ⟨by rw [h.2.1, h'.2.1], by rw [h.2.2, h'.2.2, ec]⟩
      · exact absurd h'.1 hV'
      · exact absurd h'.1 hV'
      · exact absurd h'.1 hV'
    · exact absurd h.1 hV
    · exact absurd h.1 hV
    · exact absurd h.1 hV
set_option maxHeartbeats 4000000 in
set_option maxRecDepth 100000 in
theorem k_X11_within (l : Launch) (D : va_G) (κ : Nat → ClassId) (β : Nat) (sz : Nat) (p1 : Int32) (p2 : Int32) (p3 : Int32) : Met l yX11_within wsX11_within ({ frames := 0, cells := 0, slots := 0, locals := 0 } : Room) (PcK D κ β [] sz [.int p1, .int p2, .int p3]) (QiK D (fun (r : Int32) (u : Unit) => (r.toInt = 1 ∧ p2.toInt ≤ p1.toInt ∧ p1.toInt ≤ p3.toInt) ∨ (r.toInt = 0 ∧ (p1.toInt < p2.toInt ∨ p3.toInt < p1.toInt))) (fun (u : Unit) => []) [] sz) 0 0 (va_A [] sz) := by
  refine ofK_z (cc := cX11_within) (maxL := 3) (own := RX11) (by decide) rfl rfl (Nat.le_of_ble_eq_true rfl) ?_
  intro p e s m args below meth c Q A ls hsz hx hb hml hts hown hK hA hAB hP hD hl ret
  have hS : va_S A s.heap s.heap [] := va_S.rf
  have hl : lv_has ls 3 [(0, .int p1), (1, .int p2), (2, .int p3)] := hl
  have l0 : (0 : Int32).toInt = 0 := by decide
  have l1 : (1 : Int32).toInt = 1 := by decide
  refine lv_iload_n hx hb dX11_within_0 rfl (lv_at hl 1 rfl) ?_
  refine lv_iload_n hx hb dX11_within_1 rfl (lv_at hl 0 rfl) ?_
  refine lv_icmp_gt (tgt := 14) hx hb dX11_within_2 (by decide) (fun c1 => ?_) (fun c1 => ?_)
  · have c1 := ci_lt c1
    refine lv_iconst (v := 0) hx hb dX11_within_14 (by decide) ?_
    have hpo : ((0 : Int32).toInt = 1 ∧ p2.toInt ≤ p1.toInt ∧ p1.toInt ≤ p3.toInt) ∨ ((0 : Int32).toInt = 0 ∧ (p1.toInt < p2.toInt ∨ p3.toInt < p1.toInt)) := (by omega)
    exact ret _ _ _ _ 0 () dX11_within_15 (by omega) hpo hP hD hS
  have c1 := ci_nlt c1
  refine lv_iload_n hx hb dX11_within_5 rfl (lv_at hl 0 rfl) ?_
  refine lv_iload_n hx hb dX11_within_6 rfl (lv_at hl 2 rfl) ?_
  refine lv_icmp_gt (tgt := 14) hx hb dX11_within_7 (by decide) (fun c2 => ?_) (fun c2 => ?_)
  · have c2 := ci_lt c2
    refine lv_iconst (v := 0) hx hb dX11_within_14 (by decide) ?_
    have hpo : ((0 : Int32).toInt = 1 ∧ p2.toInt ≤ p1.toInt ∧ p1.toInt ≤ p3.toInt) ∨ ((0 : Int32).toInt = 0 ∧ (p1.toInt < p2.toInt ∨ p3.toInt < p1.toInt)) := (by omega)
    exact ret _ _ _ _ 0 () dX11_within_15 (by omega) hpo hP hD hS
  have c2 := ci_nlt c2
  refine lv_iconst (v := 1) hx hb dX11_within_10 (by decide) ?_
  refine lv_goto (tgt := 15) hx hb dX11_within_11 (by decide) ?_
  have hpo : ((1 : Int32).toInt = 1 ∧ p2.toInt ≤ p1.toInt ∧ p1.toInt ≤ p3.toInt) ∨ ((1 : Int32).toInt = 0 ∧ (p1.toInt < p2.toInt ∨ p3.toInt < p1.toInt)) := (by omega)
  exact ret _ _ _ _ 1 () dX11_within_15 (by omega) hpo hP hD hS
set_option maxHeartbeats 4000000 in
set_option maxRecDepth 100000 in
theorem k_X11_isYear (l : Launch) (D : va_G) (κ : Nat → ClassId) (β : Nat) (sz : Nat) (p1 : Int32) : Met l yX11_isYear wsX11_isYear ({ frames := 1, cells := 0, slots := 0, locals := 22 } : Room) (PcK D κ β [] sz [.int p1]) (QiK D (fun (r : Int32) (u : Unit) => (r.toInt = 1 ∧ 0 ≤ p1.toInt ∧ p1.toInt ≤ 2000) ∨ (r.toInt = 0 ∧ (p1.toInt < 0 ∨ 2000 < p1.toInt))) (fun (u : Unit) => []) [] sz) 0 0 (va_A [] sz) := by
  refine ofK_z (cc := cX11_isYear) (maxL := 1) (own := RX11) (by decide) rfl rfl (Nat.le_of_ble_eq_true rfl) ?_
  intro p e s m args below meth c Q A ls hsz hx hb hml hts hown hK hA hAB hP hD hl ret
  have hS : va_S A s.heap s.heap [] := va_S.rf
  have hl : lv_has ls 1 [(0, .int p1)] := hl
  have l0 : (0 : Int32).toInt = 0 := by decide
  have l1 : (2000 : Int32).toInt = 2000 := by decide
  refine lv_iload_n hx hb dX11_isYear_0 rfl (lv_at hl 0 rfl) ?_
  refine lv_iconst (v := 0) hx hb dX11_isYear_1 (by decide) ?_
  refine lv_sipush (v := 2000) hx hb dX11_isYear_2 (by decide) ?_
  refine kcm_i hA hAB hP hD hS [] rfl (fun _ => rfl) (fun hPc hDc => va_runS (As := [.int p1, .int 0, .int 2000]) (rest := []) ⟨hx, hb, hml, hown, hts⟩ (k_X11_within l D κ β s.heap.size p1 0 2000) (va_cwS 3 hts gX11_isYear_X11_within rfl rfl rfl (by decide +kernel) ⟨Nat.le_of_ble_eq_true rfl, Nat.le_of_ble_eq_true rfl⟩) (pk_S hK hS hAB hPc hDc) rfl rfl hl.1 rfl (lv_room (Nat.le_of_ble_eq_true rfl)) dX11_isYear_5 ⟨Nat.le_of_ble_eq_true rfl, Nat.le_of_ble_eq_true rfl⟩) (fun x1 u2 H locs hw hPD hS => ?_)
  have h3 : (x1.toInt = 1 ∧ (0 : Int32).toInt ≤ p1.toInt ∧ p1.toInt ≤ (2000 : Int32).toInt) ∨ (x1.toInt = 0 ∧ (p1.toInt < (0 : Int32).toInt ∨ (2000 : Int32).toInt < p1.toInt)) := hw
  obtain ⟨hP, hD⟩ : PD D A [] H := hPD
  have hpo : (x1.toInt = 1 ∧ 0 ≤ p1.toInt ∧ p1.toInt ≤ 2000) ∨ (x1.toInt = 0 ∧ (p1.toInt < 0 ∨ 2000 < p1.toInt)) := (by omega)
  exact ret _ _ _ _ x1 () dX11_isYear_8 (by omega) hpo hP hD hS
set_option maxHeartbeats 4000000 in
set_option maxRecDepth 100000 in
theorem k_X11_isSlack (l : Launch) (D : va_G) (κ : Nat → ClassId) (β : Nat) (sz : Nat) (p1 : Int32) : Met l yX11_isSlack wsX11_isSlack ({ frames := 1, cells := 0, slots := 0, locals := 22 } : Room) (PcK D κ β [] sz [.int p1]) (QiK D (fun (r : Int32) (u : Unit) => (r.toInt = 1 ∧ 0 ≤ p1.toInt ∧ p1.toInt ≤ 99) ∨ (r.toInt = 0 ∧ (p1.toInt < 0 ∨ 99 < p1.toInt))) (fun (u : Unit) => []) [] sz) 0 0 (va_A [] sz) := by
  refine ofK_z (cc := cX11_isSlack) (maxL := 1) (own := RX11) (by decide) rfl rfl (Nat.le_of_ble_eq_true rfl) ?_
  intro p e s m args below meth c Q A ls hsz hx hb hml hts hown hK hA hAB hP hD hl ret
  have hS : va_S A s.heap s.heap [] := va_S.rf
  have hl : lv_has ls 1 [(0, .int p1)] := hl
  have l0 : (0 : Int32).toInt = 0 := by decide
  have l1 : (99 : Int32).toInt = 99 := by decide
  refine lv_iload_n hx hb dX11_isSlack_0 rfl (lv_at hl 0 rfl) ?_
  refine lv_iconst (v := 0) hx hb dX11_isSlack_1 (by decide) ?_
  refine lv_bipush (v := 99) hx hb dX11_isSlack_2 (by decide) ?_
  refine kcm_i hA hAB hP hD hS [] rfl (fun _ => rfl) (fun hPc hDc => va_runS (As := [.int p1, .int 0, .int 99]) (rest := []) ⟨hx, hb, hml, hown, hts⟩ (k_X11_within l D κ β s.heap.size p1 0 99) (va_cwS 3 hts gX11_isSlack_X11_within rfl rfl rfl (by decide +kernel) ⟨Nat.le_of_ble_eq_true rfl, Nat.le_of_ble_eq_true rfl⟩) (pk_S hK hS hAB hPc hDc) rfl rfl hl.1 rfl (lv_room (Nat.le_of_ble_eq_true rfl)) dX11_isSlack_4 ⟨Nat.le_of_ble_eq_true rfl, Nat.le_of_ble_eq_true rfl⟩) (fun x1 u2 H locs hw hPD hS => ?_)
  have h3 : (x1.toInt = 1 ∧ (0 : Int32).toInt ≤ p1.toInt ∧ p1.toInt ≤ (99 : Int32).toInt) ∨ (x1.toInt = 0 ∧ (p1.toInt < (0 : Int32).toInt ∨ (99 : Int32).toInt < p1.toInt)) := hw
  obtain ⟨hP, hD⟩ : PD D A [] H := hPD
  have hpo : (x1.toInt = 1 ∧ 0 ≤ p1.toInt ∧ p1.toInt ≤ 99) ∨ (x1.toInt = 0 ∧ (p1.toInt < 0 ∨ 99 < p1.toInt)) := (by omega)
  exact ret _ _ _ _ x1 () dX11_isSlack_7 (by omega) hpo hP hD hS
set_option maxHeartbeats 4000000 in
set_option maxRecDepth 100000 in
theorem k_X11_isBit (l : Launch) (D : va_G) (κ : Nat → ClassId) (β : Nat) (sz : Nat) (p1 : Int32) : Met l yX11_isBit wsX11_isBit ({ frames := 0, cells := 0, slots := 0, locals := 0 } : Room) (PcK D κ β [] sz [.int p1]) (QiK D (fun (r : Int32) (u : Unit) => (r.toInt = 1 ∧ 0 ≤ p1.toInt ∧ p1.toInt ≤ 1) ∨ (r.toInt = 0 ∧ (p1.toInt < 0 ∨ 1 < p1.toInt))) (fun (u : Unit) => []) [] sz) 0 0 (va_A [] sz) := by
  refine ofK_z (cc := cX11_isBit) (maxL := 1) (own := RX11) (by decide) rfl rfl (Nat.le_of_ble_eq_true rfl) ?_
  intro p e s m args below meth c Q A ls hsz hx hb hml hts hown hK hA hAB hP hD hl ret
  have hS : va_S A s.heap s.heap [] := va_S.rf
  have hl : lv_has ls 1 [(0, .int p1)] := hl
  have l0 : (0 : Int32).toInt = 0 := by decide
  have l1 : (1 : Int32).toInt = 1 := by decide
  refine lv_iload_n hx hb dX11_isBit_0 rfl (lv_at hl 0 rfl) ?_
  refine lv_if_eq (tgt := 9) hx hb dX11_isBit_1 (by decide) (fun c1 => ?_) (fun c1 => ?_)
  · have c1 := ci_eq c1
    refine lv_iconst (v := 1) hx hb dX11_isBit_9 (by decide) ?_
    refine lv_goto (tgt := 14) hx hb dX11_isBit_10 (by decide) ?_
    have hpo : ((1 : Int32).toInt = 1 ∧ 0 ≤ p1.toInt ∧ p1.toInt ≤ 1) ∨ ((1 : Int32).toInt = 0 ∧ (p1.toInt < 0 ∨ 1 < p1.toInt)) := (by omega)
    exact ret _ _ _ _ 1 () dX11_isBit_14 (by omega) hpo hP hD hS
  have c1 := ci_ne c1
  refine lv_iload_n hx hb dX11_isBit_4 rfl (lv_at hl 0 rfl) ?_
  refine lv_iconst (v := 1) hx hb dX11_isBit_5 (by decide) ?_
  refine lv_icmp_ne (tgt := 13) hx hb dX11_isBit_6 (by decide) (fun c2 => ?_) (fun c2 => ?_)
  · have c2 := ci_ne c2
    refine lv_iconst (v := 0) hx hb dX11_isBit_13 (by decide) ?_
    have hpo : ((0 : Int32).toInt = 1 ∧ 0 ≤ p1.toInt ∧ p1.toInt ≤ 1) ∨ ((0 : Int32).toInt = 0 ∧ (p1.toInt < 0 ∨ 1 < p1.toInt)) := (by omega)
    exact ret _ _ _ _ 0 () dX11_isBit_14 (by omega) hpo hP hD hS
  have c2 := ci_eq c2
  refine lv_iconst (v := 1) hx hb dX11_isBit_9 (by decide) ?_
  refine lv_goto (tgt := 14) hx hb dX11_isBit_10 (by decide) ?_
  have hpo : ((1 : Int32).toInt = 1 ∧ 0 ≤ p1.toInt ∧ p1.toInt ≤ 1) ∨ ((1 : Int32).toInt = 0 ∧ (p1.toInt < 0 ∨ 1 < p1.toInt)) := (by omega)
  exact ret _ _ _ _ 1 () dX11_isBit_14 (by omega) hpo hP hD hS
set_option maxHeartbeats 4000000 in
set_option maxRecDepth 100000 in
theorem k_X11_asBit (l : Launch) (D : va_G) (κ : Nat → ClassId) (β : Nat) (sz : Nat) (p1 : Int32) : Met l yX11_asBit wsX11_asBit ({ frames := 0, cells := 0, slots := 0, locals := 0 } : Room) (PcK D κ β [] sz [.int p1]) (QiK D (fun (r : Int32) (u : Unit) => (r.toInt = 1 ∧ p1.toInt ≠ 0) ∨ (r.toInt = 0 ∧ p1.toInt = 0)) (fun (u : Unit) => []) [] sz) 0 0 (va_A [] sz) := by
  refine ofK_i (cc := cX11_asBit) (maxL := 1) (own := RX11) (by decide) rfl rfl (Nat.le_of_ble_eq_true rfl) ?_
  intro p e s m args below meth c Q A ls hsz hx hb hml hts hown hK hA hAB hP hD hl ret
  have hS : va_S A s.heap s.heap [] := va_S.rf
  have hl : lv_has ls 1 [(0, .int p1)] := hl
  have l0 : (0 : Int32).toInt = 0 := by decide
  have l1 : (1 : Int32).toInt = 1 := by decide
  refine lv_iload_n hx hb dX11_asBit_0 rfl (lv_at hl 0 rfl) ?_
  refine lv_if_eq (tgt := 8) hx hb dX11_asBit_1 (by decide) (fun c1 => ?_) (fun c1 => ?_)
  · have c1 := ci_eq c1
    refine lv_iconst (v := 0) hx hb dX11_asBit_8 (by decide) ?_
    have hpo : ((0 : Int32).toInt = 1 ∧ p1.toInt ≠ 0) ∨ ((0 : Int32).toInt = 0 ∧ p1.toInt = 0) := (by omega)
    exact ret _ _ _ _ 0 () dX11_asBit_9 hpo hP hD hS
  have c1 := ci_ne c1
  refine lv_iconst (v := 1) hx hb dX11_asBit_4 (by decide) ?_
  refine lv_goto (tgt := 9) hx hb dX11_asBit_5 (by decide) ?_
  have hpo : ((1 : Int32).toInt = 1 ∧ p1.toInt ≠ 0) ∨ ((1 : Int32).toInt = 0 ∧ p1.toInt = 0) := (by omega)
  exact ret _ _ _ _ 1 () dX11_asBit_9 hpo hP hD hS
set_option maxHeartbeats 4000000 in
set_option maxRecDepth 100000 in
theorem k_X11_isInk (l : Launch) (D : va_G) (κ : Nat → ClassId) (β : Nat) (sz : Nat) (p1 : Int32) : Met l yX11_isInk wsX11_isInk ({ frames := 1, cells := 0, slots := 0, locals := 22 } : Room) (PcK D κ β [] sz [.int p1]) (QiK D (fun (r : Int32) (u : Unit) => (r.toInt = 1 ∧ 0 ≤ p1.toInt ∧ p1.toInt ≤ 5) ∨ (r.toInt = 0 ∧ (p1.toInt < 0 ∨ 5 < p1.toInt))) (fun (u : Unit) => []) [] sz) 0 0 (va_A [] sz) := by
  refine ofK_z (cc := cX11_isInk) (maxL := 1) (own := RX11) (by decide) rfl rfl (Nat.le_of_ble_eq_true rfl) ?_
  intro p e s m args below meth c Q A ls hsz hx hb hml hts hown hK hA hAB hP hD hl ret
  have hS : va_S A s.heap s.heap [] := va_S.rf
  have hl : lv_has ls 1 [(0, .int p1)] := hl
  have l0 : (0 : Int32).toInt = 0 := by decide
  have l1 : (5 : Int32).toInt = 5 := by decide
  refine lv_iload_n hx hb dX11_isInk_0 rfl (lv_at hl 0 rfl) ?_
  refine lv_iconst (v := 0) hx hb dX11_isInk_1 (by decide) ?_
  refine lv_iconst (v := 5) hx hb dX11_isInk_2 (by decide) ?_
  refine kcm_i hA hAB hP hD hS [] rfl (fun _ => rfl) (fun hPc hDc => va_runS (As := [.int p1, .int 0, .int 5]) (rest := []) ⟨hx, hb, hml, hown, hts⟩ (k_X11_within l D κ β s.heap.size p1 0 5) (va_cwS 3 hts gX11_isInk_X11_within rfl rfl rfl (by decide +kernel) ⟨Nat.le_of_ble_eq_true rfl, Nat.le_of_ble_eq_true rfl⟩) (pk_S hK hS hAB hPc hDc) rfl rfl hl.1 rfl (lv_room (Nat.le_of_ble_eq_true rfl)) dX11_isInk_3 ⟨Nat.le_of_ble_eq_true rfl, Nat.le_of_ble_eq_true rfl⟩) (fun x1 u2 H locs hw hPD hS => ?_)
  have h3 : (x1.toInt = 1 ∧ (0 : Int32).toInt ≤ p1.toInt ∧ p1.toInt ≤ (5 : Int32).toInt) ∨ (x1.toInt = 0 ∧ (p1.toInt < (0 : Int32).toInt ∨ (5 : Int32).toInt < p1.toInt)) := hw
  obtain ⟨hP, hD⟩ : PD D A [] H := hPD
  have hpo : (x1.toInt = 1 ∧ 0 ≤ p1.toInt ∧ p1.toInt ≤ 5) ∨ (x1.toInt = 0 ∧ (p1.toInt < 0 ∨ 5 < p1.toInt)) := (by omega)
  exact ret _ _ _ _ x1 () dX11_isInk_6 (by omega) hpo hP hD hS
set_option maxHeartbeats 4000000 in
set_option maxRecDepth 100000 in
theorem k_X11_isStuff (l : Launch) (D : va_G) (κ : Nat → ClassId) (β : Nat) (sz : Nat) (p1 : Int32) : Met l yX11_isStuff wsX11_isStuff ({ frames := 1, cells := 0, slots := 0, locals := 22 } : Room) (PcK D κ β [] sz [.int p1]) (QiK D (fun (r : Int32) (u : Unit) => (r.toInt = 1 ∧ 0 ≤ p1.toInt ∧ p1.toInt ≤ 9999) ∨ (r.toInt = 0 ∧ (p1.toInt < 0 ∨ 9999 < p1.toInt))) (fun (u : Unit) => []) [] sz) 0 0 (va_A [] sz) := by
  refine ofK_z (cc := cX11_isStuff) (maxL := 1) (own := RX11) (by decide) rfl rfl (Nat.le_of_ble_eq_true rfl) ?_
  intro p e s m args below meth c Q A ls hsz hx hb hml hts hown hK hA hAB hP hD hl ret
  have hS : va_S A s.heap s.heap [] := va_S.rf
  have hl : lv_has ls 1 [(0, .int p1)] := hl
  have l0 : (0 : Int32).toInt = 0 := by decide
  have l1 : (9999 : Int32).toInt = 9999 := by decide
  refine lv_iload_n hx hb dX11_isStuff_0 rfl (lv_at hl 0 rfl) ?_
  refine lv_iconst (v := 0) hx hb dX11_isStuff_1 (by decide) ?_
  refine lv_sipush (v := 9999) hx hb dX11_isStuff_2 (by decide) ?_
  refine kcm_i hA hAB hP hD hS [] rfl (fun _ => rfl) (fun hPc hDc => va_runS (As := [.int p1, .int 0, .int 9999]) (rest := []) ⟨hx, hb, hml, hown, hts⟩ (k_X11_within l D κ β s.heap.size p1 0 9999) (va_cwS 3 hts gX11_isStuff_X11_within rfl rfl rfl (by decide +kernel) ⟨Nat.le_of_ble_eq_true rfl, Nat.le_of_ble_eq_true rfl⟩) (pk_S hK hS hAB hPc hDc) rfl rfl hl.1 rfl (lv_room (Nat.le_of_ble_eq_true rfl)) dX11_isStuff_5 ⟨Nat.le_of_ble_eq_true rfl, Nat.le_of_ble_eq_true rfl⟩) (fun x1 u2 H locs hw hPD hS => ?_)
  have h3 : (x1.toInt = 1 ∧ (0 : Int32).toInt ≤ p1.toInt ∧ p1.toInt ≤ (9999 : Int32).toInt) ∨ (x1.toInt = 0 ∧ (p1.toInt < (0 : Int32).toInt ∨ (9999 : Int32).toInt < p1.toInt)) := hw
  obtain ⟨hP, hD⟩ : PD D A [] H := hPD
  have hpo : (x1.toInt = 1 ∧ 0 ≤ p1.toInt ∧ p1.toInt ≤ 9999) ∨ (x1.toInt = 0 ∧ (p1.toInt < 0 ∨ 9999 < p1.toInt)) := (by omega)
  exact ret _ _ _ _ x1 () dX11_isStuff_8 (by omega) hpo hP hD hS
set_option maxHeartbeats 4000000 in
set_option maxRecDepth 100000 in
theorem k_X11_isPrior (l : Launch) (D : va_G) (κ : Nat → ClassId) (β : Nat) (sz : Nat) (p1 : Int32) : Met l yX11_isPrior wsX11_isPrior ({ frames := 1, cells := 0, slots := 0, locals := 22 } : Room) (PcK D κ β [] sz [.int p1]) (QiK D (fun (r : Int32) (u : Unit) => (r.toInt = 1 ∧ 1 ≤ p1.toInt ∧ p1.toInt ≤ 99) ∨ (r.toInt = 0 ∧ (p1.toInt < 1 ∨ 99 < p1.toInt))) (fun (u : Unit) => []) [] sz) 0 0 (va_A [] sz) := by
  refine ofK_z (cc := cX11_isPrior) (maxL := 1) (own := RX11) (by decide) rfl rfl (Nat.le_of_ble_eq_true rfl) ?_
  intro p e s m args below meth c Q A ls hsz hx hb hml hts hown hK hA hAB hP hD hl ret
  have hS : va_S A s.heap s.heap [] := va_S.rf
  have hl : lv_has ls 1 [(0, .int p1)] := hl
  have l0 : (1 : Int32).toInt = 1 := by decide
  have l1 : (99 : Int32).toInt = 99 := by decide
  refine lv_iload_n hx hb dX11_isPrior_0 rfl (lv_at hl 0 rfl) ?_
  refine lv_iconst (v := 1) hx hb dX11_isPrior_1 (by decide) ?_
  refine lv_bipush (v := 99) hx hb dX11_isPrior_2 (by decide) ?_
  refine kcm_i hA hAB hP hD hS [] rfl (fun _ => rfl) (fun hPc hDc => va_runS (As := [.int p1, .int 1, .int 99]) (rest := []) ⟨hx, hb, hml, hown, hts⟩ (k_X11_within l D κ β s.heap.size p1 1 99) (va_cwS 3 hts gX11_isPrior_X11_within rfl rfl rfl (by decide +kernel) ⟨Nat.le_of_ble_eq_true rfl, Nat.le_of_ble_eq_true rfl⟩) (pk_S hK hS hAB hPc hDc) rfl rfl hl.1 rfl (lv_room (Nat.le_of_ble_eq_true rfl)) dX11_isPrior_4 ⟨Nat.le_of_ble_eq_true rfl, Nat.le_of_ble_eq_true rfl⟩) (fun x1 u2 H locs hw hPD hS => ?_)
  have h3 : (x1.toInt = 1 ∧ (1 : Int32).toInt ≤ p1.toInt ∧ p1.toInt ≤ (99 : Int32).toInt) ∨ (x1.toInt = 0 ∧ (p1.toInt < (1 : Int32).toInt ∨ (99 : Int32).toInt < p1.toInt)) := hw
  obtain ⟨hP, hD⟩ : PD D A [] H := hPD
  have hpo : (x1.toInt = 1 ∧ 1 ≤ p1.toInt ∧ p1.toInt ≤ 99) ∨ (x1.toInt = 0 ∧ (p1.toInt < 1 ∨ 99 < p1.toInt)) := (by omega)
  exact ret _ _ _ _ x1 () dX11_isPrior_7 (by omega) hpo hP hD hS
set_option maxHeartbeats 4000000 in
set_option maxRecDepth 100000 in
theorem k_X11_isDot (l : Launch) (D : va_G) (κ : Nat → ClassId) (β : Nat) (sz : Nat) (p1 : Int32) (p2 : Int32) (p3 : Int32) : Met l yX11_isDot wsX11_isDot ({ frames := 2, cells := 0, slots := 0, locals := 42 } : Room) (PcK D κ β [] sz [.int p1, .int p2, .int p3]) (QiK D (fun (r : Int32) (u : Unit) => (r.toInt = 1 ∧ 0 ≤ p1.toInt ∧ p1.toInt ≤ 4 ∧ 0 ≤ p2.toInt ∧ p2.toInt ≤ 7 ∧ 0 ≤ p3.toInt ∧ p3.toInt ≤ 9999) ∨ (r.toInt = 0 ∧ (p1.toInt < 0 ∨ 4 < p1.toInt ∨ p2.toInt < 0 ∨ 7 < p2.toInt ∨ p3.toInt < 0 ∨ 9999 < p3.toInt))) (fun (u : Unit) => []) [] sz) 0 0 (va_A [] sz) := by
  refine ofK_z (cc := cX11_isDot) (maxL := 3) (own := RX11) (by decide) rfl rfl (Nat.le_of_ble_eq_true rfl) ?_
  intro p e s m args below meth c Q A ls hsz hx hb hml hts hown hK hA hAB hP hD hl ret
  have hS : va_S A s.heap s.heap [] := va_S.rf
  have hl : lv_has ls 3 [(0, .int p1), (1, .int p2), (2, .int p3)] := hl
  have l0 : (0 : Int32).toInt = 0 := by decide
  have l1 : (4 : Int32).toInt = 4 := by decide
  have l2 : (7 : Int32).toInt = 7 := by decide
  have l3 : (1 : Int32).toInt = 1 := by decide
  refine lv_iload_n hx hb dX11_isDot_0 rfl (lv_at hl 0 rfl) ?_
  refine lv_iconst (v := 0) hx hb dX11_isDot_1 (by decide) ?_
  refine lv_iconst (v := 4) hx hb dX11_isDot_2 (by decide) ?_
  refine kcm_i hA hAB hP hD hS [] rfl (fun _ => rfl) (fun hPc hDc => va_runS (As := [.int p1, .int 0, .int 4]) (rest := []) ⟨hx, hb, hml, hown, hts⟩ (k_X11_within l D κ β s.heap.size p1 0 4) (va_cwS 3 hts gX11_isDot_X11_within rfl rfl rfl (by decide +kernel) ⟨Nat.le_of_ble_eq_true rfl, Nat.le_of_ble_eq_true rfl⟩) (pk_S hK hS hAB hPc hDc) rfl rfl hl.1 rfl (lv_room (Nat.le_of_ble_eq_true rfl)) dX11_isDot_3 ⟨Nat.le_of_ble_eq_true rfl, Nat.le_of_ble_eq_true rfl⟩) (fun x1 u2 H locs hw hPD hS => ?_)
  have h3 : (x1.toInt = 1 ∧ (0 : Int32).toInt ≤ p1.toInt ∧ p1.toInt ≤ (4 : Int32).toInt) ∨ (x1.toInt = 0 ∧ (p1.toInt < (0 : Int32).toInt ∨ (4 : Int32).toInt < p1.toInt)) := hw
  obtain ⟨hP, hD⟩ : PD D A [] H := hPD
  refine lv_if_eq (tgt := 30) hx hb dX11_isDot_6 (by decide) (fun c4 => ?_) (fun c4 => ?_)
  · have c4 := ci_eq c4
    refine lv_iconst (v := 0) hx hb dX11_isDot_30 (by decide) ?_
    have hpo : ((0 : Int32).toInt = 1 ∧ 0 ≤ p1.toInt ∧ p1.toInt ≤ 4 ∧ 0 ≤ p2.toInt ∧ p2.toInt ≤ 7 ∧ 0 ≤ p3.toInt ∧ p3.toInt ≤ 9999) ∨ ((0 : Int32).toInt = 0 ∧ (p1.toInt < 0 ∨ 4 < p1.toInt ∨ p2.toInt < 0 ∨ 7 < p2.toInt ∨ p3.toInt < 0 ∨ 9999 < p3.toInt)) := (by omega)
    exact ret _ _ _ _ 0 () dX11_isDot_31 (by omega) hpo hP hD hS
  have c4 := ci_ne c4
  refine lv_iload_n hx hb dX11_isDot_9 rfl (lv_at hl 1 rfl) ?_
  refine lv_iconst (v := 0) hx hb dX11_isDot_10 (by decide) ?_
  refine lv_bipush (v := 7) hx hb dX11_isDot_11 (by decide) ?_
  refine kcm_i hA hAB hP hD hS [] rfl (fun _ => rfl) (fun hPc hDc => va_runS (As := [.int p2, .int 0, .int 7]) (rest := []) ⟨hx, hb, hml, hown, hts⟩ (k_X11_within l D κ β H.size p2 0 7) (va_cwS 3 hts gX11_isDot_X11_within rfl rfl rfl (by decide +kernel) ⟨Nat.le_of_ble_eq_true rfl, Nat.le_of_ble_eq_true rfl⟩) (pk_S hK hS hAB hPc hDc) rfl rfl hl.1 rfl (lv_room (Nat.le_of_ble_eq_true rfl)) dX11_isDot_13 ⟨Nat.le_of_ble_eq_true rfl, Nat.le_of_ble_eq_true rfl⟩) (fun x5 u6 H locs hw hPD hS => ?_)
  have h7 : (x5.toInt = 1 ∧ (0 : Int32).toInt ≤ p2.toInt ∧ p2.toInt ≤ (7 : Int32).toInt) ∨ (x5.toInt = 0 ∧ (p2.toInt < (0 : Int32).toInt ∨ (7 : Int32).toInt < p2.toInt)) := hw
  obtain ⟨hP, hD⟩ : PD D A [] H := hPD
  refine lv_if_eq (tgt := 30) hx hb dX11_isDot_16 (by decide) (fun c8 => ?_) (fun c8 => ?_)
  · have c8 := ci_eq c8
    refine lv_iconst (v := 0) hx hb dX11_isDot_30 (by decide) ?_
    have hpo : ((0 : Int32).toInt = 1 ∧ 0 ≤ p1.toInt ∧ p1.toInt ≤ 4 ∧ 0 ≤ p2.toInt ∧ p2.toInt ≤ 7 ∧ 0 ≤ p3.toInt ∧ p3.toInt ≤ 9999) ∨ ((0 : Int32).toInt = 0 ∧ (p1.toInt < 0 ∨ 4 < p1.toInt ∨ p2.toInt < 0 ∨ 7 < p2.toInt ∨ p3.toInt < 0 ∨ 9999 < p3.toInt)) := (by omega)
    exact ret _ _ _ _ 0 () dX11_isDot_31 (by omega) hpo hP hD hS
  have c8 := ci_ne c8
  refine lv_iload_n hx hb dX11_isDot_19 rfl (lv_at hl 2 rfl) ?_
  refine kcm_i hA hAB hP hD hS [] rfl (fun _ => rfl) (fun hPc hDc => va_runS (As := [.int p3]) (rest := []) ⟨hx, hb, hml, hown, hts⟩ (k_X11_isStuff l D κ β H.size p3) (va_cwS 1 hts gX11_isDot_X11_isStuff rfl rfl rfl (by decide +kernel) ⟨Nat.le_of_ble_eq_true rfl, Nat.le_of_ble_eq_true rfl⟩) (pk_S hK hS hAB hPc hDc) rfl rfl hl.1 rfl (lv_room (Nat.le_of_ble_eq_true rfl)) dX11_isDot_20 ⟨Nat.le_of_ble_eq_true rfl, Nat.le_of_ble_eq_true rfl⟩) (fun x9 u10 H locs hw hPD hS => ?_)
  have h11 : (x9.toInt = 1 ∧ 0 ≤ p3.toInt ∧ p3.toInt ≤ 9999) ∨ (x9.toInt = 0 ∧ (p3.toInt < 0 ∨ 9999 < p3.toInt)) := hw
  obtain ⟨hP, hD⟩ : PD D A [] H := hPD
  refine lv_if_eq (tgt := 30) hx hb dX11_isDot_23 (by decide) (fun c12 => ?_) (fun c12 => ?_)
  · have c12 := ci_eq c12
    refine lv_iconst (v := 0) hx hb dX11_isDot_30 (by decide) ?_
    have hpo : ((0 : Int32).toInt = 1 ∧ 0 ≤ p1.toInt ∧ p1.toInt ≤ 4 ∧ 0 ≤ p2.toInt ∧ p2.toInt ≤ 7 ∧ 0 ≤ p3.toInt ∧ p3.toInt ≤ 9999) ∨ ((0 : Int32).toInt = 0 ∧ (p1.toInt < 0 ∨ 4 < p1.toInt ∨ p2.toInt < 0 ∨ 7 < p2.toInt ∨ p3.toInt < 0 ∨ 9999 < p3.toInt)) := (by omega)
    exact ret _ _ _ _ 0 () dX11_isDot_31 (by omega) hpo hP hD hS
  have c12 := ci_ne c12
  refine lv_iconst (v := 1) hx hb dX11_isDot_26 (by decide) ?_
  refine lv_goto (tgt := 31) hx hb dX11_isDot_27 (by decide) ?_
  have hpo : ((1 : Int32).toInt = 1 ∧ 0 ≤ p1.toInt ∧ p1.toInt ≤ 4 ∧ 0 ≤ p2.toInt ∧ p2.toInt ≤ 7 ∧ 0 ≤ p3.toInt ∧ p3.toInt ≤ 9999) ∨ ((1 : Int32).toInt = 0 ∧ (p1.toInt < 0 ∨ 4 < p1.toInt ∨ p2.toInt < 0 ∨ 7 < p2.toInt ∨ p3.toInt < 0 ∨ 9999 < p3.toInt)) := (by omega)
  exact ret _ _ _ _ 1 () dX11_isDot_31 (by omega) hpo hP hD hS
set_option maxHeartbeats 4000000 in
set_option maxRecDepth 100000 in
theorem k_X11_hasBit (l : Launch) (D : va_G) (κ : Nat → ClassId) (β : Nat) (sz : Nat) (p1 : Int32) (p2 : Int32) : Met l yX11_hasBit wsX11_hasBit ({ frames := 0, cells := 0, slots := 0, locals := 0 } : Room) (PcK D κ β [] sz [.int p1, .int p2]) (QiK D (fun (r : Int32) (u : Unit) => r.toInt = 0 ∨ r.toInt = 1) (fun (u : Unit) => []) [] sz) 0 0 (va_A [] sz) := by
  refine ofK_z (cc := cX11_hasBit) (maxL := 2) (own := RX11) (by decide) rfl rfl (Nat.le_of_ble_eq_true rfl) ?_
  intro p e s m args below meth c Q A ls hsz hx hb hml hts hown hK hA hAB hP hD hl ret
  have hS : va_S A s.heap s.heap [] := va_S.rf
  have hl : lv_has ls 2 [(0, .int p1), (1, .int p2)] := hl
  have l0 : (1 : Int32).toInt = 1 := by decide
  have l1 : (0 : Int32).toInt = 0 := by decide
  refine lv_iload_n hx hb dX11_hasBit_0 rfl (lv_at hl 0 rfl) ?_
  refine lv_iload_n hx hb dX11_hasBit_1 rfl (lv_at hl 1 rfl) ?_
  refine lv_ishr hx hb dX11_hasBit_2 ?_
  refine lv_topi (fun x1 e2 => ?_)
  refine lv_iconst (v := 1) hx hb dX11_hasBit_3 (by decide) ?_
  refine lv_iand hx hb dX11_hasBit_4 ?_
  refine lv_topi (fun x3 e4 => ?_)
  refine lv_if_eq (tgt := 12) hx hb dX11_hasBit_5 (by decide) (fun c5 => ?_) (fun c5 => ?_)
  · have c5 := ci_eq c5
    refine lv_iconst (v := 0) hx hb dX11_hasBit_12 (by decide) ?_
    have hpo : (0 : Int32).toInt = 0 ∨ (0 : Int32).toInt = 1 := (by omega)
    exact ret _ _ _ _ 0 () dX11_hasBit_13 (by omega) hpo hP hD hS
  have c5 := ci_ne c5
  refine lv_iconst (v := 1) hx hb dX11_hasBit_8 (by decide) ?_
  refine lv_goto (tgt := 13) hx hb dX11_hasBit_9 (by decide) ?_
  have hpo : (1 : Int32).toInt = 0 ∨ (1 : Int32).toInt = 1 := (by omega)
  exact ret _ _ _ _ 1 () dX11_hasBit_13 (by omega) hpo hP hD hS
set_option maxHeartbeats 4000000 in
set_option maxRecDepth 100000 in
theorem k_X11_drawn (l : Launch) (D : va_G) (κ : Nat → ClassId) (β : Nat) (sz : Nat) (p1 : Int32) : Met l yX11_drawn wsX11_drawn ({ frames := 0, cells := 0, slots := 0, locals := 0 } : Room) (PcK D κ β [] sz [.int p1]) (QiK D (fun (r : Int32) (u : Unit) => True) (fun (u : Unit) => []) [] sz) 0 0 (va_A [] sz) := by
  refine ofK_i (cc := cX11_drawn) (maxL := 1) (own := RX11) (by decide) rfl rfl (Nat.le_of_ble_eq_true rfl) ?_
  intro p e s m args below meth c Q A ls hsz hx hb hml hts hown hK hA hAB hP hD hl ret
  have hS : va_S A s.heap s.heap [] := va_S.rf
  have hl : lv_has ls 1 [(0, .int p1)] := hl
  have w0 := hts (.constant RX11 470 (1103515245)) (List.mem_of_getElem? (i := 1) rfl)
  have l0 : (1103515245 : Int32).toInt = 1103515245 := by decide
  have l1 : (12345 : Int32).toInt = 12345 := by decide
  refine lv_iload_n hx hb dX11_drawn_0 rfl (lv_at hl 0 rfl) ?_
  refine lv_ldcw (v := 1103515245) hx hb hown w0 dX11_drawn_1 ?_
  refine lv_imul hx hb dX11_drawn_4 ?_
  refine lv_topi (fun x1 e2 => ?_)
  try have h3 : x1.toInt = 1103515245 * p1.toInt := ci_mulR (n := 1103515245) (by decide) e2 (by omega) (by omega)
  refine lv_sipush (v := 12345) hx hb dX11_drawn_5 (by decide) ?_
  refine lv_iadd hx hb dX11_drawn_8 ?_
  refine lv_topi (fun x4 e5 => ?_)
  try have h6 : x4.toInt = x1.toInt + (12345 : Int32).toInt := ci_add e5 (by omega) (by omega)
  exact ret _ _ _ _ x4 () dX11_drawn_9 trivial hP hD hS
