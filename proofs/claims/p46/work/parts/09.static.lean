def keepF (a w n : Int32) (f : Nat → Int32) (v : Int32) : Nat → Int32 := if 0 ≤ a.toInt ∧ a.toInt ≤ 5 ∧ (w.toInt = -1 ∨ (0 ≤ w.toInt ∧ w.toInt < n.toInt)) then upd f a.toNatClampNeg v else f
theorem keepF_ok {a w n v : Int32} {f : Nat → Int32} (h : 0 ≤ a.toInt ∧ a.toInt ≤ 5 ∧ (w.toInt = -1 ∨ (0 ≤ w.toInt ∧ w.toInt < n.toInt))) : keepF a w n f v = upd f a.toNatClampNeg v := if_pos h
theorem keepF_no {a w n v : Int32} {f : Nat → Int32} (h : ¬ (0 ≤ a.toInt ∧ a.toInt ≤ 5 ∧ (w.toInt = -1 ∨ (0 ≤ w.toInt ∧ w.toInt < n.toInt)))) : keepF a w n f v = f := if_neg h
def rowF (a s n : Int32) (f : Nat → Int32) (v : Int32) : Nat → Int32 := if 0 ≤ a.toInt ∧ a.toInt ≤ 5 ∧ 0 ≤ s.toInt ∧ s.toInt ≤ 4 ∧ 0 ≤ n.toInt ∧ n.toInt ≤ 60 then upd f a.toNatClampNeg v else f
theorem rowF_ok {a s n v : Int32} {f : Nat → Int32} (h : 0 ≤ a.toInt ∧ a.toInt ≤ 5 ∧ 0 ≤ s.toInt ∧ s.toInt ≤ 4 ∧ 0 ≤ n.toInt ∧ n.toInt ≤ 60) : rowF a s n f v = upd f a.toNatClampNeg v := if_pos h
theorem rowF_no {a s n v : Int32} {f : Nat → Int32} (h : ¬ (0 ≤ a.toInt ∧ a.toInt ≤ 5 ∧ 0 ≤ s.toInt ∧ s.toInt ≤ 4 ∧ 0 ≤ n.toInt ∧ n.toInt ≤ 60)) : rowF a s n f v = f := if_neg h
/-- a shelf here (sort, length) and there (what lies on it, how many) -/
def shR (s l t m : Int) : Prop := (s = -1 ∧ t = -1) ∨ (s = 5 ∧ 0 ≤ t ∧ t < 50) ∨ (0 ≤ s ∧ s ≤ 4 ∧ t = 50 + s ∧ l = m)
def shRel (S L T M : Nat → Int32) : Prop := ∀ j : Nat, j < 6 → shR (S j).toInt (L j).toInt (T j).toInt (M j).toInt
theorem shRel_im {S L T M : Nat → Int32} (h : shRel S L T M) (x : Int32) : x.toInt < 0 ∨ 5 < x.toInt ∨ ((S x.toNatClampNeg).toInt = -1 ∧ (T x.toNatClampNeg).toInt = -1) ∨ ((S x.toNatClampNeg).toInt = 5 ∧ 0 ≤ (T x.toNatClampNeg).toInt ∧ (T x.toNatClampNeg).toInt < 50) ∨ (0 ≤ (S x.toNatClampNeg).toInt ∧ (S x.toNatClampNeg).toInt ≤ 4 ∧ (T x.toNatClampNeg).toInt = 50 + (S x.toNatClampNeg).toInt ∧ (L x.toNatClampNeg).toInt = (M x.toNatClampNeg).toInt) := by
  by_cases h1 : x.toInt < 0 ∨ 5 < x.toInt
  · omega
  · have h2 := ci_clamp (i := x) (by omega)
    exact Or.inr (Or.inr (h _ (by omega)))
theorem sh_keep {S L T M : Nat → Int32} (h : shRel S L T M) {a w n n' : Int32} (hn : n.toInt = n'.toInt) (hn5 : n.toInt ≤ 50) : shRel (keepF a w n S (if w.toInt = -1 then -1 else 5)) L (keepF a w n' T w) (keepF a w n' M 0) := by
  intro j hj
  unfold keepF
  rw [← hn]
  by_cases c : 0 ≤ a.toInt ∧ a.toInt ≤ 5 ∧ (w.toInt = -1 ∨ (0 ≤ w.toInt ∧ w.toInt < n.toInt))
  · rw [if_pos c, if_pos c, if_pos c]
    show shR (if j = a.toNatClampNeg then (if w.toInt = -1 then (-1 : Int32) else 5) else S j).toInt (L j).toInt (if j = a.toNatClampNeg then w else T j).toInt (if j = a.toNatClampNeg then (0 : Int32) else M j).toInt
    by_cases e : j = a.toNatClampNeg
    · rw [if_pos e, if_pos e, if_pos e]
      by_cases hw : w.toInt = -1
      · rw [if_pos hw]; exact Or.inl ⟨by decide, hw⟩
      · rw [if_neg hw]; exact Or.inr (Or.inl ⟨by decide, by omega, by omega⟩)
    · rw [if_neg e, if_neg e, if_neg e]; exact h j hj
  · rw [if_neg c, if_neg c, if_neg c]; exact h j hj
theorem sh_row {S L T M : Nat → Int32} (h : shRel S L T M) {a s n : Int32} : shRel (rowF a s n S s) (rowF a s n L n) (rowF a s n T (50 + s)) (rowF a s n M n) := by
  intro j hj
  unfold rowF
  by_cases c : 0 ≤ a.toInt ∧ a.toInt ≤ 5 ∧ 0 ≤ s.toInt ∧ s.toInt ≤ 4 ∧ 0 ≤ n.toInt ∧ n.toInt ≤ 60
  · rw [if_pos c, if_pos c, if_pos c, if_pos c]
    show shR (if j = a.toNatClampNeg then s else S j).toInt (if j = a.toNatClampNeg then n else L j).toInt (if j = a.toNatClampNeg then (50 + s : Int32) else T j).toInt (if j = a.toNatClampNeg then n else M j).toInt
    have l50 : (50 : Int32).toInt = 50 := by decide
    have hx : (50 + s : Int32).toInt = (50 : Int32).toInt + s.toInt := ci_add rfl (by omega) (by omega)
    by_cases e : j = a.toNatClampNeg
    · rw [if_pos e, if_pos e, if_pos e, if_pos e]; exact Or.inr (Or.inr ⟨by omega, by omega, by omega, rfl⟩)
    · rw [if_neg e, if_neg e, if_neg e, if_neg e]; exact h j hj
  · rw [if_neg c, if_neg c, if_neg c, if_neg c]; exact h j hj
theorem fr_hit {f g : Nat → Int32} {k j : Nat} {v : Int32} (e : g = upd f k v) (h : j = k) : (g j).toInt = v.toInt := by
  rw [e, h]; show (if k = k then v else f k).toInt = _; rw [if_pos rfl]
theorem fr_miss {f g : Nat → Int32} {k j : Nat} {v : Int32} (e : g = upd f k v) (h : j ≠ k) : (g j).toInt = (f j).toInt := by
  rw [e]; show (if j = k then v else f j).toInt = _; rw [if_neg h]
theorem fr_upd {f g : Nat → Int32} {k j : Nat} {v : Int32} (e : g = upd f k v) : (j = k ∧ (g j).toInt = v.toInt) ∨ (j ≠ k ∧ (g j).toInt = (f j).toInt) := by
  by_cases h : j = k
  · exact Or.inl ⟨h, fr_hit e h⟩
  · exact Or.inr ⟨h, fr_miss e h⟩
def addF (c : Int32) (cap : Int) (f : Nat → Int32) (v : Int32) : Nat → Int32 := if c.toInt < cap then upd f c.toNatClampNeg v else f
theorem addF_ok {c v : Int32} {cap : Int} {f : Nat → Int32} (h : c.toInt < cap) : addF c cap f v = upd f c.toNatClampNeg v := if_pos h
theorem addF_no {c v : Int32} {cap : Int} {f : Nat → Int32} (h : ¬ c.toInt < cap) : addF c cap f v = f := if_neg h
def bodyF (k c : Int32) (f : Nat → Int32) (v : Int32) : Nat → Int32 := if 0 ≤ k.toInt ∧ k.toInt ≤ 7 then addF c 50 f v else f
theorem bodyF_ok {k c v : Int32} {f : Nat → Int32} (h : 0 ≤ k.toInt ∧ k.toInt ≤ 7) : bodyF k c f v = addF c 50 f v := if_pos h
theorem bodyF_no {k c v : Int32} {f : Nat → Int32} (h : ¬ (0 ≤ k.toInt ∧ k.toInt ≤ 7)) : bodyF k c f v = f := if_neg h
theorem bodyF_congr {k c v k' c' v' : Int32} {f f' : Nat → Int32} (h1 : k.toInt = k'.toInt) (h2 : c.toInt = c'.toInt) (h3 : f = f') (h4 : v.toInt = v'.toInt) : bodyF k c f v = bodyF k' c' f' v' := by
  rw [ci_inj h1, ci_inj h2, h3, ci_inj h4]
def keepB (a w n : Int32) (f : Nat → Int32) (v : Int32) : Nat → Int32 := if 0 ≤ a.toInt ∧ a.toInt ≤ 5 ∧ 0 ≤ w.toInt ∧ w.toInt < n.toInt then upd f a.toNatClampNeg v else f
theorem keepB_ok {a w n v : Int32} {f : Nat → Int32} (h : 0 ≤ a.toInt ∧ a.toInt ≤ 5 ∧ 0 ≤ w.toInt ∧ w.toInt < n.toInt) : keepB a w n f v = upd f a.toNatClampNeg v := if_pos h
theorem keepB_no {a w n v : Int32} {f : Nat → Int32} (h : ¬ (0 ≤ a.toInt ∧ a.toInt ≤ 5 ∧ 0 ≤ w.toInt ∧ w.toInt < n.toInt)) : keepB a w n f v = f := if_neg h
/-- on each shelf that holds a body: its number is one that there is, and its kind here is that body's kind there -/
def bkRel (BK T KD : Nat → Int32) (n : Int32) : Prop := ∀ j : Nat, j < 6 → 0 ≤ (T j).toInt → (T j).toInt < 50 → (T j).toInt < n.toInt ∧ (BK j).toInt = (KD (T j).toNatClampNeg).toInt
theorem bk_im {BK T KD : Nat → Int32} {n : Int32} (h : bkRel BK T KD n) (x : Int32) : x.toInt < 0 ∨ 5 < x.toInt ∨ (T x.toNatClampNeg).toInt < 0 ∨ 50 ≤ (T x.toNatClampNeg).toInt ∨ (BK x.toNatClampNeg).toInt = (KD (T x.toNatClampNeg).toNatClampNeg).toInt := by
  by_cases h1 : x.toInt < 0 ∨ 5 < x.toInt
  · omega
  · by_cases h2 : (T x.toNatClampNeg).toInt < 0 ∨ 50 ≤ (T x.toNatClampNeg).toInt
    · omega
    · have h3 := ci_clamp (i := x) (by omega)
      exact Or.inr (Or.inr (Or.inr (Or.inr (h _ (by omega) (by omega) (by omega)).2)))
theorem bk_body {BK T KD : Nat → Int32} {n n' k v : Int32} (h : bkRel BK T KD n) (h0 : 0 ≤ n.toInt) (hn : n.toInt ≤ n'.toInt) : bkRel BK T (bodyF k n KD v) n' := by
  intro j hj h1 h2
  obtain ⟨h3, h4⟩ := h j hj h1 h2
  refine ⟨by omega, ?_⟩
  by_cases c : 0 ≤ k.toInt ∧ k.toInt ≤ 7
  · by_cases c2 : n.toInt < 50
    · rw [bodyF_ok c, addF_ok c2, h4]
      have h5 := ci_clamp (i := n) h0
      have h6 := ci_clamp (i := T j) h1
      show _ = (if (T j).toNatClampNeg = n.toNatClampNeg then v else KD (T j).toNatClampNeg).toInt
      rw [if_neg (by omega)]
    · rw [bodyF_ok c, addF_no c2, h4]
  · rw [bodyF_no c, h4]
theorem bk_keep {BK T KD : Nat → Int32} {n n' a w : Int32} (h : bkRel BK T KD n) (hn : n'.toInt = n.toInt) : bkRel (keepB a w n' BK (KD w.toNatClampNeg)) (keepF a w n T w) KD n := by
  intro j hj
  by_cases c : 0 ≤ a.toInt ∧ a.toInt ≤ 5 ∧ (w.toInt = -1 ∨ (0 ≤ w.toInt ∧ w.toInt < n.toInt))
  · rw [keepF_ok c]
    show 0 ≤ (if j = a.toNatClampNeg then w else T j).toInt → (if j = a.toNatClampNeg then w else T j).toInt < 50 → (if j = a.toNatClampNeg then w else T j).toInt < n.toInt ∧ _ = (KD (if j = a.toNatClampNeg then w else T j).toNatClampNeg).toInt
    by_cases e : j = a.toNatClampNeg
    · rw [if_pos e]
      intro h1 h2
      rw [keepB_ok (by omega)]
      refine ⟨by omega, ?_⟩
      show (if j = a.toNatClampNeg then KD w.toNatClampNeg else BK j).toInt = _
      rw [if_pos e]
    · rw [if_neg e]
      intro h1 h2
      obtain ⟨h3, h4⟩ := h j hj h1 h2
      refine ⟨h3, ?_⟩
      rw [← h4]
      by_cases c2 : 0 ≤ a.toInt ∧ a.toInt ≤ 5 ∧ 0 ≤ w.toInt ∧ w.toInt < n'.toInt
      · rw [keepB_ok c2]
        show (if j = a.toNatClampNeg then KD w.toNatClampNeg else BK j).toInt = _
        rw [if_neg e]
      · rw [keepB_no c2]
  · rw [keepF_no c, keepB_no (by omega)]
    exact h j hj
theorem bk_row {BK T KD : Nat → Int32} {n a s m : Int32} (h : bkRel BK T KD n) : bkRel BK (rowF a s m T (50 + s)) KD n := by
  intro j hj
  by_cases c : 0 ≤ a.toInt ∧ a.toInt ≤ 5 ∧ 0 ≤ s.toInt ∧ s.toInt ≤ 4 ∧ 0 ≤ m.toInt ∧ m.toInt ≤ 60
  · rw [rowF_ok c]
    have l50 : (50 : Int32).toInt = 50 := by decide
    have hx : (50 + s : Int32).toInt = (50 : Int32).toInt + s.toInt := ci_add rfl (by omega) (by omega)
    show 0 ≤ (if j = a.toNatClampNeg then (50 + s : Int32) else T j).toInt → (if j = a.toNatClampNeg then (50 + s : Int32) else T j).toInt < 50 → (if j = a.toNatClampNeg then (50 + s : Int32) else T j).toInt < n.toInt ∧ _ = (KD (if j = a.toNatClampNeg then (50 + s : Int32) else T j).toNatClampNeg).toInt
    by_cases e : j = a.toNatClampNeg
    · rw [if_pos e]
      intro h1 h2
      omega
    · rw [if_neg e]; exact h j hj
  · rw [rowF_no c]; exact h j hj
/-- a is k, or under it (kinds 0 .. 7) -/
def unB (a k : Int) : Prop := a = k ∨ k = 0 ∨ (a = 3 ∧ k = 1) ∨ (a = 4 ∧ k = 2) ∨ (a = 7 ∧ k = 6)
def unI (a c k : Int) : Prop := (0 ≤ a ∧ unB a k) ↔ unB c k
theorem un_start {a k : Int} (h : 0 ≤ a) : unI a a k := ⟨fun q => q.2, fun q => ⟨h, q⟩⟩
theorem un_up {a b k : Int} (a0 : 0 ≤ a) (a7 : a ≤ 7) (k0 : 0 ≤ k) (hne : a ≠ k) (hab : (a = 0 ∧ b = -1) ∨ (a = 3 ∧ b = 1) ∨ (a = 4 ∧ b = 2) ∨ (a = 7 ∧ b = 6) ∨ (a ≠ 0 ∧ a ≠ 3 ∧ a ≠ 4 ∧ a ≠ 7 ∧ b = 0)) : (0 ≤ b ∧ unB b k) ↔ unB a k := by
  unfold unB
  constructor
  · intro ⟨h1, h2⟩
    rcases hab with q | q | q | q | q <;> omega
  · intro h2
    rcases hab with q | q | q | q | q <;> omega
theorem un_next {a b c k : Int} (h : unI a c k) (a0 : 0 ≤ a) (a7 : a ≤ 7) (k0 : 0 ≤ k) (hne : a ≠ k) (hab : (a = 0 ∧ b = -1) ∨ (a = 3 ∧ b = 1) ∨ (a = 4 ∧ b = 2) ∨ (a = 7 ∧ b = 6) ∨ (a ≠ 0 ∧ a ≠ 3 ∧ a ≠ 4 ∧ a ≠ 7 ∧ b = 0)) : unI b c k := by
  have h1 := un_up a0 a7 k0 hne hab
  exact ⟨fun q => h.mp ⟨a0, h1.mp q⟩, fun q => h1.mpr (h.mpr q).2⟩
theorem un_hit {a c k : Int} (h : unI a c k) (a0 : 0 ≤ a) (e : a = k) : unB c k := h.mp ⟨a0, Or.inl e⟩
theorem un_end {a c k : Int} (h : unI a c k) (a0 : a < 0) : ¬ unB c k := fun q => by have := (h.mpr q).1; omega
def unJ (a c k : Int) : Prop := unB a k ↔ unB c k
theorem uj_start {a c k : Int} (h : a = c) : unJ a c k := by
  unfold unJ
  rw [h]
theorem uj_next {a b c k : Int} (h : unJ a c k) (a0 : 0 < a) (a7 : a ≤ 7) (k0 : 0 ≤ k) (hne : a ≠ k) (hab : (a = 3 ∧ b = 1) ∨ (a = 4 ∧ b = 2) ∨ (a = 7 ∧ b = 6) ∨ (a ≠ 3 ∧ a ≠ 4 ∧ a ≠ 7 ∧ b = 0)) : unJ b c k := by
  have h1 := un_up (a := a) (b := b) (k := k) (by omega) a7 k0 hne (by omega)
  have hb : 0 ≤ b := by omega
  exact ⟨fun q => h.mp (h1.mp ⟨hb, q⟩), fun q => (h1.mpr (h.mpr q)).2⟩
theorem uj_hit {a c k : Int} (h : unJ a c k) (e : a = k) : unB c k := h.mp (Or.inl e)
theorem uj_end {a c k : Int} (h : unJ a c k) (e : a ≠ k) (a0 : a = 0) (k0 : 0 ≤ k) : ¬ unB c k := fun q => by
  have q2 := h.mpr q
  unfold unB at q2
  omega
def tkI (V B A : Prop) (n r : Int) : Prop := (¬ V ∧ r = -1) ∨ (V ∧ B ∧ r = -11) ∨ (V ∧ ¬ B ∧ ¬ A ∧ r = -12) ∨ (V ∧ ¬ B ∧ A ∧ r = n)
theorem tkI_eq {V V' B B' A A' : Prop} {n n' r r' : Int} (h : tkI V B A n r) (h' : tkI V' B' A' n' r') (eV : V ↔ V') (eB : V → (B ↔ B')) (eA : V → ¬ B → (A ↔ A')) (en : V → ¬ B → A → n = n') : r = r' := by
  unfold tkI at h h'
  by_cases hV : V
  · have hV' := eV.mp hV
    by_cases hB : B
    · have hB' := (eB hV).mp hB
      rcases h with h | h | h | h
      · exact absurd hV h.1
      · rcases h' with h' | h' | h' | h'
        · exact absurd hV' h'.1
        · rw [h.2.2, h'.2.2]
        · exact absurd hB' h'.2.1
        · exact absurd hB' h'.2.1
      · exact absurd hB h.2.1
      · exact absurd hB h.2.1
    · have hB' := fun q => hB ((eB hV).mpr q)
      have eA2 := eA hV hB
      rcases h with h | h | h | h
      · exact absurd hV h.1
      · exact absurd h.2.1 hB
      · rcases h' with h' | h' | h' | h'
        · exact absurd hV' h'.1
        · exact absurd h'.2.1 hB'
        · rw [h.2.2.2, h'.2.2.2]
        · exact absurd (eA2.mpr h'.2.2.1) h.2.2.1
      · rcases h' with h' | h' | h' | h'
        · exact absurd hV' h'.1
        · exact absurd h'.2.1 hB'
        · exact absurd (eA2.mp h.2.2.1) h'.2.2.1
        · rw [h.2.2.2, h'.2.2.2, en hV hB h.2.2.1]
  · have hV' : ¬ V' := fun q => hV (eV.mpr q)
    rcases h with h | h | h | h
    · rcases h' with h' | h' | h' | h'
      · rw [h.2, h'.2]
      · exact absurd h'.1 hV'
      · exact absurd h'.1 hV'
      · exact absurd h'.1 hV'
    · exact absurd h.1 hV
    · exact absurd h.1 hV
    · exact absurd h.1 hV
set_option maxHeartbeats 4000000 in
set_option maxRecDepth 100000 in
theorem k_X11_within (l : Launch) (D : va_G) (κ : Nat → ClassId) (β : Nat) (sz : Nat) (p1 : Int32) (p2 : Int32) (p3 : Int32) : Met l yX11_within wsX11_within ({ frames := 0, cells := 0, slots := 0, locals := 0 } : Room) (PcK D κ β [] sz [.int p1, .int p2, .int p3]) (QiK D (fun (r : Int32) (u : Unit) => (r.toInt = 1 ∧ p2.toInt ≤ p1.toInt ∧ p1.toInt ≤ p3.toInt) ∨ (r.toInt = 0 ∧ (p1.toInt < p2.toInt ∨ p3.toInt < p1.toInt))) (fun (u : Unit) => []) [] sz) 0 0 (va_A [] sz) := by
  refine ofK_z (cc := cX11_within) (maxL := 3) (own := RX11) (by decide) rfl rfl (Nat.le_of_ble_eq_true rfl) ?_
  intro p e s m args below meth c Q A ls hsz hx hb hml hts hown hK hA hAB hP hD hl ret
  have hS : va_S A s.heap s.heap [] := va_S.rf
  have hl : lv_has ls 3 [(0, .int p1), (1, .int p2), (2, .int p3)] := hl
  have l0 : (0 : Int32).toInt = 0 := by decide
  have l1 : (1 : Int32).toInt = 1 := by decide
  refine lv_iload_n hx hb dX11_within_0 rfl (lv_at hl 1 rfl) ?_
  refine lv_iload_n hx hb dX11_within_1 rfl (lv_at hl 0 rfl) ?_
  refine lv_icmp_gt (tgt := 14) hx hb dX11_within_2 (by decide) (fun c1 => ?_) (fun c1 => ?_)
  · have c1 := ci_lt c1
    refine lv_iconst (v := 0) hx hb dX11_within_14 (by decide) ?_
    have hpo : ((0 : Int32).toInt = 1 ∧ p2.toInt ≤ p1.toInt ∧ p1.toInt ≤ p3.toInt) ∨ ((0 : Int32).toInt = 0 ∧ (p1.toInt < p2.toInt ∨ p3.toInt < p1.toInt)) := (by omega)
    exact ret _ _ _ _ 0 () dX11_within_15 (by omega) hpo hP hD hS
  have c1 := ci_nlt c1
  refine lv_iload_n hx hb dX11_within_5 rfl (lv_at hl 0 rfl) ?_
  refine lv_iload_n hx hb dX11_within_6 rfl (lv_at hl 2 rfl) ?_
  refine lv_icmp_gt (tgt := 14) hx hb dX11_within_7 (by decide) (fun c2 => ?_) (fun c2 => ?_)
  · have c2 := ci_lt c2
    refine lv_iconst (v := 0) hx hb dX11_within_14 (by decide) ?_
    have hpo : ((0 : Int32).toInt = 1 ∧ p2.toInt ≤ p1.toInt ∧ p1.toInt ≤ p3.toInt) ∨ ((0 : Int32).toInt = 0 ∧ (p1.toInt < p2.toInt ∨ p3.toInt < p1.toInt)) := (by omega)
    exact ret _ _ _ _ 0 () dX11_within_15 (by omega) hpo hP hD hS
  have c2 := ci_nlt c2
  refine lv_iconst (v := 1) hx hb dX11_within_10 (by decide) ?_
  refine lv_goto (tgt := 15) hx hb dX11_within_11 (by decide) ?_
  have hpo : ((1 : Int32).toInt = 1 ∧ p2.toInt ≤ p1.toInt ∧ p1.toInt ≤ p3.toInt) ∨ ((1 : Int32).toInt = 0 ∧ (p1.toInt < p2.toInt ∨ p3.toInt < p1.toInt)) := (by omega)
  exact ret _ _ _ _ 1 () dX11_within_15 (by omega) hpo hP hD hS
set_option maxHeartbeats 4000000 in
set_option maxRecDepth 100000 in
theorem k_X11_isYear (l : Launch) (D : va_G) (κ : Nat → ClassId) (β : Nat) (sz : Nat) (p1 : Int32) : Met l yX11_isYear wsX11_isYear ({ frames := 1, cells := 0, slots := 0, locals := 22 } : Room) (PcK D κ β [] sz [.int p1]) (QiK D (fun (r : Int32) (u : Unit) => (r.toInt = 1 ∧ 0 ≤ p1.toInt ∧ p1.toInt ≤ 2000) ∨ (r.toInt = 0 ∧ (p1.toInt < 0 ∨ 2000 < p1.toInt))) (fun (u : Unit) => []) [] sz) 0 0 (va_A [] sz) := by
  refine ofK_z (cc := cX11_isYear) (maxL := 1) (own := RX11) (by decide) rfl rfl (Nat.le_of_ble_eq_true rfl) ?_
  intro p e s m args below meth c Q A ls hsz hx hb hml hts hown hK hA hAB hP hD hl ret
  have hS : va_S A s.heap s.heap [] := va_S.rf
  have hl : lv_has ls 1 [(0, .int p1)] := hl
  have l0 : (0 : Int32).toInt = 0 := by decide
  have l1 : (2000 : Int32).toInt = 2000 := by decide
  refine lv_iload_n hx hb dX11_isYear_0 rfl (lv_at hl 0 rfl) ?_
  refine lv_iconst (v := 0) hx hb dX11_isYear_1 (by decide) ?_
  refine lv_sipush (v := 2000) hx hb dX11_isYear_2 (by decide) ?_
  refine kcm_i hA hAB hP hD hS [] rfl (fun _ => rfl) (fun hPc hDc => va_runS (As := [.int p1, .int 0, .int 2000]) (rest := []) ⟨hx, hb, hml, hown, hts⟩ (k_X11_within l D κ β s.heap.size p1 0 2000) (va_cwS 3 hts gX11_isYear_X11_within rfl rfl rfl (by decide +kernel) ⟨Nat.le_of_ble_eq_true rfl, Nat.le_of_ble_eq_true rfl⟩) (pk_S hK hS hAB hPc hDc) rfl rfl hl.1 rfl (lv_room (Nat.le_of_ble_eq_true rfl)) dX11_isYear_5 ⟨Nat.le_of_ble_eq_true rfl, Nat.le_of_ble_eq_true rfl⟩) (fun x1 u2 H locs hw hPD hS => ?_)
  have h3 : (x1.toInt = 1 ∧ (0 : Int32).toInt ≤ p1.toInt ∧ p1.toInt ≤ (2000 : Int32).toInt) ∨ (x1.toInt = 0 ∧ (p1.toInt < (0 : Int32).toInt ∨ (2000 : Int32).toInt < p1.toInt)) := hw
  obtain ⟨hP, hD⟩ : PD D A [] H := hPD
  have hpo : (x1.toInt = 1 ∧ 0 ≤ p1.toInt ∧ p1.toInt ≤ 2000) ∨ (x1.toInt = 0 ∧ (p1.toInt < 0 ∨ 2000 < p1.toInt)) := (by omega)
  exact ret _ _ _ _ x1 () dX11_isYear_8 (by omega) hpo hP hD hS
set_option maxHeartbeats 4000000 in
set_option maxRecDepth 100000 in
theorem k_X11_isSlack (l : Launch) (D : va_G) (κ : Nat → ClassId) (β : Nat) (sz : Nat) (p1 : Int32) : Met l yX11_isSlack wsX11_isSlack ({ frames := 1, cells := 0, slots := 0, locals := 22 } : Room) (PcK D κ β [] sz [.int p1]) (QiK D (fun (r : Int32) (u : Unit) => (r.toInt = 1 ∧ 0 ≤ p1.toInt ∧ p1.toInt ≤ 99) ∨ (r.toInt = 0 ∧ (p1.toInt < 0 ∨ 99 < p1.toInt))) (fun (u : Unit) => []) [] sz) 0 0 (va_A [] sz) := by
  refine ofK_z (cc := cX11_isSlack) (maxL := 1) (own := RX11) (by decide) rfl rfl (Nat.le_of_ble_eq_true rfl) ?_
  intro p e s m args below meth c Q A ls hsz hx hb hml hts hown hK hA hAB hP hD hl ret
  have hS : va_S A s.heap s.heap [] := va_S.rf
  have hl : lv_has ls 1 [(0, .int p1)] := hl
  have l0 : (0 : Int32).toInt = 0 := by decide
  have l1 : (99 : Int32).toInt = 99 := by decide
  refine lv_iload_n hx hb dX11_isSlack_0 rfl (lv_at hl 0 rfl) ?_
  refine lv_iconst (v := 0) hx hb dX11_isSlack_1 (by decide) ?_
  refine lv_bipush (v := 99) hx hb dX11_isSlack_2 (by decide) ?_
  refine kcm_i hA hAB hP hD hS [] rfl (fun _ => rfl) (fun hPc hDc => va_runS (As := [.int p1, .int 0, .int 99]) (rest := []) ⟨hx, hb, hml, hown, hts⟩ (k_X11_within l D κ β s.heap.size p1 0 99) (va_cwS 3 hts gX11_isSlack_X11_within rfl rfl rfl (by decide +kernel) ⟨Nat.le_of_ble_eq_true rfl, Nat.le_of_ble_eq_true rfl⟩) (pk_S hK hS hAB hPc hDc) rfl rfl hl.1 rfl (lv_room (Nat.le_of_ble_eq_true rfl)) dX11_isSlack_4 ⟨Nat.le_of_ble_eq_true rfl, Nat.le_of_ble_eq_true rfl⟩) (fun x1 u2 H locs hw hPD hS => ?_)
  have h3 : (x1.toInt = 1 ∧ (0 : Int32).toInt ≤ p1.toInt ∧ p1.toInt ≤ (99 : Int32).toInt) ∨ (x1.toInt = 0 ∧ (p1.toInt < (0 : Int32).toInt ∨ (99 : Int32).toInt < p1.toInt)) := hw
  obtain ⟨hP, hD⟩ : PD D A [] H := hPD
  have hpo : (x1.toInt = 1 ∧ 0 ≤ p1.toInt ∧ p1.toInt ≤ 99) ∨ (x1.toInt = 0 ∧ (p1.toInt < 0 ∨ 99 < p1.toInt)) := (by omega)
  exact ret _ _ _ _ x1 () dX11_isSlack_7 (by omega) hpo hP hD hS
set_option maxHeartbeats 4000000 in
set_option maxRecDepth 100000 in
theorem k_X11_isBit (l : Launch) (D : va_G) (κ : Nat → ClassId) (β : Nat) (sz : Nat) (p1 : Int32) : Met l yX11_isBit wsX11_isBit ({ frames := 0, cells := 0, slots := 0, locals := 0 } : Room) (PcK D κ β [] sz [.int p1]) (QiK D (fun (r : Int32) (u : Unit) => (r.toInt = 1 ∧ 0 ≤ p1.toInt ∧ p1.toInt ≤ 1) ∨ (r.toInt = 0 ∧ (p1.toInt < 0 ∨ 1 < p1.toInt))) (fun (u : Unit) => []) [] sz) 0 0 (va_A [] sz) := by
  refine ofK_z (cc := cX11_isBit) (maxL := 1) (own := RX11) (by decide) rfl rfl (Nat.le_of_ble_eq_true rfl) ?_
  intro p e s m args below meth c Q A ls hsz hx hb hml hts hown hK hA hAB hP hD hl ret
  have hS : va_S A s.heap s.heap [] := va_S.rf
  have hl : lv_has ls 1 [(0, .int p1)] := hl
  have l0 : (0 : Int32).toInt = 0 := by decide
  have l1 : (1 : Int32).toInt = 1 := by decide
  refine lv_iload_n hx hb dX11_isBit_0 rfl (lv_at hl 0 rfl) ?_
  refine lv_if_eq (tgt := 9) hx hb dX11_isBit_1 (by decide) (fun c1 => ?_) (fun c1 => ?_)
  · have c1 := ci_eq c1
    refine lv_iconst (v := 1) hx hb dX11_isBit_9 (by decide) ?_
    refine lv_goto (tgt := 14) hx hb dX11_isBit_10 (by decide) ?_
    have hpo : ((1 : Int32).toInt = 1 ∧ 0 ≤ p1.toInt ∧ p1.toInt ≤ 1) ∨ ((1 : Int32).toInt = 0 ∧ (p1.toInt < 0 ∨ 1 < p1.toInt)) := (by omega)
    exact ret _ _ _ _ 1 () dX11_isBit_14 (by omega) hpo hP hD hS
  have c1 := ci_ne c1
  refine lv_iload_n hx hb dX11_isBit_4 rfl (lv_at hl 0 rfl) ?_
  refine lv_iconst (v := 1) hx hb dX11_isBit_5 (by decide) ?_
  refine lv_icmp_ne (tgt := 13) hx hb dX11_isBit_6 (by decide) (fun c2 => ?_) (fun c2 => ?_)
  · have c2 := ci_ne c2
    refine lv_iconst (v := 0) hx hb dX11_isBit_13 (by decide) ?_
    have hpo : ((0 : Int32).toInt = 1 ∧ 0 ≤ p1.toInt ∧ p1.toInt ≤ 1) ∨ ((0 : Int32).toInt = 0 ∧ (p1.toInt < 0 ∨ 1 < p1.toInt)) := (by omega)
    exact ret _ _ _ _ 0 () dX11_isBit_14 (by omega) hpo hP hD hS
  have c2 := ci_eq c2
  refine lv_iconst (v := 1) hx hb dX11_isBit_9 (by decide) ?_
  refine lv_goto (tgt := 14) hx hb dX11_isBit_10 (by decide) ?_
  have hpo : ((1 : Int32).toInt = 1 ∧ 0 ≤ p1.toInt ∧ p1.toInt ≤ 1) ∨ ((1 : Int32).toInt = 0 ∧ (p1.toInt < 0 ∨ 1 < p1.toInt)) := (by omega)
  exact ret _ _ _ _ 1 () dX11_isBit_14 (by omega) hpo hP hD hS
set_option maxHeartbeats 4000000 in
set_option maxRecDepth 100000 in
theorem k_X11_asBit (l : Launch) (D : va_G) (κ : Nat → ClassId) (β : Nat) (sz : Nat) (p1 : Int32) : Met l yX11_asBit wsX11_asBit ({ frames := 0, cells := 0, slots := 0, locals := 0 } : Room) (PcK D κ β [] sz [.int p1]) (QiK D (fun (r : Int32) (u : Unit) => (r.toInt = 1 ∧ p1.toInt ≠ 0) ∨ (r.toInt = 0 ∧ p1.toInt = 0)) (fun (u : Unit) => []) [] sz) 0 0 (va_A [] sz) := by
  refine ofK_i (cc := cX11_asBit) (maxL := 1) (own := RX11) (by decide) rfl rfl (Nat.le_of_ble_eq_true rfl) ?_
  intro p e s m args below meth c Q A ls hsz hx hb hml hts hown hK hA hAB hP hD hl ret
  have hS : va_S A s.heap s.heap [] := va_S.rf
  have hl : lv_has ls 1 [(0, .int p1)] := hl
  have l0 : (0 : Int32).toInt = 0 := by decide
  have l1 : (1 : Int32).toInt = 1 := by decide
  refine lv_iload_n hx hb dX11_asBit_0 rfl (lv_at hl 0 rfl) ?_
  refine lv_if_eq (tgt := 8) hx hb dX11_asBit_1 (by decide) (fun c1 => ?_) (fun c1 => ?_)
  · have c1 := ci_eq c1
    refine lv_iconst (v := 0) hx hb dX11_asBit_8 (by decide) ?_
    have hpo : ((0 : Int32).toInt = 1 ∧ p1.toInt ≠ 0) ∨ ((0 : Int32).toInt = 0 ∧ p1.toInt = 0) := (by omega)
    exact ret _ _ _ _ 0 () dX11_asBit_9 hpo hP hD hS
  have c1 := ci_ne c1
  refine lv_iconst (v := 1) hx hb dX11_asBit_4 (by decide) ?_
  refine lv_goto (tgt := 9) hx hb dX11_asBit_5 (by decide) ?_
  have hpo : ((1 : Int32).toInt = 1 ∧ p1.toInt ≠ 0) ∨ ((1 : Int32).toInt = 0 ∧ p1.toInt = 0) := (by omega)
  exact ret _ _ _ _ 1 () dX11_asBit_9 hpo hP hD hS
set_option maxHeartbeats 4000000 in
set_option maxRecDepth 100000 in
theorem k_X11_isInk (l : Launch) (D : va_G) (κ : Nat → ClassId) (β : Nat) (sz : Nat) (p1 : Int32) : Met l yX11_isInk wsX11_isInk ({ frames := 1, cells := 0, slots := 0, locals := 22 } : Room) (PcK D κ β [] sz [.int p1]) (QiK D (fun (r : Int32) (u : Unit) => (r.toInt = 1 ∧ 0 ≤ p1.toInt ∧ p1.toInt ≤ 5) ∨ (r.toInt = 0 ∧ (p1.toInt < 0 ∨ 5 < p1.toInt))) (fun (u : Unit) => []) [] sz) 0 0 (va_A [] sz) := by
  refine ofK_z (cc := cX11_isInk) (maxL := 1) (own := RX11) (by decide) rfl rfl (Nat.le_of_ble_eq_true rfl) ?_
  intro p e s m args below meth c Q A ls hsz hx hb hml hts hown hK hA hAB hP hD hl ret
  have hS : va_S A s.heap s.heap [] := va_S.rf
  have hl : lv_has ls 1 [(0, .int p1)] := hl
  have l0 : (0 : Int32).toInt = 0 := by decide
  have l1 : (5 : Int32).toInt = 5 := by decide
  refine lv_iload_n hx hb dX11_isInk_0 rfl (lv_at hl 0 rfl) ?_
  refine lv_iconst (v := 0) hx hb dX11_isInk_1 (by decide) ?_
  refine lv_iconst (v := 5) hx hb dX11_isInk_2 (by decide) ?_
  refine kcm_i hA hAB hP hD hS [] rfl (fun _ => rfl) (fun hPc hDc => va_runS (As := [.int p1, .int 0, .int 5]) (rest := []) ⟨hx, hb, hml, hown, hts⟩ (k_X11_within l D κ β s.heap.size p1 0 5) (va_cwS 3 hts gX11_isInk_X11_within rfl rfl rfl (by decide +kernel) ⟨Nat.le_of_ble_eq_true rfl, Nat.le_of_ble_eq_true rfl⟩) (pk_S hK hS hAB hPc hDc) rfl rfl hl.1 rfl (lv_room (Nat.le_of_ble_eq_true rfl)) dX11_isInk_3 ⟨Nat.le_of_ble_eq_true rfl, Nat.le_of_ble_eq_true rfl⟩) (fun x1 u2 H locs hw hPD hS => ?_)
  have h3 : (x1.toInt = 1 ∧ (0 : Int32).toInt ≤ p1.toInt ∧ p1.toInt ≤ (5 : Int32).toInt) ∨ (x1.toInt = 0 ∧ (p1.toInt < (0 : Int32).toInt ∨ (5 : Int32).toInt < p1.toInt)) := hw
  obtain ⟨hP, hD⟩ : PD D A [] H := hPD
  have hpo : (x1.toInt = 1 ∧ 0 ≤ p1.toInt ∧ p1.toInt ≤ 5) ∨ (x1.toInt = 0 ∧ (p1.toInt < 0 ∨ 5 < p1.toInt)) := (by omega)
  exact ret _ _ _ _ x1 () dX11_isInk_6 (by omega) hpo hP hD hS
set_option maxHeartbeats 4000000 in
set_option maxRecDepth 100000 in
theorem k_X11_isStuff (l : Launch) (D : va_G) (κ : Nat → ClassId) (β : Nat) (sz : Nat) (p1 : Int32) : Met l yX11_isStuff wsX11_isStuff ({ frames := 1, cells := 0, slots := 0, locals := 22 } : Room) (PcK D κ β [] sz [.int p1]) (QiK D (fun (r : Int32) (u : Unit) => (r.toInt = 1 ∧ 0 ≤ p1.toInt ∧ p1.toInt ≤ 9999) ∨ (r.toInt = 0 ∧ (p1.toInt < 0 ∨ 9999 < p1.toInt))) (fun (u : Unit) => []) [] sz) 0 0 (va_A [] sz) := by
  refine ofK_z (cc := cX11_isStuff) (maxL := 1) (own := RX11) (by decide) rfl rfl (Nat.le_of_ble_eq_true rfl) ?_
  intro p e s m args below meth c Q A ls hsz hx hb hml hts hown hK hA hAB hP hD hl ret
  have hS : va_S A s.heap s.heap [] := va_S.rf
  have hl : lv_has ls 1 [(0, .int p1)] := hl
  have l0 : (0 : Int32).toInt = 0 := by decide
  have l1 : (9999 : Int32).toInt = 9999 := by decide
  refine lv_iload_n hx hb dX11_isStuff_0 rfl (lv_at hl 0 rfl) ?_
  refine lv_iconst (v := 0) hx hb dX11_isStuff_1 (by decide) ?_
  refine lv_sipush (v := 9999) hx hb dX11_isStuff_2 (by decide) ?_
  refine kcm_i hA hAB hP hD hS [] rfl (fun _ => rfl) (fun hPc hDc => va_runS (As := [.int p1, .int 0, .int 9999]) (rest := []) ⟨hx, hb, hml, hown, hts⟩ (k_X11_within l D κ β s.heap.size p1 0 9999) (va_cwS 3 hts gX11_isStuff_X11_within rfl rfl rfl (by decide +kernel) ⟨Nat.le_of_ble_eq_true rfl, Nat.le_of_ble_eq_true rfl⟩) (pk_S hK hS hAB hPc hDc) rfl rfl hl.1 rfl (lv_room (Nat.le_of_ble_eq_true rfl)) dX11_isStuff_5 ⟨Nat.le_of_ble_eq_true rfl, Nat.le_of_ble_eq_true rfl⟩) (fun x1 u2 H locs hw hPD hS => ?_)
  have h3 : (x1.toInt = 1 ∧ (0 : Int32).toInt ≤ p1.toInt ∧ p1.toInt ≤ (9999 : Int32).toInt) ∨ (x1.toInt = 0 ∧ (p1.toInt < (0 : Int32).toInt ∨ (9999 : Int32).toInt < p1.toInt)) := hw
  obtain ⟨hP, hD⟩ : PD D A [] H := hPD
  have hpo : (x1.toInt = 1 ∧ 0 ≤ p1.toInt ∧ p1.toInt ≤ 9999) ∨ (x1.toInt = 0 ∧ (p1.toInt < 0 ∨ 9999 < p1.toInt)) := (by omega)
  exact ret _ _ _ _ x1 () dX11_isStuff_8 (by omega) hpo hP hD hS
set_option maxHeartbeats 4000000 in
set_option maxRecDepth 100000 in
theorem k_X11_isPrior (l : Launch) (D : va_G) (κ : Nat → ClassId) (β : Nat) (sz : Nat) (p1 : Int32) : Met l yX11_isPrior wsX11_isPrior ({ frames := 1, cells := 0, slots := 0, locals := 22 } : Room) (PcK D κ β [] sz [.int p1]) (QiK D (fun (r : Int32) (u : Unit) => (r.toInt = 1 ∧ 1 ≤ p1.toInt ∧ p1.toInt ≤ 99) ∨ (r.toInt = 0 ∧ (p1.toInt < 1 ∨ 99 < p1.toInt))) (fun (u : Unit) => []) [] sz) 0 0 (va_A [] sz) := by
  refine ofK_z (cc := cX11_isPrior) (maxL := 1) (own := RX11) (by decide) rfl rfl (Nat.le_of_ble_eq_true rfl) ?_
  intro p e s m args below meth c Q A ls hsz hx hb hml hts hown hK hA hAB hP hD hl ret
  have hS : va_S A s.heap s.heap [] := va_S.rf
  have hl : lv_has ls 1 [(0, .int p1)] := hl
  have l0 : (1 : Int32).toInt = 1 := by decide
  have l1 : (99 : Int32).toInt = 99 := by decide
  refine lv_iload_n hx hb dX11_isPrior_0 rfl (lv_at hl 0 rfl) ?_
  refine lv_iconst (v := 1) hx hb dX11_isPrior_1 (by decide) ?_
  refine lv_bipush (v := 99) hx hb dX11_isPrior_2 (by decide) ?_
  refine kcm_i hA hAB hP hD hS [] rfl (fun _ => rfl) (fun hPc hDc => va_runS (As := [.int p1, .int 1, .int 99]) (rest := []) ⟨hx, hb, hml, hown, hts⟩ (k_X11_within l D κ β s.heap.size p1 1 99) (va_cwS 3 hts gX11_isPrior_X11_within rfl rfl rfl (by decide +kernel) ⟨Nat.le_of_ble_eq_true rfl, Nat.le_of_ble_eq_true rfl⟩) (pk_S hK hS hAB hPc hDc) rfl rfl hl.1 rfl (lv_room (Nat.le_of_ble_eq_true rfl)) dX11_isPrior_4 ⟨Nat.le_of_ble_eq_true rfl, Nat.le_of_ble_eq_true rfl⟩) (fun x1 u2 H locs hw hPD hS => ?_)
  have h3 : (x1.toInt = 1 ∧ (1 : Int32).toInt ≤ p1.toInt ∧ p1.toInt ≤ (99 : Int32).toInt) ∨ (x1.toInt = 0 ∧ (p1.toInt < (1 : Int32).toInt ∨ (99 : Int32).toInt < p1.toInt)) := hw
  obtain ⟨hP, hD⟩ : PD D A [] H := hPD
  have hpo : (x1.toInt = 1 ∧ 1 ≤ p1.toInt ∧ p1.toInt ≤ 99) ∨ (x1.toInt = 0 ∧ (p1.toInt < 1 ∨ 99 < p1.toInt)) := (by omega)
  exact ret _ _ _ _ x1 () dX11_isPrior_7 (by omega) hpo hP hD hS
set_option maxHeartbeats 4000000 in
set_option maxRecDepth 100000 in
theorem k_X11_isDot (l : Launch) (D : va_G) (κ : Nat → ClassId) (β : Nat) (sz : Nat) (p1 : Int32) (p2 : Int32) (p3 : Int32) : Met l yX11_isDot wsX11_isDot ({ frames := 2, cells := 0, slots := 0, locals := 42 } : Room) (PcK D κ β [] sz [.int p1, .int p2, .int p3]) (QiK D (fun (r : Int32) (u : Unit) => (r.toInt = 1 ∧ 0 ≤ p1.toInt ∧ p1.toInt ≤ 4 ∧ 0 ≤ p2.toInt ∧ p2.toInt ≤ 7 ∧ 0 ≤ p3.toInt ∧ p3.toInt ≤ 9999) ∨ (r.toInt = 0 ∧ (p1.toInt < 0 ∨ 4 < p1.toInt ∨ p2.toInt < 0 ∨ 7 < p2.toInt ∨ p3.toInt < 0 ∨ 9999 < p3.toInt))) (fun (u : Unit) => []) [] sz) 0 0 (va_A [] sz) := by
  refine ofK_z (cc := cX11_isDot) (maxL := 3) (own := RX11) (by decide) rfl rfl (Nat.le_of_ble_eq_true rfl) ?_
  intro p e s m args below meth c Q A ls hsz hx hb hml hts hown hK hA hAB hP hD hl ret
  have hS : va_S A s.heap s.heap [] := va_S.rf
  have hl : lv_has ls 3 [(0, .int p1), (1, .int p2), (2, .int p3)] := hl
  have l0 : (0 : Int32).toInt = 0 := by decide
  have l1 : (4 : Int32).toInt = 4 := by decide
  have l2 : (7 : Int32).toInt = 7 := by decide
  have l3 : (1 : Int32).toInt = 1 := by decide
  refine lv_iload_n hx hb dX11_isDot_0 rfl (lv_at hl 0 rfl) ?_
  refine lv_iconst (v := 0) hx hb dX11_isDot_1 (by decide) ?_
  refine lv_iconst (v := 4) hx hb dX11_isDot_2 (by decide) ?_
  refine kcm_i hA hAB hP hD hS [] rfl (fun _ => rfl) (fun hPc hDc => va_runS (As := [.int p1, .int 0, .int 4]) (rest := []) ⟨hx, hb, hml, hown, hts⟩ (k_X11_within l D κ β s.heap.size p1 0 4) (va_cwS 3 hts gX11_isDot_X11_within rfl rfl rfl (by decide +kernel) ⟨Nat.le_of_ble_eq_true rfl, Nat.le_of_ble_eq_true rfl⟩) (pk_S hK hS hAB hPc hDc) rfl rfl hl.1 rfl (lv_room (Nat.le_of_ble_eq_true rfl)) dX11_isDot_3 ⟨Nat.le_of_ble_eq_true rfl, Nat.le_of_ble_eq_true rfl⟩) (fun x1 u2 H locs hw hPD hS => ?_)
  have h3 : (x1.toInt = 1 ∧ (0 : Int32).toInt ≤ p1.toInt ∧ p1.toInt ≤ (4 : Int32).toInt) ∨ (x1.toInt = 0 ∧ (p1.toInt < (0 : Int32).toInt ∨ (4 : Int32).toInt < p1.toInt)) := hw
  obtain ⟨hP, hD⟩ : PD D A [] H := hPD
  refine lv_if_eq (tgt := 30) hx hb dX11_isDot_6 (by decide) (fun c4 => ?_) (fun c4 => ?_)
  · have c4 := ci_eq c4
    refine lv_iconst (v := 0) hx hb dX11_isDot_30 (by decide) ?_
    have hpo : ((0 : Int32).toInt = 1 ∧ 0 ≤ p1.toInt ∧ p1.toInt ≤ 4 ∧ 0 ≤ p2.toInt ∧ p2.toInt ≤ 7 ∧ 0 ≤ p3.toInt ∧ p3.toInt ≤ 9999) ∨ ((0 : Int32).toInt = 0 ∧ (p1.toInt < 0 ∨ 4 < p1.toInt ∨ p2.toInt < 0 ∨ 7 < p2.toInt ∨ p3.toInt < 0 ∨ 9999 < p3.toInt)) := (by omega)
    exact ret _ _ _ _ 0 () dX11_isDot_31 (by omega) hpo hP hD hS
  have c4 := ci_ne c4
  refine lv_iload_n hx hb dX11_isDot_9 rfl (lv_at hl 1 rfl) ?_
  refine lv_iconst (v := 0) hx hb dX11_isDot_10 (by decide) ?_
  refine lv_bipush (v := 7) hx hb dX11_isDot_11 (by decide) ?_
  refine kcm_i hA hAB hP hD hS [] rfl (fun _ => rfl) (fun hPc hDc => va_runS (As := [.int p2, .int 0, .int 7]) (rest := []) ⟨hx, hb, hml, hown, hts⟩ (k_X11_within l D κ β H.size p2 0 7) (va_cwS 3 hts gX11_isDot_X11_within rfl rfl rfl (by decide +kernel) ⟨Nat.le_of_ble_eq_true rfl, Nat.le_of_ble_eq_true rfl⟩) (pk_S hK hS hAB hPc hDc) rfl rfl hl.1 rfl (lv_room (Nat.le_of_ble_eq_true rfl)) dX11_isDot_13 ⟨Nat.le_of_ble_eq_true rfl, Nat.le_of_ble_eq_true rfl⟩) (fun x5 u6 H locs hw hPD hS => ?_)
  have h7 : (x5.toInt = 1 ∧ (0 : Int32).toInt ≤ p2.toInt ∧ p2.toInt ≤ (7 : Int32).toInt) ∨ (x5.toInt = 0 ∧ (p2.toInt < (0 : Int32).toInt ∨ (7 : Int32).toInt < p2.toInt)) := hw
  obtain ⟨hP, hD⟩ : PD D A [] H := hPD
  refine lv_if_eq (tgt := 30) hx hb dX11_isDot_16 (by decide) (fun c8 => ?_) (fun c8 => ?_)
  · have c8 := ci_eq c8
    refine lv_iconst (v := 0) hx hb dX11_isDot_30 (by decide) ?_
    have hpo : ((0 : Int32).toInt = 1 ∧ 0 ≤ p1.toInt ∧ p1.toInt ≤ 4 ∧ 0 ≤ p2.toInt ∧ p2.toInt ≤ 7 ∧ 0 ≤ p3.toInt ∧ p3.toInt ≤ 9999) ∨ ((0 : Int32).toInt = 0 ∧ (p1.toInt < 0 ∨ 4 < p1.toInt ∨ p2.toInt < 0 ∨ 7 < p2.toInt ∨ p3.toInt < 0 ∨ 9999 < p3.toInt)) := (by omega)
    exact ret _ _ _ _ 0 () dX11_isDot_31 (by omega) hpo hP hD hS
  have c8 := ci_ne c8
  refine lv_iload_n hx hb dX11_isDot_19 rfl (lv_at hl 2 rfl) ?_
  refine kcm_i hA hAB hP hD hS [] rfl (fun _ => rfl) (fun hPc hDc => va_runS (As := [.int p3]) (rest := []) ⟨hx, hb, hml, hown, hts⟩ (k_X11_isStuff l D κ β H.size p3) (va_cwS 1 hts gX11_isDot_X11_isStuff rfl rfl rfl (by decide +kernel) ⟨Nat.le_of_ble_eq_true rfl, Nat.le_of_ble_eq_true rfl⟩) (pk_S hK hS hAB hPc hDc) rfl rfl hl.1 rfl (lv_room (Nat.le_of_ble_eq_true rfl)) dX11_isDot_20 ⟨Nat.le_of_ble_eq_true rfl, Nat.le_of_ble_eq_true rfl⟩) (fun x9 u10 H locs hw hPD hS => ?_)
  have h11 : (x9.toInt = 1 ∧ 0 ≤ p3.toInt ∧ p3.toInt ≤ 9999) ∨ (x9.toInt = 0 ∧ (p3.toInt < 0 ∨ 9999 < p3.toInt)) := hw
  obtain ⟨hP, hD⟩ : PD D A [] H := hPD
  refine lv_if_eq (tgt := 30) hx hb dX11_isDot_23 (by decide) (fun c12 => ?_) (fun c12 => ?_)
  · have c12 := ci_eq c12
    refine lv_iconst (v := 0) hx hb dX11_isDot_30 (by decide) ?_
    have hpo : ((0 : Int32).toInt = 1 ∧ 0 ≤ p1.toInt ∧ p1.toInt ≤ 4 ∧ 0 ≤ p2.toInt ∧ p2.toInt ≤ 7 ∧ 0 ≤ p3.toInt ∧ p3.toInt ≤ 9999) ∨ ((0 : Int32).toInt = 0 ∧ (p1.toInt < 0 ∨ 4 < p1.toInt ∨ p2.toInt < 0 ∨ 7 < p2.toInt ∨ p3.toInt < 0 ∨ 9999 < p3.toInt)) := (by omega)
    exact ret _ _ _ _ 0 () dX11_isDot_31 (by omega) hpo hP hD hS
  have c12 := ci_ne c12
  refine lv_iconst (v := 1) hx hb dX11_isDot_26 (by decide) ?_
  refine lv_goto (tgt := 31) hx hb dX11_isDot_27 (by decide) ?_
  have hpo : ((1 : Int32).toInt = 1 ∧ 0 ≤ p1.toInt ∧ p1.toInt ≤ 4 ∧ 0 ≤ p2.toInt ∧ p2.toInt ≤ 7 ∧ 0 ≤ p3.toInt ∧ p3.toInt ≤ 9999) ∨ ((1 : Int32).toInt = 0 ∧ (p1.toInt < 0 ∨ 4 < p1.toInt ∨ p2.toInt < 0 ∨ 7 < p2.toInt ∨ p3.toInt < 0 ∨ 9999 < p3.toInt)) := (by omega)
  exact ret _ _ _ _ 1 () dX11_isDot_31 (by omega) hpo hP hD hS
set_option maxHeartbeats 4000000 in
set_option maxRecDepth 100000 in
theorem k_X11_hasBit (l : Launch) (D : va_G) (κ : Nat → ClassId) (β : Nat) (sz : Nat) (p1 : Int32) (p2 : Int32) : Met l yX11_hasBit wsX11_hasBit ({ frames := 0, cells := 0, slots := 0, locals := 0 } : Room) (PcK D κ β [] sz [.int p1, .int p2]) (QiK D (fun (r : Int32) (u : Unit) => r.toInt = 0 ∨ r.toInt = 1) (fun (u : Unit) => []) [] sz) 0 0 (va_A [] sz) := by
  refine ofK_z (cc := cX11_hasBit) (maxL := 2) (own := RX11) (by decide) rfl rfl (Nat.le_of_ble_eq_true rfl) ?_
  intro p e s m args below meth c Q A ls hsz hx hb hml hts hown hK hA hAB hP hD hl ret
  have hS : va_S A s.heap s.heap [] := va_S.rf
  have hl : lv_has ls 2 [(0, .int p1), (1, .int p2)] := hl
  have l0 : (1 : Int32).toInt = 1 := by decide
  have l1 : (0 : Int32).toInt = 0 := by decide
  refine lv_iload_n hx hb dX11_hasBit_0 rfl (lv_at hl 0 rfl) ?_
  refine lv_iload_n hx hb dX11_hasBit_1 rfl (lv_at hl 1 rfl) ?_
  refine lv_ishr hx hb dX11_hasBit_2 ?_
  refine lv_topi (fun x1 e2 => ?_)
  refine lv_iconst (v := 1) hx hb dX11_hasBit_3 (by decide) ?_
  refine lv_iand hx hb dX11_hasBit_4 ?_
  refine lv_topi (fun x3 e4 => ?_)
  refine lv_if_eq (tgt := 12) hx hb dX11_hasBit_5 (by decide) (fun c5 => ?_) (fun c5 => ?_)
  · have c5 := ci_eq c5
    refine lv_iconst (v := 0) hx hb dX11_hasBit_12 (by decide) ?_
    have hpo : (0 : Int32).toInt = 0 ∨ (0 : Int32).toInt = 1 := (by omega)
    exact ret _ _ _ _ 0 () dX11_hasBit_13 (by omega) hpo hP hD hS
  have c5 := ci_ne c5
  refine lv_iconst (v := 1) hx hb dX11_hasBit_8 (by decide) ?_
  refine lv_goto (tgt := 13) hx hb dX11_hasBit_9 (by decide) ?_
  have hpo : (1 : Int32).toInt = 0 ∨ (1 : Int32).toInt = 1 := (by omega)
  exact ret _ _ _ _ 1 () dX11_hasBit_13 (by omega) hpo hP hD hS
set_option maxHeartbeats 4000000 in
set_option maxRecDepth 100000 in
theorem k_X11_drawn (l : Launch) (D : va_G) (κ : Nat → ClassId) (β : Nat) (sz : Nat) (p1 : Int32) : Met l yX11_drawn wsX11_drawn ({ frames := 0, cells := 0, slots := 0, locals := 0 } : Room) (PcK D κ β [] sz [.int p1]) (QiK D (fun (r : Int32) (u : Unit) => True) (fun (u : Unit) => []) [] sz) 0 0 (va_A [] sz) := by
  refine ofK_i (cc := cX11_drawn) (maxL := 1) (own := RX11) (by decide) rfl rfl (Nat.le_of_ble_eq_true rfl) ?_
  intro p e s m args below meth c Q A ls hsz hx hb hml hts hown hK hA hAB hP hD hl ret
  have hS : va_S A s.heap s.heap [] := va_S.rf
  have hl : lv_has ls 1 [(0, .int p1)] := hl
  have w0 := hts (.constant RX11 470 (1103515245)) (List.mem_of_getElem? (i := 1) rfl)
  have l0 : (1103515245 : Int32).toInt = 1103515245 := by decide
  have l1 : (12345 : Int32).toInt = 12345 := by decide
  refine lv_iload_n hx hb dX11_drawn_0 rfl (lv_at hl 0 rfl) ?_
  refine lv_ldcw (v := 1103515245) hx hb hown w0 dX11_drawn_1 ?_
  refine lv_imul hx hb dX11_drawn_4 ?_
  refine lv_topi (fun x1 e2 => ?_)
  try have h3 : x1.toInt = 1103515245 * p1.toInt := ci_mulR (n := 1103515245) (by decide) e2 (by omega) (by omega)
  refine lv_sipush (v := 12345) hx hb dX11_drawn_5 (by decide) ?_
  refine lv_iadd hx hb dX11_drawn_8 ?_
  refine lv_topi (fun x4 e5 => ?_)
  try have h6 : x4.toInt = x1.toInt + (12345 : Int32).toInt := ci_add e5 (by omega) (by omega)
  exact ret _ _ _ _ x4 () dX11_drawn_9 trivial hP hD hS
