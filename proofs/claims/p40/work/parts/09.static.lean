def addF (c : Int32) (cap : Int) (f : Nat → Int32) (v : Int32) : Nat → Int32 := if c.toInt < cap then upd f c.toNatClampNeg v else f
theorem addF_ok {c v : Int32} {cap : Int} {f : Nat → Int32} (h : c.toInt < cap) : addF c cap f v = upd f c.toNatClampNeg v := if_pos h
theorem addF_no {c v : Int32} {cap : Int} {f : Nat → Int32} (h : ¬ c.toInt < cap) : addF c cap f v = f := if_neg h
def bodyF (k c : Int32) (f : Nat → Int32) (v : Int32) : Nat → Int32 := if 0 ≤ k.toInt ∧ k.toInt ≤ 7 then addF c 50 f v else f
theorem bodyF_ok {k c v : Int32} {f : Nat → Int32} (h : 0 ≤ k.toInt ∧ k.toInt ≤ 7) : bodyF k c f v = addF c 50 f v := if_pos h
theorem bodyF_no {k c v : Int32} {f : Nat → Int32} (h : ¬ (0 ≤ k.toInt ∧ k.toInt ≤ 7)) : bodyF k c f v = f := if_neg h
theorem bodyF_congr {k c v k' c' v' : Int32} {f f' : Nat → Int32} (h1 : k.toInt = k'.toInt) (h2 : c.toInt = c'.toInt) (h3 : f = f') (h4 : v.toInt = v'.toInt) : bodyF k c f v = bodyF k' c' f' v' := by
  rw [ci_inj h1, ci_inj h2, h3, ci_inj h4]
def ownI (a k : Int) : Int := if a = 0 ∧ k = 0 then 1 else if a = 0 ∧ k = 1 then 20 else if a = 0 ∧ k = 2 then 1 else if a = 0 ∧ k = 3 then 20 else if a = 0 ∧ k = 4 then 1 else if a = 0 ∧ k = 5 then 1 else if a = 0 ∧ k = 6 then 70 else if a = 0 ∧ k = 7 then 70 else if a = 1 ∧ k = 0 then 10 else if a = 1 ∧ k = 1 then 10 else if a = 1 ∧ k = 2 then 30 else if a = 1 ∧ k = 3 then 10 else if a = 1 ∧ k = 4 then 51 else if a = 1 ∧ k = 5 then 10 else if a = 1 ∧ k = 6 then 10 else if a = 1 ∧ k = 7 then 80 else if a = 2 ∧ k = 0 then 11 else if a = 2 ∧ k = 1 then 11 else if a = 2 ∧ k = 2 then 11 else if a = 2 ∧ k = 3 then 40 else if a = 2 ∧ k = 4 then 11 else if a = 2 ∧ k = 5 then 60 else if a = 2 ∧ k = 6 then 11 else if a = 2 ∧ k = 7 then 11 else if a = 3 ∧ k = 0 then 2 else if a = 3 ∧ k = 1 then 2 else if a = 3 ∧ k = 2 then 2 else if a = 3 ∧ k = 3 then 2 else if a = 3 ∧ k = 4 then 50 else if a = 3 ∧ k = 5 then 2 else if a = 3 ∧ k = 6 then 2 else if a = 3 ∧ k = 7 then 81 else 0
def abvI (a k : Int) : Int := if a = 0 ∧ k = 0 then -1 else if a = 0 ∧ k = 1 then 0 else if a = 0 ∧ k = 2 then -1 else if a = 0 ∧ k = 3 then 0 else if a = 0 ∧ k = 4 then -1 else if a = 0 ∧ k = 5 then -1 else if a = 0 ∧ k = 6 then 0 else if a = 0 ∧ k = 7 then 0 else if a = 1 ∧ k = 0 then -1 else if a = 1 ∧ k = 1 then -1 else if a = 1 ∧ k = 2 then 0 else if a = 1 ∧ k = 3 then -1 else if a = 1 ∧ k = 4 then 2 else if a = 1 ∧ k = 5 then -1 else if a = 1 ∧ k = 6 then -1 else if a = 1 ∧ k = 7 then 6 else if a = 2 ∧ k = 0 then -1 else if a = 2 ∧ k = 1 then -1 else if a = 2 ∧ k = 2 then -1 else if a = 2 ∧ k = 3 then 1 else if a = 2 ∧ k = 4 then -1 else if a = 2 ∧ k = 5 then 0 else if a = 2 ∧ k = 6 then -1 else if a = 2 ∧ k = 7 then -1 else if a = 3 ∧ k = 0 then -1 else if a = 3 ∧ k = 1 then -1 else if a = 3 ∧ k = 2 then -1 else if a = 3 ∧ k = 3 then -1 else if a = 3 ∧ k = 4 then 2 else if a = 3 ∧ k = 5 then -1 else if a = 3 ∧ k = 6 then -1 else if a = 3 ∧ k = 7 then 6 else 0
def runF (G : Int → Int → Int32 → Int32) (w : Int32) (ok b ab : Int) (x : Int32) : Int32 := if b = 1 then x + w else if b = 2 then G (1 : Int32).toInt ok x - G (2 : Int32).toInt ok 1 else if b = 10 then G (0 : Int32).toInt ok x * 2 else if b = 11 then x ^^^ w else if b = 20 then G (0 : Int32).toInt ab x + 3 else if b = 30 then -(G (1 : Int32).toInt ab x) else if b = 40 then G (2 : Int32).toInt ab x * 3 else if b = 50 then G (3 : Int32).toInt ab x ^^^ 5 else if b = 51 then G (1 : Int32).toInt ab (x + 1) else if b = 60 then G (2 : Int32).toInt ab x - G (0 : Int32).toInt ok 2 else if b = 70 then G (0 : Int32).toInt ab x * 2 else if b = 80 then G (1 : Int32).toInt ab x + G (2 : Int32).toInt ok 2 else if b = 81 then G (3 : Int32).toInt ab x - 1 else 0
theorem runF_1 {G : Int → Int → Int32 → Int32} {w : Int32} {ok b ab : Int} {x : Int32} (h : b = 1) : runF G w ok b ab x = x + w := by subst h; rfl
theorem runF_2 {G : Int → Int → Int32 → Int32} {w : Int32} {ok b ab : Int} {x : Int32} (h : b = 2) : runF G w ok b ab x = G (1 : Int32).toInt ok x - G (2 : Int32).toInt ok 1 := by subst h; rfl
theorem runF_10 {G : Int → Int → Int32 → Int32} {w : Int32} {ok b ab : Int} {x : Int32} (h : b = 10) : runF G w ok b ab x = G (0 : Int32).toInt ok x * 2 := by subst h; rfl
theorem runF_11 {G : Int → Int → Int32 → Int32} {w : Int32} {ok b ab : Int} {x : Int32} (h : b = 11) : runF G w ok b ab x = x ^^^ w := by subst h; rfl
theorem runF_20 {G : Int → Int → Int32 → Int32} {w : Int32} {ok b ab : Int} {x : Int32} (h : b = 20) : runF G w ok b ab x = G (0 : Int32).toInt ab x + 3 := by subst h; rfl
theorem runF_30 {G : Int → Int → Int32 → Int32} {w : Int32} {ok b ab : Int} {x : Int32} (h : b = 30) : runF G w ok b ab x = -(G (1 : Int32).toInt ab x) := by subst h; rfl
theorem runF_40 {G : Int → Int → Int32 → Int32} {w : Int32} {ok b ab : Int} {x : Int32} (h : b = 40) : runF G w ok b ab x = G (2 : Int32).toInt ab x * 3 := by subst h; rfl
theorem runF_50 {G : Int → Int → Int32 → Int32} {w : Int32} {ok b ab : Int} {x : Int32} (h : b = 50) : runF G w ok b ab x = G (3 : Int32).toInt ab x ^^^ 5 := by subst h; rfl
theorem runF_51 {G : Int → Int → Int32 → Int32} {w : Int32} {ok b ab : Int} {x : Int32} (h : b = 51) : runF G w ok b ab x = G (1 : Int32).toInt ab (x + 1) := by subst h; rfl
theorem runF_60 {G : Int → Int → Int32 → Int32} {w : Int32} {ok b ab : Int} {x : Int32} (h : b = 60) : runF G w ok b ab x = G (2 : Int32).toInt ab x - G (0 : Int32).toInt ok 2 := by subst h; rfl
theorem runF_70 {G : Int → Int → Int32 → Int32} {w : Int32} {ok b ab : Int} {x : Int32} (h : b = 70) : runF G w ok b ab x = G (0 : Int32).toInt ab x * 2 := by subst h; rfl
theorem runF_80 {G : Int → Int → Int32 → Int32} {w : Int32} {ok b ab : Int} {x : Int32} (h : b = 80) : runF G w ok b ab x = G (1 : Int32).toInt ab x + G (2 : Int32).toInt ok 2 := by subst h; rfl
theorem runF_81 {G : Int → Int → Int32 → Int32} {w : Int32} {ok b ab : Int} {x : Int32} (h : b = 81) : runF G w ok b ab x = G (3 : Int32).toInt ab x - 1 := by subst h; rfl
theorem runF_no {G : Int → Int → Int32 → Int32} {w : Int32} {ok b ab : Int} {x : Int32} (h1 : b ≠ 1) (h2 : b ≠ 2) (h10 : b ≠ 10) (h11 : b ≠ 11) (h20 : b ≠ 20) (h30 : b ≠ 30) (h40 : b ≠ 40) (h50 : b ≠ 50) (h51 : b ≠ 51) (h60 : b ≠ 60) (h70 : b ≠ 70) (h80 : b ≠ 80) (h81 : b ≠ 81) : runF G w ok b ab x = 0 := by
  unfold runF
  rw [if_neg h1, if_neg h2, if_neg h10, if_neg h11, if_neg h20, if_neg h30, if_neg h40, if_neg h50, if_neg h51, if_neg h60, if_neg h70, if_neg h80, if_neg h81]
def FR (w : Int32) (ok : Int) : Nat → Int → Int → Int32 → Int32
  | 0, _, _, _ => 0
  | n + 1, a, k, x => runF (FR w ok n) w ok (ownI a k) (abvI a k) x
theorem FR_step {w : Int32} {ok a k : Int} {x p p' : Int32} (h : p.toInt ≤ 24) (h1 : p'.toInt = p.toInt + 1) : FR w ok (25 - p.toInt).toNat a k x = runF (FR w ok (25 - p'.toInt).toNat) w ok (ownI a k) (abvI a k) x := by
  have e : (25 - p.toInt).toNat = (25 - p'.toInt).toNat + 1 := by omega
  rw [e]; rfl
theorem FR_zero {w : Int32} {ok a k : Int} {x p : Int32} (h : 25 ≤ p.toInt) : FR w ok (25 - p.toInt).toNat a k x = 0 := by
  have e : (25 - p.toInt).toNat = 0 := by omega
  rw [e]; rfl
theorem FR_none {w : Int32} {ok a k : Int} {x : Int32} {n : Nat} (h : ownI a k = 0) : FR w ok n a k x = 0 := by
  cases n with
  | zero => rfl
  | succ n =>
    show runF (FR w ok n) w ok (ownI a k) (abvI a k) x = 0
    rw [h]; rfl
theorem ownI_neg {a k : Int} (h : k < 0) : ownI a k = 0 := by
  unfold ownI
  repeat rw [if_neg (by omega)]
theorem own_cases (a k : Int) (ha : 0 ≤ a ∧ a ≤ 3) (hk : 0 ≤ k ∧ k ≤ 7) : ((tbOwn.getD (4 * k + a).toNat 0).toInt = 0 ∧ ownI a k = ownI a (tbAbove.getD k.toNat 0).toInt ∧ abvI a k = abvI a (tbAbove.getD k.toNat 0).toInt) ∨ ((tbOwn.getD (4 * k + a).toNat 0).toInt ≠ 0 ∧ ownI a k = (tbOwn.getD (4 * k + a).toNat 0).toInt ∧ abvI a k = (tbAbove.getD k.toNat 0).toInt) := by
  have t : ∀ a : Nat, a < 4 → ∀ k : Nat, k < 8 → ((tbOwn.getD (4 * (k : Int) + (a : Int)).toNat 0).toInt = 0 ∧ ownI a k = ownI a (tbAbove.getD (k : Int).toNat 0).toInt ∧ abvI a k = abvI a (tbAbove.getD (k : Int).toNat 0).toInt) ∨ ((tbOwn.getD (4 * (k : Int) + (a : Int)).toNat 0).toInt ≠ 0 ∧ ownI a k = (tbOwn.getD (4 * (k : Int) + (a : Int)).toNat 0).toInt ∧ abvI a k = (tbAbove.getD (k : Int).toNat 0).toInt) := by decide +kernel
  have e1 : ((a.toNat : Nat) : Int) = a := by omega
  have e2 : ((k.toNat : Nat) : Int) = k := by omega
  have q := t a.toNat (by omega) k.toNat (by omega)
  rw [e1, e2] at q
  exact q
def liesP (w : Int32) (k : Int) (x : Int32) : Int32 := if k = 1 ∨ k = 3 then x + w + 3 else if k = 6 ∨ k = 7 then (x + w) * 2 else x + w
def showsP (w : Int32) (ok k : Int) (x : Int32) : Int32 := if k = 3 then (x ^^^ w) * 3 else if k = 5 then (x ^^^ w) - liesP w ok 2 else x ^^^ w
def needsP (w : Int32) (ok k : Int) (x : Int32) : Int32 := if k = 4 then -(liesP w ok (x + 1) * 2) else if k = 2 then -(liesP w ok x * 2) else if k = 7 then liesP w ok x * 2 + showsP w ok ok 2 else liesP w ok x * 2
def tellsP (w : Int32) (ok k : Int) (x : Int32) : Int32 := if k = 4 then (needsP w ok ok x - showsP w ok ok 1) ^^^ 5 else if k = 7 then (needsP w ok ok x - showsP w ok ok 1) - 1 else needsP w ok ok x - showsP w ok ok 1
def actP (w : Int32) (a k : Int) (x : Int32) : Int32 := if a = 0 then liesP w k x else if a = 1 then needsP w k k x else if a = 2 then showsP w k k x else tellsP w k k x
theorem FRe_00 (w x : Int32) : FR w 0 (25 - (0 : Int32).toInt).toNat 0 0 x = actP w 0 0 x := rfl
theorem FRe_01 (w x : Int32) : FR w 1 (25 - (0 : Int32).toInt).toNat 0 1 x = actP w 0 1 x := rfl
theorem FRe_02 (w x : Int32) : FR w 2 (25 - (0 : Int32).toInt).toNat 0 2 x = actP w 0 2 x := rfl
theorem FRe_03 (w x : Int32) : FR w 3 (25 - (0 : Int32).toInt).toNat 0 3 x = actP w 0 3 x := rfl
theorem FRe_04 (w x : Int32) : FR w 4 (25 - (0 : Int32).toInt).toNat 0 4 x = actP w 0 4 x := rfl
theorem FRe_05 (w x : Int32) : FR w 5 (25 - (0 : Int32).toInt).toNat 0 5 x = actP w 0 5 x := rfl
theorem FRe_06 (w x : Int32) : FR w 6 (25 - (0 : Int32).toInt).toNat 0 6 x = actP w 0 6 x := rfl
theorem FRe_07 (w x : Int32) : FR w 7 (25 - (0 : Int32).toInt).toNat 0 7 x = actP w 0 7 x := rfl
theorem FRe_10 (w x : Int32) : FR w 0 (25 - (0 : Int32).toInt).toNat 1 0 x = actP w 1 0 x := rfl
theorem FRe_11 (w x : Int32) : FR w 1 (25 - (0 : Int32).toInt).toNat 1 1 x = actP w 1 1 x := rfl
theorem FRe_12 (w x : Int32) : FR w 2 (25 - (0 : Int32).toInt).toNat 1 2 x = actP w 1 2 x := rfl
theorem FRe_13 (w x : Int32) : FR w 3 (25 - (0 : Int32).toInt).toNat 1 3 x = actP w 1 3 x := rfl
theorem FRe_14 (w x : Int32) : FR w 4 (25 - (0 : Int32).toInt).toNat 1 4 x = actP w 1 4 x := rfl
theorem FRe_15 (w x : Int32) : FR w 5 (25 - (0 : Int32).toInt).toNat 1 5 x = actP w 1 5 x := rfl
theorem FRe_16 (w x : Int32) : FR w 6 (25 - (0 : Int32).toInt).toNat 1 6 x = actP w 1 6 x := rfl
theorem FRe_17 (w x : Int32) : FR w 7 (25 - (0 : Int32).toInt).toNat 1 7 x = actP w 1 7 x := rfl
theorem FRe_20 (w x : Int32) : FR w 0 (25 - (0 : Int32).toInt).toNat 2 0 x = actP w 2 0 x := rfl
theorem FRe_21 (w x : Int32) : FR w 1 (25 - (0 : Int32).toInt).toNat 2 1 x = actP w 2 1 x := rfl
theorem FRe_22 (w x : Int32) : FR w 2 (25 - (0 : Int32).toInt).toNat 2 2 x = actP w 2 2 x := rfl
theorem FRe_23 (w x : Int32) : FR w 3 (25 - (0 : Int32).toInt).toNat 2 3 x = actP w 2 3 x := rfl
theorem FRe_24 (w x : Int32) : FR w 4 (25 - (0 : Int32).toInt).toNat 2 4 x = actP w 2 4 x := rfl
theorem FRe_25 (w x : Int32) : FR w 5 (25 - (0 : Int32).toInt).toNat 2 5 x = actP w 2 5 x := rfl
theorem FRe_26 (w x : Int32) : FR w 6 (25 - (0 : Int32).toInt).toNat 2 6 x = actP w 2 6 x := rfl
theorem FRe_27 (w x : Int32) : FR w 7 (25 - (0 : Int32).toInt).toNat 2 7 x = actP w 2 7 x := rfl
theorem FRe_30 (w x : Int32) : FR w 0 (25 - (0 : Int32).toInt).toNat 3 0 x = actP w 3 0 x := rfl
theorem FRe_31 (w x : Int32) : FR w 1 (25 - (0 : Int32).toInt).toNat 3 1 x = actP w 3 1 x := rfl
theorem FRe_32 (w x : Int32) : FR w 2 (25 - (0 : Int32).toInt).toNat 3 2 x = actP w 3 2 x := rfl
theorem FRe_33 (w x : Int32) : FR w 3 (25 - (0 : Int32).toInt).toNat 3 3 x = actP w 3 3 x := rfl
theorem FRe_34 (w x : Int32) : FR w 4 (25 - (0 : Int32).toInt).toNat 3 4 x = actP w 3 4 x := rfl
theorem FRe_35 (w x : Int32) : FR w 5 (25 - (0 : Int32).toInt).toNat 3 5 x = actP w 3 5 x := rfl
theorem FRe_36 (w x : Int32) : FR w 6 (25 - (0 : Int32).toInt).toNat 3 6 x = actP w 3 6 x := rfl
theorem FRe_37 (w x : Int32) : FR w 7 (25 - (0 : Int32).toInt).toNat 3 7 x = actP w 3 7 x := rfl
theorem FR_act {w x : Int32} {a k : Int} (ha : 0 ≤ a ∧ a ≤ 3) (hk : 0 ≤ k ∧ k ≤ 7) : FR w k (25 - (0 : Int32).toInt).toNat a k x = actP w a k x := by
  have h1 : a = 0 ∨ a = 1 ∨ a = 2 ∨ a = 3 := by omega
  have h2 : k = 0 ∨ k = 1 ∨ k = 2 ∨ k = 3 ∨ k = 4 ∨ k = 5 ∨ k = 6 ∨ k = 7 := by omega
  rcases h1 with h | h | h | h <;> subst h <;> rcases h2 with h | h | h | h | h | h | h | h <;> subst h
  · exact FRe_00 w x
  · exact FRe_01 w x
  · exact FRe_02 w x
  · exact FRe_03 w x
  · exact FRe_04 w x
  · exact FRe_05 w x
  · exact FRe_06 w x
  · exact FRe_07 w x
  · exact FRe_10 w x
  · exact FRe_11 w x
  · exact FRe_12 w x
  · exact FRe_13 w x
  · exact FRe_14 w x
  · exact FRe_15 w x
  · exact FRe_16 w x
  · exact FRe_17 w x
  · exact FRe_20 w x
  · exact FRe_21 w x
  · exact FRe_22 w x
  · exact FRe_23 w x
  · exact FRe_24 w x
  · exact FRe_25 w x
  · exact FRe_26 w x
  · exact FRe_27 w x
  · exact FRe_30 w x
  · exact FRe_31 w x
  · exact FRe_32 w x
  · exact FRe_33 w x
  · exact FRe_34 w x
  · exact FRe_35 w x
  · exact FRe_36 w x
  · exact FRe_37 w x
def runT (G : Int → Int → List Int) (ok b ab : Int) : List Int := if b = 1 then [] else if b = 2 then G (1 : Int32).toInt ok ++ G (2 : Int32).toInt ok else if b = 10 then G (0 : Int32).toInt ok else if b = 11 then [] else if b = 20 then G (0 : Int32).toInt ab else if b = 30 then G (1 : Int32).toInt ab else if b = 40 then G (2 : Int32).toInt ab else if b = 50 then G (3 : Int32).toInt ab else if b = 51 then G (1 : Int32).toInt ab else if b = 60 then G (2 : Int32).toInt ab ++ G (0 : Int32).toInt ok else if b = 70 then G (0 : Int32).toInt ab else if b = 80 then G (1 : Int32).toInt ab ++ G (2 : Int32).toInt ok else if b = 81 then G (3 : Int32).toInt ab else []
theorem runT_1 {G : Int → Int → List Int} {ok b ab : Int} (h : b = 1) : runT G ok b ab = [] := by subst h; rfl
theorem runT_2 {G : Int → Int → List Int} {ok b ab : Int} (h : b = 2) : runT G ok b ab = G (1 : Int32).toInt ok ++ G (2 : Int32).toInt ok := by subst h; rfl
theorem runT_10 {G : Int → Int → List Int} {ok b ab : Int} (h : b = 10) : runT G ok b ab = G (0 : Int32).toInt ok := by subst h; rfl
theorem runT_11 {G : Int → Int → List Int} {ok b ab : Int} (h : b = 11) : runT G ok b ab = [] := by subst h; rfl
theorem runT_20 {G : Int → Int → List Int} {ok b ab : Int} (h : b = 20) : runT G ok b ab = G (0 : Int32).toInt ab := by subst h; rfl
theorem runT_30 {G : Int → Int → List Int} {ok b ab : Int} (h : b = 30) : runT G ok b ab = G (1 : Int32).toInt ab := by subst h; rfl
theorem runT_40 {G : Int → Int → List Int} {ok b ab : Int} (h : b = 40) : runT G ok b ab = G (2 : Int32).toInt ab := by subst h; rfl
theorem runT_50 {G : Int → Int → List Int} {ok b ab : Int} (h : b = 50) : runT G ok b ab = G (3 : Int32).toInt ab := by subst h; rfl
theorem runT_51 {G : Int → Int → List Int} {ok b ab : Int} (h : b = 51) : runT G ok b ab = G (1 : Int32).toInt ab := by subst h; rfl
theorem runT_60 {G : Int → Int → List Int} {ok b ab : Int} (h : b = 60) : runT G ok b ab = G (2 : Int32).toInt ab ++ G (0 : Int32).toInt ok := by subst h; rfl
theorem runT_70 {G : Int → Int → List Int} {ok b ab : Int} (h : b = 70) : runT G ok b ab = G (0 : Int32).toInt ab := by subst h; rfl
theorem runT_80 {G : Int → Int → List Int} {ok b ab : Int} (h : b = 80) : runT G ok b ab = G (1 : Int32).toInt ab ++ G (2 : Int32).toInt ok := by subst h; rfl
theorem runT_81 {G : Int → Int → List Int} {ok b ab : Int} (h : b = 81) : runT G ok b ab = G (3 : Int32).toInt ab := by subst h; rfl
theorem runT_no {G : Int → Int → List Int} {ok b ab : Int} (h1 : b ≠ 1) (h2 : b ≠ 2) (h10 : b ≠ 10) (h11 : b ≠ 11) (h20 : b ≠ 20) (h30 : b ≠ 30) (h40 : b ≠ 40) (h50 : b ≠ 50) (h51 : b ≠ 51) (h60 : b ≠ 60) (h70 : b ≠ 70) (h80 : b ≠ 80) (h81 : b ≠ 81) : runT G ok b ab = [] := by
  unfold runT
  rw [if_neg h1, if_neg h2, if_neg h10, if_neg h11, if_neg h20, if_neg h30, if_neg h40, if_neg h50, if_neg h51, if_neg h60, if_neg h70, if_neg h80, if_neg h81]
def TR (ok : Int) : Nat → Int → Int → List Int
  | 0, _, _ => []
  | n + 1, a, k => if ownI a k = 0 then [] else ownI a k :: runT (TR ok n) ok (ownI a k) (abvI a k)
theorem TR_step {ok a k : Int} {p p' : Int32} (h : p.toInt ≤ 24) (h1 : p'.toInt = p.toInt + 1) (h0 : ownI a k ≠ 0) : TR ok (25 - p.toInt).toNat a k = ownI a k :: runT (TR ok (25 - p'.toInt).toNat) ok (ownI a k) (abvI a k) := by
  have e : (25 - p.toInt).toNat = (25 - p'.toInt).toNat + 1 := by omega
  rw [e]
  exact if_neg h0
theorem TR_zero {ok a k : Int} {p : Int32} (h : 25 ≤ p.toInt) : TR ok (25 - p.toInt).toNat a k = [] := by
  have e : (25 - p.toInt).toNat = 0 := by omega
  rw [e]; rfl
theorem TR_none {ok a k : Int} {n : Nat} (h : ownI a k = 0) : TR ok n a k = [] := by
  cases n with
  | zero => rfl
  | succ n => exact if_pos h
/-- a list of numbers laid into the trace from place n on, as far as it goes -/
def wrL (f : Nat → Int32) (n : Int) : List Int → (Nat → Int32)
  | [] => f
  | b :: L => wrL (if n < 24 then upd f n.toNat (Int32.ofInt b) else f) (n + 1) L
theorem wrL_app {f : Nat → Int32} {n : Int} {L M : List Int} : wrL f n (L ++ M) = wrL (wrL f n L) (n + (L.length : Int)) M := by
  induction L generalizing f n with
  | nil =>
    show wrL f n M = wrL f (n + ((0 : Nat) : Int)) M
    rw [show n + ((0 : Nat) : Int) = n by omega]
  | cons b L ih =>
    show wrL _ (n + 1) (L ++ M) = wrL (wrL _ (n + 1) L) (n + ((L.length + 1 : Nat) : Int)) M
    rw [ih, show n + 1 + (L.length : Int) = n + ((L.length + 1 : Nat) : Int) by omega]
theorem wrL_one {f g : Nat → Int32} {n : Int32} {b : Int} {v : Int32} {L : List Int} (hv : b = v.toInt) (hg : (n.toInt < 24 ∧ g = upd f n.toNatClampNeg v) ∨ (24 ≤ n.toInt ∧ g = f)) : wrL f n.toInt (b :: L) = wrL g (n.toInt + 1) L := by
  show wrL (if n.toInt < 24 then upd f n.toInt.toNat (Int32.ofInt b) else f) (n.toInt + 1) L = _
  rcases hg with ⟨h1, h2⟩ | ⟨h1, h2⟩
  · rw [if_pos h1, h2, hv, Int32.ofInt_toInt]; rfl
  · rw [if_neg (by omega), h2]
def liesT (k : Int) : List Int := if k = 1 ∨ k = 3 then [20, 1] else if k = 6 ∨ k = 7 then [70, 1] else [1]
def showsT (ok k : Int) : List Int := if k = 3 then [40, 11] else if k = 5 then [60, 11] ++ liesT ok else [11]
def needsT (ok k : Int) : List Int := if k = 4 then [51, 30, 10] ++ liesT ok else if k = 2 then [30, 10] ++ liesT ok else if k = 7 then ([80, 10] ++ liesT ok) ++ showsT ok ok else [10] ++ liesT ok
def tellsT (ok k : Int) : List Int := if k = 4 then [50] ++ ([2] ++ needsT ok ok ++ showsT ok ok) else if k = 7 then [81] ++ ([2] ++ needsT ok ok ++ showsT ok ok) else [2] ++ needsT ok ok ++ showsT ok ok
def actT (a k : Int) : List Int := if a = 0 then liesT k else if a = 1 then needsT k k else if a = 2 then showsT k k else tellsT k k
theorem TRe_00 : TR 0 (25 - (0 : Int32).toInt).toNat 0 0 = actT 0 0 := rfl
theorem TRe_01 : TR 1 (25 - (0 : Int32).toInt).toNat 0 1 = actT 0 1 := rfl
theorem TRe_02 : TR 2 (25 - (0 : Int32).toInt).toNat 0 2 = actT 0 2 := rfl
theorem TRe_03 : TR 3 (25 - (0 : Int32).toInt).toNat 0 3 = actT 0 3 := rfl
theorem TRe_04 : TR 4 (25 - (0 : Int32).toInt).toNat 0 4 = actT 0 4 := rfl
theorem TRe_05 : TR 5 (25 - (0 : Int32).toInt).toNat 0 5 = actT 0 5 := rfl
theorem TRe_06 : TR 6 (25 - (0 : Int32).toInt).toNat 0 6 = actT 0 6 := rfl
theorem TRe_07 : TR 7 (25 - (0 : Int32).toInt).toNat 0 7 = actT 0 7 := rfl
theorem TRe_10 : TR 0 (25 - (0 : Int32).toInt).toNat 1 0 = actT 1 0 := rfl
theorem TRe_11 : TR 1 (25 - (0 : Int32).toInt).toNat 1 1 = actT 1 1 := rfl
theorem TRe_12 : TR 2 (25 - (0 : Int32).toInt).toNat 1 2 = actT 1 2 := rfl
theorem TRe_13 : TR 3 (25 - (0 : Int32).toInt).toNat 1 3 = actT 1 3 := rfl
theorem TRe_14 : TR 4 (25 - (0 : Int32).toInt).toNat 1 4 = actT 1 4 := rfl
theorem TRe_15 : TR 5 (25 - (0 : Int32).toInt).toNat 1 5 = actT 1 5 := rfl
theorem TRe_16 : TR 6 (25 - (0 : Int32).toInt).toNat 1 6 = actT 1 6 := rfl
theorem TRe_17 : TR 7 (25 - (0 : Int32).toInt).toNat 1 7 = actT 1 7 := rfl
theorem TRe_20 : TR 0 (25 - (0 : Int32).toInt).toNat 2 0 = actT 2 0 := rfl
theorem TRe_21 : TR 1 (25 - (0 : Int32).toInt).toNat 2 1 = actT 2 1 := rfl
theorem TRe_22 : TR 2 (25 - (0 : Int32).toInt).toNat 2 2 = actT 2 2 := rfl
theorem TRe_23 : TR 3 (25 - (0 : Int32).toInt).toNat 2 3 = actT 2 3 := rfl
theorem TRe_24 : TR 4 (25 - (0 : Int32).toInt).toNat 2 4 = actT 2 4 := rfl
theorem TRe_25 : TR 5 (25 - (0 : Int32).toInt).toNat 2 5 = actT 2 5 := rfl
theorem TRe_26 : TR 6 (25 - (0 : Int32).toInt).toNat 2 6 = actT 2 6 := rfl
theorem TRe_27 : TR 7 (25 - (0 : Int32).toInt).toNat 2 7 = actT 2 7 := rfl
theorem TRe_30 : TR 0 (25 - (0 : Int32).toInt).toNat 3 0 = actT 3 0 := rfl
theorem TRe_31 : TR 1 (25 - (0 : Int32).toInt).toNat 3 1 = actT 3 1 := rfl
theorem TRe_32 : TR 2 (25 - (0 : Int32).toInt).toNat 3 2 = actT 3 2 := rfl
theorem TRe_33 : TR 3 (25 - (0 : Int32).toInt).toNat 3 3 = actT 3 3 := rfl
theorem TRe_34 : TR 4 (25 - (0 : Int32).toInt).toNat 3 4 = actT 3 4 := rfl
theorem TRe_35 : TR 5 (25 - (0 : Int32).toInt).toNat 3 5 = actT 3 5 := rfl
theorem TRe_36 : TR 6 (25 - (0 : Int32).toInt).toNat 3 6 = actT 3 6 := rfl
theorem TRe_37 : TR 7 (25 - (0 : Int32).toInt).toNat 3 7 = actT 3 7 := rfl
theorem TR_act {a k : Int} (ha : 0 ≤ a ∧ a ≤ 3) (hk : 0 ≤ k ∧ k ≤ 7) : TR k (25 - (0 : Int32).toInt).toNat a k = actT a k := by
  have h1 : a = 0 ∨ a = 1 ∨ a = 2 ∨ a = 3 := by omega
  have h2 : k = 0 ∨ k = 1 ∨ k = 2 ∨ k = 3 ∨ k = 4 ∨ k = 5 ∨ k = 6 ∨ k = 7 := by omega
  rcases h1 with h | h | h | h <;> subst h <;> rcases h2 with h | h | h | h | h | h | h | h <;> subst h
  · exact TRe_00
  · exact TRe_01
  · exact TRe_02
  · exact TRe_03
  · exact TRe_04
  · exact TRe_05
  · exact TRe_06
  · exact TRe_07
  · exact TRe_10
  · exact TRe_11
  · exact TRe_12
  · exact TRe_13
  · exact TRe_14
  · exact TRe_15
  · exact TRe_16
  · exact TRe_17
  · exact TRe_20
  · exact TRe_21
  · exact TRe_22
  · exact TRe_23
  · exact TRe_24
  · exact TRe_25
  · exact TRe_26
  · exact TRe_27
  · exact TRe_30
  · exact TRe_31
  · exact TRe_32
  · exact TRe_33
  · exact TRe_34
  · exact TRe_35
  · exact TRe_36
  · exact TRe_37
set_option maxHeartbeats 4000000 in
set_option maxRecDepth 100000 in
theorem k_X11_within (l : Launch) (D : va_G) (κ : Nat → ClassId) (β : Nat) (sz : Nat) (p1 : Int32) (p2 : Int32) (p3 : Int32) : Met l yX11_within wsX11_within ({ frames := 0, cells := 0, slots := 0, locals := 0 } : Room) (PcK D κ β [] sz [.int p1, .int p2, .int p3]) (QiK D (fun (r : Int32) (u : Unit) => (r.toInt = 1 ∧ p2.toInt ≤ p1.toInt ∧ p1.toInt ≤ p3.toInt) ∨ (r.toInt = 0 ∧ (p1.toInt < p2.toInt ∨ p3.toInt < p1.toInt))) (fun (u : Unit) => []) [] sz) 0 0 (va_A [] sz) := by
  refine ofK_z (cc := cX11_within) (maxL := 3) (own := RX11) (by decide) rfl rfl (Nat.le_of_ble_eq_true rfl) ?_
  intro p e s m args below meth c Q A ls hsz hx hb hml hts hown hK hA hAB hP hD hl ret
  have hS : va_S A s.heap s.heap [] := va_S.rf
  have hl : lv_has ls 3 [(0, .int p1), (1, .int p2), (2, .int p3)] := hl
  have l0 : (0 : Int32).toInt = 0 := by decide
  have l1 : (1 : Int32).toInt = 1 := by decide
  refine lv_iload_n hx hb dX11_within_0 rfl (lv_at hl 1 rfl) ?_
  refine lv_iload_n hx hb dX11_within_1 rfl (lv_at hl 0 rfl) ?_
  refine lv_icmp_gt (tgt := 14) hx hb dX11_within_2 (by decide) (fun c1 => ?_) (fun c1 => ?_)
  · have c1 := ci_lt c1
    refine lv_iconst (v := 0) hx hb dX11_within_14 (by decide) ?_
    have hpo : ((0 : Int32).toInt = 1 ∧ p2.toInt ≤ p1.toInt ∧ p1.toInt ≤ p3.toInt) ∨ ((0 : Int32).toInt = 0 ∧ (p1.toInt < p2.toInt ∨ p3.toInt < p1.toInt)) := (by omega)
    exact ret _ _ _ _ 0 () dX11_within_15 (by omega) hpo hP hD hS
  have c1 := ci_nlt c1
  refine lv_iload_n hx hb dX11_within_5 rfl (lv_at hl 0 rfl) ?_
  refine lv_iload_n hx hb dX11_within_6 rfl (lv_at hl 2 rfl) ?_
  refine lv_icmp_gt (tgt := 14) hx hb dX11_within_7 (by decide) (fun c2 => ?_) (fun c2 => ?_)
  · have c2 := ci_lt c2
    refine lv_iconst (v := 0) hx hb dX11_within_14 (by decide) ?_
    have hpo : ((0 : Int32).toInt = 1 ∧ p2.toInt ≤ p1.toInt ∧ p1.toInt ≤ p3.toInt) ∨ ((0 : Int32).toInt = 0 ∧ (p1.toInt < p2.toInt ∨ p3.toInt < p1.toInt)) := (by omega)
    exact ret _ _ _ _ 0 () dX11_within_15 (by omega) hpo hP hD hS
  have c2 := ci_nlt c2
  refine lv_iconst (v := 1) hx hb dX11_within_10 (by decide) ?_
  refine lv_goto (tgt := 15) hx hb dX11_within_11 (by decide) ?_
  have hpo : ((1 : Int32).toInt = 1 ∧ p2.toInt ≤ p1.toInt ∧ p1.toInt ≤ p3.toInt) ∨ ((1 : Int32).toInt = 0 ∧ (p1.toInt < p2.toInt ∨ p3.toInt < p1.toInt)) := (by omega)
  exact ret _ _ _ _ 1 () dX11_within_15 (by omega) hpo hP hD hS
set_option maxHeartbeats 4000000 in
set_option maxRecDepth 100000 in
theorem k_X11_isYear (l : Launch) (D : va_G) (κ : Nat → ClassId) (β : Nat) (sz : Nat) (p1 : Int32) : Met l yX11_isYear wsX11_isYear ({ frames := 1, cells := 0, slots := 0, locals := 22 } : Room) (PcK D κ β [] sz [.int p1]) (QiK D (fun (r : Int32) (u : Unit) => (r.toInt = 1 ∧ 0 ≤ p1.toInt ∧ p1.toInt ≤ 2000) ∨ (r.toInt = 0 ∧ (p1.toInt < 0 ∨ 2000 < p1.toInt))) (fun (u : Unit) => []) [] sz) 0 0 (va_A [] sz) := by
  refine ofK_z (cc := cX11_isYear) (maxL := 1) (own := RX11) (by decide) rfl rfl (Nat.le_of_ble_eq_true rfl) ?_
  intro p e s m args below meth c Q A ls hsz hx hb hml hts hown hK hA hAB hP hD hl ret
  have hS : va_S A s.heap s.heap [] := va_S.rf
  have hl : lv_has ls 1 [(0, .int p1)] := hl
  have l0 : (0 : Int32).toInt = 0 := by decide
  have l1 : (2000 : Int32).toInt = 2000 := by decide
  refine lv_iload_n hx hb dX11_isYear_0 rfl (lv_at hl 0 rfl) ?_
  refine lv_iconst (v := 0) hx hb dX11_isYear_1 (by decide) ?_
  refine lv_sipush (v := 2000) hx hb dX11_isYear_2 (by decide) ?_
  refine kcm_i hA hAB hP hD hS [] rfl (fun _ => rfl) (fun hPc hDc => va_runS (As := [.int p1, .int 0, .int 2000]) (rest := []) ⟨hx, hb, hml, hown, hts⟩ (k_X11_within l D κ β s.heap.size p1 0 2000) (va_cwS 3 hts gX11_isYear_X11_within rfl rfl rfl (by decide +kernel) ⟨Nat.le_of_ble_eq_true rfl, Nat.le_of_ble_eq_true rfl⟩) (pk_S hK hS hAB hPc hDc) rfl rfl hl.1 rfl (lv_room (Nat.le_of_ble_eq_true rfl)) dX11_isYear_5 ⟨Nat.le_of_ble_eq_true rfl, Nat.le_of_ble_eq_true rfl⟩) (fun x1 u2 H locs hw hPD hS => ?_)
  have h3 : (x1.toInt = 1 ∧ (0 : Int32).toInt ≤ p1.toInt ∧ p1.toInt ≤ (2000 : Int32).toInt) ∨ (x1.toInt = 0 ∧ (p1.toInt < (0 : Int32).toInt ∨ (2000 : Int32).toInt < p1.toInt)) := hw
  obtain ⟨hP, hD⟩ : PD D A [] H := hPD
  have hpo : (x1.toInt = 1 ∧ 0 ≤ p1.toInt ∧ p1.toInt ≤ 2000) ∨ (x1.toInt = 0 ∧ (p1.toInt < 0 ∨ 2000 < p1.toInt)) := (by omega)
  exact ret _ _ _ _ x1 () dX11_isYear_8 (by omega) hpo hP hD hS
set_option maxHeartbeats 4000000 in
set_option maxRecDepth 100000 in
theorem k_X11_isSlack (l : Launch) (D : va_G) (κ : Nat → ClassId) (β : Nat) (sz : Nat) (p1 : Int32) : Met l yX11_isSlack wsX11_isSlack ({ frames := 1, cells := 0, slots := 0, locals := 22 } : Room) (PcK D κ β [] sz [.int p1]) (QiK D (fun (r : Int32) (u : Unit) => (r.toInt = 1 ∧ 0 ≤ p1.toInt ∧ p1.toInt ≤ 99) ∨ (r.toInt = 0 ∧ (p1.toInt < 0 ∨ 99 < p1.toInt))) (fun (u : Unit) => []) [] sz) 0 0 (va_A [] sz) := by
  refine ofK_z (cc := cX11_isSlack) (maxL := 1) (own := RX11) (by decide) rfl rfl (Nat.le_of_ble_eq_true rfl) ?_
  intro p e s m args below meth c Q A ls hsz hx hb hml hts hown hK hA hAB hP hD hl ret
  have hS : va_S A s.heap s.heap [] := va_S.rf
  have hl : lv_has ls 1 [(0, .int p1)] := hl
  have l0 : (0 : Int32).toInt = 0 := by decide
  have l1 : (99 : Int32).toInt = 99 := by decide
  refine lv_iload_n hx hb dX11_isSlack_0 rfl (lv_at hl 0 rfl) ?_
  refine lv_iconst (v := 0) hx hb dX11_isSlack_1 (by decide) ?_
  refine lv_bipush (v := 99) hx hb dX11_isSlack_2 (by decide) ?_
  refine kcm_i hA hAB hP hD hS [] rfl (fun _ => rfl) (fun hPc hDc => va_runS (As := [.int p1, .int 0, .int 99]) (rest := []) ⟨hx, hb, hml, hown, hts⟩ (k_X11_within l D κ β s.heap.size p1 0 99) (va_cwS 3 hts gX11_isSlack_X11_within rfl rfl rfl (by decide +kernel) ⟨Nat.le_of_ble_eq_true rfl, Nat.le_of_ble_eq_true rfl⟩) (pk_S hK hS hAB hPc hDc) rfl rfl hl.1 rfl (lv_room (Nat.le_of_ble_eq_true rfl)) dX11_isSlack_4 ⟨Nat.le_of_ble_eq_true rfl, Nat.le_of_ble_eq_true rfl⟩) (fun x1 u2 H locs hw hPD hS => ?_)
  have h3 : (x1.toInt = 1 ∧ (0 : Int32).toInt ≤ p1.toInt ∧ p1.toInt ≤ (99 : Int32).toInt) ∨ (x1.toInt = 0 ∧ (p1.toInt < (0 : Int32).toInt ∨ (99 : Int32).toInt < p1.toInt)) := hw
  obtain ⟨hP, hD⟩ : PD D A [] H := hPD
  have hpo : (x1.toInt = 1 ∧ 0 ≤ p1.toInt ∧ p1.toInt ≤ 99) ∨ (x1.toInt = 0 ∧ (p1.toInt < 0 ∨ 99 < p1.toInt)) := (by omega)
  exact ret _ _ _ _ x1 () dX11_isSlack_7 (by omega) hpo hP hD hS
set_option maxHeartbeats 4000000 in
set_option maxRecDepth 100000 in
theorem k_X11_isBit (l : Launch) (D : va_G) (κ : Nat → ClassId) (β : Nat) (sz : Nat) (p1 : Int32) : Met l yX11_isBit wsX11_isBit ({ frames := 0, cells := 0, slots := 0, locals := 0 } : Room) (PcK D κ β [] sz [.int p1]) (QiK D (fun (r : Int32) (u : Unit) => (r.toInt = 1 ∧ 0 ≤ p1.toInt ∧ p1.toInt ≤ 1) ∨ (r.toInt = 0 ∧ (p1.toInt < 0 ∨ 1 < p1.toInt))) (fun (u : Unit) => []) [] sz) 0 0 (va_A [] sz) := by
  refine ofK_z (cc := cX11_isBit) (maxL := 1) (own := RX11) (by decide) rfl rfl (Nat.le_of_ble_eq_true rfl) ?_
  intro p e s m args below meth c Q A ls hsz hx hb hml hts hown hK hA hAB hP hD hl ret
  have hS : va_S A s.heap s.heap [] := va_S.rf
  have hl : lv_has ls 1 [(0, .int p1)] := hl
  have l0 : (0 : Int32).toInt = 0 := by decide
  have l1 : (1 : Int32).toInt = 1 := by decide
  refine lv_iload_n hx hb dX11_isBit_0 rfl (lv_at hl 0 rfl) ?_
  refine lv_if_eq (tgt := 9) hx hb dX11_isBit_1 (by decide) (fun c1 => ?_) (fun c1 => ?_)
  · have c1 := ci_eq c1
    refine lv_iconst (v := 1) hx hb dX11_isBit_9 (by decide) ?_
    refine lv_goto (tgt := 14) hx hb dX11_isBit_10 (by decide) ?_
    have hpo : ((1 : Int32).toInt = 1 ∧ 0 ≤ p1.toInt ∧ p1.toInt ≤ 1) ∨ ((1 : Int32).toInt = 0 ∧ (p1.toInt < 0 ∨ 1 < p1.toInt)) := (by omega)
    exact ret _ _ _ _ 1 () dX11_isBit_14 (by omega) hpo hP hD hS
  have c1 := ci_ne c1
  refine lv_iload_n hx hb dX11_isBit_4 rfl (lv_at hl 0 rfl) ?_
  refine lv_iconst (v := 1) hx hb dX11_isBit_5 (by decide) ?_
  refine lv_icmp_ne (tgt := 13) hx hb dX11_isBit_6 (by decide) (fun c2 => ?_) (fun c2 => ?_)
  · have c2 := ci_ne c2
    refine lv_iconst (v := 0) hx hb dX11_isBit_13 (by decide) ?_
    have hpo : ((0 : Int32).toInt = 1 ∧ 0 ≤ p1.toInt ∧ p1.toInt ≤ 1) ∨ ((0 : Int32).toInt = 0 ∧ (p1.toInt < 0 ∨ 1 < p1.toInt)) := (by omega)
    exact ret _ _ _ _ 0 () dX11_isBit_14 (by omega) hpo hP hD hS
  have c2 := ci_eq c2
  refine lv_iconst (v := 1) hx hb dX11_isBit_9 (by decide) ?_
  refine lv_goto (tgt := 14) hx hb dX11_isBit_10 (by decide) ?_
  have hpo : ((1 : Int32).toInt = 1 ∧ 0 ≤ p1.toInt ∧ p1.toInt ≤ 1) ∨ ((1 : Int32).toInt = 0 ∧ (p1.toInt < 0 ∨ 1 < p1.toInt)) := (by omega)
  exact ret _ _ _ _ 1 () dX11_isBit_14 (by omega) hpo hP hD hS
set_option maxHeartbeats 4000000 in
set_option maxRecDepth 100000 in
theorem k_X11_asBit (l : Launch) (D : va_G) (κ : Nat → ClassId) (β : Nat) (sz : Nat) (p1 : Int32) : Met l yX11_asBit wsX11_asBit ({ frames := 0, cells := 0, slots := 0, locals := 0 } : Room) (PcK D κ β [] sz [.int p1]) (QiK D (fun (r : Int32) (u : Unit) => (r.toInt = 1 ∧ p1.toInt ≠ 0) ∨ (r.toInt = 0 ∧ p1.toInt = 0)) (fun (u : Unit) => []) [] sz) 0 0 (va_A [] sz) := by
  refine ofK_i (cc := cX11_asBit) (maxL := 1) (own := RX11) (by decide) rfl rfl (Nat.le_of_ble_eq_true rfl) ?_
  intro p e s m args below meth c Q A ls hsz hx hb hml hts hown hK hA hAB hP hD hl ret
  have hS : va_S A s.heap s.heap [] := va_S.rf
  have hl : lv_has ls 1 [(0, .int p1)] := hl
  have l0 : (0 : Int32).toInt = 0 := by decide
  have l1 : (1 : Int32).toInt = 1 := by decide
  refine lv_iload_n hx hb dX11_asBit_0 rfl (lv_at hl 0 rfl) ?_
  refine lv_if_eq (tgt := 8) hx hb dX11_asBit_1 (by decide) (fun c1 => ?_) (fun c1 => ?_)
  · have c1 := ci_eq c1
    refine lv_iconst (v := 0) hx hb dX11_asBit_8 (by decide) ?_
    have hpo : ((0 : Int32).toInt = 1 ∧ p1.toInt ≠ 0) ∨ ((0 : Int32).toInt = 0 ∧ p1.toInt = 0) := (by omega)
    exact ret _ _ _ _ 0 () dX11_asBit_9 hpo hP hD hS
  have c1 := ci_ne c1
  refine lv_iconst (v := 1) hx hb dX11_asBit_4 (by decide) ?_
  refine lv_goto (tgt := 9) hx hb dX11_asBit_5 (by decide) ?_
  have hpo : ((1 : Int32).toInt = 1 ∧ p1.toInt ≠ 0) ∨ ((1 : Int32).toInt = 0 ∧ p1.toInt = 0) := (by omega)
  exact ret _ _ _ _ 1 () dX11_asBit_9 hpo hP hD hS
set_option maxHeartbeats 4000000 in
set_option maxRecDepth 100000 in
theorem k_X11_isInk (l : Launch) (D : va_G) (κ : Nat → ClassId) (β : Nat) (sz : Nat) (p1 : Int32) : Met l yX11_isInk wsX11_isInk ({ frames := 1, cells := 0, slots := 0, locals := 22 } : Room) (PcK D κ β [] sz [.int p1]) (QiK D (fun (r : Int32) (u : Unit) => (r.toInt = 1 ∧ 0 ≤ p1.toInt ∧ p1.toInt ≤ 5) ∨ (r.toInt = 0 ∧ (p1.toInt < 0 ∨ 5 < p1.toInt))) (fun (u : Unit) => []) [] sz) 0 0 (va_A [] sz) := by
  refine ofK_z (cc := cX11_isInk) (maxL := 1) (own := RX11) (by decide) rfl rfl (Nat.le_of_ble_eq_true rfl) ?_
  intro p e s m args below meth c Q A ls hsz hx hb hml hts hown hK hA hAB hP hD hl ret
  have hS : va_S A s.heap s.heap [] := va_S.rf
  have hl : lv_has ls 1 [(0, .int p1)] := hl
  have l0 : (0 : Int32).toInt = 0 := by decide
  have l1 : (5 : Int32).toInt = 5 := by decide
  refine lv_iload_n hx hb dX11_isInk_0 rfl (lv_at hl 0 rfl) ?_
  refine lv_iconst (v := 0) hx hb dX11_isInk_1 (by decide) ?_
  refine lv_iconst (v := 5) hx hb dX11_isInk_2 (by decide) ?_
  refine kcm_i hA hAB hP hD hS [] rfl (fun _ => rfl) (fun hPc hDc => va_runS (As := [.int p1, .int 0, .int 5]) (rest := []) ⟨hx, hb, hml, hown, hts⟩ (k_X11_within l D κ β s.heap.size p1 0 5) (va_cwS 3 hts gX11_isInk_X11_within rfl rfl rfl (by decide +kernel) ⟨Nat.le_of_ble_eq_true rfl, Nat.le_of_ble_eq_true rfl⟩) (pk_S hK hS hAB hPc hDc) rfl rfl hl.1 rfl (lv_room (Nat.le_of_ble_eq_true rfl)) dX11_isInk_3 ⟨Nat.le_of_ble_eq_true rfl, Nat.le_of_ble_eq_true rfl⟩) (fun x1 u2 H locs hw hPD hS => ?_)
  have h3 : (x1.toInt = 1 ∧ (0 : Int32).toInt ≤ p1.toInt ∧ p1.toInt ≤ (5 : Int32).toInt) ∨ (x1.toInt = 0 ∧ (p1.toInt < (0 : Int32).toInt ∨ (5 : Int32).toInt < p1.toInt)) := hw
  obtain ⟨hP, hD⟩ : PD D A [] H := hPD
  have hpo : (x1.toInt = 1 ∧ 0 ≤ p1.toInt ∧ p1.toInt ≤ 5) ∨ (x1.toInt = 0 ∧ (p1.toInt < 0 ∨ 5 < p1.toInt)) := (by omega)
  exact ret _ _ _ _ x1 () dX11_isInk_6 (by omega) hpo hP hD hS
set_option maxHeartbeats 4000000 in
set_option maxRecDepth 100000 in
theorem k_X11_isStuff (l : Launch) (D : va_G) (κ : Nat → ClassId) (β : Nat) (sz : Nat) (p1 : Int32) : Met l yX11_isStuff wsX11_isStuff ({ frames := 1, cells := 0, slots := 0, locals := 22 } : Room) (PcK D κ β [] sz [.int p1]) (QiK D (fun (r : Int32) (u : Unit) => (r.toInt = 1 ∧ 0 ≤ p1.toInt ∧ p1.toInt ≤ 9999) ∨ (r.toInt = 0 ∧ (p1.toInt < 0 ∨ 9999 < p1.toInt))) (fun (u : Unit) => []) [] sz) 0 0 (va_A [] sz) := by
  refine ofK_z (cc := cX11_isStuff) (maxL := 1) (own := RX11) (by decide) rfl rfl (Nat.le_of_ble_eq_true rfl) ?_
  intro p e s m args below meth c Q A ls hsz hx hb hml hts hown hK hA hAB hP hD hl ret
  have hS : va_S A s.heap s.heap [] := va_S.rf
  have hl : lv_has ls 1 [(0, .int p1)] := hl
  have l0 : (0 : Int32).toInt = 0 := by decide
  have l1 : (9999 : Int32).toInt = 9999 := by decide
  refine lv_iload_n hx hb dX11_isStuff_0 rfl (lv_at hl 0 rfl) ?_
  refine lv_iconst (v := 0) hx hb dX11_isStuff_1 (by decide) ?_
  refine lv_sipush (v := 9999) hx hb dX11_isStuff_2 (by decide) ?_
  refine kcm_i hA hAB hP hD hS [] rfl (fun _ => rfl) (fun hPc hDc => va_runS (As := [.int p1, .int 0, .int 9999]) (rest := []) ⟨hx, hb, hml, hown, hts⟩ (k_X11_within l D κ β s.heap.size p1 0 9999) (va_cwS 3 hts gX11_isStuff_X11_within rfl rfl rfl (by decide +kernel) ⟨Nat.le_of_ble_eq_true rfl, Nat.le_of_ble_eq_true rfl⟩) (pk_S hK hS hAB hPc hDc) rfl rfl hl.1 rfl (lv_room (Nat.le_of_ble_eq_true rfl)) dX11_isStuff_5 ⟨Nat.le_of_ble_eq_true rfl, Nat.le_of_ble_eq_true rfl⟩) (fun x1 u2 H locs hw hPD hS => ?_)
  have h3 : (x1.toInt = 1 ∧ (0 : Int32).toInt ≤ p1.toInt ∧ p1.toInt ≤ (9999 : Int32).toInt) ∨ (x1.toInt = 0 ∧ (p1.toInt < (0 : Int32).toInt ∨ (9999 : Int32).toInt < p1.toInt)) := hw
  obtain ⟨hP, hD⟩ : PD D A [] H := hPD
  have hpo : (x1.toInt = 1 ∧ 0 ≤ p1.toInt ∧ p1.toInt ≤ 9999) ∨ (x1.toInt = 0 ∧ (p1.toInt < 0 ∨ 9999 < p1.toInt)) := (by omega)
  exact ret _ _ _ _ x1 () dX11_isStuff_8 (by omega) hpo hP hD hS
set_option maxHeartbeats 4000000 in
set_option maxRecDepth 100000 in
theorem k_X11_isPrior (l : Launch) (D : va_G) (κ : Nat → ClassId) (β : Nat) (sz : Nat) (p1 : Int32) : Met l yX11_isPrior wsX11_isPrior ({ frames := 1, cells := 0, slots := 0, locals := 22 } : Room) (PcK D κ β [] sz [.int p1]) (QiK D (fun (r : Int32) (u : Unit) => (r.toInt = 1 ∧ 1 ≤ p1.toInt ∧ p1.toInt ≤ 99) ∨ (r.toInt = 0 ∧ (p1.toInt < 1 ∨ 99 < p1.toInt))) (fun (u : Unit) => []) [] sz) 0 0 (va_A [] sz) := by
  refine ofK_z (cc := cX11_isPrior) (maxL := 1) (own := RX11) (by decide) rfl rfl (Nat.le_of_ble_eq_true rfl) ?_
  intro p e s m args below meth c Q A ls hsz hx hb hml hts hown hK hA hAB hP hD hl ret
  have hS : va_S A s.heap s.heap [] := va_S.rf
  have hl : lv_has ls 1 [(0, .int p1)] := hl
  have l0 : (1 : Int32).toInt = 1 := by decide
  have l1 : (99 : Int32).toInt = 99 := by decide
  refine lv_iload_n hx hb dX11_isPrior_0 rfl (lv_at hl 0 rfl) ?_
  refine lv_iconst (v := 1) hx hb dX11_isPrior_1 (by decide) ?_
  refine lv_bipush (v := 99) hx hb dX11_isPrior_2 (by decide) ?_
  refine kcm_i hA hAB hP hD hS [] rfl (fun _ => rfl) (fun hPc hDc => va_runS (As := [.int p1, .int 1, .int 99]) (rest := []) ⟨hx, hb, hml, hown, hts⟩ (k_X11_within l D κ β s.heap.size p1 1 99) (va_cwS 3 hts gX11_isPrior_X11_within rfl rfl rfl (by decide +kernel) ⟨Nat.le_of_ble_eq_true rfl, Nat.le_of_ble_eq_true rfl⟩) (pk_S hK hS hAB hPc hDc) rfl rfl hl.1 rfl (lv_room (Nat.le_of_ble_eq_true rfl)) dX11_isPrior_4 ⟨Nat.le_of_ble_eq_true rfl, Nat.le_of_ble_eq_true rfl⟩) (fun x1 u2 H locs hw hPD hS => ?_)
  have h3 : (x1.toInt = 1 ∧ (1 : Int32).toInt ≤ p1.toInt ∧ p1.toInt ≤ (99 : Int32).toInt) ∨ (x1.toInt = 0 ∧ (p1.toInt < (1 : Int32).toInt ∨ (99 : Int32).toInt < p1.toInt)) := hw
  obtain ⟨hP, hD⟩ : PD D A [] H := hPD
  have hpo : (x1.toInt = 1 ∧ 1 ≤ p1.toInt ∧ p1.toInt ≤ 99) ∨ (x1.toInt = 0 ∧ (p1.toInt < 1 ∨ 99 < p1.toInt)) := (by omega)
  exact ret _ _ _ _ x1 () dX11_isPrior_7 (by omega) hpo hP hD hS
set_option maxHeartbeats 4000000 in
set_option maxRecDepth 100000 in
theorem k_X11_isDot (l : Launch) (D : va_G) (κ : Nat → ClassId) (β : Nat) (sz : Nat) (p1 : Int32) (p2 : Int32) (p3 : Int32) : Met l yX11_isDot wsX11_isDot ({ frames := 2, cells := 0, slots := 0, locals := 42 } : Room) (PcK D κ β [] sz [.int p1, .int p2, .int p3]) (QiK D (fun (r : Int32) (u : Unit) => (r.toInt = 1 ∧ 0 ≤ p1.toInt ∧ p1.toInt ≤ 4 ∧ 0 ≤ p2.toInt ∧ p2.toInt ≤ 7 ∧ 0 ≤ p3.toInt ∧ p3.toInt ≤ 9999) ∨ (r.toInt = 0 ∧ (p1.toInt < 0 ∨ 4 < p1.toInt ∨ p2.toInt < 0 ∨ 7 < p2.toInt ∨ p3.toInt < 0 ∨ 9999 < p3.toInt))) (fun (u : Unit) => []) [] sz) 0 0 (va_A [] sz) := by
  refine ofK_z (cc := cX11_isDot) (maxL := 3) (own := RX11) (by decide) rfl rfl (Nat.le_of_ble_eq_true rfl) ?_
  intro p e s m args below meth c Q A ls hsz hx hb hml hts hown hK hA hAB hP hD hl ret
  have hS : va_S A s.heap s.heap [] := va_S.rf
  have hl : lv_has ls 3 [(0, .int p1), (1, .int p2), (2, .int p3)] := hl
  have l0 : (0 : Int32).toInt = 0 := by decide
  have l1 : (4 : Int32).toInt = 4 := by decide
  have l2 : (7 : Int32).toInt = 7 := by decide
  have l3 : (1 : Int32).toInt = 1 := by decide
  refine lv_iload_n hx hb dX11_isDot_0 rfl (lv_at hl 0 rfl) ?_
  refine lv_iconst (v := 0) hx hb dX11_isDot_1 (by decide) ?_
  refine lv_iconst (v := 4) hx hb dX11_isDot_2 (by decide) ?_
  refine kcm_i hA hAB hP hD hS [] rfl (fun _ => rfl) (fun hPc hDc => va_runS (As := [.int p1, .int 0, .int 4]) (rest := []) ⟨hx, hb, hml, hown, hts⟩ (k_X11_within l D κ β s.heap.size p1 0 4) (va_cwS 3 hts gX11_isDot_X11_within rfl rfl rfl (by decide +kernel) ⟨Nat.le_of_ble_eq_true rfl, Nat.le_of_ble_eq_true rfl⟩) (pk_S hK hS hAB hPc hDc) rfl rfl hl.1 rfl (lv_room (Nat.le_of_ble_eq_true rfl)) dX11_isDot_3 ⟨Nat.le_of_ble_eq_true rfl, Nat.le_of_ble_eq_true rfl⟩) (fun x1 u2 H locs hw hPD hS => ?_)
  have h3 : (x1.toInt = 1 ∧ (0 : Int32).toInt ≤ p1.toInt ∧ p1.toInt ≤ (4 : Int32).toInt) ∨ (x1.toInt = 0 ∧ (p1.toInt < (0 : Int32).toInt ∨ (4 : Int32).toInt < p1.toInt)) := hw
  obtain ⟨hP, hD⟩ : PD D A [] H := hPD
  refine lv_if_eq (tgt := 30) hx hb dX11_isDot_6 (by decide) (fun c4 => ?_) (fun c4 => ?_)
  · have c4 := ci_eq c4
    refine lv_iconst (v := 0) hx hb dX11_isDot_30 (by decide) ?_
    have hpo : ((0 : Int32).toInt = 1 ∧ 0 ≤ p1.toInt ∧ p1.toInt ≤ 4 ∧ 0 ≤ p2.toInt ∧ p2.toInt ≤ 7 ∧ 0 ≤ p3.toInt ∧ p3.toInt ≤ 9999) ∨ ((0 : Int32).toInt = 0 ∧ (p1.toInt < 0 ∨ 4 < p1.toInt ∨ p2.toInt < 0 ∨ 7 < p2.toInt ∨ p3.toInt < 0 ∨ 9999 < p3.toInt)) := (by omega)
    exact ret _ _ _ _ 0 () dX11_isDot_31 (by omega) hpo hP hD hS
  have c4 := ci_ne c4
  refine lv_iload_n hx hb dX11_isDot_9 rfl (lv_at hl 1 rfl) ?_
  refine lv_iconst (v := 0) hx hb dX11_isDot_10 (by decide) ?_
  refine lv_bipush (v := 7) hx hb dX11_isDot_11 (by decide) ?_
  refine kcm_i hA hAB hP hD hS [] rfl (fun _ => rfl) (fun hPc hDc => va_runS (As := [.int p2, .int 0, .int 7]) (rest := []) ⟨hx, hb, hml, hown, hts⟩ (k_X11_within l D κ β H.size p2 0 7) (va_cwS 3 hts gX11_isDot_X11_within rfl rfl rfl (by decide +kernel) ⟨Nat.le_of_ble_eq_true rfl, Nat.le_of_ble_eq_true rfl⟩) (pk_S hK hS hAB hPc hDc) rfl rfl hl.1 rfl (lv_room (Nat.le_of_ble_eq_true rfl)) dX11_isDot_13 ⟨Nat.le_of_ble_eq_true rfl, Nat.le_of_ble_eq_true rfl⟩) (fun x5 u6 H locs hw hPD hS => ?_)
  have h7 : (x5.toInt = 1 ∧ (0 : Int32).toInt ≤ p2.toInt ∧ p2.toInt ≤ (7 : Int32).toInt) ∨ (x5.toInt = 0 ∧ (p2.toInt < (0 : Int32).toInt ∨ (7 : Int32).toInt < p2.toInt)) := hw
  obtain ⟨hP, hD⟩ : PD D A [] H := hPD
  refine lv_if_eq (tgt := 30) hx hb dX11_isDot_16 (by decide) (fun c8 => ?_) (fun c8 => ?_)
  · have c8 := ci_eq c8
    refine lv_iconst (v := 0) hx hb dX11_isDot_30 (by decide) ?_
    have hpo : ((0 : Int32).toInt = 1 ∧ 0 ≤ p1.toInt ∧ p1.toInt ≤ 4 ∧ 0 ≤ p2.toInt ∧ p2.toInt ≤ 7 ∧ 0 ≤ p3.toInt ∧ p3.toInt ≤ 9999) ∨ ((0 : Int32).toInt = 0 ∧ (p1.toInt < 0 ∨ 4 < p1.toInt ∨ p2.toInt < 0 ∨ 7 < p2.toInt ∨ p3.toInt < 0 ∨ 9999 < p3.toInt)) := (by omega)
    exact ret _ _ _ _ 0 () dX11_isDot_31 (by omega) hpo hP hD hS
  have c8 := ci_ne c8
  refine lv_iload_n hx hb dX11_isDot_19 rfl (lv_at hl 2 rfl) ?_
  refine kcm_i hA hAB hP hD hS [] rfl (fun _ => rfl) (fun hPc hDc => va_runS (As := [.int p3]) (rest := []) ⟨hx, hb, hml, hown, hts⟩ (k_X11_isStuff l D κ β H.size p3) (va_cwS 1 hts gX11_isDot_X11_isStuff rfl rfl rfl (by decide +kernel) ⟨Nat.le_of_ble_eq_true rfl, Nat.le_of_ble_eq_true rfl⟩) (pk_S hK hS hAB hPc hDc) rfl rfl hl.1 rfl (lv_room (Nat.le_of_ble_eq_true rfl)) dX11_isDot_20 ⟨Nat.le_of_ble_eq_true rfl, Nat.le_of_ble_eq_true rfl⟩) (fun x9 u10 H locs hw hPD hS => ?_)
  have h11 : (x9.toInt = 1 ∧ 0 ≤ p3.toInt ∧ p3.toInt ≤ 9999) ∨ (x9.toInt = 0 ∧ (p3.toInt < 0 ∨ 9999 < p3.toInt)) := hw
  obtain ⟨hP, hD⟩ : PD D A [] H := hPD
  refine lv_if_eq (tgt := 30) hx hb dX11_isDot_23 (by decide) (fun c12 => ?_) (fun c12 => ?_)
  · have c12 := ci_eq c12
    refine lv_iconst (v := 0) hx hb dX11_isDot_30 (by decide) ?_
    have hpo : ((0 : Int32).toInt = 1 ∧ 0 ≤ p1.toInt ∧ p1.toInt ≤ 4 ∧ 0 ≤ p2.toInt ∧ p2.toInt ≤ 7 ∧ 0 ≤ p3.toInt ∧ p3.toInt ≤ 9999) ∨ ((0 : Int32).toInt = 0 ∧ (p1.toInt < 0 ∨ 4 < p1.toInt ∨ p2.toInt < 0 ∨ 7 < p2.toInt ∨ p3.toInt < 0 ∨ 9999 < p3.toInt)) := (by omega)
    exact ret _ _ _ _ 0 () dX11_isDot_31 (by omega) hpo hP hD hS
  have c12 := ci_ne c12
  refine lv_iconst (v := 1) hx hb dX11_isDot_26 (by decide) ?_
  refine lv_goto (tgt := 31) hx hb dX11_isDot_27 (by decide) ?_
  have hpo : ((1 : Int32).toInt = 1 ∧ 0 ≤ p1.toInt ∧ p1.toInt ≤ 4 ∧ 0 ≤ p2.toInt ∧ p2.toInt ≤ 7 ∧ 0 ≤ p3.toInt ∧ p3.toInt ≤ 9999) ∨ ((1 : Int32).toInt = 0 ∧ (p1.toInt < 0 ∨ 4 < p1.toInt ∨ p2.toInt < 0 ∨ 7 < p2.toInt ∨ p3.toInt < 0 ∨ 9999 < p3.toInt)) := (by omega)
  exact ret _ _ _ _ 1 () dX11_isDot_31 (by omega) hpo hP hD hS
set_option maxHeartbeats 4000000 in
set_option maxRecDepth 100000 in
theorem k_X11_hasBit (l : Launch) (D : va_G) (κ : Nat → ClassId) (β : Nat) (sz : Nat) (p1 : Int32) (p2 : Int32) : Met l yX11_hasBit wsX11_hasBit ({ frames := 0, cells := 0, slots := 0, locals := 0 } : Room) (PcK D κ β [] sz [.int p1, .int p2]) (QiK D (fun (r : Int32) (u : Unit) => r.toInt = 0 ∨ r.toInt = 1) (fun (u : Unit) => []) [] sz) 0 0 (va_A [] sz) := by
  refine ofK_z (cc := cX11_hasBit) (maxL := 2) (own := RX11) (by decide) rfl rfl (Nat.le_of_ble_eq_true rfl) ?_
  intro p e s m args below meth c Q A ls hsz hx hb hml hts hown hK hA hAB hP hD hl ret
  have hS : va_S A s.heap s.heap [] := va_S.rf
  have hl : lv_has ls 2 [(0, .int p1), (1, .int p2)] := hl
  have l0 : (1 : Int32).toInt = 1 := by decide
  have l1 : (0 : Int32).toInt = 0 := by decide
  refine lv_iload_n hx hb dX11_hasBit_0 rfl (lv_at hl 0 rfl) ?_
  refine lv_iload_n hx hb dX11_hasBit_1 rfl (lv_at hl 1 rfl) ?_
  refine lv_ishr hx hb dX11_hasBit_2 ?_
  refine lv_topi (fun x1 e2 => ?_)
  refine lv_iconst (v := 1) hx hb dX11_hasBit_3 (by decide) ?_
  refine lv_iand hx hb dX11_hasBit_4 ?_
  refine lv_topi (fun x3 e4 => ?_)
  refine lv_if_eq (tgt := 12) hx hb dX11_hasBit_5 (by decide) (fun c5 => ?_) (fun c5 => ?_)
  · have c5 := ci_eq c5
    refine lv_iconst (v := 0) hx hb dX11_hasBit_12 (by decide) ?_
    have hpo : (0 : Int32).toInt = 0 ∨ (0 : Int32).toInt = 1 := (by omega)
    exact ret _ _ _ _ 0 () dX11_hasBit_13 (by omega) hpo hP hD hS
  have c5 := ci_ne c5
  refine lv_iconst (v := 1) hx hb dX11_hasBit_8 (by decide) ?_
  refine lv_goto (tgt := 13) hx hb dX11_hasBit_9 (by decide) ?_
  have hpo : (1 : Int32).toInt = 0 ∨ (1 : Int32).toInt = 1 := (by omega)
  exact ret _ _ _ _ 1 () dX11_hasBit_13 (by omega) hpo hP hD hS
set_option maxHeartbeats 4000000 in
set_option maxRecDepth 100000 in
theorem k_X11_drawn (l : Launch) (D : va_G) (κ : Nat → ClassId) (β : Nat) (sz : Nat) (p1 : Int32) : Met l yX11_drawn wsX11_drawn ({ frames := 0, cells := 0, slots := 0, locals := 0 } : Room) (PcK D κ β [] sz [.int p1]) (QiK D (fun (r : Int32) (u : Unit) => True) (fun (u : Unit) => []) [] sz) 0 0 (va_A [] sz) := by
  refine ofK_i (cc := cX11_drawn) (maxL := 1) (own := RX11) (by decide) rfl rfl (Nat.le_of_ble_eq_true rfl) ?_
  intro p e s m args below meth c Q A ls hsz hx hb hml hts hown hK hA hAB hP hD hl ret
  have hS : va_S A s.heap s.heap [] := va_S.rf
  have hl : lv_has ls 1 [(0, .int p1)] := hl
  have w0 := hts (.constant RX11 470 (1103515245)) (List.mem_of_getElem? (i := 1) rfl)
  have l0 : (1103515245 : Int32).toInt = 1103515245 := by decide
  have l1 : (12345 : Int32).toInt = 12345 := by decide
  refine lv_iload_n hx hb dX11_drawn_0 rfl (lv_at hl 0 rfl) ?_
  refine lv_ldcw (v := 1103515245) hx hb hown w0 dX11_drawn_1 ?_
  refine lv_imul hx hb dX11_drawn_4 ?_
  refine lv_topi (fun x1 e2 => ?_)
  try have h3 : x1.toInt = 1103515245 * p1.toInt := ci_mulR (n := 1103515245) (by decide) e2 (by omega) (by omega)
  refine lv_sipush (v := 12345) hx hb dX11_drawn_5 (by decide) ?_
  refine lv_iadd hx hb dX11_drawn_8 ?_
  refine lv_topi (fun x4 e5 => ?_)
  try have h6 : x4.toInt = x1.toInt + (12345 : Int32).toInt := ci_add e5 (by omega) (by omega)
  exact ret _ _ _ _ x4 () dX11_drawn_9 trivial hP hD hS
