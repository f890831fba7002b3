
/-! cells by name -/
abbrev cB (κ : Nat → ClassId) (a n : Nat) (f : Nat → Int32) : Nat × va_E := (a, .inl (κ 0, n, .inl f))
abbrev cI (κ : Nat → ClassId) (a n : Nat) (f : Nat → Int32) : Nat × va_E := (a, .inl (κ 1, n, .inl f))
abbrev cZ (κ : Nat → ClassId) (a n : Nat) (f : Nat → Int32) : Nat × va_E := (a, .inl (κ 3, n, .inl f))
abbrev cJ (κ : Nat → ClassId) (a n : Nat) (f : Nat → Int64) : Nat × va_E := (a, .inl (κ 2, n, .inr (.inl f)))
abbrev cRI (κ : Nat → ClassId) (a n : Nat) (f : Nat → Option Nat) : Nat × va_E := (a, .inl (κ 4, n, .inr (.inr (.inr (.inr f)))))
abbrev cRJ (κ : Nat → ClassId) (a n : Nat) (f : Nat → Option Nat) : Nat × va_E := (a, .inl (κ 5, n, .inr (.inr (.inr (.inr f)))))
