theorem fst_le {ml mh : Nat → Int32} {l h : Int32} : ∀ m k : Nat, fstM ml mh l h m k ≤ k + m
  | 0, k => Nat.le_refl k
  | m + 1, k => by
    show (if (ml k).toInt = l.toInt ∧ (mh k).toInt = h.toInt then k else fstM ml mh l h m (k + 1)) ≤ k + (m + 1)
    have := fst_le (ml := ml) (mh := mh) (l := l) (h := h) m (k + 1)
    split <;> omega
