theorem hi_eq (F : Nat → Int32) : ∀ k, hiM F k = hgS F k
  | 0 => rfl
  | k + 1 => by rw [hiM, hgS, hi_eq F k]
