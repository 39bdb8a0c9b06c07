theorem sf_eq {se wa : Nat → Int32} {hN : Nat → Nat} (hse : ∀ i, i < 6 → ∃ p, p ≤ 9999 ∧ se i = nI p) (hwa : ∀ i, ∃ c, c ≤ 999 ∧ wa i = nI c) (hle : ∀ j, hN j ≤ 12) (ru : Int32) : sfM se wa hN ru = sfS se wa hN ru := by
  funext fl
  rw [sfM, sfS, (hr_eq hse hwa ru (hN fl) (hle fl)).1]
theorem bru_eq {se wa : Nat → Int32} {hN : Nat → Nat} (hse : ∀ i, i < 6 → ∃ p, p ≤ 9999 ∧ se i = nI p) (hwa : ∀ i, ∃ c, c ≤ 999 ∧ wa i = nI c) (hle : ∀ j, hN j ≤ 12) : ∀ k, bruM se wa hN k = bruS se wa hN k
  | 0 => rfl
  | k + 1 => by rw [bruM_s, bruS_s, bru_eq hse hwa hle k, sf_eq hse hwa hle]
