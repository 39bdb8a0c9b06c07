-- what allReach needs
theorem nle0 {x : Int32} (h : ¬ 0 ≤ x) : x < 0 := by
  rw [Int32.le_iff_toInt_le] at h
  rw [Int32.lt_iff_toInt_lt]
  omega
theorem lbS_congr {ba ba' bu : Nat → Int32} {am : Int32} {x h : Nat} : ∀ {n : Nat}, (∀ y, y < n → ba y = ba' y) → lbS ba bu am x h n = lbS ba' bu am x h n
  | 0, _ => rfl
  | n + 1, hh => by
    rw [lbS, lbS, lbS_congr (fun y hy => hh y (by omega)), hh n (by omega)]
theorem bal_first {re bu : Nat → Int32} {am : Int32} {k j : Nat} (hk : 7 - k = 7) : balF re (8 * (5 - j) + (7 - k)) (-am * (bu (8 * (5 - j) + (7 - k)) * (nI (1 + (5 - j)) - nI 0))) = balC re bu am k (5 - j) := by
  have e : k = 0 := by omega
  subst e
  rfl
theorem bal_step {re bu : Nat → Int32} {am : Int32} {k j : Nat} {bx by9 : Nat → Int32} (hk : k < 8) (hj : j < 6) (hn : ¬ 7 - k = 7) (hold : ∀ c, k = c + 1 → ∀ y, y < 6 → bx y = balC re bu am c y) (hlow : ∀ y, y < 6 - j → by9 y = bx y) :
    balF re (8 * (5 - j) + (7 - k)) (lbS by9 bu am (7 - k) (5 - j) ((5 - j) + 1)) = balC re bu am k (5 - j) := by
  obtain ⟨c, rfl⟩ : ∃ c, k = c + 1 := ⟨k - 1, by omega⟩
  rw [balC, show 7 - (c + 1) = 6 - c by omega, lbS_congr (ba' := balC re bu am c) (fun y hy => by rw [hlow y (by omega), hold c rfl y (by omega)])]
theorem nlt0 {x : Int32} (h : 0 ≤ x) : ¬ x < 0 := by
  rw [Int32.le_iff_toInt_le] at h
  rw [Int32.lt_iff_toInt_lt]
  omega
