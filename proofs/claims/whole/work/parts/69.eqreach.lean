-- ALL WAYS REACH AN AIM: by balances, or by the least margin
theorem bm32 {x : Int} (h1 : -2147483648 ≤ x) (h2 : x < 2147483648) : x.bmod (2 ^ 32) = x := by
  rw [Int.bmod]
  have e : ((2 ^ 32 : Nat) : Int) = 4294967296 := by decide
  rw [e]
  split <;> omega
theorem i_sub {a b : Int32} (h1 : -2147483648 ≤ a.toInt - b.toInt) (h2 : a.toInt - b.toInt < 2147483648) : (a - b).toInt = a.toInt - b.toInt := by rw [Int32.toInt_sub]; exact bm32 h1 h2
theorem i_add {a b : Int32} (h1 : -2147483648 ≤ a.toInt + b.toInt) (h2 : a.toInt + b.toInt < 2147483648) : (a + b).toInt = a.toInt + b.toInt := by rw [Int32.toInt_add]; exact bm32 h1 h2
theorem max_i : (1000000000 : Int32).toInt = 1000000000 := by decide
theorem zero_i : (0 : Int32).toInt = 0 := by decide
/-- is there a way from here on whose balance is below t -/
def exS (er : Nat → Bool) (R B : Nat → Int) (A : Int) : Nat → Nat → Int → Prop
  | 0, y, t => er (8 * y + 7) = true ∧ 100 * R (8 * y + 7) - A * (B (8 * y + 7) * (1 + (y : Int))) < t
  | c + 1, y, t => er (8 * y + (6 - c)) = true ∧ ∃ y' : Nat, y' ≤ y ∧ exS er R B A c y' (t - 100 * R (8 * y + (6 - c)) + A * (B (8 * y + (6 - c)) * (1 + (y : Int) - (y' : Int))))
section REACH
variable {er : Nat → Bool} {re bu : Nat → Int32}
def hRe (er : Nat → Bool) (re : Nat → Int32) : Prop := ∀ p, p < 48 → (er p = true → ∃ r : Nat, r ≤ 1000 ∧ re p = nI r) ∧ (er p = false → re p = -1)
def hBu (bu : Nat → Int32) : Prop := ∀ p, p < 48 → ∃ b : Nat, b ≤ 10 ∧ bu p = nI b
/-- what a drive costs -/
theorem cost_n {A b h y : Nat} (hA : A ≤ 9999) (hb : b ≤ 10) (hy : y ≤ h) (hh : h < 6) : nI A * (nI b * (nI (1 + h) - nI y)) = nI (A * (b * (1 + h - y))) ∧ A * (b * (1 + h - y)) ≤ 599940 := by
  constructor
  · rw [pk_sub (by omega), pk_mul, pk_mul]
  · have h1 : b * (1 + h - y) ≤ 10 * 6 := Nat.mul_le_mul hb (by omega)
    have h2 : A * (b * (1 + h - y)) ≤ 9999 * 60 := Nat.mul_le_mul hA h1
    omega
theorem cost_i {A b h y : Nat} (hy : y ≤ h) : ((A * (b * (1 + h - y)) : Nat) : Int) = (A : Int) * ((b : Int) * (1 + (h : Int) - (y : Int))) := by
  rw [Int.natCast_mul, Int.natCast_mul, Int.natCast_sub (show y ≤ 1 + h by omega), Int.natCast_add]
  rfl
theorem lb_low {A c x h : Nat} {R B : Nat → Int} (hA : A ≤ 9999) (hh : h < 6) (hx : 8 * h + x < 48) (hB : ∀ p, p < 48 → ∃ b : Nat, b ≤ 10 ∧ bu p = nI b ∧ B p = b) {ba : Nat → Int32} {K : Int} (hK : K ≤ 10000000)
    (hba : ∀ y, y < 6 → (ba y = 1000000000 ∧ ∀ t, ¬ exS er R B A c y t) ∨ (-K ≤ (ba y).toInt ∧ (ba y).toInt ≤ K ∧ ∀ t, exS er R B A c y t ↔ (ba y).toInt < t)) :
    ∀ n, n ≤ h + 1 → (lbS ba bu (nI A) x h n = 1000000000 ∧ ∀ t, ¬ ∃ y' : Nat, y' < n ∧ exS er R B A c y' (t + A * (B (8 * h + x) * (1 + (h : Int) - (y' : Int))))) ∨ (-(K + 600000) ≤ (lbS ba bu (nI A) x h n).toInt ∧ (lbS ba bu (nI A) x h n).toInt ≤ K + 600000 ∧ ∀ t, (∃ y' : Nat, y' < n ∧ exS er R B A c y' (t + A * (B (8 * h + x) * (1 + (h : Int) - (y' : Int))))) ↔ (lbS ba bu (nI A) x h n).toInt < t)
  | 0, _ => Or.inl ⟨rfl, fun t ⟨y', h1, _⟩ => absurd h1 (Nat.not_lt_zero y')⟩
  | y + 1, hn => by
    have ih := lb_low hA hh hx hB hK hba y (by omega)
    obtain ⟨b, hb, eb, eB⟩ := hB (8 * h + x) hx
    have hc := cost_n (A := A) (b := b) (h := h) (y := y) hA hb (by omega) hh
    have hci := cost_i (A := A) (b := b) (h := h) (y := y) (by omega)
    rw [lbS]
    rcases hba y (by omega) with ⟨h1, h2⟩ | ⟨h1, h2, h3⟩
    · rw [if_pos h1]
      have key : ∀ t, (∃ y' : Nat, y' < y + 1 ∧ exS er R B A c y' (t + A * (B (8 * h + x) * (1 + (h : Int) - (y' : Int))))) ↔ (∃ y' : Nat, y' < y ∧ exS er R B A c y' (t + A * (B (8 * h + x) * (1 + (h : Int) - (y' : Int))))) := fun t =>
        ⟨fun ⟨y', q1, q2⟩ => ⟨y', by
          rcases Nat.lt_or_ge y' y with z | z
          · exact z
          · have e : y' = y := by omega
            rw [e] at q2
            exact absurd q2 (h2 _), q2⟩, fun ⟨y', q1, q2⟩ => ⟨y', by omega, q2⟩⟩
      rcases ih with ⟨i1, i2⟩ | ⟨i1, i2, i3⟩
      · exact Or.inl ⟨i1, fun t q => i2 t ((key t).mp q)⟩
      · exact Or.inr ⟨i1, i2, fun t => (key t).trans (i3 t)⟩
    · have hne : ¬ ba y = 1000000000 := fun q => by rw [q, max_i] at h2; omega
      rw [if_neg hne, eb, hc.1]
      have hv : (ba y - nI (A * (b * (1 + h - y)))).toInt = (ba y).toInt - ((A * (b * (1 + h - y)) : Nat) : Int) := by
        have e9 : (nI (A * (b * (1 + h - y)))).toInt = ((A * (b * (1 + h - y)) : Nat) : Int) := nI_toInt (by omega)
        rw [i_sub (by omega) (by omega), e9]
      have hlow : ∀ t, exS er R B A c y (t + A * (B (8 * h + x) * (1 + (h : Int) - (y : Int)))) ↔ (ba y - nI (A * (b * (1 + h - y)))).toInt < t := fun t => by
        rw [h3, hv, hci, eB]
        omega
      have key : ∀ t, (∃ y' : Nat, y' < y + 1 ∧ exS er R B A c y' (t + A * (B (8 * h + x) * (1 + (h : Int) - (y' : Int))))) ↔ ((∃ y' : Nat, y' < y ∧ exS er R B A c y' (t + A * (B (8 * h + x) * (1 + (h : Int) - (y' : Int))))) ∨ (ba y - nI (A * (b * (1 + h - y)))).toInt < t) := fun t =>
        ⟨fun ⟨y', q1, q2⟩ => by
          rcases Nat.lt_or_ge y' y with z | z
          · exact Or.inl ⟨y', z, q2⟩
          · have e : y' = y := by omega
            rw [e] at q2
            exact Or.inr ((hlow t).mp q2), fun q => by
          rcases q with ⟨y', q1, q2⟩ | q
          · exact ⟨y', by omega, q2⟩
          · exact ⟨y, by omega, (hlow t).mpr q⟩⟩
      rcases ih with ⟨i1, i2⟩ | ⟨i1, i2, i3⟩
      · rw [i1, if_pos (by rw [Int32.lt_iff_toInt_lt, hv, max_i]; omega)]
        refine Or.inr ⟨by omega, by omega, fun t => (key t).trans ⟨fun q => q.elim (fun z => absurd z (i2 t)) id, Or.inr⟩⟩
      · by_cases hlt : ba y - nI (A * (b * (1 + h - y))) < lbS ba bu (nI A) x h y
        · have hlt2 := hlt
          rw [Int32.lt_iff_toInt_lt] at hlt2
          rw [if_pos hlt]
          refine Or.inr ⟨by omega, by omega, fun t => (key t).trans ⟨fun q => q.elim (fun z => by have := (i3 t).mp z; omega) id, Or.inr⟩⟩
        · have hlt2 := hlt
          rw [Int32.lt_iff_toInt_lt] at hlt2
          rw [if_neg hlt]
          refine Or.inr ⟨i1, i2, fun t => (key t).trans ⟨fun q => q.elim (fun z => (i3 t).mp z) (fun z => by omega), fun q => Or.inl ((i3 t).mpr q)⟩⟩
theorem bal_low {A : Nat} {R B : Nat → Int} (hA : A ≤ 9999) (hR : ∀ p, p < 48 → (er p = true → ∃ r : Nat, r ≤ 1000 ∧ re p = nI r ∧ R p = r) ∧ (er p = false → re p = -1)) (hB : ∀ p, p < 48 → ∃ b : Nat, b ≤ 10 ∧ bu p = nI b ∧ B p = b) :
    ∀ c, c < 8 → ∀ y, y < 6 → (balC re bu (nI A) c y = 1000000000 ∧ ∀ t, ¬ exS er R B A c y t) ∨ (-(700000 * (c + 1)) ≤ (balC re bu (nI A) c y).toInt ∧ (balC re bu (nI A) c y).toInt ≤ 700000 * (c + 1) ∧ ∀ t, exS er R B A c y t ↔ (balC re bu (nI A) c y).toInt < t)
  | 0, _, y, hy => by
    rw [balC, balF]
    cases he : er (8 * y + 7) with
    | false =>
      rw [if_pos (Or.inl ((hR (8 * y + 7) (by omega)).2 he))]
      exact Or.inl ⟨rfl, fun t q => by have := q.1; rw [he] at this; cases this⟩
    | true =>
      obtain ⟨r, h1, h2, h3⟩ := (hR (8 * y + 7) (by omega)).1 he
      obtain ⟨b, h4, h5, h6⟩ := hB (8 * y + 7) (by omega)
      have hc := cost_n (A := A) (b := b) (h := y) (y := 0) hA h4 (by omega) hy
      have hci := cost_i (A := A) (b := b) (h := y) (y := 0) (by omega)
      have ebeh : -nI A * (bu (8 * y + 7) * (nI (1 + y) - 0)) = -nI (A * (b * (1 + y - 0))) := by
        rw [h5, Int32.neg_mul]
        exact congrArg (fun z => -z) hc.1
      have tbeh : (-nI (A * (b * (1 + y - 0)))).toInt = -((A * (b * (1 + y - 0)) : Nat) : Int) := by
        have h := pk_sub_toInt (a := 0) (b := A * (b * (1 + y - 0))) (by omega) (by omega)
        rw [show nI 0 - nI (A * (b * (1 + y - 0))) = -nI (A * (b * (1 + y - 0))) from Int32.zero_sub _] at h
        rw [h]
        omega
      have e100 : (100 : Int32) * nI r = nI (100 * r) := pk_mul 100 r
      have t100 : (nI (100 * r)).toInt = ((100 * r : Nat) : Int) := nI_toInt (by omega)
      have hn1 : ¬ (re (8 * y + 7) = -1 ∨ -nI A * (bu (8 * y + 7) * (nI (1 + y) - 0)) = 1000000000) := by
        rintro (q | q)
        · rw [h2] at q
          have h9 := congrArg Int32.toInt q
          rw [nI_toInt (by omega)] at h9
          have e1 : (-1 : Int32).toInt = -1 := by decide
          omega
        · rw [ebeh] at q
          have h9 := congrArg Int32.toInt q
          rw [tbeh, max_i] at h9
          omega
      rw [if_neg hn1, ebeh, h2, e100]
      have tv : (-nI (A * (b * (1 + y - 0))) + nI (100 * r)).toInt = ((100 * r : Nat) : Int) - ((A * (b * (1 + y - 0)) : Nat) : Int) := by
        rw [i_add (by omega) (by omega), tbeh, t100]
        omega
      refine Or.inr ⟨by omega, by omega, fun t => ?_⟩
      rw [tv, exS, he, h3, h6]
      rw [show (1 + (y : Int) - ((0 : Nat) : Int)) = 1 + (y : Int) by omega] at hci
      rw [hci]
      constructor
      · intro q
        have := q.2
        omega
      · intro q
        exact ⟨rfl, by omega⟩
  | c + 1, hc8, y, hy => by
    have ih := bal_low hA hR hB c (by omega)
    have hp : 8 * y + (6 - c) < 48 := by omega
    rw [balC, balF]
    cases he : er (8 * y + (6 - c)) with
    | false =>
      rw [if_pos (Or.inl ((hR _ hp).2 he))]
      exact Or.inl ⟨rfl, fun t q => by have := q.1; rw [he] at this; cases this⟩
    | true =>
      obtain ⟨r, h1, h2, h3⟩ := (hR _ hp).1 he
      have e100 : (100 : Int32) * nI r = nI (100 * r) := pk_mul 100 r
      have t100 : (nI (100 * r)).toInt = ((100 * r : Nat) : Int) := nI_toInt (by omega)
      have hne1 : ¬ re (8 * y + (6 - c)) = -1 := by
        intro q
        rw [h2] at q
        have h9 := congrArg Int32.toInt q
        rw [nI_toInt (by omega)] at h9
        have e1 : (-1 : Int32).toInt = -1 := by decide
        omega
      have hcc : ((c : Nat) : Int) < 7 := by omega
      have key : ∀ t, exS er R B A (c + 1) y t ↔ ∃ y' : Nat, y' < y + 1 ∧ exS er R B A c y' ((t - 100 * R (8 * y + (6 - c))) + A * (B (8 * y + (6 - c)) * (1 + (y : Int) - (y' : Int)))) := fun t =>
        ⟨fun q => by
          obtain ⟨-, y', q1, q2⟩ := q
          exact ⟨y', by omega, q2⟩, fun ⟨y', q1, q2⟩ => ⟨he, y', by omega, q2⟩⟩
      rcases lb_low (er := er) (R := R) hA hy hp hB (K := 700000 * (c + 1)) (by omega) ih (y + 1) (Nat.le_refl _) with ⟨i1, i2⟩ | ⟨i1, i2, i3⟩
      · rw [if_pos (Or.inr i1)]
        exact Or.inl ⟨rfl, fun t q => i2 _ ((key t).mp q)⟩
      · have hn : ¬ (re (8 * y + (6 - c)) = -1 ∨ lbS (balC re bu (nI A) c) bu (nI A) (6 - c) y (y + 1) = 1000000000) := by
          rintro (q | q)
          · exact hne1 q
          · rw [q, max_i] at i2
            omega
        rw [if_neg hn, h2, e100]
        have tv : (lbS (balC re bu (nI A) c) bu (nI A) (6 - c) y (y + 1) + nI (100 * r)).toInt = (lbS (balC re bu (nI A) c) bu (nI A) (6 - c) y (y + 1)).toInt + ((100 * r : Nat) : Int) := by
          rw [i_add (by omega) (by omega), t100]
        refine Or.inr ⟨by omega, by omega, fun t => ?_⟩
        rw [key, i3, tv, h3]
        omega
end REACH
