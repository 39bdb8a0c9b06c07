-- THE TWO LISTS OF WORKS ARE ALIKE
def okW (n : Nat) (ki pl mo pr WK : Nat → Int32) (wx wz : Nat → Nat) : Prop := ∀ i, i < n → (ki i = 0 ∨ ki i = 1) ∧ pl i = nI (8 * wz i + wx i) ∧ wx i < 8 ∧ wz i < 6 ∧ (ki i = 0 → wz i = 0) ∧ (∃ v : Nat, v ≤ 99 ∧ mo i = nI v) ∧ WK (5 * i) = ki i ∧ WK (5 * i + 1) = nI (wx i) ∧ WK (5 * i + 2) = nI (wz i) ∧ WK (5 * i + 3) = mo i ∧ WK (5 * i + 4) = pr i
section WORKS
variable {ki pl mo pr WK : Nat → Int32} {wx wz : Nat → Nat} {st : Int32}
theorem dr_eq {p : Nat} (hp : p < 48) : ∀ {n : Nat}, okW n ki pl mo pr WK wx wz → ((drM WK wx wz st n p = 0) ↔ anyS (drnT ki pl st p) n = false)
  | 0, _ => ⟨fun _ => rfl, fun _ => rfl⟩
  | n + 1, h => by
    have ih := dr_eq hp (n := n) (fun i hi => h i (by omega))
    obtain ⟨h1, h2, h3, h4, h5, h6, h7, h8, h9, h10, h11⟩ := h n (by omega)
    rw [drM_s, anyS, Bool.or_eq_false_iff, ← ih, drnT, h7]
    cases hh : hasS st n with
    | false => simp
    | true =>
      rcases h1 with e | e
      · rw [e]; simp
      · rw [e]
        by_cases hq : p = 8 * wz n + wx n
        · rw [if_pos (by decide), ← hq, pk_us, h2, ← hq]
          simp
        · rw [if_pos (by decide), pk_un hq, decide_eq_false (show ¬ pl n = nI p from fun q => hq (by rw [h2] at q; exact ((nI_eq (by omega) (by omega)).mp q).symm))]
          simp
theorem wt_eq {zo he go : Nat → Int32} {p n : Nat} (hp : p < 48) (h : okW n ki pl mo pr WK wx wz) : wtD zo he go ki pl st n p = wtT zo he go (drM WK wx wz st n) p := by
  rw [wtD, wtT]
  cases ha : anyS (drnT ki pl st p) n with
  | false => rw [(dr_eq hp h).mpr ha]; rfl
  | true =>
    rw [decide_eq_false (fun q => by rw [(dr_eq hp h).mp q] at ha; cases ha)]
    rfl
theorem mo_eq {x : Nat} (hx : x < 8) : ∀ {n : Nat}, okW n ki pl mo pr WK wx wz → moM WK wx st n x = sumS (morT ki pl mo st x) n ∧ ∃ v : Nat, v ≤ 99 * n ∧ sumS (morT ki pl mo st x) n = nI v
  | 0, _ => ⟨rfl, 0, by omega, rfl⟩
  | n + 1, h => by
    obtain ⟨ih, v, hv1, hv2⟩ := mo_eq hx (n := n) (fun i hi => h i (by omega))
    obtain ⟨h1, h2, h3, h4, h5, ⟨u, hu1, hu2⟩, h7, h8, h9, h10, h11⟩ := h n (by omega)
    have hz : sumS (morT ki pl mo st x) n + 0 = sumS (morT ki pl mo st x) n := Int32.add_zero _
    rw [moM_s, sumS, morT, h7]
    cases hh : hasS st n with
    | false =>
      rw [Bool.false_and, Bool.false_and, if_neg (by decide), if_neg (by decide), hz]
      exact ⟨ih, v, by omega, hv2⟩
    | true =>
      rcases h1 with e | e
      · rw [e, Bool.true_and, Bool.true_and, if_pos (by decide), h2, h5 e]
        by_cases hq : x = wx n
        · rw [← hq, pk_us, h10, ih, if_pos (by rw [decide_eq_true (show (0 : Int32) = 0 from rfl), show 8 * 0 + x = x by omega, decide_eq_true rfl]; rfl)]
          exact ⟨rfl, v + u, by omega, by rw [hv2, hu2, nI_add]⟩
        · rw [pk_un hq, if_neg (by rw [decide_eq_false (show ¬ nI (8 * 0 + wx n) = nI x from fun q => hq (by have := (nI_eq (a := 8 * 0 + wx n) (b := x) (by omega) (by omega)).mp q; omega)), Bool.and_false]; decide), hz]
          exact ⟨ih, v, by omega, hv2⟩
      · rw [e, if_neg (by decide), if_neg (by rw [decide_eq_false (show ¬ (1 : Int32) = 0 by decide)]; simp), hz]
        exact ⟨ih, v, by omega, hv2⟩
theorem hw_n {zo go hd : Nat → Int32} {n : Nat} (hn : n ≤ 8) (hhd : ok99 hd) (h : okW n ki pl mo pr WK wx wz) : ∀ p, p < 48 → isES zo go p = true → ∃ v : Nat, v ≤ 1000 ∧ hwD zo hd ki pl mo st n p = nI v := by
  intro p hp he
  obtain ⟨a, -, h2, h3⟩ := at_n hhd (isE_na he)
  obtain ⟨-, v, h4, h5⟩ := mo_eq (st := st) (x := p % 8) (by omega) h
  exact ⟨a + v, by omega, by rw [hwD, hold_na (isE_na he), h3, h5, nI_add]⟩
theorem hw_ho {zo go hd : Nat → Int32} {n : Nat} (h : okW n ki pl mo pr WK wx wz) : ∀ y x, y < 6 → x < 8 → isES zo go (8 * y + x) = true → hwD zo hd ki pl mo st n (8 * y + x) = atZ zo hd (8 * y + x) + moM WK wx st n x := by
  intro y x hy hx he
  rw [hwD, hold_na (isE_na he), show (8 * y + x) % 8 = x by omega, (mo_eq hx h).1]
theorem pri_eq : ∀ {n : Nat}, okW n ki pl mo pr WK wx wz → sumS (priT pr st) n = prM WK st n
  | 0, _ => rfl
  | n + 1, h => by
    have ih := pri_eq (n := n) (fun i hi => h i (by omega))
    obtain ⟨-, -, -, -, -, -, -, -, -, -, h11⟩ := h n (by omega)
    rw [sumS, prM_s, ih, priT, h11]
    cases hasS st n with
    | true => rfl
    | false => exact Int32.add_zero _
theorem has0 : ∀ i : Fin 8, hasS 0 i.val = false := by decide +kernel
theorem dr0 : ∀ {n : Nat}, n ≤ 8 → drM WK wx wz 0 n = fun _ => 0
  | 0, _ => rfl
  | n + 1, h => by rw [drM_s, has0 ⟨n, by omega⟩, Bool.false_and, if_neg (by decide)]; exact dr0 (by omega)
theorem mo0 : ∀ {n : Nat}, n ≤ 8 → moM WK wx 0 n = fun _ => 0
  | 0, _ => rfl
  | n + 1, h => by rw [moM_s, has0 ⟨n, by omega⟩, Bool.false_and, if_neg (by decide)]; exact mo0 (by omega)
end WORKS
theorem chp_eq {ok ok' : Int32 → Bool} {pri pri' : Int32 → Int32} {N : Nat} (hN : N ≤ 256) (hok : ∀ k, k < N → ok (nI k) = ok' (nI k)) (hpr : ∀ k, k < N → pri (nI k) = pri' (nI k)) : ∀ k, k ≤ N → (chpM ok' pri' k).1 = (chpS ok pri k).1 ∧ ((chpS ok pri k).1 = -9 → (chpS ok pri k).2 = -9) ∧ (¬ (chpS ok pri k).1 = -9 → (chpM ok' pri' k).2 = (chpS ok pri k).2)
  | 0, _ => ⟨rfl, fun _ => rfl, fun h => absurd rfl h⟩
  | k + 1, hk => by
    obtain ⟨h1, h2, h3⟩ := chp_eq hN hok hpr k (by omega)
    have hne : ¬ nI k = -9 := by
      intro q
      have h9 := congrArg Int32.toInt q
      rw [nI_toInt (by omega)] at h9
      have e9 : (-9 : Int32).toInt = -9 := by decide
      omega
    have hcond : ((¬ (chpM ok' pri' k).1 = -9 ∧ (chpM ok' pri' k).2 ≤ pri' (nI k)) ∨ ok' (nI k) = false) ↔ ((¬ (chpS ok pri k).1 = -9 ∧ ¬ pri (nI k) < (chpS ok pri k).2) ∨ ok (nI k) = false) := by
      rw [hok k (by omega), hpr k (by omega), h1]
      refine or_congr (and_congr_right (fun hb => ?_)) Iff.rfl
      rw [h3 hb, Int32.le_iff_toInt_le, Int32.lt_iff_toInt_lt]
      omega
    rw [chpM_s, chpS_s]
    by_cases hc : (¬ (chpS ok pri k).1 = -9 ∧ ¬ pri (nI k) < (chpS ok pri k).2) ∨ ok (nI k) = false
    · rw [if_pos hc, if_pos (hcond.mpr hc)]
      exact ⟨h1, h2, h3⟩
    · rw [if_neg hc, if_neg (fun q => hc (hcond.mp q))]
      exact ⟨rfl, fun q => absurd q hne, fun _ => (hpr k (by omega)).symm⟩
