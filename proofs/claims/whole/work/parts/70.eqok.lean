-- THE CHEAPEST WORKS ARE ALIKE
def exE (er : Nat → Bool) (P : (Nat → Nat) → Prop) : Nat → Nat → Nat → (Nat → Nat) → Prop
  | 0, x, hi, w => ∃ y : Nat, y < hi + 1 ∧ er (8 * y + x) = true ∧ P (upN w x y)
  | d + 1, x, hi, w => ∃ y : Nat, y < hi + 1 ∧ er (8 * y + x) = true ∧ exE er P d (x + 1) y (upN w x y)
def lowA (a : AccT) (v : Int32) : Prop := match a.2 with
  | none => False
  | some q => q.1 < v
theorem met_low {mg : (Nat → Nat) → Int32} {am v : Int32} {sa : Nat} {w : Nat → Nat} {a : AccT} : lowA (metM mg am sa w a) v ↔ (lowA a v ∨ mg w < v) := by
  obtain ⟨a1, a2⟩ := a
  cases a2 with
  | none => exact ⟨Or.inr, fun q => q.elim (fun z => z.elim) id⟩
  | some q =>
    show lowA (_, if mg w < q.1 then some (mg w, sa, w) else some q) v ↔ (q.1 < v ∨ mg w < v)
    by_cases h : mg w < q.1
    · rw [if_pos h]
      show mg w < v ↔ _
      exact ⟨Or.inr, fun z => z.elim (fun z => Int32.lt_trans h z) id⟩
    · rw [if_neg h]
      show q.1 < v ↔ _
      refine ⟨Or.inl, fun z => z.elim id (fun z => ?_)⟩
      rw [Int32.lt_iff_toInt_lt] at h z ⊢
      omega
theorem fold_low {f : Nat → AccT → AccT} {v : Int32} {X : Nat → Prop} (h : ∀ y a, lowA (f y a) v ↔ (lowA a v ∨ X y)) : ∀ {n : Nat} {a : AccT}, lowA (foldN f n a) v ↔ (lowA a v ∨ ∃ y : Nat, y < n ∧ X y)
  | 0, a => ⟨Or.inl, fun q => q.elim id (fun ⟨y, hy, _⟩ => absurd hy (Nat.not_lt_zero y))⟩
  | n + 1, a => by
    rw [foldN, h, fold_low h (n := n) (a := a)]
    constructor
    · rintro ((q | ⟨y, h1, h2⟩) | q)
      · exact Or.inl q
      · exact Or.inr ⟨y, by omega, h2⟩
      · exact Or.inr ⟨n, by omega, q⟩
    · rintro (q | ⟨y, h1, h2⟩)
      · exact Or.inl (Or.inl q)
      · by_cases e : y = n
        · rw [e] at h2; exact Or.inr h2
        · exact Or.inl (Or.inr ⟨y, by omega, h2⟩)
theorem wk_low {er : Nat → Bool} {mg : (Nat → Nat) → Int32} {am v : Int32} {sa : Nat} : ∀ (d x hi : Nat) (w : Nat → Nat) (a : AccT), lowA (wkE er (metM mg am sa) d x hi w a) v ↔ (lowA a v ∨ exE er (fun w => mg w < v) d x hi w)
  | 0, x, hi, w, a => by
    rw [wkE]
    refine fold_low (X := fun y => er (8 * y + x) = true ∧ mg (upN w x y) < v) (fun y a => ?_)
    cases he : er (8 * y + x) with
    | false => rw [if_neg (by decide)]; exact ⟨Or.inl, fun q => q.elim id (fun z => absurd z.1 (by decide))⟩
    | true =>
      rw [if_pos rfl, met_low]
      exact ⟨fun q => q.imp id (fun z => ⟨rfl, z⟩), fun q => q.imp id (fun z => z.2)⟩
  | d + 1, x, hi, w, a => by
    rw [wkE]
    refine fold_low (X := fun y => er (8 * y + x) = true ∧ exE er (fun w => mg w < v) d (x + 1) y (upN w x y)) (fun y a => ?_)
    cases he : er (8 * y + x) with
    | false => rw [if_neg (by decide)]; exact ⟨Or.inl, fun q => q.elim id (fun z => absurd z.1 (by decide))⟩
    | true =>
      rw [if_pos rfl, wk_low d (x + 1) y (upN w x y) a]
      exact ⟨fun q => q.imp id (fun z => ⟨rfl, z⟩), fun q => q.imp id (fun z => z.2)⟩
theorem wal_low {er : Nat → Bool} {mg : Nat → (Nat → Nat) → Int32} {am v : Int32} {n : Nat} : lowA (walM er mg am n) v ↔ ∃ sa : Nat, sa < n ∧ exE er (fun w => mg sa w < v) (7 - sa) sa 5 (fun _ => 0) := by
  rw [walM, fold_low (X := fun sa => exE er (fun w => mg sa w < v) (7 - sa) sa 5 (fun _ => 0)) (fun y a => wk_low _ _ _ _ _)]
  exact ⟨fun q => q.elim (fun z => z.elim) id, Or.inr⟩
theorem okM_low {er : Nat → Bool} {mg : Int32 → Nat → (Nat → Nat) → Int32} {v st : Int32} : okM er mg v st = false ↔ ∃ sa : Nat, sa < 8 ∧ exE er (fun w => mg st sa w < v) (7 - sa) sa 5 (fun _ => 0) := by
  rw [← wal_low (am := 0), okM, lowA]
  cases (walM er (mg st) 0 8).2 with
  | none => exact ⟨fun h => (by cases h), fun h => h.elim⟩
  | some q =>
    show (!decide (q.1 < v)) = false ↔ q.1 < v
    by_cases h : q.1 < v
    · simp [h]
    · simp [h]
theorem ex_congr {er : Nat → Bool} {P P' : (Nat → Nat) → Prop} {sa : Nat} (hl : ∀ w, VAL er sa w → (P w ↔ P' w)) : ∀ (d x hi : Nat) (w : Nat → Nat), x + d = 7 → sa ≤ x → hi ≤ 5 → (x = sa ∨ (sa < x ∧ hi = w (x - 1))) → w 8 = 0 → (∀ j, sa ≤ j → j < x → w j < 6 ∧ er (8 * w j + j) = true) → (∀ j, sa ≤ j → j + 1 < x → w (j + 1) ≤ w j) → (exE er P d x hi w ↔ exE er P' d x hi w)
  | 0, x, hi, w, hx, hs, h5, hh, h8, hv, hm => by
    rw [exE, exE]
    refine exists_congr (fun y => ?_)
    constructor
    · rintro ⟨h1, h2, h3⟩
      have hu := val_up (er := er) (by omega) hh (show y ≤ hi by omega) h5 h2 h8 hv hm
      exact ⟨h1, h2, (hl _ ⟨hu.1, fun j a b => hu.2.1 j a (by omega), fun j a b => hu.2.2 j a (by omega)⟩).mp h3⟩
    · rintro ⟨h1, h2, h3⟩
      have hu := val_up (er := er) (by omega) hh (show y ≤ hi by omega) h5 h2 h8 hv hm
      exact ⟨h1, h2, (hl _ ⟨hu.1, fun j a b => hu.2.1 j a (by omega), fun j a b => hu.2.2 j a (by omega)⟩).mpr h3⟩
  | d + 1, x, hi, w, hx, hs, h5, hh, h8, hv, hm => by
    rw [exE, exE]
    refine exists_congr (fun y => ?_)
    constructor
    · rintro ⟨h1, h2, h3⟩
      have hu := val_up (er := er) (by omega) hh (show y ≤ hi by omega) h5 h2 h8 hv hm
      exact ⟨h1, h2, (ex_congr hl d (x + 1) y (upN w x y) (by omega) (by omega) (by omega) (Or.inr ⟨by omega, by rw [show x + 1 - 1 = x by omega, upN_s]⟩) hu.1 hu.2.1 hu.2.2).mp h3⟩
    · rintro ⟨h1, h2, h3⟩
      have hu := val_up (er := er) (by omega) hh (show y ≤ hi by omega) h5 h2 h8 hv hm
      exact ⟨h1, h2, (ex_congr hl d (x + 1) y (upN w x y) (by omega) (by omega) (by omega) (Or.inr ⟨by omega, by rw [show x + 1 - 1 = x by omega, upN_s]⟩) hu.1 hu.2.1 hu.2.2).mpr h3⟩
/-- the balance of a way, column by column -/
def Prb (R B : Nat → Int) (A : Int) (w : Nat → Nat) (sa : Nat) : Nat → Int
  | 0 => 0
  | n + 1 => Prb R B A w sa n + (100 * R (8 * w (sa + n) + (sa + n)) - A * (B (8 * w (sa + n) + (sa + n)) * (1 + (w (sa + n) : Int) - (w (sa + n + 1) : Int))))
theorem prb_congr {R B : Nat → Int} {A : Int} {w w' : Nat → Nat} {sa : Nat} : ∀ {n : Nat}, (∀ j, j ≤ sa + n → w j = w' j) → Prb R B A w sa n = Prb R B A w' sa n
  | 0, _ => rfl
  | n + 1, h => by rw [Prb, Prb, prb_congr (fun j hj => h j (by omega)), h (sa + n) (by omega), h (sa + n + 1) (by omega)]
theorem ex_pre {er : Nat → Bool} {R B : Nat → Int} {A : Int} {sa : Nat} : ∀ (d x hi : Nat) (w : Nat → Nat), x + d = 7 → sa ≤ x → w 8 = 0 → (exE er (fun w => Prb R B A w sa (8 - sa) < 0) d x hi w ↔ ∃ y : Nat, y < hi + 1 ∧ exS er R B A d y (-(Prb R B A (upN w x y) sa (x - sa))))
  | 0, x, hi, w, hx, hs, h8 => by
    have e7 : x = 7 := by omega
    subst e7
    rw [exE]
    refine exists_congr (fun y => and_congr_right (fun _ => ?_))
    rw [exS]
    refine and_congr_right (fun _ => ?_)
    rw [show 8 - sa = (7 - sa) + 1 by omega, Prb, show sa + (7 - sa) = 7 by omega, upN_s, upN_n (show 7 + 1 ≠ 7 by omega), h8, show (1 + (y : Int) - ((0 : Nat) : Int)) = 1 + (y : Int) by omega]
    omega
  | d + 1, x, hi, w, hx, hs, h8 => by
    rw [exE]
    refine exists_congr (fun y => and_congr_right (fun _ => ?_))
    rw [exS, show 6 - d = x by omega]
    refine and_congr_right (fun _ => ?_)
    rw [ex_pre d (x + 1) y (upN w x y) (by omega) (by omega) (by rw [upN_n (by omega)]; exact h8)]
    have e : ∀ y' : Nat, -(Prb R B A (upN (upN w x y) (x + 1) y') sa (x + 1 - sa)) = -(Prb R B A (upN w x y) sa (x - sa)) - 100 * R (8 * y + x) + A * (B (8 * y + x) * (1 + (y : Int) - (y' : Int))) := by
      intro y'
      rw [show x + 1 - sa = (x - sa) + 1 by omega, Prb, show sa + (x - sa) = x by omega, upN_s, upN_n (show x ≠ x + 1 by omega), upN_s, prb_congr (w := upN (upN w x y) (x + 1) y') (w' := upN w x y) (fun j hj => upN_n (by omega))]
      omega
    constructor
    · rintro ⟨y', h1, h2⟩
      rw [e] at h2
      exact ⟨y', by omega, h2⟩
    · rintro ⟨y', h1, h2⟩
      rw [← e] at h2
      exact ⟨y', by omega, h2⟩
/-- the balance of a way is 100 times its rest less the aim times its drive -/
theorem prb_n {er wt : Nat → Bool} {hw : Nat → Int32} {A : Nat} (hhw : ∀ p, p < 48 → er p = true → ∃ v : Nat, v ≤ 1000 ∧ hw p = nI v) {sa : Nat} {w : Nat → Nat} (hV : VAL er sa w) : ∀ n, sa + n ≤ 8 → ∃ d r : Nat, d ≤ 60 * n ∧ r ≤ 1000 * n ∧ dvS (buG er wt) w sa n = nI d ∧ rsS (reG er wt hw) w sa n = nI r ∧ Prb (fun p => (reG er wt hw p).toInt) (fun p => (buG er wt p).toInt) A w sa n = 100 * (r : Int) - (A : Int) * (d : Int)
  | 0, _ => ⟨0, 0, by omega, by omega, rfl, rfl, by rw [Prb]; omega⟩
  | n + 1, hn => by
    obtain ⟨d, r, h1, h2, h3, h4, h5⟩ := prb_n (A := A) (wt := wt) hhw hV n (by omega)
    have h6 := hV.2.1 (sa + n) (by omega) (by omega)
    have hm : w (sa + n + 1) ≤ w (sa + n) := by
      by_cases h7 : sa + n = 7
      · rw [h7, hV.1]; omega
      · exact hV.2.2 (sa + n) (by omega) (by omega)
    obtain ⟨b, hb1, hb2⟩ := buC_n er wt ((8 * w (sa + n) + (sa + n)) % 8) (5 - (8 * w (sa + n) + (sa + n)) / 8)
    have hb : buG er wt (8 * w (sa + n) + (sa + n)) = nI b := hb2
    obtain ⟨v, hv1, hv2⟩ := hhw (8 * w (sa + n) + (sa + n)) (by omega) h6.2
    have hre : ∃ u : Nat, u ≤ 1000 ∧ reG er wt hw (8 * w (sa + n) + (sa + n)) = nI u := by
      rw [reG, h6.2, if_pos rfl, hv2]
      split
      · refine ⟨v / 2, by omega, ?_⟩
        show nI v / nI 2 = _
        exact pk_div (by omega) (by omega) (by omega)
      · exact ⟨v, hv1, rfl⟩
    obtain ⟨u, hu1, hu2⟩ := hre
    have hfb : b * (1 + w (sa + n) - w (sa + n + 1)) ≤ 10 * 6 := Nat.mul_le_mul (by omega) (by omega)
    refine ⟨d + b * (1 + w (sa + n) - w (sa + n + 1)), r + u, by omega, by omega, ?_, ?_, ?_⟩
    · rw [dvS, h3, pk_sub (by omega), hb, pk_mul, nI_add]
    · rw [rsS, h4, hu2, nI_add]
    · rw [Prb, h5]
      have e1 : (reG er wt hw (8 * w (sa + n) + (sa + n))).toInt = (u : Int) := by rw [hu2]; exact nI_toInt (by omega)
      have e2 : (buG er wt (8 * w (sa + n) + (sa + n))).toInt = (b : Int) := by rw [hb]; exact nI_toInt (by omega)
      simp only [e1, e2]
      have e3 : ((d + b * (1 + w (sa + n) - w (sa + n + 1)) : Nat) : Int) = (d : Int) + (b : Int) * (1 + (w (sa + n) : Int) - (w (sa + n + 1) : Int)) := by
        rw [Int.natCast_add, Int.natCast_mul, Int.natCast_sub (show w (sa + n + 1) ≤ 1 + w (sa + n) by omega), Int.natCast_add]
        rfl
      rw [e3, Int.mul_add, Int.natCast_add]
      omega
theorem mg_lt {er wt : Nat → Bool} {hw : Nat → Int32} {A : Nat} (hA : A ≤ 9999) (hhw : ∀ p, p < 48 → er p = true → ∃ v : Nat, v ≤ 1000 ∧ hw p = nI v) {sa : Nat} (hs : sa < 8) {w : Nat → Nat} (hV : VAL er sa w) : mgS (reG er wt hw) (buG er wt) sa w < nI A ↔ Prb (fun p => (reG er wt hw p).toInt) (fun p => (buG er wt p).toInt) A w sa (8 - sa) < 0 := by
  obtain ⟨d, r, h1, h2, h3, h4, h5⟩ := prb_n (A := A) (wt := wt) hhw hV (8 - sa) (by omega)
  have hd5 : d ≤ 480 := by omega
  have hr5 : r ≤ 8000 := by omega
  rw [mgS, h3, h4, (mg_nat (dr := d) (rs := r) (by omega) (by omega)).1, h5]
  have hle : (if d = 0 then 9999 else if 100 * r / d < 9999 then 100 * r / d else 9999) ≤ 9999 := by
    split
    · omega
    · split <;> omega
  rw [nI_ltI (by omega) (by omega)]
  have key : ((if d = 0 then 9999 else if 100 * r / d < 9999 then 100 * r / d else 9999) < A) ↔ 100 * r < A * d := by
    by_cases e : d = 0
    · rw [if_pos e, e, Nat.mul_zero]
      omega
    · rw [if_neg e]
      have hdiv : 100 * r / d < A ↔ 100 * r < A * d := Nat.div_lt_iff_lt_mul (by omega)
      split
      · exact hdiv
      · constructor
        · intro q; omega
        · intro q
          have := hdiv.mpr q
          omega
  rw [key]
  have ec : ((A * d : Nat) : Int) = (A : Int) * (d : Int) := Int.natCast_mul A d
  rw [← ec]
  omega
theorem neg_ex {er wt : Nat → Bool} {hw : Nat → Int32} {A : Nat} (hA : A ≤ 9999) (hhw : ∀ p, p < 48 → er p = true → ∃ v : Nat, v ≤ 1000 ∧ hw p = nI v) : anyS (negT (reG er wt hw) (buG er wt) (nI A)) 8 = true ↔ ∃ c : Nat, c < 8 ∧ ∃ y : Nat, y < 5 + 1 ∧ exS er (fun p => (reG er wt hw p).toInt) (fun p => (buG er wt p).toInt) A c y 0 := by
  have hany : ∀ (f : Nat → Bool) (n : Nat), anyS f n = true ↔ ∃ k : Nat, k < n ∧ f k = true := by
    intro f n
    induction n with
    | zero => exact ⟨fun h => absurd h (by simp [anyS]), fun ⟨k, h, _⟩ => absurd h (Nat.not_lt_zero k)⟩
    | succ n ih =>
      rw [anyS, Bool.or_eq_true, ih]
      constructor
      · rintro (⟨k, h1, h2⟩ | h)
        · exact ⟨k, by omega, h2⟩
        · exact ⟨n, by omega, h⟩
      · rintro ⟨k, h1, h2⟩
        by_cases e : k = n
        · rw [e] at h2; exact Or.inr h2
        · exact Or.inl ⟨k, by omega, h2⟩
  have hR : ∀ p, p < 48 → (er p = true → ∃ r : Nat, r ≤ 1000 ∧ reG er wt hw p = nI r ∧ (reG er wt hw p).toInt = r) ∧ (er p = false → reG er wt hw p = -1) := by
    intro p hp
    refine ⟨fun he => ?_, fun he => (re_neg hhw p hp).mpr he⟩
    obtain ⟨v, h1, h2⟩ := hhw p hp he
    have : ∃ u : Nat, u ≤ 1000 ∧ reG er wt hw p = nI u := by
      rw [reG, he, if_pos rfl, h2]
      split
      · refine ⟨v / 2, by omega, ?_⟩
        show nI v / nI 2 = _
        exact pk_div (by omega) (by omega) (by omega)
      · exact ⟨v, h1, rfl⟩
    obtain ⟨u, h3, h4⟩ := this
    exact ⟨u, h3, h4, by rw [h4]; exact nI_toInt (by omega)⟩
  have hB : ∀ p, p < 48 → ∃ b : Nat, b ≤ 10 ∧ buG er wt p = nI b ∧ (buG er wt p).toInt = b := by
    intro p hp
    obtain ⟨b, h1, h2⟩ := buC_n er wt (p % 8) (5 - p / 8)
    have h3 : buG er wt p = nI b := h2
    exact ⟨b, by omega, h3, by rw [h3]; exact nI_toInt (by omega)⟩
  have hbal := bal_low (er := er) hA hR hB
  have hneg : ∀ c, c < 8 → ∀ y, y < 6 → (balC (reG er wt hw) (buG er wt) (nI A) c y < 0 ↔ exS er (fun p => (reG er wt hw p).toInt) (fun p => (buG er wt p).toInt) A c y 0) := by
    intro c hc y hy
    rcases hbal c hc y hy with ⟨h1, h2⟩ | ⟨h1, h2, h3⟩
    · rw [h1]
      exact ⟨fun q => absurd q (by decide), fun q => absurd q (h2 0)⟩
    · rw [h3, Int32.lt_iff_toInt_lt, zero_i]
  rw [hany]
  constructor
  · rintro ⟨c, h1, h2⟩
    rw [negT, hany] at h2
    obtain ⟨j, h3, h4⟩ := h2
    exact ⟨c, h1, 5 - j, by omega, (hneg c h1 (5 - j) (by omega)).mp (of_decide_eq_true h4)⟩
  · rintro ⟨c, h1, y, h2, h3⟩
    refine ⟨c, h1, ?_⟩
    rw [negT, hany]
    refine ⟨5 - y, by omega, decide_eq_true ?_⟩
    rw [show 5 - (5 - y) = y by omega]
    exact (hneg c h1 y (by omega)).mpr h3
theorem ok_eq {er wt wt2 : Nat → Bool} {hw ho mo : Nat → Int32} {mg : Int32 → Nat → (Nat → Nat) → Int32} {st : Int32} (hmg : mg st = mgT er wt2 ho mo) (hwt : ∀ p, p < 48 → wt p = wt2 p) (hho : ∀ y x, y < 6 → x < 8 → er (8 * y + x) = true → hw (8 * y + x) = ho (8 * y + x) + mo x) (hhw : ∀ p, p < 48 → er p = true → ∃ v : Nat, v ≤ 1000 ∧ hw p = nI v) {A : Nat} (hA : A ≤ 9999) : (!anyS (negT (reG er wt hw) (buG er wt) (nI A)) 8) = okM er mg (nI A) st := by
  have h1 := neg_ex (er := er) (wt := wt) hA hhw
  have h2 := okM_low (er := er) (mg := mg) (v := nI A) (st := st)
  have h3 : (∃ sa : Nat, sa < 8 ∧ exE er (fun w => mg st sa w < nI A) (7 - sa) sa 5 (fun _ => 0)) ↔ ∃ c : Nat, c < 8 ∧ ∃ y : Nat, y < 5 + 1 ∧ exS er (fun p => (reG er wt hw p).toInt) (fun p => (buG er wt p).toInt) A c y 0 := by
    have key : ∀ sa, sa < 8 → (exE er (fun w => mg st sa w < nI A) (7 - sa) sa 5 (fun _ => 0) ↔ ∃ y : Nat, y < 5 + 1 ∧ exS er (fun p => (reG er wt hw p).toInt) (fun p => (buG er wt p).toInt) A (7 - sa) y 0) := by
      intro sa hs
      rw [ex_congr (sa := sa) (P' := fun w => Prb (fun p => (reG er wt hw p).toInt) (fun p => (buG er wt p).toInt) A w sa (8 - sa) < 0) (fun w hV => by rw [hmg, ← (mg_eq hwt hho hhw hs hV).1]; exact mg_lt hA hhw hs hV) (7 - sa) sa 5 (fun _ => 0) (by omega) (Nat.le_refl _) (by omega) (Or.inl rfl) rfl (fun j a b => absurd a (by omega)) (fun j a b => absurd a (by omega))]
      rw [ex_pre (7 - sa) sa 5 (fun _ => 0) (by omega) (Nat.le_refl _) rfl]
      refine exists_congr (fun y => and_congr_right (fun _ => ?_))
      rw [Nat.sub_self]
      show exS _ _ _ _ _ _ (-0) ↔ _
      rw [Int.neg_zero]
    constructor
    · rintro ⟨sa, q1, q2⟩
      exact ⟨7 - sa, by omega, (key sa q1).mp q2⟩
    · rintro ⟨c, q1, q2⟩
      refine ⟨7 - c, by omega, (key (7 - c) (by omega)).mpr ?_⟩
      rw [show 7 - (7 - c) = c by omega]
      exact q2
  rw [h3, ← h1] at h2
  cases hn : anyS (negT (reG er wt hw) (buG er wt) (nI A)) 8 with
  | true => exact (h2.mpr hn).symm
  | false =>
    cases ho : okM er mg (nI A) st with
    | true => rfl
    | false => rw [h2.mp ho] at hn; cases hn
