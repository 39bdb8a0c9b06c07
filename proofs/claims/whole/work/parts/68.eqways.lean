-- THE TWO WALKS OVER WAYS ARE ALIKE
theorem sumA_front {f : Nat → Int32} {x : Nat} : ∀ {k : Nat}, x < k → sumA f x k = f x + sumA f (x + 1) k
  | 0, h => absurd h (Nat.not_lt_zero x)
  | k + 1, h => by
    by_cases e : x = k
    · subst e
      rw [sumA_s (Nat.le_refl x), sumA_0, sumA_0, Int32.zero_add, Int32.add_zero]
    · rw [sumA_s (show x ≤ k by omega), sumA_front (show x < k by omega), sumA_s (show x + 1 ≤ k by omega), Int32.add_assoc]
theorem bu_sum (er wt : Nat → Bool) (x : Nat) : ∀ k, k ≤ 6 → buC er wt x k = sumA (buT er wt x) (6 - k) 6
  | 0, _ => by rw [Nat.sub_zero, sumA_0]; rfl
  | k + 1, hk => by
    rw [sumA_front (show 6 - (k + 1) < 6 by omega), show 6 - (k + 1) + 1 = 6 - k by omega, ← bu_sum er wt x k (by omega), buT, show 6 - (k + 1) = 5 - k by omega]
    rw [buC]
    split
    · exact Int32.add_comm _ _
    · exact (Int32.zero_add _).symm
theorem bu_eq {er wt : Nat → Bool} {x y : Nat} (hx : x < 8) (hy : y < 6) : buG er wt (8 * y + x) = sumA (buT er wt x) (y + 1) 6 := by
  rw [buG, show (8 * y + x) % 8 = x by omega, show 5 - (8 * y + x) / 8 = 5 - y by omega, bu_sum er wt x (5 - y) (by omega), show 6 - (5 - y) = y + 1 by omega]
theorem buC_n (er wt : Nat → Bool) (x : Nat) : ∀ k, ∃ b : Nat, b ≤ 2 * k ∧ buC er wt x k = nI b
  | 0 => ⟨0, by omega, rfl⟩
  | k + 1 => by
    obtain ⟨b, h1, h2⟩ := buC_n er wt x k
    rw [buC]
    split
    · rw [h2]
      split
      · exact ⟨b + 2, by omega, nI_add b 2⟩
      · exact ⟨b + 1, by omega, nI_add b 1⟩
    · exact ⟨b, by omega, h2⟩
/-- what is known of the works' rows -/
def VAL (er : Nat → Bool) (sa : Nat) (w : Nat → Nat) : Prop := w 8 = 0 ∧ (∀ j, sa ≤ j → j < 8 → w j < 6 ∧ er (8 * w j + j) = true) ∧ ∀ j, sa ≤ j → j < 7 → w (j + 1) ≤ w j
section WAYS
variable {er wt : Nat → Bool} {hw ho mo : Nat → Int32}
theorem fac_eq (a b : Nat) : nI (1 + a) - nI b = 1 + (nI a - nI b) := by
  rw [← nI_add]
  show nI 1 + nI a - nI b = nI 1 + (nI a - nI b)
  rw [Int32.sub_eq_add_neg, Int32.sub_eq_add_neg, Int32.add_assoc]
theorem dv_sum {wt2 : Nat → Bool} (hwt : ∀ p, p < 48 → wt p = wt2 p) {sa : Nat} {w : Nat → Nat} (hV : VAL er sa w) : ∀ n, sa + n ≤ 8 → dvS (buG er wt) w sa n = sumA (drT er wt2 w) sa (sa + n)
  | 0, _ => by rw [Nat.add_zero, sumA_0]; rfl
  | n + 1, hn => by
    have h6 := (hV.2.1 (sa + n) (by omega) (by omega)).1
    rw [dvS, dv_sum hwt hV n (by omega), show sa + (n + 1) = (sa + n) + 1 by omega, sumA_s (show sa ≤ sa + n by omega), drT, bu_eq (by omega) h6]
    have e1 : sumA (buT er wt (sa + n)) (w (sa + n) + 1) 6 = sumA (buT er wt2 (sa + n)) (w (sa + n) + 1) 6 := by
      have key : ∀ k, k ≤ 6 → sumA (buT er wt (sa + n)) (6 - k) 6 = sumA (buT er wt2 (sa + n)) (6 - k) 6 := by
        intro k
        induction k with
        | zero => intro _; rw [Nat.sub_zero, sumA_0, sumA_0]
        | succ k ih =>
          intro hk
          rw [sumA_front (show 6 - (k + 1) < 6 by omega), sumA_front (f := buT er wt2 (sa + n)) (show 6 - (k + 1) < 6 by omega), show 6 - (k + 1) + 1 = 6 - k by omega, ih (by omega), buT, buT, hwt (8 * (6 - (k + 1)) + (sa + n)) (by omega)]
      have := key (6 - (w (sa + n) + 1)) (by omega)
      rw [show 6 - (6 - (w (sa + n) + 1)) = w (sa + n) + 1 by omega] at this
      exact this
    rw [e1, fac_eq]
    by_cases h7 : sa + n = 7
    · rw [h7, if_pos rfl, hV.1]
      rfl
    · rw [if_neg h7]
theorem rs_sum {wt2 : Nat → Bool} (hwt : ∀ p, p < 48 → wt p = wt2 p) (hho : ∀ y x, y < 6 → x < 8 → er (8 * y + x) = true → hw (8 * y + x) = ho (8 * y + x) + mo x) {sa : Nat} {w : Nat → Nat} (hV : VAL er sa w) : ∀ n, sa + n ≤ 8 → rsS (reG er wt hw) w sa n = sumA (rsT ho mo wt2 w) sa (sa + n)
  | 0, _ => by rw [Nat.add_zero, sumA_0]; rfl
  | n + 1, hn => by
    have h6 := hV.2.1 (sa + n) (by omega) (by omega)
    rw [rsS, rs_sum hwt hho hV n (by omega), show sa + (n + 1) = (sa + n) + 1 by omega, sumA_s (show sa ≤ sa + n by omega), rsT, reG, h6.2, hwt _ (by omega), hho _ _ h6.1 (by omega) h6.2, if_pos rfl]
/-- drive and rest as numbers -/
theorem dv_nat {sa : Nat} {w : Nat → Nat} (hV : VAL er sa w) : ∀ n, sa + n ≤ 8 → ∃ d : Nat, d ≤ 60 * n ∧ dvS (buG er wt) w sa n = nI d
  | 0, _ => ⟨0, by omega, rfl⟩
  | n + 1, hn => by
    obtain ⟨d, h1, h2⟩ := dv_nat hV n (by omega)
    have h6 := (hV.2.1 (sa + n) (by omega) (by omega)).1
    have hm : w (sa + n + 1) ≤ w (sa + n) := by
      by_cases h7 : sa + n = 7
      · rw [h7, hV.1]; omega
      · exact hV.2.2 (sa + n) (by omega) (by omega)
    obtain ⟨b, h3, h4⟩ := buC_n er wt ((8 * w (sa + n) + (sa + n)) % 8) (5 - (8 * w (sa + n) + (sa + n)) / 8)
    refine ⟨d + b * (1 + w (sa + n) - w (sa + n + 1)), ?_, ?_⟩
    · have hb : b ≤ 10 := by omega
      have hf : 1 + w (sa + n) - w (sa + n + 1) ≤ 6 := by omega
      have : b * (1 + w (sa + n) - w (sa + n + 1)) ≤ 10 * 6 := Nat.mul_le_mul hb hf
      omega
    · rw [dvS, h2, pk_sub (by omega), buG, h4, pk_mul, nI_add]
theorem rs_nat (hhw : ∀ p, p < 48 → er p = true → ∃ v : Nat, v ≤ 1000 ∧ hw p = nI v) {sa : Nat} {w : Nat → Nat} (hV : VAL er sa w) : ∀ n, sa + n ≤ 8 → ∃ d : Nat, d ≤ 1000 * n ∧ rsS (reG er wt hw) w sa n = nI d
  | 0, _ => ⟨0, by omega, rfl⟩
  | n + 1, hn => by
    obtain ⟨d, h1, h2⟩ := rs_nat hhw hV n (by omega)
    have h6 := hV.2.1 (sa + n) (by omega) (by omega)
    obtain ⟨v, h3, h4⟩ := hhw (8 * w (sa + n) + (sa + n)) (by omega) h6.2
    rw [rsS, h2, reG, h6.2, if_pos rfl, h4]
    split
    · refine ⟨d + v / 2, by omega, ?_⟩
      show nI d + nI v / nI 2 = _
      rw [pk_div (by omega) (by omega) (by omega), nI_add]
    · exact ⟨d + v, by omega, nI_add _ _⟩
theorem mg_nat {dr rs : Nat} (hd : dr < 1000000) (hr : rs < 1000000) : mgI (nI dr) (nI rs) = nI (if dr = 0 then 9999 else if 100 * rs / dr < 9999 then 100 * rs / dr else 9999) ∧ mgM (nI dr) (nI rs) = nI (if dr = 0 then 9999 else if 100 * rs / dr < 9999 then 100 * rs / dr else 9999) := by
  rw [mgI, mgM]
  by_cases h : dr = 0
  · subst h
    rw [if_pos (show nI 0 ≤ 0 by decide), if_pos rfl, if_pos (show nI 0 = 0 from rfl), if_pos (by decide)]
    exact ⟨rfl, rfl⟩
  · have h1 : ¬ nI dr ≤ 0 := fun q => h (by have := (nI_leI (a := dr) (b := 0) (by omega) (by omega)).mp q; omega)
    have h2 : ¬ nI dr = 0 := fun q => h ((nI_eq (a := dr) (b := 0) (by omega) (by omega)).mp q)
    have e : (100 : Int32) * nI rs / nI dr = nI (100 * rs / dr) := by
      show nI 100 * nI rs / nI dr = _
      rw [pk_mul, pk_div (by omega) (by omega) (by omega)]
    have hq : 100 * rs / dr < 2 ^ 31 := Nat.lt_of_le_of_lt (Nat.div_le_self _ _) (by omega)
    rw [if_neg h1, if_neg h, if_neg h2, e]
    constructor
    · by_cases c : 100 * rs / dr < 9999
      · rw [if_pos c, if_pos (show nI (100 * rs / dr) < 9999 from (nI_ltI (b := 9999) hq (by omega)).mpr c)]
      · rw [if_neg c, if_neg (show ¬ nI (100 * rs / dr) < 9999 from fun q => c ((nI_ltI (b := 9999) hq (by omega)).mp q))]
        rfl
    · by_cases c : 100 * rs / dr < 9999
      · rw [if_pos c, if_pos (show nI (100 * rs / dr) ≤ 9999 from (nI_leI (b := 9999) hq (by omega)).mpr (by omega))]
      · rw [if_neg c]
        by_cases c2 : 100 * rs / dr ≤ 9999
        · rw [if_pos (show nI (100 * rs / dr) ≤ 9999 from (nI_leI (b := 9999) hq (by omega)).mpr c2), show 100 * rs / dr = 9999 by omega]
        · rw [if_neg (show ¬ nI (100 * rs / dr) ≤ 9999 from fun q => c2 ((nI_leI (b := 9999) hq (by omega)).mp q))]
          rfl
theorem mg_eq {wt2 : Nat → Bool} (hwt : ∀ p, p < 48 → wt p = wt2 p) (hho : ∀ y x, y < 6 → x < 8 → er (8 * y + x) = true → hw (8 * y + x) = ho (8 * y + x) + mo x) (hhw : ∀ p, p < 48 → er p = true → ∃ v : Nat, v ≤ 1000 ∧ hw p = nI v) {sa : Nat} (hs : sa < 8) {w : Nat → Nat} (hV : VAL er sa w) :
    mgS (reG er wt hw) (buG er wt) sa w = mgT er wt2 ho mo sa w ∧ ∃ m : Nat, m ≤ 9999 ∧ mgS (reG er wt hw) (buG er wt) sa w = nI m := by
  obtain ⟨d, h1, h2⟩ := dv_nat (wt := wt) hV (8 - sa) (by omega)
  obtain ⟨r, h3, h4⟩ := rs_nat (wt := wt) hhw hV (8 - sa) (by omega)
  have e1 := dv_sum hwt hV (8 - sa) (by omega)
  have e2 := rs_sum hwt hho hV (8 - sa) (by omega)
  rw [show sa + (8 - sa) = 8 by omega] at e1 e2
  have hm := mg_nat (dr := d) (rs := r) (by omega) (by omega)
  constructor
  · rw [mgS, mgT, ← e1, ← e2, h2, h4, hm.1, hm.2]
  · refine ⟨_, ?_, by rw [mgS, h2, h4]; exact hm.1⟩
    split
    · omega
    · split <;> omega
theorem foldN_congr {α : Type} {f g : Nat → α → α} : ∀ {n : Nat} {a : α}, (∀ y a, y < n → f y a = g y a) → foldN f n a = foldN g n a
  | 0, _, _ => rfl
  | n + 1, a, h => by rw [foldN, foldN, foldN_congr (fun y a hy => h y a (by omega)), h n _ (by omega)]
theorem val_up {sa x y hi : Nat} {w : Nat → Nat} (hx : x < 8) (hh : x = sa ∨ (sa < x ∧ hi = w (x - 1))) (hy : y ≤ hi) (h5 : hi ≤ 5) (he : er (8 * y + x) = true) (h8 : w 8 = 0) (hv : ∀ j, sa ≤ j → j < x → w j < 6 ∧ er (8 * w j + j) = true) (hm : ∀ j, sa ≤ j → j + 1 < x → w (j + 1) ≤ w j) :
    upN w x y 8 = 0 ∧ (∀ j, sa ≤ j → j < x + 1 → upN w x y j < 6 ∧ er (8 * upN w x y j + j) = true) ∧ (∀ j, sa ≤ j → j + 1 < x + 1 → upN w x y (j + 1) ≤ upN w x y j) := by
  refine ⟨by rw [upN_n (by omega)]; exact h8, fun j h1 h2 => ?_, fun j h1 h2 => ?_⟩
  · by_cases e : j = x
    · subst e; rw [upN_s]; exact ⟨by omega, he⟩
    · rw [upN_n e]; exact hv j h1 (by omega)
  · by_cases e : j + 1 = x
    · rw [e, upN_s, upN_n (by omega)]
      rcases hh with h | h
      · omega
      · rw [show j = x - 1 by omega, ← h.2]; exact hy
    · rw [upN_n e, upN_n (by omega)]; exact hm j h1 (by omega)
/-- the walk by rests is the walk by earth, if the leaves are alike on ways -/
theorem wk_eq {α : Type} {re : Nat → Int32} (hre : ∀ p, p < 48 → (re p = -1 ↔ er p = false)) {sa : Nat} {leaf leaf' : (Nat → Nat) → α → α} (hl : ∀ w a, VAL er sa w → leaf w a = leaf' w a) : ∀ (d x hi : Nat) (w : Nat → Nat) (a : α), x + d = 7 → sa ≤ x → hi ≤ 5 → (x = sa ∨ (sa < x ∧ hi = w (x - 1))) → w 8 = 0 → (∀ j, sa ≤ j → j < x → w j < 6 ∧ er (8 * w j + j) = true) → (∀ j, sa ≤ j → j + 1 < x → w (j + 1) ≤ w j) → wkS re leaf d x hi w a = wkE er leaf' d x hi w a
  | 0, x, hi, w, a, hx, hs, h5, hh, h8, hv, hm => by
    rw [wkS, wkE]
    refine foldN_congr (fun y a hy => ?_)
    have h48 : 8 * y + x < 48 := by omega
    cases he : er (8 * y + x) with
    | false => rw [if_pos ((hre _ h48).mpr he), if_neg (by decide)]
    | true =>
      rw [if_neg (fun q => by rw [(hre _ h48).mp q] at he; cases he), if_pos rfl]
      have hu := val_up (er := er) (by omega) hh (show y ≤ hi by omega) h5 he h8 hv hm
      exact hl _ _ ⟨hu.1, fun j h1 h2 => hu.2.1 j h1 (by omega), fun j h1 h2 => hu.2.2 j h1 (by omega)⟩
  | d + 1, x, hi, w, a, hx, hs, h5, hh, h8, hv, hm => by
    rw [wkS, wkE]
    refine foldN_congr (fun y a hy => ?_)
    have h48 : 8 * y + x < 48 := by omega
    cases he : er (8 * y + x) with
    | false => rw [if_pos ((hre _ h48).mpr he), if_neg (by decide)]
    | true =>
      rw [if_neg (fun q => by rw [(hre _ h48).mp q] at he; cases he), if_pos rfl]
      have hu := val_up (er := er) (by omega) hh (show y ≤ hi by omega) h5 he h8 hv hm
      exact wk_eq hre hl d (x + 1) y (upN w x y) a (by omega) (by omega) (by omega) (Or.inr ⟨by omega, by rw [show x + 1 - 1 = x by omega, upN_s]⟩) hu.1 hu.2.1 hu.2.2
theorem re_neg (hhw : ∀ p, p < 48 → er p = true → ∃ v : Nat, v ≤ 1000 ∧ hw p = nI v) : ∀ p, p < 48 → (reG er wt hw p = -1 ↔ er p = false) := by
  intro p hp
  rw [reG]
  cases he : er p with
  | false => exact ⟨fun _ => rfl, fun _ => rfl⟩
  | true =>
    obtain ⟨v, h1, h2⟩ := hhw p hp he
    refine ⟨fun q => ?_, fun q => by cases q⟩
    exfalso
    rw [if_pos rfl, h2] at q
    split at q
    · have e : nI v / 2 = nI (v / 2) := by
        show nI v / nI 2 = _
        exact pk_div (by omega) (by omega) (by omega)
      rw [e] at q
      have h3 := congrArg Int32.toInt q
      rw [nI_toInt (by omega)] at h3
      have e1 : (-1 : Int32).toInt = -1 := by decide
      omega
    · have h3 := congrArg Int32.toInt q
      rw [nI_toInt (by omega)] at h3
      have e1 : (-1 : Int32).toInt = -1 := by decide
      omega
theorem wal_eq {wt2 : Nat → Bool} (hwt : ∀ p, p < 48 → wt p = wt2 p) (hho : ∀ y x, y < 6 → x < 8 → er (8 * y + x) = true → hw (8 * y + x) = ho (8 * y + x) + mo x) (hhw : ∀ p, p < 48 → er p = true → ∃ v : Nat, v ≤ 1000 ∧ hw p = nI v) (am : Int32) : ∀ n, n ≤ 8 → walS (reG er wt hw) (buG er wt) am n = walM er (mgT er wt2 ho mo) am n
  | 0, _ => rfl
  | n + 1, hn => by
    show wkS _ (metS _ _ am n) (7 - n) n 5 (fun _ => 0) (walS (reG er wt hw) (buG er wt) am n) = wkE er (metM (mgT er wt2 ho mo n) am n) (7 - n) n 5 (fun _ => 0) (walM er (mgT er wt2 ho mo) am n)
    rw [wal_eq hwt hho hhw am n (by omega)]
    refine wk_eq (sa := n) (re_neg hhw) (fun w a hV => ?_) (7 - n) n 5 _ _ (by omega) (by omega) (by omega) (Or.inl rfl) rfl (fun j h1 h2 => absurd h1 (by omega)) (fun j h1 h2 => absurd h1 (by omega))
    have e := (mg_eq hwt hho hhw (by omega) hV).1
    rw [metS, metM, e]
    obtain ⟨a1, a2⟩ := a
    cases a2 <;> rfl
theorem mg9 {wt2 : Nat → Bool} (hwt : ∀ p, p < 48 → wt p = wt2 p) (hho : ∀ y x, y < 6 → x < 8 → er (8 * y + x) = true → hw (8 * y + x) = ho (8 * y + x) + mo x) (hhw : ∀ p, p < 48 → er p = true → ∃ v : Nat, v ≤ 1000 ∧ hw p = nI v) (sa : Nat) (wv : Nat → Nat) (hs : sa < 8) (h1 : ∀ j, sa ≤ j → j < 8 → wv j < 6 ∧ er (8 * wv j + j) = true) (h2 : ∀ j, sa ≤ j → j < 7 → wv (j + 1) ≤ wv j) : ¬ mgT er wt2 ho mo sa wv = -9 := by
  have hV : VAL er sa (upN wv 8 0) := ⟨upN_s wv 8 0, fun j a b => by rw [upN_n (by omega)]; exact h1 j a b, fun j a b => by rw [upN_n (by omega), upN_n (by omega)]; exact h2 j a b⟩
  obtain ⟨e, m, hm, em⟩ := mg_eq hwt hho hhw hs hV
  have e3 : mgT er wt2 ho mo sa wv = mgT er wt2 ho mo sa (upN wv 8 0) := by
    have a1 : ∀ n, sa + n ≤ 8 → sumA (drT er wt2 wv) sa (sa + n) = sumA (drT er wt2 (upN wv 8 0)) sa (sa + n) := by
      intro n
      induction n with
      | zero => intro _; rw [Nat.add_zero, sumA_0, sumA_0]
      | succ n ih =>
        intro hn
        rw [show sa + (n + 1) = (sa + n) + 1 by omega, sumA_s (show sa ≤ sa + n by omega), sumA_s (f := drT er wt2 (upN wv 8 0)) (show sa ≤ sa + n by omega), ih (by omega), drT, drT, upN_n (show sa + n ≠ 8 by omega)]
        by_cases h7 : sa + n = 7
        · rw [if_pos h7, if_pos h7]
        · rw [if_neg h7, if_neg h7, upN_n (show sa + n + 1 ≠ 8 by omega)]
    have a2 : ∀ n, sa + n ≤ 8 → sumA (rsT ho mo wt2 wv) sa (sa + n) = sumA (rsT ho mo wt2 (upN wv 8 0)) sa (sa + n) := by
      intro n
      induction n with
      | zero => intro _; rw [Nat.add_zero, sumA_0, sumA_0]
      | succ n ih =>
        intro hn
        rw [show sa + (n + 1) = (sa + n) + 1 by omega, sumA_s (show sa ≤ sa + n by omega), sumA_s (f := rsT ho mo wt2 (upN wv 8 0)) (show sa ≤ sa + n by omega), ih (by omega), rsT, rsT, upN_n (show sa + n ≠ 8 by omega)]
    have b1 := a1 (8 - sa) (by omega)
    have b2 := a2 (8 - sa) (by omega)
    rw [show sa + (8 - sa) = 8 by omega] at b1 b2
    rw [mgT, mgT, b1, b2]
  rw [e3, ← e, em]
  intro q
  have h3 := congrArg Int32.toInt q
  rw [nI_toInt (by omega)] at h3
  have e9 : (-9 : Int32).toInt = -9 := by decide
  omega
end WAYS
