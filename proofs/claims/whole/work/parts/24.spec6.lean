-- the twin's days
theorem bI_1t {b : Bool} (h : bI b = 1) : b = true := by cases b with | true => rfl | false => exact absurd h (by decide)
theorem bI_1f {b : Bool} (h : ¬ bI b = 1) : b = false := by cases b with | false => rfl | true => exact absurd rfl h
theorem bI_o1 (b : Bool) : bI b ||| 1 = bI true := by cases b <;> decide
theorem bI_o0 (b : Bool) : bI b ||| 0 = bI b := by cases b <;> decide
def opTM (zo go gn : Nat → Int32) (ff : Int32) (c d : Nat) : Bool := match nb c (pd d) with
  | none => false
  | some q => !isAirS zo q && (decide (go q = 1) || !decide (atZ zo gn q ≤ ff * atZ zo gn c))
def opB (zo : Nat → Int32) (c : Nat) : Bool := decide (c % 8 = 7) || isAirS zo (c + 1)
def loM (zo he go hd gn : Nat → Int32) (ff : Int32) (c : Nat) : Bool := isES zo go c && decide (20 * atZ zo hd c ≤ pushS he c) && (opB zo c || anyS (opTM zo go gn ff c) 4)
def lgM (zo he go hd gn : Nat → Int32) (ff : Int32) (c : Nat) : Int32 := bI (loM zo he go hd gn ff c)
def dyM (zo he hd gn : Nat → Int32) (ff : Int32) (go : Nat → Int32) : Nat → Int32 := fun c => if loM zo he go hd gn ff c then 1 else go c
def dvM (f : Nat → Bool) : Nat → Int32
  | 0 => 0
  | k + 1 => dvM f k + bI (f k) + (if f k && (decide (k % 8 = 0) && decide (dvM f k + bI (f k) < 100)) then 100 else 0)
theorem dvM_s (f : Nat → Bool) (k : Nat) : dvM f (k + 1) = dvM f k + bI (f k) + (if f k && (decide (k % 8 = 0) && decide (dvM f k + bI (f k) < 100)) then 100 else 0) := rfl
theorem dvM_0 {f : Nat → Bool} : ∀ {n : Nat}, (∀ c, c < n → f c = false) → dvM f n = 0
  | 0, _ => rfl
  | n + 1, h => by rw [dvM_s, dvM_0 (fun c hc => h c (by omega)), h n (by omega)]; rfl
/-- how many cells are earth, as a number -/
def eN (zo go : Nat → Int32) : Nat → Nat
  | 0 => 0
  | n + 1 => eN zo go n + (if isES zo go n then 1 else 0)
theorem eN_le (zo go : Nat → Int32) : ∀ n, eN zo go n ≤ n
  | 0 => Nat.le_refl 0
  | n + 1 => by
    have := eN_le zo go n
    rw [eN]
    split <;> omega
theorem dyM_es {zo he hd gn go : Nat → Int32} {ff : Int32} {c : Nat} (h : isES zo (dyM zo he hd gn ff go) c = true) : isES zo go c = true ∧ loM zo he go hd gn ff c = false := by
  cases hb : loM zo he go hd gn ff c with
  | true =>
    have e : dyM zo he hd gn ff go c = 1 := by show (if loM zo he go hd gn ff c then (1 : Int32) else go c) = 1; rw [hb]; rfl
    simp [isES, e] at h
  | false =>
    have e : dyM zo he hd gn ff go c = go c := by show (if loM zo he go hd gn ff c then (1 : Int32) else go c) = go c; rw [hb]; rfl
    have h' : isES zo (dyM zo he hd gn ff go) c = isES zo go c := by simp only [isES, e]
    exact ⟨by rw [← h']; exact h, rfl⟩
theorem eN_mono {zo he hd gn go : Nat → Int32} {ff : Int32} : ∀ n, eN zo (dyM zo he hd gn ff go) n ≤ eN zo go n
  | 0 => Nat.le_refl 0
  | n + 1 => by
    have h1 := eN_mono (zo := zo) (he := he) (hd := hd) (gn := gn) (go := go) (ff := ff) n
    rw [eN, eN]
    cases hb : isES zo (dyM zo he hd gn ff go) n with
    | true => rw [(dyM_es hb).1]; simp only [if_true]; omega
    | false => simp only [Bool.false_eq_true, if_false]; split <;> omega
theorem eN_dec {zo he hd gn go : Nat → Int32} {ff : Int32} {c : Nat} (hc : loM zo he go hd gn ff c = true) : ∀ n, c < n → eN zo (dyM zo he hd gn ff go) n + 1 ≤ eN zo go n
  | 0, h => absurd h (Nat.not_lt_zero c)
  | n + 1, h => by
    rw [eN, eN]
    rcases Nat.lt_or_ge c n with q | q
    · have h1 := eN_dec (zo := zo) (he := he) (hd := hd) (gn := gn) (go := go) (ff := ff) hc n q
      cases hb : isES zo (dyM zo he hd gn ff go) n with
      | true => rw [(dyM_es hb).1]; simp only [if_true]; omega
      | false => simp only [Bool.false_eq_true, if_false]; split <;> omega
    · have e : n = c := by omega
      subst e
      have h1 := eN_mono (zo := zo) (he := he) (hd := hd) (gn := gn) (go := go) (ff := ff) n
      have h2 : isES zo go n = true := by
        simp only [loM, Bool.and_eq_true] at hc
        exact hc.1.1
      have h3 : isES zo (dyM zo he hd gn ff go) n = false := by
        cases hb : isES zo (dyM zo he hd gn ff go) n with
        | false => rfl
        | true => rw [(dyM_es hb).2] at hc; cases hc
      rw [h2, h3]
      simp
      omega
theorem eN_day {zo he hd gn go : Nat → Int32} {ff : Int32} (h : ¬ dvM (loM zo he go hd gn ff) 48 ≤ 0) : eN zo (dyM zo he hd gn ff go) 48 + 1 ≤ eN zo go 48 := by
  by_cases hh : ∃ c, c < 48 ∧ loM zo he go hd gn ff c = true
  · obtain ⟨c, h1, h2⟩ := hh
    exact eN_dec h2 48 h1
  · exfalso
    apply h
    rw [dvM_0 (f := loM zo he go hd gn ff) (fun c hc => by
      cases hb : loM zo he go hd gn ff c with
      | false => rfl
      | true => exact absurd ⟨c, hc, hb⟩ hh)]
    decide
def brkM (zo he hd gn : Nat → Int32) (ff : Int32) : Nat → Nat → (Nat → Int32) → Int32
  | 0, _, _ => -9
  | n + 1, d, go => if dvM (loM zo he go hd gn ff) 48 ≤ 0 ∨ 100 ≤ dvM (loM zo he go hd gn ff) 48 then (if dvM (loM zo he go hd gn ff) 48 = 0 then -9 else nI d) else brkM zo he hd gn ff n (d + 1) (dyM zo he hd gn ff go)
def brF (zo go le hd gn : Nat → Int32) (ff : Int32) (k : Nat) : Int32 := brkM zo (swN zo go le (nI k) (fun _ => 0) 40) hd gn ff 49 1 go
def hiM (F : Nat → Int32) : Nat → Int32
  | 0 => -9
  | k + 1 => if F k = -9 then nI k else hiM F k
