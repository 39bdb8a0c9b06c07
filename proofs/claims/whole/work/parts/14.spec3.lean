-- answers of the public methods: numbers that are as told
def L10 : Int64 := 10
def L100 : Int64 := 100
def L1000 : Int64 := 1000
def L10000 : Int64 := 10000
def L255 : Int64 := 255
def L11 : Int64 := 11
def L111 : Int64 := 111
def L1011 : Int64 := 1011
def L10001 : Int64 := 10001
def inC (x y : Int32) : Bool := wiB x 0 7 && wiB y 0 5
def plc (x y : Int32) : Nat := 8 * y.toNatClampNeg + x.toNatClampNeg
theorem wiB_n {v : Int32} {M : Nat} (hM : M < 2147483648) (h : wiB v 0 (nI M) = true) : ∃ n : Nat, n ≤ M ∧ v = nI n ∧ v.toNatClampNeg = n := by
  simp only [wiB, Bool.and_eq_true, Bool.not_eq_true', decide_eq_false_iff_not] at h
  obtain ⟨j, hj, rfl⟩ := nI_of h.1
  have h2 : ¬ M < j := fun q => h.2 (nI_lt q hj)
  exact ⟨j, by omega, rfl, nI_clamp hj⟩
theorem wiB_1 {v : Int32} {M : Nat} (hM : M < 2147483648) (h : wiB v 1 (nI M) = true) : ∃ n : Nat, 1 ≤ n ∧ n ≤ M ∧ v = nI n ∧ v.toNatClampNeg = n := by
  simp only [wiB, Bool.and_eq_true, Bool.not_eq_true', decide_eq_false_iff_not] at h
  have h0 : ¬ v < 0 := fun q => h.1 (Int32.lt_trans q (by decide))
  obtain ⟨j, hj, rfl⟩ := nI_of h0
  have h1 : 1 ≤ j := by
    rcases Nat.eq_zero_or_pos j with q | q
    · subst q; exact absurd (by decide) h.1
    · exact q
  have h2 : ¬ M < j := fun q => h.2 (nI_lt q hj)
  exact ⟨j, h1, by omega, rfl, nI_clamp hj⟩
theorem inC_n {x y : Int32} (h : inC x y = true) : ∃ xn yn : Nat, xn < 8 ∧ yn < 6 ∧ x = nI xn ∧ y = nI yn ∧ x.toNatClampNeg = xn ∧ y.toNatClampNeg = yn := by
  simp only [inC, Bool.and_eq_true] at h
  obtain ⟨a, h1, h2, h3⟩ := wiB_n (M := 7) (by omega) h.1
  obtain ⟨b, h4, h5, h6⟩ := wiB_n (M := 5) (by omega) h.2
  exact ⟨a, b, by omega, by omega, h2, h5, h3, h6⟩
def cellS (zo he go : Nat → Int32) (x y wh : Int32) : Int32 := if inC x y && wiB wh 0 3 then (if wh = 0 then (if isAirS zo (plc x y) then -9 else zo (plc x y)) else if isAirS zo (plc x y) then -2 else if wh = 1 then he (plc x y) else if wh = 2 then pushS he (plc x y) else go (plc x y)) else -1
def zvB (z wh v : Int32) : Bool := wiB z 0 5 && (wiB wh 0 2 && wiB v 1 99)
def zoneS (le hd gn : Nat → Int32) (z wh v : Int32) : Int32 := if zvB z wh v then (if wh = 0 then le z.toNatClampNeg else if wh = 1 then hd z.toNatClampNeg else gn z.toNatClampNeg) else -1
def zupS (f : Nat → Int32) (z wh v w : Int32) (b : Bool) : Nat → Int32 := if zvB z wh v && b then upd f z.toNatClampNeg v else f
/-- loads and the trace -/
def lpS (p : Nat) : Int32 := nI (10 + p / 8)
def lcS (he : Nat → Int32) (p : Nat) : Int32 := lpS p + pushS he p / 100
def loadS (zo he hd : Nat → Int32) (kd x y : Int32) : Int32 := if wiB kd 0 4 && inC x y then (if isAirS zo (plc x y) then -2 else if kd = 0 then lpS (plc x y) else if kd = 1 then lcS he (plc x y) else if kd = 2 then lcS he (plc x y) - lcS he (plc x y) / 3 else if kd = 3 then lcS he (plc x y) / 2 else lpS (plc x y) - holdS zo hd (plc x y) / 10) else -1
def ltrS (zo : Nat → Int32) (kd x y : Int32) (tr : Int64) : Int64 := if wiB kd 0 4 && inC x y && !isAirS zo (plc x y) then (if kd = 0 then tr + 1 else if kd = 1 then tr + L10 + 1 else if kd = 2 then tr + L100 + L10 + 1 else if kd = 3 then tr + L1000 + L10 + 1 else tr + L10000 + 1) else tr
theorem tbl_out3 {x : Int32} (h0 : ¬ x = 0) (h1 : ¬ x = 1) (h2 : ¬ x = 2) (h3 : ¬ x = 3) : x.toInt < 0 ∨ 3 < x.toInt := by
  rw [← Int32.toInt_inj] at h0 h1 h2 h3
  have e0 : (0 : Int32).toInt = 0 := by decide
  have e1 : (1 : Int32).toInt = 1 := by decide
  have e2 : (2 : Int32).toInt = 2 := by decide
  have e3 : (3 : Int32).toInt = 3 := by decide
  omega
theorem tbl_out7 {x : Int32} (h0 : ¬ x = 0) (h1 : ¬ x = 1) (h2 : ¬ x = 2) (h3 : ¬ x = 3) (h4 : ¬ x = 4) (h5 : ¬ x = 5) (h6 : ¬ x = 6) (h7 : ¬ x = 7) : x.toInt < 0 ∨ 7 < x.toInt := by
  rw [← Int32.toInt_inj] at h0 h1 h2 h3 h4 h5 h6 h7
  have e0 : (0 : Int32).toInt = 0 := by decide
  have e1 : (1 : Int32).toInt = 1 := by decide
  have e2 : (2 : Int32).toInt = 2 := by decide
  have e3 : (3 : Int32).toInt = 3 := by decide
  have e4 : (4 : Int32).toInt = 4 := by decide
  have e5 : (5 : Int32).toInt = 5 := by decide
  have e6 : (6 : Int32).toInt = 6 := by decide
  have e7 : (7 : Int32).toInt = 7 := by decide
  omega
/-- the highest lake: from above -/
def higF (zo go le hd gn : Nat → Int32) (ff : Int32) (lv : Nat) : Int32 := dbS zo (swS (paS zo go le) (nI lv) (fun _ => 0) 40) hd gn ff 48 1 go
def hgS (F : Nat → Int32) : Nat → Int32
  | 0 => -9
  | m + 1 => if F m = -9 then nI m else hgS F m
