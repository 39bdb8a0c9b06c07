-- WHAT THE METHODS ANSWER, in words of their own
/-- zones by places: is a place AIR, EARTH .. -/
def isAirS (zo : Nat → Int32) (p : Nat) : Bool := decide (zo p < 0) || !decide (zo p < 6)
def isES (zo go : Nat → Int32) (p : Nat) : Bool := !isAirS zo p && decide (go p = 0)
def atZ (zo v : Nat → Int32) (p : Nat) : Int32 := v (zo p).toNatClampNeg
def holdS (zo hd : Nat → Int32) (p : Nat) : Int32 := if isAirS zo p then 0 else atZ zo hd p
def pushS (he : Nat → Int32) (p : Nat) : Int32 := if 0 < he p - nI (1000 * (p / 8)) then he p - nI (1000 * (p / 8)) else 0
def wetS (zo he go : Nat → Int32) (p : Nat) : Bool := isES zo go p && decide (0 < pushS he p)
/-- how many places ahead of n have a property -/
def cntS (f : Nat → Bool) : Nat → Int32
  | 0 => 0
  | n + 1 => if f n then cntS f n + 1 else cntS f n
def sumS (f : Nat → Int32) : Nat → Int32
  | 0 => 0
  | n + 1 => sumS f n + f n
theorem isAirS_f {zo : Nat → Int32} {p : Nat} (h : isAirS zo p = false) : ¬ zo p < 0 ∧ zo p < 6 := by
  simpa [isAirS] using h
theorem zo_in {zo : Nat → Int32} {p : Nat} (h : isAirS zo p = false) : vp_in (zo p) 6 := by
  obtain ⟨h1, h2⟩ := isAirS_f h
  rw [vp_in_iff]
  rw [Int32.lt_iff_toInt_lt] at h1 h2
  have e0 : (0 : Int32).toInt = 0 := by decide
  have e6 : (6 : Int32).toInt = 6 := by decide
  omega
theorem dec_nI {a b : Nat} (h : a = b + 1) : nI a + Int32.ofInt (-1) = nI b := by
  subst h
  exact pk_m1 b
theorem bI_fit (b : Bool) : fits .boolean (.int (bI b)) = true := by cases b <;> rfl
theorem bI_nar (b : Bool) : vp_nar .boolean (bI b) = bI b := by cases b <;> rfl
def anyS (f : Nat → Bool) : Nat → Bool
  | 0 => false
  | n + 1 => anyS f n || f n
theorem anyS_t {f : Nat → Bool} {k : Nat} (h : f k = true) : ∀ {n : Nat}, k < n → anyS f n = true
  | 0, hk => absurd hk (Nat.not_lt_zero k)
  | n + 1, hk => by
    rcases Nat.lt_or_ge k n with q | q
    · simp [anyS, anyS_t h q]
    · have e : n = k := by omega
      simp [anyS, e, h]
/-- the first n places by f, the others by g -/
def filS (f g : Nat → Int32) (n : Nat) : Nat → Int32 := fun j => if j < n then f j else g j
theorem filS_0 (f g : Nat → Int32) : filS f g 0 = g := by funext j; simp [filS]
theorem filS_s (f g : Nat → Int32) (n : Nat) (x : Int32) (h : x = f n) : upd (filS f g n) n x = filS f g (n + 1) := by
  funext j
  simp only [upd, filS]
  by_cases h1 : j = n
  · subst h1; simp [h]
  · by_cases h2 : j < n
    · simp [h1, h2, Nat.lt_succ_of_lt h2]
    · have h3 : ¬ j < n + 1 := by omega
      simp [h1, h2, h3]
theorem filS_k (f g : Nat → Int32) (n : Nat) (h : g n = f n) : filS f g n = filS f g (n + 1) := by
  funext j
  simp only [filS]
  by_cases h1 : j = n
  · subst h1; simp [h]
  · by_cases h2 : j < n
    · simp [h2, Nat.lt_succ_of_lt h2]
    · have h3 : ¬ j < n + 1 := by omega
      simp [h2, h3]
theorem filS_in {f g : Nat → Int32} {n j : Nat} (h : j < n) : filS f g n j = f j := by simp [filS, h]
theorem filS_out {f g : Nat → Int32} {n j : Nat} (h : n ≤ j) : filS f g n j = g j := by simp [filS, Nat.not_lt.mpr h]
/-- the neighbour of a place by a side: left, right, down, up -/
def nb (p d : Nat) : Option Nat :=
  if d = 0 then (if p % 8 = 0 then none else some (p - 1))
  else if d = 1 then (if p % 8 = 7 then none else some (p + 1))
  else if d = 2 then (if p / 8 = 0 then none else some (p - 8))
  else (if p / 8 = 5 then none else some (p + 8))
def ooI (r : Option Nat) : Int32 := match r with
  | none => -9
  | some q => nI q
theorem nb_cases {p d : Nat} (hp : p < 48) : (nb p d = none ∧ ooI (nb p d) = -9) ∨ ∃ q, q < 48 ∧ nb p d = some q ∧ ooI (nb p d) = nI q := by
  unfold nb
  repeat' split
  all_goals first | exact Or.inl ⟨rfl, rfl⟩ | exact Or.inr ⟨_, by omega, rfl, rfl⟩
theorem nI_ne9 {q : Nat} (h : q < 48) : ¬ nI q = -9 := by
  revert h
  revert q
  decide +kernel
def nbX (p d : Nat) : Int32 := nI (p % 8) + sxI d
def nbY (p d : Nat) : Int32 := nI (p / 8) + syI d
theorem nb_all : ∀ p : Fin 48, ∀ d : Fin 4, ooI (nb p d) = if nbX p d < 0 then -9 else if 8 ≤ nbX p d then -9 else if nbY p d < 0 then -9 else if nbY p d < 6 then 8 * nbY p d + nbX p d else -9 := by decide +kernel
theorem nb_eq {p d : Nat} (hp : p < 48) (hd : d < 4) : ooI (nb p d) = if nbX p d < 0 then -9 else if 8 ≤ nbX p d then -9 else if nbY p d < 0 then -9 else if nbY p d < 6 then 8 * nbY p d + nbX p d else -9 := nb_all ⟨p, hp⟩ ⟨d, hd⟩
def mnI (x y : Int32) : Int32 := if y < x then y else x
/-- water: what passes, the sums around a place, a sweep -/
def paS (zo go le : Nat → Int32) (p : Nat) : Int32 := if isES zo go p then atZ zo le p else 0
def ldT (pa : Nat → Int32) (p d : Nat) : Int32 := match nb p d with
  | none => 0
  | some q => mnI (pa p) (pa q)
def fwT (pa he : Nat → Int32) (p d : Nat) : Int32 := match nb p d with
  | none => 0
  | some q => mnI (pa p) (pa q) * he q
def lkS (la : Int32) (p : Nat) : Bool := decide (p % 8 = 0) && decide (nI (p / 8) < la)
def fe1 (pa : Nat → Int32) (la : Int32) (k : Nat) (h : Nat → Int32) : Nat → Int32 := if lkS la k then upd h k (1000 * la) else h
def feS (pa : Nat → Int32) (la : Int32) (he : Nat → Int32) : Nat → Nat → Int32
  | 0 => he
  | k + 1 => if pa k = 0 then feS pa la he k else if k = 7 then upd (fe1 pa la k (feS pa la he k)) k 0 else fe1 pa la k (feS pa la he k)
def lvS (pa : Nat → Int32) (la : Int32) (he : Nat → Int32) : Nat → Nat → Int32
  | 0 => he
  | k + 1 => if pa k = 0 ∨ lkS la k = true ∨ k = 7 then lvS pa la he k else if 0 < sumS (ldT pa k) 4 then upd (lvS pa la he k) k (sumS (fwT pa (lvS pa la he k) k) 4 / sumS (ldT pa k) 4) else lvS pa la he k
def swS (pa : Nat → Int32) (la : Int32) (he : Nat → Int32) : Nat → Nat → Int32
  | 0 => he
  | k + 1 => lvS pa la (feS pa la (swS pa la he k) 48) 48
/-- grains: what is open, loose, a day, a breach -/
def opT (zo go gn : Nat → Int32) (ff : Int32) (p d : Nat) : Bool := match nb p d with
  | none => false
  | some q => decide (go q = 1) || (isES zo go q && decide (ff * holdS zo gn p < holdS zo gn q))
def opS (zo go gn : Nat → Int32) (ff : Int32) (p : Nat) : Bool := decide (p % 8 = 7) || isAirS zo (p + 1) || anyS (opT zo go gn ff p) 4
def loS (zo he go hd gn : Nat → Int32) (ff : Int32) (p : Nat) : Bool := isES zo go p && !decide (pushS he p < 20 * holdS zo hd p) && opS zo go gn ff p
def dyS (zo he hd gn : Nat → Int32) (ff : Int32) (go : Nat → Int32) : Nat → Int32 := fun p => if loS zo he go hd gn ff p then 1 else go p
def frS (zo go : Nat → Int32) : Int32 := cntS (fun j => isES zo go (8 * j)) 6
def dbS (zo he hd gn : Nat → Int32) (ff : Int32) : Nat → Nat → (Nat → Int32) → Int32
  | 0, _, _ => -9
  | n + 1, d, go => if cntS (loS zo he go hd gn ff) 48 = 0 then -9 else if frS zo (dyS zo he hd gn ff go) < frS zo go then nI d else dbS zo he hd gn ff n (d + 1) (dyS zo he hd gn ff go)
