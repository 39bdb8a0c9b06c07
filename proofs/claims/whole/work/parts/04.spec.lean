-- WHAT THE METHODS ANSWER, in words of their own
/-- zones by places: is a place AIR, EARTH .. -/
def isAirS (zo : Nat → Int32) (p : Nat) : Bool := decide (zo p < 0) || !decide (zo p < 6)
def isES (zo go : Nat → Int32) (p : Nat) : Bool := !isAirS zo p && decide (go p = 0)
def atZ (zo v : Nat → Int32) (p : Nat) : Int32 := v (zo p).toNatClampNeg
def holdS (zo hd : Nat → Int32) (p : Nat) : Int32 := if isAirS zo p then 0 else atZ zo hd p
def pushS (he : Nat → Int32) (p : Nat) : Int32 := if 0 < he p - nI (1000 * (p / 8)) then he p - nI (1000 * (p / 8)) else 0
def wetS (zo he go : Nat → Int32) (p : Nat) : Bool := isES zo go p && decide (0 < pushS he p)
/-- how many places ahead of n have a property -/
def cntS (f : Nat → Bool) : Nat → Int32
  | 0 => 0
  | n + 1 => if f n then cntS f n + 1 else cntS f n
def sumS (f : Nat → Int32) : Nat → Int32
  | 0 => 0
  | n + 1 => sumS f n + f n
theorem isAirS_f {zo : Nat → Int32} {p : Nat} (h : isAirS zo p = false) : ¬ zo p < 0 ∧ zo p < 6 := by
  simpa [isAirS] using h
theorem zo_in {zo : Nat → Int32} {p : Nat} (h : isAirS zo p = false) : vp_in (zo p) 6 := by
  obtain ⟨h1, h2⟩ := isAirS_f h
  rw [vp_in_iff]
  rw [Int32.lt_iff_toInt_lt] at h1 h2
  have e0 : (0 : Int32).toInt = 0 := by decide
  have e6 : (6 : Int32).toInt = 6 := by decide
  omega
theorem dec_nI {a b : Nat} (h : a = b + 1) : nI a + Int32.ofInt (-1) = nI b := by
  subst h
  exact pk_m1 b
theorem bI_fit (b : Bool) : fits .boolean (.int (bI b)) = true := by cases b <;> rfl
theorem bI_nar (b : Bool) : vp_nar .boolean (bI b) = bI b := by cases b <;> rfl
def anyS (f : Nat → Bool) : Nat → Bool
  | 0 => false
  | n + 1 => anyS f n || f n
theorem anyS_t {f : Nat → Bool} {k : Nat} (h : f k = true) : ∀ {n : Nat}, k < n → anyS f n = true
  | 0, hk => absurd hk (Nat.not_lt_zero k)
  | n + 1, hk => by
    rcases Nat.lt_or_ge k n with q | q
    · simp [anyS, anyS_t h q]
    · have e : n = k := by omega
      simp [anyS, e, h]
/-- the first n places by f, the others by g -/
def filS (f g : Nat → Int32) (n : Nat) : Nat → Int32 := fun j => if j < n then f j else g j
theorem filS_0 (f g : Nat → Int32) : filS f g 0 = g := by funext j; simp [filS]
theorem filS_s (f g : Nat → Int32) (n : Nat) (x : Int32) (h : x = f n) : upd (filS f g n) n x = filS f g (n + 1) := by
  funext j
  simp only [upd, filS]
  by_cases h1 : j = n
  · subst h1; simp [h]
  · by_cases h2 : j < n
    · simp [h1, h2, Nat.lt_succ_of_lt h2]
    · have h3 : ¬ j < n + 1 := by omega
      simp [h1, h2, h3]
theorem filS_k (f g : Nat → Int32) (n : Nat) (h : g n = f n) : filS f g n = filS f g (n + 1) := by
  funext j
  simp only [filS]
  by_cases h1 : j = n
  · subst h1; simp [h]
  · by_cases h2 : j < n
    · simp [h2, Nat.lt_succ_of_lt h2]
    · have h3 : ¬ j < n + 1 := by omega
      simp [h2, h3]
theorem filS_in {f g : Nat → Int32} {n j : Nat} (h : j < n) : filS f g n j = f j := by simp [filS, h]
theorem filS_out {f g : Nat → Int32} {n j : Nat} (h : n ≤ j) : filS f g n j = g j := by simp [filS, Nat.not_lt.mpr h]
/-- the neighbour of a place by a side: left, right, down, up -/
def nb (p d : Nat) : Option Nat :=
  if d = 0 then (if p % 8 = 0 then none else some (p - 1))
  else if d = 1 then (if p % 8 = 7 then none else some (p + 1))
  else if d = 2 then (if p / 8 = 0 then none else some (p - 8))
  else (if p / 8 = 5 then none else some (p + 8))
def ooI (r : Option Nat) : Int32 := match r with
  | none => -9
  | some q => nI q
theorem nb_cases {p d : Nat} (hp : p < 48) : (nb p d = none ∧ ooI (nb p d) = -9) ∨ ∃ q, q < 48 ∧ nb p d = some q ∧ ooI (nb p d) = nI q := by
  unfold nb
  repeat' split
  all_goals first | exact Or.inl ⟨rfl, rfl⟩ | exact Or.inr ⟨_, by omega, rfl, rfl⟩
theorem nI_ne9 {q : Nat} (h : q < 48) : ¬ nI q = -9 := by
  revert h
  revert q
  decide +kernel
def nbX (p d : Nat) : Int32 := nI (p % 8) + sxI d
def nbY (p d : Nat) : Int32 := nI (p / 8) + syI d
theorem nb_all : ∀ p : Fin 48, ∀ d : Fin 4, ooI (nb p d) = if nbX p d < 0 then -9 else if 8 ≤ nbX p d then -9 else if nbY p d < 0 then -9 else if nbY p d < 6 then 8 * nbY p d + nbX p d else -9 := by decide +kernel
theorem nb_eq {p d : Nat} (hp : p < 48) (hd : d < 4) : ooI (nb p d) = if nbX p d < 0 then -9 else if 8 ≤ nbX p d then -9 else if nbY p d < 0 then -9 else if nbY p d < 6 then 8 * nbY p d + nbX p d else -9 := nb_all ⟨p, hp⟩ ⟨d, hd⟩
def mnI (x y : Int32) : Int32 := if y < x then y else x
/-- water: what passes, the sums around a place, a sweep -/
def paS (zo go le : Nat → Int32) (p : Nat) : Int32 := if isES zo go p then atZ zo le p else 0
def ldT (pa : Nat → Int32) (p d : Nat) : Int32 := match nb p d with
  | none => 0
  | some q => mnI (pa p) (pa q)
def fwT (pa he : Nat → Int32) (p d : Nat) : Int32 := match nb p d with
  | none => 0
  | some q => mnI (pa p) (pa q) * he q
def lkS (la : Int32) (p : Nat) : Bool := decide (p % 8 = 0) && decide (nI (p / 8) < la)
def fe1 (pa : Nat → Int32) (la : Int32) (k : Nat) (h : Nat → Int32) : Nat → Int32 := if lkS la k then upd h k (1000 * la) else h
def feS (pa : Nat → Int32) (la : Int32) (he : Nat → Int32) : Nat → Nat → Int32
  | 0 => he
  | k + 1 => if pa k = 0 then feS pa la he k else if k = 7 then upd (fe1 pa la k (feS pa la he k)) k 0 else fe1 pa la k (feS pa la he k)
def lvS (pa : Nat → Int32) (la : Int32) (he : Nat → Int32) : Nat → Nat → Int32
  | 0 => he
  | k + 1 => if pa k = 0 ∨ lkS la k = true ∨ k = 7 then lvS pa la he k else if sumS (ldT pa k) 4 ≤ 0 then lvS pa la he k else upd (lvS pa la he k) k (sumS (fwT pa (lvS pa la he k) k) 4 / sumS (ldT pa k) 4)
def swS (pa : Nat → Int32) (la : Int32) (he : Nat → Int32) : Nat → Nat → Int32
  | 0 => he
  | k + 1 => lvS pa la (feS pa la (swS pa la he k) 48) 48
/-- grains: what is open, loose, a day, a breach -/
def opT (zo go gn : Nat → Int32) (ff : Int32) (p d : Nat) : Bool := match nb p d with
  | none => false
  | some q => decide (go q = 1) || (isES zo go q && !decide (holdS zo gn q ≤ ff * holdS zo gn p))
def opS (zo go gn : Nat → Int32) (ff : Int32) (p : Nat) : Bool := decide (p % 8 = 7) || isAirS zo (p + 1) || anyS (opT zo go gn ff p) 4
def loS (zo he go hd gn : Nat → Int32) (ff : Int32) (p : Nat) : Bool := isES zo go p && !decide (pushS he p < 20 * holdS zo hd p) && opS zo go gn ff p
def dyS (zo he hd gn : Nat → Int32) (ff : Int32) (go : Nat → Int32) : Nat → Int32 := fun p => if loS zo he go hd gn ff p then 1 else go p
def frS (zo go : Nat → Int32) : Int32 := cntS (fun j => isES zo go (8 * j)) 6
def dbS (zo he hd gn : Nat → Int32) (ff : Int32) : Nat → Nat → (Nat → Int32) → Int32
  | 0, _, _ => -9
  | n + 1, d, go => if cntS (loS zo he go hd gn ff) 48 = 0 then -9 else if frS zo go ≤ frS zo (dyS zo he hd gn ff go) then dbS zo he hd gn ff n (d + 1) (dyS zo he hd gn ff go) else nI d
theorem zo_isE {zo go : Nat → Int32} {p : Nat} (h : isES zo go p = true) : vp_in (zo p) 6 := by
  simp only [isES, Bool.and_eq_true, Bool.not_eq_true'] at h
  exact zo_in h.1
theorem nz_nle {x : Int32} (h : ¬ x ≤ 0) : ¬ x = 0 := fun e => h (by rw [e]; decide)
def lgS (zo he go hd gn : Nat → Int32) (ff : Int32) (p : Nat) : Int32 := bI (loS zo he go hd gn ff p)
theorem opS_t {zo go gn : Nat → Int32} {ff : Int32} {p : Nat} (h : anyS (opT zo go gn ff p) 4 = true) : opS zo go gn ff p = true := by simp [opS, h]
/-- works: sets by bits, prices, berms, drains -/
def hasS (st : Int32) (i : Nat) : Bool := decide ((st >>> (nI i &&& 31)) &&& 1 = 1)
def priT (pr : Nat → Int32) (st : Int32) (i : Nat) : Int32 := if hasS st i then pr i else 0
def morT (ki pl mo : Nat → Int32) (st : Int32) (x : Nat) (i : Nat) : Int32 := if hasS st i && (decide (ki i = 0) && decide (pl i = nI x)) then mo i else 0
def drnT (ki pl : Nat → Int32) (st : Int32) (p : Nat) (i : Nat) : Bool := hasS st i && (decide (ki i = 1) && decide (pl i = nI p))
/-- the pool: an hour, the hours of a flood, safe floods -/
def gtS (se : Nat → Int32) (ru w : Int32) : Int32 := if w < ru then 0 else if w < se 0 then w else se 0
def abS (se : Nat → Int32) (w : Int32) : Int32 := if 0 < w - se 1 then w - se 1 else 0
def spS (se : Nat → Int32) (w : Int32) : Int32 := if (abS se w + 1) / 2 < se 2 then (abS se w + 1) / 2 else se 2
def wgS (se : Nat → Int32) (ru c w : Int32) : Int32 := w + c - gtS se ru (w + c)
def hrW (se : Nat → Int32) (ru c w : Int32) : Int32 := wgS se ru c w - spS se (wgS se ru c w)
def hrG (se : Nat → Int32) (ru c w : Int32) : Int32 := gtS se ru (w + c) + spS se (wgS se ru c w)
def hrO (se : Nat → Int32) (ru c w ov : Int32) : Int32 := if hrW se ru c w ≤ se 3 then ov else ov + 1
def hrT (se : Nat → Int32) (ru c w tn : Int32) : Int32 := if tn < hrG se ru c w then hrG se ru c w else tn
def hrR (se wa : Nat → Int32) (ru : Int32) (fl : Nat) : Nat → Int32 × Int32 × Int32 × Int32
  | 0 => (se 5, 0, 0, 0)
  | k + 1 => (hrW se ru (wa (fl * 12 + k)) (hrR se wa ru fl k).1, hrO se ru (wa (fl * 12 + k)) (hrR se wa ru fl k).1 (hrR se wa ru fl k).2.1, hrT se ru (wa (fl * 12 + k)) (hrR se wa ru fl k).1 (hrR se wa ru fl k).2.2.1, (hrR se wa ru fl k).2.2.2 + hrG se ru (wa (fl * 12 + k)) (hrR se wa ru fl k).1)
def sfS (se wa : Nat → Int32) (hN : Nat → Nat) (ru : Int32) (fl : Nat) : Bool := decide ((hrR se wa ru fl (hN fl)).2.1 = 0) && !decide (se 4 < (hrR se wa ru fl (hN fl)).2.2.1)
theorem feS_s (pa : Nat → Int32) (la : Int32) (he : Nat → Int32) (k : Nat) : feS pa la he (k + 1) = if pa k = 0 then feS pa la he k else if k = 7 then upd (fe1 pa la k (feS pa la he k)) k 0 else fe1 pa la k (feS pa la he k) := rfl
theorem lvS_s (pa : Nat → Int32) (la : Int32) (he : Nat → Int32) (k : Nat) : lvS pa la he (k + 1) = if pa k = 0 ∨ lkS la k = true ∨ k = 7 then lvS pa la he k else if sumS (ldT pa k) 4 ≤ 0 then lvS pa la he k else upd (lvS pa la he k) k (sumS (fwT pa (lvS pa la he k) k) 4 / sumS (ldT pa k) 4) := rfl
/-- gauges and causes -/
def absI (x : Int32) : Int32 := if 0 ≤ x then x else 0 - x
def gaT (zo he go gr : Nat → Int32) (gN : Nat → Nat) (sl : Int32) (i : Nat) : Bool := isES zo go (gN i) && !decide (absI (he (gN i) - gr i) ≤ sl)
def agrS (zo he go gr : Nat → Int32) (gN : Nat → Nat) (sl : Int32) (n : Nat) : Bool := !anyS (gaT zo he go gr gN sl) n
/-- the least and the greatest so far, with another row of heads -/
def lwS (lw he : Nat → Int32) (p : Nat) : Int32 := if he p < lw p then he p else lw p
def ghS (gh he : Nat → Int32) (p : Nat) : Int32 := if gh p < he p then he p else gh p
/-- heads by a cause -/
def chS (zo go le : Nat → Int32) (la : Int32) (z : Nat) (v : Int32) : Nat → Int32 := swS (paS zo go (upd le z v)) la (fun _ => 0) 40
/-- the causes that fit, and the least and greatest heads by them: (set, least, greatest) -/
def fitS (zo go le gr cl : Nat → Int32) (la sl : Int32) (gN zN : Nat → Nat) (ng : Nat) : Nat → Int32 × (Nat → Int32) × (Nat → Int32)
  | 0 => (0, fun _ => 2147483647, fun _ => 0)
  | i + 1 => if agrS zo (chS zo go le la (zN i) (cl i)) go gr gN sl ng then ((fitS zo go le gr cl la sl gN zN ng i).1 ||| ((1 : Int32) <<< (nI i &&& 31)), lwS (fitS zo go le gr cl la sl gN zN ng i).2.1 (chS zo go le la (zN i) (cl i)), ghS (fitS zo go le gr cl la sl gN zN ng i).2.2 (chS zo go le la (zN i) (cl i))) else fitS zo go le gr cl la sl gN zN ng i
theorem fitS_s (zo go le gr cl : Nat → Int32) (la sl : Int32) (gN zN : Nat → Nat) (ng i : Nat) : fitS zo go le gr cl la sl gN zN ng (i + 1) = if agrS zo (chS zo go le la (zN i) (cl i)) go gr gN sl ng then ((fitS zo go le gr cl la sl gN zN ng i).1 ||| ((1 : Int32) <<< (nI i &&& 31)), lwS (fitS zo go le gr cl la sl gN zN ng i).2.1 (chS zo go le la (zN i) (cl i)), ghS (fitS zo go le gr cl la sl gN zN ng i).2.2 (chS zo go le la (zN i) (cl i))) else fitS zo go le gr cl la sl gN zN ng i := rfl
/-- the place where the heads are most apart, among the first n -/
def mapS (zo go lw gh : Nat → Int32) : Nat → Option Nat
  | 0 => none
  | k + 1 => if isES zo go k then (match mapS zo go lw gh k with
    | none => some k
    | some q => if gh k - lw k ≤ gh q - lw q then some q else some k) else mapS zo go lw gh k
theorem mapS_lt {zo go lw gh : Nat → Int32} : ∀ {n q : Nat}, mapS zo go lw gh n = some q → q < n
  | 0, q, h => by cases h
  | n + 1, q, h => by
    simp only [mapS] at h
    split at h
    · split at h
      · cases h; omega
      · rename_i q' hq'
        have := mapS_lt hq'
        split at h <;> (cases h; omega)
    · have := mapS_lt h
      omega
