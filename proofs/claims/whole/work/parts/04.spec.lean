-- WHAT THE METHODS ANSWER, in words of their own
def wiB (v lw hg : Int32) : Bool := !decide (v < lw) && !decide (hg < v)
/-- zones by places: is a place AIR, EARTH .. -/
def isAirS (zo : Nat → Int32) (p : Nat) : Bool := decide (zo p < 0) || !decide (zo p < 6)
def isES (zo go : Nat → Int32) (p : Nat) : Bool := !isAirS zo p && decide (go p = 0)
def atZ (zo v : Nat → Int32) (p : Nat) : Int32 := v (zo p).toNatClampNeg
def holdS (zo hd : Nat → Int32) (p : Nat) : Int32 := if isAirS zo p then 0 else atZ zo hd p
def pushS (he : Nat → Int32) (p : Nat) : Int32 := if 0 < he p - nI (1000 * (p / 8)) then he p - nI (1000 * (p / 8)) else 0
def wetS (zo he go : Nat → Int32) (p : Nat) : Bool := isES zo go p && decide (0 < pushS he p)
/-- how many places ahead of n have a property -/
def cntS (f : Nat → Bool) : Nat → Int32
  | 0 => 0
  | n + 1 => if f n then cntS f n + 1 else cntS f n
def sumS (f : Nat → Int32) : Nat → Int32
  | 0 => 0
  | n + 1 => sumS f n + f n
theorem isAirS_f {zo : Nat → Int32} {p : Nat} (h : isAirS zo p = false) : ¬ zo p < 0 ∧ zo p < 6 := by
  simpa [isAirS] using h
theorem zo_in {zo : Nat → Int32} {p : Nat} (h : isAirS zo p = false) : vp_in (zo p) 6 := by
  obtain ⟨h1, h2⟩ := isAirS_f h
  rw [vp_in_iff]
  rw [Int32.lt_iff_toInt_lt] at h1 h2
  have e0 : (0 : Int32).toInt = 0 := by decide
  have e6 : (6 : Int32).toInt = 6 := by decide
  omega
theorem dec_nI {a b : Nat} (h : a = b + 1) : nI a + Int32.ofInt (-1) = nI b := by
  subst h
  exact pk_m1 b
theorem bI_fit (b : Bool) : fits .boolean (.int (bI b)) = true := by cases b <;> rfl
theorem bI_nar (b : Bool) : vp_nar .boolean (bI b) = bI b := by cases b <;> rfl
def anyS (f : Nat → Bool) : Nat → Bool
  | 0 => false
  | n + 1 => anyS f n || f n
theorem anyS_t {f : Nat → Bool} {k : Nat} (h : f k = true) : ∀ {n : Nat}, k < n → anyS f n = true
  | 0, hk => absurd hk (Nat.not_lt_zero k)
  | n + 1, hk => by
    rcases Nat.lt_or_ge k n with q | q
    · simp [anyS, anyS_t h q]
    · have e : n = k := by omega
      simp [anyS, e, h]
/-- the first n places by f, the others by g -/
def filS (f g : Nat → Int32) (n : Nat) : Nat → Int32 := fun j => if j < n then f j else g j
theorem filS_0 (f g : Nat → Int32) : filS f g 0 = g := by funext j; simp [filS]
theorem filS_s (f g : Nat → Int32) (n : Nat) (x : Int32) (h : x = f n) : upd (filS f g n) n x = filS f g (n + 1) := by
  funext j
  simp only [upd, filS]
  by_cases h1 : j = n
  · subst h1; simp [h]
  · by_cases h2 : j < n
    · simp [h1, h2, Nat.lt_succ_of_lt h2]
    · have h3 : ¬ j < n + 1 := by omega
      simp [h1, h2, h3]
theorem filS_k (f g : Nat → Int32) (n : Nat) (h : g n = f n) : filS f g n = filS f g (n + 1) := by
  funext j
  simp only [filS]
  by_cases h1 : j = n
  · subst h1; simp [h]
  · by_cases h2 : j < n
    · simp [h2, Nat.lt_succ_of_lt h2]
    · have h3 : ¬ j < n + 1 := by omega
      simp [h2, h3]
theorem filS_in {f g : Nat → Int32} {n j : Nat} (h : j < n) : filS f g n j = f j := by simp [filS, h]
theorem filS_out {f g : Nat → Int32} {n j : Nat} (h : n ≤ j) : filS f g n j = g j := by simp [filS, Nat.not_lt.mpr h]
/-- the neighbour of a place by a side: left, right, down, up -/
def nb (p d : Nat) : Option Nat :=
  if d = 0 then (if p % 8 = 0 then none else some (p - 1))
  else if d = 1 then (if p % 8 = 7 then none else some (p + 1))
  else if d = 2 then (if p / 8 = 0 then none else some (p - 8))
  else (if p / 8 = 5 then none else some (p + 8))
def ooI (r : Option Nat) : Int32 := match r with
  | none => -9
  | some q => nI q
theorem nb_cases {p d : Nat} (hp : p < 48) : (nb p d = none ∧ ooI (nb p d) = -9) ∨ ∃ q, q < 48 ∧ nb p d = some q ∧ ooI (nb p d) = nI q := by
  unfold nb
  repeat' split
  all_goals first | exact Or.inl ⟨rfl, rfl⟩ | exact Or.inr ⟨_, by omega, rfl, rfl⟩
theorem nI_ne9 {q : Nat} (h : q < 48) : ¬ nI q = -9 := by
  revert h
  revert q
  decide +kernel
def nbX (p d : Nat) : Int32 := nI (p % 8) + sxI d
def nbY (p d : Nat) : Int32 := nI (p / 8) + syI d
theorem nb_all : ∀ p : Fin 48, ∀ d : Fin 4, ooI (nb p d) = if nbX p d < 0 then -9 else if 8 ≤ nbX p d then -9 else if nbY p d < 0 then -9 else if nbY p d < 6 then 8 * nbY p d + nbX p d else -9 := by decide +kernel
theorem nb_eq {p d : Nat} (hp : p < 48) (hd : d < 4) : ooI (nb p d) = if nbX p d < 0 then -9 else if 8 ≤ nbX p d then -9 else if nbY p d < 0 then -9 else if nbY p d < 6 then 8 * nbY p d + nbX p d else -9 := nb_all ⟨p, hp⟩ ⟨d, hd⟩
def mnI (x y : Int32) : Int32 := if y < x then y else x
/-- water: what passes, the sums around a place, a sweep -/
def paS (zo go le : Nat → Int32) (p : Nat) : Int32 := if isES zo go p then atZ zo le p else 0
def ldT (pa : Nat → Int32) (p d : Nat) : Int32 := match nb p d with
  | none => 0
  | some q => mnI (pa p) (pa q)
def fwT (pa he : Nat → Int32) (p d : Nat) : Int32 := match nb p d with
  | none => 0
  | some q => mnI (pa p) (pa q) * he q
def lkS (la : Int32) (p : Nat) : Bool := decide (p % 8 = 0) && decide (nI (p / 8) < la)
def fe1 (pa : Nat → Int32) (la : Int32) (k : Nat) (h : Nat → Int32) : Nat → Int32 := if lkS la k then upd h k (1000 * la) else h
def feS (pa : Nat → Int32) (la : Int32) (he : Nat → Int32) : Nat → Nat → Int32
  | 0 => he
  | k + 1 => if pa k = 0 then feS pa la he k else if k = 7 then upd (fe1 pa la k (feS pa la he k)) k 0 else fe1 pa la k (feS pa la he k)
def lvS (pa : Nat → Int32) (la : Int32) (he : Nat → Int32) : Nat → Nat → Int32
  | 0 => he
  | k + 1 => if pa k = 0 ∨ lkS la k = true ∨ k = 7 then lvS pa la he k else if sumS (ldT pa k) 4 ≤ 0 then lvS pa la he k else upd (lvS pa la he k) k (sumS (fwT pa (lvS pa la he k) k) 4 / sumS (ldT pa k) 4)
def swS (pa : Nat → Int32) (la : Int32) (he : Nat → Int32) : Nat → Nat → Int32
  | 0 => he
  | k + 1 => lvS pa la (feS pa la (swS pa la he k) 48) 48
/-- grains: what is open, loose, a day, a breach -/
def opT (zo go gn : Nat → Int32) (ff : Int32) (p d : Nat) : Bool := match nb p d with
  | none => false
  | some q => decide (go q = 1) || (isES zo go q && !decide (holdS zo gn q ≤ ff * holdS zo gn p))
def opS (zo go gn : Nat → Int32) (ff : Int32) (p : Nat) : Bool := decide (p % 8 = 7) || isAirS zo (p + 1) || anyS (opT zo go gn ff p) 4
def loS (zo he go hd gn : Nat → Int32) (ff : Int32) (p : Nat) : Bool := isES zo go p && !decide (pushS he p < 20 * holdS zo hd p) && opS zo go gn ff p
def dyS (zo he hd gn : Nat → Int32) (ff : Int32) (go : Nat → Int32) : Nat → Int32 := fun p => if loS zo he go hd gn ff p then 1 else go p
def frS (zo go : Nat → Int32) : Int32 := cntS (fun j => isES zo go (8 * j)) 6
def dbS (zo he hd gn : Nat → Int32) (ff : Int32) : Nat → Nat → (Nat → Int32) → Int32
  | 0, _, _ => -9
  | n + 1, d, go => if cntS (loS zo he go hd gn ff) 48 = 0 then -9 else if frS zo go ≤ frS zo (dyS zo he hd gn ff go) then dbS zo he hd gn ff n (d + 1) (dyS zo he hd gn ff go) else nI d
theorem zo_isE {zo go : Nat → Int32} {p : Nat} (h : isES zo go p = true) : vp_in (zo p) 6 := by
  simp only [isES, Bool.and_eq_true, Bool.not_eq_true'] at h
  exact zo_in h.1
theorem nz_nle {x : Int32} (h : ¬ x ≤ 0) : ¬ x = 0 := fun e => h (by rw [e]; decide)
def lgS (zo he go hd gn : Nat → Int32) (ff : Int32) (p : Nat) : Int32 := bI (loS zo he go hd gn ff p)
theorem opS_t {zo go gn : Nat → Int32} {ff : Int32} {p : Nat} (h : anyS (opT zo go gn ff p) 4 = true) : opS zo go gn ff p = true := by simp [opS, h]
/-- works: sets by bits, prices, berms, drains -/
def hasS (st : Int32) (i : Nat) : Bool := decide ((st >>> (nI i &&& 31)) &&& 1 = 1)
def priT (pr : Nat → Int32) (st : Int32) (i : Nat) : Int32 := if hasS st i then pr i else 0
def morT (ki pl mo : Nat → Int32) (st : Int32) (x : Nat) (i : Nat) : Int32 := if hasS st i && (decide (ki i = 0) && decide (pl i = nI x)) then mo i else 0
def drnT (ki pl : Nat → Int32) (st : Int32) (p : Nat) (i : Nat) : Bool := hasS st i && (decide (ki i = 1) && decide (pl i = nI p))
/-- the pool: an hour, the hours of a flood, safe floods -/
def gtS (se : Nat → Int32) (ru w : Int32) : Int32 := if w < ru then 0 else if w < se 0 then w else se 0
def abS (se : Nat → Int32) (w : Int32) : Int32 := if 0 < w - se 1 then w - se 1 else 0
def spS (se : Nat → Int32) (w : Int32) : Int32 := if (abS se w + 1) / 2 < se 2 then (abS se w + 1) / 2 else se 2
def wgS (se : Nat → Int32) (ru c w : Int32) : Int32 := w + c - gtS se ru (w + c)
def hrW (se : Nat → Int32) (ru c w : Int32) : Int32 := wgS se ru c w - spS se (wgS se ru c w)
def hrG (se : Nat → Int32) (ru c w : Int32) : Int32 := gtS se ru (w + c) + spS se (wgS se ru c w)
def hrO (se : Nat → Int32) (ru c w ov : Int32) : Int32 := if hrW se ru c w ≤ se 3 then ov else ov + 1
def hrT (se : Nat → Int32) (ru c w tn : Int32) : Int32 := if tn < hrG se ru c w then hrG se ru c w else tn
def hrR (se wa : Nat → Int32) (ru : Int32) (fl : Nat) : Nat → Int32 × Int32 × Int32 × Int32
  | 0 => (se 5, 0, 0, 0)
  | k + 1 => (hrW se ru (wa (fl * 12 + k)) (hrR se wa ru fl k).1, hrO se ru (wa (fl * 12 + k)) (hrR se wa ru fl k).1 (hrR se wa ru fl k).2.1, hrT se ru (wa (fl * 12 + k)) (hrR se wa ru fl k).1 (hrR se wa ru fl k).2.2.1, (hrR se wa ru fl k).2.2.2 + hrG se ru (wa (fl * 12 + k)) (hrR se wa ru fl k).1)
def sfS (se wa : Nat → Int32) (hN : Nat → Nat) (ru : Int32) (fl : Nat) : Bool := decide ((hrR se wa ru fl (hN fl)).2.1 = 0) && !decide (se 4 < (hrR se wa ru fl (hN fl)).2.2.1)
theorem feS_s (pa : Nat → Int32) (la : Int32) (he : Nat → Int32) (k : Nat) : feS pa la he (k + 1) = if pa k = 0 then feS pa la he k else if k = 7 then upd (fe1 pa la k (feS pa la he k)) k 0 else fe1 pa la k (feS pa la he k) := rfl
theorem lvS_s (pa : Nat → Int32) (la : Int32) (he : Nat → Int32) (k : Nat) : lvS pa la he (k + 1) = if pa k = 0 ∨ lkS la k = true ∨ k = 7 then lvS pa la he k else if sumS (ldT pa k) 4 ≤ 0 then lvS pa la he k else upd (lvS pa la he k) k (sumS (fwT pa (lvS pa la he k) k) 4 / sumS (ldT pa k) 4) := rfl
/-- gauges and causes -/
def absI (x : Int32) : Int32 := if 0 ≤ x then x else 0 - x
def gaT (zo he go gr : Nat → Int32) (gN : Nat → Nat) (sl : Int32) (i : Nat) : Bool := isES zo go (gN i) && !decide (absI (he (gN i) - gr i) ≤ sl)
def agrS (zo he go gr : Nat → Int32) (gN : Nat → Nat) (sl : Int32) (n : Nat) : Bool := !anyS (gaT zo he go gr gN sl) n
/-- the least and the greatest so far, with another row of heads -/
def lwS (lw he : Nat → Int32) (p : Nat) : Int32 := if he p < lw p then he p else lw p
def ghS (gh he : Nat → Int32) (p : Nat) : Int32 := if gh p < he p then he p else gh p
/-- heads by a cause -/
def chS (zo go le : Nat → Int32) (la : Int32) (z : Nat) (v : Int32) : Nat → Int32 := swS (paS zo go (upd le z v)) la (fun _ => 0) 40
/-- the causes that fit, and the least and greatest heads by them: (set, least, greatest) -/
def fitS (zo go le gr cl : Nat → Int32) (la sl : Int32) (gN zN : Nat → Nat) (ng : Nat) : Nat → Int32 × (Nat → Int32) × (Nat → Int32)
  | 0 => (0, fun _ => 7000, fun _ => 0)
  | i + 1 => if agrS zo (chS zo go le la (zN i) (cl i)) go gr gN sl ng then ((fitS zo go le gr cl la sl gN zN ng i).1 ||| ((1 : Int32) <<< (nI i &&& 31)), lwS (fitS zo go le gr cl la sl gN zN ng i).2.1 (chS zo go le la (zN i) (cl i)), ghS (fitS zo go le gr cl la sl gN zN ng i).2.2 (chS zo go le la (zN i) (cl i))) else fitS zo go le gr cl la sl gN zN ng i
theorem fitS_s (zo go le gr cl : Nat → Int32) (la sl : Int32) (gN zN : Nat → Nat) (ng i : Nat) : fitS zo go le gr cl la sl gN zN ng (i + 1) = if agrS zo (chS zo go le la (zN i) (cl i)) go gr gN sl ng then ((fitS zo go le gr cl la sl gN zN ng i).1 ||| ((1 : Int32) <<< (nI i &&& 31)), lwS (fitS zo go le gr cl la sl gN zN ng i).2.1 (chS zo go le la (zN i) (cl i)), ghS (fitS zo go le gr cl la sl gN zN ng i).2.2 (chS zo go le la (zN i) (cl i))) else fitS zo go le gr cl la sl gN zN ng i := rfl
/-- the place where the heads are most apart, among the first n -/
def mapS (zo go lw gh : Nat → Int32) : Nat → Option Nat
  | 0 => none
  | k + 1 => if isES zo go k then (match mapS zo go lw gh k with
    | none => some k
    | some q => if gh k - lw k ≤ gh q - lw q then some q else some k) else mapS zo go lw gh k
theorem mapS_lt {zo go lw gh : Nat → Int32} : ∀ {n q : Nat}, mapS zo go lw gh n = some q → q < n
  | 0, q, h => by cases h
  | n + 1, q, h => by
    simp only [mapS] at h
    split at h
    · split at h
      · cases h; omega
      · rename_i q' hq'
        have := mapS_lt hq'
        split at h <;> (cases h; omega)
    · have := mapS_lt h
      omega
/-- slides: what a cell brings, ways, the walk over all ways -/
def reG (er wt : Nat → Bool) (hw : Nat → Int32) (p : Nat) : Int32 := if er p then (if wt p then hw p / 2 else hw p) else -1
def buC (er wt : Nat → Bool) (x : Nat) : Nat → Int32
  | 0 => 0
  | j + 1 => if er (8 * (5 - j) + x) then buC er wt x j + (if wt (8 * (5 - j) + x) then 2 else 1) else buC er wt x j
def buG (er wt : Nat → Bool) (p : Nat) : Int32 := buC er wt (p % 8) (5 - p / 8)
def foldN {α : Type} (f : Nat → α → α) : Nat → α → α
  | 0, a => a
  | n + 1, a => f n (foldN f n a)
def upN (w : Nat → Nat) (k v : Nat) : Nat → Nat := fun j => if j = k then v else w j
def dvS (bu : Nat → Int32) (w : Nat → Nat) (sa : Nat) : Nat → Int32
  | 0 => 0
  | n + 1 => dvS bu w sa n + bu (8 * w (sa + n) + (sa + n)) * (nI (1 + w (sa + n)) - nI (w (sa + n + 1)))
def rsS (re : Nat → Int32) (w : Nat → Nat) (sa : Nat) : Nat → Int32
  | 0 => 0
  | n + 1 => rsS re w sa n + re (8 * w (sa + n) + (sa + n))
def mgI (dr rs : Int32) : Int32 := if dr ≤ 0 then 9999 else if 100 * rs / dr < 9999 then 100 * rs / dr else 9999
abbrev AccT : Type := Int32 × Option (Int32 × Nat × (Nat → Nat))
def mgS (re bu : Nat → Int32) (sa : Nat) (w : Nat → Nat) : Int32 := mgI (dvS bu w sa (8 - sa)) (rsS re w sa (8 - sa))
def metS (re bu : Nat → Int32) (am : Int32) (sa : Nat) (w : Nat → Nat) (a : AccT) : AccT :=
  (if am ≤ mgS re bu sa w then a.1 else a.1 + 1, match a.2 with
    | none => some (mgS re bu sa w, sa, w)
    | some q => if mgS re bu sa w < q.1 then some (mgS re bu sa w, sa, w) else some q)
def wkS (re : Nat → Int32) {α : Type} (leaf : (Nat → Nat) → α → α) : Nat → Nat → Nat → (Nat → Nat) → α → α
  | 0, x, hi, w, a => foldN (fun y a => if re (8 * y + x) = -1 then a else leaf (upN w x y) a) (hi + 1) a
  | d + 1, x, hi, w, a => foldN (fun y a => if re (8 * y + x) = -1 then a else wkS re leaf d (x + 1) y (upN w x y) a) (hi + 1) a
def walS (re bu : Nat → Int32) (am : Int32) (n : Nat) : AccT := foldN (fun x a => wkS re (metS re bu am x) (7 - x) x 5 (fun _ => 0) a) n (0, none)
def accR (a : AccT) (bl : Int32) (fo : Bool) (lm lt : Int32) (lh : Nat → Int32) : Prop := bl = a.1 ∧ match a.2 with
  | none => fo = false
  | some q => q.2.1 < 8 ∧ fo = true ∧ lm = q.1 ∧ lt = nI q.2.1 ∧ ∀ k, q.2.1 ≤ k → k < 8 → lh k = nI (q.2.2 k)
theorem accR_meet {re bu : Nat → Int32} {am : Int32} {sa : Nat} {w : Nat → Nat} {a : AccT} {bl : Int32} {fo : Bool} {lm lt : Int32} {lh hg : Nat → Int32} {dr rs : Int32} (hs8 : sa < 8) (h : accR a bl fo lm lt lh) (hw : ∀ k, sa ≤ k → k < 8 → hg k = nI (w k)) (hdr : dr = dvS bu w sa (8 - sa)) (hrs : rs = rsS re w sa (8 - sa)) :
    accR (metS re bu am sa w a) (if am ≤ mgI dr rs then bl else bl + 1) true (if (!fo || decide (mgI dr rs < lm)) = true then mgI dr rs else lm) (if (!fo || decide (mgI dr rs < lm)) = true then nI sa else lt) (if (!fo || decide (mgI dr rs < lm)) = true then hg else lh) := by
  subst hdr
  subst hrs
  obtain ⟨a1, a2⟩ := a
  obtain ⟨h1, h2⟩ := h
  subst h1
  refine ⟨rfl, ?_⟩
  cases a2 with
  | none =>
    simp only at h2
    subst h2
    exact ⟨hs8, rfl, rfl, rfl, hw⟩
  | some q =>
    simp only at h2
    obtain ⟨h7, h3, h4, h5, h6⟩ := h2
    subst h3
    subst h4
    by_cases hc : mgI (dvS bu w sa (8 - sa)) (rsS re w sa (8 - sa)) < q.1
    · rw [show (metS re bu am sa w (bl, some q)).2 = some (mgI (dvS bu w sa (8 - sa)) (rsS re w sa (8 - sa)), sa, w) from if_pos hc]
      refine ⟨hs8, rfl, by simp [hc], by simp [hc], ?_⟩
      simpa [hc] using hw
    · rw [show (metS re bu am sa w (bl, some q)).2 = some q from if_neg hc]
      refine ⟨h7, rfl, by simp [hc], by simpa [hc] using h5, ?_⟩
      simpa [hc] using h6
theorem dvS_congr {bu : Nat → Int32} {w w' : Nat → Nat} {sa : Nat} : ∀ {n : Nat}, (∀ j, j ≤ sa + n → w j = w' j) → dvS bu w sa n = dvS bu w' sa n
  | 0, _ => rfl
  | n + 1, h => by
    rw [dvS, dvS, dvS_congr (fun j hj => h j (by omega)), h (sa + n) (by omega), h (sa + n + 1) (by omega)]
theorem rsS_congr {re : Nat → Int32} {w w' : Nat → Nat} {sa : Nat} : ∀ {n : Nat}, (∀ j, j < sa + n → w j = w' j) → rsS re w sa n = rsS re w' sa n
  | 0, _ => rfl
  | n + 1, h => by
    rw [rsS, rsS, rsS_congr (fun j hj => h j (by omega)), h (sa + n) (by omega)]
theorem upN_s (w : Nat → Nat) (k v : Nat) : upN w k v k = v := by simp [upN]
theorem upN_n {w : Nat → Nat} {k v j : Nat} (h : j ≠ k) : upN w k v j = w j := by simp [upN, h]
/-- drive and rest grow by a column -/
theorem dv_first {bu : Nat → Int32} {w : Nat → Nat} {x y : Nat} : (0 : Int32) = dvS bu (upN w x y) x (x - x) := by rw [Nat.sub_self]; rfl
theorem dv_next {bu : Nat → Int32} {w : Nat → Nat} {sa x y hi : Nat} (h : sa < x) (hh : hi = w (x - 1)) : dvS bu w sa (x - sa - 1) + bu (8 * hi + (x - 1)) * (nI (1 + hi) - nI y) = dvS bu (upN w x y) sa (x - sa) := by
  have e : x - sa = (x - sa - 1) + 1 := by omega
  rw [e, dvS]
  have e3 : x - 1 + 1 = x := by omega
  rw [show sa + (x - sa - 1) = x - 1 by omega, e3, upN_s, upN_n (by omega), ← hh, dvS_congr (w := w) (w' := upN w x y) (fun j hj => (upN_n (by omega)).symm)]
  rfl
theorem dv_last {bu : Nat → Int32} {w : Nat → Nat} {sa y : Nat} (h : sa ≤ 7) (h8 : w 8 = 0) : dvS bu (upN w 7 y) sa (7 - sa) + bu (8 * y + 7) * (nI (1 + y) - 0) = dvS bu (upN w 7 y) sa (8 - sa) := by
  have e : 8 - sa = (7 - sa) + 1 := by omega
  rw [e, dvS, show sa + (7 - sa) = 7 by omega, upN_s, upN_n (by omega), h8]
  rfl
theorem rs_next {re : Nat → Int32} {w : Nat → Nat} {sa x y : Nat} (h : sa ≤ x) : rsS re w sa (x - sa) + re (8 * y + x) = rsS re (upN w x y) sa (x + 1 - sa) := by
  rw [show x + 1 - sa = (x - sa) + 1 by omega, rsS, show sa + (x - sa) = x by omega, upN_s, rsS_congr (w := w) (w' := upN w x y) (fun j hj => (upN_n (by omega)).symm)]
/-- a count that goes down to -1 -/
def pI (m : Nat) : Int32 := nI m + (-1)
theorem pI_s (m : Nat) : pI (m + 1) = nI m := pk_m1 m
theorem pI_0 : pI 0 < 0 := by decide
theorem pI_lt {m : Nat} (h : m < 1000) (hl : pI m < 0) : m = 0 := by
  cases m with
  | zero => rfl
  | succ m => rw [pI_s] at hl; exact absurd hl (nI_pos (by omega))
theorem pI_nlt {m : Nat} (hl : ¬ pI m < 0) : ∃ k, m = k + 1 ∧ pI m = nI k := by
  cases m with
  | zero => exact absurd pI_0 hl
  | succ m => exact ⟨m, rfl, pI_s m⟩
/-- rows written column by column, from above -/
def filC (f g : Nat → Int32) (x r : Nat) : Nat → Int32 := fun p => if p % 8 < x ∨ (p % 8 = x ∧ r ≤ p / 8) then f p else g p
theorem filC_0 (f g : Nat → Int32) : filC f g 0 6 = filC f g 0 6 := rfl
theorem filC_s (f g : Nat → Int32) (x r : Nat) (v : Int32) (hx : x < 8) (h : v = f (8 * r + x)) : upd (filC f g x (r + 1)) (8 * r + x) v = filC f g x r := by
  funext p
  simp only [upd, filC]
  by_cases h1 : p = 8 * r + x
  · subst h1
    have e1 : (8 * r + x) % 8 = x := by omega
    have e2 : (8 * r + x) / 8 = r := by omega
    simp [e1, e2, h]
  · rw [if_neg h1]
    by_cases h2 : p % 8 < x ∨ (p % 8 = x ∧ r + 1 ≤ p / 8)
    · rw [if_pos h2, if_pos (by omega)]
    · rw [if_neg h2, if_neg (by omega)]
theorem filC_x {f g : Nat → Int32} {x : Nat} {p : Nat} (hp : p < 48) : filC f g x 0 p = filC f g (x + 1) 6 p := by
  simp only [filC]
  by_cases h : p % 8 < x ∨ (p % 8 = x ∧ 0 ≤ p / 8)
  · rw [if_pos h, if_pos (by omega)]
  · rw [if_neg h, if_neg (by omega)]
theorem filC_in {f g : Nat → Int32} {p : Nat} (_ : p < 48) : filC f g 8 6 p = f p := by
  simp only [filC]
  rw [if_pos (Or.inl (by omega))]
theorem filC_g {f g : Nat → Int32} {p : Nat} (hp : p < 48) : g p = filC f g 0 6 p := by
  simp only [filC]
  rw [if_neg (by omega)]
def wtD (zo he go ki pl : Nat → Int32) (st : Int32) (n : Nat) (p : Nat) : Bool := wetS zo he go p && !anyS (drnT ki pl st p) n
def hwD (zo hd ki pl mo : Nat → Int32) (st : Int32) (n : Nat) (p : Nat) : Int32 := holdS zo hd p + sumS (morT ki pl mo st (p % 8)) n
theorem pI_k6 {m k : Nat} (h : ¬ pI (m - k) < 0) (hk : k ≤ m) : k < m := by
  rcases Nat.lt_or_ge k m with q | q
  · exact q
  · rw [show m - k = 0 by omega] at h
    exact absurd pI_0 h
theorem pI_b {m k : Nat} (h : k < m + 1) : pI (m + 1 - k) = nI (m - k) := by rw [show m + 1 - k = (m - k) + 1 by omega, pI_s]
theorem filC_k {f g : Nat → Int32} {x k : Nat} {v : Int32} (hx : x < 8) (hk : k < 6) (h : v = f (8 * (5 - k) + x)) : upd (filC f g x (6 - k)) (8 * (5 - k) + x) v = filC f g x (6 - (k + 1)) := by
  rw [show 6 - k = (5 - k) + 1 by omega, show 6 - (k + 1) = 5 - k by omega]
  exact filC_s f g x (5 - k) v hx h
theorem dv_a {bu : Nat → Int32} {w : Nat → Nat} {sa x y : Nat} {dr : Int32} (h : x = sa) (hdr : dr = dvS bu w sa (x - sa - 1)) : dr = dvS bu (upN w x y) sa (x + 1 - sa - 1) := by
  subst h
  rw [hdr, show x - x - 1 = 0 by omega, show x + 1 - x - 1 = 0 by omega]
  rfl
theorem dv_b {bu : Nat → Int32} {w : Nat → Nat} {sa x y hi : Nat} {dr : Int32} (h : ¬ x = sa) (hs : sa ≤ x) (hh : x = sa ∨ (sa < x ∧ hi = w (x - 1))) (hdr : dr = dvS bu w sa (x - sa - 1)) : dr + bu (8 * hi + (x - 1)) * (nI (1 + hi) - nI y) = dvS bu (upN w x y) sa (x + 1 - sa - 1) := by
  rw [hdr, show x + 1 - sa - 1 = x - sa by omega]
  exact dv_next (by omega) (by omega)
theorem dv_l {bu : Nat → Int32} {w : Nat → Nat} {sa x y : Nat} {D : Int32} (hx : x = 7) (h : sa ≤ x) (h8 : w 8 = 0) (hD : D = dvS bu (upN w x y) sa (x + 1 - sa - 1)) : D + bu (8 * y + x) * (nI (1 + y) - 0) = dvS bu (upN w x y) sa (8 - sa) := by
  subst hx
  rw [hD, show 7 + 1 - sa - 1 = 7 - sa by omega]
  exact dv_last h h8
theorem rs_c {re : Nat → Int32} {w : Nat → Nat} {sa x y : Nat} {rs : Int32} (h : sa ≤ x) (hrs : rs = rsS re w sa (x - sa)) : rs + re (8 * y + x) = rsS re (upN w x y) sa (x + 1 - sa) := by
  rw [hrs]
  exact rs_next h
theorem hg_up {hg hgx : Nat → Int32} {w : Nat → Nat} {sa x y : Nat} (hhg : ∀ j, sa ≤ j → j < x → hg j = nI (w j)) (hpre : ∀ j, j < x → hgx j = hg j) : ∀ j, sa ≤ j → j < x + 1 → upd hgx x (nI y) j = nI (upN w x y j) := by
  intro j h1 h2
  by_cases e : j = x
  · subst e; rw [pk_us, upN_s]
  · rw [pk_un e, upN_n e, hpre j (by omega)]
    exact hhg j h1 (by omega)
/-- the balances of a column, by heights; the columns from the last one on -/
def lbS (ba bu : Nat → Int32) (am : Int32) (x h : Nat) : Nat → Int32
  | 0 => 1000000000
  | y + 1 => if ba y = 1000000000 then lbS ba bu am x h y else if ba y - am * (bu (8 * h + x) * (nI (1 + h) - nI y)) < lbS ba bu am x h y then ba y - am * (bu (8 * h + x) * (nI (1 + h) - nI y)) else lbS ba bu am x h y
def balF (re : Nat → Int32) (p : Nat) (beh : Int32) : Int32 := if re p = -1 ∨ beh = 1000000000 then 1000000000 else beh + 100 * re p
def balC (re bu : Nat → Int32) (am : Int32) : Nat → Nat → Int32
  | 0, y => balF re (8 * y + 7) (-am * (bu (8 * y + 7) * (nI (1 + y) - 0)))
  | c + 1, y => balF re (8 * y + (6 - c)) (lbS (balC re bu am c) bu am (6 - c) y (y + 1))
def negT (re bu : Nat → Int32) (am : Int32) (c : Nat) : Bool := anyS (fun j => decide (balC re bu am c (5 - j) < 0)) 6
