-- the twin's row s, seen as the slice's rows
def mzS (zo : Nat → Int32) (p : Nat) : Int32 := if isAirS zo p then -9 else zo p
def ms (zo he go le hd gn : Nat → Int32) (la : Int32) : Nat → Int32 := fun k => if k < 48 then mzS zo k else if k < 96 then he (k - 48) else if k < 144 then go (k - 96) else if k < 150 then le (k - 144) else if k < 156 then hd (k - 150) else if k < 162 then gn (k - 156) else if k < 163 then la else 0
theorem mz_n {zo : Nat → Int32} {p : Nat} (h : isAirS zo p = false) : ∃ z : Nat, z < 6 ∧ mzS zo p = nI z ∧ zo p = nI z ∧ (zo p).toNatClampNeg = z := by
  obtain ⟨h1, h2⟩ := isAirS_f h
  obtain ⟨j, hj, e⟩ := nI_of h1
  rw [e] at h2
  have h3 : j < 6 := (nI_ltI (b := 6) hj (by omega)).mp h2
  exact ⟨j, h3, by rw [mzS, h, e]; rfl, e, by rw [e, nI_clamp hj]⟩
theorem mz_t {zo : Nat → Int32} {p : Nat} (h : mzS zo p = -9) : isAirS zo p = true := by
  cases hb : isAirS zo p with
  | true => rfl
  | false =>
    obtain ⟨z, h1, h2, -⟩ := mz_n hb
    rw [h2] at h
    exact absurd h (nI_ne9 (by omega))
theorem mz_f {zo : Nat → Int32} {p : Nat} (h : ¬ mzS zo p = -9) : isAirS zo p = false := by
  cases hb : isAirS zo p with
  | false => rfl
  | true => exact absurd (by rw [mzS, hb]; rfl) h
section MS
variable {zo he go le hd gn : Nat → Int32} {la v : Int32} {k c : Nat}
theorem ms_z (h : k = 0 + c) (hc : c < 48) : ms zo he go le hd gn la k = mzS zo c := by subst h; simp only [ms]; rw [if_pos (by omega)]; congr 1; omega
theorem ms_h (h : k = 48 + c) (hc : c < 48) : ms zo he go le hd gn la k = he c := by subst h; simp only [ms]; rw [if_neg (by omega), if_pos (by omega)]; congr 1; omega
theorem ms_g (h : k = 96 + c) (hc : c < 48) : ms zo he go le hd gn la k = go c := by subst h; simp only [ms]; rw [if_neg (by omega), if_neg (by omega), if_pos (by omega)]; congr 1; omega
theorem ms_l (h : k = 144 + c) (hc : c < 6) : ms zo he go le hd gn la k = le c := by subst h; simp only [ms]; rw [if_neg (by omega), if_neg (by omega), if_neg (by omega), if_pos (by omega), show 144 + c - 144 = c from by omega]
theorem ms_d (h : k = 150 + c) (hc : c < 6) : ms zo he go le hd gn la k = hd c := by subst h; simp only [ms]; rw [if_neg (by omega), if_neg (by omega), if_neg (by omega), if_neg (by omega), if_pos (by omega), show 150 + c - 150 = c from by omega]
theorem ms_n (h : k = 156 + c) (hc : c < 6) : ms zo he go le hd gn la k = gn c := by subst h; simp only [ms]; rw [if_neg (by omega), if_neg (by omega), if_neg (by omega), if_neg (by omega), if_neg (by omega), if_pos (by omega), show 156 + c - 156 = c from by omega]
theorem ms_a (h : k = 162) : ms zo he go le hd gn la k = la := by subst h; rfl
theorem ms_uh (h : k = 48 + c) (hc : c < 48) : upd (ms zo he go le hd gn la) k v = ms zo (upd he c v) go le hd gn la := by
  subst h
  funext j
  simp only [upd, ms]
  by_cases e : j = 48 + c
  · subst e; rw [if_pos rfl, if_neg (by omega), if_pos (by omega), if_pos (by omega)]
  · rw [if_neg e]
    by_cases h1 : j < 48
    · simp [h1]
    by_cases h2 : j < 96
    · rw [if_neg h1, if_pos h2, if_neg h1, if_pos h2, if_neg (by omega)]
    · simp [h1, h2]
theorem ms_ug (h : k = 96 + c) (hc : c < 48) : upd (ms zo he go le hd gn la) k v = ms zo he (upd go c v) le hd gn la := by
  subst h
  funext j
  simp only [upd, ms]
  by_cases e : j = 96 + c
  · subst e; rw [if_pos rfl, if_neg (by omega), if_neg (by omega), if_pos (by omega), if_pos (by omega)]
  · rw [if_neg e]
    by_cases h1 : j < 96
    · have h3 : j < 144 := by omega
      by_cases h0 : j < 48
      · simp [h0]
      · simp [h0, h1]
    by_cases h2 : j < 144
    · have h0 : ¬ j < 48 := by omega
      rw [if_neg h0, if_neg h1, if_pos h2, if_neg h0, if_neg h1, if_pos h2, if_neg (by omega)]
    · have h0 : ¬ j < 48 := by omega
      simp [h0, h1, h2]
theorem ms_ua (h : k = 162) : upd (ms zo he go le hd gn la) k v = ms zo he go le hd gn v := by
  subst h
  funext j
  simp only [upd, ms]
  by_cases e : j = 162
  · subst e; rfl
  · rw [if_neg e]
    by_cases h1 : j < 162
    · by_cases a : j < 48 <;> by_cases b : j < 96 <;> by_cases d : j < 144 <;> by_cases f : j < 150 <;> by_cases g : j < 156 <;> simp [a, b, d, f, g, h1]
    · have h2 : ¬ j < 163 := by omega
      by_cases a : j < 48 <;> by_cases b : j < 96 <;> by_cases d : j < 144 <;> by_cases f : j < 150 <;> by_cases g : j < 156 <;> simp [a, b, d, f, g, h1, h2]
theorem ms_ul (h : k = 144 + c) (hc : c < 6) : upd (ms zo he go le hd gn la) k v = ms zo he go (upd le c v) hd gn la := by
  subst h
  funext j
  simp only [upd, ms]
  by_cases e : j = 144 + c
  · subst e; rw [if_pos rfl, if_neg (by omega), if_neg (by omega), if_neg (by omega), if_pos (by omega), if_pos (by omega)]
  · rw [if_neg e]
    by_cases a : j < 48
    · rw [if_pos a, if_pos a]
    by_cases b : j < 96
    · rw [if_neg a, if_pos b, if_neg a, if_pos b]
    by_cases d : j < 144
    · rw [if_neg a, if_neg b, if_pos d, if_neg a, if_neg b, if_pos d]
    by_cases f : j < 150
    · rw [if_neg a, if_neg b, if_neg d, if_pos f, if_neg a, if_neg b, if_neg d, if_pos f, if_neg (by omega)]
    rw [if_neg a, if_neg b, if_neg d, if_neg f, if_neg a, if_neg b, if_neg d, if_neg f]
theorem ms_ud (h : k = 150 + c) (hc : c < 6) : upd (ms zo he go le hd gn la) k v = ms zo he go le (upd hd c v) gn la := by
  subst h
  funext j
  simp only [upd, ms]
  by_cases e : j = 150 + c
  · subst e; rw [if_pos rfl, if_neg (by omega), if_neg (by omega), if_neg (by omega), if_neg (by omega), if_pos (by omega), if_pos (by omega)]
  · rw [if_neg e]
    by_cases a : j < 48
    · rw [if_pos a, if_pos a]
    by_cases b : j < 96
    · rw [if_neg a, if_pos b, if_neg a, if_pos b]
    by_cases d : j < 144
    · rw [if_neg a, if_neg b, if_pos d, if_neg a, if_neg b, if_pos d]
    by_cases f : j < 150
    · rw [if_neg a, if_neg b, if_neg d, if_pos f, if_neg a, if_neg b, if_neg d, if_pos f]
    by_cases g : j < 156
    · rw [if_neg a, if_neg b, if_neg d, if_neg f, if_pos g, if_neg a, if_neg b, if_neg d, if_neg f, if_pos g, if_neg (by omega)]
    rw [if_neg a, if_neg b, if_neg d, if_neg f, if_neg g, if_neg a, if_neg b, if_neg d, if_neg f, if_neg g]
theorem ms_un (h : k = 156 + c) (hc : c < 6) : upd (ms zo he go le hd gn la) k v = ms zo he go le hd (upd gn c v) la := by
  subst h
  funext j
  simp only [upd, ms]
  by_cases e : j = 156 + c
  · subst e; rw [if_pos rfl, if_neg (by omega), if_neg (by omega), if_neg (by omega), if_neg (by omega), if_neg (by omega), if_pos (by omega), if_pos (by omega)]
  · rw [if_neg e]
    by_cases a : j < 48
    · rw [if_pos a, if_pos a]
    by_cases b : j < 96
    · rw [if_neg a, if_pos b, if_neg a, if_pos b]
    by_cases d : j < 144
    · rw [if_neg a, if_neg b, if_pos d, if_neg a, if_neg b, if_pos d]
    by_cases f : j < 150
    · rw [if_neg a, if_neg b, if_neg d, if_pos f, if_neg a, if_neg b, if_neg d, if_pos f]
    by_cases g : j < 156
    · rw [if_neg a, if_neg b, if_neg d, if_neg f, if_pos g, if_neg a, if_neg b, if_neg d, if_neg f, if_pos g]
    by_cases i : j < 162
    · rw [if_neg a, if_neg b, if_neg d, if_neg f, if_neg g, if_pos i, if_neg a, if_neg b, if_neg d, if_neg f, if_neg g, if_pos i, if_neg (by omega)]
    rw [if_neg a, if_neg b, if_neg d, if_neg f, if_neg g, if_neg i, if_neg a, if_neg b, if_neg d, if_neg f, if_neg g, if_neg i]
end MS
/-- the twin's own order of neighbours: up, down, left, right -/
def pd (d : Nat) : Nat := if d = 0 then 3 else if d = 1 then 2 else if d = 2 then 0 else 1
def lesM (x y : Int32) : Int32 := if y ≤ x then y else x
def flM (zo he go le : Nat → Int32) (c : Nat) (hb : Bool) (d : Nat) : Int32 := match nb c (pd d) with
  | none => 0
  | some q => if isES zo go q then lesM (atZ zo le c) (atZ zo le q) * (if hb then he q else 1) else 0
def feM (zo go : Nat → Int32) (la : Int32) (he : Nat → Int32) : Nat → Nat → Int32
  | 0 => he
  | k + 1 => if isES zo go k && lkS la k then upd (feM zo go la he k) k (1000 * la) else feM zo go la he k
def f7M (zo go h : Nat → Int32) : Nat → Int32 := if isES zo go 7 then upd h 7 0 else h
def allM (zo go le : Nat → Int32) (la : Int32) (h : Nat → Int32) (k : Nat) : Int32 := if isES zo go k && !(decide (k = 7) || lkS la k) then sumS (flM zo h go le k false) 4 else 0
def lvM (zo go le : Nat → Int32) (la : Int32) (he : Nat → Int32) : Nat → Nat → Int32
  | 0 => he
  | k + 1 => upd (lvM zo go le la he k) k (if allM zo go le la (lvM zo go le la he k) k ≤ 0 then lvM zo go le la he k k else sumS (flM zo (lvM zo go le la he k) go le k true) 4 / allM zo go le la (lvM zo go le la he k) k)
theorem feM_s (zo go : Nat → Int32) (la : Int32) (he : Nat → Int32) (k : Nat) : feM zo go la he (k + 1) = if isES zo go k && lkS la k then upd (feM zo go la he k) k (1000 * la) else feM zo go la he k := rfl
theorem lvM_s (zo go le : Nat → Int32) (la : Int32) (he : Nat → Int32) (k : Nat) : lvM zo go le la he (k + 1) = upd (lvM zo go le la he k) k (if allM zo go le la (lvM zo go le la he k) k ≤ 0 then lvM zo go le la he k k else sumS (flM zo (lvM zo go le la he k) go le k true) 4 / allM zo go le la (lvM zo go le la he k) k) := rfl
def swM (zo go le : Nat → Int32) (la : Int32) (he : Nat → Int32) : Nat → Int32 := lvM zo go le la (f7M zo go (feM zo go la he 48)) 48
theorem pushM {he : Nat → Int32} {c : Nat} (h : 0 ≤ he c - nI (1000 * (c / 8))) : he c - nI (1000 * (c / 8)) = pushS he c := by
  unfold pushS
  split
  · rfl
  · rename_i h2
    rw [Int32.le_iff_toInt_le] at h
    rw [Int32.lt_iff_toInt_lt] at h2
    rw [← Int32.toInt_inj]
    omega
theorem pushM0 {he : Nat → Int32} {c : Nat} (h : ¬ 0 ≤ he c - nI (1000 * (c / 8))) : 0 = pushS he c := by
  unfold pushS
  rw [if_neg (fun q => h (by rw [Int32.lt_iff_toInt_lt] at q; rw [Int32.le_iff_toInt_le]; omega))]
