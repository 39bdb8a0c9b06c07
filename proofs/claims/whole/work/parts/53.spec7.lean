-- THE TWIN'S WALK OVER ALL WAYS: a stack of columns
def foldR {α : Type} (f : Nat → α → α) : Nat → Nat → α → α
  | _, 0, a => a
  | lo, n + 1, a => foldR f (lo + 1) n (f lo a)
theorem foldR_end {α : Type} (f : Nat → α → α) : ∀ (n lo : Nat) (a : α), foldR f lo (n + 1) a = f (lo + n) (foldR f lo n a)
  | 0, lo, a => rfl
  | n + 1, lo, a => by
    rw [foldR, foldR_end f n (lo + 1) (f lo a), show lo + 1 + n = lo + (n + 1) by omega]
    rfl
theorem foldN_R {α : Type} (f : Nat → α → α) : ∀ (n : Nat) (a : α), foldN f n a = foldR f 0 n a
  | 0, a => rfl
  | n + 1, a => by rw [foldR_end, foldN, foldN_R f n a, Nat.zero_add]
def wkE (er : Nat → Bool) {α : Type} (leaf : (Nat → Nat) → α → α) : Nat → Nat → Nat → (Nat → Nat) → α → α
  | 0, x, hi, w, a => foldN (fun y a => if er (8 * y + x) then leaf (upN w x y) a else a) (hi + 1) a
  | d + 1, x, hi, w, a => foldN (fun y a => if er (8 * y + x) then wkE er leaf d (x + 1) y (upN w x y) a else a) (hi + 1) a
def bdX (er : Nat → Bool) {α : Type} (leaf : (Nat → Nat) → α → α) : Nat → Nat → (Nat → Nat) → Nat → α → α
  | 0, x, w, y, a => leaf (upN w x y) a
  | d + 1, x, w, y, a => wkE er leaf d (x + 1) y (upN w x y) a
def bdE (er : Nat → Bool) {α : Type} (leaf : (Nat → Nat) → α → α) (d x : Nat) (w : Nat → Nat) (y : Nat) (a : α) : α := if er (8 * y + x) then bdX er leaf d x w y a else a
theorem bdE_e (er : Nat → Bool) {α : Type} (leaf : (Nat → Nat) → α → α) (d x : Nat) (w : Nat → Nat) (y : Nat) (a : α) : bdE er leaf d x w y a = if er (8 * y + x) then bdX er leaf d x w y a else a := rfl
theorem wkE_bd (er : Nat → Bool) {α : Type} (leaf : (Nat → Nat) → α → α) (d x hi : Nat) (w : Nat → Nat) (a : α) : wkE er leaf d x hi w a = foldR (bdE er leaf d x w) 0 (hi + 1) a := by
  rw [← foldN_R]
  cases d <;> rfl
def tpM (sa : Nat) (w : Nat → Nat) (j : Nat) : Nat := if j = sa then 5 else w (j - 1)
/-- what is left to do: i columns stand open, the last one from height y on -/
def goM (er : Nat → Bool) {α : Type} (leaf : (Nat → Nat) → α → α) (sa : Nat) : Nat → Nat → (Nat → Nat) → α → α
  | 0, _, _, a => a
  | i + 1, y, w, a => goM er leaf sa i (w (sa + i - 1) + 1) w (foldR (bdE er leaf (7 - (sa + i)) (sa + i) w) y (tpM sa w (sa + i) + 1 - y) a)
theorem upN_upN (w : Nat → Nat) (x y y2 : Nat) : upN (upN w x y) x y2 = upN w x y2 := by
  funext k
  simp only [upN]
  split <;> rfl
theorem upN_congr {w w' : Nat → Nat} {x y : Nat} (h : ∀ k, k ≠ x → w k = w' k) : upN w x y = upN w' x y := by
  funext k
  simp only [upN]
  split
  · rfl
  · rename_i q
    exact h k q
theorem wkE_congr {er : Nat → Bool} {α : Type} {leaf : (Nat → Nat) → α → α} : ∀ (d x hi : Nat) (w w' : Nat → Nat) (a : α), x + d = 7 → (∀ k, k < x ∨ 7 < k → w k = w' k) → wkE er leaf d x hi w a = wkE er leaf d x hi w' a
  | 0, x, hi, w, w', a, hx, h => by
    rw [wkE, wkE]
    have e : ∀ y, upN w x y = upN w' x y := fun y => upN_congr (fun k hk => h k (by omega))
    simp only [e]
  | d + 1, x, hi, w, w', a, hx, h => by
    rw [wkE, wkE]
    have e : ∀ y a, wkE er leaf d (x + 1) y (upN w x y) a = wkE er leaf d (x + 1) y (upN w' x y) a := fun y a => wkE_congr d (x + 1) y _ _ a (by omega) (fun k hk => by
      simp only [upN]
      split
      · rfl
      · exact h k (by omega))
    simp only [e]
theorem bdE_congr {er : Nat → Bool} {α : Type} {leaf : (Nat → Nat) → α → α} {d x : Nat} {w w' : Nat → Nat} (hx : x + d = 7) (h : ∀ k, k < x ∨ 7 < k → w k = w' k) : bdE er leaf d x w = bdE er leaf d x w' := by
  funext y a
  rw [bdE_e, bdE_e]
  cases d with
  | zero =>
    have e : upN w x y = upN w' x y := upN_congr (fun k hk => h k (by omega))
    rw [bdX, bdX, e]
  | succ d =>
    have e : wkE er leaf d (x + 1) y (upN w x y) a = wkE er leaf d (x + 1) y (upN w' x y) a := wkE_congr d (x + 1) y _ _ a (by omega) (fun k hk => by
      simp only [upN]
      split
      · rfl
      · exact h k (by omega))
    rw [bdX, bdX, e]
theorem goM_congr {er : Nat → Bool} {α : Type} {leaf : (Nat → Nat) → α → α} {sa : Nat} : ∀ (i y : Nat) (w w' : Nat → Nat) (a : α), sa + i ≤ 8 → (∀ k, k < sa + i ∨ 7 < k → w k = w' k) → goM er leaf sa i y w a = goM er leaf sa i y w' a
  | 0, y, w, w', a, hs, h => rfl
  | i + 1, y, w, w', a, hs, h => by
    have e1 : tpM sa w (sa + i) = tpM sa w' (sa + i) := by
      rw [tpM, tpM]
      split
      · rfl
      · exact h _ (by omega)
    have e2 : bdE er leaf (7 - (sa + i)) (sa + i) w = bdE er leaf (7 - (sa + i)) (sa + i) w' := bdE_congr (by omega) (fun k hk => h k (by omega))
    have e3 : w (sa + i - 1) = w' (sa + i - 1) := h _ (by omega)
    rw [goM, goM, e1, e2, e3]
    exact goM_congr i _ w w' _ (by omega) (fun k hk => h k (by omega))
theorem go_init {er : Nat → Bool} {α : Type} {leaf : (Nat → Nat) → α → α} {sa : Nat} {w : Nat → Nat} {a : α} : goM er leaf sa (sa + 1 - sa) 0 w a = wkE er leaf (7 - sa) sa 5 w a := by
  rw [show sa + 1 - sa = 0 + 1 by omega, goM, goM, wkE_bd, tpM, if_pos (by omega)]
  rfl
theorem go_skip {er : Nat → Bool} {α : Type} {leaf : (Nat → Nat) → α → α} {sa j y : Nat} {w : Nat → Nat} {a : α} (hj : sa ≤ j) (hy : y ≤ tpM sa w j) (he : er (8 * y + j) = false) : goM er leaf sa (j + 1 - sa) y w a = goM er leaf sa (j + 1 - sa) (y + 1) w a := by
  obtain ⟨i, rfl⟩ : ∃ i, j = sa + i := ⟨j - sa, by omega⟩
  rw [show sa + i + 1 - sa = i + 1 by omega, goM, goM, show tpM sa w (sa + i) + 1 - y = (tpM sa w (sa + i) + 1 - (y + 1)) + 1 by omega, foldR]
  have e : bdE er leaf (7 - (sa + i)) (sa + i) w y a = a := by rw [bdE_e, he]; rfl
  rw [e]
theorem go_up {er : Nat → Bool} {α : Type} {leaf : (Nat → Nat) → α → α} {sa j y : Nat} {w : Nat → Nat} {a : α} (hj : sa ≤ j) (hy : y = tpM sa w j + 1) : goM er leaf sa (j + 1 - sa) y w a = goM er leaf sa (j - sa) (w (j - 1) + 1) w a := by
  obtain ⟨i, rfl⟩ : ∃ i, j = sa + i := ⟨j - sa, by omega⟩
  subst hy
  rw [show sa + i + 1 - sa = i + 1 by omega, goM, Nat.sub_self, show sa + i - sa = i by omega]
  rfl
theorem go_leaf {er : Nat → Bool} {α : Type} {leaf : (Nat → Nat) → α → α} {sa j y : Nat} {w : Nat → Nat} {a : α} (hj : sa ≤ j) (h7 : j = 7) (hy : y ≤ tpM sa w j) (he : er (8 * y + j) = true) : goM er leaf sa (j + 1 - sa) y w a = goM er leaf sa (j + 1 - sa) (y + 1) w (leaf (upN w j y) a) := by
  obtain ⟨i, rfl⟩ : ∃ i, j = sa + i := ⟨j - sa, by omega⟩
  rw [show sa + i + 1 - sa = i + 1 by omega, goM, goM, show tpM sa w (sa + i) + 1 - y = (tpM sa w (sa + i) + 1 - (y + 1)) + 1 by omega, foldR]
  have e : bdE er leaf (7 - (sa + i)) (sa + i) w y a = leaf (upN w (sa + i) y) a := by rw [bdE_e, he, show 7 - (sa + i) = 0 by omega]; rfl
  rw [e]
theorem go_down {er : Nat → Bool} {α : Type} {leaf : (Nat → Nat) → α → α} {sa j y : Nat} {w : Nat → Nat} {a : α} (hj : sa ≤ j) (h7 : j < 7) (hy : y ≤ tpM sa w j) (he : er (8 * y + j) = true) : goM er leaf sa (j + 1 - sa) y w a = goM er leaf sa (j + 1 + 1 - sa) 0 (upN w j y) a := by
  obtain ⟨i, rfl⟩ : ∃ i, j = sa + i := ⟨j - sa, by omega⟩
  have e : bdE er leaf (7 - (sa + i)) (sa + i) w y a = wkE er leaf (7 - (sa + (i + 1))) (sa + (i + 1)) y (upN w (sa + i) y) a := by rw [bdE_e, he, show 7 - (sa + i) = (7 - (sa + (i + 1))) + 1 by omega]; rfl
  have e2 : tpM sa (upN w (sa + i) y) (sa + (i + 1)) = y := by rw [tpM, if_neg (by omega), show sa + (i + 1) - 1 = sa + i by omega, upN_s]
  have e3 : tpM sa (upN w (sa + i) y) (sa + i) = tpM sa w (sa + i) := by
    rw [tpM, tpM]
    split
    · rfl
    · exact upN_n (by omega)
  have e4 : bdE er leaf (7 - (sa + i)) (sa + i) (upN w (sa + i) y) = bdE er leaf (7 - (sa + i)) (sa + i) w := bdE_congr (by omega) (fun k hk => upN_n (by omega))
  have e5 : upN w (sa + i) y (sa + (i + 1) - 1) = y := by rw [show sa + (i + 1) - 1 = sa + i by omega, upN_s]
  rw [show sa + i + 1 - sa = i + 1 by omega, show sa + i + 1 + 1 - sa = (i + 1) + 1 by omega, goM]
  rw [goM, e5, e2, Nat.sub_zero, ← wkE_bd, goM, e3, e4, ← e, show tpM sa w (sa + i) + 1 - y = (tpM sa w (sa + i) + 1 - (y + 1)) + 1 by omega, foldR]
  have e6 : goM er leaf sa i (upN w (sa + i) y (sa + i - 1) + 1) (upN w (sa + i) y) = goM er leaf sa i (w (sa + i - 1) + 1) w := by
    funext b
    cases i with
    | zero => rfl
    | succ i =>
      rw [upN_n (by omega)]
      exact goM_congr (i + 1) _ _ _ _ (by omega) (fun k hk => upN_n (by omega))
  rw [e6]
/-- a number that falls with every step of the walk -/
def dgM (w : Nat → Nat) (sa : Nat) : Nat → Nat
  | 0 => 0
  | i + 1 => 8 * dgM w sa i + (6 - w (sa + i))
def muM (sa jj y : Nat) (w : Nat → Nat) : Nat := if jj = sa then 0 else (8 * dgM w sa (jj - 1 - sa) + (7 - y)) * 8 ^ (8 - jj)
theorem dgM_congr {w w' : Nat → Nat} {sa : Nat} : ∀ {i : Nat}, (∀ k, k < sa + i → w k = w' k) → dgM w sa i = dgM w' sa i
  | 0, _ => rfl
  | i + 1, h => by rw [dgM, dgM, dgM_congr (fun k hk => h k (by omega)), h (sa + i) (by omega)]
theorem mu_init (sa : Nat) (w : Nat → Nat) : muM sa (sa + 1) 0 w = 7 * 8 ^ (7 - sa) := by
  rw [muM, if_neg (by omega), show sa + 1 - 1 - sa = 0 by omega, show 8 - (sa + 1) = 7 - sa by omega]
  rfl
theorem mul_lt_e {a b e : Nat} (h : a + 1 ≤ b) (he : 1 ≤ e) : a * e + 1 ≤ b * e := by
  have h1 : (a + 1) * e ≤ b * e := Nat.mul_le_mul_right e h
  rw [Nat.add_mul, Nat.one_mul] at h1
  omega
theorem mu_leaf {sa j y k : Nat} {w : Nat → Nat} (hj : sa ≤ j) (hy : y ≤ k) (hk : k ≤ 5) : muM sa (j + 1) (k + 1) w + 1 ≤ muM sa (j + 1) y w := by
  rw [muM, muM, if_neg (by omega), if_neg (by omega)]
  exact mul_lt_e (by omega) (Nat.pow_pos (by omega))
theorem mu_up {sa j y : Nat} {w : Nat → Nat} (hj : sa ≤ j) (h8 : j + 1 ≤ 8) (hy : y ≤ 6) (hw : j ≠ sa → w (j - 1) < 6) : muM sa j (w (j - 1) + 1) w + 1 ≤ muM sa (j + 1) y w := by
  rw [muM, muM, if_neg (show ¬ j + 1 = sa by omega)]
  have he : 1 ≤ 8 ^ (8 - (j + 1)) := Nat.pow_pos (by omega)
  by_cases e : j = sa
  · rw [if_pos e]
    have := mul_lt_e (a := 0) (b := 8 * dgM w sa (j + 1 - 1 - sa) + (7 - y)) (e := 8 ^ (8 - (j + 1))) (by omega) he
    omega
  · rw [if_neg e]
    have h1 : j + 1 - 1 - sa = (j - 1 - sa) + 1 := by omega
    have h2 : 8 ^ (8 - j) = 8 * 8 ^ (8 - (j + 1)) := by rw [show 8 - j = (8 - (j + 1)) + 1 by omega, Nat.pow_succ, Nat.mul_comm]
    have h3 := hw e
    rw [h1, dgM, show sa + (j - 1 - sa) = j - 1 by omega, h2, ← Nat.mul_assoc]
    exact mul_lt_e (by omega) he
theorem mu_down {sa j y k : Nat} {w : Nat → Nat} (hj : sa ≤ j) (h7 : j < 7) (hy : y ≤ k) (hk : k ≤ 5) : muM sa (j + 1 + 1) 0 (upN w j k) + 1 ≤ muM sa (j + 1) y w := by
  rw [muM, muM, if_neg (by omega), if_neg (by omega)]
  have h2 : 8 ^ (8 - (j + 1)) = 8 * 8 ^ (8 - (j + 1 + 1)) := by rw [show 8 - (j + 1) = (8 - (j + 1 + 1)) + 1 by omega, Nat.pow_succ, Nat.mul_comm]
  have h3 : j + 1 + 1 - 1 - sa = (j + 1 - 1 - sa) + 1 := by omega
  rw [h2, ← Nat.mul_assoc, h3, dgM, show sa + (j + 1 - 1 - sa) = j by omega, upN_s, dgM_congr (w := upN w j k) (w' := w) (fun q hq => upN_n (by omega))]
  exact mul_lt_e (by omega) (Nat.pow_pos (by omega))
/-- the least margin so far, as the twin keeps it -/
def metM (mg : (Nat → Nat) → Int32) (am : Int32) (sa : Nat) (w : Nat → Nat) (a : AccT) : AccT :=
  (if am ≤ mg w then a.1 else a.1 + 1, match a.2 with
    | none => some (mg w, sa, w)
    | some q => if mg w < q.1 then some (mg w, sa, w) else some q)
def walM (er : Nat → Bool) (mg : Nat → (Nat → Nat) → Int32) (am : Int32) (n : Nat) : AccT := foldN (fun x a => wkE er (metM (mg x) am x) (7 - x) x 5 (fun _ => 0) a) n (0, none)
def accM (a : AccT) (bl bm bf : Int32) (be : Nat → Int32) : Prop := bl = a.1 ∧ match a.2 with
  | none => bm = -9
  | some q => q.2.1 < 8 ∧ bm = q.1 ∧ ¬ q.1 = -9 ∧ bf = nI q.2.1 ∧ ∀ k, k < 8 → be k = if k < q.2.1 then -9 else nI (q.2.2 k)
theorem accM_new {mg : (Nat → Nat) → Int32} {am : Int32} {sa : Nat} {w : Nat → Nat} {a : AccT} {bl bm bf : Int32} {be wy : Nat → Int32} (h : accM a bl bm bf be) (hm : ¬ mg w = -9) (hs : sa < 8) (hb : bm = -9 ∨ mg w < bm) (hw : ∀ k, sa ≤ k → k < 8 → wy k = nI (w k)) :
    accM (metM mg am sa w a) (if am ≤ mg w then bl else bl + 1) (mg w) (nI sa) (fun k => if k < sa then (-9) else wy k) := by
  obtain ⟨a1, a2⟩ := a
  obtain ⟨h1, h2⟩ := h
  subst h1
  refine ⟨rfl, ?_⟩
  have hk : ∀ k, k < 8 → (if k < sa then (-9 : Int32) else wy k) = if k < sa then -9 else nI (w k) := by
    intro k hk8
    split
    · rfl
    · exact hw k (by omega) hk8
  cases a2 with
  | none => exact ⟨hs, rfl, hm, rfl, hk⟩
  | some q =>
    simp only at h2
    obtain ⟨h3, h4, h5, h6, h7⟩ := h2
    subst h4
    have hc : mg w < q.1 := hb.elim (fun e => absurd e h5) id
    rw [show (metM mg am sa w (bl, some q)).2 = some (mg w, sa, w) from if_pos hc]
    exact ⟨hs, rfl, hm, rfl, hk⟩
theorem accM_old {mg : (Nat → Nat) → Int32} {am : Int32} {sa : Nat} {w : Nat → Nat} {a : AccT} {bl bm bf : Int32} {be : Nat → Int32} (h : accM a bl bm bf be) (h9 : ¬ bm = -9) (hb : ¬ mg w < bm) :
    accM (metM mg am sa w a) (if am ≤ mg w then bl else bl + 1) bm bf be := by
  obtain ⟨a1, a2⟩ := a
  obtain ⟨h1, h2⟩ := h
  subst h1
  refine ⟨rfl, ?_⟩
  cases a2 with
  | none => exact absurd h2 h9
  | some q =>
    simp only at h2
    obtain ⟨h3, h4, h5, h6, h7⟩ := h2
    subst h4
    rw [show (metM mg am sa w (bl, some q)).2 = some q from if_neg hb]
    exact ⟨h3, rfl, h5, h6, h7⟩
theorem pI_z : pI 0 = -1 := by decide
theorem pI_p1 (y : Nat) : pI y + 1 = nI y := by
  cases y with
  | zero => decide
  | succ y => rw [pI_s]; exact nI_add y 1
theorem pI_ge {m k : Nat} (hm : m ≤ 8) (hk : k < 8) (h : ¬ pI m < nI k) : ∃ j, m = j + 1 ∧ k ≤ j := by
  cases m with
  | zero =>
    exfalso
    apply h
    rw [pI_z, Int32.lt_iff_toInt_lt]
    have e1 : (-1 : Int32).toInt = -1 := by decide
    have e2 : (nI k).toInt = k := nI_toInt (by omega)
    omega
  | succ j =>
    rw [pI_s] at h
    exact ⟨j, rfl, Nat.le_of_not_lt fun q => h ((nI_ltI (by omega) (by omega)).mpr q)⟩
theorem pI_lk {m k : Nat} (hm : m ≤ 8) (hk : k ≤ m) (h : pI m < nI k) : m = k := by
  cases m with
  | zero => omega
  | succ j =>
    rw [pI_s] at h
    have := (nI_ltI (by omega) (by omega)).mp h
    omega
theorem wy_up {wy : Nat → Int32} {w : Nat → Nat} {sa j y : Nat} (h : ∀ i, sa ≤ i → i + 1 < j + 1 → wy i = nI (w i)) : ∀ i, sa ≤ i → i < j + 1 → upd wy j (nI y) i = nI (upN w j y i) := by
  intro i h1 h2
  by_cases e : i = j
  · subst e; rw [pk_us, upN_s]
  · rw [pk_un e, upN_n e]
    exact h i h1 (by omega)
theorem we_up {er : Nat → Bool} {w : Nat → Nat} {sa j y : Nat} (h : ∀ i, sa ≤ i → i + 1 < j + 1 → w i ≤ tpM sa w i ∧ w i < 6 ∧ er (8 * w i + i) = true) (hy : y ≤ tpM sa w j) (h6 : y < 6) (he : er (8 * y + j) = true) :
    ∀ i, sa ≤ i → i + 1 < j + 1 + 1 → upN w j y i ≤ tpM sa (upN w j y) i ∧ upN w j y i < 6 ∧ er (8 * upN w j y i + i) = true := by
  intro i h1 h2
  have e3 : tpM sa (upN w j y) i = tpM sa w i := by
    rw [tpM, tpM]
    split
    · rfl
    · exact upN_n (by omega)
  rw [e3]
  by_cases e : i = j
  · subst e; rw [upN_s]; exact ⟨hy, h6, he⟩
  · rw [upN_n e]
    exact h i h1 (by omega)
theorem upd_upd (f : Nat → Int32) (k : Nat) (u v : Int32) : upd (upd f k u) k v = upd f k v := by
  funext i
  simp only [upd]
  split <;> rfl
def mgT (er wt : Nat → Bool) (ho mo : Nat → Int32) (sa : Nat) (w : Nat → Nat) : Int32 := mgM (sumA (drT er wt w) sa 8) (sumA (rsT ho mo wt w) sa 8)
