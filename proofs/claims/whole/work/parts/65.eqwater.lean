-- THE TWO WATERS ARE ALIKE
def ok99 (le : Nat → Int32) : Prop := ∀ z, z < 6 → ∃ v : Nat, 1 ≤ v ∧ v ≤ 99 ∧ le z = nI v
def ok6k (he : Nat → Int32) : Prop := ∀ p, ∃ v : Nat, v ≤ 6000 ∧ he p = nI v
theorem at_n {zo le : Nat → Int32} {p : Nat} (hle : ok99 le) (h : isAirS zo p = false) : ∃ v : Nat, 1 ≤ v ∧ v ≤ 99 ∧ atZ zo le p = nI v := by
  obtain ⟨z, h1, -, -, h4⟩ := mz_n h
  rw [atZ, h4]
  exact hle z h1
theorem pa_t {zo go le : Nat → Int32} {p : Nat} (h : isES zo go p = true) : paS zo go le p = atZ zo le p := by rw [paS, h]; rfl
theorem pa_f {zo go le : Nat → Int32} {p : Nat} (h : isES zo go p = false) : paS zo go le p = 0 := by rw [paS, h]; rfl
theorem pa_n {zo go le : Nat → Int32} (hle : ok99 le) (p : Nat) : ∃ v : Nat, v ≤ 99 ∧ paS zo go le p = nI v ∧ (isES zo go p = true → 1 ≤ v) := by
  cases h : isES zo go p with
  | true =>
    obtain ⟨v, h1, h2, h3⟩ := at_n hle (isE_na h)
    exact ⟨v, h2, by rw [pa_t h, h3], fun _ => h1⟩
  | false => exact ⟨0, by omega, by rw [pa_f h]; rfl, fun h => by cases h⟩
theorem pa_0 {zo go le : Nat → Int32} (hle : ok99 le) {p : Nat} : paS zo go le p = 0 ↔ isES zo go p = false := by
  constructor
  · intro h
    cases hb : isES zo go p with
    | false => rfl
    | true =>
      obtain ⟨v, h1, h2, h3⟩ := pa_n (go := go) hle p
      have h4 := h3 hb
      rw [h2] at h
      have := (nI_eq (a := v) (b := 0) (by omega) (by omega)).mp h
      omega
  · exact pa_f
theorem mn_les (x y : Int32) : mnI x y = lesM x y := by
  rw [mnI, lesM]
  by_cases h : y < x
  · rw [if_pos h, if_pos (by rw [Int32.lt_iff_toInt_lt] at h; rw [Int32.le_iff_toInt_le]; omega)]
  · rw [if_neg h]
    by_cases h2 : y ≤ x
    · rw [if_pos h2]
      rw [Int32.lt_iff_toInt_lt] at h
      rw [Int32.le_iff_toInt_le] at h2
      exact Int32.toInt_inj.mp (by omega)
    · rw [if_neg h2]
theorem mn_n {a b : Nat} (ha : a ≤ 99) (hb : b ≤ 99) : mnI (nI a) (nI b) = nI (if b < a then b else a) := by
  rw [mnI]
  by_cases h : b < a
  · rw [if_pos h, if_pos ((nI_ltI (by omega) (by omega)).mpr h)]
  · rw [if_neg h, if_neg (fun q => h ((nI_ltI (by omega) (by omega)).mp q))]
theorem sum4 (f : Nat → Int32) : sumS f 4 = f 0 + f 1 + f 2 + f 3 := by
  show 0 + f 0 + f 1 + f 2 + f 3 = _
  rw [Int32.zero_add]
theorem sum_pd {f g : Nat → Int32} (h : ∀ d, f (pd d) = g d) : sumS g 4 = sumS f 4 := by
  rw [sum4, sum4, ← h 0, ← h 1, ← h 2, ← h 3]
  show f 3 + f 2 + f 0 + f 1 = f 0 + f 1 + f 2 + f 3
  ac_rfl
theorem ld_eq {zo he go le : Nat → Int32} (hle : ok99 le) {c : Nat} (hc : isES zo go c = true) (d : Nat) : ldT (paS zo go le) c (pd d) = flM zo he go le c false d := by
  rw [ldT, flM]
  cases nb c (pd d) with
  | none => rfl
  | some q =>
    show mnI (paS zo go le c) (paS zo go le q) = if isES zo go q then lesM (atZ zo le c) (atZ zo le q) * 1 else 0
    cases hq : isES zo go q with
    | true => rw [pa_t hc, pa_t hq, mn_les, if_pos rfl, Int32.mul_one]
    | false =>
      obtain ⟨v, h1, h2, h3⟩ := pa_n (go := go) hle c
      have h4 := h3 hc
      rw [pa_f hq, h2, if_neg (by decide)]
      show mnI (nI v) (nI 0) = nI 0
      rw [mn_n h1 (by omega), if_pos (by omega)]
theorem fw_eq {zo he go le : Nat → Int32} (hle : ok99 le) {c : Nat} (hc : isES zo go c = true) (d : Nat) : fwT (paS zo go le) he c (pd d) = flM zo he go le c true d := by
  rw [fwT, flM]
  cases nb c (pd d) with
  | none => rfl
  | some q =>
    show mnI (paS zo go le c) (paS zo go le q) * he q = if isES zo go q then lesM (atZ zo le c) (atZ zo le q) * he q else 0
    cases hq : isES zo go q with
    | true => rw [pa_t hc, pa_t hq, mn_les, if_pos rfl]
    | false =>
      obtain ⟨v, h1, h2, h3⟩ := pa_n (go := go) hle c
      have h4 := h3 hc
      rw [pa_f hq, h2, if_neg (by decide)]
      have e : mnI (nI v) (nI 0) = nI 0 := by rw [mn_n h1 (by omega), if_pos (by omega)]
      show mnI (nI v) (nI 0) * he q = 0
      rw [e]
      exact Int32.zero_mul
theorem upd_self (f : Nat → Int32) (k : Nat) : upd f k (f k) = f := by
  funext j
  rw [upd]
  split
  · rename_i h; rw [h]
  · rfl
theorem feS_at (pa : Nat → Int32) (la : Int32) (he : Nat → Int32) : ∀ k j, feS pa la he k j = if j < k ∧ ¬ pa j = 0 then (if j = 7 then 0 else if lkS la j then 1000 * la else he j) else he j
  | 0, j => by rw [if_neg (by omega)]; rfl
  | k + 1, j => by
    have ih := feS_at pa la he k
    rw [feS_s]
    by_cases hj : j = k
    · subst hj
      by_cases h1 : pa j = 0
      · rw [if_pos h1, ih, if_neg (by omega), if_neg (fun q => q.2 h1)]
      · rw [if_neg h1, if_pos (c := j < j + 1 ∧ ¬ pa j = 0) ⟨by omega, h1⟩]
        by_cases h2 : j = 7
        · rw [if_pos h2, if_pos h2, pk_us]
        · rw [if_neg h2, if_neg h2, fe1]
          cases h3 : lkS la j with
          | true => rw [if_pos rfl, if_pos rfl, pk_us]
          | false => rw [if_neg (by decide), if_neg (by decide), ih, if_neg (by omega)]
    · have hf : fe1 pa la k (feS pa la he k) j = feS pa la he k j := by
        rw [fe1]
        split
        · exact pk_un hj
        · rfl
      have e : (j < k + 1 ∧ ¬ pa j = 0) = (j < k ∧ ¬ pa j = 0) := propext ⟨fun q => ⟨by omega, q.2⟩, fun q => ⟨by omega, q.2⟩⟩
      simp only [e]
      rw [← ih]
      by_cases h1 : pa k = 0
      · rw [if_pos h1]
      · rw [if_neg h1]
        by_cases h2 : k = 7
        · rw [if_pos h2, pk_un hj, hf]
        · rw [if_neg h2, hf]
theorem feM_at (zo go : Nat → Int32) (la : Int32) (he : Nat → Int32) : ∀ k j, feM zo go la he k j = if j < k ∧ (isES zo go j && lkS la j) = true then 1000 * la else he j
  | 0, j => by rw [if_neg (by omega)]; rfl
  | k + 1, j => by
    have ih := feM_at zo go la he k
    rw [feM_s]
    by_cases hj : j = k
    · subst hj
      by_cases h1 : (isES zo go j && lkS la j) = true
      · rw [if_pos h1, if_pos ⟨by omega, h1⟩, pk_us]
      · rw [if_neg h1, ih, if_neg (by omega), if_neg (fun q => h1 q.2)]
    · have e : (j < k + 1 ∧ (isES zo go j && lkS la j) = true) = (j < k ∧ (isES zo go j && lkS la j) = true) := propext ⟨fun q => ⟨by omega, q.2⟩, fun q => ⟨by omega, q.2⟩⟩
      simp only [e]
      rw [← ih]
      split
      · exact pk_un hj
      · rfl
theorem fe_eq {zo go le : Nat → Int32} (hle : ok99 le) (la : Int32) (he : Nat → Int32) : f7M zo go (feM zo go la he 48) = feS (paS zo go le) la he 48 := by
  funext j
  have h7 : lkS la 7 = false := by simp [lkS]
  have hM : feM zo go la he 48 j = if j < 48 ∧ (isES zo go j && lkS la j) = true then 1000 * la else he j := feM_at zo go la he 48 j
  rw [feS_at, f7M]
  have key : (¬ paS zo go le j = 0) = (isES zo go j = true) := propext ⟨fun q => by
    cases hb : isES zo go j with
    | true => rfl
    | false => exact absurd ((pa_0 hle).mpr hb) q, fun q r => by rw [(pa_0 hle).mp r] at q; cases q⟩
  simp only [key]
  by_cases hj : j = 7
  · subst hj
    rw [if_pos (c := (7 : Nat) = 7) rfl]
    cases hb : isES zo go 7 with
    | true => rw [if_pos rfl, pk_us, if_pos ⟨by omega, rfl⟩]
    | false => rw [if_neg (by decide), hM, h7, hb, if_neg (by simp), if_neg (by simp)]
  · have e : (if isES zo go 7 then upd (feM zo go la he 48) 7 0 else feM zo go la he 48) j = feM zo go la he 48 j := by
      split
      · exact pk_un hj
      · rfl
    rw [e, hM, if_neg hj]
    by_cases h1 : j < 48 ∧ isES zo go j = true
    · rw [if_pos h1, h1.2]
      cases hl : lkS la j with
      | true => rw [if_pos ⟨h1.1, rfl⟩, if_pos rfl]
      | false => rw [if_neg (by simp), if_neg (by decide)]
    · rw [if_neg h1, if_neg (fun q => h1 ⟨q.1, by have := q.2; rw [Bool.and_eq_true] at this; exact this.1⟩)]
theorem lv_eq {zo go le : Nat → Int32} (hle : ok99 le) (la : Int32) (he : Nat → Int32) : ∀ k, lvM zo go le la he k = lvS (paS zo go le) la he k
  | 0 => rfl
  | k + 1 => by
    have ih := lv_eq (zo := zo) (go := go) hle la he k
    rw [lvM_s, lvS_s, ih]
    by_cases h : paS zo go le k = 0 ∨ lkS la k = true ∨ k = 7
    · have e : allM zo go le la (lvS (paS zo go le) la he k) k = 0 := by
        rw [allM, if_neg]
        intro q
        rw [Bool.and_eq_true, Bool.not_eq_true', Bool.or_eq_false_iff] at q
        rcases h with h | h | h
        · rw [(pa_0 hle).mp h] at q; exact absurd q.1 (by decide)
        · rw [h] at q; exact absurd q.2.2 (by decide)
        · exact absurd h (of_decide_eq_false q.2.1)
      rw [if_pos h, e, if_pos (by decide), upd_self]
    · have hk : isES zo go k = true := by
        cases hb : isES zo go k with
        | true => rfl
        | false => exact absurd (Or.inl ((pa_0 hle).mpr hb)) h
      have hl : lkS la k = false := by
        cases hb : lkS la k with
        | false => rfl
        | true => exact absurd (Or.inr (Or.inl hb)) h
      have h7 : ¬ k = 7 := fun q => h (Or.inr (Or.inr q))
      have e : allM zo go le la (lvS (paS zo go le) la he k) k = sumS (ldT (paS zo go le) k) 4 := by
        rw [allM, if_pos (by rw [hk, hl, decide_eq_false h7]; rfl)]
        exact sum_pd (fun d => ld_eq hle hk d)
      rw [if_neg h, e]
      by_cases h0 : sumS (ldT (paS zo go le) k) 4 ≤ 0
      · rw [if_pos h0, if_pos h0, upd_self]
      · rw [if_neg h0, if_neg h0, sum_pd (fun d => fw_eq hle hk d)]
theorem sw_eq {zo go le : Nat → Int32} (hle : ok99 le) (la : Int32) (he : Nat → Int32) : ∀ n, swN zo go le la he n = swS (paS zo go le) la he n
  | 0 => rfl
  | n + 1 => by
    show swM zo go le la (swN zo go le la he n) = lvS (paS zo go le) la (feS (paS zo go le) la (swS (paS zo go le) la he n) 48) 48
    rw [sw_eq hle la he n, swM, lv_eq hle, fe_eq hle]
theorem seep_eq {zo he go le : Nat → Int32} (hle : ok99 le) : (if isES zo go 7 then sumS (flM zo he go le 7 true) 4 / 1000 else 0) = sumS (fwT (paS zo go le) he 7) 4 / 1000 := by
  cases h : isES zo go 7 with
  | true => rw [if_pos rfl, sum_pd (fun d => fw_eq hle h d)]
  | false =>
    rw [if_neg (by decide)]
    have e : ∀ d, fwT (paS zo go le) he 7 d = 0 := by
      intro d
      rw [fwT]
      cases nb 7 d with
      | none => rfl
      | some q =>
        obtain ⟨v, h1, h2, -⟩ := pa_n (zo := zo) (go := go) hle q
        have e2 : mnI (nI 0) (nI v) = nI 0 := by rw [mn_n (by omega) h1, if_neg (by omega)]
        show mnI (paS zo go le 7) (paS zo go le q) * he q = 0
        rw [pa_f h, h2]
        show mnI (nI 0) (nI v) * he q = 0
        rw [e2]
        exact Int32.zero_mul
    rw [sum4, e, e, e, e]
    decide
/-- heads stay between 0 and 6000 -/
theorem term_n {pa he : Nat → Int32} (hpa : ∀ p, ∃ v : Nat, v ≤ 99 ∧ pa p = nI v) (hh : ok6k he) (c d : Nat) : ∃ a b : Nat, a ≤ 99 ∧ b ≤ 6000 * a ∧ ldT pa c d = nI a ∧ fwT pa he c d = nI b := by
  rw [ldT, fwT]
  cases nb c d with
  | none => exact ⟨0, 0, by omega, by omega, rfl, rfl⟩
  | some q =>
    obtain ⟨v, h1, h2⟩ := hpa c
    obtain ⟨u, h3, h4⟩ := hpa q
    obtain ⟨x, h5, h6⟩ := hh q
    refine ⟨if u < v then u else v, (if u < v then u else v) * x, by split <;> omega, ?_, ?_, ?_⟩
    · rw [Nat.mul_comm]
      exact Nat.mul_le_mul_right _ h5
    · show mnI (pa c) (pa q) = _
      rw [h2, h4, mn_n h1 h3]
    · show mnI (pa c) (pa q) * he q = _
      rw [h2, h4, h6, mn_n h1 h3, pk_mul]
theorem upd_6k {he : Nat → Int32} {k : Nat} {v : Nat} (hh : ok6k he) (hv : v ≤ 6000) : ok6k (upd he k (nI v)) := by
  intro p
  by_cases e : p = k
  · rw [e, pk_us]; exact ⟨v, hv, rfl⟩
  · rw [pk_un e]; exact hh p
theorem lv_6k {pa : Nat → Int32} (hpa : ∀ p, ∃ v : Nat, v ≤ 99 ∧ pa p = nI v) (la : Int32) {he : Nat → Int32} (hh : ok6k he) : ∀ k, ok6k (lvS pa la he k)
  | 0 => hh
  | k + 1 => by
    have ih := lv_6k hpa la hh k
    rw [lvS_s]
    split
    · exact ih
    · split
      · exact ih
      · rename_i h1 h2
        obtain ⟨a0, b0, p0, q0, r0, s0⟩ := term_n hpa ih k 0
        obtain ⟨a1, b1, p1, q1, r1, s1⟩ := term_n hpa ih k 1
        obtain ⟨a2, b2, p2, q2, r2, s2⟩ := term_n hpa ih k 2
        obtain ⟨a3, b3, p3, q3, r3, s3⟩ := term_n hpa ih k 3
        have e1 : sumS (ldT pa k) 4 = nI (a0 + a1 + a2 + a3) := by rw [sum4, r0, r1, r2, r3, nI_add, nI_add, nI_add]
        have e2 : sumS (fwT pa (lvS pa la he k) k) 4 = nI (b0 + b1 + b2 + b3) := by rw [sum4, s0, s1, s2, s3, nI_add, nI_add, nI_add]
        rw [e1, e2]
        rw [e1] at h2
        have hpos : 0 < a0 + a1 + a2 + a3 := by
          rcases Nat.eq_zero_or_pos (a0 + a1 + a2 + a3) with z | z
          · rw [z] at h2; exact absurd (by decide) h2
          · exact z
        rw [pk_div (a := b0 + b1 + b2 + b3) (d := a0 + a1 + a2 + a3) (by omega) (by omega) (by omega)]
        refine upd_6k ih ?_
        apply Nat.div_le_of_le_mul
        rw [Nat.mul_comm]
        omega
theorem fe_6k {pa : Nat → Int32} {la : Int32} {l : Nat} (hl : l ≤ 6) (hla : la = nI l) {he : Nat → Int32} (hh : ok6k he) (k : Nat) : ok6k (feS pa la he k) := by
  intro j
  rw [feS_at]
  split
  · split
    · exact ⟨0, by omega, rfl⟩
    · split
      · refine ⟨1000 * l, by omega, ?_⟩
        rw [hla]
        exact pk_mul 1000 l
      · exact hh j
  · exact hh j
theorem sw_6k {pa : Nat → Int32} (hpa : ∀ p, ∃ v : Nat, v ≤ 99 ∧ pa p = nI v) {la : Int32} {l : Nat} (hl : l ≤ 6) (hla : la = nI l) {he : Nat → Int32} (hh : ok6k he) : ∀ n, ok6k (swS pa la he n)
  | 0 => hh
  | n + 1 => lv_6k hpa la (fe_6k hl hla (sw_6k hpa hl hla hh n) 48) 48
theorem z_6k : ok6k (fun _ => 0) := fun _ => ⟨0, by omega, rfl⟩
