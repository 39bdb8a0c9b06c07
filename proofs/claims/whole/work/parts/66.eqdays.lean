-- THE TWO DAYS ARE ALIKE
def ok01 (zo go : Nat → Int32) : Prop := ∀ p, p < 48 → (go p = 0 ∨ go p = 1) ∧ (isAirS zo p = true → go p = 0)
theorem nb_lt {p d q : Nat} (hp : p < 48) (h : nb p d = some q) : q < 48 := by
  rcases nb_cases (d := d) hp with ⟨h1, -⟩ | ⟨r, h1, h2, -⟩
  · rw [h1] at h; cases h
  · rw [h2] at h; cases h; exact h1
theorem any4 (f : Nat → Bool) : anyS f 4 = (f 0 || f 1 || f 2 || f 3) := by
  show ((((false || f 0) || f 1) || f 2) || f 3) = _
  rw [Bool.false_or]
theorem any_pd {f g : Nat → Bool} (h : ∀ d, f (pd d) = g d) : anyS g 4 = anyS f 4 := by
  rw [any4, any4, ← h 0, ← h 1, ← h 2, ← h 3]
  show (f 3 || f 2 || f 0 || f 1) = (f 0 || f 1 || f 2 || f 3)
  cases f 0 <;> cases f 1 <;> cases f 2 <;> cases f 3 <;> rfl
theorem nlt_le {x y : Int32} : (!decide (x < y)) = decide (y ≤ x) := by
  by_cases h : x < y
  · rw [decide_eq_true h, decide_eq_false]
    · rfl
    · rw [Int32.lt_iff_toInt_lt] at h; rw [Int32.le_iff_toInt_le]; omega
  · rw [decide_eq_false h, decide_eq_true]
    · rfl
    · rw [Int32.lt_iff_toInt_lt] at h; rw [Int32.le_iff_toInt_le]; omega
theorem hold_na {zo hd : Nat → Int32} {p : Nat} (h : isAirS zo p = false) : holdS zo hd p = atZ zo hd p := by rw [holdS, h]; rfl
theorem op_eq {zo go go' gn : Nat → Int32} {ff : Int32} (hg : ∀ p, p < 48 → go p = go' p) (h01 : ok01 zo go') {c : Nat} (hc : c < 48) (hn : isAirS zo c = false) (d : Nat) : opT zo go' gn ff c (pd d) = opTM zo go gn ff c d := by
  rw [opT, opTM]
  cases hq : nb c (pd d) with
  | none => rfl
  | some q =>
    have h48 := nb_lt hc hq
    show (decide (go' q = 1) || (isES zo go' q && !decide (holdS zo gn q ≤ ff * holdS zo gn c))) = (!isAirS zo q && (decide (go q = 1) || !decide (atZ zo gn q ≤ ff * atZ zo gn c)))
    rw [hg q h48, hold_na hn]
    cases ha : isAirS zo q with
    | true =>
      rw [(h01 q h48).2 ha, isES, ha]
      rfl
    | false =>
      rw [hold_na ha, isES, ha]
      rcases (h01 q h48).1 with h | h <;> (rw [h]; simp)
theorem lo_eq {zo he go go' hd gn : Nat → Int32} {ff : Int32} (hg : ∀ p, p < 48 → go p = go' p) (h01 : ok01 zo go') {c : Nat} (hc : c < 48) : loM zo he go hd gn ff c = loS zo he go' hd gn ff c := by
  have he1 : isES zo go c = isES zo go' c := by rw [isES, isES, hg c hc]
  rw [loM, loS, he1]
  cases hE : isES zo go' c with
  | false => rfl
  | true =>
    have hn := isE_na hE
    rw [hold_na hn, nlt_le, opS, opB, any_pd (fun d => op_eq hg h01 hc hn d)]
theorem cnt_congr {f g : Nat → Bool} : ∀ {n : Nat}, (∀ c, c < n → f c = g c) → cntS f n = cntS g n
  | 0, _ => rfl
  | n + 1, h => by rw [cntS, cntS, cnt_congr (fun c hc => h c (by omega)), h n (by omega)]
theorem dv_congr {f g : Nat → Bool} : ∀ {n : Nat}, (∀ c, c < n → f c = g c) → dvM f n = dvM g n
  | 0, _ => rfl
  | n + 1, h => by rw [dvM_s, dvM_s, dv_congr (fun c hc => h c (by omega)), h n (by omega)]
/-- counts as numbers -/
def cnN (f : Nat → Bool) : Nat → Nat
  | 0 => 0
  | n + 1 => cnN f n + (if f n then 1 else 0)
def frN (f : Nat → Bool) : Nat → Bool
  | 0 => false
  | n + 1 => frN f n || (f n && decide (n % 8 = 0))
theorem cnN_le (f : Nat → Bool) : ∀ n, cnN f n ≤ n
  | 0 => Nat.le_refl 0
  | n + 1 => by
    have := cnN_le f n
    rw [cnN]
    split <;> omega
theorem cnt_n (f : Nat → Bool) : ∀ n, cntS f n = nI (cnN f n)
  | 0 => rfl
  | n + 1 => by
    rw [cntS, cnN, cnt_n f n]
    split
    · exact nI_add _ 1
    · rfl
theorem dv_n (f : Nat → Bool) : ∀ n, n ≤ 48 → dvM f n = nI (cnN f n + if frN f n then 100 else 0)
  | 0, _ => rfl
  | n + 1, hn => by
    have hc := cnN_le f n
    have hb : bI (f n) = nI (if f n then 1 else 0) := by cases f n <;> rfl
    rw [dvM_s, dv_n f n (by omega), hb, nI_add, cnN, frN]
    cases hf : f n with
    | false =>
      rw [Bool.false_and, Bool.false_and, Bool.or_false]
      show nI _ + nI 0 = nI _
      rw [nI_add]
      rfl
    | true =>
      rw [Bool.true_and, Bool.true_and]
      cases hfr : frN f n with
      | true =>
        have h1 : ¬ nI (cnN f n + 100 + 1) < 100 := fun q => by have := (nI_ltI (a := cnN f n + 100 + 1) (b := 100) (by omega) (by omega)).mp q; omega
        show nI (cnN f n + 100 + 1) + (if (decide (n % 8 = 0) && decide (nI (cnN f n + 100 + 1) < 100)) = true then 100 else 0) = _
        rw [decide_eq_false h1, Bool.and_false, if_neg (by decide)]
        show nI _ + nI 0 = nI _
        rw [nI_add]
        congr 1
      | false =>
        have h1 : nI (cnN f n + 0 + 1) < 100 := (nI_ltI (a := cnN f n + 0 + 1) (b := 100) (by omega) (by omega)).mpr (by omega)
        show nI (cnN f n + 0 + 1) + (if (decide (n % 8 = 0) && decide (nI (cnN f n + 0 + 1) < 100)) = true then 100 else 0) = _
        rw [decide_eq_true h1, Bool.and_true, Bool.false_or]
        cases decide (n % 8 = 0) with
        | true =>
          show nI _ + nI 100 = nI _
          rw [nI_add]
          congr 1
        | false =>
          show nI _ + nI 0 = nI _
          rw [nI_add]
          congr 1
theorem day_eq (f : Nat → Bool) : dvM f 48 - dvM f 48 / 100 * 100 = cntS f 48 := by
  have hc := cnN_le f 48
  rw [dv_n f 48 (by omega), cnt_n]
  show nI _ - nI _ / nI 100 * nI 100 = nI _
  rw [pk_rem (by split <;> omega) (by omega) (by omega)]
  congr 1
  split <;> omega
theorem cn_pos {f : Nat → Bool} {c : Nat} (h : f c = true) : ∀ {n : Nat}, c < n → 1 ≤ cnN f n
  | 0, hc => absurd hc (Nat.not_lt_zero c)
  | n + 1, hc => by
    rw [cnN]
    by_cases e : c = n
    · subst e; rw [h]; simp
    · have := cn_pos h (n := n) (by omega)
      omega
theorem fr_ex {f : Nat → Bool} : ∀ {n : Nat}, frN f n = true ↔ ∃ c, c < n ∧ f c = true ∧ c % 8 = 0
  | 0 => ⟨fun h => absurd h (by simp [frN]), fun ⟨c, h, _⟩ => absurd h (Nat.not_lt_zero c)⟩
  | n + 1 => by
    rw [frN, Bool.or_eq_true, fr_ex (n := n), Bool.and_eq_true, decide_eq_true_eq]
    constructor
    · rintro (⟨c, h1, h2, h3⟩ | ⟨h1, h2⟩)
      · exact ⟨c, by omega, h2, h3⟩
      · exact ⟨n, by omega, h1, h2⟩
    · rintro ⟨c, h1, h2, h3⟩
      by_cases e : c = n
      · subst e; exact Or.inr ⟨h2, h3⟩
      · exact Or.inl ⟨c, by omega, h2, h3⟩
theorem cn_congr {f g : Nat → Bool} : ∀ {n : Nat}, (∀ c, c < n → f c = g c) → cnN f n = cnN g n
  | 0, _ => rfl
  | n + 1, h => by rw [cnN, cnN, cn_congr (fun c hc => h c (by omega)), h n (by omega)]
theorem cn_mono {f g : Nat → Bool} : ∀ {n : Nat}, (∀ c, c < n → g c = true → f c = true) → cnN g n ≤ cnN f n
  | 0, _ => Nat.le_refl 0
  | n + 1, h => by
    have ih := cn_mono (n := n) (fun c hc => h c (by omega))
    rw [cnN, cnN]
    cases hg : g n with
    | true => rw [h n (by omega) hg]; omega
    | false => simp only [Bool.false_eq_true, if_false]; omega
theorem cn_lt {f g : Nat → Bool} {j : Nat} : ∀ {n : Nat}, j < n → (∀ c, c < n → g c = true → f c = true) → f j = true → g j = false → cnN g n + 1 ≤ cnN f n
  | 0, hj, _, _, _ => absurd hj (Nat.not_lt_zero j)
  | n + 1, hj, h, h1, h2 => by
    rw [cnN, cnN]
    by_cases e : j = n
    · subst e
      have ih := cn_mono (n := j) (f := f) (g := g) (fun c hc => h c (by omega))
      rw [h1, h2]
      simp
      omega
    · have ih := cn_lt (n := n) (f := f) (g := g) (by omega) (fun c hc => h c (by omega)) h1 h2
      cases hg : g n with
      | true => rw [h n (by omega) hg]; omega
      | false => simp only [Bool.false_eq_true, if_false]; omega
theorem dy_es {zo he hd gn go : Nat → Int32} {ff : Int32} {c : Nat} : isES zo (dyS zo he hd gn ff go) c = (isES zo go c && !loS zo he go hd gn ff c) := by
  cases hb : loS zo he go hd gn ff c with
  | true =>
    have e : dyS zo he hd gn ff go c = 1 := by show (if loS zo he go hd gn ff c then (1 : Int32) else go c) = 1; rw [hb]; rfl
    simp [isES, e]
  | false =>
    have e : dyS zo he hd gn ff go c = go c := by show (if loS zo he go hd gn ff c then (1 : Int32) else go c) = go c; rw [hb]; rfl
    simp [isES, e]
theorem lo_es {zo he hd gn go : Nat → Int32} {ff : Int32} {c : Nat} (h : loS zo he go hd gn ff c = true) : isES zo go c = true := by
  simp only [loS, Bool.and_eq_true] at h
  exact h.1.1
theorem dy_01 {zo he hd gn go : Nat → Int32} {ff : Int32} (h : ok01 zo go) : ok01 zo (dyS zo he hd gn ff go) := by
  intro p hp
  show ((if loS zo he go hd gn ff p then (1 : Int32) else go p) = 0 ∨ _) ∧ (_ → (if loS zo he go hd gn ff p then (1 : Int32) else go p) = 0)
  cases hb : loS zo he go hd gn ff p with
  | true =>
    refine ⟨Or.inr ?_, fun ha => ?_⟩
    · show (if loS zo he go hd gn ff p then (1 : Int32) else go p) = 1
      rw [hb]; rfl
    · have := isE_na (lo_es hb)
      rw [ha] at this; cases this
  | false =>
    refine ⟨(h p hp).1.elim Or.inl (fun q => Or.inr ?_), fun ha => (h p hp).2 ha⟩
    show (if loS zo he go hd gn ff p then (1 : Int32) else go p) = 1
    rw [hb]; exact q
/-- a breach: the front's count falls just if a cell of it goes -/
theorem fr_le {zo he hd gn go : Nat → Int32} {ff : Int32} : frS zo go ≤ frS zo (dyS zo he hd gn ff go) ↔ frN (loS zo he go hd gn ff) 48 = false := by
  have hc1 := cnN_le (fun j => isES zo go (8 * j)) 6
  have hc2 := cnN_le (fun j => isES zo (dyS zo he hd gn ff go) (8 * j)) 6
  rw [frS, frS, cnt_n, cnt_n, nI_leI (by omega) (by omega)]
  constructor
  · intro h
    cases hf : frN (loS zo he go hd gn ff) 48 with
    | false => rfl
    | true =>
      obtain ⟨c, h1, h2, h3⟩ := fr_ex.mp hf
      have h4 := cn_lt (f := fun j => isES zo go (8 * j)) (g := fun j => isES zo (dyS zo he hd gn ff go) (8 * j)) (j := c / 8) (n := 6) (by omega) (fun j _ hj => by
        have hj' : isES zo (dyS zo he hd gn ff go) (8 * j) = true := hj
        rw [dy_es, Bool.and_eq_true] at hj'
        exact hj'.1) (by show isES zo go (8 * (c / 8)) = true; rw [show 8 * (c / 8) = c by omega]; exact lo_es h2) (by show isES zo (dyS zo he hd gn ff go) (8 * (c / 8)) = false; rw [show 8 * (c / 8) = c by omega, dy_es, h2]; simp)
      omega
  · intro h
    rw [cn_congr (f := fun j => isES zo (dyS zo he hd gn ff go) (8 * j)) (g := fun j => isES zo go (8 * j)) (fun j hj => by
      show isES zo (dyS zo he hd gn ff go) (8 * j) = isES zo go (8 * j)
      rw [dy_es]
      cases hl : loS zo he go hd gn ff (8 * j) with
      | false => simp
      | true =>
        have : frN (loS zo he go hd gn ff) 48 = true := fr_ex.mpr ⟨8 * j, by omega, hl, by omega⟩
        rw [h] at this
        cases this)]
    exact Nat.le_refl _
theorem brk_eq {zo he hd gn : Nat → Int32} {ff : Int32} : ∀ (n d : Nat) (go go' : Nat → Int32), (∀ p, p < 48 → go p = go' p) → ok01 zo go' → eN zo go 48 ≤ n → brkM zo he hd gn ff (n + 1) d go = dbS zo he hd gn ff n d go'
  | 0, d, go, go', hg, h01, hn => by
    have h0 : dvM (loM zo he go hd gn ff) 48 = 0 := by
      by_cases q : dvM (loM zo he go hd gn ff) 48 ≤ 0
      · rw [dv_n _ 48 (by omega)] at q ⊢
        have := (nI_leI (a := cnN (loM zo he go hd gn ff) 48 + if frN (loM zo he go hd gn ff) 48 then 100 else 0) (b := 0) (by have := cnN_le (loM zo he go hd gn ff) 48; split <;> omega) (by omega)).mp q
        rw [show (cnN (loM zo he go hd gn ff) 48 + if frN (loM zo he go hd gn ff) 48 then 100 else 0) = 0 by omega]
        rfl
      · have := eN_day q
        omega
    rw [brkM, dbS, h0, if_pos (Or.inl (by decide)), if_pos rfl]
  | n + 1, d, go, go', hg, h01, hn => by
    have hlo : ∀ c, c < 48 → loM zo he go hd gn ff c = loS zo he go' hd gn ff c := fun c hc => lo_eq hg h01 hc
    have hc := cnN_le (loS zo he go' hd gn ff) 48
    rw [brkM, dbS, dv_congr hlo, dv_n _ 48 (by omega), cnt_n]
    have hle : (nI (cnN (loS zo he go' hd gn ff) 48 + if frN (loS zo he go' hd gn ff) 48 then 100 else 0) ≤ 0) ↔ cnN (loS zo he go' hd gn ff) 48 = 0 := by
      show nI _ ≤ nI 0 ↔ _
      rw [nI_leI (by split <;> omega) (by omega)]
      cases hf : frN (loS zo he go' hd gn ff) 48 with
      | false => simp
      | true =>
        obtain ⟨c, h1, h2, h3⟩ := fr_ex.mp hf
        have := cn_pos h2 h1
        simp
        omega
    by_cases h0 : cnN (loS zo he go' hd gn ff) 48 = 0
    · have hf : frN (loS zo he go' hd gn ff) 48 = false := by
        cases hf : frN (loS zo he go' hd gn ff) 48 with
        | false => rfl
        | true =>
          obtain ⟨c, h1, h2, h3⟩ := fr_ex.mp hf
          have := cn_pos h2 h1
          omega
      rw [if_pos (Or.inl (hle.mpr h0)), h0, hf]
      rw [if_pos (show nI (0 + if false = true then 100 else 0) = 0 from rfl), if_pos (show nI 0 = 0 from rfl)]
    · have hne : ¬ nI (cnN (loS zo he go' hd gn ff) 48) = 0 := fun q => h0 ((nI_eq (a := cnN (loS zo he go' hd gn ff) 48) (b := 0) (by omega) (by omega)).mp q)
      rw [if_neg hne]
      cases hf : frN (loS zo he go' hd gn ff) 48 with
      | true =>
        have hnl : ¬ frS zo go' ≤ frS zo (dyS zo he hd gn ff go') := fun q => by rw [fr_le.mp q] at hf; cases hf
        have h100 : (100 : Int32) ≤ nI (cnN (loS zo he go' hd gn ff) 48 + 100) := (nI_leI (a := 100) (by omega) (by omega)).mpr (by omega)
        have hne2 : ¬ nI (cnN (loS zo he go' hd gn ff) 48 + 100) = 0 := fun q => by have := (nI_eq (a := cnN (loS zo he go' hd gn ff) 48 + 100) (b := 0) (by omega) (by omega)).mp q; omega
        rw [if_neg hnl]
        show (if nI (cnN (loS zo he go' hd gn ff) 48 + 100) ≤ 0 ∨ 100 ≤ nI (cnN (loS zo he go' hd gn ff) 48 + 100) then _ else _) = _
        rw [if_pos (Or.inr h100)]
        show (if nI (cnN (loS zo he go' hd gn ff) 48 + 100) = 0 then _ else _) = _
        rw [if_neg hne2]
      | false =>
        have hl : frS zo go' ≤ frS zo (dyS zo he hd gn ff go') := fr_le.mpr hf
        have hnot : ¬ (nI (cnN (loS zo he go' hd gn ff) 48 + 0) ≤ 0 ∨ (100 : Int32) ≤ nI (cnN (loS zo he go' hd gn ff) 48 + 0)) := by
          rintro (q | q)
          · have := (nI_leI (a := cnN (loS zo he go' hd gn ff) 48 + 0) (b := 0) (by omega) (by omega)).mp q; omega
          · have := (nI_leI (a := 100) (b := cnN (loS zo he go' hd gn ff) 48 + 0) (by omega) (by omega)).mp q; omega
        rw [if_pos hl]
        show (if nI (cnN (loS zo he go' hd gn ff) 48 + 0) ≤ 0 ∨ 100 ≤ nI (cnN (loS zo he go' hd gn ff) 48 + 0) then _ else _) = _
        rw [if_neg hnot]
        have hdy : ∀ p, p < 48 → dyM zo he hd gn ff go p = dyS zo he hd gn ff go' p := by
          intro p hp
          show (if loM zo he go hd gn ff p then (1 : Int32) else go p) = (if loS zo he go' hd gn ff p then (1 : Int32) else go' p)
          rw [hlo p hp, hg p hp]
        have hday : ¬ dvM (loM zo he go hd gn ff) 48 ≤ 0 := by
          rw [dv_congr hlo, dv_n _ 48 (by omega)]
          exact fun q => h0 (hle.mp q)
        have := eN_day hday
        exact brk_eq n (d + 1) _ _ hdy (dy_01 h01) (by omega)
theorem brea_eq {zo he hd gn go : Nat → Int32} {ff : Int32} (h01 : ok01 zo go) : brkM zo he hd gn ff 49 1 go = dbS zo he hd gn ff 48 1 go := brk_eq 48 1 go go (fun _ _ => rfl) h01 (eN_le zo go 48)
theorem high_eq {zo go le hd gn : Nat → Int32} {ff : Int32} (hle : ok99 le) (h01 : ok01 zo go) : hiM (brF zo go le hd gn ff) 7 = hgS (higF zo go le hd gn ff) 7 := by
  rw [hi_eq]
  have e : brF zo go le hd gn ff = higF zo go le hd gn ff := by
    funext k
    rw [brF, higF, sw_eq hle, brea_eq h01]
  rw [e]
