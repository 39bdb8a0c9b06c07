-- THE TWO WATCHES ARE ALIKE
theorem abs_n {a b : Nat} (ha : a < 1000000) (hb : b < 1000000) : absI (nI a - nI b) = nI (if b ≤ a then a - b else b - a) := by
  have e0 : (0 : Int32).toInt = 0 := by decide
  rw [absI]
  by_cases h : b ≤ a
  · rw [if_pos h, if_pos, pk_sub h]
    rw [Int32.le_iff_toInt_le, pk_sub_toInt (by omega) (by omega), e0]
    omega
  · rw [if_neg h, if_neg]
    · rw [← pk_sub (a := b) (b := a) (by omega), Int32.zero_sub, Int32.neg_sub]
    · rw [Int32.le_iff_toInt_le, pk_sub_toInt (by omega) (by omega), e0]
      omega
theorem wi_abs {a b s : Nat} (ha : a < 1000000) (hb : b < 1000000) (hs : s < 1000000) : wiB (nI a - nI b) (-nI s) (nI s) = decide (absI (nI a - nI b) ≤ nI s) := by
  have e1 : (-nI s).toInt = -(s : Int) := by
    have h := pk_sub_toInt (a := 0) (b := s) (by omega) (by omega)
    rw [show nI 0 - nI s = -nI s from Int32.zero_sub _] at h
    rw [h]
    omega
  have e2 : (nI a - nI b).toInt = (a : Int) - b := pk_sub_toInt (by omega) (by omega)
  have e3 : (nI s).toInt = s := nI_toInt (by omega)
  rw [abs_n ha hb, wiB]
  simp only [Int32.lt_iff_toInt_lt, e1, e2, e3]
  have e4 : (nI (if b ≤ a then a - b else b - a) ≤ nI s) ↔ (if b ≤ a then a - b else b - a) ≤ s := nI_leI (by split <;> omega) (by omega)
  by_cases h : (if b ≤ a then a - b else b - a) ≤ s
  · rw [decide_eq_true (e4.mpr h), decide_eq_false (by split at h <;> omega), decide_eq_false (by split at h <;> omega)]
    rfl
  · rw [decide_eq_false (fun q => h (e4.mp q))]
    by_cases hc : b ≤ a
    · rw [if_pos hc] at h
      rw [decide_eq_false (show ¬ ((a : Int) - b < -(s : Int)) by omega), decide_eq_true (show (s : Int) < (a : Int) - b by omega)]
      rfl
    · rw [if_neg hc] at h
      rw [decide_eq_true (show ((a : Int) - b < -(s : Int)) by omega)]
      rfl
def ok10k (gr : Nat → Int32) : Prop := ∀ j, ∃ v : Nat, v ≤ 9999 ∧ gr j = nI v
theorem ag_eq {zo go gr GA h : Nat → Int32} {gN : Nat → Nat} {sl : Int32} {s : Nat} (hs : s ≤ 999) (hsl : sl = nI s) (hh : ok6k h) (hgr : ok10k gr) : ∀ {n : Nat}, (∀ j, j < n → GA (2 * j + 1) = gr j) → gzA (gzT (isES zo go) gN GA sl h) n = agrS zo h go gr gN sl n
  | 0, _ => rfl
  | n + 1, hG => by
    have ih := ag_eq (zo := zo) (go := go) (gN := gN) hs hsl hh hgr (n := n) (fun j hj => hG j (by omega))
    obtain ⟨a, ha, ea⟩ := hh (gN n)
    obtain ⟨b, hb, eb⟩ := hgr n
    have e : gzT (isES zo go) gN GA sl h n = !gaT zo h go gr gN sl n := by
      rw [gzT, gaT, hG n (by omega), ea, eb, hsl, wi_abs (by omega) (by omega) (by omega)]
      cases isES zo go (gN n) <;> simp
    rw [gzA, ih, e, agrS, agrS, anyS]
    cases anyS (gaT zo h go gr gN sl) n <;> cases gaT zo h go gr gN sl n <;> rfl
theorem or_set : ∀ i : Fin 8, ∀ s : Fin 256, s.val < 2 ^ i.val → nI s.val ||| ((1 : Int32) <<< (nI i.val &&& 31)) = nI (s.val + 2 ^ i.val) := by decide +kernel
theorem bc_set : ∀ s : Fin 256, (bcS (nI s.val) < 2) ↔ (nI s.val &&& (nI s.val - 1)) = 0 := by decide +kernel
theorem lw_first {h : Nat → Int32} (hh : ok6k h) : lwS (fun _ => 7000) h = h ∧ ghS (fun _ => 0) h = h := by
  constructor
  · funext p
    obtain ⟨v, h1, h2⟩ := hh p
    show (if h p < 7000 then h p else 7000) = h p
    rw [h2, if_pos (show nI v < 7000 from nI_lt (a := v) (b := 7000) (by omega) (by omega))]
  · funext p
    obtain ⟨v, h1, h2⟩ := hh p
    show (if 0 < h p then h p else 0) = h p
    rw [h2]
    by_cases e : v = 0
    · subst e; rfl
    · rw [if_pos (show 0 < nI v from nI_lt (a := 0) (b := v) (by omega) (by omega))]
theorem mf0 (h m : Nat → Int32) : mfM (nI 0) h m = h := by
  funext p
  show mtM (nI 0) (h p) (m p) = h p
  exact if_pos rfl
theorem lf0 (h m : Nat → Int32) : lfM (nI 0) h m = h := by
  funext p
  show lwM (nI 0) (h p) (m p) = h p
  exact if_pos rfl
theorem mt_more {s h m : Int32} (hs : ¬ s = 0) : mtM s h m = if m < h then h else m := by
  rw [mtM, if_neg hs]
  by_cases q : h ≤ m
  · rw [if_pos q, if_neg (i_nlt q)]
  · rw [if_neg q, if_pos (i_lt q)]
theorem lw_more {s h m : Int32} (hs : ¬ s = 0) : lwM s h m = if h < m then h else m := by
  rw [lwM, if_neg hs]
  by_cases q : m ≤ h
  · rw [if_pos q, if_neg (i_nlt q)]
  · rw [if_neg q, if_pos (i_lt q)]
theorem up_99 {le : Nat → Int32} {z v : Nat} (hle : ok99 le) (h1 : 1 ≤ v) (h2 : v ≤ 99) : ok99 (upd le z (nI v)) := by
  intro k hk
  by_cases e : k = z
  · rw [e, pk_us]; exact ⟨v, h1, h2, rfl⟩
  · rw [pk_un e]; exact hle k hk
theorem fit_rel {zo go le gr cl GA CA mt lw : Nat → Int32} {la sl : Int32} {gN zN : Nat → Nat} {n s l : Nat} (hle : ok99 le) (hl : l ≤ 6) (hla : la = nI l) (hs : s ≤ 999) (hsl : sl = nI s) (hgr : ok10k gr) (hcl : ∀ i, i < 8 → ∃ v : Nat, 1 ≤ v ∧ v ≤ 99 ∧ cl i = nI v) (hG : ∀ j, j < n → GA (2 * j + 1) = gr j) : ∀ i, i ≤ 8 → (∀ j, j < i → CA (2 * j + 1) = cl j) →
    ∃ t : Nat, t < 2 ^ i ∧ (fitS zo go le gr cl la sl gN zN n i).1 = nI t ∧ (fmS (fun i => gzA (gzT (isES zo go) gN GA sl (lhM zo go le la zN CA i)) n) (lhM zo go le la zN CA) mt lw i).1 = nI t ∧
      (t = 0 → (fitS zo go le gr cl la sl gN zN n i).2 = ((fun _ => 7000), (fun _ => 0))) ∧
      (t ≠ 0 → (fmS (fun i => gzA (gzT (isES zo go) gN GA sl (lhM zo go le la zN CA i)) n) (lhM zo go le la zN CA) mt lw i).2 = ((fitS zo go le gr cl la sl gN zN n i).2.2, (fitS zo go le gr cl la sl gN zN n i).2.1))
  | 0, _, _ => ⟨0, by decide, rfl, rfl, fun _ => rfl, fun h => absurd rfl h⟩
  | i + 1, hi, hC => by
    obtain ⟨t, h1, h2, h3, h4, h5⟩ := fit_rel (mt := mt) (lw := lw) (zo := zo) (go := go) (gN := gN) (zN := zN) hle hl hla hs hsl hgr hcl hG i (by omega) (fun j hj => hC j (by omega))
    obtain ⟨v, hv1, hv2, hv3⟩ := hcl i (by omega)
    have hle2 : ok99 (upd le (zN i) (cl i)) := by rw [hv3]; exact up_99 hle hv1 hv2
    have hpa : ∀ p, ∃ v : Nat, v ≤ 99 ∧ paS zo go (upd le (zN i) (cl i)) p = nI v := fun p => by
      obtain ⟨v, q1, q2, -⟩ := pa_n (zo := zo) (go := go) hle2 p
      exact ⟨v, q1, q2⟩
    have hlh : lhM zo go le la zN CA i = chS zo go le la (zN i) (cl i) := by rw [lhM, chS, hC i (by omega), sw_eq hle2]
    have h6 : ok6k (chS zo go le la (zN i) (cl i)) := sw_6k hpa hl hla z_6k 40
    have hag : gzA (gzT (isES zo go) gN GA sl (lhM zo go le la zN CA i)) n = agrS zo (chS zo go le la (zN i) (cl i)) go gr gN sl n := by rw [hlh]; exact ag_eq hs hsl h6 hgr hG
    have h256 : 2 ^ i ≤ 128 := by
      have : ∀ i, i < 8 → 2 ^ i ≤ 128 := by decide
      exact this i (by omega)
    have hpw : 2 ^ (i + 1) = 2 * 2 ^ i := by rw [Nat.pow_succ, Nat.mul_comm]
    rw [fitS_s, fmS_s, hag]
    cases hA : agrS zo (chS zo go le la (zN i) (cl i)) go gr gN sl n with
    | false => exact ⟨t, by omega, h2, h3, h4, h5⟩
    | true =>
      have hor := or_set ⟨i, by omega⟩ ⟨t, by omega⟩ h1
      refine ⟨t + 2 ^ i, by omega, ?_, ?_, fun q => ?_, fun _ => ?_⟩
      · show (fitS zo go le gr cl la sl gN zN n i).1 ||| _ = _
        rw [h2]; exact hor
      · show (fmS _ _ mt lw i).1 ||| _ = _
        rw [h3]; exact hor
      · have := Nat.pow_pos (a := 2) (n := i) (by omega)
        omega
      · show (mfM (fmS _ _ mt lw i).1 (lhM zo go le la zN CA i) (fmS _ _ mt lw i).2.1, lfM (fmS _ _ mt lw i).1 (lhM zo go le la zN CA i) (fmS _ _ mt lw i).2.2) = (ghS (fitS zo go le gr cl la sl gN zN n i).2.2 (chS zo go le la (zN i) (cl i)), lwS (fitS zo go le gr cl la sl gN zN n i).2.1 (chS zo go le la (zN i) (cl i)))
        rw [hlh, h3]
        by_cases e : t = 0
        · have h7 := h4 e
          obtain ⟨l1, l2⟩ := lw_first h6
          rw [h7, e]
          show (_, _) = (ghS (fun _ => 0) _, lwS (fun _ => 7000) _)
          rw [l1, l2, mf0, lf0]
        · have h7 := h5 e
          have hne : ¬ nI t = 0 := fun q => e ((nI_eq (a := t) (b := 0) (by omega) (by omega)).mp q)
          rw [h7]
          refine Prod.ext ?_ ?_
          · funext p; exact mt_more hne
          · funext p; exact lw_more hne
theorem nx_rel {zo go lw gh : Nat → Int32} : ∀ k, k ≤ 48 → match mapS zo go lw gh k with
    | none => (nxM (isES zo go) gh lw k).1 = -9
    | some q => q < 48 ∧ nxM (isES zo go) gh lw k = (nI q, gh q - lw q)
  | 0, _ => rfl
  | k + 1, hk => by
    have ih := nx_rel (zo := zo) (go := go) (lw := lw) (gh := gh) k (by omega)
    rw [nxM_s, mapS]
    cases hE : isES zo go k with
    | false => exact ih
    | true =>
      rw [if_pos rfl, if_pos rfl]
      cases hm : mapS zo go lw gh k with
      | none =>
        rw [hm] at ih
        have ih : (nxM (isES zo go) gh lw k).1 = -9 := ih
        rw [if_pos ih]
        exact ⟨by omega, rfl⟩
      | some q =>
        rw [hm] at ih
        obtain ⟨h1, h2⟩ := ih
        rw [h2, if_neg (nI_ne9 h1)]
        show match (if gh k - lw k ≤ gh q - lw q then some q else some k) with
          | none => _
          | some q => _
        by_cases hc : gh k - lw k ≤ gh q - lw q
        · rw [if_pos hc, if_pos hc]
          exact ⟨h1, rfl⟩
        · rw [if_neg hc, if_neg hc]
          exact ⟨by omega, rfl⟩
