-- THE TWO READERS ARE ALIKE
def okB (BT : Nat → Int32) : Prop := ∀ i, ∃ v : Nat, v < 256 ∧ BT i = nI v
theorem skM_in {f : Nat → Bool} : ∀ (k i j : Nat), i ≤ j → j < skM f k i → f j = true
  | 0, i, j, h1, h2 => by rw [skM] at h2; omega
  | k + 1, i, j, h1, h2 => by
    rw [skM] at h2
    split at h2
    · rename_i hf
      by_cases e : j = i
      · rw [e]; exact hf
      · exact skM_in k (i + 1) j (by omega) h2
    · omega
theorem skB_in {TX : Nat → Int32} {n : Nat} {f : Int32 → Bool} (h1 : f (-1) = false) {i j : Nat} (hi : i ≤ j) (hj : j < skB TX n f i) : j < n ∧ f (TX j) = true := by
  have h := skM_in (f := fun j => f (byM TX n j)) (n - i) i j hi hj
  have hl := by_lt (f := f) (TX := TX) (n := n) (i := j) h h1
  exact ⟨hl, by rw [by_in hl] at h; exact h⟩
theorem f48_n {c : Int32} (h : f48 c = true) : ∃ d : Nat, d ≤ 9 ∧ c = nI (48 + d) := by
  simp only [f48, wiB, Bool.and_eq_true, Bool.not_eq_true', decide_eq_false_iff_not] at h
  have h0 : ¬ c < 0 := fun q => h.1 (Int32.lt_trans q (by decide))
  obtain ⟨j, hj, rfl⟩ := nI_of h0
  have h1 : ¬ j < 48 := fun q => h.1 (nI_lt (b := 48) q (by decide))
  have h2 : ¬ 57 < j := fun q => h.2 (nI_lt (a := 57) q hj)
  exact ⟨j - 48, by omega, by rw [show 48 + (j - 48) = j by omega]⟩
theorem dg_n {BT : Nat → Int32} {n P : Nat} : ∀ m, P + m ≤ skB BT n f48 P → ∃ a : Nat, a ≤ 999 ∧ dgV BT n P m = nI a ∧ dgC BT P m = nI (if a ≤ 99 then a else 100)
  | 0, _ => ⟨0, by omega, rfl, rfl⟩
  | m + 1, h => by
    obtain ⟨a, h1, h2, h3⟩ := dg_n m (show P + m ≤ skB BT n f48 P by omega)
    obtain ⟨hl, hf⟩ := skB_in (TX := BT) (n := n) (f := f48) (by decide) (show P ≤ P + m by omega) (show P + m < skB BT n f48 P by omega)
    obtain ⟨d, hd, hc⟩ := f48_n hf
    have step : ∀ x : Nat, x ≤ 100 → 10 * nI x + nI (48 + d) - 48 = nI (10 * x + d) := by
      intro x hx
      show nI 10 * nI x + nI (48 + d) - nI 48 = _
      rw [pk_mul, nI_add, pk_sub (by omega)]
      congr 1
      omega
    rw [dgV, dgC, h2, h3, by_in hl, hc]
    by_cases q : a ≤ 99
    · have hq : nI a ≤ 99 := (nI_leI (b := 99) (by omega) (by omega)).mpr q
      rw [if_pos hq, if_pos q, step a (by omega)]
      refine ⟨10 * a + d, by omega, rfl, ?_⟩
      rw [mnI]
      by_cases z : 10 * a + d < 100
      · rw [if_pos (show nI (10 * a + d) < 100 from nI_lt (b := 100) z (by omega)), if_pos (by omega)]
      · rw [if_neg (show ¬ nI (10 * a + d) < 100 from fun w => z ((nI_ltI (b := 100) (by omega) (by omega)).mp w)), if_neg (by omega)]
        rfl
    · have hq : ¬ nI a ≤ 99 := fun w => q ((nI_leI (b := 99) (by omega) (by omega)).mp w)
      rw [if_neg hq, if_neg q, step 100 (by omega)]
      refine ⟨a, h1, rfl, ?_⟩
      rw [mnI, if_neg (show ¬ nI (10 * 100 + d) < 100 from fun w => by have := (nI_ltI (b := 100) (a := 10 * 100 + d) (by omega) (by omega)).mp w; omega), if_neg q]
      rfl
theorem dgT_eq {BT : Nat → Int32} {n P : Nat} (hP : P < n) : dgT BT n P = (if 99 < dgV BT n P (skB BT n f48 P - P) then 4 else if byM BT n P = 48 then (if skB BT n f48 P - P ≤ 1 then 2 else 4) else 2) ∧ (dgT BT n P = 2 → dgC BT P (skB BT n f48 P - P) = dgV BT n P (skB BT n f48 P - P)) := by
  have hb := skB_b (TX := BT) (f := f48) (Nat.le_of_lt hP)
  obtain ⟨a, h1, h2, h3⟩ := dg_n (BT := BT) (n := n) (P := P) (skB BT n f48 P - P) (by omega)
  rw [dgT, h2, h3, by_in hP]
  have e99 : (99 < nI a) ↔ 99 < a := nI_ltI (a := 99) (by omega) (by omega)
  have e100 : (nI (if a ≤ 99 then a else 100) = 100) ↔ 99 < a := by
    rw [show (100 : Int32) = nI 100 from rfl, nI_eq (by split <;> omega) (by omega)]
    split <;> omega
  by_cases q : 99 < a
  · rw [if_pos (Or.inr (e100.mpr q)), if_pos (e99.mpr q)]
    exact ⟨rfl, fun h => absurd h (by decide)⟩
  · rw [if_neg (fun z => q (e99.mp z)), if_pos (show a ≤ 99 by omega)]
    have e101 : ¬ nI a = 100 := fun z => by have := (nI_eq (a := a) (b := 100) (by omega) (by omega)).mp z; omega
    refine ⟨?_, fun _ => rfl⟩
    by_cases z : BT P = 48
    · rw [if_pos z]
      by_cases y : skB BT n f48 P - P ≤ 1
      · rw [if_pos y, if_neg]
        rintro (w | w)
        · omega
        · exact e101 w
      · rw [if_neg y, if_pos (Or.inl ⟨z, by omega⟩)]
    · rw [if_neg z, if_neg]
      rintro (w | w)
      · exact z w.1
      · exact e101 w
/-- a token as the class holds it and as the twin holds it -/
def RelT (rc : CdT) (rt : RdT) : Prop := rt.2.1 = rc.2.2.1 ∧ rt.2.2.1 = rc.2.1 ∧ rt.2.2.2.1 = rc.1 ∧ (rc.1 = 2 → rt.2.2.2.2 = rc.2.2.2)
theorem tok_P {BT : Nat → Int32} {n P : Nat} (hB : okB BT) (hP : P ≤ n) (v v' : Int32) : cN BT n P = adN BT n P ∧ cT BT n P = adT BT n P ∧ (cT BT n P = 2 → adV BT n P v' = cV BT n P v) := by
  rw [cN, cT, cV, adN, adT, adV]
  by_cases h : P < n
  · obtain ⟨c, h1, h2⟩ := hB P
    have h0 : (0 : Int32) ≤ BT P := by rw [h2]; exact nI_pos' (by omega)
    rw [if_pos h, if_pos h, if_pos h, by_in h, if_pos h0, if_pos h0, if_pos h0]
    cases hl : ltM (BT P) with
    | true => exact ⟨rfl, rfl, fun q => absurd (show (1 : Int32) = 2 from q) (by decide)⟩
    | false =>
      cases hf : f48 (BT P) with
      | true =>
        have hd := dgT_eq (BT := BT) h
        rw [by_in h] at hd
        refine ⟨rfl, ?_, fun q => ?_⟩
        · show dgT BT n P = _
          exact hd.1
        · exact (hd.2 q).symm
      | false =>
        refine ⟨rfl, rfl, fun q => ?_⟩
        exfalso
        have q : (if BT P = 59 then (3 : Int32) else 4) = 2 := q
        split at q
        · exact absurd q (by decide)
        · exact absurd q (by decide)
  · have hm : byM BT n P = -1 := by_out (by omega)
    rw [if_neg h, if_neg h, if_neg h, hm, if_neg (by decide), if_neg (by decide), if_neg (by decide)]
    exact ⟨rfl, rfl, fun q => absurd q (by decide)⟩
theorem tk_ad {BT : Nat → Int32} {n b : Nat} {v : Int32} {rt : RdT} (hB : okB BT) (hb : b ≤ n) (h : rt.2.1 = b) : RelT (tkR BT n b v) (adR BT n rt) := by
  have hs := skB_b (TX := BT) (f := f32) hb
  have ht := tok_P (BT := BT) hB hs.2 v rt.2.2.2.2
  subst h
  exact ⟨ht.1.symm, rfl, ht.2.1.symm, ht.2.2⟩
theorem wi_97 {BT : Nat → Int32} (hB : okB BT) (i : Nat) : wiB (BT i - 97) 0 5 = wiB (BT i) 97 102 := by
  obtain ⟨c, h1, h2⟩ := hB i
  have e1 : (nI c - 97).toInt = (c : Int) - 97 := pk_sub_toInt (a := c) (b := 97) (by omega) (by omega)
  have e2 : (nI c).toInt = c := nI_toInt (by omega)
  have e0 : (0 : Int32).toInt = 0 := by decide
  have e5 : (5 : Int32).toInt = 5 := by decide
  have e97 : (97 : Int32).toInt = 97 := by decide
  have e102 : (102 : Int32).toInt = 102 := by decide
  rw [h2, wiB, wiB]
  simp only [Int32.lt_iff_toInt_lt, e1, e2, e0, e5, e97, e102]
  congr 2
  · exact decide_eq_decide.mpr (by omega)
  · exact decide_eq_decide.mpr (by omega)
theorem okC_eq {BT : Nat → Int32} (hB : okB BT) (i : Nat) : okC (BT i) = okL (BT i) := by rw [okC, okL, wi_97 hB]
theorem wd0_eq {BT : Nat → Int32} {rc : CdT} {rt : RdT} (h : RelT rc rt) : wdC BT 0 (rc.1, rc.2.1, rc.2.2.1) = wdM BT rt.2.2.2.1 rt.2.2.1 rt.2.1 122 111 110 101 := by
  rw [wdC, wdM, h.1, h.2.1, h.2.2.1]
  show (decide (rc.1 = 1) && (decide (rc.2.2.1 - rc.2.1 = 4) && !((((false || !decide (BT (rc.2.1 + 0) = 122)) || !decide (BT (rc.2.1 + 1) = 111)) || !decide (BT (rc.2.1 + 2) = 110)) || !decide (BT (rc.2.1 + 3) = 101)))) = (decide (rc.1 = 1) && (decide (rc.2.2.1 - rc.2.1 = 4) && (decide (BT rc.2.1 = 122) && (decide (BT (rc.2.1 + 1) = 111) && (decide (BT (rc.2.1 + 2) = 110) && (decide ((101 : Int32) = 0) || decide (BT (rc.2.1 + 3) = 101)))))))
  rw [Nat.add_zero, decide_eq_false (show ¬ (101 : Int32) = 0 by decide)]
  cases decide (BT rc.2.1 = 122) <;> cases decide (BT (rc.2.1 + 1) = 111) <;> cases decide (BT (rc.2.1 + 2) = 110) <;> cases decide (BT (rc.2.1 + 3) = 101) <;> rfl
theorem wd1_eq {BT : Nat → Int32} {rc : CdT} {rt : RdT} (h : RelT rc rt) : wdC BT 1 (rc.1, rc.2.1, rc.2.2.1) = wdM BT rt.2.2.2.1 rt.2.2.1 rt.2.1 114 111 119 0 := by
  rw [wdC, wdM, h.1, h.2.1, h.2.2.1]
  show (decide (rc.1 = 1) && (decide (rc.2.2.1 - rc.2.1 = 3) && !(((false || !decide (BT (rc.2.1 + 0) = 114)) || !decide (BT (rc.2.1 + 1) = 111)) || !decide (BT (rc.2.1 + 2) = 119)))) = (decide (rc.1 = 1) && (decide (rc.2.2.1 - rc.2.1 = 3) && (decide (BT rc.2.1 = 114) && (decide (BT (rc.2.1 + 1) = 111) && (decide (BT (rc.2.1 + 2) = 119) && (decide ((0 : Int32) = 0) || decide (BT (rc.2.1 + 3) = 0)))))))
  rw [Nat.add_zero, decide_eq_true (show (0 : Int32) = 0 from rfl)]
  cases decide (BT rc.2.1 = 114) <;> cases decide (BT (rc.2.1 + 1) = 111) <;> cases decide (BT (rc.2.1 + 2) = 119) <;> rfl
/-- the slice that the class makes and the draft that the twin makes -/
def DrR (d : Nat → Int32) (R : RwT) : Prop := (∀ c, c < 48 → (d c = -9 ∧ R.1 c = -1) ∨ ∃ z : Nat, z < 6 ∧ d c = nI z ∧ R.1 c = nI z) ∧ ∀ z, z < 6 → d (48 + z) = R.2.1 z ∧ d (54 + z) = R.2.2.1 z ∧ d (60 + z) = R.2.2.2 z
theorem fl_w {r : RdT} (h : ¬ 0 ≤ r.1) : (flR r).1 = nI r.2.2.1 := if_neg h
theorem tnB_eq {lo hi : Int32} {rc : CdT} {rt : RdT} (h : RelT rc rt) (hw : ¬ 0 ≤ rt.1) : tnB lo hi rt = nuB lo hi rc := by
  rw [tnB, nuB, h.2.2.1, decide_eq_false hw]
  by_cases e : rc.1 = 2
  · rw [h.2.2.2 e]; rfl
  · rw [decide_eq_false e]; rfl
theorem nI_z {z : Nat} (h : z < 1000000) : 0 ≤ nI z := nI_pos' (by omega)
