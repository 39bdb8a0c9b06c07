/-- the two pools answer alike -/
theorem gt_eq (se : Nat → Int32) (ru w : Int32) : gtM se ru w = gtS se ru w := by
  simp only [gtM, gtS, Int32.le_iff_toInt_le, Int32.lt_iff_toInt_lt]
  by_cases h : w.toInt < ru.toInt
  · rw [if_pos h, if_neg (by omega)]
  · rw [if_neg h, if_pos (by omega)]
    by_cases h2 : w.toInt < (se 0).toInt
    · rw [if_pos h2, if_pos (by omega)]
    · rw [if_neg h2]
      by_cases h3 : w.toInt ≤ (se 0).toInt
      · rw [if_pos h3]
        exact Int32.toInt_inj.mp (by omega)
      · rw [if_neg h3]
theorem gt_n {se : Nat → Int32} {p W : Nat} (hp : se 0 = nI p) (hp9 : p < 1000000) (hW : W < 1000000) (ru : Int32) : ∃ g, g ≤ W ∧ gtS se ru (nI W) = nI g := by
  rw [gtS]
  split
  · exact ⟨0, by omega, rfl⟩
  · split
    · exact ⟨W, by omega, rfl⟩
    · rename_i h
      rw [hp] at h ⊢
      exact ⟨p, Nat.le_of_not_lt fun q => h ((nI_ltI (by omega) (by omega)).mpr q), rfl⟩
theorem ab_n {se : Nat → Int32} {p U : Nat} (hp : se 1 = nI p) (hp9 : p < 1000000) (hU : U < 1000000) : abS se (nI U) = nI (U - p) ∧ hfM se (nI U) = nI ((U - p + 1) / 2) := by
  have e0 : (0 : Int32).toInt = 0 := by decide
  rw [abS, hfM, hp]
  by_cases h : U ≤ p
  · have h1 : ¬ 0 < nI U - nI p := by
      rw [Int32.lt_iff_toInt_lt, pk_sub_toInt (by omega) (by omega), e0]; omega
    rw [if_neg h1, if_pos ((nI_leI (by omega) (by omega)).mpr h), show U - p = 0 by omega]
    exact ⟨rfl, rfl⟩
  · have h1 : 0 < nI U - nI p := by
      rw [Int32.lt_iff_toInt_lt, pk_sub_toInt (by omega) (by omega), e0]; omega
    rw [if_pos h1, if_neg (fun q => h ((nI_leI (by omega) (by omega)).mp q)), pk_sub (by omega)]
    refine ⟨rfl, ?_⟩
    show (nI (U - p) + nI 1) / nI 2 = _
    rw [nI_add, pk_div (by omega) (by omega) (by omega)]
theorem sp_n {se : Nat → Int32} {p q U : Nat} (hp : se 1 = nI p) (hq : se 2 = nI q) (hp9 : p < 1000000) (hq9 : q < 1000000) (hU : U < 1000000) : pwM se (nI U) = spS se (nI U) ∧ ∃ g, g ≤ U ∧ spS se (nI U) = nI g := by
  obtain ⟨h1, h2⟩ := ab_n hp hp9 hU
  have e : (nI (U - p) + 1) / 2 = nI ((U - p + 1) / 2) := by
    show (nI (U - p) + nI 1) / nI 2 = _
    rw [nI_add, pk_div (by omega) (by omega) (by omega)]
  rw [pwM, spS, h1, h2, e, hq]
  by_cases h : (U - p + 1) / 2 < q
  · rw [if_pos ((nI_ltI (by omega) (by omega)).mpr h), if_neg (fun z => absurd ((nI_leI (by omega) (by omega)).mp z) (by omega))]
    exact ⟨rfl, _, by omega, rfl⟩
  · rw [if_neg (fun z => h ((nI_ltI (by omega) (by omega)).mp z)), if_pos ((nI_leI (by omega) (by omega)).mpr (by omega))]
    exact ⟨rfl, _, by omega, rfl⟩
theorem hr_eq {se wa : Nat → Int32} {fl : Nat} (hse : ∀ i, i < 6 → ∃ p, p ≤ 9999 ∧ se i = nI p) (hwa : ∀ i, ∃ c, c ≤ 999 ∧ wa i = nI c) (ru : Int32) : ∀ k, k ≤ 12 → hmR se wa ru fl k = hrR se wa ru fl k ∧ ∃ a, a ≤ 9999 + 999 * k ∧ (hrR se wa ru fl k).1 = nI a
  | 0, _ => ⟨rfl, by obtain ⟨p, h, e⟩ := hse 5 (by omega); exact ⟨p, by omega, e⟩⟩
  | k + 1, hk => by
    obtain ⟨h1, a, ha, h2⟩ := hr_eq hse hwa ru k (by omega)
    obtain ⟨c, hc, hce⟩ := hwa (fl * 12 + k)
    obtain ⟨p0, hp0, e0⟩ := hse 0 (by omega)
    obtain ⟨p1, hp1, e1⟩ := hse 1 (by omega)
    obtain ⟨p2, hp2, e2⟩ := hse 2 (by omega)
    obtain ⟨g, hg, hge⟩ := gt_n (W := a + c) e0 (by omega) (by omega) ru
    have hw : wgS se ru (nI c) (nI a) = nI (a + c - g) := by rw [wgS, nI_add, hge, pk_sub hg]
    have hwm : wgM se ru (nI c) (nI a) = wgS se ru (nI c) (nI a) := by rw [wgM, wgS, gt_eq]
    obtain ⟨hs, b, hb, hbe⟩ := sp_n (U := a + c - g) e1 e2 (by omega) (by omega) (by omega)
    have hW : hmW se ru (nI c) (nI a) = hrW se ru (nI c) (nI a) := by rw [hmW, hrW, hwm, hw, hs]
    have hG : hmG se ru (nI c) (nI a) = hrG se ru (nI c) (nI a) := by rw [hmG, hrG, hwm, hw, hs, gt_eq]
    refine ⟨?_, a + c - g - b, by omega, ?_⟩
    · rw [hmR_s, h1]
      show _ = (hrW _ _ _ _, hrO _ _ _ _ _, hrT _ _ _ _ _, _)
      rw [h2, hce, hW, hG, hmO, hrO, hmT, hrT, hW, hG]
      refine congrArg _ (Prod.ext ?_ (Prod.ext ?_ rfl))
      · show _ + _ = _
        split
        · exact Int32.add_zero _
        · rfl
      · show (if _ ≤ _ then _ else _) = (if _ < _ then _ else _)
        by_cases h : hrG se ru (nI c) (nI a) ≤ (hrR se wa ru fl k).2.2.1
        · rw [if_pos h, if_neg (i_nlt h)]
        · rw [if_neg h, if_pos (i_lt h)]
    · show hrW _ _ _ _ = _
      rw [h2, hce, hrW, hw, hbe, pk_sub hb]
