-- fits, next, images
section FN
variable {zo go le gr cl GA CA mt lw : Nat → Int32} {la sl : Int32} {gN zN : Nat → Nat} {ng nc s l : Nat}
theorem fits_eq (hle : ok99 le) (hl : l ≤ 6) (hla : la = nI l) (hs : s ≤ 999) (hsl : sl = nI s) (hgr : ok10k gr) (hnc : nc ≤ 8) (hcl : ∀ i, i < nc → ∃ v : Nat, 1 ≤ v ∧ v ≤ 99 ∧ cl i = nI v) (hG : ∀ j, j < ng → GA (2 * j + 1) = gr j) (hC : ∀ j, j < nc → CA (2 * j + 1) = cl j) : (fitS zo go le gr cl la sl gN zN ng nc).1 = (fmS (fun i => gzA (gzT (isES zo go) gN GA sl (lhM zo go le la zN CA i)) ng) (lhM zo go le la zN CA) mt lw nc).1 := by
  obtain ⟨t, -, h2, h3, -⟩ := fit_relN (zo := zo) (go := go) (gN := gN) (zN := zN) (mt := mt) (lw := lw) hnc hle hl hla hs hsl hgr hcl hG nc (Nat.le_refl _) hC
  rw [h2, h3]
theorem next_eq (hle : ok99 le) (hl : l ≤ 6) (hla : la = nI l) (hs : s ≤ 999) (hsl : sl = nI s) (hgr : ok10k gr) (hnc : nc ≤ 8) (hcl : ∀ i, i < nc → ∃ v : Nat, 1 ≤ v ∧ v ≤ 99 ∧ cl i = nI v) (hG : ∀ j, j < ng → GA (2 * j + 1) = gr j) (hC : ∀ j, j < nc → CA (2 * j + 1) = cl j) (v : Int32) :
    (if wiB v 0 1 then (if bcS (fitS zo go le gr cl la sl gN zN ng nc).1 < 2 then (-9) else if v = 0 then ooI (mapS zo go (fitS zo go le gr cl la sl gN zN ng nc).2.1 (fitS zo go le gr cl la sl gN zN ng nc).2.2 48) else apS (mapS zo go (fitS zo go le gr cl la sl gN zN ng nc).2.1 (fitS zo go le gr cl la sl gN zN ng nc).2.2 48) (fitS zo go le gr cl la sl gN zN ng nc).2.1 (fitS zo go le gr cl la sl gN zN ng nc).2.2) else (-1)) =
    (if wiB v 0 1 then (if ((fmS (fun i => gzA (gzT (isES zo go) gN GA sl (lhM zo go le la zN CA i)) ng) (lhM zo go le la zN CA) mt lw nc).1 &&& ((fmS (fun i => gzA (gzT (isES zo go) gN GA sl (lhM zo go le la zN CA i)) ng) (lhM zo go le la zN CA) mt lw nc).1 - 1)) = 0 then (-9) else if (nxM (isES zo go) (fmS (fun i => gzA (gzT (isES zo go) gN GA sl (lhM zo go le la zN CA i)) ng) (lhM zo go le la zN CA) mt lw nc).2.1 (fmS (fun i => gzA (gzT (isES zo go) gN GA sl (lhM zo go le la zN CA i)) ng) (lhM zo go le la zN CA) mt lw nc).2.2 48).1 = -9 then (nxM (isES zo go) (fmS (fun i => gzA (gzT (isES zo go) gN GA sl (lhM zo go le la zN CA i)) ng) (lhM zo go le la zN CA) mt lw nc).2.1 (fmS (fun i => gzA (gzT (isES zo go) gN GA sl (lhM zo go le la zN CA i)) ng) (lhM zo go le la zN CA) mt lw nc).2.2 48).1 else if v = 0 then (nxM (isES zo go) (fmS (fun i => gzA (gzT (isES zo go) gN GA sl (lhM zo go le la zN CA i)) ng) (lhM zo go le la zN CA) mt lw nc).2.1 (fmS (fun i => gzA (gzT (isES zo go) gN GA sl (lhM zo go le la zN CA i)) ng) (lhM zo go le la zN CA) mt lw nc).2.2 48).1 else (nxM (isES zo go) (fmS (fun i => gzA (gzT (isES zo go) gN GA sl (lhM zo go le la zN CA i)) ng) (lhM zo go le la zN CA) mt lw nc).2.1 (fmS (fun i => gzA (gzT (isES zo go) gN GA sl (lhM zo go le la zN CA i)) ng) (lhM zo go le la zN CA) mt lw nc).2.2 48).2) else (-1)) := by
  obtain ⟨t, h1, h2, h3, -, h5⟩ := fit_relN (zo := zo) (go := go) (gN := gN) (zN := zN) (mt := mt) (lw := lw) hnc hle hl hla hs hsl hgr hcl hG nc (Nat.le_refl _) hC
  generalize fitS zo go le gr cl la sl gN zN ng nc = F at h2 h5 ⊢
  generalize fmS (fun i => gzA (gzT (isES zo go) gN GA sl (lhM zo go le la zN CA i)) ng) (lhM zo go le la zN CA) mt lw nc = M at h3 h5 ⊢
  have ht : t < 256 := Nat.lt_of_lt_of_le h1 (pow8 nc hnc)
  have hb := bc_set ⟨t, ht⟩
  by_cases hv : wiB v 0 1 = true
  · rw [if_pos hv, if_pos hv, h2, h3]
    by_cases hc : bcS (nI t) < 2
    · rw [if_pos hc, if_pos (hb.mp hc)]
    · have hne : t ≠ 0 := fun e => hc (by rw [e]; decide)
      rw [if_neg hc, if_neg (fun q => hc (hb.mpr q)), h5 hne]
      have hx := nx_rel (zo := zo) (go := go) (lw := F.2.1) (gh := F.2.2) 48 (Nat.le_refl 48)
      cases hm : mapS zo go F.2.1 F.2.2 48 with
      | none =>
        rw [hm] at hx
        have hx : (nxM (isES zo go) F.2.2 F.2.1 48).1 = -9 := hx
        rw [if_pos hx, hx]
        split <;> rfl
      | some q =>
        rw [hm] at hx
        obtain ⟨q1, q2⟩ := hx
        rw [q2, if_neg (nI_ne9 q1)]
        rfl
  · rw [if_neg hv, if_neg hv]
end FN
section IM
variable {ke IK K : Nat → Int32} {v : Int32}
theorem cpK_in {K S : Nat → Int32} {b n k : Nat} (h : k < n) : cpK K S b n (b + k) = S k := by
  rw [cpK, if_pos ⟨by omega, by omega⟩, Nat.add_sub_cancel_left]
theorem cpK_out {K S : Nat → Int32} {b n k : Nat} (h : k < b ∨ b + n ≤ k) : cpK K S b n k = K k := by rw [cpK, if_neg (by omega)]
theorem keep0 {zo he go le hd gn zi hi gi li di ni : Nat → Int32} {la lai : Int32} (h : img (ke 0) (IK 0) K (ms zi hi gi li di ni lai)) :
    img ((if v = 0 then upd ke 0 1 else if v = 1 then upd ke 1 1 else ke) 0) ((if v = 0 then upd IK 0 1 else if v = 1 then upd IK 1 1 else IK) 0) (if v = 0 then cpK K (ms zo he go le hd gn la) 0 163 else if v = 1 then cpK K (ms zo he go le hd gn la) 163 163 else K) (ms (if v = 0 then zo else zi) (if v = 0 then he else hi) (if v = 0 then go else gi) (if v = 0 then le else li) (if v = 0 then hd else di) (if v = 0 then gn else ni) (if v = 0 then la else lai)) := by
  by_cases h0 : v = 0
  · simp only [if_pos h0]
    refine ⟨by rw [pk_us, pk_us], fun q => ?_, fun _ k hk => ?_⟩
    · rw [pk_us] at q; exact absurd q (by decide)
    · have := cpK_in (K := K) (S := ms zo he go le hd gn la) (b := 0) hk
      rw [Nat.zero_add] at this
      exact this
  · simp only [if_neg h0]
    by_cases h1 : v = 1
    · simp only [if_pos h1]
      rw [pk_un (show (0 : Nat) ≠ 1 by omega), pk_un (show (0 : Nat) ≠ 1 by omega)]
      exact ⟨h.1, fun q k hk => (cpK_out (by omega)).trans (h.2.1 q k hk), fun q k hk => (cpK_out (by omega)).trans (h.2.2 q k hk)⟩
    · simp only [if_neg h1]; exact h
theorem keep1 {zo he go le hd gn zi hi gi li di ni : Nat → Int32} {la lai : Int32} (h : img (ke 1) (IK 1) (fun k => K (163 + k)) (ms zi hi gi li di ni lai)) :
    img ((if v = 0 then upd ke 0 1 else if v = 1 then upd ke 1 1 else ke) 1) ((if v = 0 then upd IK 0 1 else if v = 1 then upd IK 1 1 else IK) 1) (fun k => (if v = 0 then cpK K (ms zo he go le hd gn la) 0 163 else if v = 1 then cpK K (ms zo he go le hd gn la) 163 163 else K) (163 + k)) (ms (if v = 1 then zo else zi) (if v = 1 then he else hi) (if v = 1 then go else gi) (if v = 1 then le else li) (if v = 1 then hd else di) (if v = 1 then gn else ni) (if v = 1 then la else lai)) := by
  by_cases h0 : v = 0
  · have h1 : ¬ v = 1 := by rw [h0]; decide
    simp only [if_pos h0, if_neg h1]
    rw [pk_un (show (1 : Nat) ≠ 0 by omega), pk_un (show (1 : Nat) ≠ 0 by omega)]
    exact ⟨h.1, fun q k hk => (cpK_out (by omega)).trans (h.2.1 q k hk), fun q k hk => (cpK_out (by omega)).trans (h.2.2 q k hk)⟩
  · simp only [if_neg h0]
    by_cases h1 : v = 1
    · simp only [if_pos h1]
      refine ⟨by rw [pk_us, pk_us], fun q => ?_, fun _ k hk => ?_⟩
      · rw [pk_us] at q; exact absurd q (by decide)
      · exact cpK_in hk
    · simp only [if_neg h1]; exact h
theorem keepS {b : Prop} [Decidable b] {zo he go le hd gn zi hi gi li di ni : Nat → Int32} {la lai : Int32} (h : iSl zo he go le hd gn la) (h' : iSl zi hi gi li di ni lai) : iSl (if b then zo else zi) (if b then he else hi) (if b then go else gi) (if b then le else li) (if b then hd else di) (if b then gn else ni) (if b then la else lai) := by
  by_cases hb : b
  · simp only [if_pos hb]; exact h
  · simp only [if_neg hb]; exact h'
theorem back_K {f g : Int32} {K : Nat → Int32} {zo he go le hd gn : Nat → Int32} {la : Int32} (h : img f g K (ms zo he go le hd gn la)) : ∀ k, k < 163 → K k = ms (if f = 0 then (fun _ => 0) else zo) (if f = 0 then (fun _ => 0) else he) (if f = 0 then (fun _ => 0) else go) (if f = 0 then (fun _ => 0) else le) (if f = 0 then (fun _ => 0) else hd) (if f = 0 then (fun _ => 0) else gn) (if f = 0 then 0 else la) k := by
  intro k hk
  by_cases e : f = 0
  · simp only [if_pos e]
    rw [h.2.1 e k hk]
    exact ms_00 k hk
  · simp only [if_neg e]
    exact h.2.2 e k hk
theorem back_S {zo he go le hd gn zi hi gi li di ni zj hj gj lj dj nj : Nat → Int32} {la lai laj : Int32} (h : iSl zo he go le hd gn la) (h1 : iSl zi hi gi li di ni lai) (h2 : iSl zj hj gj lj dj nj laj) : iSl (bkS v ke zo zi zj) (bkS v ke he hi hj) (bkS v ke go gi gj) (bkS v ke le li lj) (bkS v ke hd di dj) (bkS v ke gn ni nj) (bkS v ke la lai laj) := by
  simp only [bkS]
  by_cases a : v = 0
  · simp only [if_pos a]
    by_cases b : ke 0 = 0
    · simp only [if_pos b]; exact h
    · simp only [if_neg b]; exact h1
  · simp only [if_neg a]
    by_cases b : v = 1
    · simp only [if_pos b]
      by_cases c : ke 1 = 0
      · simp only [if_pos c]; exact h
      · simp only [if_neg c]; exact h2
    · simp only [if_neg b]; exact h
theorem back_s {zo he go le hd gn zi hi gi li di ni zj hj gj lj dj nj : Nat → Int32} {la lai laj : Int32} (e0 : IK 0 = ke 0) (e1 : IK 1 = ke 1) :
    bkS v IK (ms zo he go le hd gn la) (ms (if ke 0 = 0 then (fun _ => 0) else zi) (if ke 0 = 0 then (fun _ => 0) else hi) (if ke 0 = 0 then (fun _ => 0) else gi) (if ke 0 = 0 then (fun _ => 0) else li) (if ke 0 = 0 then (fun _ => 0) else di) (if ke 0 = 0 then (fun _ => 0) else ni) (if ke 0 = 0 then 0 else lai)) (ms (if ke 1 = 0 then (fun _ => 0) else zj) (if ke 1 = 0 then (fun _ => 0) else hj) (if ke 1 = 0 then (fun _ => 0) else gj) (if ke 1 = 0 then (fun _ => 0) else lj) (if ke 1 = 0 then (fun _ => 0) else dj) (if ke 1 = 0 then (fun _ => 0) else nj) (if ke 1 = 0 then 0 else laj)) =
    ms (bkS v ke zo zi zj) (bkS v ke he hi hj) (bkS v ke go gi gj) (bkS v ke le li lj) (bkS v ke hd di dj) (bkS v ke gn ni nj) (bkS v ke la lai laj) := by
  simp only [bkS, e0, e1]
  by_cases a : v = 0
  · simp only [if_pos a]
    by_cases b : ke 0 = 0
    · simp only [if_pos b]
    · simp only [if_neg b]
  · simp only [if_neg a]
    by_cases b : v = 1
    · simp only [if_pos b]
      by_cases c : ke 1 = 0
      · simp only [if_pos c]
      · simp only [if_neg c]
    · simp only [if_neg b]
theorem back_r {zo go zi gi zj gj : Nat → Int32} (e0 : IK 0 = ke 0) (e1 : IK 1 = ke 1) :
    (if wiB v 0 1 then (if bkZ v ke then (-2) else cntS (isES (bkS v ke zo zi zj) (bkS v ke go gi gj)) 48) else (-1)) = (if wiB v 0 1 then (if bkZ v IK then (-2) else bkS v IK 0 (cntS (isES (if ke 0 = 0 then (fun _ => 0) else zi) (if ke 0 = 0 then (fun _ => 0) else gi)) 48) (cntS (isES (if ke 1 = 0 then (fun _ => 0) else zj) (if ke 1 = 0 then (fun _ => 0) else gj)) 48)) else (-1)) := by
  by_cases hv : wiB v 0 1 = true
  · rw [if_pos hv, if_pos hv]
    rcases wiB_01 hv with h | h
    · subst h
      simp only [bkZ, bkS, e0, e1]
      by_cases c : ke 0 = 0
      · simp [c]
      · simp [c]
    · subst h
      simp only [bkZ, bkS, e0, e1]
      by_cases c : ke 1 = 0
      · simp [c]
      · simp [c]
  · rw [if_neg hv, if_neg hv]
end IM
