-- WHAT HOLDS BETWEEN THE CALLS
def iSl (zo he go le hd gn : Nat → Int32) (la : Int32) : Prop := ok01 zo go ∧ ok6k he ∧ ok99 le ∧ ok99 hd ∧ ok99 gn ∧ ∃ l : Nat, l ≤ 6 ∧ la = nI l
def img (f g : Int32) (K M : Nat → Int32) : Prop := g = f ∧ (f = 0 → ∀ k, k < 163 → K k = 0) ∧ (¬ f = 0 → ∀ k, k < 163 → K k = M k)
def iTx (bt : Nat → Int32) (n : Nat) : Prop := okB bt ∧ n ≤ 400
def iRv (se wa ho : Nat → Int32) : Prop := (∀ i, i < 6 → ∃ p : Nat, p ≤ 9999 ∧ se i = nI p) ∧ (∀ i, ∃ c : Nat, c ≤ 999 ∧ wa i = nI c) ∧ ∃ hN : Nat → Nat, (∀ j, ho j = nI (hN j)) ∧ ∀ j, hN j ≤ 12
def iWa (gp gr cz cl GA CA : Nat → Int32) (ng nc : Nat) (sl : Int32) : Prop := (∃ gN : Nat → Nat, (∀ j, gp j = nI (gN j)) ∧ ∀ j, gN j < 48) ∧ ok10k gr ∧ (∃ zN : Nat → Nat, (∀ j, cz j = nI (zN j)) ∧ ∀ j, zN j < 6) ∧ ng ≤ 8 ∧ nc ≤ 8 ∧ (∀ j, j < ng → GA (2 * j) = gp j ∧ GA (2 * j + 1) = gr j) ∧ (∀ j, j < nc → CA (2 * j) = cz j ∧ CA (2 * j + 1) = cl j ∧ ∃ v : Nat, 1 ≤ v ∧ v ≤ 99 ∧ cl j = nI v) ∧ ∃ s : Nat, s ≤ 999 ∧ sl = nI s
def iWo (ki pl mo pr WK : Nat → Int32) (n : Nat) : Prop := n ≤ 8 ∧ ∃ wx wz : Nat → Nat, okW n ki pl mo pr WK wx wz
def Inv (R : Nat → Nat → Int32) (V : Nat → Int32) (U : Nat → Nat) : Prop :=
  iSl (R 0) (R 1) (R 2) (R 3) (R 4) (R 5) (V 0) ∧ iSl (R 6) (R 7) (R 8) (R 9) (R 10) (R 11) (V 1) ∧ iSl (R 12) (R 13) (R 14) (R 15) (R 16) (R 17) (V 2) ∧ iTx (R 19) (U 0) ∧ iRv (R 20) (R 21) (R 22) ∧ iWa (R 23) (R 24) (R 25) (R 26) (R 31) (R 32) (U 1) (U 2) (V 3) ∧ iWo (R 27) (R 28) (R 29) (R 30) (R 33) (U 3) ∧
  img (R 18 0) (R 35 0) (R 34) (ms (R 6) (R 7) (R 8) (R 9) (R 10) (R 11) (V 1)) ∧ img (R 18 1) (R 35 1) (fun k => R 34 (163 + k)) (ms (R 12) (R 13) (R 14) (R 15) (R 16) (R 17) (V 2))
theorem wX_fst (cI cZ : ClassId) (ad : Nat → Nat) (R : Nat → Nat → Int32) (V : Nat → Int32) (U : Nat → Nat) (tr : Int64) (sc : Nat → Nat → Int32) (sv : Nat → Int32) (sb : Bool) : (wX cI cZ ad R V U tr sc sv sb).map Prod.fst = (List.range 62).map ad := rfl
theorem wM_fst (cI cZ : ClassId) (ad : Nat → Nat) (S : Nat → Int32) (R : Nat → Nat → Int32) (V : Nat → Int32) (U : Nat → Nat) (tr : Int64) (sc : Nat → Nat → Int32) (sv : Nat → Int32) : (wMs cI cZ ad S R V U tr sc sv).map Prod.fst = (List.range 19).map ad := rfl
/-- another row s below its length -/
theorem wM_swap {G : va_G} {cI cZ : ClassId} {ad : Nat → Nat} {S S' : Nat → Int32} {R : Nat → Nat → Int32} {V : Nat → Int32} {U : Nat → Nat} {tr : Int64} {sc : Nat → Nat → Int32} {sv : Nat → Int32} {H : Heap} (h : ∀ k, k < 163 → S k = S' k) (hP : va_P G vwCl (wMs cI cZ ad S R V U tr sc sv) H) : va_P G vwCl (wMs cI cZ ad S' R V U tr sc sv) H := P_swap hP 1 S' rfl h
theorem ms_congr {zo zo' he he' go go' le le' hd hd' gn gn' : Nat → Int32} {la : Int32} (h1 : ∀ p, p < 48 → zo p = zo' p) (h2 : ∀ p, p < 48 → he p = he' p) (h3 : ∀ p, p < 48 → go p = go' p) (h4 : ∀ p, p < 6 → le p = le' p) (h5 : ∀ p, p < 6 → hd p = hd' p) (h6 : ∀ p, p < 6 → gn p = gn' p) : ∀ k, k < 163 → ms zo he go le hd gn la k = ms zo' he' go' le' hd' gn' la k := by
  intro k hk
  simp only [ms]
  by_cases a : k < 48
  · rw [if_pos a, if_pos a, mzS, mzS, isAirS, isAirS, h1 k a]
  by_cases b : k < 96
  · rw [if_neg a, if_pos b, if_neg a, if_pos b, h2 _ (by omega)]
  by_cases c : k < 144
  · rw [if_neg a, if_neg b, if_pos c, if_neg a, if_neg b, if_pos c, h3 _ (by omega)]
  by_cases e : k < 150
  · rw [if_neg a, if_neg b, if_neg c, if_pos e, if_neg a, if_neg b, if_neg c, if_pos e, h4 _ (by omega)]
  by_cases f : k < 156
  · rw [if_neg a, if_neg b, if_neg c, if_neg e, if_pos f, if_neg a, if_neg b, if_neg c, if_neg e, if_pos f, h5 _ (by omega)]
  by_cases g : k < 162
  · rw [if_neg a, if_neg b, if_neg c, if_neg e, if_neg f, if_pos g, if_neg a, if_neg b, if_neg c, if_neg e, if_neg f, if_pos g, h6 _ (by omega)]
  · rw [if_neg a, if_neg b, if_neg c, if_neg e, if_neg f, if_neg g, if_neg a, if_neg b, if_neg c, if_neg e, if_neg f, if_neg g]
theorem ms_00 : ∀ k, k < 163 → (0 : Int32) = ms (fun _ => 0) (fun _ => 0) (fun _ => 0) (fun _ => 0) (fun _ => 0) (fun _ => 0) 0 k := by
  intro k hk
  simp only [ms]
  by_cases a : k < 48
  · rw [if_pos a]; rfl
  · rw [if_neg a]
    repeat' split
    all_goals rfl
theorem up99i {le : Nat → Int32} {z : Nat} {v : Int32} (hle : ok99 le) (h : wiB v 1 99 = true) : ok99 (upd le z v) := by
  obtain ⟨u, h1, h2, h3, -⟩ := wiB_1 (M := 99) (by omega) h
  rw [h3]
  exact up_99 hle h1 h2
theorem zup_99 {f : Nat → Int32} {z wh v w : Int32} {b : Bool} (h : ok99 f) : ok99 (zupS f z wh v w b) := by
  rw [zupS]
  split
  · rename_i q
    rw [Bool.and_eq_true, zvB, Bool.and_eq_true, Bool.and_eq_true] at q
    exact up99i h q.1.2.2
  · exact h
/-- a new dam's traits -/
theorem ri_99 {BT : Nat → Int32} {n : Nat} : ∀ (f b : Nat) (v : Int32) (R : RwT), ok99 R.2.1 ∧ ok99 R.2.2.1 ∧ ok99 R.2.2.2 → ok99 (riF BT n f b v R).2.2.1 ∧ ok99 (riF BT n f b v R).2.2.2.1 ∧ ok99 (riF BT n f b v R).2.2.2.2
  | 0, b, v, R, h => h
  | f + 1, b, v, R, h => by
    rw [riF]
    split
    · exact h
    · split
      · split
        · rename_i hz
          refine ri_99 f _ _ _ ?_
          simp only [zcB, Bool.and_eq_true, nuB] at hz
          exact ⟨up99i h.1 hz.2.1.2, up99i h.2.1 hz.2.2.1.2, up99i h.2.2 hz.2.2.2.1.2⟩
        · exact h
      · split
        · split
          · exact ri_99 f _ _ _ h
          · exact h
        · exact h
theorem ten_99 : ok99 (fun _ => 10) := fun z hz => ⟨10, by omega, by omega, rfl⟩
theorem z_01 (zo : Nat → Int32) : ok01 zo (fun _ => 0) := fun p hp => ⟨Or.inl rfl, fun _ => rfl⟩
theorem dz_eq {d : Nat → Int32} {R : RwT} (h : DrR d R) {c : Nat} (hc : c < 48) : dzS d c = R.1 c := by
  rcases h.1 c hc with ⟨h1, h2⟩ | ⟨z, h1, h2, h3⟩
  · rw [dzS, if_pos h1, h2]
  · rw [dzS, h2, if_neg (nI_ne9 (by omega)), h3]
theorem fit_relN {zo go le gr cl GA CA mt lw : Nat → Int32} {la sl : Int32} {gN zN : Nat → Nat} {n s l N : Nat} (hN : N ≤ 8) (hle : ok99 le) (hl : l ≤ 6) (hla : la = nI l) (hs : s ≤ 999) (hsl : sl = nI s) (hgr : ok10k gr) (hcl : ∀ i, i < N → ∃ v : Nat, 1 ≤ v ∧ v ≤ 99 ∧ cl i = nI v) (hG : ∀ j, j < n → GA (2 * j + 1) = gr j) : ∀ i, i ≤ N → (∀ j, j < i → CA (2 * j + 1) = cl j) →
    ∃ t : Nat, t < 2 ^ i ∧ (fitS zo go le gr cl la sl gN zN n i).1 = nI t ∧ (fmS (fun i => gzA (gzT (isES zo go) gN GA sl (lhM zo go le la zN CA i)) n) (lhM zo go le la zN CA) mt lw i).1 = nI t ∧
      (t = 0 → (fitS zo go le gr cl la sl gN zN n i).2 = ((fun _ => 7000), (fun _ => 0))) ∧
      (t ≠ 0 → (fmS (fun i => gzA (gzT (isES zo go) gN GA sl (lhM zo go le la zN CA i)) n) (lhM zo go le la zN CA) mt lw i).2 = ((fitS zo go le gr cl la sl gN zN n i).2.2, (fitS zo go le gr cl la sl gN zN n i).2.1))
  | 0, _, _ => ⟨0, by decide, rfl, rfl, fun _ => rfl, fun h => absurd rfl h⟩
  | i + 1, hi, hC => by
    obtain ⟨t, h1, h2, h3, h4, h5⟩ := fit_relN hN (mt := mt) (lw := lw) (zo := zo) (go := go) (gN := gN) (zN := zN) hle hl hla hs hsl hgr hcl hG i (by omega) (fun j hj => hC j (by omega))
    obtain ⟨v, hv1, hv2, hv3⟩ := hcl i (by omega)
    have hle2 : ok99 (upd le (zN i) (cl i)) := by rw [hv3]; exact up_99 hle hv1 hv2
    have hpa : ∀ p, ∃ v : Nat, v ≤ 99 ∧ paS zo go (upd le (zN i) (cl i)) p = nI v := fun p => by
      obtain ⟨v, q1, q2, -⟩ := pa_n (zo := zo) (go := go) hle2 p
      exact ⟨v, q1, q2⟩
    have hlh : lhM zo go le la zN CA i = chS zo go le la (zN i) (cl i) := by rw [lhM, chS, hC i (by omega), sw_eq hle2]
    have h6 : ok6k (chS zo go le la (zN i) (cl i)) := sw_6k hpa hl hla z_6k 40
    have hag : gzA (gzT (isES zo go) gN GA sl (lhM zo go le la zN CA i)) n = agrS zo (chS zo go le la (zN i) (cl i)) go gr gN sl n := by rw [hlh]; exact ag_eq hs hsl h6 hgr hG
    have h256 : 2 ^ i ≤ 128 := by
      have : ∀ i, i < 8 → 2 ^ i ≤ 128 := by decide
      exact this i (by omega)
    have hpw : 2 ^ (i + 1) = 2 * 2 ^ i := by rw [Nat.pow_succ, Nat.mul_comm]
    rw [fitS_s, fmS_s, hag]
    cases hA : agrS zo (chS zo go le la (zN i) (cl i)) go gr gN sl n with
    | false => exact ⟨t, by omega, h2, h3, h4, h5⟩
    | true =>
      have hor := or_set ⟨i, by omega⟩ ⟨t, by omega⟩ h1
      refine ⟨t + 2 ^ i, by omega, ?_, ?_, fun q => ?_, fun _ => ?_⟩
      · show (fitS zo go le gr cl la sl gN zN n i).1 ||| _ = _
        rw [h2]; exact hor
      · show (fmS _ _ mt lw i).1 ||| _ = _
        rw [h3]; exact hor
      · have := Nat.pow_pos (a := 2) (n := i) (by omega)
        omega
      · show (mfM (fmS _ _ mt lw i).1 (lhM zo go le la zN CA i) (fmS _ _ mt lw i).2.1, lfM (fmS _ _ mt lw i).1 (lhM zo go le la zN CA i) (fmS _ _ mt lw i).2.2) = (ghS (fitS zo go le gr cl la sl gN zN n i).2.2 (chS zo go le la (zN i) (cl i)), lwS (fitS zo go le gr cl la sl gN zN n i).2.1 (chS zo go le la (zN i) (cl i)))
        rw [hlh, h3]
        by_cases e : t = 0
        · have h7 := h4 e
          obtain ⟨l1, l2⟩ := lw_first h6
          rw [h7, e]
          show (_, _) = (ghS (fun _ => 0) _, lwS (fun _ => 7000) _)
          rw [l1, l2, mf0, lf0]
        · have h7 := h5 e
          have hne : ¬ nI t = 0 := fun q => e ((nI_eq (a := t) (b := 0) (by omega) (by omega)).mp q)
          rw [h7]
          refine Prod.ext ?_ ?_
          · funext p; exact mt_more hne
          · funext p; exact lw_more hne
