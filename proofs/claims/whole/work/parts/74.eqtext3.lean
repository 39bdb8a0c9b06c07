-- rows of the text, the whole dam
section STM2
variable {BT : Nat → Int32} {n : Nat}
theorem row_st (hn : n ≤ 400) (hB : okB BT) {b : Nat} {v : Int32} (hb : b ≤ n) {rt : RdT} (hrt : rt.2.1 = b) (hw : ¬ 0 ≤ rt.1) {d : Nat → Int32} {R : RwT} (hD : DrR d R) :
    (rcB BT n b v = true → dm2 BT n (rrR BT n rt) = adR BT n (rrR BT n rt) ∧ (rrR BT n rt).2.1 = (rcR BT n b v).2.2.1 ∧ ¬ 0 ≤ (rrR BT n rt).1 ∧ DrR (rrD BT n rt d) (rcW BT n b v R)) ∧
    (rcB BT n b v = false → (dm2 BT n (rrR BT n rt)).1 = nI (rcR BT n b v).2.1) := by
  have h1 : RelT (tkR BT n b v) (adR BT n rt) := tk_ad hB hb hrt
  have hw1 : ¬ 0 ≤ (adR BT n rt).1 := hw
  have b1 := tkR_b (BT := BT) (v := v) hb
  rw [rcB, rcR, rcW, rrR, rrD]
  generalize hr1 : tkR BT n b v = r1 at h1 b1 ⊢
  generalize ht1 : adR BT n rt = t1 at h1 hw1 ⊢
  cases hn1 : nuB 0 5 r1 with
  | false =>
    refine ⟨fun q => absurd q (by simp), fun _ => ?_⟩
    have e1 := tn_f (BT := BT) (n := n) h1 hw1 hn1
    have p1 : 0 ≤ (tnR BT n 0 5 t1).1 := by rw [e1]; exact nI_z (by omega)
    have hbad : ¬ rlB BT (tnR BT n 0 5 t1) 8 = true := fun q => by
      have := rlB_0 q
      rw [rwB, decide_eq_true p1] at this
      simp at this
    have hf : (flR (tnR BT n 0 5 t1)).1 = nI r1.2.1 := by rw [flR_k p1, e1]
    rw [if_neg hbad, if_neg (show ¬ (false = true) by decide), dm2_bad (by rw [hf]; exact nI_z (by omega)), hf]
  | true =>
    obtain ⟨e1, v1⟩ := tn_t (BT := BT) (n := n) h1 hw1 hn1
    obtain ⟨rn, hr6, hre, hrc⟩ := nuB_5 hn1
    have h2 : RelT (tkR BT n r1.2.2.1 r1.2.2.2) (adR BT n t1) := tk_ad hB b1.2.2 h1.1
    have hw2 : ¬ 0 ≤ (adR BT n t1).1 := hw1
    have b2 := tkR_b (BT := BT) (v := r1.2.2.2) b1.2.2
    rw [if_pos (show true = true from rfl), e1, v1, hrc, Bool.true_and]
    generalize tkR BT n r1.2.2.1 r1.2.2.2 = r2 at h2 b2 ⊢
    generalize adR BT n t1 = t2 at h2 hw2 ⊢
    have hrl := rl_eq hB h2 hw2 8
    cases hwc : rwC r2 with
    | false =>
      refine ⟨fun q => absurd q (by simp), fun _ => ?_⟩
      rw [hwc, Bool.false_and] at hrl
      have hf : (flR t2).1 = nI r2.2.1 := by rw [fl_w hw2, h2.2.1]
      rw [if_neg (show ¬ rlB BT t2 8 = true by rw [hrl]; decide), if_neg (show ¬ (false = true) by decide), dm2_bad (by rw [hf]; exact nI_z (by omega)), hf]
    | true =>
      rw [hwc, Bool.true_and] at hrl
      rw [if_pos (show true = true from rfl), Bool.true_and]
      cases hany : anyS (rcT BT r2) 8 with
      | true =>
        refine ⟨fun q => absurd q (by simp), fun _ => ?_⟩
        rw [hany] at hrl
        have hf : (flR t2).1 = nI r2.2.1 := by rw [fl_w hw2, h2.2.1]
        rw [if_pos (show true = true from rfl), if_neg (show ¬ rlB BT t2 8 = true by rw [hrl]; decide), dm2_bad (by rw [hf]; exact nI_z (by omega)), hf]
      | false =>
        rw [hany] at hrl
        have hrl2 : rlB BT t2 8 = true := hrl
        have hdr := DrR_r hB hr6 h2 hw2 hD 8 (Nat.le_refl 8) hrl2
        have h3 : RelT (tkR BT n r2.2.2.1 r2.2.2.2) (adR BT n t2) := tk_ad hB b2.2.2 h2.1
        have hw3 : ¬ 0 ≤ (adR BT n t2).1 := hw2
        rw [if_pos hrl2, if_neg (show ¬ (false = true) by decide), Bool.not_false, Bool.true_and]
        generalize tkR BT n r2.2.2.1 r2.2.2.2 = r3 at h3 ⊢
        generalize adR BT n t2 = t3 at h3 hw3 ⊢
        refine ⟨fun q => ?_, fun q => ?_⟩
        · have q3 : t3.2.2.2.1 = 3 := by rw [h3.2.2.1]; exact of_decide_eq_true q
          exact ⟨dm2_ok hw3 q3, h3.1, hw3, hdr⟩
        · rw [dm2_no hw3 (by rw [h3.2.2.1]; exact of_decide_eq_false q), h3.2.1]
theorem dmS_e {k : Nat} {q : RdT × (Nat → Int32)} : dmS BT n k q = if k = 20 ∨ (wdM BT q.1.2.2.2.1 q.1.2.2.1 q.1.2.1 122 111 110 101 = false ∧ wdM BT q.1.2.2.2.1 q.1.2.2.1 q.1.2.1 114 111 119 0 = false) then (dm2 BT n (flR q.1), q.2) else if wdM BT q.1.2.2.2.1 q.1.2.2.1 q.1.2.1 122 111 110 101 then (dm2 BT n (rzR BT n q.1), rzD BT n q.1 q.2) else (dm2 BT n (rrR BT n q.1), rrD BT n q.1 q.2) := rfl
theorem dmF_bad : ∀ {fu k : Nat} {q : RdT × (Nat → Int32)}, 0 ≤ q.1.1 → dmF BT n fu k q = q := fun h => dmF_e (by rw [dmE, decide_eq_true h]; rfl)
/-- the class's answer is the twin's -/
theorem dam_eq (hn : n ≤ 400) (hB : okB BT) : ∀ (f k b : Nat) (v : Int32) (rt : RdT) (d : Nat → Int32) (R : RwT), f + k = 20 → b ≤ n → RelT (tkR BT n b v) rt → ¬ 0 ≤ rt.1 → DrR d R →
    ((riF BT n f b v R).1 = -1 ∧ ¬ 0 ≤ (dmF BT n (f + 1) k (rt, d)).1.1 ∧ DrR (dmF BT n (f + 1) k (rt, d)).2 (riF BT n f b v R).2) ∨ (¬ (riF BT n f b v R).1 = -1 ∧ 0 ≤ (dmF BT n (f + 1) k (rt, d)).1.1 ∧ (dmF BT n (f + 1) k (rt, d)).1.1 = (riF BT n f b v R).1)
  | 0, k, b, v, rt, d, R, hf, hb, hT, hw, hD => by
    have b1 := tkR_b (BT := BT) (v := v) hb
    rw [riF, dmF]
    generalize tkR BT n b v = r at hT b1 ⊢
    by_cases h0 : r.1 = 0
    · rw [if_pos h0, if_pos (show dmE (rt, d).1 = true by rw [dmE, hT.2.2.1, decide_eq_true h0, Bool.or_true])]
      exact Or.inl ⟨rfl, hw, hD⟩
    · rw [if_neg h0, if_neg (show ¬ dmE (rt, d).1 = true by rw [dmE, hT.2.2.1, decide_eq_false h0, decide_eq_false hw]; decide), dmF, dmS_e, if_pos (Or.inl (by omega))]
      have hff : (flR rt).1 = nI r.2.1 := by rw [fl_w hw, hT.2.1]
      have h1 : (dm2 BT n (flR rt)).1 = nI r.2.1 := by rw [dm2_bad (by rw [hff]; exact nI_z (by omega)), hff]
      exact Or.inr ⟨nI_nm1 (by omega), by show 0 ≤ (dm2 BT n (flR rt)).1; rw [h1]; exact nI_z (by omega), h1⟩
  | f + 1, k, b, v, rt, d, R, hf, hb, hT, hw, hD => by
    have b1 := tkR_b (BT := BT) (v := v) hb
    rw [riF, dmF]
    generalize tkR BT n b v = r at hT b1 ⊢
    by_cases h0 : r.1 = 0
    · rw [if_pos h0, if_pos (show dmE (rt, d).1 = true by rw [dmE, hT.2.2.1, decide_eq_true h0, Bool.or_true])]
      exact Or.inl ⟨rfl, hw, hD⟩
    · rw [if_neg h0, if_neg (show ¬ dmE (rt, d).1 = true by rw [dmE, hT.2.2.1, decide_eq_false h0, decide_eq_false hw]; decide), dmS_e]
      have ez := wd0_eq (BT := BT) hT
      have er := wd1_eq (BT := BT) hT
      rw [← ez, ← er]
      cases hz : wdC BT 0 (r.1, r.2.1, r.2.2.1) with
      | true =>
        rw [if_pos (show true = true from rfl), if_neg (show ¬ (k = 20 ∨ (true = false ∧ wdC BT 1 (r.1, r.2.1, r.2.2.1) = false)) from fun q => q.elim (fun z => by omega) (fun z => absurd z.1 (by decide))), if_pos (show true = true from rfl)]
        have hs := zone_st (v := r.2.2.2) hn hB b1.2.2 hT.1 hw hD
        have hzb := zcR_b (BT := BT) (v := r.2.2.2) b1.2.2
        cases hc : zcB BT n r.2.2.1 r.2.2.2 with
        | true =>
          obtain ⟨s1, s2, s3, s4⟩ := hs.1 hc
          rw [if_pos (show true = true from rfl), s1]
          exact dam_eq hn hB f (k + 1) _ _ _ _ _ (by omega) hzb.2 (tk_ad hB hzb.2 s2) s3 s4
        | false =>
          have s1 := hs.2 hc
          have p1 : 0 ≤ (dm2 BT n (rzR BT n rt)).1 := by rw [s1]; exact nI_z (by omega)
          rw [if_neg (show ¬ (false = true) by decide), dmF_bad (show 0 ≤ (dm2 BT n (rzR BT n rt), rzD BT n rt d).1.1 from p1)]
          exact Or.inr ⟨nI_nm1 (by omega), p1, s1⟩
      | false =>
        rw [if_neg (show ¬ (false = true) by decide)]
        cases hr : wdC BT 1 (r.1, r.2.1, r.2.2.1) with
        | true =>
          rw [if_pos (show true = true from rfl), if_neg (show ¬ (k = 20 ∨ (false = false ∧ true = false)) from fun q => q.elim (fun z => by omega) (fun z => absurd z.2 (by decide))), if_neg (show ¬ (false = true) by decide)]
          have hs := row_st (v := r.2.2.2) hn hB b1.2.2 hT.1 hw hD
          have hzb := rcR_b (BT := BT) (v := r.2.2.2) b1.2.2
          cases hc : rcB BT n r.2.2.1 r.2.2.2 with
          | true =>
            obtain ⟨s1, s2, s3, s4⟩ := hs.1 hc
            rw [if_pos (show true = true from rfl), s1]
            exact dam_eq hn hB f (k + 1) _ _ _ _ _ (by omega) hzb.2 (tk_ad hB hzb.2 s2) s3 s4
          | false =>
            have s1 := hs.2 hc
            have p1 : 0 ≤ (dm2 BT n (rrR BT n rt)).1 := by rw [s1]; exact nI_z (by omega)
            rw [if_neg (show ¬ (false = true) by decide), dmF_bad (show 0 ≤ (dm2 BT n (rrR BT n rt), rrD BT n rt d).1.1 from p1)]
            exact Or.inr ⟨nI_nm1 (by omega), p1, s1⟩
        | false =>
          rw [if_neg (show ¬ (false = true) by decide), if_pos (show k = 20 ∨ (false = false ∧ false = false) from Or.inr ⟨rfl, rfl⟩)]
          have hff : (flR rt).1 = nI r.2.1 := by rw [fl_w hw, hT.2.1]
          have h1 : (dm2 BT n (flR rt)).1 = nI r.2.1 := by rw [dm2_bad (by rw [hff]; exact nI_z (by omega)), hff]
          have p1 : 0 ≤ (dm2 BT n (flR rt)).1 := by rw [h1]; exact nI_z (by omega)
          rw [dmF_bad (show 0 ≤ (dm2 BT n (flR rt), d).1.1 from p1)]
          exact Or.inr ⟨nI_nm1 (by omega), p1, h1⟩
end STM2
theorem DrR_0 : DrR (fun c => if c < 48 then (-9) else 10) ((fun _ => (-1)), (fun _ => 10), (fun _ => 10), (fun _ => 10)) := by
  refine ⟨fun c hc => Or.inl ⟨if_pos hc, rfl⟩, fun z hz => ?_⟩
  refine ⟨?_, ?_, ?_⟩
  · show (if 48 + z < 48 then (-9 : Int32) else 10) = 10
    rw [if_neg (by omega)]
  · show (if 54 + z < 48 then (-9 : Int32) else 10) = 10
    rw [if_neg (by omega)]
  · show (if 60 + z < 48 then (-9 : Int32) else 10) = 10
    rw [if_neg (by omega)]
theorem dam_all {BT : Nat → Int32} {n : Nat} (hn : n ≤ 400) (hB : okB BT) (v v' : Int32) :
    ((riF BT n 20 0 v ((fun _ => (-1)), (fun _ => 10), (fun _ => 10), (fun _ => 10))).1 = -1 ∧ ¬ 0 ≤ (dmF BT n 21 0 (adR BT n ((-1), 0, 0, 0, v'), (fun c => if c < 48 then (-9) else 10))).1.1 ∧ DrR (dmF BT n 21 0 (adR BT n ((-1), 0, 0, 0, v'), (fun c => if c < 48 then (-9) else 10))).2 (riF BT n 20 0 v ((fun _ => (-1)), (fun _ => 10), (fun _ => 10), (fun _ => 10))).2) ∨
    (¬ (riF BT n 20 0 v ((fun _ => (-1)), (fun _ => 10), (fun _ => 10), (fun _ => 10))).1 = -1 ∧ 0 ≤ (dmF BT n 21 0 (adR BT n ((-1), 0, 0, 0, v'), (fun c => if c < 48 then (-9) else 10))).1.1 ∧ (dmF BT n 21 0 (adR BT n ((-1), 0, 0, 0, v'), (fun c => if c < 48 then (-9) else 10))).1.1 = (riF BT n 20 0 v ((fun _ => (-1)), (fun _ => 10), (fun _ => 10), (fun _ => 10))).1) :=
  dam_eq hn hB 20 0 0 v (adR BT n ((-1), 0, 0, 0, v')) _ _ rfl (Nat.zero_le _) (tk_ad hB (Nat.zero_le _) rfl) (show ¬ (0 : Int32) ≤ -1 by decide) DrR_0
