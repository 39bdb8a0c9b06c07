-- statements of the text
def dm2 (BT : Nat → Int32) (n : Nat) (r : RdT) : RdT := if (!decide (0 ≤ r.1)) = true ∧ r.2.2.2.1 = 3 then adR BT n r else flR r
theorem dm2_bad {BT : Nat → Int32} {n : Nat} {r : RdT} (h : 0 ≤ r.1) : (dm2 BT n r).1 = r.1 := by
  rw [dm2, if_neg (fun q => by rw [decide_eq_true h] at q; exact absurd q.1 (by decide)), flR_k h]
theorem dm2_no {BT : Nat → Int32} {n : Nat} {r : RdT} (h : ¬ 0 ≤ r.1) (h3 : ¬ r.2.2.2.1 = 3) : (dm2 BT n r).1 = nI r.2.2.1 := by
  rw [dm2, if_neg (fun q => h3 q.2), fl_w h]
theorem dm2_ok {BT : Nat → Int32} {n : Nat} {r : RdT} (h : ¬ 0 ≤ r.1) (h3 : r.2.2.2.1 = 3) : dm2 BT n r = adR BT n r := by
  rw [dm2, if_pos ⟨by rw [decide_eq_false h]; rfl, h3⟩]
section STM
variable {BT : Nat → Int32} {n : Nat}
theorem tn_bad {lo hi : Int32} {r : RdT} (h : 0 ≤ r.1) : (tnR BT n lo hi r).1 = r.1 := by
  rw [tnR, if_neg (by rw [tnB, decide_eq_true h]; simp), flR_k h]
theorem tn_f {lo hi : Int32} {rc : CdT} {rt : RdT} (h : RelT rc rt) (hw : ¬ 0 ≤ rt.1) (hn : nuB lo hi rc = false) : (tnR BT n lo hi rt).1 = nI rc.2.1 := by
  rw [tnR, tnB_eq h hw, hn, if_neg (by decide), fl_w hw, h.2.1]
theorem tn_t {lo hi : Int32} {rc : CdT} {rt : RdT} (h : RelT rc rt) (hw : ¬ 0 ≤ rt.1) (hn : nuB lo hi rc = true) : tnR BT n lo hi rt = adR BT n rt ∧ tnV lo hi rt = rc.2.2.2 := by
  have e : tnB lo hi rt = true := by rw [tnB_eq h hw, hn]
  refine ⟨by rw [tnR, e, if_pos rfl], ?_⟩
  rw [tnV, e, if_pos rfl]
  simp only [nuB, Bool.and_eq_true, decide_eq_true_eq] at hn
  exact h.2.2.2 hn.1
theorem rz_eq (hB : okB BT) {rc : CdT} {rt : RdT} (h : RelT rc rt) (hw : ¬ 0 ≤ rt.1) : rzB BT rt = zwB BT rc := by
  rw [rzB, zwB, decide_eq_false hw, h.1, h.2.1, h.2.2.1, wi_97 hB]
  rfl
theorem z_lt {i : Nat} (h : wiB (BT i - 97) 0 5 = true) : (BT i - 97).toNatClampNeg < 6 := by
  obtain ⟨z, h1, h2, h3⟩ := wiB_n (M := 5) (by omega) h
  omega
theorem zr3 (r : RdT) : zrR BT n r 3 = tnR BT n 1 99 (tnR BT n 1 99 (tnR BT n 1 99 r)) := rfl
theorem zrD3 (r : RdT) (z : Nat) (d : Nat → Int32) : zrD BT n r z d 3 = upd (upd (upd d (48 + z) (tnV 1 99 r)) (54 + z) (tnV 1 99 (tnR BT n 1 99 r))) (60 + z) (tnV 1 99 (tnR BT n 1 99 (tnR BT n 1 99 r))) := rfl
theorem DrR_z {d : Nat → Int32} {R : RwT} {z : Nat} (hz : z < 6) (h : DrR d R) (v0 v1 v2 : Int32) : DrR (upd (upd (upd d (48 + z) v0) (54 + z) v1) (60 + z) v2) (R.1, upd R.2.1 z v0, upd R.2.2.1 z v1, upd R.2.2.2 z v2) := by
  refine ⟨fun c hc => ?_, fun k hk => ?_⟩
  · rw [pk_un (by omega), pk_un (by omega), pk_un (by omega)]
    exact h.1 c hc
  · obtain ⟨h1, h2, h3⟩ := h.2 k hk
    refine ⟨?_, ?_, ?_⟩
    · rw [pk_un (by omega), pk_un (by omega)]
      by_cases e : k = z
      · rw [e, pk_us]; exact pk_us.symm
      · rw [pk_un (by omega), h1]; exact (pk_un e).symm
    · rw [pk_un (by omega)]
      by_cases e : k = z
      · rw [e, pk_us]; exact pk_us.symm
      · rw [pk_un (by omega), pk_un (by omega), h2]; exact (pk_un e).symm
    · by_cases e : k = z
      · rw [e, pk_us]; exact pk_us.symm
      · rw [pk_un (by omega), pk_un (by omega), pk_un (by omega), h3]; exact (pk_un e).symm
theorem zone_st (hn : n ≤ 400) (hB : okB BT) {b : Nat} {v : Int32} (hb : b ≤ n) {rt : RdT} (hrt : rt.2.1 = b) (hw : ¬ 0 ≤ rt.1) {d : Nat → Int32} {R : RwT} (hD : DrR d R) :
    (zcB BT n b v = true → dm2 BT n (rzR BT n rt) = adR BT n (rzR BT n rt) ∧ (rzR BT n rt).2.1 = (zcR BT n b v).2.2.1 ∧ ¬ 0 ≤ (rzR BT n rt).1 ∧ DrR (rzD BT n rt d) (zcW BT n b v R)) ∧
    (zcB BT n b v = false → (dm2 BT n (rzR BT n rt)).1 = nI (zcR BT n b v).2.1) := by
  have h1 : RelT (tkR BT n b v) (adR BT n rt) := tk_ad hB hb hrt
  have hw1 : ¬ 0 ≤ (adR BT n rt).1 := hw
  have b1 := tkR_b (BT := BT) (v := v) hb
  rw [zcB, zcR, zcW, rzR, rzD, rz_eq hB h1 hw1]
  generalize hr1 : tkR BT n b v = r1 at h1 b1 ⊢
  generalize ht1 : adR BT n rt = t1 at h1 hw1 ⊢
  cases hz : zwB BT r1 with
  | false =>
    refine ⟨fun q => absurd q (by simp), fun _ => ?_⟩
    have hf : (flR t1).1 = nI r1.2.1 := by rw [fl_w hw1, h1.2.1]
    rw [if_neg (by decide), if_neg (by decide), dm2_bad (by rw [hf]; exact nI_z (by omega)), hf]
  | true =>
    have hzz : (BT r1.2.1 - 97).toNatClampNeg < 6 := by
      simp only [zwB, Bool.and_eq_true] at hz
      exact z_lt hz.2.2
    have h2 : RelT (tkR BT n r1.2.2.1 r1.2.2.2) (adR BT n t1) := tk_ad hB b1.2.2 h1.1
    have hw2 : ¬ 0 ≤ (adR BT n t1).1 := hw1
    have b2 := tkR_b (BT := BT) (v := r1.2.2.2) b1.2.2
    rw [if_pos rfl, if_pos rfl, if_pos rfl, zr3, zrD3, h1.2.1, Bool.true_and]
    generalize tkR BT n r1.2.2.1 r1.2.2.2 = r2 at h2 b2 ⊢
    generalize adR BT n t1 = t2 at h2 hw2 ⊢
    cases hn2 : nuB 1 99 r2 with
    | false =>
      refine ⟨fun q => absurd q (by simp), fun _ => ?_⟩
      have e1 := tn_f (BT := BT) (n := n) h2 hw2 hn2
      have p1 : 0 ≤ (tnR BT n 1 99 t2).1 := by rw [e1]; exact nI_z (by omega)
      have e2 := tn_bad (BT := BT) (n := n) (lo := 1) (hi := 99) p1
      have p2 : 0 ≤ (tnR BT n 1 99 (tnR BT n 1 99 t2)).1 := by rw [e2]; exact p1
      have e3 := tn_bad (BT := BT) (n := n) (lo := 1) (hi := 99) p2
      rw [if_neg (by decide), dm2_bad (by rw [e3]; exact p2), e3, e2, e1]
    | true =>
      obtain ⟨e1, v1⟩ := tn_t (BT := BT) (n := n) h2 hw2 hn2
      have h3 : RelT (tkR BT n r2.2.2.1 r2.2.2.2) (adR BT n t2) := tk_ad hB b2.2.2 h2.1
      have hw3 : ¬ 0 ≤ (adR BT n t2).1 := hw2
      have b3 := tkR_b (BT := BT) (v := r2.2.2.2) b2.2.2
      rw [if_pos rfl, e1, v1, Bool.true_and]
      generalize tkR BT n r2.2.2.1 r2.2.2.2 = r3 at h3 b3 ⊢
      generalize adR BT n t2 = t3 at h3 hw3 ⊢
      cases hn3 : nuB 1 99 r3 with
      | false =>
        refine ⟨fun q => absurd q (by simp), fun _ => ?_⟩
        have e2 := tn_f (BT := BT) (n := n) h3 hw3 hn3
        have p2 : 0 ≤ (tnR BT n 1 99 t3).1 := by rw [e2]; exact nI_z (by omega)
        have e3 := tn_bad (BT := BT) (n := n) (lo := 1) (hi := 99) p2
        rw [if_neg (by decide), dm2_bad (by rw [e3]; exact p2), e3, e2]
      | true =>
        obtain ⟨e2, v2⟩ := tn_t (BT := BT) (n := n) h3 hw3 hn3
        have h4 : RelT (tkR BT n r3.2.2.1 r3.2.2.2) (adR BT n t3) := tk_ad hB b3.2.2 h3.1
        have hw4 : ¬ 0 ≤ (adR BT n t3).1 := hw3
        have b4 := tkR_b (BT := BT) (v := r3.2.2.2) b3.2.2
        rw [if_pos rfl, e2, v2, Bool.true_and]
        generalize tkR BT n r3.2.2.1 r3.2.2.2 = r4 at h4 b4 ⊢
        generalize adR BT n t3 = t4 at h4 hw4 ⊢
        cases hn4 : nuB 1 99 r4 with
        | false =>
          refine ⟨fun q => absurd q (by simp), fun _ => ?_⟩
          have e3 := tn_f (BT := BT) (n := n) h4 hw4 hn4
          rw [if_neg (by decide), dm2_bad (by rw [e3]; exact nI_z (by omega)), e3]
        | true =>
          obtain ⟨e3, v3⟩ := tn_t (BT := BT) (n := n) h4 hw4 hn4
          have h5 : RelT (tkR BT n r4.2.2.1 r4.2.2.2) (adR BT n t4) := tk_ad hB b4.2.2 h4.1
          have hw5 : ¬ 0 ≤ (adR BT n t4).1 := hw4
          rw [if_pos rfl, e3, v3, Bool.true_and]
          generalize tkR BT n r4.2.2.1 r4.2.2.2 = r5 at h5 ⊢
          generalize adR BT n t4 = t5 at h5 hw5 ⊢
          refine ⟨fun q => ?_, fun q => ?_⟩
          · have q3 : t5.2.2.2.1 = 3 := by rw [h5.2.2.1]; exact of_decide_eq_true q
            exact ⟨dm2_ok hw5 q3, h5.1, hw5, DrR_z hzz hD _ _ _⟩
          · rw [dm2_no hw5 (by rw [h5.2.2.1]; exact of_decide_eq_false q), h5.2.1]
theorem rw_eq {rc : CdT} {rt : RdT} (h : RelT rc rt) (hw : ¬ 0 ≤ rt.1) : rwB rt = rwC rc := by
  rw [rwB, rwC, decide_eq_false hw, h.1, h.2.1, h.2.2.1]
  rfl
theorem rl_eq (hB : okB BT) {rc : CdT} {rt : RdT} (h : RelT rc rt) (hw : ¬ 0 ≤ rt.1) : ∀ k, rlB BT rt k = (rwC rc && !anyS (rcT BT rc) k)
  | 0 => by rw [rlB, rw_eq h hw]; cases rwC rc <;> rfl
  | k + 1 => by
    rw [rlB, rl_eq hB h hw k, anyS, rcT, h.2.1, okC_eq hB]
    cases rwC rc <;> cases anyS (rcT BT rc) k <;> cases okL (BT (rc.2.1 + k)) <;> rfl
theorem DrR_r (hB : okB BT) {d : Nat → Int32} {R : RwT} {row : Nat} (hrow : row < 6) {rc : CdT} {rt : RdT} (h : RelT rc rt) (hw : ¬ 0 ≤ rt.1) (hD : DrR d R) : ∀ k, k ≤ 8 → rlB BT rt k = true → DrR (rlD BT rt row d k) (rcD BT rc row R.1 k, R.2)
  | 0, _, _ => hD
  | k + 1, hk, hb => by
    rw [rlB, Bool.and_eq_true] at hb
    have ih := DrR_r hB hrow h hw hD k (by omega) hb.1
    rw [rlD, if_pos hb.1, rcD]
    have hok := hb.2
    rw [h.2.1] at hok ⊢
    refine ⟨fun c hc => ?_, fun z hz => ?_⟩
    · by_cases e : c = 8 * row + k
      · rw [e, pk_us]
        show (_ ∧ upd _ _ _ _ = _) ∨ _
        rw [pk_us, vL, vC]
        by_cases q : BT (rc.2.1 + k) = 46
        · rw [if_pos q, if_pos q]; exact Or.inl ⟨rfl, rfl⟩
        · rw [if_neg q, if_neg q]
          simp only [okL, Bool.or_eq_true, decide_eq_true_eq] at hok
          obtain ⟨z, h1, h2, -⟩ := wiB_97 (hok.resolve_left q)
          exact Or.inr ⟨z, h1, h2, pk_us.trans h2⟩
      · rw [pk_un e]
        show (_ ∧ upd _ _ _ _ = _) ∨ ∃ z : Nat, z < 6 ∧ _ ∧ upd _ _ _ _ = _
        rw [pk_un e]
        exact ih.1 c hc
    · rw [pk_un (by omega), pk_un (by omega), pk_un (by omega)]
      exact ih.2 z hz
end STM
