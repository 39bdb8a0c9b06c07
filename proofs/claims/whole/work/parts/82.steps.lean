-- EACH CALL KEEPS IT; ANSWERS ARE ALIKE
theorem x_le {x : Int32} (h : wiB x 1 8 = true) : x.toNatClampNeg ≤ 8 := by
  obtain ⟨u, h1, h2, h3, h4⟩ := wiB_1 (M := 8) (by omega) h
  omega
theorem ty_row {BT : Nat → Int32} {v : Int64} {n : Nat} {x : Int32} : (if wiB x 1 8 then (if n + x.toNatClampNeg ≤ 400 then tyD BT v n x.toNatClampNeg x.toNatClampNeg else BT) else BT) = (if wiB x 1 8 then (if n + x.toNatClampNeg ≤ 400 then tyE BT v n x.toNatClampNeg x.toNatClampNeg else BT) else BT) := by
  by_cases h : wiB x 1 8 = true
  · rw [if_pos h, if_pos h]
    split
    · exact tyE_eq (x_le h) _ (Nat.le_refl _)
    · rfl
  · rw [if_neg h, if_neg h]
theorem ty_inv {BT : Nat → Int32} {v : Int64} {n : Nat} {x : Int32} (hB : okB BT) (hn : n ≤ 400) : iTx (if wiB x 1 8 then (if n + x.toNatClampNeg ≤ 400 then tyE BT v n x.toNatClampNeg x.toNatClampNeg else BT) else BT) (if wiB x 1 8 then (if n + x.toNatClampNeg ≤ 400 then n + x.toNatClampNeg else n) else n) := by
  refine ⟨?_, ?_⟩
  · split
    · split
      · exact tyE_B hB _
      · exact hB
    · exact hB
  · split
    · split
      · assumption
      · exact hn
    · exact hn
theorem lake_inv {v la : Int32} (h : ∃ l : Nat, l ≤ 6 ∧ la = nI l) : ∃ l : Nat, l ≤ 6 ∧ (if wiB v 0 6 then v else la) = nI l := by
  split
  · rename_i q
    obtain ⟨u, h1, h2, -⟩ := wiB_n (M := 6) (by omega) q
    exact ⟨u, h1, h2⟩
  · exact h
theorem sweep_inv {zo he go le : Nat → Int32} {la v : Int32} {l n : Nat} (hle : ok99 le) (hl : l ≤ 6) (hla : la = nI l) (hh : ok6k he) : ok6k (if wiB v 1 100 then swS (paS zo go le) la he n else he) := by
  split
  · exact sw_6k (fun p => by obtain ⟨v, q1, q2, -⟩ := pa_n (zo := zo) (go := go) hle p; exact ⟨v, q1, q2⟩) hl hla hh n
  · exact hh
section W0
variable {zo he go hd ki pl mo pr WK : Nat → Int32} {wx wz : Nat → Nat} {n : Nat}
theorem wal0 (hn : n ≤ 8) (hhd : ok99 hd) (h : okW n ki pl mo pr WK wx wz) (am : Int32) : walS (reG (isES zo go) (wtD zo he go ki pl 0 n) (hwD zo hd ki pl mo 0 n)) (buG (isES zo go) (wtD zo he go ki pl 0 n)) am 8 = walM (isES zo go) (mgT (isES zo go) (wtT zo he go (fun _ => 0)) (atZ zo hd) (fun _ => 0)) am 8 :=
  wal_eq (fun p hp => by rw [wt_eq hp h, dr0 hn]) (fun y x hy hx he => by rw [hw_ho h y x hy hx he, mo0 hn]) (hw_n hn hhd h) am 8 (Nat.le_refl 8)
theorem hm0 (hn : n ≤ 8) (hhd : ok99 hd) (h : okW n ki pl mo pr WK wx wz) : ∀ (sa : Nat) (wv : Nat → Nat), sa < 8 → (∀ j, sa ≤ j → j < 8 → wv j < 6 ∧ (isES zo go) (8 * wv j + j) = true) → (∀ j, sa ≤ j → j < 7 → wv (j + 1) ≤ wv j) → ¬ (mgT (isES zo go) (wtT zo he go (fun _ => 0)) (atZ zo hd) (fun _ => 0)) sa wv = -9 := fun sa wv hs h1 h2 =>
  mg9 (wt := wtD zo he go ki pl 0 n) (hw := hwD zo hd ki pl mo 0 n) (fun p hp => by rw [wt_eq hp h, dr0 hn]) (fun y x hy hx he => by rw [hw_ho h y x hy hx he, mo0 hn]) (hw_n hn hhd h) sa wv hs h1 h2
theorem hms (hn : n ≤ 8) (hhd : ok99 hd) (h : okW n ki pl mo pr WK wx wz) : ∀ sn : Nat, sn < 2 ^ n → ∀ (sa : Nat) (wv : Nat → Nat), sa < 8 → (∀ j, sa ≤ j → j < 8 → wv j < 6 ∧ (isES zo go) (8 * wv j + j) = true) → (∀ j, sa ≤ j → j < 7 → wv (j + 1) ≤ wv j) → ¬ (mgT (isES zo go) (wtT zo he go (drM WK wx wz (nI sn) n)) (atZ zo hd) (moM WK wx (nI sn) n)) sa wv = -9 := fun sn _ sa wv hs h1 h2 =>
  mg9 (wt := wtD zo he go ki pl (nI sn) n) (hw := hwD zo hd ki pl mo (nI sn) n) (fun p hp => wt_eq hp h) (hw_ho h) (hw_n hn hhd h) sa wv hs h1 h2
theorem cheap_eq (hn : n ≤ 8) (hhd : ok99 hd) (h : okW n ki pl mo pr WK wx wz) (v x : Int32) : (if wiB v 0 9999 && wiB x 0 1 then (if x = 0 then (chpS (okS zo he go hd ki pl mo n v) (fun st => sumS (priT pr st) n) (2 ^ n)).2 else (chpS (okS zo he go hd ki pl mo n v) (fun st => sumS (priT pr st) n) (2 ^ n)).1) else (-1)) = (if wiB v 0 9999 && wiB x 0 1 then (if (chpM (okM (isES zo go) (fun st => mgT (isES zo go) (wtT zo he go (drM WK wx wz st n)) (atZ zo hd) (moM WK wx st n)) v) (fun st => prM WK st n) (2 ^ n)).1 = -9 then (-9) else if x = 0 then (chpM (okM (isES zo go) (fun st => mgT (isES zo go) (wtT zo he go (drM WK wx wz st n)) (atZ zo hd) (moM WK wx st n)) v) (fun st => prM WK st n) (2 ^ n)).2 else (chpM (okM (isES zo go) (fun st => mgT (isES zo go) (wtT zo he go (drM WK wx wz st n)) (atZ zo hd) (moM WK wx st n)) v) (fun st => prM WK st n) (2 ^ n)).1) else (-1)) := by
  by_cases hc : (wiB v 0 9999 && wiB x 0 1) = true
  · rw [if_pos hc, if_pos hc]
    rw [Bool.and_eq_true] at hc
    obtain ⟨A, hA, eA, -⟩ := wiB_n (M := 9999) (by omega) hc.1
    have hq := chp_eq (ok := okS zo he go hd ki pl mo n v) (ok' := okM (isES zo go) (fun st => mgT (isES zo go) (wtT zo he go (drM WK wx wz st n)) (atZ zo hd) (moM WK wx st n)) v) (pri := fun st => sumS (priT pr st) n) (pri' := fun st => prM WK st n) (N := 2 ^ n) (pow8 n hn) (fun k hk => by
      rw [eA, okS]
      exact ok_eq (mg := fun st => mgT (isES zo go) (wtT zo he go (drM WK wx wz st n)) (atZ zo hd) (moM WK wx st n)) (st := nI k) rfl (fun p hp => wt_eq hp h) (hw_ho h) (hw_n hn hhd h) hA) (fun k hk => pri_eq h) (2 ^ n) (Nat.le_refl _)
    generalize chpS (okS zo he go hd ki pl mo n v) (fun st => sumS (priT pr st) n) (2 ^ n) = a at hq ⊢
    generalize chpM (okM (isES zo go) (fun st => mgT (isES zo go) (wtT zo he go (drM WK wx wz st n)) (atZ zo hd) (moM WK wx st n)) v) (fun st => prM WK st n) (2 ^ n) = b at hq ⊢
    obtain ⟨h1, h2, h3⟩ := hq
    rw [h1]
    by_cases e : a.1 = -9
    · rw [if_pos e, h2 e, e]
      split <;> rfl
    · rw [if_neg e, h3 e]
  · rw [if_neg hc, if_neg hc]
end W0
theorem pool_inv {se wa ho : Nat → Int32} {x v : Int32} (h : iRv se wa ho) : iRv (if wiB x 0 5 && wiB v 0 9999 then upd se x.toNatClampNeg v else se) wa ho := by
  refine ⟨?_, h.2⟩
  split
  · rename_i q
    rw [Bool.and_eq_true] at q
    obtain ⟨u, h1, h2, -⟩ := wiB_n (M := 9999) (by omega) q.2
    intro i hi
    by_cases e : i = x.toNatClampNeg
    · rw [e, pk_us]; exact ⟨u, h1, h2⟩
    · rw [pk_un e]; exact h.1 i hi
  · exact h.1
theorem flood_inv {se wa ho : Nat → Int32} {hN : Nat → Nat} {x v : Int32} (h : iRv se wa ho) (hho : ∀ j, ho j = nI (hN j)) (hle : ∀ j, hN j ≤ 12) : iRv se (if wiB x 0 7 && wiB v 0 999 then (if hN x.toNatClampNeg < 12 then upd wa (x.toNatClampNeg * 12 + hN x.toNatClampNeg) v else wa) else wa) (if wiB x 0 7 && wiB v 0 999 then (if hN x.toNatClampNeg < 12 then upd ho x.toNatClampNeg (nI (hN x.toNatClampNeg + 1)) else ho) else ho) := by
  refine ⟨h.1, ?_, ?_⟩
  · split
    · rename_i q
      rw [Bool.and_eq_true] at q
      obtain ⟨u, h1, h2, -⟩ := wiB_n (M := 999) (by omega) q.2
      split
      · intro i
        by_cases e : i = x.toNatClampNeg * 12 + hN x.toNatClampNeg
        · rw [e, pk_us]; exact ⟨u, h1, h2⟩
        · rw [pk_un e]; exact h.2.1 i
      · exact h.2.1
    · exact h.2.1
  · split
    · split
      · rename_i q
        refine ⟨fun j => if j = x.toNatClampNeg then hN x.toNatClampNeg + 1 else hN j, fun j => ?_, fun j => ?_⟩
        · dsimp only
          by_cases e : j = x.toNatClampNeg
          · rw [if_pos e, e, pk_us]
          · rw [if_neg e, pk_un e]; exact hho j
        · show (if j = x.toNatClampNeg then hN x.toNatClampNeg + 1 else hN j) ≤ 12
          split
          · omega
          · exact hle j
      · exact h.2.2
    · exact h.2.2
theorem ebb_inv {se wa ho : Nat → Int32} {x : Int32} (h : iRv se wa ho) : iRv se wa (if wiB x 0 7 then upd ho x.toNatClampNeg 0 else ho) := by
  refine ⟨h.1, h.2.1, ?_⟩
  split
  · obtain ⟨hN, h1, h2⟩ := h.2.2
    refine ⟨fun j => if j = x.toNatClampNeg then 0 else hN j, fun j => ?_, fun j => ?_⟩
    · dsimp only
      by_cases e : j = x.toNatClampNeg
      · rw [if_pos e, e, pk_us]; rfl
      · rw [if_neg e, pk_un e]; exact h1 j
    · show (if j = x.toNatClampNeg then 0 else hN j) ≤ 12
      split
      · omega
      · exact h2 j
  · exact h.2.2
section WA
variable {gp gr cz cl GA CA : Nat → Int32} {ng nc : Nat} {sl : Int32}
theorem gauge_inv {x y v : Int32} (h : iWa gp gr cz cl GA CA ng nc sl) : iWa (if inC x y && wiB v 0 9999 then (if ng < 8 then upd gp ng (nI (plc x y)) else gp) else gp) (if inC x y && wiB v 0 9999 then (if ng < 8 then upd gr ng v else gr) else gr) cz cl (if inC x y && wiB v 0 9999 then (if ng < 8 then upd (upd GA (2 * ng) (nI (plc x y))) (2 * ng + 1) v else GA) else GA) CA (if inC x y && wiB v 0 9999 then (if ng < 8 then ng + 1 else ng) else ng) nc sl := by
  by_cases hc : (inC x y && wiB v 0 9999) = true
  · simp only [if_pos hc]
    by_cases h8 : ng < 8
    · simp only [if_pos h8]
      rw [Bool.and_eq_true] at hc
      obtain ⟨xn, yn, hx, hy, -, -, hcx, hcy⟩ := inC_n hc.1
      obtain ⟨u, h1, h2, -⟩ := wiB_n (M := 9999) (by omega) hc.2
      obtain ⟨⟨gN, g1, g2⟩, g3, g4, g5, g6, g7, g8, g9⟩ := h
      have hp : plc x y = 8 * yn + xn := by rw [plc, hcx, hcy]
      refine ⟨⟨fun j => if j = ng then plc x y else gN j, fun j => ?_, fun j => ?_⟩, fun j => ?_, g4, by omega, g6, fun j hj => ?_, g8, g9⟩
      · dsimp only
        by_cases e : j = ng
        · rw [if_pos e, e, pk_us]
        · rw [if_neg e, pk_un e]; exact g1 j
      · show (if j = ng then plc x y else gN j) < 48
        split
        · omega
        · exact g2 j
      · by_cases e : j = ng
        · rw [e, pk_us]; exact ⟨u, h1, h2⟩
        · rw [pk_un e]; exact g3 j
      · by_cases e : j = ng
        · rw [e]
          exact ⟨by rw [pk_un (by omega), pk_us, pk_us], by rw [pk_us, pk_us]⟩
        · obtain ⟨q1, q2⟩ := g7 j (by omega)
          exact ⟨by rw [pk_un (by omega), pk_un (by omega), pk_un e, q1], by rw [pk_un (by omega), pk_un (by omega), pk_un e, q2]⟩
    · simp only [if_neg h8]; exact h
  · simp only [if_neg hc]; exact h
theorem cause_inv {z v : Int32} (h : iWa gp gr cz cl GA CA ng nc sl) : iWa gp gr (if wiB z 0 5 && wiB v 1 99 then (if nc < 8 then upd cz nc z else cz) else cz) (if wiB z 0 5 && wiB v 1 99 then (if nc < 8 then upd cl nc v else cl) else cl) GA (if wiB z 0 5 && wiB v 1 99 then (if nc < 8 then upd (upd CA (2 * nc) z) (2 * nc + 1) v else CA) else CA) ng (if wiB z 0 5 && wiB v 1 99 then (if nc < 8 then nc + 1 else nc) else nc) sl := by
  by_cases hc : (wiB z 0 5 && wiB v 1 99) = true
  · simp only [if_pos hc]
    by_cases h8 : nc < 8
    · simp only [if_pos h8]
      rw [Bool.and_eq_true] at hc
      obtain ⟨zn, z1, z2, -⟩ := wiB_n (M := 5) (by omega) hc.1
      obtain ⟨u, h1, h2, h3, -⟩ := wiB_1 (M := 99) (by omega) hc.2
      obtain ⟨g1, g2, ⟨zN, k1, k2⟩, g5, g6, g7, g8, g9⟩ := h
      refine ⟨g1, g2, ⟨fun j => if j = nc then zn else zN j, fun j => ?_, fun j => ?_⟩, g5, by omega, g7, fun j hj => ?_, g9⟩
      · dsimp only
        by_cases e : j = nc
        · rw [if_pos e, e, pk_us]; exact z2
        · rw [if_neg e, pk_un e]; exact k1 j
      · show (if j = nc then zn else zN j) < 6
        split
        · omega
        · exact k2 j
      · by_cases e : j = nc
        · rw [e]
          exact ⟨by rw [pk_un (by omega), pk_us, pk_us], by rw [pk_us, pk_us], u, h1, h2, by rw [pk_us]; exact h3⟩
        · obtain ⟨q1, q2, q3⟩ := g8 j (by omega)
          exact ⟨by rw [pk_un (by omega), pk_un (by omega), pk_un e, q1], by rw [pk_un (by omega), pk_un (by omega), pk_un e, q2], by rw [pk_un e]; exact q3⟩
    · simp only [if_neg h8]; exact h
  · simp only [if_neg hc]; exact h
theorem slack_inv {v : Int32} (h : iWa gp gr cz cl GA CA ng nc sl) : iWa gp gr cz cl GA CA ng nc (if wiB v 0 999 then v else sl) := by
  obtain ⟨g1, g2, g3, g4, g5, g6, g7, g8⟩ := h
  refine ⟨g1, g2, g3, g4, g5, g6, g7, ?_⟩
  split
  · rename_i q
    obtain ⟨u, h1, h2, -⟩ := wiB_n (M := 999) (by omega) q
    exact ⟨u, h1, h2⟩
  · exact g8
end WA
theorem work_inv {ki pl mo pr WK : Nat → Int32} {n : Nat} {kd x y mr pz : Int32} (h : iWo ki pl mo pr WK n) : iWo (if wkB kd x y mr pz then (if n < 8 then upd ki n kd else ki) else ki) (if wkB kd x y mr pz then (if n < 8 then upd pl n (nI (plc x y)) else pl) else pl) (if wkB kd x y mr pz then (if n < 8 then upd mo n mr else mo) else mo) (if wkB kd x y mr pz then (if n < 8 then upd pr n pz else pr) else pr) (if wkB kd x y mr pz then (if n < 8 then upd (upd (upd (upd (upd WK (5 * n) kd) (5 * n + 1) x) (5 * n + 2) y) (5 * n + 3) mr) (5 * n + 4) pz else WK) else WK) (if wkB kd x y mr pz then (if n < 8 then n + 1 else n) else n) := by
  by_cases hc : wkB kd x y mr pz = true
  · simp only [if_pos hc]
    by_cases h8 : n < 8
    · simp only [if_pos h8]
      obtain ⟨h1, wx, wz, hW⟩ := h
      simp only [wkB, Bool.and_eq_true] at hc
      obtain ⟨xn, yn, hx, hy, ex, ey, hcx, hcy⟩ := inC_n hc.1.2.1
      have hp : plc x y = 8 * yn + xn := by rw [plc, hcx, hcy]
      refine ⟨by omega, fun j => if j = n then xn else wx j, fun j => if j = n then yn else wz j, fun j hj => ?_⟩
      by_cases e : j = n
      · subst e
        have hk := wiB_01 hc.1.1
        have h2 := hc.2
        simp only [if_pos]
        refine ⟨by rw [pk_us]; exact hk, by rw [pk_us, hp], hx, hy, fun q => ?_, ?_, ?_, ?_, ?_, ?_, ?_⟩
        · rw [pk_us] at q
          rw [if_pos q, Bool.and_eq_true, decide_eq_true_eq] at h2
          rw [ey] at h2
          exact (nI_eq (a := yn) (b := 0) (by omega) (by omega)).mp h2.1
        · rw [pk_us]
          by_cases q : kd = 0
          · rw [if_pos q, Bool.and_eq_true] at h2
            obtain ⟨u, u1, u2, u3, -⟩ := wiB_1 (M := 99) (by omega) h2.2
            exact ⟨u, u2, u3⟩
          · rw [if_neg q, decide_eq_true_eq] at h2
            exact ⟨0, by omega, h2⟩
        · rw [pk_un (by omega), pk_un (by omega), pk_un (by omega), pk_un (by omega), pk_us, pk_us]
        · rw [pk_un (by omega), pk_un (by omega), pk_un (by omega), pk_us, ex]
        · rw [pk_un (by omega), pk_un (by omega), pk_us, ey]
        · rw [pk_un (by omega), pk_us, pk_us]
        · rw [pk_us, pk_us]
      · have hj' : j < n := by omega
        simp only [if_neg e]
        obtain ⟨q1, q2, q3, q4, q5, q6, q7, q8, q9, q10, q11⟩ := hW j hj'
        exact ⟨by rw [pk_un e]; exact q1, by rw [pk_un e]; exact q2, q3, q4, by rw [pk_un e]; exact q5, by rw [pk_un e]; exact q6, by rw [pk_un (by omega), pk_un (by omega), pk_un (by omega), pk_un (by omega), pk_un (by omega), pk_un e]; exact q7, by rw [pk_un (by omega), pk_un (by omega), pk_un (by omega), pk_un (by omega), pk_un (by omega)]; exact q8, by rw [pk_un (by omega), pk_un (by omega), pk_un (by omega), pk_un (by omega), pk_un (by omega)]; exact q9, by rw [pk_un (by omega), pk_un (by omega), pk_un (by omega), pk_un (by omega), pk_un (by omega), pk_un e]; exact q10, by rw [pk_un (by omega), pk_un (by omega), pk_un (by omega), pk_un (by omega), pk_un (by omega), pk_un e]; exact q11⟩
    · simp only [if_neg h8]; exact h
  · simp only [if_neg hc]; exact h
