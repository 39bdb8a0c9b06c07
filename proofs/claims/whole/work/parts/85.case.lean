set_option maxHeartbeats 4000000 in
set_option maxRecDepth 100000 in
theorem L_dam {p : Program} {l : Launch} {e : Env} {s : State} {m : MethodId} {below : List Frame} {meth : Method} {c : Code} {b L : Nat} {xs : Nat → Int32} {G : va_G} {E : EvT} {cI cZ : ClassId} {ad am : Nat → Nat} {Q : State → Prop} (hx : p.tables.exec = Jvm.exec) (hb : c.code = code) (hml : c.maxLocals = 4) (hown : s.vm.findClass RL = some m.cls) (hts : ∀ w ∈ wAll, w.before #[Value.ref b] s = true) (hX : va_X b L xs s s.heap) (hbl : b < s.heap.size) (hE : Ev E s) (hE1 : E.1 = s.heap.size) (hK : va_K G vwCl [(cI, .int), (cZ, .boolean)] s) (hL : L ≤ 3072) {i : Nat} (hi : i + 6 ≤ L) (R : Nat → Nat → Int32) (V : Nat → Int32) (U : Nat → Nat) (tr : Int64) (sc : Nat → Nat → Int32) (sv : Nat → Int32) (sb : Bool) (tc : Nat → Nat → Int32) (tv : Nat → Int32) (hI : Inv R V U) {H : Heap} {locs : List Loc} (hP : va_P G vwCl (wX cI cZ ad R V U tr sc sv sb ++ wM cI cZ am R V U tr tc tv) H) (hD : va_D (fun q : Nat => s.heap.size ≤ q) (wX cI cZ ad R V U tr sc sv sb ++ wM cI cZ am R V U tr tc tv)) (hS : va_S (fun q : Nat => s.heap.size ≤ q) s.heap H locs) {ls : Array Slot} (hl : lv_has ls 4 [(0, .ref b), (1, .ref (ad 0)), (2, .ref (am 0)), (3, .int (nI i))]) (kk : ∀ (R : Nat → Nat → Int32) (V : Nat → Int32) (U : Nat → Nat) (tr : Int64) (sc : Nat → Nat → Int32) (sv : Nat → Int32) (sb : Bool) (tc : Nat → Nat → Int32) (tv : Nat → Int32), Inv R V U → ∀ (H : Heap) (locs : List Loc), va_P G vwCl (wX cI cZ ad R V U tr sc sv sb ++ wM cI cZ am R V U tr tc tv) H → va_D (fun q : Nat => s.heap.size ≤ q) (wX cI cZ ad R V U tr sc sv sb ++ wM cI cZ am R V U tr tc tv) → va_S (fun q : Nat => s.heap.size ≤ q) s.heap H locs → W p l e room_1 s m #[Value.ref b] below meth c H locs 81 3416 Q (F0 m 1043 ls [])) : W p l e room_1 s m #[Value.ref b] below meth c H locs 81 3416 Q (F0 m 252 ls []) := by
  rcases dam_all (BT := R 19) (n := U 0) hI.2.2.2.1.2 hI.2.2.2.1.1 (sv 4) (tv 4) with ⟨h1, h2, h3⟩ | ⟨h1, h2, h3⟩
  · skip
    have hA : ∀ q : Nat, s.heap.size ≤ q → (fun q : Nat => s.heap.size ≤ q) q := fun _ h => h
    have hbA : ¬ (fun q : Nat => s.heap.size ≤ q) b := Nat.not_le.mpr hbl
    have hlow : ∀ q : Nat, (fun q : Nat => s.heap.size ≤ q) q → E.1 ≤ q := fun _ h => by rw [hE1]; exact h
    obtain ⟨⟨i01, i6k, ile, ihd, ign, l9, hl6, hla⟩, hi1, hi2, ⟨hTB, hTn⟩, ⟨hse, hwa, hN, hho, hle⟩, ⟨⟨gN, hgp, hgl⟩, hgr, ⟨zN, hcz, hzl⟩, hng, hnc, hGA, hCA, s9, hs9, hsl⟩, ⟨hnw, wx, wz, hW⟩, hm0_, hm1_⟩ := id hI
    refine lv_aload_n hx hb dL_law_252 rfl (lv_at hl 1 rfl) ?_
    have hXc := bX_dam l G E cI cZ ad R V U tr sc sv sb (hTn)
    simp only [if_pos h1] at hXc
    refine lawLi (As := []) (rest := []) hx hb hml hown hts hXc k_8_13 cal_X6_dam ⟨(Nat.le_of_ble_eq_true rfl), (Nat.le_of_ble_eq_true rfl)⟩ hE hA hlow hD hS hK hP (fun u => (wX_fst _ _ _ _ _ _ _ _ _ _).trans (wX_fst _ _ _ _ _ _ _ _ _ _).symm) 0 6 rfl rfl rfl hl.1 rfl (Nat.le_of_ble_eq_true rfl) dL_law_253 ⟨(Nat.le_of_ble_eq_true rfl), (Nat.le_of_ble_eq_true rfl)⟩ (fun r1 u1 H locs hr1 hP hD hS => ?_)
    subst hr1
    obtain ⟨sc1, sv1, sb1⟩ := u1
    have hP : va_P G vwCl (wX cI cZ ad (upr (upr (upr (upr (upr (upr R 0 (riF (R 19) (U 0) 20 0 (sv 4) ((fun _ => (-1)), (fun _ => 10), (fun _ => 10), (fun _ => 10))).2.1) 1 (fun _ => 0)) 2 (fun _ => 0)) 3 (riF (R 19) (U 0) 20 0 (sv 4) ((fun _ => (-1)), (fun _ => 10), (fun _ => 10), (fun _ => 10))).2.2.1) 4 (riF (R 19) (U 0) 20 0 (sv 4) ((fun _ => (-1)), (fun _ => 10), (fun _ => 10), (fun _ => 10))).2.2.2.1) 5 (riF (R 19) (U 0) 20 0 (sv 4) ((fun _ => (-1)), (fun _ => 10), (fun _ => 10), (fun _ => 10))).2.2.2.2) V (upu U 0 0) tr sc1 sv1 sb1 ++ wM cI cZ am R V U tr tc tv) H := hP
    have hD : va_D (fun q : Nat => s.heap.size ≤ q) (wX cI cZ ad (upr (upr (upr (upr (upr (upr R 0 (riF (R 19) (U 0) 20 0 (sv 4) ((fun _ => (-1)), (fun _ => 10), (fun _ => 10), (fun _ => 10))).2.1) 1 (fun _ => 0)) 2 (fun _ => 0)) 3 (riF (R 19) (U 0) 20 0 (sv 4) ((fun _ => (-1)), (fun _ => 10), (fun _ => 10), (fun _ => 10))).2.2.1) 4 (riF (R 19) (U 0) 20 0 (sv 4) ((fun _ => (-1)), (fun _ => 10), (fun _ => 10), (fun _ => 10))).2.2.2.1) 5 (riF (R 19) (U 0) 20 0 (sv 4) ((fun _ => (-1)), (fun _ => 10), (fun _ => 10), (fun _ => 10))).2.2.2.2) V (upu U 0 0) tr sc1 sv1 sb1 ++ wM cI cZ am R V U tr tc tv) := hD
    refine lv_aload_n hx hb dL_law_256 rfl (lv_at hl 2 rfl) ?_
    have hM := bM_dam l G E cI cZ am R V U tr tc tv (hTn)
    simp only [if_neg h2] at hM
    refine lawRi (As := []) (rest := [.int (cntS (isES (riF (R 19) (U 0) 20 0 (sv 4) ((fun _ => (-1)), (fun _ => 10), (fun _ => 10), (fun _ => 10))).2.1 (fun _ => 0)) 48)]) hx hb hml hown hts hM k_14_1 cal_X7_dam ⟨(Nat.le_of_ble_eq_true rfl), (Nat.le_of_ble_eq_true rfl)⟩ hE hA hlow hD hS hK hP (fun u => (wM_fst _ _ _ _ _ _ _ _ _ _).trans (wM_fst _ _ _ _ _ _ _ _ _ _).symm) 0 7 rfl rfl rfl hl.1 rfl (Nat.le_of_ble_eq_true rfl) dL_law_257 ⟨(Nat.le_of_ble_eq_true rfl), (Nat.le_of_ble_eq_true rfl)⟩ (fun r2 u2 H locs hr2 hP hD hS => ?_)
    subst hr2
    obtain ⟨tc1, tv1⟩ := u2
    have hP : va_P G vwCl (wX cI cZ ad (upr (upr (upr (upr (upr (upr R 0 (riF (R 19) (U 0) 20 0 (sv 4) ((fun _ => (-1)), (fun _ => 10), (fun _ => 10), (fun _ => 10))).2.1) 1 (fun _ => 0)) 2 (fun _ => 0)) 3 (riF (R 19) (U 0) 20 0 (sv 4) ((fun _ => (-1)), (fun _ => 10), (fun _ => 10), (fun _ => 10))).2.2.1) 4 (riF (R 19) (U 0) 20 0 (sv 4) ((fun _ => (-1)), (fun _ => 10), (fun _ => 10), (fun _ => 10))).2.2.2.1) 5 (riF (R 19) (U 0) 20 0 (sv 4) ((fun _ => (-1)), (fun _ => 10), (fun _ => 10), (fun _ => 10))).2.2.2.2) V (upu U 0 0) tr sc1 sv1 sb1 ++ wM cI cZ am (upr (upr (upr (upr (upr (upr R 0 (riF (R 19) (U 0) 20 0 (sv 4) ((fun _ => (-1)), (fun _ => 10), (fun _ => 10), (fun _ => 10))).2.1) 1 (fun _ => 0)) 2 (fun _ => 0)) 3 (riF (R 19) (U 0) 20 0 (sv 4) ((fun _ => (-1)), (fun _ => 10), (fun _ => 10), (fun _ => 10))).2.2.1) 4 (riF (R 19) (U 0) 20 0 (sv 4) ((fun _ => (-1)), (fun _ => 10), (fun _ => 10), (fun _ => 10))).2.2.2.1) 5 (riF (R 19) (U 0) 20 0 (sv 4) ((fun _ => (-1)), (fun _ => 10), (fun _ => 10), (fun _ => 10))).2.2.2.2) V (upu U 0 0) tr tc1 tv1) H := (P_l hP).app (wM_swap (ms_congr (fun q hq => dz_eq h3 hq) (fun _ _ => rfl) (fun _ _ => rfl) (fun z hz => (h3.2 z hz).1) (fun z hz => (h3.2 z hz).2.1) (fun z hz => (h3.2 z hz).2.2)) (P_r hP))
    have hD : va_D (fun q : Nat => s.heap.size ≤ q) (wX cI cZ ad (upr (upr (upr (upr (upr (upr R 0 (riF (R 19) (U 0) 20 0 (sv 4) ((fun _ => (-1)), (fun _ => 10), (fun _ => 10), (fun _ => 10))).2.1) 1 (fun _ => 0)) 2 (fun _ => 0)) 3 (riF (R 19) (U 0) 20 0 (sv 4) ((fun _ => (-1)), (fun _ => 10), (fun _ => 10), (fun _ => 10))).2.2.1) 4 (riF (R 19) (U 0) 20 0 (sv 4) ((fun _ => (-1)), (fun _ => 10), (fun _ => 10), (fun _ => 10))).2.2.2.1) 5 (riF (R 19) (U 0) 20 0 (sv 4) ((fun _ => (-1)), (fun _ => 10), (fun _ => 10), (fun _ => 10))).2.2.2.2) V (upu U 0 0) tr sc1 sv1 sb1 ++ wM cI cZ am (upr (upr (upr (upr (upr (upr R 0 (riF (R 19) (U 0) 20 0 (sv 4) ((fun _ => (-1)), (fun _ => 10), (fun _ => 10), (fun _ => 10))).2.1) 1 (fun _ => 0)) 2 (fun _ => 0)) 3 (riF (R 19) (U 0) 20 0 (sv 4) ((fun _ => (-1)), (fun _ => 10), (fun _ => 10), (fun _ => 10))).2.2.1) 4 (riF (R 19) (U 0) 20 0 (sv 4) ((fun _ => (-1)), (fun _ => 10), (fun _ => 10), (fun _ => 10))).2.2.2.1) 5 (riF (R 19) (U 0) 20 0 (sv 4) ((fun _ => (-1)), (fun _ => 10), (fun _ => 10), (fun _ => 10))).2.2.2.2) V (upu U 0 0) tr tc1 tv1) := D_law hD
    refine lv_icmp_eq (tgt := 1043) hx hb dL_law_260 (by decide) (fun c1 => ?_) (fun c1 => ?_)
    · exact kk (upr (upr (upr (upr (upr (upr R 0 (riF (R 19) (U 0) 20 0 (sv 4) ((fun _ => (-1)), (fun _ => 10), (fun _ => 10), (fun _ => 10))).2.1) 1 (fun _ => 0)) 2 (fun _ => 0)) 3 (riF (R 19) (U 0) 20 0 (sv 4) ((fun _ => (-1)), (fun _ => 10), (fun _ => 10), (fun _ => 10))).2.2.1) 4 (riF (R 19) (U 0) 20 0 (sv 4) ((fun _ => (-1)), (fun _ => 10), (fun _ => 10), (fun _ => 10))).2.2.2.1) 5 (riF (R 19) (U 0) 20 0 (sv 4) ((fun _ => (-1)), (fun _ => 10), (fun _ => 10), (fun _ => 10))).2.2.2.2) V (upu U 0 0) tr sc1 sv1 sb1 tc1 tv1 (⟨⟨z_01 _, z_6k, (ri_99 (BT := R 19) (n := U 0) 20 0 (sv 4) ((fun _ => (-1)), (fun _ => 10), (fun _ => 10), (fun _ => 10)) ⟨ten_99, ten_99, ten_99⟩).1, (ri_99 (BT := R 19) (n := U 0) 20 0 (sv 4) ((fun _ => (-1)), (fun _ => 10), (fun _ => 10), (fun _ => 10)) ⟨ten_99, ten_99, ten_99⟩).2.1, (ri_99 (BT := R 19) (n := U 0) 20 0 (sv 4) ((fun _ => (-1)), (fun _ => 10), (fun _ => 10), (fun _ => 10)) ⟨ten_99, ten_99, ten_99⟩).2.2, l9, hl6, hla⟩, hI.2.1, hI.2.2.1, ⟨hTB, Nat.zero_le _⟩, hI.2.2.2.2⟩) H locs hP hD hS
    · exact absurd (cnt_congr (fun q hq => by rw [isES, isES, isAirS, isAirS, dz_eq h3 hq])) c1
  · skip
    have hA : ∀ q : Nat, s.heap.size ≤ q → (fun q : Nat => s.heap.size ≤ q) q := fun _ h => h
    have hbA : ¬ (fun q : Nat => s.heap.size ≤ q) b := Nat.not_le.mpr hbl
    have hlow : ∀ q : Nat, (fun q : Nat => s.heap.size ≤ q) q → E.1 ≤ q := fun _ h => by rw [hE1]; exact h
    obtain ⟨⟨i01, i6k, ile, ihd, ign, l9, hl6, hla⟩, hi1, hi2, ⟨hTB, hTn⟩, ⟨hse, hwa, hN, hho, hle⟩, ⟨⟨gN, hgp, hgl⟩, hgr, ⟨zN, hcz, hzl⟩, hng, hnc, hGA, hCA, s9, hs9, hsl⟩, ⟨hnw, wx, wz, hW⟩, hm0_, hm1_⟩ := id hI
    refine lv_aload_n hx hb dL_law_252 rfl (lv_at hl 1 rfl) ?_
    have hXc := bX_dam l G E cI cZ ad R V U tr sc sv sb (hTn)
    simp only [if_neg h1] at hXc
    refine lawLi (As := []) (rest := []) hx hb hml hown hts hXc k_8_13 cal_X6_dam ⟨(Nat.le_of_ble_eq_true rfl), (Nat.le_of_ble_eq_true rfl)⟩ hE hA hlow hD hS hK hP (fun u => (wX_fst _ _ _ _ _ _ _ _ _ _).trans (wX_fst _ _ _ _ _ _ _ _ _ _).symm) 0 6 rfl rfl rfl hl.1 rfl (Nat.le_of_ble_eq_true rfl) dL_law_253 ⟨(Nat.le_of_ble_eq_true rfl), (Nat.le_of_ble_eq_true rfl)⟩ (fun r1 u1 H locs hr1 hP hD hS => ?_)
    subst hr1
    obtain ⟨sc1, sv1, sb1⟩ := u1
    have hP : va_P G vwCl (wX cI cZ ad (upr (upr (upr (upr (upr (upr R 0 (R 0)) 1 (R 1)) 2 (R 2)) 3 (R 3)) 4 (R 4)) 5 (R 5)) V (upu U 0 (U 0)) tr sc1 sv1 sb1 ++ wM cI cZ am R V U tr tc tv) H := hP
    have hD : va_D (fun q : Nat => s.heap.size ≤ q) (wX cI cZ ad (upr (upr (upr (upr (upr (upr R 0 (R 0)) 1 (R 1)) 2 (R 2)) 3 (R 3)) 4 (R 4)) 5 (R 5)) V (upu U 0 (U 0)) tr sc1 sv1 sb1 ++ wM cI cZ am R V U tr tc tv) := hD
    refine lv_aload_n hx hb dL_law_256 rfl (lv_at hl 2 rfl) ?_
    have hM := bM_dam l G E cI cZ am R V U tr tc tv (hTn)
    simp only [if_pos h2] at hM
    refine lawRi (As := []) (rest := [.int ((-10) - (riF (R 19) (U 0) 20 0 (sv 4) ((fun _ => (-1)), (fun _ => 10), (fun _ => 10), (fun _ => 10))).1)]) hx hb hml hown hts hM k_14_1 cal_X7_dam ⟨(Nat.le_of_ble_eq_true rfl), (Nat.le_of_ble_eq_true rfl)⟩ hE hA hlow hD hS hK hP (fun u => (wM_fst _ _ _ _ _ _ _ _ _ _).trans (wM_fst _ _ _ _ _ _ _ _ _ _).symm) 0 7 rfl rfl rfl hl.1 rfl (Nat.le_of_ble_eq_true rfl) dL_law_257 ⟨(Nat.le_of_ble_eq_true rfl), (Nat.le_of_ble_eq_true rfl)⟩ (fun r2 u2 H locs hr2 hP hD hS => ?_)
    subst hr2
    obtain ⟨tc1, tv1⟩ := u2
    have hP : va_P G vwCl (wX cI cZ ad (upr (upr (upr (upr (upr (upr R 0 (R 0)) 1 (R 1)) 2 (R 2)) 3 (R 3)) 4 (R 4)) 5 (R 5)) V (upu U 0 (U 0)) tr sc1 sv1 sb1 ++ wM cI cZ am (upr (upr (upr (upr (upr (upr R 0 (R 0)) 1 (R 1)) 2 (R 2)) 3 (R 3)) 4 (R 4)) 5 (R 5)) V (upu U 0 (U 0)) tr tc1 tv1) H := hP
    have hD : va_D (fun q : Nat => s.heap.size ≤ q) (wX cI cZ ad (upr (upr (upr (upr (upr (upr R 0 (R 0)) 1 (R 1)) 2 (R 2)) 3 (R 3)) 4 (R 4)) 5 (R 5)) V (upu U 0 (U 0)) tr sc1 sv1 sb1 ++ wM cI cZ am (upr (upr (upr (upr (upr (upr R 0 (R 0)) 1 (R 1)) 2 (R 2)) 3 (R 3)) 4 (R 4)) 5 (R 5)) V (upu U 0 (U 0)) tr tc1 tv1) := D_law hD
    refine lv_icmp_eq (tgt := 1043) hx hb dL_law_260 (by decide) (fun c1 => ?_) (fun c1 => ?_)
    · exact kk (upr (upr (upr (upr (upr (upr R 0 (R 0)) 1 (R 1)) 2 (R 2)) 3 (R 3)) 4 (R 4)) 5 (R 5)) V (upu U 0 (U 0)) tr sc1 sv1 sb1 tc1 tv1 (hI) H locs hP hD hS
    · exact absurd (by rw [h3]) c1
/-- lcmp of two like longs -/
theorem lcmp_same {p : Program} {l : Launch} {e : Env} {R : Room} {s : State} {m : MethodId} {args : Array Value} {below : List Frame} {meth : Method} {c : Code} {H : Heap} {locs : List Loc} {cells slots : Nat} {Q : State → Prop} {cc : ByteArray} {pc : Nat} {ls : Array Slot} {rest : List Value} (hexec : p.tables.exec = Jvm.exec) (hb : c.code = cc) {x : Int64} (hdg : decode cc pc = .ok (.lcmp, 1)) (k : W p l e R s m args below meth c H locs cells slots Q (F0 m (pc + 1) ls (.int 0 :: rest))) : W p l e R s m args below meth c H locs cells slots Q (F0 m pc ls (.long x :: .long x :: rest)) := by
  intro T hT X
  obtain ⟨t, a, b⟩ := k T hT X
  refine ⟨t, ?_, b⟩
  have h1 : ¬ x > x := fun h => Int64.lt_irrefl h
  jvm_step X.here [X.here.top, hexec, hb, hdg, h1]
  exact a
set_option maxHeartbeats 4000000 in
set_option maxRecDepth 100000 in
theorem L_trace {p : Program} {l : Launch} {e : Env} {s : State} {m : MethodId} {below : List Frame} {meth : Method} {c : Code} {b L : Nat} {xs : Nat → Int32} {G : va_G} {E : EvT} {cI cZ : ClassId} {ad am : Nat → Nat} {Q : State → Prop} (hx : p.tables.exec = Jvm.exec) (hb : c.code = code) (hml : c.maxLocals = 4) (hown : s.vm.findClass RL = some m.cls) (hts : ∀ w ∈ wAll, w.before #[Value.ref b] s = true) (hX : va_X b L xs s s.heap) (hbl : b < s.heap.size) (hE : Ev E s) (hE1 : E.1 = s.heap.size) (hK : va_K G vwCl [(cI, .int), (cZ, .boolean)] s) (hL : L ≤ 3072) {i : Nat} (hi : i + 6 ≤ L) (R : Nat → Nat → Int32) (V : Nat → Int32) (U : Nat → Nat) (tr : Int64) (sc : Nat → Nat → Int32) (sv : Nat → Int32) (sb : Bool) (tc : Nat → Nat → Int32) (tv : Nat → Int32) (hI : Inv R V U) {H : Heap} {locs : List Loc} (hP : va_P G vwCl (wX cI cZ ad R V U tr sc sv sb ++ wM cI cZ am R V U tr tc tv) H) (hD : va_D (fun q : Nat => s.heap.size ≤ q) (wX cI cZ ad R V U tr sc sv sb ++ wM cI cZ am R V U tr tc tv)) (hS : va_S (fun q : Nat => s.heap.size ≤ q) s.heap H locs) {ls : Array Slot} (hl : lv_has ls 4 [(0, .ref b), (1, .ref (ad 0)), (2, .ref (am 0)), (3, .int (nI i))]) (kk : ∀ (R : Nat → Nat → Int32) (V : Nat → Int32) (U : Nat → Nat) (tr : Int64) (sc : Nat → Nat → Int32) (sv : Nat → Int32) (sb : Bool) (tc : Nat → Nat → Int32) (tv : Nat → Int32), Inv R V U → ∀ (H : Heap) (locs : List Loc), va_P G vwCl (wX cI cZ ad R V U tr sc sv sb ++ wM cI cZ am R V U tr tc tv) H → va_D (fun q : Nat => s.heap.size ≤ q) (wX cI cZ ad R V U tr sc sv sb ++ wM cI cZ am R V U tr tc tv) → va_S (fun q : Nat => s.heap.size ≤ q) s.heap H locs → W p l e room_1 s m #[Value.ref b] below meth c H locs 81 3416 Q (F0 m 1043 ls [])) : W p l e room_1 s m #[Value.ref b] below meth c H locs 81 3416 Q (F0 m 1029 ls []) := by
  have hA : ∀ q : Nat, s.heap.size ≤ q → (fun q : Nat => s.heap.size ≤ q) q := fun _ h => h
  have hbA : ¬ (fun q : Nat => s.heap.size ≤ q) b := Nat.not_le.mpr hbl
  have hlow : ∀ q : Nat, (fun q : Nat => s.heap.size ≤ q) q → E.1 ≤ q := fun _ h => by rw [hE1]; exact h
  obtain ⟨⟨i01, i6k, ile, ihd, ign, l9, hl6, hla⟩, hi1, hi2, ⟨hTB, hTn⟩, ⟨hse, hwa, hN, hho, hle⟩, ⟨⟨gN, hgp, hgl⟩, hgr, ⟨zN, hcz, hzl⟩, hng, hnc, hGA, hCA, s9, hs9, hsl⟩, ⟨hnw, wx, wz, hW⟩, hm0_, hm1_⟩ := id hI
  refine lv_aload_n hx hb dL_law_1029 rfl (lv_at hl 1 rfl) ?_
  have hXc := bX_trace l G E cI cZ ad R V U tr sc sv sb 
  refine lawLl (As := []) (rest := []) hx hb hml hown hts hXc k_42_1 cal_X6_trace ⟨(Nat.le_of_ble_eq_true rfl), (Nat.le_of_ble_eq_true rfl)⟩ hE hA hlow hD hS hK hP (fun u => (wX_fst _ _ _ _ _ _ _ _ _ _).trans (wX_fst _ _ _ _ _ _ _ _ _ _).symm) 0 6 rfl rfl rfl hl.1 rfl (Nat.le_of_ble_eq_true rfl) dL_law_1030 ⟨(Nat.le_of_ble_eq_true rfl), (Nat.le_of_ble_eq_true rfl)⟩ (fun r1 u1 H locs hr1 hP hD hS => ?_)
  refine topl_eq hr1 ?_
  obtain ⟨sc1, sv1, sb1⟩ := u1
  have hP : va_P G vwCl (wX cI cZ ad R V U tr sc1 sv1 sb1 ++ wM cI cZ am R V U tr tc tv) H := hP
  have hD : va_D (fun q : Nat => s.heap.size ≤ q) (wX cI cZ ad R V U tr sc1 sv1 sb1 ++ wM cI cZ am R V U tr tc tv) := hD
  refine lv_aload_n hx hb dL_law_1033 rfl (lv_at hl 2 rfl) ?_
  have hM := bM_trace l G E cI cZ am R V U tr tc tv 
  refine lawRl (As := []) (rest := [.long tr]) hx hb hml hown hts hM k_42_5 cal_X7_trace ⟨(Nat.le_of_ble_eq_true rfl), (Nat.le_of_ble_eq_true rfl)⟩ hE hA hlow hD hS hK hP (fun u => (wM_fst _ _ _ _ _ _ _ _ _ _).trans (wM_fst _ _ _ _ _ _ _ _ _ _).symm) 0 7 rfl rfl rfl hl.1 rfl (Nat.le_of_ble_eq_true rfl) dL_law_1034 ⟨(Nat.le_of_ble_eq_true rfl), (Nat.le_of_ble_eq_true rfl)⟩ (fun r2 u2 H locs hr2 hP hD hS => ?_)
  refine topl_eq hr2 ?_
  obtain ⟨tc1, tv1⟩ := u2
  have hP : va_P G vwCl (wX cI cZ ad R V U tr sc1 sv1 sb1 ++ wM cI cZ am R V U tr tc1 tv1) H := hP
  have hD : va_D (fun q : Nat => s.heap.size ≤ q) (wX cI cZ ad R V U tr sc1 sv1 sb1 ++ wM cI cZ am R V U tr tc1 tv1) := D_law hD
  refine lcmp_same hx hb dL_law_1037 ?_
  refine lv_if_eq (tgt := 1043) hx hb dL_law_1038 (by decide) (fun c1 => ?_) (fun c1 => ?_)
  · exact kk R V U tr sc1 sv1 sb1 tc1 tv1 (hI) H locs hP hD hS
  · exact absurd rfl c1
