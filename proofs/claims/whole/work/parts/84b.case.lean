set_option maxHeartbeats 4000000 in
set_option maxRecDepth 100000 in
theorem L_ways {p : Program} {l : Launch} {e : Env} {s : State} {m : MethodId} {below : List Frame} {meth : Method} {c : Code} {b L : Nat} {xs : Nat → Int32} {G : va_G} {E : EvT} {cI cZ : ClassId} {ad am : Nat → Nat} {Q : State → Prop} (hx : p.tables.exec = Jvm.exec) (hb : c.code = code) (hml : c.maxLocals = 4) (hown : s.vm.findClass RL = some m.cls) (hts : ∀ w ∈ wAll, w.before #[Value.ref b] s = true) (hX : va_X b L xs s s.heap) (hbl : b < s.heap.size) (hE : Ev E s) (hE1 : E.1 = s.heap.size) (hK : va_K G vwCl [(cI, .int), (cZ, .boolean)] s) (hL : L ≤ 3072) {i : Nat} (hi : i + 6 ≤ L) (R : Nat → Nat → Int32) (V : Nat → Int32) (U : Nat → Nat) (tr : Int64) (sc : Nat → Nat → Int32) (sv : Nat → Int32) (sb : Bool) (tc : Nat → Nat → Int32) (tv : Nat → Int32) (hI : Inv R V U) {H : Heap} {locs : List Loc} (hP : va_P G vwCl (wX cI cZ ad R V U tr sc sv sb ++ wM cI cZ am R V U tr tc tv) H) (hD : va_D (fun q : Nat => s.heap.size ≤ q) (wX cI cZ ad R V U tr sc sv sb ++ wM cI cZ am R V U tr tc tv)) (hS : va_S (fun q : Nat => s.heap.size ≤ q) s.heap H locs) {ls : Array Slot} (hl : lv_has ls 4 [(0, .ref b), (1, .ref (ad 0)), (2, .ref (am 0)), (3, .int (nI i))]) (kk : ∀ (R : Nat → Nat → Int32) (V : Nat → Int32) (U : Nat → Nat) (tr : Int64) (sc : Nat → Nat → Int32) (sv : Nat → Int32) (sb : Bool) (tc : Nat → Nat → Int32) (tv : Nat → Int32), Inv R V U → ∀ (H : Heap) (locs : List Loc), va_P G vwCl (wX cI cZ ad R V U tr sc sv sb ++ wM cI cZ am R V U tr tc tv) H → va_D (fun q : Nat => s.heap.size ≤ q) (wX cI cZ ad R V U tr sc sv sb ++ wM cI cZ am R V U tr tc tv) → va_S (fun q : Nat => s.heap.size ≤ q) s.heap H locs → W p l e room_1 s m #[Value.ref b] below meth c H locs 81 3416 Q (F0 m 1043 ls [])) : W p l e room_1 s m #[Value.ref b] below meth c H locs 81 3416 Q (F0 m 489 ls []) := by
  have hA : ∀ q : Nat, s.heap.size ≤ q → (fun q : Nat => s.heap.size ≤ q) q := fun _ h => h
  have hbA : ¬ (fun q : Nat => s.heap.size ≤ q) b := Nat.not_le.mpr hbl
  have hlow : ∀ q : Nat, (fun q : Nat => s.heap.size ≤ q) q → E.1 ≤ q := fun _ h => by rw [hE1]; exact h
  obtain ⟨⟨i01, i6k, ile, ihd, ign, l9, hl6, hla⟩, hi1, hi2, ⟨hTB, hTn⟩, ⟨hse, hwa, hN, hho, hle⟩, ⟨⟨gN, hgp, hgl⟩, hgr, ⟨zN, hcz, hzl⟩, hng, hnc, hGA, hCA, s9, hs9, hsl⟩, ⟨hnw, wx, wz, hW⟩, hm0_, hm1_⟩ := id hI
  refine lv_aload_n hx hb dL_law_489 rfl (lv_at hl 1 rfl) ?_
  refine lv_aload_n hx hb dL_law_490 rfl (lv_at hl 0 rfl) ?_
  refine lv_iload_n hx hb dL_law_491 rfl (lv_at hl 3 rfl) ?_
  refine lv_iconst (v := 1) hx hb dL_law_492 (by decide) ?_
  refine lv_iadd hx hb dL_law_493 ?_
  refine top_eq (y := nI (i + 1)) (nI_add _ _) ?_
  refine va_sld hx hb hX hbl hbA hS (vp_in_nI (by omega) (by omega)) dL_law_494 ?_
  refine top_eq (y := xs (i + 1)) (by rw [nI_clamp (by omega)]) ?_
  have hXc := bX_ways l G E cI cZ ad R V U tr sc sv sb (xs (i + 1)) (hnw)
  refine lawLi (As := [.int (xs (i + 1))]) (rest := []) hx hb hml hown hts hXc k_27_10 cal_X6_ways ⟨(Nat.le_of_ble_eq_true rfl), (Nat.le_of_ble_eq_true rfl)⟩ hE hA hlow hD hS hK hP (fun u => (wX_fst _ _ _ _ _ _ _ _ _ _).trans (wX_fst _ _ _ _ _ _ _ _ _ _).symm) 0 6 rfl rfl rfl hl.1 rfl (Nat.le_of_ble_eq_true rfl) dL_law_495 ⟨(Nat.le_of_ble_eq_true rfl), (Nat.le_of_ble_eq_true rfl)⟩ (fun r1 u1 H locs hr1 hP hD hS => ?_)
  subst hr1
  obtain ⟨sc1, sv1, sb1⟩ := u1
  have hP : va_P G vwCl (wX cI cZ ad R V U tr sc1 sv1 sb1 ++ wM cI cZ am R V U tr tc tv) H := hP
  have hD : va_D (fun q : Nat => s.heap.size ≤ q) (wX cI cZ ad R V U tr sc1 sv1 sb1 ++ wM cI cZ am R V U tr tc tv) := hD
  refine lv_aload_n hx hb dL_law_498 rfl (lv_at hl 2 rfl) ?_
  refine lv_aload_n hx hb dL_law_499 rfl (lv_at hl 0 rfl) ?_
  refine lv_iload_n hx hb dL_law_500 rfl (lv_at hl 3 rfl) ?_
  refine lv_iconst (v := 1) hx hb dL_law_501 (by decide) ?_
  refine lv_iadd hx hb dL_law_502 ?_
  refine top_eq (y := nI (i + 1)) (nI_add _ _) ?_
  refine va_sld hx hb hX hbl hbA hS (vp_in_nI (by omega) (by omega)) dL_law_503 ?_
  refine top_eq (y := xs (i + 1)) (by rw [nI_clamp (by omega)]) ?_
  have hM := bM_ways l G E cI cZ am R V U tr tc tv (xs (i + 1)) (hm0 hnw ihd hW)
  refine lawRi (As := [.int (xs (i + 1))]) (rest := [.int (if 0 ≤ (xs (i + 1)) then (walS (reG (isES (R 0) (R 2)) (wtD (R 0) (R 1) (R 2) (R 27) (R 28) 0 (U 3)) (hwD (R 0) (R 4) (R 27) (R 28) (R 29) 0 (U 3))) (buG (isES (R 0) (R 2)) (wtD (R 0) (R 1) (R 2) (R 27) (R 28) 0 (U 3))) (xs (i + 1)) 8).1 else (-1))]) hx hb hml hown hts hM k_27_15 cal_X7_ways ⟨(Nat.le_of_ble_eq_true rfl), (Nat.le_of_ble_eq_true rfl)⟩ hE hA hlow hD hS hK hP (fun u => (wM_fst _ _ _ _ _ _ _ _ _ _).trans (wM_fst _ _ _ _ _ _ _ _ _ _).symm) 0 7 rfl rfl rfl hl.1 rfl (Nat.le_of_ble_eq_true rfl) dL_law_504 ⟨(Nat.le_of_ble_eq_true rfl), (Nat.le_of_ble_eq_true rfl)⟩ (fun r2 u2 H locs hr2 hP hD hS => ?_)
  subst hr2
  obtain ⟨tc1, tv1⟩ := u2
  have hP : va_P G vwCl (wX cI cZ ad R V U tr sc1 sv1 sb1 ++ wM cI cZ am R V U tr tc1 tv1) H := hP
  have hD : va_D (fun q : Nat => s.heap.size ≤ q) (wX cI cZ ad R V U tr sc1 sv1 sb1 ++ wM cI cZ am R V U tr tc1 tv1) := D_law hD
  refine lv_icmp_eq (tgt := 1043) hx hb dL_law_507 (by decide) (fun c1 => ?_) (fun c1 => ?_)
  · exact kk R V U tr sc1 sv1 sb1 tc1 tv1 (hI) H locs hP hD hS
  · exact absurd (by rw [wal0 hnw ihd hW]) c1
set_option maxHeartbeats 4000000 in
set_option maxRecDepth 100000 in
theorem L_filter {p : Program} {l : Launch} {e : Env} {s : State} {m : MethodId} {below : List Frame} {meth : Method} {c : Code} {b L : Nat} {xs : Nat → Int32} {G : va_G} {E : EvT} {cI cZ : ClassId} {ad am : Nat → Nat} {Q : State → Prop} (hx : p.tables.exec = Jvm.exec) (hb : c.code = code) (hml : c.maxLocals = 4) (hown : s.vm.findClass RL = some m.cls) (hts : ∀ w ∈ wAll, w.before #[Value.ref b] s = true) (hX : va_X b L xs s s.heap) (hbl : b < s.heap.size) (hE : Ev E s) (hE1 : E.1 = s.heap.size) (hK : va_K G vwCl [(cI, .int), (cZ, .boolean)] s) (hL : L ≤ 3072) {i : Nat} (hi : i + 6 ≤ L) (R : Nat → Nat → Int32) (V : Nat → Int32) (U : Nat → Nat) (tr : Int64) (sc : Nat → Nat → Int32) (sv : Nat → Int32) (sb : Bool) (tc : Nat → Nat → Int32) (tv : Nat → Int32) (hI : Inv R V U) {H : Heap} {locs : List Loc} (hP : va_P G vwCl (wX cI cZ ad R V U tr sc sv sb ++ wM cI cZ am R V U tr tc tv) H) (hD : va_D (fun q : Nat => s.heap.size ≤ q) (wX cI cZ ad R V U tr sc sv sb ++ wM cI cZ am R V U tr tc tv)) (hS : va_S (fun q : Nat => s.heap.size ≤ q) s.heap H locs) {ls : Array Slot} (hl : lv_has ls 4 [(0, .ref b), (1, .ref (ad 0)), (2, .ref (am 0)), (3, .int (nI i))]) (kk : ∀ (R : Nat → Nat → Int32) (V : Nat → Int32) (U : Nat → Nat) (tr : Int64) (sc : Nat → Nat → Int32) (sv : Nat → Int32) (sb : Bool) (tc : Nat → Nat → Int32) (tv : Nat → Int32), Inv R V U → ∀ (H : Heap) (locs : List Loc), va_P G vwCl (wX cI cZ ad R V U tr sc sv sb ++ wM cI cZ am R V U tr tc tv) H → va_D (fun q : Nat => s.heap.size ≤ q) (wX cI cZ ad R V U tr sc sv sb ++ wM cI cZ am R V U tr tc tv) → va_S (fun q : Nat => s.heap.size ≤ q) s.heap H locs → W p l e room_1 s m #[Value.ref b] below meth c H locs 81 3416 Q (F0 m 1043 ls [])) : W p l e room_1 s m #[Value.ref b] below meth c H locs 81 3416 Q (F0 m 512 ls []) := by
  have hA : ∀ q : Nat, s.heap.size ≤ q → (fun q : Nat => s.heap.size ≤ q) q := fun _ h => h
  have hbA : ¬ (fun q : Nat => s.heap.size ≤ q) b := Nat.not_le.mpr hbl
  have hlow : ∀ q : Nat, (fun q : Nat => s.heap.size ≤ q) q → E.1 ≤ q := fun _ h => by rw [hE1]; exact h
  obtain ⟨⟨i01, i6k, ile, ihd, ign, l9, hl6, hla⟩, hi1, hi2, ⟨hTB, hTn⟩, ⟨hse, hwa, hN, hho, hle⟩, ⟨⟨gN, hgp, hgl⟩, hgr, ⟨zN, hcz, hzl⟩, hng, hnc, hGA, hCA, s9, hs9, hsl⟩, ⟨hnw, wx, wz, hW⟩, hm0_, hm1_⟩ := id hI
  refine lv_aload_n hx hb dL_law_512 rfl (lv_at hl 1 rfl) ?_
  refine lv_aload_n hx hb dL_law_513 rfl (lv_at hl 0 rfl) ?_
  refine lv_iload_n hx hb dL_law_514 rfl (lv_at hl 3 rfl) ?_
  refine lv_iconst (v := 1) hx hb dL_law_515 (by decide) ?_
  refine lv_iadd hx hb dL_law_516 ?_
  refine top_eq (y := nI (i + 1)) (nI_add _ _) ?_
  refine va_sld hx hb hX hbl hbA hS (vp_in_nI (by omega) (by omega)) dL_law_517 ?_
  refine top_eq (y := xs (i + 1)) (by rw [nI_clamp (by omega)]) ?_
  have hXc := bX_filter l G E cI cZ ad R V U tr sc sv sb (xs (i + 1))
  refine lawLi (As := [.int (xs (i + 1))]) (rest := []) hx hb hml hown hts hXc k_27_19 cal_X6_filter ⟨(Nat.le_of_ble_eq_true rfl), (Nat.le_of_ble_eq_true rfl)⟩ hE hA hlow hD hS hK hP (fun u => (wX_fst _ _ _ _ _ _ _ _ _ _).trans (wX_fst _ _ _ _ _ _ _ _ _ _).symm) 0 6 rfl rfl rfl hl.1 rfl (Nat.le_of_ble_eq_true rfl) dL_law_518 ⟨(Nat.le_of_ble_eq_true rfl), (Nat.le_of_ble_eq_true rfl)⟩ (fun r1 u1 H locs hr1 hP hD hS => ?_)
  subst hr1
  obtain ⟨sc1, sv1, sb1⟩ := u1
  have hP : va_P G vwCl (wX cI cZ ad R (upv V 4 (if wiB (xs (i + 1)) 2 9 then (xs (i + 1)) else (V 4))) U tr sc1 sv1 sb1 ++ wM cI cZ am R V U tr tc tv) H := hP
  have hD : va_D (fun q : Nat => s.heap.size ≤ q) (wX cI cZ ad R (upv V 4 (if wiB (xs (i + 1)) 2 9 then (xs (i + 1)) else (V 4))) U tr sc1 sv1 sb1 ++ wM cI cZ am R V U tr tc tv) := hD
  refine lv_aload_n hx hb dL_law_521 rfl (lv_at hl 2 rfl) ?_
  refine lv_aload_n hx hb dL_law_522 rfl (lv_at hl 0 rfl) ?_
  refine lv_iload_n hx hb dL_law_523 rfl (lv_at hl 3 rfl) ?_
  refine lv_iconst (v := 1) hx hb dL_law_524 (by decide) ?_
  refine lv_iadd hx hb dL_law_525 ?_
  refine top_eq (y := nI (i + 1)) (nI_add _ _) ?_
  refine va_sld hx hb hX hbl hbA hS (vp_in_nI (by omega) (by omega)) dL_law_526 ?_
  refine top_eq (y := xs (i + 1)) (by rw [nI_clamp (by omega)]) ?_
  have hM := bM_filter l G E cI cZ am R V U tr tc tv (xs (i + 1))
  refine lawRi (As := [.int (xs (i + 1))]) (rest := [.int (if wiB (xs (i + 1)) 2 9 then (V 4) else (-1))]) hx hb hml hown hts hM k_27_23 cal_X7_filter ⟨(Nat.le_of_ble_eq_true rfl), (Nat.le_of_ble_eq_true rfl)⟩ hE hA hlow hD hS hK hP (fun u => (wM_fst _ _ _ _ _ _ _ _ _ _).trans (wM_fst _ _ _ _ _ _ _ _ _ _).symm) 0 7 rfl rfl rfl hl.1 rfl (Nat.le_of_ble_eq_true rfl) dL_law_527 ⟨(Nat.le_of_ble_eq_true rfl), (Nat.le_of_ble_eq_true rfl)⟩ (fun r2 u2 H locs hr2 hP hD hS => ?_)
  subst hr2
  obtain ⟨tc1, tv1⟩ := u2
  have hP : va_P G vwCl (wX cI cZ ad R (upv V 4 (if wiB (xs (i + 1)) 2 9 then (xs (i + 1)) else (V 4))) U tr sc1 sv1 sb1 ++ wM cI cZ am R (upv V 4 (if wiB (xs (i + 1)) 2 9 then (xs (i + 1)) else (V 4))) U tr tc1 tv1) H := hP
  have hD : va_D (fun q : Nat => s.heap.size ≤ q) (wX cI cZ ad R (upv V 4 (if wiB (xs (i + 1)) 2 9 then (xs (i + 1)) else (V 4))) U tr sc1 sv1 sb1 ++ wM cI cZ am R (upv V 4 (if wiB (xs (i + 1)) 2 9 then (xs (i + 1)) else (V 4))) U tr tc1 tv1) := D_law hD
  refine lv_icmp_eq (tgt := 1043) hx hb dL_law_530 (by decide) (fun c1 => ?_) (fun c1 => ?_)
  · exact kk R (upv V 4 (if wiB (xs (i + 1)) 2 9 then (xs (i + 1)) else (V 4))) U tr sc1 sv1 sb1 tc1 tv1 (hI) H locs hP hD hS
  · exact absurd (rfl) c1
set_option maxHeartbeats 4000000 in
set_option maxRecDepth 100000 in
theorem L_day {p : Program} {l : Launch} {e : Env} {s : State} {m : MethodId} {below : List Frame} {meth : Method} {c : Code} {b L : Nat} {xs : Nat → Int32} {G : va_G} {E : EvT} {cI cZ : ClassId} {ad am : Nat → Nat} {Q : State → Prop} (hx : p.tables.exec = Jvm.exec) (hb : c.code = code) (hml : c.maxLocals = 4) (hown : s.vm.findClass RL = some m.cls) (hts : ∀ w ∈ wAll, w.before #[Value.ref b] s = true) (hX : va_X b L xs s s.heap) (hbl : b < s.heap.size) (hE : Ev E s) (hE1 : E.1 = s.heap.size) (hK : va_K G vwCl [(cI, .int), (cZ, .boolean)] s) (hL : L ≤ 3072) {i : Nat} (hi : i + 6 ≤ L) (R : Nat → Nat → Int32) (V : Nat → Int32) (U : Nat → Nat) (tr : Int64) (sc : Nat → Nat → Int32) (sv : Nat → Int32) (sb : Bool) (tc : Nat → Nat → Int32) (tv : Nat → Int32) (hI : Inv R V U) {H : Heap} {locs : List Loc} (hP : va_P G vwCl (wX cI cZ ad R V U tr sc sv sb ++ wM cI cZ am R V U tr tc tv) H) (hD : va_D (fun q : Nat => s.heap.size ≤ q) (wX cI cZ ad R V U tr sc sv sb ++ wM cI cZ am R V U tr tc tv)) (hS : va_S (fun q : Nat => s.heap.size ≤ q) s.heap H locs) {ls : Array Slot} (hl : lv_has ls 4 [(0, .ref b), (1, .ref (ad 0)), (2, .ref (am 0)), (3, .int (nI i))]) (kk : ∀ (R : Nat → Nat → Int32) (V : Nat → Int32) (U : Nat → Nat) (tr : Int64) (sc : Nat → Nat → Int32) (sv : Nat → Int32) (sb : Bool) (tc : Nat → Nat → Int32) (tv : Nat → Int32), Inv R V U → ∀ (H : Heap) (locs : List Loc), va_P G vwCl (wX cI cZ ad R V U tr sc sv sb ++ wM cI cZ am R V U tr tc tv) H → va_D (fun q : Nat => s.heap.size ≤ q) (wX cI cZ ad R V U tr sc sv sb ++ wM cI cZ am R V U tr tc tv) → va_S (fun q : Nat => s.heap.size ≤ q) s.heap H locs → W p l e room_1 s m #[Value.ref b] below meth c H locs 81 3416 Q (F0 m 1043 ls [])) : W p l e room_1 s m #[Value.ref b] below meth c H locs 81 3416 Q (F0 m 535 ls []) := by
  have hA : ∀ q : Nat, s.heap.size ≤ q → (fun q : Nat => s.heap.size ≤ q) q := fun _ h => h
  have hbA : ¬ (fun q : Nat => s.heap.size ≤ q) b := Nat.not_le.mpr hbl
  have hlow : ∀ q : Nat, (fun q : Nat => s.heap.size ≤ q) q → E.1 ≤ q := fun _ h => by rw [hE1]; exact h
  obtain ⟨⟨i01, i6k, ile, ihd, ign, l9, hl6, hla⟩, hi1, hi2, ⟨hTB, hTn⟩, ⟨hse, hwa, hN, hho, hle⟩, ⟨⟨gN, hgp, hgl⟩, hgr, ⟨zN, hcz, hzl⟩, hng, hnc, hGA, hCA, s9, hs9, hsl⟩, ⟨hnw, wx, wz, hW⟩, hm0_, hm1_⟩ := id hI
  refine lv_aload_n hx hb dL_law_535 rfl (lv_at hl 1 rfl) ?_
  have hXc := bX_day l G E cI cZ ad R V U tr sc sv sb 
  refine lawLi (As := []) (rest := []) hx hb hml hown hts hXc k_28_3 cal_X6_day ⟨(Nat.le_of_ble_eq_true rfl), (Nat.le_of_ble_eq_true rfl)⟩ hE hA hlow hD hS hK hP (fun u => (wX_fst _ _ _ _ _ _ _ _ _ _).trans (wX_fst _ _ _ _ _ _ _ _ _ _).symm) 0 6 rfl rfl rfl hl.1 rfl (Nat.le_of_ble_eq_true rfl) dL_law_536 ⟨(Nat.le_of_ble_eq_true rfl), (Nat.le_of_ble_eq_true rfl)⟩ (fun r1 u1 H locs hr1 hP hD hS => ?_)
  subst hr1
  obtain ⟨sc1, sv1, sb1⟩ := u1
  have hP : va_P G vwCl (wX cI cZ ad (upr R 2 (dyS (R 0) (R 1) (R 4) (R 5) (V 4) (R 2))) V U tr sc1 sv1 sb1 ++ wM cI cZ am R V U tr tc tv) H := hP
  have hD : va_D (fun q : Nat => s.heap.size ≤ q) (wX cI cZ ad (upr R 2 (dyS (R 0) (R 1) (R 4) (R 5) (V 4) (R 2))) V U tr sc1 sv1 sb1 ++ wM cI cZ am R V U tr tc tv) := hD
  refine lv_aload_n hx hb dL_law_539 rfl (lv_at hl 2 rfl) ?_
  have hM := bM_day l G E cI cZ am R V U tr tc tv 
  refine lawRi (As := []) (rest := [.int (cntS (loS (R 0) (R 1) (R 2) (R 4) (R 5) (V 4)) 48)]) hx hb hml hown hts hM k_29_0 cal_X7_day ⟨(Nat.le_of_ble_eq_true rfl), (Nat.le_of_ble_eq_true rfl)⟩ hE hA hlow hD hS hK hP (fun u => (wM_fst _ _ _ _ _ _ _ _ _ _).trans (wM_fst _ _ _ _ _ _ _ _ _ _).symm) 0 7 rfl rfl rfl hl.1 rfl (Nat.le_of_ble_eq_true rfl) dL_law_540 ⟨(Nat.le_of_ble_eq_true rfl), (Nat.le_of_ble_eq_true rfl)⟩ (fun r2 u2 H locs hr2 hP hD hS => ?_)
  subst hr2
  obtain ⟨tc1, tv1⟩ := u2
  have hP : va_P G vwCl (wX cI cZ ad (upr R 2 (dyS (R 0) (R 1) (R 4) (R 5) (V 4) (R 2))) V U tr sc1 sv1 sb1 ++ wM cI cZ am (upr R 2 (dyS (R 0) (R 1) (R 4) (R 5) (V 4) (R 2))) V U tr tc1 tv1) H := (P_l hP).app (wM_swap (ms_congr (fun _ _ => rfl) (fun _ _ => rfl) (fun q hq => by (show (if loM _ _ _ _ _ _ q then (1 : Int32) else _) = (if loS _ _ _ _ _ _ q then (1 : Int32) else _); rw [lo_eq (fun _ _ => rfl) i01 hq])) (fun _ _ => rfl) (fun _ _ => rfl) (fun _ _ => rfl)) (P_r hP))
  have hD : va_D (fun q : Nat => s.heap.size ≤ q) (wX cI cZ ad (upr R 2 (dyS (R 0) (R 1) (R 4) (R 5) (V 4) (R 2))) V U tr sc1 sv1 sb1 ++ wM cI cZ am (upr R 2 (dyS (R 0) (R 1) (R 4) (R 5) (V 4) (R 2))) V U tr tc1 tv1) := D_law hD
  refine lv_icmp_eq (tgt := 1043) hx hb dL_law_543 (by decide) (fun c1 => ?_) (fun c1 => ?_)
  · exact kk (upr R 2 (dyS (R 0) (R 1) (R 4) (R 5) (V 4) (R 2))) V U tr sc1 sv1 sb1 tc1 tv1 (⟨⟨dy_01 i01, i6k, ile, ihd, ign, l9, hl6, hla⟩, hI.2⟩) H locs hP hD hS
  · exact absurd (by rw [dv_congr (fun c hc => lo_eq (fun _ _ => rfl) i01 hc), day_eq]) c1
set_option maxHeartbeats 4000000 in
set_option maxRecDepth 100000 in
theorem L_breach {p : Program} {l : Launch} {e : Env} {s : State} {m : MethodId} {below : List Frame} {meth : Method} {c : Code} {b L : Nat} {xs : Nat → Int32} {G : va_G} {E : EvT} {cI cZ : ClassId} {ad am : Nat → Nat} {Q : State → Prop} (hx : p.tables.exec = Jvm.exec) (hb : c.code = code) (hml : c.maxLocals = 4) (hown : s.vm.findClass RL = some m.cls) (hts : ∀ w ∈ wAll, w.before #[Value.ref b] s = true) (hX : va_X b L xs s s.heap) (hbl : b < s.heap.size) (hE : Ev E s) (hE1 : E.1 = s.heap.size) (hK : va_K G vwCl [(cI, .int), (cZ, .boolean)] s) (hL : L ≤ 3072) {i : Nat} (hi : i + 6 ≤ L) (R : Nat → Nat → Int32) (V : Nat → Int32) (U : Nat → Nat) (tr : Int64) (sc : Nat → Nat → Int32) (sv : Nat → Int32) (sb : Bool) (tc : Nat → Nat → Int32) (tv : Nat → Int32) (hI : Inv R V U) {H : Heap} {locs : List Loc} (hP : va_P G vwCl (wX cI cZ ad R V U tr sc sv sb ++ wM cI cZ am R V U tr tc tv) H) (hD : va_D (fun q : Nat => s.heap.size ≤ q) (wX cI cZ ad R V U tr sc sv sb ++ wM cI cZ am R V U tr tc tv)) (hS : va_S (fun q : Nat => s.heap.size ≤ q) s.heap H locs) {ls : Array Slot} (hl : lv_has ls 4 [(0, .ref b), (1, .ref (ad 0)), (2, .ref (am 0)), (3, .int (nI i))]) (kk : ∀ (R : Nat → Nat → Int32) (V : Nat → Int32) (U : Nat → Nat) (tr : Int64) (sc : Nat → Nat → Int32) (sv : Nat → Int32) (sb : Bool) (tc : Nat → Nat → Int32) (tv : Nat → Int32), Inv R V U → ∀ (H : Heap) (locs : List Loc), va_P G vwCl (wX cI cZ ad R V U tr sc sv sb ++ wM cI cZ am R V U tr tc tv) H → va_D (fun q : Nat => s.heap.size ≤ q) (wX cI cZ ad R V U tr sc sv sb ++ wM cI cZ am R V U tr tc tv) → va_S (fun q : Nat => s.heap.size ≤ q) s.heap H locs → W p l e room_1 s m #[Value.ref b] below meth c H locs 81 3416 Q (F0 m 1043 ls [])) : W p l e room_1 s m #[Value.ref b] below meth c H locs 81 3416 Q (F0 m 548 ls []) := by
  have hA : ∀ q : Nat, s.heap.size ≤ q → (fun q : Nat => s.heap.size ≤ q) q := fun _ h => h
  have hbA : ¬ (fun q : Nat => s.heap.size ≤ q) b := Nat.not_le.mpr hbl
  have hlow : ∀ q : Nat, (fun q : Nat => s.heap.size ≤ q) q → E.1 ≤ q := fun _ h => by rw [hE1]; exact h
  obtain ⟨⟨i01, i6k, ile, ihd, ign, l9, hl6, hla⟩, hi1, hi2, ⟨hTB, hTn⟩, ⟨hse, hwa, hN, hho, hle⟩, ⟨⟨gN, hgp, hgl⟩, hgr, ⟨zN, hcz, hzl⟩, hng, hnc, hGA, hCA, s9, hs9, hsl⟩, ⟨hnw, wx, wz, hW⟩, hm0_, hm1_⟩ := id hI
  refine lv_aload_n hx hb dL_law_548 rfl (lv_at hl 1 rfl) ?_
  have hXc := bX_breach l G E cI cZ ad R V U tr sc sv sb 
  refine lawLi (As := []) (rest := []) hx hb hml hown hts hXc k_29_12 cal_X6_breach ⟨(Nat.le_of_ble_eq_true rfl), (Nat.le_of_ble_eq_true rfl)⟩ hE hA hlow hD hS hK hP (fun u => (wX_fst _ _ _ _ _ _ _ _ _ _).trans (wX_fst _ _ _ _ _ _ _ _ _ _).symm) 0 6 rfl rfl rfl hl.1 rfl (Nat.le_of_ble_eq_true rfl) dL_law_549 ⟨(Nat.le_of_ble_eq_true rfl), (Nat.le_of_ble_eq_true rfl)⟩ (fun r1 u1 H locs hr1 hP hD hS => ?_)
  subst hr1
  obtain ⟨sc1, sv1, sb1⟩ := u1
  have hP : va_P G vwCl (wX cI cZ ad R V U tr sc1 sv1 sb1 ++ wM cI cZ am R V U tr tc tv) H := hP
  have hD : va_D (fun q : Nat => s.heap.size ≤ q) (wX cI cZ ad R V U tr sc1 sv1 sb1 ++ wM cI cZ am R V U tr tc tv) := hD
  refine lv_aload_n hx hb dL_law_552 rfl (lv_at hl 2 rfl) ?_
  have hM := bM_breach l G E cI cZ am R V U tr tc tv 
  refine lawRi (As := []) (rest := [.int (dbS (R 0) (R 1) (R 4) (R 5) (V 4) 48 1 (R 2))]) hx hb hml hown hts hM k_30_1 cal_X7_breach ⟨(Nat.le_of_ble_eq_true rfl), (Nat.le_of_ble_eq_true rfl)⟩ hE hA hlow hD hS hK hP (fun u => (wM_fst _ _ _ _ _ _ _ _ _ _).trans (wM_fst _ _ _ _ _ _ _ _ _ _).symm) 0 7 rfl rfl rfl hl.1 rfl (Nat.le_of_ble_eq_true rfl) dL_law_553 ⟨(Nat.le_of_ble_eq_true rfl), (Nat.le_of_ble_eq_true rfl)⟩ (fun r2 u2 H locs hr2 hP hD hS => ?_)
  subst hr2
  obtain ⟨tc1, tv1⟩ := u2
  have hP : va_P G vwCl (wX cI cZ ad R V U tr sc1 sv1 sb1 ++ wM cI cZ am R V U tr tc1 tv1) H := hP
  have hD : va_D (fun q : Nat => s.heap.size ≤ q) (wX cI cZ ad R V U tr sc1 sv1 sb1 ++ wM cI cZ am R V U tr tc1 tv1) := D_law hD
  refine lv_icmp_eq (tgt := 1043) hx hb dL_law_556 (by decide) (fun c1 => ?_) (fun c1 => ?_)
  · exact kk R V U tr sc1 sv1 sb1 tc1 tv1 (hI) H locs hP hD hS
  · exact absurd ((brea_eq i01).symm) c1
set_option maxHeartbeats 4000000 in
set_option maxRecDepth 100000 in
theorem L_highest {p : Program} {l : Launch} {e : Env} {s : State} {m : MethodId} {below : List Frame} {meth : Method} {c : Code} {b L : Nat} {xs : Nat → Int32} {G : va_G} {E : EvT} {cI cZ : ClassId} {ad am : Nat → Nat} {Q : State → Prop} (hx : p.tables.exec = Jvm.exec) (hb : c.code = code) (hml : c.maxLocals = 4) (hown : s.vm.findClass RL = some m.cls) (hts : ∀ w ∈ wAll, w.before #[Value.ref b] s = true) (hX : va_X b L xs s s.heap) (hbl : b < s.heap.size) (hE : Ev E s) (hE1 : E.1 = s.heap.size) (hK : va_K G vwCl [(cI, .int), (cZ, .boolean)] s) (hL : L ≤ 3072) {i : Nat} (hi : i + 6 ≤ L) (R : Nat → Nat → Int32) (V : Nat → Int32) (U : Nat → Nat) (tr : Int64) (sc : Nat → Nat → Int32) (sv : Nat → Int32) (sb : Bool) (tc : Nat → Nat → Int32) (tv : Nat → Int32) (hI : Inv R V U) {H : Heap} {locs : List Loc} (hP : va_P G vwCl (wX cI cZ ad R V U tr sc sv sb ++ wM cI cZ am R V U tr tc tv) H) (hD : va_D (fun q : Nat => s.heap.size ≤ q) (wX cI cZ ad R V U tr sc sv sb ++ wM cI cZ am R V U tr tc tv)) (hS : va_S (fun q : Nat => s.heap.size ≤ q) s.heap H locs) {ls : Array Slot} (hl : lv_has ls 4 [(0, .ref b), (1, .ref (ad 0)), (2, .ref (am 0)), (3, .int (nI i))]) (kk : ∀ (R : Nat → Nat → Int32) (V : Nat → Int32) (U : Nat → Nat) (tr : Int64) (sc : Nat → Nat → Int32) (sv : Nat → Int32) (sb : Bool) (tc : Nat → Nat → Int32) (tv : Nat → Int32), Inv R V U → ∀ (H : Heap) (locs : List Loc), va_P G vwCl (wX cI cZ ad R V U tr sc sv sb ++ wM cI cZ am R V U tr tc tv) H → va_D (fun q : Nat => s.heap.size ≤ q) (wX cI cZ ad R V U tr sc sv sb ++ wM cI cZ am R V U tr tc tv) → va_S (fun q : Nat => s.heap.size ≤ q) s.heap H locs → W p l e room_1 s m #[Value.ref b] below meth c H locs 81 3416 Q (F0 m 1043 ls [])) : W p l e room_1 s m #[Value.ref b] below meth c H locs 81 3416 Q (F0 m 561 ls []) := by
  have hA : ∀ q : Nat, s.heap.size ≤ q → (fun q : Nat => s.heap.size ≤ q) q := fun _ h => h
  have hbA : ¬ (fun q : Nat => s.heap.size ≤ q) b := Nat.not_le.mpr hbl
  have hlow : ∀ q : Nat, (fun q : Nat => s.heap.size ≤ q) q → E.1 ≤ q := fun _ h => by rw [hE1]; exact h
  obtain ⟨⟨i01, i6k, ile, ihd, ign, l9, hl6, hla⟩, hi1, hi2, ⟨hTB, hTn⟩, ⟨hse, hwa, hN, hho, hle⟩, ⟨⟨gN, hgp, hgl⟩, hgr, ⟨zN, hcz, hzl⟩, hng, hnc, hGA, hCA, s9, hs9, hsl⟩, ⟨hnw, wx, wz, hW⟩, hm0_, hm1_⟩ := id hI
  refine lv_aload_n hx hb dL_law_561 rfl (lv_at hl 1 rfl) ?_
  have hXc := bX_highest l G E cI cZ ad R V U tr sc sv sb 
  refine lawLi (As := []) (rest := []) hx hb hml hown hts hXc k_30_13 cal_X6_highest ⟨(Nat.le_of_ble_eq_true rfl), (Nat.le_of_ble_eq_true rfl)⟩ hE hA hlow hD hS hK hP (fun u => (wX_fst _ _ _ _ _ _ _ _ _ _).trans (wX_fst _ _ _ _ _ _ _ _ _ _).symm) 0 6 rfl rfl rfl hl.1 rfl (Nat.le_of_ble_eq_true rfl) dL_law_562 ⟨(Nat.le_of_ble_eq_true rfl), (Nat.le_of_ble_eq_true rfl)⟩ (fun r1 u1 H locs hr1 hP hD hS => ?_)
  subst hr1
  obtain ⟨sc1, sv1, sb1⟩ := u1
  have hP : va_P G vwCl (wX cI cZ ad R V U tr sc1 sv1 sb1 ++ wM cI cZ am R V U tr tc tv) H := hP
  have hD : va_D (fun q : Nat => s.heap.size ≤ q) (wX cI cZ ad R V U tr sc1 sv1 sb1 ++ wM cI cZ am R V U tr tc tv) := hD
  refine lv_aload_n hx hb dL_law_565 rfl (lv_at hl 2 rfl) ?_
  have hM := bM_highest l G E cI cZ am R V U tr tc tv 
  refine lawRi (As := []) (rest := [.int (hgS (higF (R 0) (R 2) (R 3) (R 4) (R 5) (V 4)) 7)]) hx hb hml hown hts hM k_30_23 cal_X7_highest ⟨(Nat.le_of_ble_eq_true rfl), (Nat.le_of_ble_eq_true rfl)⟩ hE hA hlow hD hS hK hP (fun u => (wM_fst _ _ _ _ _ _ _ _ _ _).trans (wM_fst _ _ _ _ _ _ _ _ _ _).symm) 0 7 rfl rfl rfl hl.1 rfl (Nat.le_of_ble_eq_true rfl) dL_law_566 ⟨(Nat.le_of_ble_eq_true rfl), (Nat.le_of_ble_eq_true rfl)⟩ (fun r2 u2 H locs hr2 hP hD hS => ?_)
  subst hr2
  obtain ⟨tc1, tv1⟩ := u2
  have hP : va_P G vwCl (wX cI cZ ad R V U tr sc1 sv1 sb1 ++ wM cI cZ am R V U tr tc1 tv1) H := hP
  have hD : va_D (fun q : Nat => s.heap.size ≤ q) (wX cI cZ ad R V U tr sc1 sv1 sb1 ++ wM cI cZ am R V U tr tc1 tv1) := D_law hD
  refine lv_icmp_eq (tgt := 1043) hx hb dL_law_569 (by decide) (fun c1 => ?_) (fun c1 => ?_)
  · exact kk R V U tr sc1 sv1 sb1 tc1 tv1 (hI) H locs hP hD hS
  · exact absurd ((high_eq ile i01).symm) c1
set_option maxHeartbeats 4000000 in
set_option maxRecDepth 100000 in
theorem L_pool {p : Program} {l : Launch} {e : Env} {s : State} {m : MethodId} {below : List Frame} {meth : Method} {c : Code} {b L : Nat} {xs : Nat → Int32} {G : va_G} {E : EvT} {cI cZ : ClassId} {ad am : Nat → Nat} {Q : State → Prop} (hx : p.tables.exec = Jvm.exec) (hb : c.code = code) (hml : c.maxLocals = 4) (hown : s.vm.findClass RL = some m.cls) (hts : ∀ w ∈ wAll, w.before #[Value.ref b] s = true) (hX : va_X b L xs s s.heap) (hbl : b < s.heap.size) (hE : Ev E s) (hE1 : E.1 = s.heap.size) (hK : va_K G vwCl [(cI, .int), (cZ, .boolean)] s) (hL : L ≤ 3072) {i : Nat} (hi : i + 6 ≤ L) (R : Nat → Nat → Int32) (V : Nat → Int32) (U : Nat → Nat) (tr : Int64) (sc : Nat → Nat → Int32) (sv : Nat → Int32) (sb : Bool) (tc : Nat → Nat → Int32) (tv : Nat → Int32) (hI : Inv R V U) {H : Heap} {locs : List Loc} (hP : va_P G vwCl (wX cI cZ ad R V U tr sc sv sb ++ wM cI cZ am R V U tr tc tv) H) (hD : va_D (fun q : Nat => s.heap.size ≤ q) (wX cI cZ ad R V U tr sc sv sb ++ wM cI cZ am R V U tr tc tv)) (hS : va_S (fun q : Nat => s.heap.size ≤ q) s.heap H locs) {ls : Array Slot} (hl : lv_has ls 4 [(0, .ref b), (1, .ref (ad 0)), (2, .ref (am 0)), (3, .int (nI i))]) (kk : ∀ (R : Nat → Nat → Int32) (V : Nat → Int32) (U : Nat → Nat) (tr : Int64) (sc : Nat → Nat → Int32) (sv : Nat → Int32) (sb : Bool) (tc : Nat → Nat → Int32) (tv : Nat → Int32), Inv R V U → ∀ (H : Heap) (locs : List Loc), va_P G vwCl (wX cI cZ ad R V U tr sc sv sb ++ wM cI cZ am R V U tr tc tv) H → va_D (fun q : Nat => s.heap.size ≤ q) (wX cI cZ ad R V U tr sc sv sb ++ wM cI cZ am R V U tr tc tv) → va_S (fun q : Nat => s.heap.size ≤ q) s.heap H locs → W p l e room_1 s m #[Value.ref b] below meth c H locs 81 3416 Q (F0 m 1043 ls [])) : W p l e room_1 s m #[Value.ref b] below meth c H locs 81 3416 Q (F0 m 574 ls []) := by
  have hA : ∀ q : Nat, s.heap.size ≤ q → (fun q : Nat => s.heap.size ≤ q) q := fun _ h => h
  have hbA : ¬ (fun q : Nat => s.heap.size ≤ q) b := Nat.not_le.mpr hbl
  have hlow : ∀ q : Nat, (fun q : Nat => s.heap.size ≤ q) q → E.1 ≤ q := fun _ h => by rw [hE1]; exact h
  obtain ⟨⟨i01, i6k, ile, ihd, ign, l9, hl6, hla⟩, hi1, hi2, ⟨hTB, hTn⟩, ⟨hse, hwa, hN, hho, hle⟩, ⟨⟨gN, hgp, hgl⟩, hgr, ⟨zN, hcz, hzl⟩, hng, hnc, hGA, hCA, s9, hs9, hsl⟩, ⟨hnw, wx, wz, hW⟩, hm0_, hm1_⟩ := id hI
  refine lv_aload_n hx hb dL_law_574 rfl (lv_at hl 1 rfl) ?_
  refine lv_aload_n hx hb dL_law_575 rfl (lv_at hl 0 rfl) ?_
  refine lv_iload_n hx hb dL_law_576 rfl (lv_at hl 3 rfl) ?_
  refine lv_iconst (v := 1) hx hb dL_law_577 (by decide) ?_
  refine lv_iadd hx hb dL_law_578 ?_
  refine top_eq (y := nI (i + 1)) (nI_add _ _) ?_
  refine va_sld hx hb hX hbl hbA hS (vp_in_nI (by omega) (by omega)) dL_law_579 ?_
  refine top_eq (y := xs (i + 1)) (by rw [nI_clamp (by omega)]) ?_
  refine lv_aload_n hx hb dL_law_580 rfl (lv_at hl 0 rfl) ?_
  refine lv_iload_n hx hb dL_law_581 rfl (lv_at hl 3 rfl) ?_
  refine lv_iconst (v := 2) hx hb dL_law_582 (by decide) ?_
  refine lv_iadd hx hb dL_law_583 ?_
  refine top_eq (y := nI (i + 2)) (nI_add _ _) ?_
  refine va_sld hx hb hX hbl hbA hS (vp_in_nI (by omega) (by omega)) dL_law_584 ?_
  refine top_eq (y := xs (i + 2)) (by rw [nI_clamp (by omega)]) ?_
  have hXc := bX_pool l G E cI cZ ad R V U tr sc sv sb (xs (i + 1)) (xs (i + 2))
  refine lawLi (As := [.int (xs (i + 1)), .int (xs (i + 2))]) (rest := []) hx hb hml hown hts hXc k_31_7 cal_X6_pool ⟨(Nat.le_of_ble_eq_true rfl), (Nat.le_of_ble_eq_true rfl)⟩ hE hA hlow hD hS hK hP (fun u => (wX_fst _ _ _ _ _ _ _ _ _ _).trans (wX_fst _ _ _ _ _ _ _ _ _ _).symm) 0 6 rfl rfl rfl hl.1 rfl (Nat.le_of_ble_eq_true rfl) dL_law_585 ⟨(Nat.le_of_ble_eq_true rfl), (Nat.le_of_ble_eq_true rfl)⟩ (fun r1 u1 H locs hr1 hP hD hS => ?_)
  subst hr1
  obtain ⟨sc1, sv1, sb1⟩ := u1
  have hP : va_P G vwCl (wX cI cZ ad (upr R 20 (if wiB (xs (i + 1)) 0 5 && wiB (xs (i + 2)) 0 9999 then upd (R 20) (xs (i + 1)).toNatClampNeg (xs (i + 2)) else (R 20))) V U tr sc1 sv1 sb1 ++ wM cI cZ am R V U tr tc tv) H := hP
  have hD : va_D (fun q : Nat => s.heap.size ≤ q) (wX cI cZ ad (upr R 20 (if wiB (xs (i + 1)) 0 5 && wiB (xs (i + 2)) 0 9999 then upd (R 20) (xs (i + 1)).toNatClampNeg (xs (i + 2)) else (R 20))) V U tr sc1 sv1 sb1 ++ wM cI cZ am R V U tr tc tv) := hD
  refine lv_aload_n hx hb dL_law_588 rfl (lv_at hl 2 rfl) ?_
  refine lv_aload_n hx hb dL_law_589 rfl (lv_at hl 0 rfl) ?_
  refine lv_iload_n hx hb dL_law_590 rfl (lv_at hl 3 rfl) ?_
  refine lv_iconst (v := 1) hx hb dL_law_591 (by decide) ?_
  refine lv_iadd hx hb dL_law_592 ?_
  refine top_eq (y := nI (i + 1)) (nI_add _ _) ?_
  refine va_sld hx hb hX hbl hbA hS (vp_in_nI (by omega) (by omega)) dL_law_593 ?_
  refine top_eq (y := xs (i + 1)) (by rw [nI_clamp (by omega)]) ?_
  refine lv_aload_n hx hb dL_law_594 rfl (lv_at hl 0 rfl) ?_
  refine lv_iload_n hx hb dL_law_595 rfl (lv_at hl 3 rfl) ?_
  refine lv_iconst (v := 2) hx hb dL_law_596 (by decide) ?_
  refine lv_iadd hx hb dL_law_597 ?_
  refine top_eq (y := nI (i + 2)) (nI_add _ _) ?_
  refine va_sld hx hb hX hbl hbA hS (vp_in_nI (by omega) (by omega)) dL_law_598 ?_
  refine top_eq (y := xs (i + 2)) (by rw [nI_clamp (by omega)]) ?_
  have hM := bM_pool l G E cI cZ am R V U tr tc tv (xs (i + 1)) (xs (i + 2))
  refine lawRi (As := [.int (xs (i + 1)), .int (xs (i + 2))]) (rest := [.int (if wiB (xs (i + 1)) 0 5 && wiB (xs (i + 2)) 0 9999 then (R 20) (xs (i + 1)).toNatClampNeg else (-1))]) hx hb hml hown hts hM k_31_18 cal_X7_pool ⟨(Nat.le_of_ble_eq_true rfl), (Nat.le_of_ble_eq_true rfl)⟩ hE hA hlow hD hS hK hP (fun u => (wM_fst _ _ _ _ _ _ _ _ _ _).trans (wM_fst _ _ _ _ _ _ _ _ _ _).symm) 0 7 rfl rfl rfl hl.1 rfl (Nat.le_of_ble_eq_true rfl) dL_law_599 ⟨(Nat.le_of_ble_eq_true rfl), (Nat.le_of_ble_eq_true rfl)⟩ (fun r2 u2 H locs hr2 hP hD hS => ?_)
  subst hr2
  obtain ⟨tc1, tv1⟩ := u2
  have hP : va_P G vwCl (wX cI cZ ad (upr R 20 (if wiB (xs (i + 1)) 0 5 && wiB (xs (i + 2)) 0 9999 then upd (R 20) (xs (i + 1)).toNatClampNeg (xs (i + 2)) else (R 20))) V U tr sc1 sv1 sb1 ++ wM cI cZ am (upr R 20 (if wiB (xs (i + 1)) 0 5 && wiB (xs (i + 2)) 0 9999 then upd (R 20) (xs (i + 1)).toNatClampNeg (xs (i + 2)) else (R 20))) V U tr tc1 tv1) H := hP
  have hD : va_D (fun q : Nat => s.heap.size ≤ q) (wX cI cZ ad (upr R 20 (if wiB (xs (i + 1)) 0 5 && wiB (xs (i + 2)) 0 9999 then upd (R 20) (xs (i + 1)).toNatClampNeg (xs (i + 2)) else (R 20))) V U tr sc1 sv1 sb1 ++ wM cI cZ am (upr R 20 (if wiB (xs (i + 1)) 0 5 && wiB (xs (i + 2)) 0 9999 then upd (R 20) (xs (i + 1)).toNatClampNeg (xs (i + 2)) else (R 20))) V U tr tc1 tv1) := D_law hD
  refine lv_icmp_eq (tgt := 1043) hx hb dL_law_602 (by decide) (fun c1 => ?_) (fun c1 => ?_)
  · exact kk (upr R 20 (if wiB (xs (i + 1)) 0 5 && wiB (xs (i + 2)) 0 9999 then upd (R 20) (xs (i + 1)).toNatClampNeg (xs (i + 2)) else (R 20))) V U tr sc1 sv1 sb1 tc1 tv1 (⟨hI.1, hI.2.1, hI.2.2.1, hI.2.2.2.1, pool_inv hI.2.2.2.2.1, hI.2.2.2.2.2⟩) H locs hP hD hS
  · exact absurd (rfl) c1
set_option maxHeartbeats 4000000 in
set_option maxRecDepth 100000 in
theorem L_flood {p : Program} {l : Launch} {e : Env} {s : State} {m : MethodId} {below : List Frame} {meth : Method} {c : Code} {b L : Nat} {xs : Nat → Int32} {G : va_G} {E : EvT} {cI cZ : ClassId} {ad am : Nat → Nat} {Q : State → Prop} (hx : p.tables.exec = Jvm.exec) (hb : c.code = code) (hml : c.maxLocals = 4) (hown : s.vm.findClass RL = some m.cls) (hts : ∀ w ∈ wAll, w.before #[Value.ref b] s = true) (hX : va_X b L xs s s.heap) (hbl : b < s.heap.size) (hE : Ev E s) (hE1 : E.1 = s.heap.size) (hK : va_K G vwCl [(cI, .int), (cZ, .boolean)] s) (hL : L ≤ 3072) {i : Nat} (hi : i + 6 ≤ L) (R : Nat → Nat → Int32) (V : Nat → Int32) (U : Nat → Nat) (tr : Int64) (sc : Nat → Nat → Int32) (sv : Nat → Int32) (sb : Bool) (tc : Nat → Nat → Int32) (tv : Nat → Int32) (hI : Inv R V U) {H : Heap} {locs : List Loc} (hP : va_P G vwCl (wX cI cZ ad R V U tr sc sv sb ++ wM cI cZ am R V U tr tc tv) H) (hD : va_D (fun q : Nat => s.heap.size ≤ q) (wX cI cZ ad R V U tr sc sv sb ++ wM cI cZ am R V U tr tc tv)) (hS : va_S (fun q : Nat => s.heap.size ≤ q) s.heap H locs) {ls : Array Slot} (hl : lv_has ls 4 [(0, .ref b), (1, .ref (ad 0)), (2, .ref (am 0)), (3, .int (nI i))]) (kk : ∀ (R : Nat → Nat → Int32) (V : Nat → Int32) (U : Nat → Nat) (tr : Int64) (sc : Nat → Nat → Int32) (sv : Nat → Int32) (sb : Bool) (tc : Nat → Nat → Int32) (tv : Nat → Int32), Inv R V U → ∀ (H : Heap) (locs : List Loc), va_P G vwCl (wX cI cZ ad R V U tr sc sv sb ++ wM cI cZ am R V U tr tc tv) H → va_D (fun q : Nat => s.heap.size ≤ q) (wX cI cZ ad R V U tr sc sv sb ++ wM cI cZ am R V U tr tc tv) → va_S (fun q : Nat => s.heap.size ≤ q) s.heap H locs → W p l e room_1 s m #[Value.ref b] below meth c H locs 81 3416 Q (F0 m 1043 ls [])) : W p l e room_1 s m #[Value.ref b] below meth c H locs 81 3416 Q (F0 m 607 ls []) := by
  have hA : ∀ q : Nat, s.heap.size ≤ q → (fun q : Nat => s.heap.size ≤ q) q := fun _ h => h
  have hbA : ¬ (fun q : Nat => s.heap.size ≤ q) b := Nat.not_le.mpr hbl
  have hlow : ∀ q : Nat, (fun q : Nat => s.heap.size ≤ q) q → E.1 ≤ q := fun _ h => by rw [hE1]; exact h
  obtain ⟨⟨i01, i6k, ile, ihd, ign, l9, hl6, hla⟩, hi1, hi2, ⟨hTB, hTn⟩, ⟨hse, hwa, hN, hho, hle⟩, ⟨⟨gN, hgp, hgl⟩, hgr, ⟨zN, hcz, hzl⟩, hng, hnc, hGA, hCA, s9, hs9, hsl⟩, ⟨hnw, wx, wz, hW⟩, hm0_, hm1_⟩ := id hI
  refine lv_aload_n hx hb dL_law_607 rfl (lv_at hl 1 rfl) ?_
  refine lv_aload_n hx hb dL_law_608 rfl (lv_at hl 0 rfl) ?_
  refine lv_iload_n hx hb dL_law_609 rfl (lv_at hl 3 rfl) ?_
  refine lv_iconst (v := 1) hx hb dL_law_610 (by decide) ?_
  refine lv_iadd hx hb dL_law_611 ?_
  refine top_eq (y := nI (i + 1)) (nI_add _ _) ?_
  refine va_sld hx hb hX hbl hbA hS (vp_in_nI (by omega) (by omega)) dL_law_612 ?_
  refine top_eq (y := xs (i + 1)) (by rw [nI_clamp (by omega)]) ?_
  refine lv_aload_n hx hb dL_law_613 rfl (lv_at hl 0 rfl) ?_
  refine lv_iload_n hx hb dL_law_614 rfl (lv_at hl 3 rfl) ?_
  refine lv_iconst (v := 2) hx hb dL_law_615 (by decide) ?_
  refine lv_iadd hx hb dL_law_616 ?_
  refine top_eq (y := nI (i + 2)) (nI_add _ _) ?_
  refine va_sld hx hb hX hbl hbA hS (vp_in_nI (by omega) (by omega)) dL_law_617 ?_
  refine top_eq (y := xs (i + 2)) (by rw [nI_clamp (by omega)]) ?_
  have hXc := bX_flood l G E cI cZ ad R V U tr sc sv sb hN (xs (i + 1)) (xs (i + 2)) (hho) (hle)
  refine lawLi (As := [.int (xs (i + 1)), .int (xs (i + 2))]) (rest := []) hx hb hml hown hts hXc k_31_22 cal_X6_flood ⟨(Nat.le_of_ble_eq_true rfl), (Nat.le_of_ble_eq_true rfl)⟩ hE hA hlow hD hS hK hP (fun u => (wX_fst _ _ _ _ _ _ _ _ _ _).trans (wX_fst _ _ _ _ _ _ _ _ _ _).symm) 0 6 rfl rfl rfl hl.1 rfl (Nat.le_of_ble_eq_true rfl) dL_law_618 ⟨(Nat.le_of_ble_eq_true rfl), (Nat.le_of_ble_eq_true rfl)⟩ (fun r1 u1 H locs hr1 hP hD hS => ?_)
  subst hr1
  obtain ⟨sc1, sv1, sb1⟩ := u1
  have hP : va_P G vwCl (wX cI cZ ad (upr (upr R 21 (if wiB (xs (i + 1)) 0 7 && wiB (xs (i + 2)) 0 999 then (if hN (xs (i + 1)).toNatClampNeg < 12 then upd (R 21) ((xs (i + 1)).toNatClampNeg * 12 + hN (xs (i + 1)).toNatClampNeg) (xs (i + 2)) else (R 21)) else (R 21))) 22 (if wiB (xs (i + 1)) 0 7 && wiB (xs (i + 2)) 0 999 then (if hN (xs (i + 1)).toNatClampNeg < 12 then upd (R 22) (xs (i + 1)).toNatClampNeg (nI (hN (xs (i + 1)).toNatClampNeg + 1)) else (R 22)) else (R 22))) V U tr sc1 sv1 sb1 ++ wM cI cZ am R V U tr tc tv) H := hP
  have hD : va_D (fun q : Nat => s.heap.size ≤ q) (wX cI cZ ad (upr (upr R 21 (if wiB (xs (i + 1)) 0 7 && wiB (xs (i + 2)) 0 999 then (if hN (xs (i + 1)).toNatClampNeg < 12 then upd (R 21) ((xs (i + 1)).toNatClampNeg * 12 + hN (xs (i + 1)).toNatClampNeg) (xs (i + 2)) else (R 21)) else (R 21))) 22 (if wiB (xs (i + 1)) 0 7 && wiB (xs (i + 2)) 0 999 then (if hN (xs (i + 1)).toNatClampNeg < 12 then upd (R 22) (xs (i + 1)).toNatClampNeg (nI (hN (xs (i + 1)).toNatClampNeg + 1)) else (R 22)) else (R 22))) V U tr sc1 sv1 sb1 ++ wM cI cZ am R V U tr tc tv) := hD
  refine lv_aload_n hx hb dL_law_621 rfl (lv_at hl 2 rfl) ?_
  refine lv_aload_n hx hb dL_law_622 rfl (lv_at hl 0 rfl) ?_
  refine lv_iload_n hx hb dL_law_623 rfl (lv_at hl 3 rfl) ?_
  refine lv_iconst (v := 1) hx hb dL_law_624 (by decide) ?_
  refine lv_iadd hx hb dL_law_625 ?_
  refine top_eq (y := nI (i + 1)) (nI_add _ _) ?_
  refine va_sld hx hb hX hbl hbA hS (vp_in_nI (by omega) (by omega)) dL_law_626 ?_
  refine top_eq (y := xs (i + 1)) (by rw [nI_clamp (by omega)]) ?_
  refine lv_aload_n hx hb dL_law_627 rfl (lv_at hl 0 rfl) ?_
  refine lv_iload_n hx hb dL_law_628 rfl (lv_at hl 3 rfl) ?_
  refine lv_iconst (v := 2) hx hb dL_law_629 (by decide) ?_
  refine lv_iadd hx hb dL_law_630 ?_
  refine top_eq (y := nI (i + 2)) (nI_add _ _) ?_
  refine va_sld hx hb hX hbl hbA hS (vp_in_nI (by omega) (by omega)) dL_law_631 ?_
  refine top_eq (y := xs (i + 2)) (by rw [nI_clamp (by omega)]) ?_
  have hM := bM_flood l G E cI cZ am R V U tr tc tv hN (xs (i + 1)) (xs (i + 2)) (hho) (hle)
  refine lawRi (As := [.int (xs (i + 1)), .int (xs (i + 2))]) (rest := [.int (if wiB (xs (i + 1)) 0 7 && wiB (xs (i + 2)) 0 999 then (if hN (xs (i + 1)).toNatClampNeg < 12 then nI (hN (xs (i + 1)).toNatClampNeg + 1) else (-3)) else (-1))]) hx hb hml hown hts hM k_32_10 cal_X7_flood ⟨(Nat.le_of_ble_eq_true rfl), (Nat.le_of_ble_eq_true rfl)⟩ hE hA hlow hD hS hK hP (fun u => (wM_fst _ _ _ _ _ _ _ _ _ _).trans (wM_fst _ _ _ _ _ _ _ _ _ _).symm) 0 7 rfl rfl rfl hl.1 rfl (Nat.le_of_ble_eq_true rfl) dL_law_632 ⟨(Nat.le_of_ble_eq_true rfl), (Nat.le_of_ble_eq_true rfl)⟩ (fun r2 u2 H locs hr2 hP hD hS => ?_)
  subst hr2
  obtain ⟨tc1, tv1⟩ := u2
  have hP : va_P G vwCl (wX cI cZ ad (upr (upr R 21 (if wiB (xs (i + 1)) 0 7 && wiB (xs (i + 2)) 0 999 then (if hN (xs (i + 1)).toNatClampNeg < 12 then upd (R 21) ((xs (i + 1)).toNatClampNeg * 12 + hN (xs (i + 1)).toNatClampNeg) (xs (i + 2)) else (R 21)) else (R 21))) 22 (if wiB (xs (i + 1)) 0 7 && wiB (xs (i + 2)) 0 999 then (if hN (xs (i + 1)).toNatClampNeg < 12 then upd (R 22) (xs (i + 1)).toNatClampNeg (nI (hN (xs (i + 1)).toNatClampNeg + 1)) else (R 22)) else (R 22))) V U tr sc1 sv1 sb1 ++ wM cI cZ am (upr (upr R 21 (if wiB (xs (i + 1)) 0 7 && wiB (xs (i + 2)) 0 999 then (if hN (xs (i + 1)).toNatClampNeg < 12 then upd (R 21) ((xs (i + 1)).toNatClampNeg * 12 + hN (xs (i + 1)).toNatClampNeg) (xs (i + 2)) else (R 21)) else (R 21))) 22 (if wiB (xs (i + 1)) 0 7 && wiB (xs (i + 2)) 0 999 then (if hN (xs (i + 1)).toNatClampNeg < 12 then upd (R 22) (xs (i + 1)).toNatClampNeg (nI (hN (xs (i + 1)).toNatClampNeg + 1)) else (R 22)) else (R 22))) V U tr tc1 tv1) H := hP
  have hD : va_D (fun q : Nat => s.heap.size ≤ q) (wX cI cZ ad (upr (upr R 21 (if wiB (xs (i + 1)) 0 7 && wiB (xs (i + 2)) 0 999 then (if hN (xs (i + 1)).toNatClampNeg < 12 then upd (R 21) ((xs (i + 1)).toNatClampNeg * 12 + hN (xs (i + 1)).toNatClampNeg) (xs (i + 2)) else (R 21)) else (R 21))) 22 (if wiB (xs (i + 1)) 0 7 && wiB (xs (i + 2)) 0 999 then (if hN (xs (i + 1)).toNatClampNeg < 12 then upd (R 22) (xs (i + 1)).toNatClampNeg (nI (hN (xs (i + 1)).toNatClampNeg + 1)) else (R 22)) else (R 22))) V U tr sc1 sv1 sb1 ++ wM cI cZ am (upr (upr R 21 (if wiB (xs (i + 1)) 0 7 && wiB (xs (i + 2)) 0 999 then (if hN (xs (i + 1)).toNatClampNeg < 12 then upd (R 21) ((xs (i + 1)).toNatClampNeg * 12 + hN (xs (i + 1)).toNatClampNeg) (xs (i + 2)) else (R 21)) else (R 21))) 22 (if wiB (xs (i + 1)) 0 7 && wiB (xs (i + 2)) 0 999 then (if hN (xs (i + 1)).toNatClampNeg < 12 then upd (R 22) (xs (i + 1)).toNatClampNeg (nI (hN (xs (i + 1)).toNatClampNeg + 1)) else (R 22)) else (R 22))) V U tr tc1 tv1) := D_law hD
  refine lv_icmp_eq (tgt := 1043) hx hb dL_law_635 (by decide) (fun c1 => ?_) (fun c1 => ?_)
  · exact kk (upr (upr R 21 (if wiB (xs (i + 1)) 0 7 && wiB (xs (i + 2)) 0 999 then (if hN (xs (i + 1)).toNatClampNeg < 12 then upd (R 21) ((xs (i + 1)).toNatClampNeg * 12 + hN (xs (i + 1)).toNatClampNeg) (xs (i + 2)) else (R 21)) else (R 21))) 22 (if wiB (xs (i + 1)) 0 7 && wiB (xs (i + 2)) 0 999 then (if hN (xs (i + 1)).toNatClampNeg < 12 then upd (R 22) (xs (i + 1)).toNatClampNeg (nI (hN (xs (i + 1)).toNatClampNeg + 1)) else (R 22)) else (R 22))) V U tr sc1 sv1 sb1 tc1 tv1 (⟨hI.1, hI.2.1, hI.2.2.1, hI.2.2.2.1, flood_inv hI.2.2.2.2.1 hho hle, hI.2.2.2.2.2⟩) H locs hP hD hS
  · exact absurd (rfl) c1
set_option maxHeartbeats 4000000 in
set_option maxRecDepth 100000 in
theorem L_ebb {p : Program} {l : Launch} {e : Env} {s : State} {m : MethodId} {below : List Frame} {meth : Method} {c : Code} {b L : Nat} {xs : Nat → Int32} {G : va_G} {E : EvT} {cI cZ : ClassId} {ad am : Nat → Nat} {Q : State → Prop} (hx : p.tables.exec = Jvm.exec) (hb : c.code = code) (hml : c.maxLocals = 4) (hown : s.vm.findClass RL = some m.cls) (hts : ∀ w ∈ wAll, w.before #[Value.ref b] s = true) (hX : va_X b L xs s s.heap) (hbl : b < s.heap.size) (hE : Ev E s) (hE1 : E.1 = s.heap.size) (hK : va_K G vwCl [(cI, .int), (cZ, .boolean)] s) (hL : L ≤ 3072) {i : Nat} (hi : i + 6 ≤ L) (R : Nat → Nat → Int32) (V : Nat → Int32) (U : Nat → Nat) (tr : Int64) (sc : Nat → Nat → Int32) (sv : Nat → Int32) (sb : Bool) (tc : Nat → Nat → Int32) (tv : Nat → Int32) (hI : Inv R V U) {H : Heap} {locs : List Loc} (hP : va_P G vwCl (wX cI cZ ad R V U tr sc sv sb ++ wM cI cZ am R V U tr tc tv) H) (hD : va_D (fun q : Nat => s.heap.size ≤ q) (wX cI cZ ad R V U tr sc sv sb ++ wM cI cZ am R V U tr tc tv)) (hS : va_S (fun q : Nat => s.heap.size ≤ q) s.heap H locs) {ls : Array Slot} (hl : lv_has ls 4 [(0, .ref b), (1, .ref (ad 0)), (2, .ref (am 0)), (3, .int (nI i))]) (kk : ∀ (R : Nat → Nat → Int32) (V : Nat → Int32) (U : Nat → Nat) (tr : Int64) (sc : Nat → Nat → Int32) (sv : Nat → Int32) (sb : Bool) (tc : Nat → Nat → Int32) (tv : Nat → Int32), Inv R V U → ∀ (H : Heap) (locs : List Loc), va_P G vwCl (wX cI cZ ad R V U tr sc sv sb ++ wM cI cZ am R V U tr tc tv) H → va_D (fun q : Nat => s.heap.size ≤ q) (wX cI cZ ad R V U tr sc sv sb ++ wM cI cZ am R V U tr tc tv) → va_S (fun q : Nat => s.heap.size ≤ q) s.heap H locs → W p l e room_1 s m #[Value.ref b] below meth c H locs 81 3416 Q (F0 m 1043 ls [])) : W p l e room_1 s m #[Value.ref b] below meth c H locs 81 3416 Q (F0 m 640 ls []) := by
  have hA : ∀ q : Nat, s.heap.size ≤ q → (fun q : Nat => s.heap.size ≤ q) q := fun _ h => h
  have hbA : ¬ (fun q : Nat => s.heap.size ≤ q) b := Nat.not_le.mpr hbl
  have hlow : ∀ q : Nat, (fun q : Nat => s.heap.size ≤ q) q → E.1 ≤ q := fun _ h => by rw [hE1]; exact h
  obtain ⟨⟨i01, i6k, ile, ihd, ign, l9, hl6, hla⟩, hi1, hi2, ⟨hTB, hTn⟩, ⟨hse, hwa, hN, hho, hle⟩, ⟨⟨gN, hgp, hgl⟩, hgr, ⟨zN, hcz, hzl⟩, hng, hnc, hGA, hCA, s9, hs9, hsl⟩, ⟨hnw, wx, wz, hW⟩, hm0_, hm1_⟩ := id hI
  refine lv_aload_n hx hb dL_law_640 rfl (lv_at hl 1 rfl) ?_
  refine lv_aload_n hx hb dL_law_641 rfl (lv_at hl 0 rfl) ?_
  refine lv_iload_n hx hb dL_law_642 rfl (lv_at hl 3 rfl) ?_
  refine lv_iconst (v := 1) hx hb dL_law_643 (by decide) ?_
  refine lv_iadd hx hb dL_law_644 ?_
  refine top_eq (y := nI (i + 1)) (nI_add _ _) ?_
  refine va_sld hx hb hX hbl hbA hS (vp_in_nI (by omega) (by omega)) dL_law_645 ?_
  refine top_eq (y := xs (i + 1)) (by rw [nI_clamp (by omega)]) ?_
  have hXc := bX_ebb l G E cI cZ ad R V U tr sc sv sb (xs (i + 1))
  refine lawLi (As := [.int (xs (i + 1))]) (rest := []) hx hb hml hown hts hXc k_32_14 cal_X6_ebb ⟨(Nat.le_of_ble_eq_true rfl), (Nat.le_of_ble_eq_true rfl)⟩ hE hA hlow hD hS hK hP (fun u => (wX_fst _ _ _ _ _ _ _ _ _ _).trans (wX_fst _ _ _ _ _ _ _ _ _ _).symm) 0 6 rfl rfl rfl hl.1 rfl (Nat.le_of_ble_eq_true rfl) dL_law_646 ⟨(Nat.le_of_ble_eq_true rfl), (Nat.le_of_ble_eq_true rfl)⟩ (fun r1 u1 H locs hr1 hP hD hS => ?_)
  subst hr1
  obtain ⟨sc1, sv1, sb1⟩ := u1
  have hP : va_P G vwCl (wX cI cZ ad (upr R 22 (if wiB (xs (i + 1)) 0 7 then upd (R 22) (xs (i + 1)).toNatClampNeg 0 else (R 22))) V U tr sc1 sv1 sb1 ++ wM cI cZ am R V U tr tc tv) H := hP
  have hD : va_D (fun q : Nat => s.heap.size ≤ q) (wX cI cZ ad (upr R 22 (if wiB (xs (i + 1)) 0 7 then upd (R 22) (xs (i + 1)).toNatClampNeg 0 else (R 22))) V U tr sc1 sv1 sb1 ++ wM cI cZ am R V U tr tc tv) := hD
  refine lv_aload_n hx hb dL_law_649 rfl (lv_at hl 2 rfl) ?_
  refine lv_aload_n hx hb dL_law_650 rfl (lv_at hl 0 rfl) ?_
  refine lv_iload_n hx hb dL_law_651 rfl (lv_at hl 3 rfl) ?_
  refine lv_iconst (v := 1) hx hb dL_law_652 (by decide) ?_
  refine lv_iadd hx hb dL_law_653 ?_
  refine top_eq (y := nI (i + 1)) (nI_add _ _) ?_
  refine va_sld hx hb hX hbl hbA hS (vp_in_nI (by omega) (by omega)) dL_law_654 ?_
  refine top_eq (y := xs (i + 1)) (by rw [nI_clamp (by omega)]) ?_
  have hM := bM_ebb l G E cI cZ am R V U tr tc tv (xs (i + 1))
  refine lawRi (As := [.int (xs (i + 1))]) (rest := [.int (if wiB (xs (i + 1)) 0 7 then (R 22) (xs (i + 1)).toNatClampNeg else (-1))]) hx hb hml hown hts hM k_32_22 cal_X7_ebb ⟨(Nat.le_of_ble_eq_true rfl), (Nat.le_of_ble_eq_true rfl)⟩ hE hA hlow hD hS hK hP (fun u => (wM_fst _ _ _ _ _ _ _ _ _ _).trans (wM_fst _ _ _ _ _ _ _ _ _ _).symm) 0 7 rfl rfl rfl hl.1 rfl (Nat.le_of_ble_eq_true rfl) dL_law_655 ⟨(Nat.le_of_ble_eq_true rfl), (Nat.le_of_ble_eq_true rfl)⟩ (fun r2 u2 H locs hr2 hP hD hS => ?_)
  subst hr2
  obtain ⟨tc1, tv1⟩ := u2
  have hP : va_P G vwCl (wX cI cZ ad (upr R 22 (if wiB (xs (i + 1)) 0 7 then upd (R 22) (xs (i + 1)).toNatClampNeg 0 else (R 22))) V U tr sc1 sv1 sb1 ++ wM cI cZ am (upr R 22 (if wiB (xs (i + 1)) 0 7 then upd (R 22) (xs (i + 1)).toNatClampNeg 0 else (R 22))) V U tr tc1 tv1) H := hP
  have hD : va_D (fun q : Nat => s.heap.size ≤ q) (wX cI cZ ad (upr R 22 (if wiB (xs (i + 1)) 0 7 then upd (R 22) (xs (i + 1)).toNatClampNeg 0 else (R 22))) V U tr sc1 sv1 sb1 ++ wM cI cZ am (upr R 22 (if wiB (xs (i + 1)) 0 7 then upd (R 22) (xs (i + 1)).toNatClampNeg 0 else (R 22))) V U tr tc1 tv1) := D_law hD
  refine lv_icmp_eq (tgt := 1043) hx hb dL_law_658 (by decide) (fun c1 => ?_) (fun c1 => ?_)
  · exact kk (upr R 22 (if wiB (xs (i + 1)) 0 7 then upd (R 22) (xs (i + 1)).toNatClampNeg 0 else (R 22))) V U tr sc1 sv1 sb1 tc1 tv1 (⟨hI.1, hI.2.1, hI.2.2.1, hI.2.2.2.1, ebb_inv hI.2.2.2.2.1, hI.2.2.2.2.2⟩) H locs hP hD hS
  · exact absurd (rfl) c1
set_option maxHeartbeats 4000000 in
set_option maxRecDepth 100000 in
theorem L_route {p : Program} {l : Launch} {e : Env} {s : State} {m : MethodId} {below : List Frame} {meth : Method} {c : Code} {b L : Nat} {xs : Nat → Int32} {G : va_G} {E : EvT} {cI cZ : ClassId} {ad am : Nat → Nat} {Q : State → Prop} (hx : p.tables.exec = Jvm.exec) (hb : c.code = code) (hml : c.maxLocals = 4) (hown : s.vm.findClass RL = some m.cls) (hts : ∀ w ∈ wAll, w.before #[Value.ref b] s = true) (hX : va_X b L xs s s.heap) (hbl : b < s.heap.size) (hE : Ev E s) (hE1 : E.1 = s.heap.size) (hK : va_K G vwCl [(cI, .int), (cZ, .boolean)] s) (hL : L ≤ 3072) {i : Nat} (hi : i + 6 ≤ L) (R : Nat → Nat → Int32) (V : Nat → Int32) (U : Nat → Nat) (tr : Int64) (sc : Nat → Nat → Int32) (sv : Nat → Int32) (sb : Bool) (tc : Nat → Nat → Int32) (tv : Nat → Int32) (hI : Inv R V U) {H : Heap} {locs : List Loc} (hP : va_P G vwCl (wX cI cZ ad R V U tr sc sv sb ++ wM cI cZ am R V U tr tc tv) H) (hD : va_D (fun q : Nat => s.heap.size ≤ q) (wX cI cZ ad R V U tr sc sv sb ++ wM cI cZ am R V U tr tc tv)) (hS : va_S (fun q : Nat => s.heap.size ≤ q) s.heap H locs) {ls : Array Slot} (hl : lv_has ls 4 [(0, .ref b), (1, .ref (ad 0)), (2, .ref (am 0)), (3, .int (nI i))]) (kk : ∀ (R : Nat → Nat → Int32) (V : Nat → Int32) (U : Nat → Nat) (tr : Int64) (sc : Nat → Nat → Int32) (sv : Nat → Int32) (sb : Bool) (tc : Nat → Nat → Int32) (tv : Nat → Int32), Inv R V U → ∀ (H : Heap) (locs : List Loc), va_P G vwCl (wX cI cZ ad R V U tr sc sv sb ++ wM cI cZ am R V U tr tc tv) H → va_D (fun q : Nat => s.heap.size ≤ q) (wX cI cZ ad R V U tr sc sv sb ++ wM cI cZ am R V U tr tc tv) → va_S (fun q : Nat => s.heap.size ≤ q) s.heap H locs → W p l e room_1 s m #[Value.ref b] below meth c H locs 81 3416 Q (F0 m 1043 ls [])) : W p l e room_1 s m #[Value.ref b] below meth c H locs 81 3416 Q (F0 m 663 ls []) := by
  have hA : ∀ q : Nat, s.heap.size ≤ q → (fun q : Nat => s.heap.size ≤ q) q := fun _ h => h
  have hbA : ¬ (fun q : Nat => s.heap.size ≤ q) b := Nat.not_le.mpr hbl
  have hlow : ∀ q : Nat, (fun q : Nat => s.heap.size ≤ q) q → E.1 ≤ q := fun _ h => by rw [hE1]; exact h
  obtain ⟨⟨i01, i6k, ile, ihd, ign, l9, hl6, hla⟩, hi1, hi2, ⟨hTB, hTn⟩, ⟨hse, hwa, hN, hho, hle⟩, ⟨⟨gN, hgp, hgl⟩, hgr, ⟨zN, hcz, hzl⟩, hng, hnc, hGA, hCA, s9, hs9, hsl⟩, ⟨hnw, wx, wz, hW⟩, hm0_, hm1_⟩ := id hI
  refine lv_aload_n hx hb dL_law_663 rfl (lv_at hl 1 rfl) ?_
  refine lv_aload_n hx hb dL_law_664 rfl (lv_at hl 0 rfl) ?_
  refine lv_iload_n hx hb dL_law_665 rfl (lv_at hl 3 rfl) ?_
  refine lv_iconst (v := 1) hx hb dL_law_666 (by decide) ?_
  refine lv_iadd hx hb dL_law_667 ?_
  refine top_eq (y := nI (i + 1)) (nI_add _ _) ?_
  refine va_sld hx hb hX hbl hbA hS (vp_in_nI (by omega) (by omega)) dL_law_668 ?_
  refine top_eq (y := xs (i + 1)) (by rw [nI_clamp (by omega)]) ?_
  refine lv_aload_n hx hb dL_law_669 rfl (lv_at hl 0 rfl) ?_
  refine lv_iload_n hx hb dL_law_670 rfl (lv_at hl 3 rfl) ?_
  refine lv_iconst (v := 2) hx hb dL_law_671 (by decide) ?_
  refine lv_iadd hx hb dL_law_672 ?_
  refine top_eq (y := nI (i + 2)) (nI_add _ _) ?_
  refine va_sld hx hb hX hbl hbA hS (vp_in_nI (by omega) (by omega)) dL_law_673 ?_
  refine top_eq (y := xs (i + 2)) (by rw [nI_clamp (by omega)]) ?_
  refine lv_aload_n hx hb dL_law_674 rfl (lv_at hl 0 rfl) ?_
  refine lv_iload_n hx hb dL_law_675 rfl (lv_at hl 3 rfl) ?_
  refine lv_iconst (v := 3) hx hb dL_law_676 (by decide) ?_
  refine lv_iadd hx hb dL_law_677 ?_
  refine top_eq (y := nI (i + 3)) (nI_add _ _) ?_
  refine va_sld hx hb hX hbl hbA hS (vp_in_nI (by omega) (by omega)) dL_law_678 ?_
  refine top_eq (y := xs (i + 3)) (by rw [nI_clamp (by omega)]) ?_
  have hXc := bX_route l G E cI cZ ad R V U tr sc sv sb hN (xs (i + 1)) (xs (i + 2)) (xs (i + 3)) (hho) (hle)
  refine lawLi (As := [.int (xs (i + 1)), .int (xs (i + 2)), .int (xs (i + 3))]) (rest := []) hx hb hml hown hts hXc k_33_2 cal_X6_route ⟨(Nat.le_of_ble_eq_true rfl), (Nat.le_of_ble_eq_true rfl)⟩ hE hA hlow hD hS hK hP (fun u => (wX_fst _ _ _ _ _ _ _ _ _ _).trans (wX_fst _ _ _ _ _ _ _ _ _ _).symm) 0 6 rfl rfl rfl hl.1 rfl (Nat.le_of_ble_eq_true rfl) dL_law_679 ⟨(Nat.le_of_ble_eq_true rfl), (Nat.le_of_ble_eq_true rfl)⟩ (fun r1 u1 H locs hr1 hP hD hS => ?_)
  subst hr1
  obtain ⟨sc1, sv1, sb1⟩ := u1
  have hP : va_P G vwCl (wX cI cZ ad R V U tr sc1 sv1 sb1 ++ wM cI cZ am R V U tr tc tv) H := hP
  have hD : va_D (fun q : Nat => s.heap.size ≤ q) (wX cI cZ ad R V U tr sc1 sv1 sb1 ++ wM cI cZ am R V U tr tc tv) := hD
  refine lv_aload_n hx hb dL_law_682 rfl (lv_at hl 2 rfl) ?_
  refine lv_aload_n hx hb dL_law_683 rfl (lv_at hl 0 rfl) ?_
  refine lv_iload_n hx hb dL_law_684 rfl (lv_at hl 3 rfl) ?_
  refine lv_iconst (v := 1) hx hb dL_law_685 (by decide) ?_
  refine lv_iadd hx hb dL_law_686 ?_
  refine top_eq (y := nI (i + 1)) (nI_add _ _) ?_
  refine va_sld hx hb hX hbl hbA hS (vp_in_nI (by omega) (by omega)) dL_law_687 ?_
  refine top_eq (y := xs (i + 1)) (by rw [nI_clamp (by omega)]) ?_
  refine lv_aload_n hx hb dL_law_688 rfl (lv_at hl 0 rfl) ?_
  refine lv_iload_n hx hb dL_law_689 rfl (lv_at hl 3 rfl) ?_
  refine lv_iconst (v := 2) hx hb dL_law_690 (by decide) ?_
  refine lv_iadd hx hb dL_law_691 ?_
  refine top_eq (y := nI (i + 2)) (nI_add _ _) ?_
  refine va_sld hx hb hX hbl hbA hS (vp_in_nI (by omega) (by omega)) dL_law_692 ?_
  refine top_eq (y := xs (i + 2)) (by rw [nI_clamp (by omega)]) ?_
  refine lv_aload_n hx hb dL_law_693 rfl (lv_at hl 0 rfl) ?_
  refine lv_iload_n hx hb dL_law_694 rfl (lv_at hl 3 rfl) ?_
  refine lv_iconst (v := 3) hx hb dL_law_695 (by decide) ?_
  refine lv_iadd hx hb dL_law_696 ?_
  refine top_eq (y := nI (i + 3)) (nI_add _ _) ?_
  refine va_sld hx hb hX hbl hbA hS (vp_in_nI (by omega) (by omega)) dL_law_697 ?_
  refine top_eq (y := xs (i + 3)) (by rw [nI_clamp (by omega)]) ?_
  have hM := bM_route l G E cI cZ am R V U tr tc tv hN (xs (i + 1)) (xs (i + 2)) (xs (i + 3)) (hho) (hle)
  refine lawRi (As := [.int (xs (i + 1)), .int (xs (i + 2)), .int (xs (i + 3))]) (rest := [.int (if wiB (xs (i + 1)) 0 7 && (wiB (xs (i + 2)) 0 9999 && wiB (xs (i + 3)) 0 4) then (if (xs (i + 3)) = 0 then (hrR (R 20) (R 21) (xs (i + 2)) (xs (i + 1)).toNatClampNeg (hN (xs (i + 1)).toNatClampNeg)).1 else if (xs (i + 3)) = 1 then (hrR (R 20) (R 21) (xs (i + 2)) (xs (i + 1)).toNatClampNeg (hN (xs (i + 1)).toNatClampNeg)).2.1 else if (xs (i + 3)) = 2 then (hrR (R 20) (R 21) (xs (i + 2)) (xs (i + 1)).toNatClampNeg (hN (xs (i + 1)).toNatClampNeg)).2.2.1 else if (xs (i + 3)) = 3 then bI (sfS (R 20) (R 21) hN (xs (i + 2)) (xs (i + 1)).toNatClampNeg) else (hrR (R 20) (R 21) (xs (i + 2)) (xs (i + 1)).toNatClampNeg (hN (xs (i + 1)).toNatClampNeg)).2.2.2) else (-1))]) hx hb hml hown hts hM k_34_0 cal_X7_route ⟨(Nat.le_of_ble_eq_true rfl), (Nat.le_of_ble_eq_true rfl)⟩ hE hA hlow hD hS hK hP (fun u => (wM_fst _ _ _ _ _ _ _ _ _ _).trans (wM_fst _ _ _ _ _ _ _ _ _ _).symm) 0 7 rfl rfl rfl hl.1 rfl (Nat.le_of_ble_eq_true rfl) dL_law_698 ⟨(Nat.le_of_ble_eq_true rfl), (Nat.le_of_ble_eq_true rfl)⟩ (fun r2 u2 H locs hr2 hP hD hS => ?_)
  subst hr2
  obtain ⟨tc1, tv1⟩ := u2
  have hP : va_P G vwCl (wX cI cZ ad R V U tr sc1 sv1 sb1 ++ wM cI cZ am R V U tr tc1 tv1) H := hP
  have hD : va_D (fun q : Nat => s.heap.size ≤ q) (wX cI cZ ad R V U tr sc1 sv1 sb1 ++ wM cI cZ am R V U tr tc1 tv1) := D_law hD
  refine lv_icmp_eq (tgt := 1043) hx hb dL_law_701 (by decide) (fun c1 => ?_) (fun c1 => ?_)
  · exact kk R V U tr sc1 sv1 sb1 tc1 tv1 (hI) H locs hP hD hS
  · exact absurd (by rw [(hr_eq hse hwa _ _ (hle _)).1, sf_eq hse hwa hle]) c1
set_option maxHeartbeats 4000000 in
set_option maxRecDepth 100000 in
theorem L_best {p : Program} {l : Launch} {e : Env} {s : State} {m : MethodId} {below : List Frame} {meth : Method} {c : Code} {b L : Nat} {xs : Nat → Int32} {G : va_G} {E : EvT} {cI cZ : ClassId} {ad am : Nat → Nat} {Q : State → Prop} (hx : p.tables.exec = Jvm.exec) (hb : c.code = code) (hml : c.maxLocals = 4) (hown : s.vm.findClass RL = some m.cls) (hts : ∀ w ∈ wAll, w.before #[Value.ref b] s = true) (hX : va_X b L xs s s.heap) (hbl : b < s.heap.size) (hE : Ev E s) (hE1 : E.1 = s.heap.size) (hK : va_K G vwCl [(cI, .int), (cZ, .boolean)] s) (hL : L ≤ 3072) {i : Nat} (hi : i + 6 ≤ L) (R : Nat → Nat → Int32) (V : Nat → Int32) (U : Nat → Nat) (tr : Int64) (sc : Nat → Nat → Int32) (sv : Nat → Int32) (sb : Bool) (tc : Nat → Nat → Int32) (tv : Nat → Int32) (hI : Inv R V U) {H : Heap} {locs : List Loc} (hP : va_P G vwCl (wX cI cZ ad R V U tr sc sv sb ++ wM cI cZ am R V U tr tc tv) H) (hD : va_D (fun q : Nat => s.heap.size ≤ q) (wX cI cZ ad R V U tr sc sv sb ++ wM cI cZ am R V U tr tc tv)) (hS : va_S (fun q : Nat => s.heap.size ≤ q) s.heap H locs) {ls : Array Slot} (hl : lv_has ls 4 [(0, .ref b), (1, .ref (ad 0)), (2, .ref (am 0)), (3, .int (nI i))]) (kk : ∀ (R : Nat → Nat → Int32) (V : Nat → Int32) (U : Nat → Nat) (tr : Int64) (sc : Nat → Nat → Int32) (sv : Nat → Int32) (sb : Bool) (tc : Nat → Nat → Int32) (tv : Nat → Int32), Inv R V U → ∀ (H : Heap) (locs : List Loc), va_P G vwCl (wX cI cZ ad R V U tr sc sv sb ++ wM cI cZ am R V U tr tc tv) H → va_D (fun q : Nat => s.heap.size ≤ q) (wX cI cZ ad R V U tr sc sv sb ++ wM cI cZ am R V U tr tc tv) → va_S (fun q : Nat => s.heap.size ≤ q) s.heap H locs → W p l e room_1 s m #[Value.ref b] below meth c H locs 81 3416 Q (F0 m 1043 ls [])) : W p l e room_1 s m #[Value.ref b] below meth c H locs 81 3416 Q (F0 m 706 ls []) := by
  have hA : ∀ q : Nat, s.heap.size ≤ q → (fun q : Nat => s.heap.size ≤ q) q := fun _ h => h
  have hbA : ¬ (fun q : Nat => s.heap.size ≤ q) b := Nat.not_le.mpr hbl
  have hlow : ∀ q : Nat, (fun q : Nat => s.heap.size ≤ q) q → E.1 ≤ q := fun _ h => by rw [hE1]; exact h
  obtain ⟨⟨i01, i6k, ile, ihd, ign, l9, hl6, hla⟩, hi1, hi2, ⟨hTB, hTn⟩, ⟨hse, hwa, hN, hho, hle⟩, ⟨⟨gN, hgp, hgl⟩, hgr, ⟨zN, hcz, hzl⟩, hng, hnc, hGA, hCA, s9, hs9, hsl⟩, ⟨hnw, wx, wz, hW⟩, hm0_, hm1_⟩ := id hI
  refine lv_aload_n hx hb dL_law_706 rfl (lv_at hl 1 rfl) ?_
  refine lv_aload_n hx hb dL_law_707 rfl (lv_at hl 0 rfl) ?_
  refine lv_iload_n hx hb dL_law_708 rfl (lv_at hl 3 rfl) ?_
  refine lv_iconst (v := 1) hx hb dL_law_709 (by decide) ?_
  refine lv_iadd hx hb dL_law_710 ?_
  refine top_eq (y := nI (i + 1)) (nI_add _ _) ?_
  refine va_sld hx hb hX hbl hbA hS (vp_in_nI (by omega) (by omega)) dL_law_711 ?_
  refine top_eq (y := xs (i + 1)) (by rw [nI_clamp (by omega)]) ?_
  have hXc := bX_best l G E cI cZ ad R V U tr sc sv sb hN (xs (i + 1)) (hho) (hle)
  refine lawLi (As := [.int (xs (i + 1))]) (rest := []) hx hb hml hown hts hXc k_34_16 cal_X6_best ⟨(Nat.le_of_ble_eq_true rfl), (Nat.le_of_ble_eq_true rfl)⟩ hE hA hlow hD hS hK hP (fun u => (wX_fst _ _ _ _ _ _ _ _ _ _).trans (wX_fst _ _ _ _ _ _ _ _ _ _).symm) 0 6 rfl rfl rfl hl.1 rfl (Nat.le_of_ble_eq_true rfl) dL_law_712 ⟨(Nat.le_of_ble_eq_true rfl), (Nat.le_of_ble_eq_true rfl)⟩ (fun r1 u1 H locs hr1 hP hD hS => ?_)
  subst hr1
  obtain ⟨sc1, sv1, sb1⟩ := u1
  have hP : va_P G vwCl (wX cI cZ ad R V U tr sc1 sv1 sb1 ++ wM cI cZ am R V U tr tc tv) H := hP
  have hD : va_D (fun q : Nat => s.heap.size ≤ q) (wX cI cZ ad R V U tr sc1 sv1 sb1 ++ wM cI cZ am R V U tr tc tv) := hD
  refine lv_aload_n hx hb dL_law_715 rfl (lv_at hl 2 rfl) ?_
  refine lv_aload_n hx hb dL_law_716 rfl (lv_at hl 0 rfl) ?_
  refine lv_iload_n hx hb dL_law_717 rfl (lv_at hl 3 rfl) ?_
  refine lv_iconst (v := 1) hx hb dL_law_718 (by decide) ?_
  refine lv_iadd hx hb dL_law_719 ?_
  refine top_eq (y := nI (i + 1)) (nI_add _ _) ?_
  refine va_sld hx hb hX hbl hbA hS (vp_in_nI (by omega) (by omega)) dL_law_720 ?_
  refine top_eq (y := xs (i + 1)) (by rw [nI_clamp (by omega)]) ?_
  have hM := bM_best l G E cI cZ am R V U tr tc tv hN (xs (i + 1)) (hho) (hle)
  refine lawRi (As := [.int (xs (i + 1))]) (rest := [.int (if wiB (xs (i + 1)) 0 1 then (if (xs (i + 1)) = 0 then (bruS (R 20) (R 21) hN 21).1 else (bruS (R 20) (R 21) hN 21).2) else (-1))]) hx hb hml hown hts hM k_35_2 cal_X7_best ⟨(Nat.le_of_ble_eq_true rfl), (Nat.le_of_ble_eq_true rfl)⟩ hE hA hlow hD hS hK hP (fun u => (wM_fst _ _ _ _ _ _ _ _ _ _).trans (wM_fst _ _ _ _ _ _ _ _ _ _).symm) 0 7 rfl rfl rfl hl.1 rfl (Nat.le_of_ble_eq_true rfl) dL_law_721 ⟨(Nat.le_of_ble_eq_true rfl), (Nat.le_of_ble_eq_true rfl)⟩ (fun r2 u2 H locs hr2 hP hD hS => ?_)
  subst hr2
  obtain ⟨tc1, tv1⟩ := u2
  have hP : va_P G vwCl (wX cI cZ ad R V U tr sc1 sv1 sb1 ++ wM cI cZ am R V U tr tc1 tv1) H := hP
  have hD : va_D (fun q : Nat => s.heap.size ≤ q) (wX cI cZ ad R V U tr sc1 sv1 sb1 ++ wM cI cZ am R V U tr tc1 tv1) := D_law hD
  refine lv_icmp_eq (tgt := 1043) hx hb dL_law_724 (by decide) (fun c1 => ?_) (fun c1 => ?_)
  · exact kk R V U tr sc1 sv1 sb1 tc1 tv1 (hI) H locs hP hD hS
  · exact absurd (by rw [bru_eq hse hwa hle]) c1
