set_option maxHeartbeats 4000000 in
set_option maxRecDepth 100000 in
theorem L_gauge {p : Program} {l : Launch} {e : Env} {s : State} {m : MethodId} {below : List Frame} {meth : Method} {c : Code} {b L : Nat} {xs : Nat → Int32} {G : va_G} {E : EvT} {cI cZ : ClassId} {ad am : Nat → Nat} {Q : State → Prop} (hx : p.tables.exec = Jvm.exec) (hb : c.code = code) (hml : c.maxLocals = 4) (hown : s.vm.findClass RL = some m.cls) (hts : ∀ w ∈ wAll, w.before #[Value.ref b] s = true) (hX : va_X b L xs s s.heap) (hbl : b < s.heap.size) (hE : Ev E s) (hE1 : E.1 = s.heap.size) (hK : va_K G vwCl [(cI, .int), (cZ, .boolean)] s) (hL : L ≤ 3072) {i : Nat} (hi : i + 6 ≤ L) (R : Nat → Nat → Int32) (V : Nat → Int32) (U : Nat → Nat) (tr : Int64) (sc : Nat → Nat → Int32) (sv : Nat → Int32) (sb : Bool) (tc : Nat → Nat → Int32) (tv : Nat → Int32) (hI : Inv R V U) {H : Heap} {locs : List Loc} (hP : va_P G vwCl (wX cI cZ ad R V U tr sc sv sb ++ wM cI cZ am R V U tr tc tv) H) (hD : va_D (fun q : Nat => s.heap.size ≤ q) (wX cI cZ ad R V U tr sc sv sb ++ wM cI cZ am R V U tr tc tv)) (hS : va_S (fun q : Nat => s.heap.size ≤ q) s.heap H locs) {ls : Array Slot} (hl : lv_has ls 4 [(0, .ref b), (1, .ref (ad 0)), (2, .ref (am 0)), (3, .int (nI i))]) (kk : ∀ (R : Nat → Nat → Int32) (V : Nat → Int32) (U : Nat → Nat) (tr : Int64) (sc : Nat → Nat → Int32) (sv : Nat → Int32) (sb : Bool) (tc : Nat → Nat → Int32) (tv : Nat → Int32), Inv R V U → ∀ (H : Heap) (locs : List Loc), va_P G vwCl (wX cI cZ ad R V U tr sc sv sb ++ wM cI cZ am R V U tr tc tv) H → va_D (fun q : Nat => s.heap.size ≤ q) (wX cI cZ ad R V U tr sc sv sb ++ wM cI cZ am R V U tr tc tv) → va_S (fun q : Nat => s.heap.size ≤ q) s.heap H locs → W p l e room_1 s m #[Value.ref b] below meth c H locs 81 3416 Q (F0 m 1043 ls [])) : W p l e room_1 s m #[Value.ref b] below meth c H locs 81 3416 Q (F0 m 729 ls []) := by
  have hA : ∀ q : Nat, s.heap.size ≤ q → (fun q : Nat => s.heap.size ≤ q) q := fun _ h => h
  have hbA : ¬ (fun q : Nat => s.heap.size ≤ q) b := Nat.not_le.mpr hbl
  have hlow : ∀ q : Nat, (fun q : Nat => s.heap.size ≤ q) q → E.1 ≤ q := fun _ h => by rw [hE1]; exact h
  obtain ⟨⟨i01, i6k, ile, ihd, ign, l9, hl6, hla⟩, hi1, hi2, ⟨hTB, hTn⟩, ⟨hse, hwa, hN, hho, hle⟩, ⟨⟨gN, hgp, hgl⟩, hgr, ⟨zN, hcz, hzl⟩, hng, hnc, hGA, hCA, s9, hs9, hsl⟩, ⟨hnw, wx, wz, hW⟩, hm0_, hm1_⟩ := id hI
  refine lv_aload_n hx hb dL_law_729 rfl (lv_at hl 1 rfl) ?_
  refine lv_aload_n hx hb dL_law_730 rfl (lv_at hl 0 rfl) ?_
  refine lv_iload_n hx hb dL_law_731 rfl (lv_at hl 3 rfl) ?_
  refine lv_iconst (v := 1) hx hb dL_law_732 (by decide) ?_
  refine lv_iadd hx hb dL_law_733 ?_
  refine top_eq (y := nI (i + 1)) (nI_add _ _) ?_
  refine va_sld hx hb hX hbl hbA hS (vp_in_nI (by omega) (by omega)) dL_law_734 ?_
  refine top_eq (y := xs (i + 1)) (by rw [nI_clamp (by omega)]) ?_
  refine lv_aload_n hx hb dL_law_735 rfl (lv_at hl 0 rfl) ?_
  refine lv_iload_n hx hb dL_law_736 rfl (lv_at hl 3 rfl) ?_
  refine lv_iconst (v := 2) hx hb dL_law_737 (by decide) ?_
  refine lv_iadd hx hb dL_law_738 ?_
  refine top_eq (y := nI (i + 2)) (nI_add _ _) ?_
  refine va_sld hx hb hX hbl hbA hS (vp_in_nI (by omega) (by omega)) dL_law_739 ?_
  refine top_eq (y := xs (i + 2)) (by rw [nI_clamp (by omega)]) ?_
  refine lv_aload_n hx hb dL_law_740 rfl (lv_at hl 0 rfl) ?_
  refine lv_iload_n hx hb dL_law_741 rfl (lv_at hl 3 rfl) ?_
  refine lv_iconst (v := 3) hx hb dL_law_742 (by decide) ?_
  refine lv_iadd hx hb dL_law_743 ?_
  refine top_eq (y := nI (i + 3)) (nI_add _ _) ?_
  refine va_sld hx hb hX hbl hbA hS (vp_in_nI (by omega) (by omega)) dL_law_744 ?_
  refine top_eq (y := xs (i + 3)) (by rw [nI_clamp (by omega)]) ?_
  have hXc := bX_gauge l G E cI cZ ad R V U tr sc sv sb (xs (i + 1)) (xs (i + 2)) (xs (i + 3)) (hng)
  refine lawLi (As := [.int (xs (i + 1)), .int (xs (i + 2)), .int (xs (i + 3))]) (rest := []) hx hb hml hown hts hXc k_35_6 cal_X6_gauge ⟨(Nat.le_of_ble_eq_true rfl), (Nat.le_of_ble_eq_true rfl)⟩ hE hA hlow hD hS hK hP (fun u => (wX_fst _ _ _ _ _ _ _ _ _ _).trans (wX_fst _ _ _ _ _ _ _ _ _ _).symm) 0 6 rfl rfl rfl hl.1 rfl (Nat.le_of_ble_eq_true rfl) dL_law_745 ⟨(Nat.le_of_ble_eq_true rfl), (Nat.le_of_ble_eq_true rfl)⟩ (fun r1 u1 H locs hr1 hP hD hS => ?_)
  subst hr1
  obtain ⟨sc1, sv1, sb1⟩ := u1
  have hP : va_P G vwCl (wX cI cZ ad (upr (upr R 23 (if inC (xs (i + 1)) (xs (i + 2)) && wiB (xs (i + 3)) 0 9999 then (if (U 1) < 8 then upd (R 23) (U 1) (nI (plc (xs (i + 1)) (xs (i + 2)))) else (R 23)) else (R 23))) 24 (if inC (xs (i + 1)) (xs (i + 2)) && wiB (xs (i + 3)) 0 9999 then (if (U 1) < 8 then upd (R 24) (U 1) (xs (i + 3)) else (R 24)) else (R 24))) V (upu U 1 (if inC (xs (i + 1)) (xs (i + 2)) && wiB (xs (i + 3)) 0 9999 then (if (U 1) < 8 then (U 1) + 1 else (U 1)) else (U 1))) tr sc1 sv1 sb1 ++ wM cI cZ am R V U tr tc tv) H := hP
  have hD : va_D (fun q : Nat => s.heap.size ≤ q) (wX cI cZ ad (upr (upr R 23 (if inC (xs (i + 1)) (xs (i + 2)) && wiB (xs (i + 3)) 0 9999 then (if (U 1) < 8 then upd (R 23) (U 1) (nI (plc (xs (i + 1)) (xs (i + 2)))) else (R 23)) else (R 23))) 24 (if inC (xs (i + 1)) (xs (i + 2)) && wiB (xs (i + 3)) 0 9999 then (if (U 1) < 8 then upd (R 24) (U 1) (xs (i + 3)) else (R 24)) else (R 24))) V (upu U 1 (if inC (xs (i + 1)) (xs (i + 2)) && wiB (xs (i + 3)) 0 9999 then (if (U 1) < 8 then (U 1) + 1 else (U 1)) else (U 1))) tr sc1 sv1 sb1 ++ wM cI cZ am R V U tr tc tv) := hD
  refine lv_aload_n hx hb dL_law_748 rfl (lv_at hl 2 rfl) ?_
  refine lv_aload_n hx hb dL_law_749 rfl (lv_at hl 0 rfl) ?_
  refine lv_iload_n hx hb dL_law_750 rfl (lv_at hl 3 rfl) ?_
  refine lv_iconst (v := 1) hx hb dL_law_751 (by decide) ?_
  refine lv_iadd hx hb dL_law_752 ?_
  refine top_eq (y := nI (i + 1)) (nI_add _ _) ?_
  refine va_sld hx hb hX hbl hbA hS (vp_in_nI (by omega) (by omega)) dL_law_753 ?_
  refine top_eq (y := xs (i + 1)) (by rw [nI_clamp (by omega)]) ?_
  refine lv_aload_n hx hb dL_law_754 rfl (lv_at hl 0 rfl) ?_
  refine lv_iload_n hx hb dL_law_755 rfl (lv_at hl 3 rfl) ?_
  refine lv_iconst (v := 2) hx hb dL_law_756 (by decide) ?_
  refine lv_iadd hx hb dL_law_757 ?_
  refine top_eq (y := nI (i + 2)) (nI_add _ _) ?_
  refine va_sld hx hb hX hbl hbA hS (vp_in_nI (by omega) (by omega)) dL_law_758 ?_
  refine top_eq (y := xs (i + 2)) (by rw [nI_clamp (by omega)]) ?_
  refine lv_aload_n hx hb dL_law_759 rfl (lv_at hl 0 rfl) ?_
  refine lv_iload_n hx hb dL_law_760 rfl (lv_at hl 3 rfl) ?_
  refine lv_iconst (v := 3) hx hb dL_law_761 (by decide) ?_
  refine lv_iadd hx hb dL_law_762 ?_
  refine top_eq (y := nI (i + 3)) (nI_add _ _) ?_
  refine va_sld hx hb hX hbl hbA hS (vp_in_nI (by omega) (by omega)) dL_law_763 ?_
  refine top_eq (y := xs (i + 3)) (by rw [nI_clamp (by omega)]) ?_
  have hM := bM_gauge l G E cI cZ am R V U tr tc tv (xs (i + 1)) (xs (i + 2)) (xs (i + 3)) (hng)
  refine lawRi (As := [.int (xs (i + 1)), .int (xs (i + 2)), .int (xs (i + 3))]) (rest := [.int (if inC (xs (i + 1)) (xs (i + 2)) && wiB (xs (i + 3)) 0 9999 then (if (U 1) < 8 then nI (U 1) else (-3)) else (-1))]) hx hb hml hown hts hM k_35_14 cal_X7_gauge ⟨(Nat.le_of_ble_eq_true rfl), (Nat.le_of_ble_eq_true rfl)⟩ hE hA hlow hD hS hK hP (fun u => (wM_fst _ _ _ _ _ _ _ _ _ _).trans (wM_fst _ _ _ _ _ _ _ _ _ _).symm) 0 7 rfl rfl rfl hl.1 rfl (Nat.le_of_ble_eq_true rfl) dL_law_764 ⟨(Nat.le_of_ble_eq_true rfl), (Nat.le_of_ble_eq_true rfl)⟩ (fun r2 u2 H locs hr2 hP hD hS => ?_)
  subst hr2
  obtain ⟨tc1, tv1⟩ := u2
  have hP : va_P G vwCl (wX cI cZ ad (upr (upr (upr R 23 (if inC (xs (i + 1)) (xs (i + 2)) && wiB (xs (i + 3)) 0 9999 then (if (U 1) < 8 then upd (R 23) (U 1) (nI (plc (xs (i + 1)) (xs (i + 2)))) else (R 23)) else (R 23))) 24 (if inC (xs (i + 1)) (xs (i + 2)) && wiB (xs (i + 3)) 0 9999 then (if (U 1) < 8 then upd (R 24) (U 1) (xs (i + 3)) else (R 24)) else (R 24))) 31 (if inC (xs (i + 1)) (xs (i + 2)) && wiB (xs (i + 3)) 0 9999 then (if (U 1) < 8 then upd (upd (R 31) (2 * (U 1)) (nI (plc (xs (i + 1)) (xs (i + 2))))) (2 * (U 1) + 1) (xs (i + 3)) else (R 31)) else (R 31))) V (upu U 1 (if inC (xs (i + 1)) (xs (i + 2)) && wiB (xs (i + 3)) 0 9999 then (if (U 1) < 8 then (U 1) + 1 else (U 1)) else (U 1))) tr sc1 sv1 sb1 ++ wM cI cZ am (upr (upr (upr R 23 (if inC (xs (i + 1)) (xs (i + 2)) && wiB (xs (i + 3)) 0 9999 then (if (U 1) < 8 then upd (R 23) (U 1) (nI (plc (xs (i + 1)) (xs (i + 2)))) else (R 23)) else (R 23))) 24 (if inC (xs (i + 1)) (xs (i + 2)) && wiB (xs (i + 3)) 0 9999 then (if (U 1) < 8 then upd (R 24) (U 1) (xs (i + 3)) else (R 24)) else (R 24))) 31 (if inC (xs (i + 1)) (xs (i + 2)) && wiB (xs (i + 3)) 0 9999 then (if (U 1) < 8 then upd (upd (R 31) (2 * (U 1)) (nI (plc (xs (i + 1)) (xs (i + 2))))) (2 * (U 1) + 1) (xs (i + 3)) else (R 31)) else (R 31))) V (upu U 1 (if inC (xs (i + 1)) (xs (i + 2)) && wiB (xs (i + 3)) 0 9999 then (if (U 1) < 8 then (U 1) + 1 else (U 1)) else (U 1))) tr tc1 tv1) H := hP
  have hD : va_D (fun q : Nat => s.heap.size ≤ q) (wX cI cZ ad (upr (upr (upr R 23 (if inC (xs (i + 1)) (xs (i + 2)) && wiB (xs (i + 3)) 0 9999 then (if (U 1) < 8 then upd (R 23) (U 1) (nI (plc (xs (i + 1)) (xs (i + 2)))) else (R 23)) else (R 23))) 24 (if inC (xs (i + 1)) (xs (i + 2)) && wiB (xs (i + 3)) 0 9999 then (if (U 1) < 8 then upd (R 24) (U 1) (xs (i + 3)) else (R 24)) else (R 24))) 31 (if inC (xs (i + 1)) (xs (i + 2)) && wiB (xs (i + 3)) 0 9999 then (if (U 1) < 8 then upd (upd (R 31) (2 * (U 1)) (nI (plc (xs (i + 1)) (xs (i + 2))))) (2 * (U 1) + 1) (xs (i + 3)) else (R 31)) else (R 31))) V (upu U 1 (if inC (xs (i + 1)) (xs (i + 2)) && wiB (xs (i + 3)) 0 9999 then (if (U 1) < 8 then (U 1) + 1 else (U 1)) else (U 1))) tr sc1 sv1 sb1 ++ wM cI cZ am (upr (upr (upr R 23 (if inC (xs (i + 1)) (xs (i + 2)) && wiB (xs (i + 3)) 0 9999 then (if (U 1) < 8 then upd (R 23) (U 1) (nI (plc (xs (i + 1)) (xs (i + 2)))) else (R 23)) else (R 23))) 24 (if inC (xs (i + 1)) (xs (i + 2)) && wiB (xs (i + 3)) 0 9999 then (if (U 1) < 8 then upd (R 24) (U 1) (xs (i + 3)) else (R 24)) else (R 24))) 31 (if inC (xs (i + 1)) (xs (i + 2)) && wiB (xs (i + 3)) 0 9999 then (if (U 1) < 8 then upd (upd (R 31) (2 * (U 1)) (nI (plc (xs (i + 1)) (xs (i + 2))))) (2 * (U 1) + 1) (xs (i + 3)) else (R 31)) else (R 31))) V (upu U 1 (if inC (xs (i + 1)) (xs (i + 2)) && wiB (xs (i + 3)) 0 9999 then (if (U 1) < 8 then (U 1) + 1 else (U 1)) else (U 1))) tr tc1 tv1) := D_law hD
  refine lv_icmp_eq (tgt := 1043) hx hb dL_law_767 (by decide) (fun c1 => ?_) (fun c1 => ?_)
  · exact kk (upr (upr (upr R 23 (if inC (xs (i + 1)) (xs (i + 2)) && wiB (xs (i + 3)) 0 9999 then (if (U 1) < 8 then upd (R 23) (U 1) (nI (plc (xs (i + 1)) (xs (i + 2)))) else (R 23)) else (R 23))) 24 (if inC (xs (i + 1)) (xs (i + 2)) && wiB (xs (i + 3)) 0 9999 then (if (U 1) < 8 then upd (R 24) (U 1) (xs (i + 3)) else (R 24)) else (R 24))) 31 (if inC (xs (i + 1)) (xs (i + 2)) && wiB (xs (i + 3)) 0 9999 then (if (U 1) < 8 then upd (upd (R 31) (2 * (U 1)) (nI (plc (xs (i + 1)) (xs (i + 2))))) (2 * (U 1) + 1) (xs (i + 3)) else (R 31)) else (R 31))) V (upu U 1 (if inC (xs (i + 1)) (xs (i + 2)) && wiB (xs (i + 3)) 0 9999 then (if (U 1) < 8 then (U 1) + 1 else (U 1)) else (U 1))) tr sc1 sv1 sb1 tc1 tv1 (⟨hI.1, hI.2.1, hI.2.2.1, hI.2.2.2.1, hI.2.2.2.2.1, gauge_inv hI.2.2.2.2.2.1, hI.2.2.2.2.2.2⟩) H locs hP hD hS
  · exact absurd (rfl) c1
set_option maxHeartbeats 4000000 in
set_option maxRecDepth 100000 in
theorem L_cause {p : Program} {l : Launch} {e : Env} {s : State} {m : MethodId} {below : List Frame} {meth : Method} {c : Code} {b L : Nat} {xs : Nat → Int32} {G : va_G} {E : EvT} {cI cZ : ClassId} {ad am : Nat → Nat} {Q : State → Prop} (hx : p.tables.exec = Jvm.exec) (hb : c.code = code) (hml : c.maxLocals = 4) (hown : s.vm.findClass RL = some m.cls) (hts : ∀ w ∈ wAll, w.before #[Value.ref b] s = true) (hX : va_X b L xs s s.heap) (hbl : b < s.heap.size) (hE : Ev E s) (hE1 : E.1 = s.heap.size) (hK : va_K G vwCl [(cI, .int), (cZ, .boolean)] s) (hL : L ≤ 3072) {i : Nat} (hi : i + 6 ≤ L) (R : Nat → Nat → Int32) (V : Nat → Int32) (U : Nat → Nat) (tr : Int64) (sc : Nat → Nat → Int32) (sv : Nat → Int32) (sb : Bool) (tc : Nat → Nat → Int32) (tv : Nat → Int32) (hI : Inv R V U) {H : Heap} {locs : List Loc} (hP : va_P G vwCl (wX cI cZ ad R V U tr sc sv sb ++ wM cI cZ am R V U tr tc tv) H) (hD : va_D (fun q : Nat => s.heap.size ≤ q) (wX cI cZ ad R V U tr sc sv sb ++ wM cI cZ am R V U tr tc tv)) (hS : va_S (fun q : Nat => s.heap.size ≤ q) s.heap H locs) {ls : Array Slot} (hl : lv_has ls 4 [(0, .ref b), (1, .ref (ad 0)), (2, .ref (am 0)), (3, .int (nI i))]) (kk : ∀ (R : Nat → Nat → Int32) (V : Nat → Int32) (U : Nat → Nat) (tr : Int64) (sc : Nat → Nat → Int32) (sv : Nat → Int32) (sb : Bool) (tc : Nat → Nat → Int32) (tv : Nat → Int32), Inv R V U → ∀ (H : Heap) (locs : List Loc), va_P G vwCl (wX cI cZ ad R V U tr sc sv sb ++ wM cI cZ am R V U tr tc tv) H → va_D (fun q : Nat => s.heap.size ≤ q) (wX cI cZ ad R V U tr sc sv sb ++ wM cI cZ am R V U tr tc tv) → va_S (fun q : Nat => s.heap.size ≤ q) s.heap H locs → W p l e room_1 s m #[Value.ref b] below meth c H locs 81 3416 Q (F0 m 1043 ls [])) : W p l e room_1 s m #[Value.ref b] below meth c H locs 81 3416 Q (F0 m 772 ls []) := by
  have hA : ∀ q : Nat, s.heap.size ≤ q → (fun q : Nat => s.heap.size ≤ q) q := fun _ h => h
  have hbA : ¬ (fun q : Nat => s.heap.size ≤ q) b := Nat.not_le.mpr hbl
  have hlow : ∀ q : Nat, (fun q : Nat => s.heap.size ≤ q) q → E.1 ≤ q := fun _ h => by rw [hE1]; exact h
  obtain ⟨⟨i01, i6k, ile, ihd, ign, l9, hl6, hla⟩, hi1, hi2, ⟨hTB, hTn⟩, ⟨hse, hwa, hN, hho, hle⟩, ⟨⟨gN, hgp, hgl⟩, hgr, ⟨zN, hcz, hzl⟩, hng, hnc, hGA, hCA, s9, hs9, hsl⟩, ⟨hnw, wx, wz, hW⟩, hm0_, hm1_⟩ := id hI
  refine lv_aload_n hx hb dL_law_772 rfl (lv_at hl 1 rfl) ?_
  refine lv_aload_n hx hb dL_law_773 rfl (lv_at hl 0 rfl) ?_
  refine lv_iload_n hx hb dL_law_774 rfl (lv_at hl 3 rfl) ?_
  refine lv_iconst (v := 1) hx hb dL_law_775 (by decide) ?_
  refine lv_iadd hx hb dL_law_776 ?_
  refine top_eq (y := nI (i + 1)) (nI_add _ _) ?_
  refine va_sld hx hb hX hbl hbA hS (vp_in_nI (by omega) (by omega)) dL_law_777 ?_
  refine top_eq (y := xs (i + 1)) (by rw [nI_clamp (by omega)]) ?_
  refine lv_aload_n hx hb dL_law_778 rfl (lv_at hl 0 rfl) ?_
  refine lv_iload_n hx hb dL_law_779 rfl (lv_at hl 3 rfl) ?_
  refine lv_iconst (v := 2) hx hb dL_law_780 (by decide) ?_
  refine lv_iadd hx hb dL_law_781 ?_
  refine top_eq (y := nI (i + 2)) (nI_add _ _) ?_
  refine va_sld hx hb hX hbl hbA hS (vp_in_nI (by omega) (by omega)) dL_law_782 ?_
  refine top_eq (y := xs (i + 2)) (by rw [nI_clamp (by omega)]) ?_
  have hXc := bX_cause l G E cI cZ ad R V U tr sc sv sb (xs (i + 1)) (xs (i + 2)) (hnc)
  refine lawLi (As := [.int (xs (i + 1)), .int (xs (i + 2))]) (rest := []) hx hb hml hown hts hXc k_35_19 cal_X6_cause ⟨(Nat.le_of_ble_eq_true rfl), (Nat.le_of_ble_eq_true rfl)⟩ hE hA hlow hD hS hK hP (fun u => (wX_fst _ _ _ _ _ _ _ _ _ _).trans (wX_fst _ _ _ _ _ _ _ _ _ _).symm) 0 6 rfl rfl rfl hl.1 rfl (Nat.le_of_ble_eq_true rfl) dL_law_783 ⟨(Nat.le_of_ble_eq_true rfl), (Nat.le_of_ble_eq_true rfl)⟩ (fun r1 u1 H locs hr1 hP hD hS => ?_)
  subst hr1
  obtain ⟨sc1, sv1, sb1⟩ := u1
  have hP : va_P G vwCl (wX cI cZ ad (upr (upr R 25 (if wiB (xs (i + 1)) 0 5 && wiB (xs (i + 2)) 1 99 then (if (U 2) < 8 then upd (R 25) (U 2) (xs (i + 1)) else (R 25)) else (R 25))) 26 (if wiB (xs (i + 1)) 0 5 && wiB (xs (i + 2)) 1 99 then (if (U 2) < 8 then upd (R 26) (U 2) (xs (i + 2)) else (R 26)) else (R 26))) V (upu U 2 (if wiB (xs (i + 1)) 0 5 && wiB (xs (i + 2)) 1 99 then (if (U 2) < 8 then (U 2) + 1 else (U 2)) else (U 2))) tr sc1 sv1 sb1 ++ wM cI cZ am R V U tr tc tv) H := hP
  have hD : va_D (fun q : Nat => s.heap.size ≤ q) (wX cI cZ ad (upr (upr R 25 (if wiB (xs (i + 1)) 0 5 && wiB (xs (i + 2)) 1 99 then (if (U 2) < 8 then upd (R 25) (U 2) (xs (i + 1)) else (R 25)) else (R 25))) 26 (if wiB (xs (i + 1)) 0 5 && wiB (xs (i + 2)) 1 99 then (if (U 2) < 8 then upd (R 26) (U 2) (xs (i + 2)) else (R 26)) else (R 26))) V (upu U 2 (if wiB (xs (i + 1)) 0 5 && wiB (xs (i + 2)) 1 99 then (if (U 2) < 8 then (U 2) + 1 else (U 2)) else (U 2))) tr sc1 sv1 sb1 ++ wM cI cZ am R V U tr tc tv) := hD
  refine lv_aload_n hx hb dL_law_786 rfl (lv_at hl 2 rfl) ?_
  refine lv_aload_n hx hb dL_law_787 rfl (lv_at hl 0 rfl) ?_
  refine lv_iload_n hx hb dL_law_788 rfl (lv_at hl 3 rfl) ?_
  refine lv_iconst (v := 1) hx hb dL_law_789 (by decide) ?_
  refine lv_iadd hx hb dL_law_790 ?_
  refine top_eq (y := nI (i + 1)) (nI_add _ _) ?_
  refine va_sld hx hb hX hbl hbA hS (vp_in_nI (by omega) (by omega)) dL_law_791 ?_
  refine top_eq (y := xs (i + 1)) (by rw [nI_clamp (by omega)]) ?_
  refine lv_aload_n hx hb dL_law_792 rfl (lv_at hl 0 rfl) ?_
  refine lv_iload_n hx hb dL_law_793 rfl (lv_at hl 3 rfl) ?_
  refine lv_iconst (v := 2) hx hb dL_law_794 (by decide) ?_
  refine lv_iadd hx hb dL_law_795 ?_
  refine top_eq (y := nI (i + 2)) (nI_add _ _) ?_
  refine va_sld hx hb hX hbl hbA hS (vp_in_nI (by omega) (by omega)) dL_law_796 ?_
  refine top_eq (y := xs (i + 2)) (by rw [nI_clamp (by omega)]) ?_
  have hM := bM_cause l G E cI cZ am R V U tr tc tv (xs (i + 1)) (xs (i + 2)) (hnc)
  refine lawRi (As := [.int (xs (i + 1)), .int (xs (i + 2))]) (rest := [.int (if wiB (xs (i + 1)) 0 5 && wiB (xs (i + 2)) 1 99 then (if (U 2) < 8 then nI (U 2) else (-3)) else (-1))]) hx hb hml hown hts hM k_36_3 cal_X7_cause ⟨(Nat.le_of_ble_eq_true rfl), (Nat.le_of_ble_eq_true rfl)⟩ hE hA hlow hD hS hK hP (fun u => (wM_fst _ _ _ _ _ _ _ _ _ _).trans (wM_fst _ _ _ _ _ _ _ _ _ _).symm) 0 7 rfl rfl rfl hl.1 rfl (Nat.le_of_ble_eq_true rfl) dL_law_797 ⟨(Nat.le_of_ble_eq_true rfl), (Nat.le_of_ble_eq_true rfl)⟩ (fun r2 u2 H locs hr2 hP hD hS => ?_)
  subst hr2
  obtain ⟨tc1, tv1⟩ := u2
  have hP : va_P G vwCl (wX cI cZ ad (upr (upr (upr R 25 (if wiB (xs (i + 1)) 0 5 && wiB (xs (i + 2)) 1 99 then (if (U 2) < 8 then upd (R 25) (U 2) (xs (i + 1)) else (R 25)) else (R 25))) 26 (if wiB (xs (i + 1)) 0 5 && wiB (xs (i + 2)) 1 99 then (if (U 2) < 8 then upd (R 26) (U 2) (xs (i + 2)) else (R 26)) else (R 26))) 32 (if wiB (xs (i + 1)) 0 5 && wiB (xs (i + 2)) 1 99 then (if (U 2) < 8 then upd (upd (R 32) (2 * (U 2)) (xs (i + 1))) (2 * (U 2) + 1) (xs (i + 2)) else (R 32)) else (R 32))) V (upu U 2 (if wiB (xs (i + 1)) 0 5 && wiB (xs (i + 2)) 1 99 then (if (U 2) < 8 then (U 2) + 1 else (U 2)) else (U 2))) tr sc1 sv1 sb1 ++ wM cI cZ am (upr (upr (upr R 25 (if wiB (xs (i + 1)) 0 5 && wiB (xs (i + 2)) 1 99 then (if (U 2) < 8 then upd (R 25) (U 2) (xs (i + 1)) else (R 25)) else (R 25))) 26 (if wiB (xs (i + 1)) 0 5 && wiB (xs (i + 2)) 1 99 then (if (U 2) < 8 then upd (R 26) (U 2) (xs (i + 2)) else (R 26)) else (R 26))) 32 (if wiB (xs (i + 1)) 0 5 && wiB (xs (i + 2)) 1 99 then (if (U 2) < 8 then upd (upd (R 32) (2 * (U 2)) (xs (i + 1))) (2 * (U 2) + 1) (xs (i + 2)) else (R 32)) else (R 32))) V (upu U 2 (if wiB (xs (i + 1)) 0 5 && wiB (xs (i + 2)) 1 99 then (if (U 2) < 8 then (U 2) + 1 else (U 2)) else (U 2))) tr tc1 tv1) H := hP
  have hD : va_D (fun q : Nat => s.heap.size ≤ q) (wX cI cZ ad (upr (upr (upr R 25 (if wiB (xs (i + 1)) 0 5 && wiB (xs (i + 2)) 1 99 then (if (U 2) < 8 then upd (R 25) (U 2) (xs (i + 1)) else (R 25)) else (R 25))) 26 (if wiB (xs (i + 1)) 0 5 && wiB (xs (i + 2)) 1 99 then (if (U 2) < 8 then upd (R 26) (U 2) (xs (i + 2)) else (R 26)) else (R 26))) 32 (if wiB (xs (i + 1)) 0 5 && wiB (xs (i + 2)) 1 99 then (if (U 2) < 8 then upd (upd (R 32) (2 * (U 2)) (xs (i + 1))) (2 * (U 2) + 1) (xs (i + 2)) else (R 32)) else (R 32))) V (upu U 2 (if wiB (xs (i + 1)) 0 5 && wiB (xs (i + 2)) 1 99 then (if (U 2) < 8 then (U 2) + 1 else (U 2)) else (U 2))) tr sc1 sv1 sb1 ++ wM cI cZ am (upr (upr (upr R 25 (if wiB (xs (i + 1)) 0 5 && wiB (xs (i + 2)) 1 99 then (if (U 2) < 8 then upd (R 25) (U 2) (xs (i + 1)) else (R 25)) else (R 25))) 26 (if wiB (xs (i + 1)) 0 5 && wiB (xs (i + 2)) 1 99 then (if (U 2) < 8 then upd (R 26) (U 2) (xs (i + 2)) else (R 26)) else (R 26))) 32 (if wiB (xs (i + 1)) 0 5 && wiB (xs (i + 2)) 1 99 then (if (U 2) < 8 then upd (upd (R 32) (2 * (U 2)) (xs (i + 1))) (2 * (U 2) + 1) (xs (i + 2)) else (R 32)) else (R 32))) V (upu U 2 (if wiB (xs (i + 1)) 0 5 && wiB (xs (i + 2)) 1 99 then (if (U 2) < 8 then (U 2) + 1 else (U 2)) else (U 2))) tr tc1 tv1) := D_law hD
  refine lv_icmp_eq (tgt := 1043) hx hb dL_law_800 (by decide) (fun c1 => ?_) (fun c1 => ?_)
  · exact kk (upr (upr (upr R 25 (if wiB (xs (i + 1)) 0 5 && wiB (xs (i + 2)) 1 99 then (if (U 2) < 8 then upd (R 25) (U 2) (xs (i + 1)) else (R 25)) else (R 25))) 26 (if wiB (xs (i + 1)) 0 5 && wiB (xs (i + 2)) 1 99 then (if (U 2) < 8 then upd (R 26) (U 2) (xs (i + 2)) else (R 26)) else (R 26))) 32 (if wiB (xs (i + 1)) 0 5 && wiB (xs (i + 2)) 1 99 then (if (U 2) < 8 then upd (upd (R 32) (2 * (U 2)) (xs (i + 1))) (2 * (U 2) + 1) (xs (i + 2)) else (R 32)) else (R 32))) V (upu U 2 (if wiB (xs (i + 1)) 0 5 && wiB (xs (i + 2)) 1 99 then (if (U 2) < 8 then (U 2) + 1 else (U 2)) else (U 2))) tr sc1 sv1 sb1 tc1 tv1 (⟨hI.1, hI.2.1, hI.2.2.1, hI.2.2.2.1, hI.2.2.2.2.1, cause_inv hI.2.2.2.2.2.1, hI.2.2.2.2.2.2⟩) H locs hP hD hS
  · exact absurd (rfl) c1
set_option maxHeartbeats 4000000 in
set_option maxRecDepth 100000 in
theorem L_slack {p : Program} {l : Launch} {e : Env} {s : State} {m : MethodId} {below : List Frame} {meth : Method} {c : Code} {b L : Nat} {xs : Nat → Int32} {G : va_G} {E : EvT} {cI cZ : ClassId} {ad am : Nat → Nat} {Q : State → Prop} (hx : p.tables.exec = Jvm.exec) (hb : c.code = code) (hml : c.maxLocals = 4) (hown : s.vm.findClass RL = some m.cls) (hts : ∀ w ∈ wAll, w.before #[Value.ref b] s = true) (hX : va_X b L xs s s.heap) (hbl : b < s.heap.size) (hE : Ev E s) (hE1 : E.1 = s.heap.size) (hK : va_K G vwCl [(cI, .int), (cZ, .boolean)] s) (hL : L ≤ 3072) {i : Nat} (hi : i + 6 ≤ L) (R : Nat → Nat → Int32) (V : Nat → Int32) (U : Nat → Nat) (tr : Int64) (sc : Nat → Nat → Int32) (sv : Nat → Int32) (sb : Bool) (tc : Nat → Nat → Int32) (tv : Nat → Int32) (hI : Inv R V U) {H : Heap} {locs : List Loc} (hP : va_P G vwCl (wX cI cZ ad R V U tr sc sv sb ++ wM cI cZ am R V U tr tc tv) H) (hD : va_D (fun q : Nat => s.heap.size ≤ q) (wX cI cZ ad R V U tr sc sv sb ++ wM cI cZ am R V U tr tc tv)) (hS : va_S (fun q : Nat => s.heap.size ≤ q) s.heap H locs) {ls : Array Slot} (hl : lv_has ls 4 [(0, .ref b), (1, .ref (ad 0)), (2, .ref (am 0)), (3, .int (nI i))]) (kk : ∀ (R : Nat → Nat → Int32) (V : Nat → Int32) (U : Nat → Nat) (tr : Int64) (sc : Nat → Nat → Int32) (sv : Nat → Int32) (sb : Bool) (tc : Nat → Nat → Int32) (tv : Nat → Int32), Inv R V U → ∀ (H : Heap) (locs : List Loc), va_P G vwCl (wX cI cZ ad R V U tr sc sv sb ++ wM cI cZ am R V U tr tc tv) H → va_D (fun q : Nat => s.heap.size ≤ q) (wX cI cZ ad R V U tr sc sv sb ++ wM cI cZ am R V U tr tc tv) → va_S (fun q : Nat => s.heap.size ≤ q) s.heap H locs → W p l e room_1 s m #[Value.ref b] below meth c H locs 81 3416 Q (F0 m 1043 ls [])) : W p l e room_1 s m #[Value.ref b] below meth c H locs 81 3416 Q (F0 m 805 ls []) := by
  have hA : ∀ q : Nat, s.heap.size ≤ q → (fun q : Nat => s.heap.size ≤ q) q := fun _ h => h
  have hbA : ¬ (fun q : Nat => s.heap.size ≤ q) b := Nat.not_le.mpr hbl
  have hlow : ∀ q : Nat, (fun q : Nat => s.heap.size ≤ q) q → E.1 ≤ q := fun _ h => by rw [hE1]; exact h
  obtain ⟨⟨i01, i6k, ile, ihd, ign, l9, hl6, hla⟩, hi1, hi2, ⟨hTB, hTn⟩, ⟨hse, hwa, hN, hho, hle⟩, ⟨⟨gN, hgp, hgl⟩, hgr, ⟨zN, hcz, hzl⟩, hng, hnc, hGA, hCA, s9, hs9, hsl⟩, ⟨hnw, wx, wz, hW⟩, hm0_, hm1_⟩ := id hI
  refine lv_aload_n hx hb dL_law_805 rfl (lv_at hl 1 rfl) ?_
  refine lv_aload_n hx hb dL_law_806 rfl (lv_at hl 0 rfl) ?_
  refine lv_iload_n hx hb dL_law_807 rfl (lv_at hl 3 rfl) ?_
  refine lv_iconst (v := 1) hx hb dL_law_808 (by decide) ?_
  refine lv_iadd hx hb dL_law_809 ?_
  refine top_eq (y := nI (i + 1)) (nI_add _ _) ?_
  refine va_sld hx hb hX hbl hbA hS (vp_in_nI (by omega) (by omega)) dL_law_810 ?_
  refine top_eq (y := xs (i + 1)) (by rw [nI_clamp (by omega)]) ?_
  have hXc := bX_slack l G E cI cZ ad R V U tr sc sv sb (xs (i + 1))
  refine lawLi (As := [.int (xs (i + 1))]) (rest := []) hx hb hml hown hts hXc k_36_8 cal_X6_slack ⟨(Nat.le_of_ble_eq_true rfl), (Nat.le_of_ble_eq_true rfl)⟩ hE hA hlow hD hS hK hP (fun u => (wX_fst _ _ _ _ _ _ _ _ _ _).trans (wX_fst _ _ _ _ _ _ _ _ _ _).symm) 0 6 rfl rfl rfl hl.1 rfl (Nat.le_of_ble_eq_true rfl) dL_law_811 ⟨(Nat.le_of_ble_eq_true rfl), (Nat.le_of_ble_eq_true rfl)⟩ (fun r1 u1 H locs hr1 hP hD hS => ?_)
  subst hr1
  obtain ⟨sc1, sv1, sb1⟩ := u1
  have hP : va_P G vwCl (wX cI cZ ad R (upv V 3 (if wiB (xs (i + 1)) 0 999 then (xs (i + 1)) else (V 3))) U tr sc1 sv1 sb1 ++ wM cI cZ am R V U tr tc tv) H := hP
  have hD : va_D (fun q : Nat => s.heap.size ≤ q) (wX cI cZ ad R (upv V 3 (if wiB (xs (i + 1)) 0 999 then (xs (i + 1)) else (V 3))) U tr sc1 sv1 sb1 ++ wM cI cZ am R V U tr tc tv) := hD
  refine lv_aload_n hx hb dL_law_814 rfl (lv_at hl 2 rfl) ?_
  refine lv_aload_n hx hb dL_law_815 rfl (lv_at hl 0 rfl) ?_
  refine lv_iload_n hx hb dL_law_816 rfl (lv_at hl 3 rfl) ?_
  refine lv_iconst (v := 1) hx hb dL_law_817 (by decide) ?_
  refine lv_iadd hx hb dL_law_818 ?_
  refine top_eq (y := nI (i + 1)) (nI_add _ _) ?_
  refine va_sld hx hb hX hbl hbA hS (vp_in_nI (by omega) (by omega)) dL_law_819 ?_
  refine top_eq (y := xs (i + 1)) (by rw [nI_clamp (by omega)]) ?_
  have hM := bM_slack l G E cI cZ am R V U tr tc tv (xs (i + 1))
  refine lawRi (As := [.int (xs (i + 1))]) (rest := [.int (if wiB (xs (i + 1)) 0 999 then (V 3) else (-1))]) hx hb hml hown hts hM k_36_13 cal_X7_slack ⟨(Nat.le_of_ble_eq_true rfl), (Nat.le_of_ble_eq_true rfl)⟩ hE hA hlow hD hS hK hP (fun u => (wM_fst _ _ _ _ _ _ _ _ _ _).trans (wM_fst _ _ _ _ _ _ _ _ _ _).symm) 0 7 rfl rfl rfl hl.1 rfl (Nat.le_of_ble_eq_true rfl) dL_law_820 ⟨(Nat.le_of_ble_eq_true rfl), (Nat.le_of_ble_eq_true rfl)⟩ (fun r2 u2 H locs hr2 hP hD hS => ?_)
  subst hr2
  obtain ⟨tc1, tv1⟩ := u2
  have hP : va_P G vwCl (wX cI cZ ad R (upv V 3 (if wiB (xs (i + 1)) 0 999 then (xs (i + 1)) else (V 3))) U tr sc1 sv1 sb1 ++ wM cI cZ am R (upv V 3 (if wiB (xs (i + 1)) 0 999 then (xs (i + 1)) else (V 3))) U tr tc1 tv1) H := hP
  have hD : va_D (fun q : Nat => s.heap.size ≤ q) (wX cI cZ ad R (upv V 3 (if wiB (xs (i + 1)) 0 999 then (xs (i + 1)) else (V 3))) U tr sc1 sv1 sb1 ++ wM cI cZ am R (upv V 3 (if wiB (xs (i + 1)) 0 999 then (xs (i + 1)) else (V 3))) U tr tc1 tv1) := D_law hD
  refine lv_icmp_eq (tgt := 1043) hx hb dL_law_823 (by decide) (fun c1 => ?_) (fun c1 => ?_)
  · exact kk R (upv V 3 (if wiB (xs (i + 1)) 0 999 then (xs (i + 1)) else (V 3))) U tr sc1 sv1 sb1 tc1 tv1 (⟨hI.1, hI.2.1, hI.2.2.1, hI.2.2.2.1, hI.2.2.2.2.1, slack_inv hI.2.2.2.2.2.1, hI.2.2.2.2.2.2⟩) H locs hP hD hS
  · exact absurd (rfl) c1
set_option maxHeartbeats 4000000 in
set_option maxRecDepth 100000 in
theorem L_fits {p : Program} {l : Launch} {e : Env} {s : State} {m : MethodId} {below : List Frame} {meth : Method} {c : Code} {b L : Nat} {xs : Nat → Int32} {G : va_G} {E : EvT} {cI cZ : ClassId} {ad am : Nat → Nat} {Q : State → Prop} (hx : p.tables.exec = Jvm.exec) (hb : c.code = code) (hml : c.maxLocals = 4) (hown : s.vm.findClass RL = some m.cls) (hts : ∀ w ∈ wAll, w.before #[Value.ref b] s = true) (hX : va_X b L xs s s.heap) (hbl : b < s.heap.size) (hE : Ev E s) (hE1 : E.1 = s.heap.size) (hK : va_K G vwCl [(cI, .int), (cZ, .boolean)] s) (hL : L ≤ 3072) {i : Nat} (hi : i + 6 ≤ L) (R : Nat → Nat → Int32) (V : Nat → Int32) (U : Nat → Nat) (tr : Int64) (sc : Nat → Nat → Int32) (sv : Nat → Int32) (sb : Bool) (tc : Nat → Nat → Int32) (tv : Nat → Int32) (hI : Inv R V U) {H : Heap} {locs : List Loc} (hP : va_P G vwCl (wX cI cZ ad R V U tr sc sv sb ++ wM cI cZ am R V U tr tc tv) H) (hD : va_D (fun q : Nat => s.heap.size ≤ q) (wX cI cZ ad R V U tr sc sv sb ++ wM cI cZ am R V U tr tc tv)) (hS : va_S (fun q : Nat => s.heap.size ≤ q) s.heap H locs) {ls : Array Slot} (hl : lv_has ls 4 [(0, .ref b), (1, .ref (ad 0)), (2, .ref (am 0)), (3, .int (nI i))]) (kk : ∀ (R : Nat → Nat → Int32) (V : Nat → Int32) (U : Nat → Nat) (tr : Int64) (sc : Nat → Nat → Int32) (sv : Nat → Int32) (sb : Bool) (tc : Nat → Nat → Int32) (tv : Nat → Int32), Inv R V U → ∀ (H : Heap) (locs : List Loc), va_P G vwCl (wX cI cZ ad R V U tr sc sv sb ++ wM cI cZ am R V U tr tc tv) H → va_D (fun q : Nat => s.heap.size ≤ q) (wX cI cZ ad R V U tr sc sv sb ++ wM cI cZ am R V U tr tc tv) → va_S (fun q : Nat => s.heap.size ≤ q) s.heap H locs → W p l e room_1 s m #[Value.ref b] below meth c H locs 81 3416 Q (F0 m 1043 ls [])) : W p l e room_1 s m #[Value.ref b] below meth c H locs 81 3416 Q (F0 m 828 ls []) := by
  have hA : ∀ q : Nat, s.heap.size ≤ q → (fun q : Nat => s.heap.size ≤ q) q := fun _ h => h
  have hbA : ¬ (fun q : Nat => s.heap.size ≤ q) b := Nat.not_le.mpr hbl
  have hlow : ∀ q : Nat, (fun q : Nat => s.heap.size ≤ q) q → E.1 ≤ q := fun _ h => by rw [hE1]; exact h
  obtain ⟨⟨i01, i6k, ile, ihd, ign, l9, hl6, hla⟩, hi1, hi2, ⟨hTB, hTn⟩, ⟨hse, hwa, hN, hho, hle⟩, ⟨⟨gN, hgp, hgl⟩, hgr, ⟨zN, hcz, hzl⟩, hng, hnc, hGA, hCA, s9, hs9, hsl⟩, ⟨hnw, wx, wz, hW⟩, hm0_, hm1_⟩ := id hI
  refine lv_aload_n hx hb dL_law_828 rfl (lv_at hl 1 rfl) ?_
  have hXc := bX_fits l G E cI cZ ad R V U tr sc sv sb gN zN (hgp) (hgl) (hcz) (hzl) (hng) (hnc)
  refine lawLi (As := []) (rest := []) hx hb hml hown hts hXc k_36_17 cal_X6_fits ⟨(Nat.le_of_ble_eq_true rfl), (Nat.le_of_ble_eq_true rfl)⟩ hE hA hlow hD hS hK hP (fun u => (wX_fst _ _ _ _ _ _ _ _ _ _).trans (wX_fst _ _ _ _ _ _ _ _ _ _).symm) 0 6 rfl rfl rfl hl.1 rfl (Nat.le_of_ble_eq_true rfl) dL_law_829 ⟨(Nat.le_of_ble_eq_true rfl), (Nat.le_of_ble_eq_true rfl)⟩ (fun r1 u1 H locs hr1 hP hD hS => ?_)
  subst hr1
  obtain ⟨sc1, sv1, sb1⟩ := u1
  have hP : va_P G vwCl (wX cI cZ ad R V U tr sc1 sv1 sb1 ++ wM cI cZ am R V U tr tc tv) H := hP
  have hD : va_D (fun q : Nat => s.heap.size ≤ q) (wX cI cZ ad R V U tr sc1 sv1 sb1 ++ wM cI cZ am R V U tr tc tv) := hD
  refine lv_aload_n hx hb dL_law_832 rfl (lv_at hl 2 rfl) ?_
  have hM := bM_fits l G E cI cZ am R V U tr tc tv zN gN (hng) (hnc) (fun i hi => (hCA i hi).1.trans (hcz i)) (fun i _ => hzl i) (fun j hj => (hGA j hj).1.trans (hgp j)) (fun j _ => hgl j)
  refine lawRi (As := []) (rest := [.int ((fitS (R 0) (R 2) (R 3) (R 24) (R 26) (V 0) (V 3) gN zN (U 1) (U 2)).1)]) hx hb hml hown hts hM k_37_20 cal_X7_fits ⟨(Nat.le_of_ble_eq_true rfl), (Nat.le_of_ble_eq_true rfl)⟩ hE hA hlow hD hS hK hP (fun u => (wM_fst _ _ _ _ _ _ _ _ _ _).trans (wM_fst _ _ _ _ _ _ _ _ _ _).symm) 0 7 rfl rfl rfl hl.1 rfl (Nat.le_of_ble_eq_true rfl) dL_law_833 ⟨(Nat.le_of_ble_eq_true rfl), (Nat.le_of_ble_eq_true rfl)⟩ (fun r2 u2 H locs hr2 hP hD hS => ?_)
  subst hr2
  obtain ⟨tc1, tv1⟩ := u2
  have hP : va_P G vwCl (wX cI cZ ad R V U tr sc1 sv1 sb1 ++ wM cI cZ am R V U tr tc1 tv1) H := hP
  have hD : va_D (fun q : Nat => s.heap.size ≤ q) (wX cI cZ ad R V U tr sc1 sv1 sb1 ++ wM cI cZ am R V U tr tc1 tv1) := D_law hD
  refine lv_icmp_eq (tgt := 1043) hx hb dL_law_836 (by decide) (fun c1 => ?_) (fun c1 => ?_)
  · exact kk R V U tr sc1 sv1 sb1 tc1 tv1 (hI) H locs hP hD hS
  · exact absurd (fits_eq ile hl6 hla hs9 hsl hgr hnc (fun i hi => (hCA i hi).2.2) (fun j hj => (hGA j hj).2) (fun j hj => (hCA j hj).2.1)) c1
set_option maxHeartbeats 4000000 in
set_option maxRecDepth 100000 in
theorem L_next {p : Program} {l : Launch} {e : Env} {s : State} {m : MethodId} {below : List Frame} {meth : Method} {c : Code} {b L : Nat} {xs : Nat → Int32} {G : va_G} {E : EvT} {cI cZ : ClassId} {ad am : Nat → Nat} {Q : State → Prop} (hx : p.tables.exec = Jvm.exec) (hb : c.code = code) (hml : c.maxLocals = 4) (hown : s.vm.findClass RL = some m.cls) (hts : ∀ w ∈ wAll, w.before #[Value.ref b] s = true) (hX : va_X b L xs s s.heap) (hbl : b < s.heap.size) (hE : Ev E s) (hE1 : E.1 = s.heap.size) (hK : va_K G vwCl [(cI, .int), (cZ, .boolean)] s) (hL : L ≤ 3072) {i : Nat} (hi : i + 6 ≤ L) (R : Nat → Nat → Int32) (V : Nat → Int32) (U : Nat → Nat) (tr : Int64) (sc : Nat → Nat → Int32) (sv : Nat → Int32) (sb : Bool) (tc : Nat → Nat → Int32) (tv : Nat → Int32) (hI : Inv R V U) {H : Heap} {locs : List Loc} (hP : va_P G vwCl (wX cI cZ ad R V U tr sc sv sb ++ wM cI cZ am R V U tr tc tv) H) (hD : va_D (fun q : Nat => s.heap.size ≤ q) (wX cI cZ ad R V U tr sc sv sb ++ wM cI cZ am R V U tr tc tv)) (hS : va_S (fun q : Nat => s.heap.size ≤ q) s.heap H locs) {ls : Array Slot} (hl : lv_has ls 4 [(0, .ref b), (1, .ref (ad 0)), (2, .ref (am 0)), (3, .int (nI i))]) (kk : ∀ (R : Nat → Nat → Int32) (V : Nat → Int32) (U : Nat → Nat) (tr : Int64) (sc : Nat → Nat → Int32) (sv : Nat → Int32) (sb : Bool) (tc : Nat → Nat → Int32) (tv : Nat → Int32), Inv R V U → ∀ (H : Heap) (locs : List Loc), va_P G vwCl (wX cI cZ ad R V U tr sc sv sb ++ wM cI cZ am R V U tr tc tv) H → va_D (fun q : Nat => s.heap.size ≤ q) (wX cI cZ ad R V U tr sc sv sb ++ wM cI cZ am R V U tr tc tv) → va_S (fun q : Nat => s.heap.size ≤ q) s.heap H locs → W p l e room_1 s m #[Value.ref b] below meth c H locs 81 3416 Q (F0 m 1043 ls [])) : W p l e room_1 s m #[Value.ref b] below meth c H locs 81 3416 Q (F0 m 841 ls []) := by
  have hA : ∀ q : Nat, s.heap.size ≤ q → (fun q : Nat => s.heap.size ≤ q) q := fun _ h => h
  have hbA : ¬ (fun q : Nat => s.heap.size ≤ q) b := Nat.not_le.mpr hbl
  have hlow : ∀ q : Nat, (fun q : Nat => s.heap.size ≤ q) q → E.1 ≤ q := fun _ h => by rw [hE1]; exact h
  obtain ⟨⟨i01, i6k, ile, ihd, ign, l9, hl6, hla⟩, hi1, hi2, ⟨hTB, hTn⟩, ⟨hse, hwa, hN, hho, hle⟩, ⟨⟨gN, hgp, hgl⟩, hgr, ⟨zN, hcz, hzl⟩, hng, hnc, hGA, hCA, s9, hs9, hsl⟩, ⟨hnw, wx, wz, hW⟩, hm0_, hm1_⟩ := id hI
  refine lv_aload_n hx hb dL_law_841 rfl (lv_at hl 1 rfl) ?_
  refine lv_aload_n hx hb dL_law_842 rfl (lv_at hl 0 rfl) ?_
  refine lv_iload_n hx hb dL_law_843 rfl (lv_at hl 3 rfl) ?_
  refine lv_iconst (v := 1) hx hb dL_law_844 (by decide) ?_
  refine lv_iadd hx hb dL_law_845 ?_
  refine top_eq (y := nI (i + 1)) (nI_add _ _) ?_
  refine va_sld hx hb hX hbl hbA hS (vp_in_nI (by omega) (by omega)) dL_law_846 ?_
  refine top_eq (y := xs (i + 1)) (by rw [nI_clamp (by omega)]) ?_
  have hXc := bX_next l G E cI cZ ad R V U tr sc sv sb gN zN (xs (i + 1)) (hgp) (hgl) (hcz) (hzl) (hng) (hnc)
  refine lawLi (As := [.int (xs (i + 1))]) (rest := []) hx hb hml hown hts hXc k_38_4 cal_X6_next ⟨(Nat.le_of_ble_eq_true rfl), (Nat.le_of_ble_eq_true rfl)⟩ hE hA hlow hD hS hK hP (fun u => (wX_fst _ _ _ _ _ _ _ _ _ _).trans (wX_fst _ _ _ _ _ _ _ _ _ _).symm) 0 6 rfl rfl rfl hl.1 rfl (Nat.le_of_ble_eq_true rfl) dL_law_847 ⟨(Nat.le_of_ble_eq_true rfl), (Nat.le_of_ble_eq_true rfl)⟩ (fun r1 u1 H locs hr1 hP hD hS => ?_)
  subst hr1
  obtain ⟨sc1, sv1, sb1⟩ := u1
  have hP : va_P G vwCl (wX cI cZ ad R V U tr sc1 sv1 sb1 ++ wM cI cZ am R V U tr tc tv) H := hP
  have hD : va_D (fun q : Nat => s.heap.size ≤ q) (wX cI cZ ad R V U tr sc1 sv1 sb1 ++ wM cI cZ am R V U tr tc tv) := hD
  refine lv_aload_n hx hb dL_law_850 rfl (lv_at hl 2 rfl) ?_
  refine lv_aload_n hx hb dL_law_851 rfl (lv_at hl 0 rfl) ?_
  refine lv_iload_n hx hb dL_law_852 rfl (lv_at hl 3 rfl) ?_
  refine lv_iconst (v := 1) hx hb dL_law_853 (by decide) ?_
  refine lv_iadd hx hb dL_law_854 ?_
  refine top_eq (y := nI (i + 1)) (nI_add _ _) ?_
  refine va_sld hx hb hX hbl hbA hS (vp_in_nI (by omega) (by omega)) dL_law_855 ?_
  refine top_eq (y := xs (i + 1)) (by rw [nI_clamp (by omega)]) ?_
  have hM := bM_next l G E cI cZ am R V U tr tc tv zN gN (xs (i + 1)) (hng) (hnc) (fun i hi => (hCA i hi).1.trans (hcz i)) (fun i _ => hzl i) (fun j hj => (hGA j hj).1.trans (hgp j)) (fun j _ => hgl j)
  refine lawRi (As := [.int (xs (i + 1))]) (rest := [.int (if wiB (xs (i + 1)) 0 1 then (if bcS (fitS (R 0) (R 2) (R 3) (R 24) (R 26) (V 0) (V 3) gN zN (U 1) (U 2)).1 < 2 then (-9) else if (xs (i + 1)) = 0 then ooI (mapS (R 0) (R 2) (fitS (R 0) (R 2) (R 3) (R 24) (R 26) (V 0) (V 3) gN zN (U 1) (U 2)).2.1 (fitS (R 0) (R 2) (R 3) (R 24) (R 26) (V 0) (V 3) gN zN (U 1) (U 2)).2.2 48) else apS (mapS (R 0) (R 2) (fitS (R 0) (R 2) (R 3) (R 24) (R 26) (V 0) (V 3) gN zN (U 1) (U 2)).2.1 (fitS (R 0) (R 2) (R 3) (R 24) (R 26) (V 0) (V 3) gN zN (U 1) (U 2)).2.2 48) (fitS (R 0) (R 2) (R 3) (R 24) (R 26) (V 0) (V 3) gN zN (U 1) (U 2)).2.1 (fitS (R 0) (R 2) (R 3) (R 24) (R 26) (V 0) (V 3) gN zN (U 1) (U 2)).2.2) else (-1))]) hx hb hml hown hts hM k_39_0 cal_X7_next ⟨(Nat.le_of_ble_eq_true rfl), (Nat.le_of_ble_eq_true rfl)⟩ hE hA hlow hD hS hK hP (fun u => (wM_fst _ _ _ _ _ _ _ _ _ _).trans (wM_fst _ _ _ _ _ _ _ _ _ _).symm) 0 7 rfl rfl rfl hl.1 rfl (Nat.le_of_ble_eq_true rfl) dL_law_856 ⟨(Nat.le_of_ble_eq_true rfl), (Nat.le_of_ble_eq_true rfl)⟩ (fun r2 u2 H locs hr2 hP hD hS => ?_)
  subst hr2
  obtain ⟨tc1, tv1⟩ := u2
  have hP : va_P G vwCl (wX cI cZ ad R V U tr sc1 sv1 sb1 ++ wM cI cZ am R V U tr tc1 tv1) H := hP
  have hD : va_D (fun q : Nat => s.heap.size ≤ q) (wX cI cZ ad R V U tr sc1 sv1 sb1 ++ wM cI cZ am R V U tr tc1 tv1) := D_law hD
  refine lv_icmp_eq (tgt := 1043) hx hb dL_law_859 (by decide) (fun c1 => ?_) (fun c1 => ?_)
  · exact kk R V U tr sc1 sv1 sb1 tc1 tv1 (hI) H locs hP hD hS
  · exact absurd (next_eq ile hl6 hla hs9 hsl hgr hnc (fun i hi => (hCA i hi).2.2) (fun j hj => (hGA j hj).2) (fun j hj => (hCA j hj).2.1) _) c1
set_option maxHeartbeats 4000000 in
set_option maxRecDepth 100000 in
theorem L_work {p : Program} {l : Launch} {e : Env} {s : State} {m : MethodId} {below : List Frame} {meth : Method} {c : Code} {b L : Nat} {xs : Nat → Int32} {G : va_G} {E : EvT} {cI cZ : ClassId} {ad am : Nat → Nat} {Q : State → Prop} (hx : p.tables.exec = Jvm.exec) (hb : c.code = code) (hml : c.maxLocals = 4) (hown : s.vm.findClass RL = some m.cls) (hts : ∀ w ∈ wAll, w.before #[Value.ref b] s = true) (hX : va_X b L xs s s.heap) (hbl : b < s.heap.size) (hE : Ev E s) (hE1 : E.1 = s.heap.size) (hK : va_K G vwCl [(cI, .int), (cZ, .boolean)] s) (hL : L ≤ 3072) {i : Nat} (hi : i + 6 ≤ L) (R : Nat → Nat → Int32) (V : Nat → Int32) (U : Nat → Nat) (tr : Int64) (sc : Nat → Nat → Int32) (sv : Nat → Int32) (sb : Bool) (tc : Nat → Nat → Int32) (tv : Nat → Int32) (hI : Inv R V U) {H : Heap} {locs : List Loc} (hP : va_P G vwCl (wX cI cZ ad R V U tr sc sv sb ++ wM cI cZ am R V U tr tc tv) H) (hD : va_D (fun q : Nat => s.heap.size ≤ q) (wX cI cZ ad R V U tr sc sv sb ++ wM cI cZ am R V U tr tc tv)) (hS : va_S (fun q : Nat => s.heap.size ≤ q) s.heap H locs) {ls : Array Slot} (hl : lv_has ls 4 [(0, .ref b), (1, .ref (ad 0)), (2, .ref (am 0)), (3, .int (nI i))]) (kk : ∀ (R : Nat → Nat → Int32) (V : Nat → Int32) (U : Nat → Nat) (tr : Int64) (sc : Nat → Nat → Int32) (sv : Nat → Int32) (sb : Bool) (tc : Nat → Nat → Int32) (tv : Nat → Int32), Inv R V U → ∀ (H : Heap) (locs : List Loc), va_P G vwCl (wX cI cZ ad R V U tr sc sv sb ++ wM cI cZ am R V U tr tc tv) H → va_D (fun q : Nat => s.heap.size ≤ q) (wX cI cZ ad R V U tr sc sv sb ++ wM cI cZ am R V U tr tc tv) → va_S (fun q : Nat => s.heap.size ≤ q) s.heap H locs → W p l e room_1 s m #[Value.ref b] below meth c H locs 81 3416 Q (F0 m 1043 ls [])) : W p l e room_1 s m #[Value.ref b] below meth c H locs 81 3416 Q (F0 m 864 ls []) := by
  have hA : ∀ q : Nat, s.heap.size ≤ q → (fun q : Nat => s.heap.size ≤ q) q := fun _ h => h
  have hbA : ¬ (fun q : Nat => s.heap.size ≤ q) b := Nat.not_le.mpr hbl
  have hlow : ∀ q : Nat, (fun q : Nat => s.heap.size ≤ q) q → E.1 ≤ q := fun _ h => by rw [hE1]; exact h
  obtain ⟨⟨i01, i6k, ile, ihd, ign, l9, hl6, hla⟩, hi1, hi2, ⟨hTB, hTn⟩, ⟨hse, hwa, hN, hho, hle⟩, ⟨⟨gN, hgp, hgl⟩, hgr, ⟨zN, hcz, hzl⟩, hng, hnc, hGA, hCA, s9, hs9, hsl⟩, ⟨hnw, wx, wz, hW⟩, hm0_, hm1_⟩ := id hI
  refine lv_aload_n hx hb dL_law_864 rfl (lv_at hl 1 rfl) ?_
  refine lv_aload_n hx hb dL_law_865 rfl (lv_at hl 0 rfl) ?_
  refine lv_iload_n hx hb dL_law_866 rfl (lv_at hl 3 rfl) ?_
  refine lv_iconst (v := 1) hx hb dL_law_867 (by decide) ?_
  refine lv_iadd hx hb dL_law_868 ?_
  refine top_eq (y := nI (i + 1)) (nI_add _ _) ?_
  refine va_sld hx hb hX hbl hbA hS (vp_in_nI (by omega) (by omega)) dL_law_869 ?_
  refine top_eq (y := xs (i + 1)) (by rw [nI_clamp (by omega)]) ?_
  refine lv_aload_n hx hb dL_law_870 rfl (lv_at hl 0 rfl) ?_
  refine lv_iload_n hx hb dL_law_871 rfl (lv_at hl 3 rfl) ?_
  refine lv_iconst (v := 2) hx hb dL_law_872 (by decide) ?_
  refine lv_iadd hx hb dL_law_873 ?_
  refine top_eq (y := nI (i + 2)) (nI_add _ _) ?_
  refine va_sld hx hb hX hbl hbA hS (vp_in_nI (by omega) (by omega)) dL_law_874 ?_
  refine top_eq (y := xs (i + 2)) (by rw [nI_clamp (by omega)]) ?_
  refine lv_aload_n hx hb dL_law_875 rfl (lv_at hl 0 rfl) ?_
  refine lv_iload_n hx hb dL_law_876 rfl (lv_at hl 3 rfl) ?_
  refine lv_iconst (v := 3) hx hb dL_law_877 (by decide) ?_
  refine lv_iadd hx hb dL_law_878 ?_
  refine top_eq (y := nI (i + 3)) (nI_add _ _) ?_
  refine va_sld hx hb hX hbl hbA hS (vp_in_nI (by omega) (by omega)) dL_law_879 ?_
  refine top_eq (y := xs (i + 3)) (by rw [nI_clamp (by omega)]) ?_
  refine lv_aload_n hx hb dL_law_880 rfl (lv_at hl 0 rfl) ?_
  refine lv_iload_n hx hb dL_law_881 rfl (lv_at hl 3 rfl) ?_
  refine lv_iconst (v := 4) hx hb dL_law_882 (by decide) ?_
  refine lv_iadd hx hb dL_law_883 ?_
  refine top_eq (y := nI (i + 4)) (nI_add _ _) ?_
  refine va_sld hx hb hX hbl hbA hS (vp_in_nI (by omega) (by omega)) dL_law_884 ?_
  refine top_eq (y := xs (i + 4)) (by rw [nI_clamp (by omega)]) ?_
  refine lv_aload_n hx hb dL_law_885 rfl (lv_at hl 0 rfl) ?_
  refine lv_iload_n hx hb dL_law_886 rfl (lv_at hl 3 rfl) ?_
  refine lv_iconst (v := 5) hx hb dL_law_887 (by decide) ?_
  refine lv_iadd hx hb dL_law_888 ?_
  refine top_eq (y := nI (i + 5)) (nI_add _ _) ?_
  refine va_sld hx hb hX hbl hbA hS (vp_in_nI (by omega) (by omega)) dL_law_889 ?_
  refine top_eq (y := xs (i + 5)) (by rw [nI_clamp (by omega)]) ?_
  have hXc := bX_work l G E cI cZ ad R V U tr sc sv sb (xs (i + 1)) (xs (i + 2)) (xs (i + 3)) (xs (i + 4)) (xs (i + 5)) (hnw)
  refine lawLi (As := [.int (xs (i + 1)), .int (xs (i + 2)), .int (xs (i + 3)), .int (xs (i + 4)), .int (xs (i + 5))]) (rest := []) hx hb hml hown hts hXc k_39_4 cal_X6_work ⟨(Nat.le_of_ble_eq_true rfl), (Nat.le_of_ble_eq_true rfl)⟩ hE hA hlow hD hS hK hP (fun u => (wX_fst _ _ _ _ _ _ _ _ _ _).trans (wX_fst _ _ _ _ _ _ _ _ _ _).symm) 0 6 rfl rfl rfl hl.1 rfl (Nat.le_of_ble_eq_true rfl) dL_law_890 ⟨(Nat.le_of_ble_eq_true rfl), (Nat.le_of_ble_eq_true rfl)⟩ (fun r1 u1 H locs hr1 hP hD hS => ?_)
  subst hr1
  obtain ⟨sc1, sv1, sb1⟩ := u1
  have hP : va_P G vwCl (wX cI cZ ad (upr (upr (upr (upr R 27 (if wkB (xs (i + 1)) (xs (i + 2)) (xs (i + 3)) (xs (i + 4)) (xs (i + 5)) then (if (U 3) < 8 then upd (R 27) (U 3) (xs (i + 1)) else (R 27)) else (R 27))) 28 (if wkB (xs (i + 1)) (xs (i + 2)) (xs (i + 3)) (xs (i + 4)) (xs (i + 5)) then (if (U 3) < 8 then upd (R 28) (U 3) (nI (plc (xs (i + 2)) (xs (i + 3)))) else (R 28)) else (R 28))) 29 (if wkB (xs (i + 1)) (xs (i + 2)) (xs (i + 3)) (xs (i + 4)) (xs (i + 5)) then (if (U 3) < 8 then upd (R 29) (U 3) (xs (i + 4)) else (R 29)) else (R 29))) 30 (if wkB (xs (i + 1)) (xs (i + 2)) (xs (i + 3)) (xs (i + 4)) (xs (i + 5)) then (if (U 3) < 8 then upd (R 30) (U 3) (xs (i + 5)) else (R 30)) else (R 30))) V (upu U 3 (if wkB (xs (i + 1)) (xs (i + 2)) (xs (i + 3)) (xs (i + 4)) (xs (i + 5)) then (if (U 3) < 8 then (U 3) + 1 else (U 3)) else (U 3))) tr sc1 sv1 sb1 ++ wM cI cZ am R V U tr tc tv) H := hP
  have hD : va_D (fun q : Nat => s.heap.size ≤ q) (wX cI cZ ad (upr (upr (upr (upr R 27 (if wkB (xs (i + 1)) (xs (i + 2)) (xs (i + 3)) (xs (i + 4)) (xs (i + 5)) then (if (U 3) < 8 then upd (R 27) (U 3) (xs (i + 1)) else (R 27)) else (R 27))) 28 (if wkB (xs (i + 1)) (xs (i + 2)) (xs (i + 3)) (xs (i + 4)) (xs (i + 5)) then (if (U 3) < 8 then upd (R 28) (U 3) (nI (plc (xs (i + 2)) (xs (i + 3)))) else (R 28)) else (R 28))) 29 (if wkB (xs (i + 1)) (xs (i + 2)) (xs (i + 3)) (xs (i + 4)) (xs (i + 5)) then (if (U 3) < 8 then upd (R 29) (U 3) (xs (i + 4)) else (R 29)) else (R 29))) 30 (if wkB (xs (i + 1)) (xs (i + 2)) (xs (i + 3)) (xs (i + 4)) (xs (i + 5)) then (if (U 3) < 8 then upd (R 30) (U 3) (xs (i + 5)) else (R 30)) else (R 30))) V (upu U 3 (if wkB (xs (i + 1)) (xs (i + 2)) (xs (i + 3)) (xs (i + 4)) (xs (i + 5)) then (if (U 3) < 8 then (U 3) + 1 else (U 3)) else (U 3))) tr sc1 sv1 sb1 ++ wM cI cZ am R V U tr tc tv) := hD
  refine lv_aload_n hx hb dL_law_893 rfl (lv_at hl 2 rfl) ?_
  refine lv_aload_n hx hb dL_law_894 rfl (lv_at hl 0 rfl) ?_
  refine lv_iload_n hx hb dL_law_895 rfl (lv_at hl 3 rfl) ?_
  refine lv_iconst (v := 1) hx hb dL_law_896 (by decide) ?_
  refine lv_iadd hx hb dL_law_897 ?_
  refine top_eq (y := nI (i + 1)) (nI_add _ _) ?_
  refine va_sld hx hb hX hbl hbA hS (vp_in_nI (by omega) (by omega)) dL_law_898 ?_
  refine top_eq (y := xs (i + 1)) (by rw [nI_clamp (by omega)]) ?_
  refine lv_aload_n hx hb dL_law_899 rfl (lv_at hl 0 rfl) ?_
  refine lv_iload_n hx hb dL_law_900 rfl (lv_at hl 3 rfl) ?_
  refine lv_iconst (v := 2) hx hb dL_law_901 (by decide) ?_
  refine lv_iadd hx hb dL_law_902 ?_
  refine top_eq (y := nI (i + 2)) (nI_add _ _) ?_
  refine va_sld hx hb hX hbl hbA hS (vp_in_nI (by omega) (by omega)) dL_law_903 ?_
  refine top_eq (y := xs (i + 2)) (by rw [nI_clamp (by omega)]) ?_
  refine lv_aload_n hx hb dL_law_904 rfl (lv_at hl 0 rfl) ?_
  refine lv_iload_n hx hb dL_law_905 rfl (lv_at hl 3 rfl) ?_
  refine lv_iconst (v := 3) hx hb dL_law_906 (by decide) ?_
  refine lv_iadd hx hb dL_law_907 ?_
  refine top_eq (y := nI (i + 3)) (nI_add _ _) ?_
  refine va_sld hx hb hX hbl hbA hS (vp_in_nI (by omega) (by omega)) dL_law_908 ?_
  refine top_eq (y := xs (i + 3)) (by rw [nI_clamp (by omega)]) ?_
  refine lv_aload_n hx hb dL_law_909 rfl (lv_at hl 0 rfl) ?_
  refine lv_iload_n hx hb dL_law_910 rfl (lv_at hl 3 rfl) ?_
  refine lv_iconst (v := 4) hx hb dL_law_911 (by decide) ?_
  refine lv_iadd hx hb dL_law_912 ?_
  refine top_eq (y := nI (i + 4)) (nI_add _ _) ?_
  refine va_sld hx hb hX hbl hbA hS (vp_in_nI (by omega) (by omega)) dL_law_913 ?_
  refine top_eq (y := xs (i + 4)) (by rw [nI_clamp (by omega)]) ?_
  refine lv_aload_n hx hb dL_law_914 rfl (lv_at hl 0 rfl) ?_
  refine lv_iload_n hx hb dL_law_915 rfl (lv_at hl 3 rfl) ?_
  refine lv_iconst (v := 5) hx hb dL_law_916 (by decide) ?_
  refine lv_iadd hx hb dL_law_917 ?_
  refine top_eq (y := nI (i + 5)) (nI_add _ _) ?_
  refine va_sld hx hb hX hbl hbA hS (vp_in_nI (by omega) (by omega)) dL_law_918 ?_
  refine top_eq (y := xs (i + 5)) (by rw [nI_clamp (by omega)]) ?_
  have hM := bM_work l G E cI cZ am R V U tr tc tv (xs (i + 1)) (xs (i + 2)) (xs (i + 3)) (xs (i + 4)) (xs (i + 5)) (hnw)
  refine lawRi (As := [.int (xs (i + 1)), .int (xs (i + 2)), .int (xs (i + 3)), .int (xs (i + 4)), .int (xs (i + 5))]) (rest := [.int (if wkB (xs (i + 1)) (xs (i + 2)) (xs (i + 3)) (xs (i + 4)) (xs (i + 5)) then (if (U 3) < 8 then nI (U 3) else (-3)) else (-1))]) hx hb hml hown hts hM k_39_12 cal_X7_work ⟨(Nat.le_of_ble_eq_true rfl), (Nat.le_of_ble_eq_true rfl)⟩ hE hA hlow hD hS hK hP (fun u => (wM_fst _ _ _ _ _ _ _ _ _ _).trans (wM_fst _ _ _ _ _ _ _ _ _ _).symm) 0 7 rfl rfl rfl hl.1 rfl (Nat.le_of_ble_eq_true rfl) dL_law_919 ⟨(Nat.le_of_ble_eq_true rfl), (Nat.le_of_ble_eq_true rfl)⟩ (fun r2 u2 H locs hr2 hP hD hS => ?_)
  subst hr2
  obtain ⟨tc1, tv1⟩ := u2
  have hP : va_P G vwCl (wX cI cZ ad (upr (upr (upr (upr (upr R 27 (if wkB (xs (i + 1)) (xs (i + 2)) (xs (i + 3)) (xs (i + 4)) (xs (i + 5)) then (if (U 3) < 8 then upd (R 27) (U 3) (xs (i + 1)) else (R 27)) else (R 27))) 28 (if wkB (xs (i + 1)) (xs (i + 2)) (xs (i + 3)) (xs (i + 4)) (xs (i + 5)) then (if (U 3) < 8 then upd (R 28) (U 3) (nI (plc (xs (i + 2)) (xs (i + 3)))) else (R 28)) else (R 28))) 29 (if wkB (xs (i + 1)) (xs (i + 2)) (xs (i + 3)) (xs (i + 4)) (xs (i + 5)) then (if (U 3) < 8 then upd (R 29) (U 3) (xs (i + 4)) else (R 29)) else (R 29))) 30 (if wkB (xs (i + 1)) (xs (i + 2)) (xs (i + 3)) (xs (i + 4)) (xs (i + 5)) then (if (U 3) < 8 then upd (R 30) (U 3) (xs (i + 5)) else (R 30)) else (R 30))) 33 (if wkB (xs (i + 1)) (xs (i + 2)) (xs (i + 3)) (xs (i + 4)) (xs (i + 5)) then (if (U 3) < 8 then upd (upd (upd (upd (upd (R 33) (5 * (U 3)) (xs (i + 1))) (5 * (U 3) + 1) (xs (i + 2))) (5 * (U 3) + 2) (xs (i + 3))) (5 * (U 3) + 3) (xs (i + 4))) (5 * (U 3) + 4) (xs (i + 5)) else (R 33)) else (R 33))) V (upu U 3 (if wkB (xs (i + 1)) (xs (i + 2)) (xs (i + 3)) (xs (i + 4)) (xs (i + 5)) then (if (U 3) < 8 then (U 3) + 1 else (U 3)) else (U 3))) tr sc1 sv1 sb1 ++ wM cI cZ am (upr (upr (upr (upr (upr R 27 (if wkB (xs (i + 1)) (xs (i + 2)) (xs (i + 3)) (xs (i + 4)) (xs (i + 5)) then (if (U 3) < 8 then upd (R 27) (U 3) (xs (i + 1)) else (R 27)) else (R 27))) 28 (if wkB (xs (i + 1)) (xs (i + 2)) (xs (i + 3)) (xs (i + 4)) (xs (i + 5)) then (if (U 3) < 8 then upd (R 28) (U 3) (nI (plc (xs (i + 2)) (xs (i + 3)))) else (R 28)) else (R 28))) 29 (if wkB (xs (i + 1)) (xs (i + 2)) (xs (i + 3)) (xs (i + 4)) (xs (i + 5)) then (if (U 3) < 8 then upd (R 29) (U 3) (xs (i + 4)) else (R 29)) else (R 29))) 30 (if wkB (xs (i + 1)) (xs (i + 2)) (xs (i + 3)) (xs (i + 4)) (xs (i + 5)) then (if (U 3) < 8 then upd (R 30) (U 3) (xs (i + 5)) else (R 30)) else (R 30))) 33 (if wkB (xs (i + 1)) (xs (i + 2)) (xs (i + 3)) (xs (i + 4)) (xs (i + 5)) then (if (U 3) < 8 then upd (upd (upd (upd (upd (R 33) (5 * (U 3)) (xs (i + 1))) (5 * (U 3) + 1) (xs (i + 2))) (5 * (U 3) + 2) (xs (i + 3))) (5 * (U 3) + 3) (xs (i + 4))) (5 * (U 3) + 4) (xs (i + 5)) else (R 33)) else (R 33))) V (upu U 3 (if wkB (xs (i + 1)) (xs (i + 2)) (xs (i + 3)) (xs (i + 4)) (xs (i + 5)) then (if (U 3) < 8 then (U 3) + 1 else (U 3)) else (U 3))) tr tc1 tv1) H := hP
  have hD : va_D (fun q : Nat => s.heap.size ≤ q) (wX cI cZ ad (upr (upr (upr (upr (upr R 27 (if wkB (xs (i + 1)) (xs (i + 2)) (xs (i + 3)) (xs (i + 4)) (xs (i + 5)) then (if (U 3) < 8 then upd (R 27) (U 3) (xs (i + 1)) else (R 27)) else (R 27))) 28 (if wkB (xs (i + 1)) (xs (i + 2)) (xs (i + 3)) (xs (i + 4)) (xs (i + 5)) then (if (U 3) < 8 then upd (R 28) (U 3) (nI (plc (xs (i + 2)) (xs (i + 3)))) else (R 28)) else (R 28))) 29 (if wkB (xs (i + 1)) (xs (i + 2)) (xs (i + 3)) (xs (i + 4)) (xs (i + 5)) then (if (U 3) < 8 then upd (R 29) (U 3) (xs (i + 4)) else (R 29)) else (R 29))) 30 (if wkB (xs (i + 1)) (xs (i + 2)) (xs (i + 3)) (xs (i + 4)) (xs (i + 5)) then (if (U 3) < 8 then upd (R 30) (U 3) (xs (i + 5)) else (R 30)) else (R 30))) 33 (if wkB (xs (i + 1)) (xs (i + 2)) (xs (i + 3)) (xs (i + 4)) (xs (i + 5)) then (if (U 3) < 8 then upd (upd (upd (upd (upd (R 33) (5 * (U 3)) (xs (i + 1))) (5 * (U 3) + 1) (xs (i + 2))) (5 * (U 3) + 2) (xs (i + 3))) (5 * (U 3) + 3) (xs (i + 4))) (5 * (U 3) + 4) (xs (i + 5)) else (R 33)) else (R 33))) V (upu U 3 (if wkB (xs (i + 1)) (xs (i + 2)) (xs (i + 3)) (xs (i + 4)) (xs (i + 5)) then (if (U 3) < 8 then (U 3) + 1 else (U 3)) else (U 3))) tr sc1 sv1 sb1 ++ wM cI cZ am (upr (upr (upr (upr (upr R 27 (if wkB (xs (i + 1)) (xs (i + 2)) (xs (i + 3)) (xs (i + 4)) (xs (i + 5)) then (if (U 3) < 8 then upd (R 27) (U 3) (xs (i + 1)) else (R 27)) else (R 27))) 28 (if wkB (xs (i + 1)) (xs (i + 2)) (xs (i + 3)) (xs (i + 4)) (xs (i + 5)) then (if (U 3) < 8 then upd (R 28) (U 3) (nI (plc (xs (i + 2)) (xs (i + 3)))) else (R 28)) else (R 28))) 29 (if wkB (xs (i + 1)) (xs (i + 2)) (xs (i + 3)) (xs (i + 4)) (xs (i + 5)) then (if (U 3) < 8 then upd (R 29) (U 3) (xs (i + 4)) else (R 29)) else (R 29))) 30 (if wkB (xs (i + 1)) (xs (i + 2)) (xs (i + 3)) (xs (i + 4)) (xs (i + 5)) then (if (U 3) < 8 then upd (R 30) (U 3) (xs (i + 5)) else (R 30)) else (R 30))) 33 (if wkB (xs (i + 1)) (xs (i + 2)) (xs (i + 3)) (xs (i + 4)) (xs (i + 5)) then (if (U 3) < 8 then upd (upd (upd (upd (upd (R 33) (5 * (U 3)) (xs (i + 1))) (5 * (U 3) + 1) (xs (i + 2))) (5 * (U 3) + 2) (xs (i + 3))) (5 * (U 3) + 3) (xs (i + 4))) (5 * (U 3) + 4) (xs (i + 5)) else (R 33)) else (R 33))) V (upu U 3 (if wkB (xs (i + 1)) (xs (i + 2)) (xs (i + 3)) (xs (i + 4)) (xs (i + 5)) then (if (U 3) < 8 then (U 3) + 1 else (U 3)) else (U 3))) tr tc1 tv1) := D_law hD
  refine lv_icmp_eq (tgt := 1043) hx hb dL_law_922 (by decide) (fun c1 => ?_) (fun c1 => ?_)
  · exact kk (upr (upr (upr (upr (upr R 27 (if wkB (xs (i + 1)) (xs (i + 2)) (xs (i + 3)) (xs (i + 4)) (xs (i + 5)) then (if (U 3) < 8 then upd (R 27) (U 3) (xs (i + 1)) else (R 27)) else (R 27))) 28 (if wkB (xs (i + 1)) (xs (i + 2)) (xs (i + 3)) (xs (i + 4)) (xs (i + 5)) then (if (U 3) < 8 then upd (R 28) (U 3) (nI (plc (xs (i + 2)) (xs (i + 3)))) else (R 28)) else (R 28))) 29 (if wkB (xs (i + 1)) (xs (i + 2)) (xs (i + 3)) (xs (i + 4)) (xs (i + 5)) then (if (U 3) < 8 then upd (R 29) (U 3) (xs (i + 4)) else (R 29)) else (R 29))) 30 (if wkB (xs (i + 1)) (xs (i + 2)) (xs (i + 3)) (xs (i + 4)) (xs (i + 5)) then (if (U 3) < 8 then upd (R 30) (U 3) (xs (i + 5)) else (R 30)) else (R 30))) 33 (if wkB (xs (i + 1)) (xs (i + 2)) (xs (i + 3)) (xs (i + 4)) (xs (i + 5)) then (if (U 3) < 8 then upd (upd (upd (upd (upd (R 33) (5 * (U 3)) (xs (i + 1))) (5 * (U 3) + 1) (xs (i + 2))) (5 * (U 3) + 2) (xs (i + 3))) (5 * (U 3) + 3) (xs (i + 4))) (5 * (U 3) + 4) (xs (i + 5)) else (R 33)) else (R 33))) V (upu U 3 (if wkB (xs (i + 1)) (xs (i + 2)) (xs (i + 3)) (xs (i + 4)) (xs (i + 5)) then (if (U 3) < 8 then (U 3) + 1 else (U 3)) else (U 3))) tr sc1 sv1 sb1 tc1 tv1 (⟨hI.1, hI.2.1, hI.2.2.1, hI.2.2.2.1, hI.2.2.2.2.1, hI.2.2.2.2.2.1, work_inv hI.2.2.2.2.2.2.1, hI.2.2.2.2.2.2.2⟩) H locs hP hD hS
  · exact absurd (rfl) c1
set_option maxHeartbeats 4000000 in
set_option maxRecDepth 100000 in
theorem L_cheapest {p : Program} {l : Launch} {e : Env} {s : State} {m : MethodId} {below : List Frame} {meth : Method} {c : Code} {b L : Nat} {xs : Nat → Int32} {G : va_G} {E : EvT} {cI cZ : ClassId} {ad am : Nat → Nat} {Q : State → Prop} (hx : p.tables.exec = Jvm.exec) (hb : c.code = code) (hml : c.maxLocals = 4) (hown : s.vm.findClass RL = some m.cls) (hts : ∀ w ∈ wAll, w.before #[Value.ref b] s = true) (hX : va_X b L xs s s.heap) (hbl : b < s.heap.size) (hE : Ev E s) (hE1 : E.1 = s.heap.size) (hK : va_K G vwCl [(cI, .int), (cZ, .boolean)] s) (hL : L ≤ 3072) {i : Nat} (hi : i + 6 ≤ L) (R : Nat → Nat → Int32) (V : Nat → Int32) (U : Nat → Nat) (tr : Int64) (sc : Nat → Nat → Int32) (sv : Nat → Int32) (sb : Bool) (tc : Nat → Nat → Int32) (tv : Nat → Int32) (hI : Inv R V U) {H : Heap} {locs : List Loc} (hP : va_P G vwCl (wX cI cZ ad R V U tr sc sv sb ++ wM cI cZ am R V U tr tc tv) H) (hD : va_D (fun q : Nat => s.heap.size ≤ q) (wX cI cZ ad R V U tr sc sv sb ++ wM cI cZ am R V U tr tc tv)) (hS : va_S (fun q : Nat => s.heap.size ≤ q) s.heap H locs) {ls : Array Slot} (hl : lv_has ls 4 [(0, .ref b), (1, .ref (ad 0)), (2, .ref (am 0)), (3, .int (nI i))]) (kk : ∀ (R : Nat → Nat → Int32) (V : Nat → Int32) (U : Nat → Nat) (tr : Int64) (sc : Nat → Nat → Int32) (sv : Nat → Int32) (sb : Bool) (tc : Nat → Nat → Int32) (tv : Nat → Int32), Inv R V U → ∀ (H : Heap) (locs : List Loc), va_P G vwCl (wX cI cZ ad R V U tr sc sv sb ++ wM cI cZ am R V U tr tc tv) H → va_D (fun q : Nat => s.heap.size ≤ q) (wX cI cZ ad R V U tr sc sv sb ++ wM cI cZ am R V U tr tc tv) → va_S (fun q : Nat => s.heap.size ≤ q) s.heap H locs → W p l e room_1 s m #[Value.ref b] below meth c H locs 81 3416 Q (F0 m 1043 ls [])) : W p l e room_1 s m #[Value.ref b] below meth c H locs 81 3416 Q (F0 m 927 ls []) := by
  have hA : ∀ q : Nat, s.heap.size ≤ q → (fun q : Nat => s.heap.size ≤ q) q := fun _ h => h
  have hbA : ¬ (fun q : Nat => s.heap.size ≤ q) b := Nat.not_le.mpr hbl
  have hlow : ∀ q : Nat, (fun q : Nat => s.heap.size ≤ q) q → E.1 ≤ q := fun _ h => by rw [hE1]; exact h
  obtain ⟨⟨i01, i6k, ile, ihd, ign, l9, hl6, hla⟩, hi1, hi2, ⟨hTB, hTn⟩, ⟨hse, hwa, hN, hho, hle⟩, ⟨⟨gN, hgp, hgl⟩, hgr, ⟨zN, hcz, hzl⟩, hng, hnc, hGA, hCA, s9, hs9, hsl⟩, ⟨hnw, wx, wz, hW⟩, hm0_, hm1_⟩ := id hI
  refine lv_aload_n hx hb dL_law_927 rfl (lv_at hl 1 rfl) ?_
  refine lv_aload_n hx hb dL_law_928 rfl (lv_at hl 0 rfl) ?_
  refine lv_iload_n hx hb dL_law_929 rfl (lv_at hl 3 rfl) ?_
  refine lv_iconst (v := 1) hx hb dL_law_930 (by decide) ?_
  refine lv_iadd hx hb dL_law_931 ?_
  refine top_eq (y := nI (i + 1)) (nI_add _ _) ?_
  refine va_sld hx hb hX hbl hbA hS (vp_in_nI (by omega) (by omega)) dL_law_932 ?_
  refine top_eq (y := xs (i + 1)) (by rw [nI_clamp (by omega)]) ?_
  refine lv_aload_n hx hb dL_law_933 rfl (lv_at hl 0 rfl) ?_
  refine lv_iload_n hx hb dL_law_934 rfl (lv_at hl 3 rfl) ?_
  refine lv_iconst (v := 2) hx hb dL_law_935 (by decide) ?_
  refine lv_iadd hx hb dL_law_936 ?_
  refine top_eq (y := nI (i + 2)) (nI_add _ _) ?_
  refine va_sld hx hb hX hbl hbA hS (vp_in_nI (by omega) (by omega)) dL_law_937 ?_
  refine top_eq (y := xs (i + 2)) (by rw [nI_clamp (by omega)]) ?_
  have hXc := bX_cheapest l G E cI cZ ad R V U tr sc sv sb (xs (i + 1)) (xs (i + 2)) (hnw)
  refine lawLi (As := [.int (xs (i + 1)), .int (xs (i + 2))]) (rest := []) hx hb hml hown hts hXc k_39_17 cal_X6_cheapest ⟨(Nat.le_of_ble_eq_true rfl), (Nat.le_of_ble_eq_true rfl)⟩ hE hA hlow hD hS hK hP (fun u => (wX_fst _ _ _ _ _ _ _ _ _ _).trans (wX_fst _ _ _ _ _ _ _ _ _ _).symm) 0 6 rfl rfl rfl hl.1 rfl (Nat.le_of_ble_eq_true rfl) dL_law_938 ⟨(Nat.le_of_ble_eq_true rfl), (Nat.le_of_ble_eq_true rfl)⟩ (fun r1 u1 H locs hr1 hP hD hS => ?_)
  subst hr1
  obtain ⟨sc1, sv1, sb1⟩ := u1
  have hP : va_P G vwCl (wX cI cZ ad R V U tr sc1 sv1 sb1 ++ wM cI cZ am R V U tr tc tv) H := hP
  have hD : va_D (fun q : Nat => s.heap.size ≤ q) (wX cI cZ ad R V U tr sc1 sv1 sb1 ++ wM cI cZ am R V U tr tc tv) := hD
  refine lv_aload_n hx hb dL_law_941 rfl (lv_at hl 2 rfl) ?_
  refine lv_aload_n hx hb dL_law_942 rfl (lv_at hl 0 rfl) ?_
  refine lv_iload_n hx hb dL_law_943 rfl (lv_at hl 3 rfl) ?_
  refine lv_iconst (v := 1) hx hb dL_law_944 (by decide) ?_
  refine lv_iadd hx hb dL_law_945 ?_
  refine top_eq (y := nI (i + 1)) (nI_add _ _) ?_
  refine va_sld hx hb hX hbl hbA hS (vp_in_nI (by omega) (by omega)) dL_law_946 ?_
  refine top_eq (y := xs (i + 1)) (by rw [nI_clamp (by omega)]) ?_
  refine lv_aload_n hx hb dL_law_947 rfl (lv_at hl 0 rfl) ?_
  refine lv_iload_n hx hb dL_law_948 rfl (lv_at hl 3 rfl) ?_
  refine lv_iconst (v := 2) hx hb dL_law_949 (by decide) ?_
  refine lv_iadd hx hb dL_law_950 ?_
  refine top_eq (y := nI (i + 2)) (nI_add _ _) ?_
  refine va_sld hx hb hX hbl hbA hS (vp_in_nI (by omega) (by omega)) dL_law_951 ?_
  refine top_eq (y := xs (i + 2)) (by rw [nI_clamp (by omega)]) ?_
  have hM := bM_cheapest l G E cI cZ am R V U tr tc tv wx wz (xs (i + 1)) (xs (i + 2)) (hnw) (fun i hi => (hW i hi).2.2.2.2.2.2.2.1) (fun i hi => (hW i hi).2.2.1) (fun i hi => (hW i hi).2.2.2.2.2.2.2.2.1) (fun i hi => (hW i hi).2.2.2.1) (hms hnw ihd hW)
  refine lawRi (As := [.int (xs (i + 1)), .int (xs (i + 2))]) (rest := [.int (if wiB (xs (i + 1)) 0 9999 && wiB (xs (i + 2)) 0 1 then (if (xs (i + 2)) = 0 then (chpS (okS (R 0) (R 1) (R 2) (R 4) (R 27) (R 28) (R 29) (U 3) (xs (i + 1))) (fun st => sumS (priT (R 30) st) (U 3)) (2 ^ (U 3))).2 else (chpS (okS (R 0) (R 1) (R 2) (R 4) (R 27) (R 28) (R 29) (U 3) (xs (i + 1))) (fun st => sumS (priT (R 30) st) (U 3)) (2 ^ (U 3))).1) else (-1))]) hx hb hml hown hts hM k_40_11 cal_X7_cheapest ⟨(Nat.le_of_ble_eq_true rfl), (Nat.le_of_ble_eq_true rfl)⟩ hE hA hlow hD hS hK hP (fun u => (wM_fst _ _ _ _ _ _ _ _ _ _).trans (wM_fst _ _ _ _ _ _ _ _ _ _).symm) 0 7 rfl rfl rfl hl.1 rfl (Nat.le_of_ble_eq_true rfl) dL_law_952 ⟨(Nat.le_of_ble_eq_true rfl), (Nat.le_of_ble_eq_true rfl)⟩ (fun r2 u2 H locs hr2 hP hD hS => ?_)
  subst hr2
  obtain ⟨tc1, tv1⟩ := u2
  have hP : va_P G vwCl (wX cI cZ ad R V U tr sc1 sv1 sb1 ++ wM cI cZ am R V U tr tc1 tv1) H := hP
  have hD : va_D (fun q : Nat => s.heap.size ≤ q) (wX cI cZ ad R V U tr sc1 sv1 sb1 ++ wM cI cZ am R V U tr tc1 tv1) := D_law hD
  refine lv_icmp_eq (tgt := 1043) hx hb dL_law_955 (by decide) (fun c1 => ?_) (fun c1 => ?_)
  · exact kk R V U tr sc1 sv1 sb1 tc1 tv1 (hI) H locs hP hD hS
  · exact absurd (cheap_eq hnw ihd hW _ _) c1
set_option maxHeartbeats 4000000 in
set_option maxRecDepth 100000 in
theorem L_keep {p : Program} {l : Launch} {e : Env} {s : State} {m : MethodId} {below : List Frame} {meth : Method} {c : Code} {b L : Nat} {xs : Nat → Int32} {G : va_G} {E : EvT} {cI cZ : ClassId} {ad am : Nat → Nat} {Q : State → Prop} (hx : p.tables.exec = Jvm.exec) (hb : c.code = code) (hml : c.maxLocals = 4) (hown : s.vm.findClass RL = some m.cls) (hts : ∀ w ∈ wAll, w.before #[Value.ref b] s = true) (hX : va_X b L xs s s.heap) (hbl : b < s.heap.size) (hE : Ev E s) (hE1 : E.1 = s.heap.size) (hK : va_K G vwCl [(cI, .int), (cZ, .boolean)] s) (hL : L ≤ 3072) {i : Nat} (hi : i + 6 ≤ L) (R : Nat → Nat → Int32) (V : Nat → Int32) (U : Nat → Nat) (tr : Int64) (sc : Nat → Nat → Int32) (sv : Nat → Int32) (sb : Bool) (tc : Nat → Nat → Int32) (tv : Nat → Int32) (hI : Inv R V U) {H : Heap} {locs : List Loc} (hP : va_P G vwCl (wX cI cZ ad R V U tr sc sv sb ++ wM cI cZ am R V U tr tc tv) H) (hD : va_D (fun q : Nat => s.heap.size ≤ q) (wX cI cZ ad R V U tr sc sv sb ++ wM cI cZ am R V U tr tc tv)) (hS : va_S (fun q : Nat => s.heap.size ≤ q) s.heap H locs) {ls : Array Slot} (hl : lv_has ls 4 [(0, .ref b), (1, .ref (ad 0)), (2, .ref (am 0)), (3, .int (nI i))]) (kk : ∀ (R : Nat → Nat → Int32) (V : Nat → Int32) (U : Nat → Nat) (tr : Int64) (sc : Nat → Nat → Int32) (sv : Nat → Int32) (sb : Bool) (tc : Nat → Nat → Int32) (tv : Nat → Int32), Inv R V U → ∀ (H : Heap) (locs : List Loc), va_P G vwCl (wX cI cZ ad R V U tr sc sv sb ++ wM cI cZ am R V U tr tc tv) H → va_D (fun q : Nat => s.heap.size ≤ q) (wX cI cZ ad R V U tr sc sv sb ++ wM cI cZ am R V U tr tc tv) → va_S (fun q : Nat => s.heap.size ≤ q) s.heap H locs → W p l e room_1 s m #[Value.ref b] below meth c H locs 81 3416 Q (F0 m 1043 ls [])) : W p l e room_1 s m #[Value.ref b] below meth c H locs 81 3416 Q (F0 m 960 ls []) := by
  have hA : ∀ q : Nat, s.heap.size ≤ q → (fun q : Nat => s.heap.size ≤ q) q := fun _ h => h
  have hbA : ¬ (fun q : Nat => s.heap.size ≤ q) b := Nat.not_le.mpr hbl
  have hlow : ∀ q : Nat, (fun q : Nat => s.heap.size ≤ q) q → E.1 ≤ q := fun _ h => by rw [hE1]; exact h
  obtain ⟨⟨i01, i6k, ile, ihd, ign, l9, hl6, hla⟩, hi1, hi2, ⟨hTB, hTn⟩, ⟨hse, hwa, hN, hho, hle⟩, ⟨⟨gN, hgp, hgl⟩, hgr, ⟨zN, hcz, hzl⟩, hng, hnc, hGA, hCA, s9, hs9, hsl⟩, ⟨hnw, wx, wz, hW⟩, hm0_, hm1_⟩ := id hI
  refine lv_aload_n hx hb dL_law_960 rfl (lv_at hl 1 rfl) ?_
  refine lv_aload_n hx hb dL_law_961 rfl (lv_at hl 0 rfl) ?_
  refine lv_iload_n hx hb dL_law_962 rfl (lv_at hl 3 rfl) ?_
  refine lv_iconst (v := 1) hx hb dL_law_963 (by decide) ?_
  refine lv_iadd hx hb dL_law_964 ?_
  refine top_eq (y := nI (i + 1)) (nI_add _ _) ?_
  refine va_sld hx hb hX hbl hbA hS (vp_in_nI (by omega) (by omega)) dL_law_965 ?_
  refine top_eq (y := xs (i + 1)) (by rw [nI_clamp (by omega)]) ?_
  have hXc := bX_keep l G E cI cZ ad R V U tr sc sv sb (xs (i + 1))
  refine lawLi (As := [.int (xs (i + 1))]) (rest := []) hx hb hml hown hts hXc k_40_15 cal_X6_keep ⟨(Nat.le_of_ble_eq_true rfl), (Nat.le_of_ble_eq_true rfl)⟩ hE hA hlow hD hS hK hP (fun u => (wX_fst _ _ _ _ _ _ _ _ _ _).trans (wX_fst _ _ _ _ _ _ _ _ _ _).symm) 0 6 rfl rfl rfl hl.1 rfl (Nat.le_of_ble_eq_true rfl) dL_law_966 ⟨(Nat.le_of_ble_eq_true rfl), (Nat.le_of_ble_eq_true rfl)⟩ (fun r1 u1 H locs hr1 hP hD hS => ?_)
  subst hr1
  obtain ⟨sc1, sv1, sb1⟩ := u1
  have hP : va_P G vwCl (wX cI cZ ad (upr (upr (upr (upr (upr (upr (upr (upr (upr (upr (upr (upr (upr R 6 (if (xs (i + 1)) = 0 then (R 0) else (R 6))) 12 (if (xs (i + 1)) = 1 then (R 0) else (R 12))) 7 (if (xs (i + 1)) = 0 then (R 1) else (R 7))) 13 (if (xs (i + 1)) = 1 then (R 1) else (R 13))) 8 (if (xs (i + 1)) = 0 then (R 2) else (R 8))) 14 (if (xs (i + 1)) = 1 then (R 2) else (R 14))) 9 (if (xs (i + 1)) = 0 then (R 3) else (R 9))) 15 (if (xs (i + 1)) = 1 then (R 3) else (R 15))) 10 (if (xs (i + 1)) = 0 then (R 4) else (R 10))) 16 (if (xs (i + 1)) = 1 then (R 4) else (R 16))) 11 (if (xs (i + 1)) = 0 then (R 5) else (R 11))) 17 (if (xs (i + 1)) = 1 then (R 5) else (R 17))) 18 (if (xs (i + 1)) = 0 then upd (R 18) 0 1 else if (xs (i + 1)) = 1 then upd (R 18) 1 1 else (R 18))) (upv (upv V 1 (if (xs (i + 1)) = 0 then (V 0) else (V 1))) 2 (if (xs (i + 1)) = 1 then (V 0) else (V 2))) U tr sc1 sv1 sb1 ++ wM cI cZ am R V U tr tc tv) H := hP
  have hD : va_D (fun q : Nat => s.heap.size ≤ q) (wX cI cZ ad (upr (upr (upr (upr (upr (upr (upr (upr (upr (upr (upr (upr (upr R 6 (if (xs (i + 1)) = 0 then (R 0) else (R 6))) 12 (if (xs (i + 1)) = 1 then (R 0) else (R 12))) 7 (if (xs (i + 1)) = 0 then (R 1) else (R 7))) 13 (if (xs (i + 1)) = 1 then (R 1) else (R 13))) 8 (if (xs (i + 1)) = 0 then (R 2) else (R 8))) 14 (if (xs (i + 1)) = 1 then (R 2) else (R 14))) 9 (if (xs (i + 1)) = 0 then (R 3) else (R 9))) 15 (if (xs (i + 1)) = 1 then (R 3) else (R 15))) 10 (if (xs (i + 1)) = 0 then (R 4) else (R 10))) 16 (if (xs (i + 1)) = 1 then (R 4) else (R 16))) 11 (if (xs (i + 1)) = 0 then (R 5) else (R 11))) 17 (if (xs (i + 1)) = 1 then (R 5) else (R 17))) 18 (if (xs (i + 1)) = 0 then upd (R 18) 0 1 else if (xs (i + 1)) = 1 then upd (R 18) 1 1 else (R 18))) (upv (upv V 1 (if (xs (i + 1)) = 0 then (V 0) else (V 1))) 2 (if (xs (i + 1)) = 1 then (V 0) else (V 2))) U tr sc1 sv1 sb1 ++ wM cI cZ am R V U tr tc tv) := hD
  refine lv_aload_n hx hb dL_law_969 rfl (lv_at hl 2 rfl) ?_
  refine lv_aload_n hx hb dL_law_970 rfl (lv_at hl 0 rfl) ?_
  refine lv_iload_n hx hb dL_law_971 rfl (lv_at hl 3 rfl) ?_
  refine lv_iconst (v := 1) hx hb dL_law_972 (by decide) ?_
  refine lv_iadd hx hb dL_law_973 ?_
  refine top_eq (y := nI (i + 1)) (nI_add _ _) ?_
  refine va_sld hx hb hX hbl hbA hS (vp_in_nI (by omega) (by omega)) dL_law_974 ?_
  refine top_eq (y := xs (i + 1)) (by rw [nI_clamp (by omega)]) ?_
  have hM := bM_keep l G E cI cZ am R V U tr tc tv (xs (i + 1))
  refine lawRi (As := [.int (xs (i + 1))]) (rest := [.int (if wiB (xs (i + 1)) 0 1 then cntS (isES (R 0) (R 2)) 48 else (-1))]) hx hb hml hown hts hM k_40_23 cal_X7_keep ⟨(Nat.le_of_ble_eq_true rfl), (Nat.le_of_ble_eq_true rfl)⟩ hE hA hlow hD hS hK hP (fun u => (wM_fst _ _ _ _ _ _ _ _ _ _).trans (wM_fst _ _ _ _ _ _ _ _ _ _).symm) 0 7 rfl rfl rfl hl.1 rfl (Nat.le_of_ble_eq_true rfl) dL_law_975 ⟨(Nat.le_of_ble_eq_true rfl), (Nat.le_of_ble_eq_true rfl)⟩ (fun r2 u2 H locs hr2 hP hD hS => ?_)
  subst hr2
  obtain ⟨tc1, tv1⟩ := u2
  have hP : va_P G vwCl (wX cI cZ ad (upr (upr (upr (upr (upr (upr (upr (upr (upr (upr (upr (upr (upr (upr (upr R 6 (if (xs (i + 1)) = 0 then (R 0) else (R 6))) 12 (if (xs (i + 1)) = 1 then (R 0) else (R 12))) 7 (if (xs (i + 1)) = 0 then (R 1) else (R 7))) 13 (if (xs (i + 1)) = 1 then (R 1) else (R 13))) 8 (if (xs (i + 1)) = 0 then (R 2) else (R 8))) 14 (if (xs (i + 1)) = 1 then (R 2) else (R 14))) 9 (if (xs (i + 1)) = 0 then (R 3) else (R 9))) 15 (if (xs (i + 1)) = 1 then (R 3) else (R 15))) 10 (if (xs (i + 1)) = 0 then (R 4) else (R 10))) 16 (if (xs (i + 1)) = 1 then (R 4) else (R 16))) 11 (if (xs (i + 1)) = 0 then (R 5) else (R 11))) 17 (if (xs (i + 1)) = 1 then (R 5) else (R 17))) 18 (if (xs (i + 1)) = 0 then upd (R 18) 0 1 else if (xs (i + 1)) = 1 then upd (R 18) 1 1 else (R 18))) 34 (if (xs (i + 1)) = 0 then cpK (R 34) (ms (R 0) (R 1) (R 2) (R 3) (R 4) (R 5) (V 0)) 0 163 else if (xs (i + 1)) = 1 then cpK (R 34) (ms (R 0) (R 1) (R 2) (R 3) (R 4) (R 5) (V 0)) 163 163 else (R 34))) 35 (if (xs (i + 1)) = 0 then upd (R 35) 0 1 else if (xs (i + 1)) = 1 then upd (R 35) 1 1 else (R 35))) (upv (upv V 1 (if (xs (i + 1)) = 0 then (V 0) else (V 1))) 2 (if (xs (i + 1)) = 1 then (V 0) else (V 2))) U tr sc1 sv1 sb1 ++ wM cI cZ am (upr (upr (upr (upr (upr (upr (upr (upr (upr (upr (upr (upr (upr (upr (upr R 6 (if (xs (i + 1)) = 0 then (R 0) else (R 6))) 12 (if (xs (i + 1)) = 1 then (R 0) else (R 12))) 7 (if (xs (i + 1)) = 0 then (R 1) else (R 7))) 13 (if (xs (i + 1)) = 1 then (R 1) else (R 13))) 8 (if (xs (i + 1)) = 0 then (R 2) else (R 8))) 14 (if (xs (i + 1)) = 1 then (R 2) else (R 14))) 9 (if (xs (i + 1)) = 0 then (R 3) else (R 9))) 15 (if (xs (i + 1)) = 1 then (R 3) else (R 15))) 10 (if (xs (i + 1)) = 0 then (R 4) else (R 10))) 16 (if (xs (i + 1)) = 1 then (R 4) else (R 16))) 11 (if (xs (i + 1)) = 0 then (R 5) else (R 11))) 17 (if (xs (i + 1)) = 1 then (R 5) else (R 17))) 18 (if (xs (i + 1)) = 0 then upd (R 18) 0 1 else if (xs (i + 1)) = 1 then upd (R 18) 1 1 else (R 18))) 34 (if (xs (i + 1)) = 0 then cpK (R 34) (ms (R 0) (R 1) (R 2) (R 3) (R 4) (R 5) (V 0)) 0 163 else if (xs (i + 1)) = 1 then cpK (R 34) (ms (R 0) (R 1) (R 2) (R 3) (R 4) (R 5) (V 0)) 163 163 else (R 34))) 35 (if (xs (i + 1)) = 0 then upd (R 35) 0 1 else if (xs (i + 1)) = 1 then upd (R 35) 1 1 else (R 35))) (upv (upv V 1 (if (xs (i + 1)) = 0 then (V 0) else (V 1))) 2 (if (xs (i + 1)) = 1 then (V 0) else (V 2))) U tr tc1 tv1) H := hP
  have hD : va_D (fun q : Nat => s.heap.size ≤ q) (wX cI cZ ad (upr (upr (upr (upr (upr (upr (upr (upr (upr (upr (upr (upr (upr (upr (upr R 6 (if (xs (i + 1)) = 0 then (R 0) else (R 6))) 12 (if (xs (i + 1)) = 1 then (R 0) else (R 12))) 7 (if (xs (i + 1)) = 0 then (R 1) else (R 7))) 13 (if (xs (i + 1)) = 1 then (R 1) else (R 13))) 8 (if (xs (i + 1)) = 0 then (R 2) else (R 8))) 14 (if (xs (i + 1)) = 1 then (R 2) else (R 14))) 9 (if (xs (i + 1)) = 0 then (R 3) else (R 9))) 15 (if (xs (i + 1)) = 1 then (R 3) else (R 15))) 10 (if (xs (i + 1)) = 0 then (R 4) else (R 10))) 16 (if (xs (i + 1)) = 1 then (R 4) else (R 16))) 11 (if (xs (i + 1)) = 0 then (R 5) else (R 11))) 17 (if (xs (i + 1)) = 1 then (R 5) else (R 17))) 18 (if (xs (i + 1)) = 0 then upd (R 18) 0 1 else if (xs (i + 1)) = 1 then upd (R 18) 1 1 else (R 18))) 34 (if (xs (i + 1)) = 0 then cpK (R 34) (ms (R 0) (R 1) (R 2) (R 3) (R 4) (R 5) (V 0)) 0 163 else if (xs (i + 1)) = 1 then cpK (R 34) (ms (R 0) (R 1) (R 2) (R 3) (R 4) (R 5) (V 0)) 163 163 else (R 34))) 35 (if (xs (i + 1)) = 0 then upd (R 35) 0 1 else if (xs (i + 1)) = 1 then upd (R 35) 1 1 else (R 35))) (upv (upv V 1 (if (xs (i + 1)) = 0 then (V 0) else (V 1))) 2 (if (xs (i + 1)) = 1 then (V 0) else (V 2))) U tr sc1 sv1 sb1 ++ wM cI cZ am (upr (upr (upr (upr (upr (upr (upr (upr (upr (upr (upr (upr (upr (upr (upr R 6 (if (xs (i + 1)) = 0 then (R 0) else (R 6))) 12 (if (xs (i + 1)) = 1 then (R 0) else (R 12))) 7 (if (xs (i + 1)) = 0 then (R 1) else (R 7))) 13 (if (xs (i + 1)) = 1 then (R 1) else (R 13))) 8 (if (xs (i + 1)) = 0 then (R 2) else (R 8))) 14 (if (xs (i + 1)) = 1 then (R 2) else (R 14))) 9 (if (xs (i + 1)) = 0 then (R 3) else (R 9))) 15 (if (xs (i + 1)) = 1 then (R 3) else (R 15))) 10 (if (xs (i + 1)) = 0 then (R 4) else (R 10))) 16 (if (xs (i + 1)) = 1 then (R 4) else (R 16))) 11 (if (xs (i + 1)) = 0 then (R 5) else (R 11))) 17 (if (xs (i + 1)) = 1 then (R 5) else (R 17))) 18 (if (xs (i + 1)) = 0 then upd (R 18) 0 1 else if (xs (i + 1)) = 1 then upd (R 18) 1 1 else (R 18))) 34 (if (xs (i + 1)) = 0 then cpK (R 34) (ms (R 0) (R 1) (R 2) (R 3) (R 4) (R 5) (V 0)) 0 163 else if (xs (i + 1)) = 1 then cpK (R 34) (ms (R 0) (R 1) (R 2) (R 3) (R 4) (R 5) (V 0)) 163 163 else (R 34))) 35 (if (xs (i + 1)) = 0 then upd (R 35) 0 1 else if (xs (i + 1)) = 1 then upd (R 35) 1 1 else (R 35))) (upv (upv V 1 (if (xs (i + 1)) = 0 then (V 0) else (V 1))) 2 (if (xs (i + 1)) = 1 then (V 0) else (V 2))) U tr tc1 tv1) := D_law hD
  refine lv_icmp_eq (tgt := 1043) hx hb dL_law_978 (by decide) (fun c1 => ?_) (fun c1 => ?_)
  · exact kk (upr (upr (upr (upr (upr (upr (upr (upr (upr (upr (upr (upr (upr (upr (upr R 6 (if (xs (i + 1)) = 0 then (R 0) else (R 6))) 12 (if (xs (i + 1)) = 1 then (R 0) else (R 12))) 7 (if (xs (i + 1)) = 0 then (R 1) else (R 7))) 13 (if (xs (i + 1)) = 1 then (R 1) else (R 13))) 8 (if (xs (i + 1)) = 0 then (R 2) else (R 8))) 14 (if (xs (i + 1)) = 1 then (R 2) else (R 14))) 9 (if (xs (i + 1)) = 0 then (R 3) else (R 9))) 15 (if (xs (i + 1)) = 1 then (R 3) else (R 15))) 10 (if (xs (i + 1)) = 0 then (R 4) else (R 10))) 16 (if (xs (i + 1)) = 1 then (R 4) else (R 16))) 11 (if (xs (i + 1)) = 0 then (R 5) else (R 11))) 17 (if (xs (i + 1)) = 1 then (R 5) else (R 17))) 18 (if (xs (i + 1)) = 0 then upd (R 18) 0 1 else if (xs (i + 1)) = 1 then upd (R 18) 1 1 else (R 18))) 34 (if (xs (i + 1)) = 0 then cpK (R 34) (ms (R 0) (R 1) (R 2) (R 3) (R 4) (R 5) (V 0)) 0 163 else if (xs (i + 1)) = 1 then cpK (R 34) (ms (R 0) (R 1) (R 2) (R 3) (R 4) (R 5) (V 0)) 163 163 else (R 34))) 35 (if (xs (i + 1)) = 0 then upd (R 35) 0 1 else if (xs (i + 1)) = 1 then upd (R 35) 1 1 else (R 35))) (upv (upv V 1 (if (xs (i + 1)) = 0 then (V 0) else (V 1))) 2 (if (xs (i + 1)) = 1 then (V 0) else (V 2))) U tr sc1 sv1 sb1 tc1 tv1 (⟨hI.1, keepS hI.1 hi1, keepS hI.1 hi2, hI.2.2.2.1, hI.2.2.2.2.1, hI.2.2.2.2.2.1, hI.2.2.2.2.2.2.1, keep0 hm0_, keep1 hm1_⟩) H locs hP hD hS
  · exact absurd (rfl) c1
set_option maxHeartbeats 4000000 in
set_option maxRecDepth 100000 in
theorem L_back {p : Program} {l : Launch} {e : Env} {s : State} {m : MethodId} {below : List Frame} {meth : Method} {c : Code} {b L : Nat} {xs : Nat → Int32} {G : va_G} {E : EvT} {cI cZ : ClassId} {ad am : Nat → Nat} {Q : State → Prop} (hx : p.tables.exec = Jvm.exec) (hb : c.code = code) (hml : c.maxLocals = 4) (hown : s.vm.findClass RL = some m.cls) (hts : ∀ w ∈ wAll, w.before #[Value.ref b] s = true) (hX : va_X b L xs s s.heap) (hbl : b < s.heap.size) (hE : Ev E s) (hE1 : E.1 = s.heap.size) (hK : va_K G vwCl [(cI, .int), (cZ, .boolean)] s) (hL : L ≤ 3072) {i : Nat} (hi : i + 6 ≤ L) (R : Nat → Nat → Int32) (V : Nat → Int32) (U : Nat → Nat) (tr : Int64) (sc : Nat → Nat → Int32) (sv : Nat → Int32) (sb : Bool) (tc : Nat → Nat → Int32) (tv : Nat → Int32) (hI : Inv R V U) {H : Heap} {locs : List Loc} (hP : va_P G vwCl (wX cI cZ ad R V U tr sc sv sb ++ wM cI cZ am R V U tr tc tv) H) (hD : va_D (fun q : Nat => s.heap.size ≤ q) (wX cI cZ ad R V U tr sc sv sb ++ wM cI cZ am R V U tr tc tv)) (hS : va_S (fun q : Nat => s.heap.size ≤ q) s.heap H locs) {ls : Array Slot} (hl : lv_has ls 4 [(0, .ref b), (1, .ref (ad 0)), (2, .ref (am 0)), (3, .int (nI i))]) (kk : ∀ (R : Nat → Nat → Int32) (V : Nat → Int32) (U : Nat → Nat) (tr : Int64) (sc : Nat → Nat → Int32) (sv : Nat → Int32) (sb : Bool) (tc : Nat → Nat → Int32) (tv : Nat → Int32), Inv R V U → ∀ (H : Heap) (locs : List Loc), va_P G vwCl (wX cI cZ ad R V U tr sc sv sb ++ wM cI cZ am R V U tr tc tv) H → va_D (fun q : Nat => s.heap.size ≤ q) (wX cI cZ ad R V U tr sc sv sb ++ wM cI cZ am R V U tr tc tv) → va_S (fun q : Nat => s.heap.size ≤ q) s.heap H locs → W p l e room_1 s m #[Value.ref b] below meth c H locs 81 3416 Q (F0 m 1043 ls [])) : W p l e room_1 s m #[Value.ref b] below meth c H locs 81 3416 Q (F0 m 983 ls []) := by
  have hA : ∀ q : Nat, s.heap.size ≤ q → (fun q : Nat => s.heap.size ≤ q) q := fun _ h => h
  have hbA : ¬ (fun q : Nat => s.heap.size ≤ q) b := Nat.not_le.mpr hbl
  have hlow : ∀ q : Nat, (fun q : Nat => s.heap.size ≤ q) q → E.1 ≤ q := fun _ h => by rw [hE1]; exact h
  obtain ⟨⟨i01, i6k, ile, ihd, ign, l9, hl6, hla⟩, hi1, hi2, ⟨hTB, hTn⟩, ⟨hse, hwa, hN, hho, hle⟩, ⟨⟨gN, hgp, hgl⟩, hgr, ⟨zN, hcz, hzl⟩, hng, hnc, hGA, hCA, s9, hs9, hsl⟩, ⟨hnw, wx, wz, hW⟩, hm0_, hm1_⟩ := id hI
  refine lv_aload_n hx hb dL_law_983 rfl (lv_at hl 1 rfl) ?_
  refine lv_aload_n hx hb dL_law_984 rfl (lv_at hl 0 rfl) ?_
  refine lv_iload_n hx hb dL_law_985 rfl (lv_at hl 3 rfl) ?_
  refine lv_iconst (v := 1) hx hb dL_law_986 (by decide) ?_
  refine lv_iadd hx hb dL_law_987 ?_
  refine top_eq (y := nI (i + 1)) (nI_add _ _) ?_
  refine va_sld hx hb hX hbl hbA hS (vp_in_nI (by omega) (by omega)) dL_law_988 ?_
  refine top_eq (y := xs (i + 1)) (by rw [nI_clamp (by omega)]) ?_
  have hXc := bX_back l G E cI cZ ad R V U tr sc sv sb (xs (i + 1))
  refine lawLi (As := [.int (xs (i + 1))]) (rest := []) hx hb hml hown hts hXc k_41_3 cal_X6_back ⟨(Nat.le_of_ble_eq_true rfl), (Nat.le_of_ble_eq_true rfl)⟩ hE hA hlow hD hS hK hP (fun u => (wX_fst _ _ _ _ _ _ _ _ _ _).trans (wX_fst _ _ _ _ _ _ _ _ _ _).symm) 0 6 rfl rfl rfl hl.1 rfl (Nat.le_of_ble_eq_true rfl) dL_law_989 ⟨(Nat.le_of_ble_eq_true rfl), (Nat.le_of_ble_eq_true rfl)⟩ (fun r1 u1 H locs hr1 hP hD hS => ?_)
  subst hr1
  obtain ⟨sc1, sv1, sb1⟩ := u1
  have hP : va_P G vwCl (wX cI cZ ad (upr (upr (upr (upr (upr (upr R 0 (bkS (xs (i + 1)) (R 18) (R 0) (R 6) (R 12))) 1 (bkS (xs (i + 1)) (R 18) (R 1) (R 7) (R 13))) 2 (bkS (xs (i + 1)) (R 18) (R 2) (R 8) (R 14))) 3 (bkS (xs (i + 1)) (R 18) (R 3) (R 9) (R 15))) 4 (bkS (xs (i + 1)) (R 18) (R 4) (R 10) (R 16))) 5 (bkS (xs (i + 1)) (R 18) (R 5) (R 11) (R 17))) (upv V 0 (bkS (xs (i + 1)) (R 18) (V 0) (V 1) (V 2))) U tr sc1 sv1 sb1 ++ wM cI cZ am R V U tr tc tv) H := hP
  have hD : va_D (fun q : Nat => s.heap.size ≤ q) (wX cI cZ ad (upr (upr (upr (upr (upr (upr R 0 (bkS (xs (i + 1)) (R 18) (R 0) (R 6) (R 12))) 1 (bkS (xs (i + 1)) (R 18) (R 1) (R 7) (R 13))) 2 (bkS (xs (i + 1)) (R 18) (R 2) (R 8) (R 14))) 3 (bkS (xs (i + 1)) (R 18) (R 3) (R 9) (R 15))) 4 (bkS (xs (i + 1)) (R 18) (R 4) (R 10) (R 16))) 5 (bkS (xs (i + 1)) (R 18) (R 5) (R 11) (R 17))) (upv V 0 (bkS (xs (i + 1)) (R 18) (V 0) (V 1) (V 2))) U tr sc1 sv1 sb1 ++ wM cI cZ am R V U tr tc tv) := hD
  refine lv_aload_n hx hb dL_law_992 rfl (lv_at hl 2 rfl) ?_
  refine lv_aload_n hx hb dL_law_993 rfl (lv_at hl 0 rfl) ?_
  refine lv_iload_n hx hb dL_law_994 rfl (lv_at hl 3 rfl) ?_
  refine lv_iconst (v := 1) hx hb dL_law_995 (by decide) ?_
  refine lv_iadd hx hb dL_law_996 ?_
  refine top_eq (y := nI (i + 1)) (nI_add _ _) ?_
  refine va_sld hx hb hX hbl hbA hS (vp_in_nI (by omega) (by omega)) dL_law_997 ?_
  refine top_eq (y := xs (i + 1)) (by rw [nI_clamp (by omega)]) ?_
  have hM := bM_back l G E cI cZ am R V U tr tc tv (if R 18 0 = 0 then (fun _ => 0) else R 6) (if R 18 0 = 0 then (fun _ => 0) else R 7) (if R 18 0 = 0 then (fun _ => 0) else R 8) (if R 18 0 = 0 then (fun _ => 0) else R 9) (if R 18 0 = 0 then (fun _ => 0) else R 10) (if R 18 0 = 0 then (fun _ => 0) else R 11) (if R 18 1 = 0 then (fun _ => 0) else R 12) (if R 18 1 = 0 then (fun _ => 0) else R 13) (if R 18 1 = 0 then (fun _ => 0) else R 14) (if R 18 1 = 0 then (fun _ => 0) else R 15) (if R 18 1 = 0 then (fun _ => 0) else R 16) (if R 18 1 = 0 then (fun _ => 0) else R 17) (if R 18 0 = 0 then 0 else V 1) (if R 18 1 = 0 then 0 else V 2) (xs (i + 1)) (back_K hm0_) (back_K hm1_)
  rw [back_s hm0_.1 hm1_.1] at hM
  refine lawRi (As := [.int (xs (i + 1))]) (rest := [.int (if wiB (xs (i + 1)) 0 1 then (if bkZ (xs (i + 1)) (R 18) then (-2) else cntS (isES (bkS (xs (i + 1)) (R 18) (R 0) (R 6) (R 12)) (bkS (xs (i + 1)) (R 18) (R 2) (R 8) (R 14))) 48) else (-1))]) hx hb hml hown hts hM k_41_7 cal_X7_back ⟨(Nat.le_of_ble_eq_true rfl), (Nat.le_of_ble_eq_true rfl)⟩ hE hA hlow hD hS hK hP (fun u => (wM_fst _ _ _ _ _ _ _ _ _ _).trans (wM_fst _ _ _ _ _ _ _ _ _ _).symm) 0 7 rfl rfl rfl hl.1 rfl (Nat.le_of_ble_eq_true rfl) dL_law_998 ⟨(Nat.le_of_ble_eq_true rfl), (Nat.le_of_ble_eq_true rfl)⟩ (fun r2 u2 H locs hr2 hP hD hS => ?_)
  subst hr2
  obtain ⟨tc1, tv1⟩ := u2
  have hP : va_P G vwCl (wX cI cZ ad (upr (upr (upr (upr (upr (upr R 0 (bkS (xs (i + 1)) (R 18) (R 0) (R 6) (R 12))) 1 (bkS (xs (i + 1)) (R 18) (R 1) (R 7) (R 13))) 2 (bkS (xs (i + 1)) (R 18) (R 2) (R 8) (R 14))) 3 (bkS (xs (i + 1)) (R 18) (R 3) (R 9) (R 15))) 4 (bkS (xs (i + 1)) (R 18) (R 4) (R 10) (R 16))) 5 (bkS (xs (i + 1)) (R 18) (R 5) (R 11) (R 17))) (upv V 0 (bkS (xs (i + 1)) (R 18) (V 0) (V 1) (V 2))) U tr sc1 sv1 sb1 ++ wM cI cZ am (upr (upr (upr (upr (upr (upr R 0 (bkS (xs (i + 1)) (R 18) (R 0) (R 6) (R 12))) 1 (bkS (xs (i + 1)) (R 18) (R 1) (R 7) (R 13))) 2 (bkS (xs (i + 1)) (R 18) (R 2) (R 8) (R 14))) 3 (bkS (xs (i + 1)) (R 18) (R 3) (R 9) (R 15))) 4 (bkS (xs (i + 1)) (R 18) (R 4) (R 10) (R 16))) 5 (bkS (xs (i + 1)) (R 18) (R 5) (R 11) (R 17))) (upv V 0 (bkS (xs (i + 1)) (R 18) (V 0) (V 1) (V 2))) U tr tc1 tv1) H := hP
  have hD : va_D (fun q : Nat => s.heap.size ≤ q) (wX cI cZ ad (upr (upr (upr (upr (upr (upr R 0 (bkS (xs (i + 1)) (R 18) (R 0) (R 6) (R 12))) 1 (bkS (xs (i + 1)) (R 18) (R 1) (R 7) (R 13))) 2 (bkS (xs (i + 1)) (R 18) (R 2) (R 8) (R 14))) 3 (bkS (xs (i + 1)) (R 18) (R 3) (R 9) (R 15))) 4 (bkS (xs (i + 1)) (R 18) (R 4) (R 10) (R 16))) 5 (bkS (xs (i + 1)) (R 18) (R 5) (R 11) (R 17))) (upv V 0 (bkS (xs (i + 1)) (R 18) (V 0) (V 1) (V 2))) U tr sc1 sv1 sb1 ++ wM cI cZ am (upr (upr (upr (upr (upr (upr R 0 (bkS (xs (i + 1)) (R 18) (R 0) (R 6) (R 12))) 1 (bkS (xs (i + 1)) (R 18) (R 1) (R 7) (R 13))) 2 (bkS (xs (i + 1)) (R 18) (R 2) (R 8) (R 14))) 3 (bkS (xs (i + 1)) (R 18) (R 3) (R 9) (R 15))) 4 (bkS (xs (i + 1)) (R 18) (R 4) (R 10) (R 16))) 5 (bkS (xs (i + 1)) (R 18) (R 5) (R 11) (R 17))) (upv V 0 (bkS (xs (i + 1)) (R 18) (V 0) (V 1) (V 2))) U tr tc1 tv1) := D_law hD
  refine lv_icmp_eq (tgt := 1043) hx hb dL_law_1001 (by decide) (fun c1 => ?_) (fun c1 => ?_)
  · exact kk (upr (upr (upr (upr (upr (upr R 0 (bkS (xs (i + 1)) (R 18) (R 0) (R 6) (R 12))) 1 (bkS (xs (i + 1)) (R 18) (R 1) (R 7) (R 13))) 2 (bkS (xs (i + 1)) (R 18) (R 2) (R 8) (R 14))) 3 (bkS (xs (i + 1)) (R 18) (R 3) (R 9) (R 15))) 4 (bkS (xs (i + 1)) (R 18) (R 4) (R 10) (R 16))) 5 (bkS (xs (i + 1)) (R 18) (R 5) (R 11) (R 17))) (upv V 0 (bkS (xs (i + 1)) (R 18) (V 0) (V 1) (V 2))) U tr sc1 sv1 sb1 tc1 tv1 (⟨back_S hI.1 hi1 hi2, hI.2⟩) H locs hP hD hS
  · exact absurd (back_r hm0_.1 hm1_.1) c1
set_option maxHeartbeats 4000000 in
set_option maxRecDepth 100000 in
theorem L_count {p : Program} {l : Launch} {e : Env} {s : State} {m : MethodId} {below : List Frame} {meth : Method} {c : Code} {b L : Nat} {xs : Nat → Int32} {G : va_G} {E : EvT} {cI cZ : ClassId} {ad am : Nat → Nat} {Q : State → Prop} (hx : p.tables.exec = Jvm.exec) (hb : c.code = code) (hml : c.maxLocals = 4) (hown : s.vm.findClass RL = some m.cls) (hts : ∀ w ∈ wAll, w.before #[Value.ref b] s = true) (hX : va_X b L xs s s.heap) (hbl : b < s.heap.size) (hE : Ev E s) (hE1 : E.1 = s.heap.size) (hK : va_K G vwCl [(cI, .int), (cZ, .boolean)] s) (hL : L ≤ 3072) {i : Nat} (hi : i + 6 ≤ L) (R : Nat → Nat → Int32) (V : Nat → Int32) (U : Nat → Nat) (tr : Int64) (sc : Nat → Nat → Int32) (sv : Nat → Int32) (sb : Bool) (tc : Nat → Nat → Int32) (tv : Nat → Int32) (hI : Inv R V U) {H : Heap} {locs : List Loc} (hP : va_P G vwCl (wX cI cZ ad R V U tr sc sv sb ++ wM cI cZ am R V U tr tc tv) H) (hD : va_D (fun q : Nat => s.heap.size ≤ q) (wX cI cZ ad R V U tr sc sv sb ++ wM cI cZ am R V U tr tc tv)) (hS : va_S (fun q : Nat => s.heap.size ≤ q) s.heap H locs) {ls : Array Slot} (hl : lv_has ls 4 [(0, .ref b), (1, .ref (ad 0)), (2, .ref (am 0)), (3, .int (nI i))]) (kk : ∀ (R : Nat → Nat → Int32) (V : Nat → Int32) (U : Nat → Nat) (tr : Int64) (sc : Nat → Nat → Int32) (sv : Nat → Int32) (sb : Bool) (tc : Nat → Nat → Int32) (tv : Nat → Int32), Inv R V U → ∀ (H : Heap) (locs : List Loc), va_P G vwCl (wX cI cZ ad R V U tr sc sv sb ++ wM cI cZ am R V U tr tc tv) H → va_D (fun q : Nat => s.heap.size ≤ q) (wX cI cZ ad R V U tr sc sv sb ++ wM cI cZ am R V U tr tc tv) → va_S (fun q : Nat => s.heap.size ≤ q) s.heap H locs → W p l e room_1 s m #[Value.ref b] below meth c H locs 81 3416 Q (F0 m 1043 ls [])) : W p l e room_1 s m #[Value.ref b] below meth c H locs 81 3416 Q (F0 m 1006 ls []) := by
  have hA : ∀ q : Nat, s.heap.size ≤ q → (fun q : Nat => s.heap.size ≤ q) q := fun _ h => h
  have hbA : ¬ (fun q : Nat => s.heap.size ≤ q) b := Nat.not_le.mpr hbl
  have hlow : ∀ q : Nat, (fun q : Nat => s.heap.size ≤ q) q → E.1 ≤ q := fun _ h => by rw [hE1]; exact h
  obtain ⟨⟨i01, i6k, ile, ihd, ign, l9, hl6, hla⟩, hi1, hi2, ⟨hTB, hTn⟩, ⟨hse, hwa, hN, hho, hle⟩, ⟨⟨gN, hgp, hgl⟩, hgr, ⟨zN, hcz, hzl⟩, hng, hnc, hGA, hCA, s9, hs9, hsl⟩, ⟨hnw, wx, wz, hW⟩, hm0_, hm1_⟩ := id hI
  refine lv_aload_n hx hb dL_law_1006 rfl (lv_at hl 1 rfl) ?_
  refine lv_aload_n hx hb dL_law_1007 rfl (lv_at hl 0 rfl) ?_
  refine lv_iload_n hx hb dL_law_1008 rfl (lv_at hl 3 rfl) ?_
  refine lv_iconst (v := 1) hx hb dL_law_1009 (by decide) ?_
  refine lv_iadd hx hb dL_law_1010 ?_
  refine top_eq (y := nI (i + 1)) (nI_add _ _) ?_
  refine va_sld hx hb hX hbl hbA hS (vp_in_nI (by omega) (by omega)) dL_law_1011 ?_
  refine top_eq (y := xs (i + 1)) (by rw [nI_clamp (by omega)]) ?_
  have hXc := bX_count l G E cI cZ ad R V U tr sc sv sb (xs (i + 1))
  refine lawLi (As := [.int (xs (i + 1))]) (rest := []) hx hb hml hown hts hXc k_41_11 cal_X6_count ⟨(Nat.le_of_ble_eq_true rfl), (Nat.le_of_ble_eq_true rfl)⟩ hE hA hlow hD hS hK hP (fun u => (wX_fst _ _ _ _ _ _ _ _ _ _).trans (wX_fst _ _ _ _ _ _ _ _ _ _).symm) 0 6 rfl rfl rfl hl.1 rfl (Nat.le_of_ble_eq_true rfl) dL_law_1012 ⟨(Nat.le_of_ble_eq_true rfl), (Nat.le_of_ble_eq_true rfl)⟩ (fun r1 u1 H locs hr1 hP hD hS => ?_)
  subst hr1
  obtain ⟨sc1, sv1, sb1⟩ := u1
  have hP : va_P G vwCl (wX cI cZ ad R V U tr sc1 sv1 sb1 ++ wM cI cZ am R V U tr tc tv) H := hP
  have hD : va_D (fun q : Nat => s.heap.size ≤ q) (wX cI cZ ad R V U tr sc1 sv1 sb1 ++ wM cI cZ am R V U tr tc tv) := hD
  refine lv_aload_n hx hb dL_law_1015 rfl (lv_at hl 2 rfl) ?_
  refine lv_aload_n hx hb dL_law_1016 rfl (lv_at hl 0 rfl) ?_
  refine lv_iload_n hx hb dL_law_1017 rfl (lv_at hl 3 rfl) ?_
  refine lv_iconst (v := 1) hx hb dL_law_1018 (by decide) ?_
  refine lv_iadd hx hb dL_law_1019 ?_
  refine top_eq (y := nI (i + 1)) (nI_add _ _) ?_
  refine va_sld hx hb hX hbl hbA hS (vp_in_nI (by omega) (by omega)) dL_law_1020 ?_
  refine top_eq (y := xs (i + 1)) (by rw [nI_clamp (by omega)]) ?_
  have hM := bM_count l G E cI cZ am R V U tr tc tv (xs (i + 1))
  refine lawRi (As := [.int (xs (i + 1))]) (rest := [.int (cntX (R 0) (R 1) (R 2) (V 0) (nI (U 1)) (nI (U 2)) (nI (U 3)) (nI (U 0)) (xs (i + 1)))]) hx hb hml hown hts hM k_41_21 cal_X7_count ⟨(Nat.le_of_ble_eq_true rfl), (Nat.le_of_ble_eq_true rfl)⟩ hE hA hlow hD hS hK hP (fun u => (wM_fst _ _ _ _ _ _ _ _ _ _).trans (wM_fst _ _ _ _ _ _ _ _ _ _).symm) 0 7 rfl rfl rfl hl.1 rfl (Nat.le_of_ble_eq_true rfl) dL_law_1021 ⟨(Nat.le_of_ble_eq_true rfl), (Nat.le_of_ble_eq_true rfl)⟩ (fun r2 u2 H locs hr2 hP hD hS => ?_)
  subst hr2
  obtain ⟨tc1, tv1⟩ := u2
  have hP : va_P G vwCl (wX cI cZ ad R V U tr sc1 sv1 sb1 ++ wM cI cZ am R V U tr tc1 tv1) H := hP
  have hD : va_D (fun q : Nat => s.heap.size ≤ q) (wX cI cZ ad R V U tr sc1 sv1 sb1 ++ wM cI cZ am R V U tr tc1 tv1) := D_law hD
  refine lv_icmp_eq (tgt := 1043) hx hb dL_law_1024 (by decide) (fun c1 => ?_) (fun c1 => ?_)
  · exact kk R V U tr sc1 sv1 sb1 tc1 tv1 (hI) H locs hP hD hS
  · exact absurd (rfl) c1
