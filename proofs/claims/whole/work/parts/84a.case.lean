theorem D_law {A : Nat → Prop} {cI cZ : ClassId} {ad am : Nat → Nat} {R R1 R2 : Nat → Nat → Int32} {V V1 V2 : Nat → Int32} {U U1 U2 : Nat → Nat} {tr tr1 tr2 : Int64} {sc tc : Nat → Nat → Int32} {sv tv : Nat → Int32} {sb : Bool} {S S2 : Nat → Int32} (h : va_D A (wX cI cZ ad R V U tr sc sv sb ++ wMs cI cZ am S R1 V1 U1 tr1 tc tv)) : va_D A (wX cI cZ ad R2 V2 U2 tr2 sc sv sb ++ wMs cI cZ am S2 R2 V2 U2 tr2 tc tv) := D_fst (by simp only [List.map_append, wX_fst, wM_fst]) h
set_option maxHeartbeats 4000000 in
set_option maxRecDepth 100000 in
theorem L_type {p : Program} {l : Launch} {e : Env} {s : State} {m : MethodId} {below : List Frame} {meth : Method} {c : Code} {b L : Nat} {xs : Nat → Int32} {G : va_G} {E : EvT} {cI cZ : ClassId} {ad am : Nat → Nat} {Q : State → Prop} (hx : p.tables.exec = Jvm.exec) (hb : c.code = code) (hml : c.maxLocals = 4) (hown : s.vm.findClass RL = some m.cls) (hts : ∀ w ∈ wAll, w.before #[Value.ref b] s = true) (hX : va_X b L xs s s.heap) (hbl : b < s.heap.size) (hE : Ev E s) (hE1 : E.1 = s.heap.size) (hK : va_K G vwCl [(cI, .int), (cZ, .boolean)] s) (hL : L ≤ 3072) {i : Nat} (hi : i + 6 ≤ L) (R : Nat → Nat → Int32) (V : Nat → Int32) (U : Nat → Nat) (tr : Int64) (sc : Nat → Nat → Int32) (sv : Nat → Int32) (sb : Bool) (tc : Nat → Nat → Int32) (tv : Nat → Int32) (hI : Inv R V U) {H : Heap} {locs : List Loc} (hP : va_P G vwCl (wX cI cZ ad R V U tr sc sv sb ++ wM cI cZ am R V U tr tc tv) H) (hD : va_D (fun q : Nat => s.heap.size ≤ q) (wX cI cZ ad R V U tr sc sv sb ++ wM cI cZ am R V U tr tc tv)) (hS : va_S (fun q : Nat => s.heap.size ≤ q) s.heap H locs) {ls : Array Slot} (hl : lv_has ls 4 [(0, .ref b), (1, .ref (ad 0)), (2, .ref (am 0)), (3, .int (nI i))]) (kk : ∀ (R : Nat → Nat → Int32) (V : Nat → Int32) (U : Nat → Nat) (tr : Int64) (sc : Nat → Nat → Int32) (sv : Nat → Int32) (sb : Bool) (tc : Nat → Nat → Int32) (tv : Nat → Int32), Inv R V U → ∀ (H : Heap) (locs : List Loc), va_P G vwCl (wX cI cZ ad R V U tr sc sv sb ++ wM cI cZ am R V U tr tc tv) H → va_D (fun q : Nat => s.heap.size ≤ q) (wX cI cZ ad R V U tr sc sv sb ++ wM cI cZ am R V U tr tc tv) → va_S (fun q : Nat => s.heap.size ≤ q) s.heap H locs → W p l e room_1 s m #[Value.ref b] below meth c H locs 81 3416 Q (F0 m 1043 ls [])) : W p l e room_1 s m #[Value.ref b] below meth c H locs 81 3416 Q (F0 m 176 ls []) := by
  have hA : ∀ q : Nat, s.heap.size ≤ q → (fun q : Nat => s.heap.size ≤ q) q := fun _ h => h
  have hbA : ¬ (fun q : Nat => s.heap.size ≤ q) b := Nat.not_le.mpr hbl
  have hlow : ∀ q : Nat, (fun q : Nat => s.heap.size ≤ q) q → E.1 ≤ q := fun _ h => by rw [hE1]; exact h
  obtain ⟨⟨i01, i6k, ile, ihd, ign, l9, hl6, hla⟩, hi1, hi2, ⟨hTB, hTn⟩, ⟨hse, hwa, hN, hho, hle⟩, ⟨⟨gN, hgp, hgl⟩, hgr, ⟨zN, hcz, hzl⟩, hng, hnc, hGA, hCA, s9, hs9, hsl⟩, ⟨hnw, wx, wz, hW⟩, hm0_, hm1_⟩ := id hI
  refine lv_aload_n hx hb dL_law_176 rfl (lv_at hl 1 rfl) ?_
  refine lv_aload_n hx hb dL_law_177 rfl (lv_at hl 0 rfl) ?_
  refine lv_iload_n hx hb dL_law_178 rfl (lv_at hl 3 rfl) ?_
  refine lv_iconst (v := 1) hx hb dL_law_179 (by decide) ?_
  refine lv_iadd hx hb dL_law_180 ?_
  refine top_eq (y := nI (i + 1)) (nI_add _ _) ?_
  refine va_sld hx hb hX hbl hbA hS (vp_in_nI (by omega) (by omega)) dL_law_181 ?_
  refine top_eq (y := xs (i + 1)) (by rw [nI_clamp (by omega)]) ?_
  refine lv_i2l (v := (xs (i + 1)).toInt64) hx hb dL_law_182 rfl ?_
  refine lv_bipush (v := 32) hx hb dL_law_183 (by decide) ?_
  refine lv_lshl (v := ((xs (i + 1)).toInt64 <<< ((32 : Int32).toInt64 &&& 63))) hx hb dL_law_185 rfl ?_
  refine lv_aload_n hx hb dL_law_186 rfl (lv_at hl 0 rfl) ?_
  refine lv_iload_n hx hb dL_law_187 rfl (lv_at hl 3 rfl) ?_
  refine lv_iconst (v := 2) hx hb dL_law_188 (by decide) ?_
  refine lv_iadd hx hb dL_law_189 ?_
  refine top_eq (y := nI (i + 2)) (nI_add _ _) ?_
  refine va_sld hx hb hX hbl hbA hS (vp_in_nI (by omega) (by omega)) dL_law_190 ?_
  refine top_eq (y := xs (i + 2)) (by rw [nI_clamp (by omega)]) ?_
  refine lv_i2l (v := (xs (i + 2)).toInt64) hx hb dL_law_191 rfl ?_
  refine lv_ldc2 (own := RL) (index := 13) (v := 4294967295) hx hb hown (hts _ k_1_6) dL_law_192 ?_
  refine lv_land hx hb dL_law_195 ?_
  refine lv_lor hx hb dL_law_196 ?_
  refine lv_aload_n hx hb dL_law_197 rfl (lv_at hl 0 rfl) ?_
  refine lv_iload_n hx hb dL_law_198 rfl (lv_at hl 3 rfl) ?_
  refine lv_iconst (v := 3) hx hb dL_law_199 (by decide) ?_
  refine lv_iadd hx hb dL_law_200 ?_
  refine top_eq (y := nI (i + 3)) (nI_add _ _) ?_
  refine va_sld hx hb hX hbl hbA hS (vp_in_nI (by omega) (by omega)) dL_law_201 ?_
  refine top_eq (y := xs (i + 3)) (by rw [nI_clamp (by omega)]) ?_
  have hXc := bX_type l G E cI cZ ad R V U tr sc sv sb (((xs (i + 1)).toInt64 <<< ((32 : Int32).toInt64 &&& 63)) ||| ((xs (i + 2)).toInt64 &&& (4294967295 : Int64))) (xs (i + 3)) (hTn)
  refine lawLi (As := [.long (((xs (i + 1)).toInt64 <<< ((32 : Int32).toInt64 &&& 63)) ||| ((xs (i + 2)).toInt64 &&& (4294967295 : Int64))), .int (xs (i + 3))]) (rest := []) hx hb hml hown hts hXc k_7_3 cal_X6_type ⟨(Nat.le_of_ble_eq_true rfl), (Nat.le_of_ble_eq_true rfl)⟩ hE hA hlow hD hS hK hP (fun u => (wX_fst _ _ _ _ _ _ _ _ _ _).trans (wX_fst _ _ _ _ _ _ _ _ _ _).symm) 0 6 rfl rfl rfl hl.1 rfl (Nat.le_of_ble_eq_true rfl) dL_law_202 ⟨(Nat.le_of_ble_eq_true rfl), (Nat.le_of_ble_eq_true rfl)⟩ (fun r1 u1 H locs hr1 hP hD hS => ?_)
  subst hr1
  obtain ⟨sc1, sv1, sb1⟩ := u1
  have hP : va_P G vwCl (wX cI cZ ad (upr R 19 (if wiB (xs (i + 3)) 1 8 then (if (U 0) + (xs (i + 3)).toNatClampNeg ≤ 400 then tyE (R 19) (((xs (i + 1)).toInt64 <<< ((32 : Int32).toInt64 &&& 63)) ||| ((xs (i + 2)).toInt64 &&& (4294967295 : Int64))) (U 0) (xs (i + 3)).toNatClampNeg (xs (i + 3)).toNatClampNeg else (R 19)) else (R 19))) V (upu U 0 (if wiB (xs (i + 3)) 1 8 then (if (U 0) + (xs (i + 3)).toNatClampNeg ≤ 400 then (U 0) + (xs (i + 3)).toNatClampNeg else (U 0)) else (U 0))) tr sc1 sv1 sb1 ++ wM cI cZ am R V U tr tc tv) H := hP
  have hD : va_D (fun q : Nat => s.heap.size ≤ q) (wX cI cZ ad (upr R 19 (if wiB (xs (i + 3)) 1 8 then (if (U 0) + (xs (i + 3)).toNatClampNeg ≤ 400 then tyE (R 19) (((xs (i + 1)).toInt64 <<< ((32 : Int32).toInt64 &&& 63)) ||| ((xs (i + 2)).toInt64 &&& (4294967295 : Int64))) (U 0) (xs (i + 3)).toNatClampNeg (xs (i + 3)).toNatClampNeg else (R 19)) else (R 19))) V (upu U 0 (if wiB (xs (i + 3)) 1 8 then (if (U 0) + (xs (i + 3)).toNatClampNeg ≤ 400 then (U 0) + (xs (i + 3)).toNatClampNeg else (U 0)) else (U 0))) tr sc1 sv1 sb1 ++ wM cI cZ am R V U tr tc tv) := hD
  refine lv_aload_n hx hb dL_law_205 rfl (lv_at hl 2 rfl) ?_
  refine lv_aload_n hx hb dL_law_206 rfl (lv_at hl 0 rfl) ?_
  refine lv_iload_n hx hb dL_law_207 rfl (lv_at hl 3 rfl) ?_
  refine lv_iconst (v := 1) hx hb dL_law_208 (by decide) ?_
  refine lv_iadd hx hb dL_law_209 ?_
  refine top_eq (y := nI (i + 1)) (nI_add _ _) ?_
  refine va_sld hx hb hX hbl hbA hS (vp_in_nI (by omega) (by omega)) dL_law_210 ?_
  refine top_eq (y := xs (i + 1)) (by rw [nI_clamp (by omega)]) ?_
  refine lv_i2l (v := (xs (i + 1)).toInt64) hx hb dL_law_211 rfl ?_
  refine lv_bipush (v := 32) hx hb dL_law_212 (by decide) ?_
  refine lv_lshl (v := ((xs (i + 1)).toInt64 <<< ((32 : Int32).toInt64 &&& 63))) hx hb dL_law_214 rfl ?_
  refine lv_aload_n hx hb dL_law_215 rfl (lv_at hl 0 rfl) ?_
  refine lv_iload_n hx hb dL_law_216 rfl (lv_at hl 3 rfl) ?_
  refine lv_iconst (v := 2) hx hb dL_law_217 (by decide) ?_
  refine lv_iadd hx hb dL_law_218 ?_
  refine top_eq (y := nI (i + 2)) (nI_add _ _) ?_
  refine va_sld hx hb hX hbl hbA hS (vp_in_nI (by omega) (by omega)) dL_law_219 ?_
  refine top_eq (y := xs (i + 2)) (by rw [nI_clamp (by omega)]) ?_
  refine lv_i2l (v := (xs (i + 2)).toInt64) hx hb dL_law_220 rfl ?_
  refine lv_ldc2 (own := RL) (index := 13) (v := 4294967295) hx hb hown (hts _ k_1_6) dL_law_221 ?_
  refine lv_land hx hb dL_law_224 ?_
  refine lv_lor hx hb dL_law_225 ?_
  refine lv_aload_n hx hb dL_law_226 rfl (lv_at hl 0 rfl) ?_
  refine lv_iload_n hx hb dL_law_227 rfl (lv_at hl 3 rfl) ?_
  refine lv_iconst (v := 3) hx hb dL_law_228 (by decide) ?_
  refine lv_iadd hx hb dL_law_229 ?_
  refine top_eq (y := nI (i + 3)) (nI_add _ _) ?_
  refine va_sld hx hb hX hbl hbA hS (vp_in_nI (by omega) (by omega)) dL_law_230 ?_
  refine top_eq (y := xs (i + 3)) (by rw [nI_clamp (by omega)]) ?_
  have hM := bM_type l G E cI cZ am R V U tr tc tv (((xs (i + 1)).toInt64 <<< ((32 : Int32).toInt64 &&& 63)) ||| ((xs (i + 2)).toInt64 &&& (4294967295 : Int64))) (xs (i + 3)) (hTn)
  rw [ty_row] at hM
  refine lawRi (As := [.long (((xs (i + 1)).toInt64 <<< ((32 : Int32).toInt64 &&& 63)) ||| ((xs (i + 2)).toInt64 &&& (4294967295 : Int64))), .int (xs (i + 3))]) (rest := [.int (if wiB (xs (i + 3)) 1 8 then (if (U 0) + (xs (i + 3)).toNatClampNeg ≤ 400 then nI ((U 0) + (xs (i + 3)).toNatClampNeg) else (-3)) else (-1))]) hx hb hml hown hts hM k_7_15 cal_X7_type ⟨(Nat.le_of_ble_eq_true rfl), (Nat.le_of_ble_eq_true rfl)⟩ hE hA hlow hD hS hK hP (fun u => (wM_fst _ _ _ _ _ _ _ _ _ _).trans (wM_fst _ _ _ _ _ _ _ _ _ _).symm) 0 7 rfl rfl rfl hl.1 rfl (Nat.le_of_ble_eq_true rfl) dL_law_231 ⟨(Nat.le_of_ble_eq_true rfl), (Nat.le_of_ble_eq_true rfl)⟩ (fun r2 u2 H locs hr2 hP hD hS => ?_)
  subst hr2
  obtain ⟨tc1, tv1⟩ := u2
  have hP : va_P G vwCl (wX cI cZ ad (upr R 19 (if wiB (xs (i + 3)) 1 8 then (if (U 0) + (xs (i + 3)).toNatClampNeg ≤ 400 then tyE (R 19) (((xs (i + 1)).toInt64 <<< ((32 : Int32).toInt64 &&& 63)) ||| ((xs (i + 2)).toInt64 &&& (4294967295 : Int64))) (U 0) (xs (i + 3)).toNatClampNeg (xs (i + 3)).toNatClampNeg else (R 19)) else (R 19))) V (upu U 0 (if wiB (xs (i + 3)) 1 8 then (if (U 0) + (xs (i + 3)).toNatClampNeg ≤ 400 then (U 0) + (xs (i + 3)).toNatClampNeg else (U 0)) else (U 0))) tr sc1 sv1 sb1 ++ wM cI cZ am (upr R 19 (if wiB (xs (i + 3)) 1 8 then (if (U 0) + (xs (i + 3)).toNatClampNeg ≤ 400 then tyE (R 19) (((xs (i + 1)).toInt64 <<< ((32 : Int32).toInt64 &&& 63)) ||| ((xs (i + 2)).toInt64 &&& (4294967295 : Int64))) (U 0) (xs (i + 3)).toNatClampNeg (xs (i + 3)).toNatClampNeg else (R 19)) else (R 19))) V (upu U 0 (if wiB (xs (i + 3)) 1 8 then (if (U 0) + (xs (i + 3)).toNatClampNeg ≤ 400 then (U 0) + (xs (i + 3)).toNatClampNeg else (U 0)) else (U 0))) tr tc1 tv1) H := hP
  have hD : va_D (fun q : Nat => s.heap.size ≤ q) (wX cI cZ ad (upr R 19 (if wiB (xs (i + 3)) 1 8 then (if (U 0) + (xs (i + 3)).toNatClampNeg ≤ 400 then tyE (R 19) (((xs (i + 1)).toInt64 <<< ((32 : Int32).toInt64 &&& 63)) ||| ((xs (i + 2)).toInt64 &&& (4294967295 : Int64))) (U 0) (xs (i + 3)).toNatClampNeg (xs (i + 3)).toNatClampNeg else (R 19)) else (R 19))) V (upu U 0 (if wiB (xs (i + 3)) 1 8 then (if (U 0) + (xs (i + 3)).toNatClampNeg ≤ 400 then (U 0) + (xs (i + 3)).toNatClampNeg else (U 0)) else (U 0))) tr sc1 sv1 sb1 ++ wM cI cZ am (upr R 19 (if wiB (xs (i + 3)) 1 8 then (if (U 0) + (xs (i + 3)).toNatClampNeg ≤ 400 then tyE (R 19) (((xs (i + 1)).toInt64 <<< ((32 : Int32).toInt64 &&& 63)) ||| ((xs (i + 2)).toInt64 &&& (4294967295 : Int64))) (U 0) (xs (i + 3)).toNatClampNeg (xs (i + 3)).toNatClampNeg else (R 19)) else (R 19))) V (upu U 0 (if wiB (xs (i + 3)) 1 8 then (if (U 0) + (xs (i + 3)).toNatClampNeg ≤ 400 then (U 0) + (xs (i + 3)).toNatClampNeg else (U 0)) else (U 0))) tr tc1 tv1) := D_law hD
  refine lv_icmp_eq (tgt := 1043) hx hb dL_law_234 (by decide) (fun c1 => ?_) (fun c1 => ?_)
  · exact kk (upr R 19 (if wiB (xs (i + 3)) 1 8 then (if (U 0) + (xs (i + 3)).toNatClampNeg ≤ 400 then tyE (R 19) (((xs (i + 1)).toInt64 <<< ((32 : Int32).toInt64 &&& 63)) ||| ((xs (i + 2)).toInt64 &&& (4294967295 : Int64))) (U 0) (xs (i + 3)).toNatClampNeg (xs (i + 3)).toNatClampNeg else (R 19)) else (R 19))) V (upu U 0 (if wiB (xs (i + 3)) 1 8 then (if (U 0) + (xs (i + 3)).toNatClampNeg ≤ 400 then (U 0) + (xs (i + 3)).toNatClampNeg else (U 0)) else (U 0))) tr sc1 sv1 sb1 tc1 tv1 (⟨hI.1, hI.2.1, hI.2.2.1, ty_inv hTB hTn, hI.2.2.2.2⟩) H locs hP hD hS
  · exact absurd (rfl) c1
set_option maxHeartbeats 4000000 in
set_option maxRecDepth 100000 in
theorem L_clear {p : Program} {l : Launch} {e : Env} {s : State} {m : MethodId} {below : List Frame} {meth : Method} {c : Code} {b L : Nat} {xs : Nat → Int32} {G : va_G} {E : EvT} {cI cZ : ClassId} {ad am : Nat → Nat} {Q : State → Prop} (hx : p.tables.exec = Jvm.exec) (hb : c.code = code) (hml : c.maxLocals = 4) (hown : s.vm.findClass RL = some m.cls) (hts : ∀ w ∈ wAll, w.before #[Value.ref b] s = true) (hX : va_X b L xs s s.heap) (hbl : b < s.heap.size) (hE : Ev E s) (hE1 : E.1 = s.heap.size) (hK : va_K G vwCl [(cI, .int), (cZ, .boolean)] s) (hL : L ≤ 3072) {i : Nat} (hi : i + 6 ≤ L) (R : Nat → Nat → Int32) (V : Nat → Int32) (U : Nat → Nat) (tr : Int64) (sc : Nat → Nat → Int32) (sv : Nat → Int32) (sb : Bool) (tc : Nat → Nat → Int32) (tv : Nat → Int32) (hI : Inv R V U) {H : Heap} {locs : List Loc} (hP : va_P G vwCl (wX cI cZ ad R V U tr sc sv sb ++ wM cI cZ am R V U tr tc tv) H) (hD : va_D (fun q : Nat => s.heap.size ≤ q) (wX cI cZ ad R V U tr sc sv sb ++ wM cI cZ am R V U tr tc tv)) (hS : va_S (fun q : Nat => s.heap.size ≤ q) s.heap H locs) {ls : Array Slot} (hl : lv_has ls 4 [(0, .ref b), (1, .ref (ad 0)), (2, .ref (am 0)), (3, .int (nI i))]) (kk : ∀ (R : Nat → Nat → Int32) (V : Nat → Int32) (U : Nat → Nat) (tr : Int64) (sc : Nat → Nat → Int32) (sv : Nat → Int32) (sb : Bool) (tc : Nat → Nat → Int32) (tv : Nat → Int32), Inv R V U → ∀ (H : Heap) (locs : List Loc), va_P G vwCl (wX cI cZ ad R V U tr sc sv sb ++ wM cI cZ am R V U tr tc tv) H → va_D (fun q : Nat => s.heap.size ≤ q) (wX cI cZ ad R V U tr sc sv sb ++ wM cI cZ am R V U tr tc tv) → va_S (fun q : Nat => s.heap.size ≤ q) s.heap H locs → W p l e room_1 s m #[Value.ref b] below meth c H locs 81 3416 Q (F0 m 1043 ls [])) : W p l e room_1 s m #[Value.ref b] below meth c H locs 81 3416 Q (F0 m 239 ls []) := by
  have hA : ∀ q : Nat, s.heap.size ≤ q → (fun q : Nat => s.heap.size ≤ q) q := fun _ h => h
  have hbA : ¬ (fun q : Nat => s.heap.size ≤ q) b := Nat.not_le.mpr hbl
  have hlow : ∀ q : Nat, (fun q : Nat => s.heap.size ≤ q) q → E.1 ≤ q := fun _ h => by rw [hE1]; exact h
  obtain ⟨⟨i01, i6k, ile, ihd, ign, l9, hl6, hla⟩, hi1, hi2, ⟨hTB, hTn⟩, ⟨hse, hwa, hN, hho, hle⟩, ⟨⟨gN, hgp, hgl⟩, hgr, ⟨zN, hcz, hzl⟩, hng, hnc, hGA, hCA, s9, hs9, hsl⟩, ⟨hnw, wx, wz, hW⟩, hm0_, hm1_⟩ := id hI
  refine lv_aload_n hx hb dL_law_239 rfl (lv_at hl 1 rfl) ?_
  have hXc := bX_clear l G E cI cZ ad R V U tr sc sv sb 
  refine lawLi (As := []) (rest := []) hx hb hml hown hts hXc k_8_1 cal_X6_clear ⟨(Nat.le_of_ble_eq_true rfl), (Nat.le_of_ble_eq_true rfl)⟩ hE hA hlow hD hS hK hP (fun u => (wX_fst _ _ _ _ _ _ _ _ _ _).trans (wX_fst _ _ _ _ _ _ _ _ _ _).symm) 0 6 rfl rfl rfl hl.1 rfl (Nat.le_of_ble_eq_true rfl) dL_law_240 ⟨(Nat.le_of_ble_eq_true rfl), (Nat.le_of_ble_eq_true rfl)⟩ (fun r1 u1 H locs hr1 hP hD hS => ?_)
  subst hr1
  obtain ⟨sc1, sv1, sb1⟩ := u1
  have hP : va_P G vwCl (wX cI cZ ad R V (upu U 0 0) tr sc1 sv1 sb1 ++ wM cI cZ am R V U tr tc tv) H := hP
  have hD : va_D (fun q : Nat => s.heap.size ≤ q) (wX cI cZ ad R V (upu U 0 0) tr sc1 sv1 sb1 ++ wM cI cZ am R V U tr tc tv) := hD
  refine lv_aload_n hx hb dL_law_243 rfl (lv_at hl 2 rfl) ?_
  have hM := bM_clear l G E cI cZ am R V U tr tc tv 
  refine lawRi (As := []) (rest := [.int (nI (U 0))]) hx hb hml hown hts hM k_8_9 cal_X7_clear ⟨(Nat.le_of_ble_eq_true rfl), (Nat.le_of_ble_eq_true rfl)⟩ hE hA hlow hD hS hK hP (fun u => (wM_fst _ _ _ _ _ _ _ _ _ _).trans (wM_fst _ _ _ _ _ _ _ _ _ _).symm) 0 7 rfl rfl rfl hl.1 rfl (Nat.le_of_ble_eq_true rfl) dL_law_244 ⟨(Nat.le_of_ble_eq_true rfl), (Nat.le_of_ble_eq_true rfl)⟩ (fun r2 u2 H locs hr2 hP hD hS => ?_)
  subst hr2
  obtain ⟨tc1, tv1⟩ := u2
  have hP : va_P G vwCl (wX cI cZ ad R V (upu U 0 0) tr sc1 sv1 sb1 ++ wM cI cZ am R V (upu U 0 0) tr tc1 tv1) H := hP
  have hD : va_D (fun q : Nat => s.heap.size ≤ q) (wX cI cZ ad R V (upu U 0 0) tr sc1 sv1 sb1 ++ wM cI cZ am R V (upu U 0 0) tr tc1 tv1) := D_law hD
  refine lv_icmp_eq (tgt := 1043) hx hb dL_law_247 (by decide) (fun c1 => ?_) (fun c1 => ?_)
  · exact kk R V (upu U 0 0) tr sc1 sv1 sb1 tc1 tv1 (⟨hI.1, hI.2.1, hI.2.2.1, ⟨hTB, Nat.zero_le _⟩, hI.2.2.2.2⟩) H locs hP hD hS
  · exact absurd (rfl) c1
set_option maxHeartbeats 4000000 in
set_option maxRecDepth 100000 in
theorem L_cell {p : Program} {l : Launch} {e : Env} {s : State} {m : MethodId} {below : List Frame} {meth : Method} {c : Code} {b L : Nat} {xs : Nat → Int32} {G : va_G} {E : EvT} {cI cZ : ClassId} {ad am : Nat → Nat} {Q : State → Prop} (hx : p.tables.exec = Jvm.exec) (hb : c.code = code) (hml : c.maxLocals = 4) (hown : s.vm.findClass RL = some m.cls) (hts : ∀ w ∈ wAll, w.before #[Value.ref b] s = true) (hX : va_X b L xs s s.heap) (hbl : b < s.heap.size) (hE : Ev E s) (hE1 : E.1 = s.heap.size) (hK : va_K G vwCl [(cI, .int), (cZ, .boolean)] s) (hL : L ≤ 3072) {i : Nat} (hi : i + 6 ≤ L) (R : Nat → Nat → Int32) (V : Nat → Int32) (U : Nat → Nat) (tr : Int64) (sc : Nat → Nat → Int32) (sv : Nat → Int32) (sb : Bool) (tc : Nat → Nat → Int32) (tv : Nat → Int32) (hI : Inv R V U) {H : Heap} {locs : List Loc} (hP : va_P G vwCl (wX cI cZ ad R V U tr sc sv sb ++ wM cI cZ am R V U tr tc tv) H) (hD : va_D (fun q : Nat => s.heap.size ≤ q) (wX cI cZ ad R V U tr sc sv sb ++ wM cI cZ am R V U tr tc tv)) (hS : va_S (fun q : Nat => s.heap.size ≤ q) s.heap H locs) {ls : Array Slot} (hl : lv_has ls 4 [(0, .ref b), (1, .ref (ad 0)), (2, .ref (am 0)), (3, .int (nI i))]) (kk : ∀ (R : Nat → Nat → Int32) (V : Nat → Int32) (U : Nat → Nat) (tr : Int64) (sc : Nat → Nat → Int32) (sv : Nat → Int32) (sb : Bool) (tc : Nat → Nat → Int32) (tv : Nat → Int32), Inv R V U → ∀ (H : Heap) (locs : List Loc), va_P G vwCl (wX cI cZ ad R V U tr sc sv sb ++ wM cI cZ am R V U tr tc tv) H → va_D (fun q : Nat => s.heap.size ≤ q) (wX cI cZ ad R V U tr sc sv sb ++ wM cI cZ am R V U tr tc tv) → va_S (fun q : Nat => s.heap.size ≤ q) s.heap H locs → W p l e room_1 s m #[Value.ref b] below meth c H locs 81 3416 Q (F0 m 1043 ls [])) : W p l e room_1 s m #[Value.ref b] below meth c H locs 81 3416 Q (F0 m 265 ls []) := by
  have hA : ∀ q : Nat, s.heap.size ≤ q → (fun q : Nat => s.heap.size ≤ q) q := fun _ h => h
  have hbA : ¬ (fun q : Nat => s.heap.size ≤ q) b := Nat.not_le.mpr hbl
  have hlow : ∀ q : Nat, (fun q : Nat => s.heap.size ≤ q) q → E.1 ≤ q := fun _ h => by rw [hE1]; exact h
  obtain ⟨⟨i01, i6k, ile, ihd, ign, l9, hl6, hla⟩, hi1, hi2, ⟨hTB, hTn⟩, ⟨hse, hwa, hN, hho, hle⟩, ⟨⟨gN, hgp, hgl⟩, hgr, ⟨zN, hcz, hzl⟩, hng, hnc, hGA, hCA, s9, hs9, hsl⟩, ⟨hnw, wx, wz, hW⟩, hm0_, hm1_⟩ := id hI
  refine lv_aload_n hx hb dL_law_265 rfl (lv_at hl 1 rfl) ?_
  refine lv_aload_n hx hb dL_law_266 rfl (lv_at hl 0 rfl) ?_
  refine lv_iload_n hx hb dL_law_267 rfl (lv_at hl 3 rfl) ?_
  refine lv_iconst (v := 1) hx hb dL_law_268 (by decide) ?_
  refine lv_iadd hx hb dL_law_269 ?_
  refine top_eq (y := nI (i + 1)) (nI_add _ _) ?_
  refine va_sld hx hb hX hbl hbA hS (vp_in_nI (by omega) (by omega)) dL_law_270 ?_
  refine top_eq (y := xs (i + 1)) (by rw [nI_clamp (by omega)]) ?_
  refine lv_aload_n hx hb dL_law_271 rfl (lv_at hl 0 rfl) ?_
  refine lv_iload_n hx hb dL_law_272 rfl (lv_at hl 3 rfl) ?_
  refine lv_iconst (v := 2) hx hb dL_law_273 (by decide) ?_
  refine lv_iadd hx hb dL_law_274 ?_
  refine top_eq (y := nI (i + 2)) (nI_add _ _) ?_
  refine va_sld hx hb hX hbl hbA hS (vp_in_nI (by omega) (by omega)) dL_law_275 ?_
  refine top_eq (y := xs (i + 2)) (by rw [nI_clamp (by omega)]) ?_
  refine lv_aload_n hx hb dL_law_276 rfl (lv_at hl 0 rfl) ?_
  refine lv_iload_n hx hb dL_law_277 rfl (lv_at hl 3 rfl) ?_
  refine lv_iconst (v := 3) hx hb dL_law_278 (by decide) ?_
  refine lv_iadd hx hb dL_law_279 ?_
  refine top_eq (y := nI (i + 3)) (nI_add _ _) ?_
  refine va_sld hx hb hX hbl hbA hS (vp_in_nI (by omega) (by omega)) dL_law_280 ?_
  refine top_eq (y := xs (i + 3)) (by rw [nI_clamp (by omega)]) ?_
  have hXc := bX_cell l G E cI cZ ad R V U tr sc sv sb (xs (i + 1)) (xs (i + 2)) (xs (i + 3))
  refine lawLi (As := [.int (xs (i + 1)), .int (xs (i + 2)), .int (xs (i + 3))]) (rest := []) hx hb hml hown hts hXc k_16_5 cal_X6_cell ⟨(Nat.le_of_ble_eq_true rfl), (Nat.le_of_ble_eq_true rfl)⟩ hE hA hlow hD hS hK hP (fun u => (wX_fst _ _ _ _ _ _ _ _ _ _).trans (wX_fst _ _ _ _ _ _ _ _ _ _).symm) 0 6 rfl rfl rfl hl.1 rfl (Nat.le_of_ble_eq_true rfl) dL_law_281 ⟨(Nat.le_of_ble_eq_true rfl), (Nat.le_of_ble_eq_true rfl)⟩ (fun r1 u1 H locs hr1 hP hD hS => ?_)
  subst hr1
  obtain ⟨sc1, sv1, sb1⟩ := u1
  have hP : va_P G vwCl (wX cI cZ ad R V U tr sc1 sv1 sb1 ++ wM cI cZ am R V U tr tc tv) H := hP
  have hD : va_D (fun q : Nat => s.heap.size ≤ q) (wX cI cZ ad R V U tr sc1 sv1 sb1 ++ wM cI cZ am R V U tr tc tv) := hD
  refine lv_aload_n hx hb dL_law_284 rfl (lv_at hl 2 rfl) ?_
  refine lv_aload_n hx hb dL_law_285 rfl (lv_at hl 0 rfl) ?_
  refine lv_iload_n hx hb dL_law_286 rfl (lv_at hl 3 rfl) ?_
  refine lv_iconst (v := 1) hx hb dL_law_287 (by decide) ?_
  refine lv_iadd hx hb dL_law_288 ?_
  refine top_eq (y := nI (i + 1)) (nI_add _ _) ?_
  refine va_sld hx hb hX hbl hbA hS (vp_in_nI (by omega) (by omega)) dL_law_289 ?_
  refine top_eq (y := xs (i + 1)) (by rw [nI_clamp (by omega)]) ?_
  refine lv_aload_n hx hb dL_law_290 rfl (lv_at hl 0 rfl) ?_
  refine lv_iload_n hx hb dL_law_291 rfl (lv_at hl 3 rfl) ?_
  refine lv_iconst (v := 2) hx hb dL_law_292 (by decide) ?_
  refine lv_iadd hx hb dL_law_293 ?_
  refine top_eq (y := nI (i + 2)) (nI_add _ _) ?_
  refine va_sld hx hb hX hbl hbA hS (vp_in_nI (by omega) (by omega)) dL_law_294 ?_
  refine top_eq (y := xs (i + 2)) (by rw [nI_clamp (by omega)]) ?_
  refine lv_aload_n hx hb dL_law_295 rfl (lv_at hl 0 rfl) ?_
  refine lv_iload_n hx hb dL_law_296 rfl (lv_at hl 3 rfl) ?_
  refine lv_iconst (v := 3) hx hb dL_law_297 (by decide) ?_
  refine lv_iadd hx hb dL_law_298 ?_
  refine top_eq (y := nI (i + 3)) (nI_add _ _) ?_
  refine va_sld hx hb hX hbl hbA hS (vp_in_nI (by omega) (by omega)) dL_law_299 ?_
  refine top_eq (y := xs (i + 3)) (by rw [nI_clamp (by omega)]) ?_
  have hM := bM_cell l G E cI cZ am R V U tr tc tv (xs (i + 1)) (xs (i + 2)) (xs (i + 3))
  refine lawRi (As := [.int (xs (i + 1)), .int (xs (i + 2)), .int (xs (i + 3))]) (rest := [.int (cellS (R 0) (R 1) (R 2) (xs (i + 1)) (xs (i + 2)) (xs (i + 3)))]) hx hb hml hown hts hM k_17_0 cal_X7_cell ⟨(Nat.le_of_ble_eq_true rfl), (Nat.le_of_ble_eq_true rfl)⟩ hE hA hlow hD hS hK hP (fun u => (wM_fst _ _ _ _ _ _ _ _ _ _).trans (wM_fst _ _ _ _ _ _ _ _ _ _).symm) 0 7 rfl rfl rfl hl.1 rfl (Nat.le_of_ble_eq_true rfl) dL_law_300 ⟨(Nat.le_of_ble_eq_true rfl), (Nat.le_of_ble_eq_true rfl)⟩ (fun r2 u2 H locs hr2 hP hD hS => ?_)
  subst hr2
  obtain ⟨tc1, tv1⟩ := u2
  have hP : va_P G vwCl (wX cI cZ ad R V U tr sc1 sv1 sb1 ++ wM cI cZ am R V U tr tc1 tv1) H := hP
  have hD : va_D (fun q : Nat => s.heap.size ≤ q) (wX cI cZ ad R V U tr sc1 sv1 sb1 ++ wM cI cZ am R V U tr tc1 tv1) := D_law hD
  refine lv_icmp_eq (tgt := 1043) hx hb dL_law_303 (by decide) (fun c1 => ?_) (fun c1 => ?_)
  · exact kk R V U tr sc1 sv1 sb1 tc1 tv1 (hI) H locs hP hD hS
  · exact absurd (rfl) c1
set_option maxHeartbeats 4000000 in
set_option maxRecDepth 100000 in
theorem L_zone {p : Program} {l : Launch} {e : Env} {s : State} {m : MethodId} {below : List Frame} {meth : Method} {c : Code} {b L : Nat} {xs : Nat → Int32} {G : va_G} {E : EvT} {cI cZ : ClassId} {ad am : Nat → Nat} {Q : State → Prop} (hx : p.tables.exec = Jvm.exec) (hb : c.code = code) (hml : c.maxLocals = 4) (hown : s.vm.findClass RL = some m.cls) (hts : ∀ w ∈ wAll, w.before #[Value.ref b] s = true) (hX : va_X b L xs s s.heap) (hbl : b < s.heap.size) (hE : Ev E s) (hE1 : E.1 = s.heap.size) (hK : va_K G vwCl [(cI, .int), (cZ, .boolean)] s) (hL : L ≤ 3072) {i : Nat} (hi : i + 6 ≤ L) (R : Nat → Nat → Int32) (V : Nat → Int32) (U : Nat → Nat) (tr : Int64) (sc : Nat → Nat → Int32) (sv : Nat → Int32) (sb : Bool) (tc : Nat → Nat → Int32) (tv : Nat → Int32) (hI : Inv R V U) {H : Heap} {locs : List Loc} (hP : va_P G vwCl (wX cI cZ ad R V U tr sc sv sb ++ wM cI cZ am R V U tr tc tv) H) (hD : va_D (fun q : Nat => s.heap.size ≤ q) (wX cI cZ ad R V U tr sc sv sb ++ wM cI cZ am R V U tr tc tv)) (hS : va_S (fun q : Nat => s.heap.size ≤ q) s.heap H locs) {ls : Array Slot} (hl : lv_has ls 4 [(0, .ref b), (1, .ref (ad 0)), (2, .ref (am 0)), (3, .int (nI i))]) (kk : ∀ (R : Nat → Nat → Int32) (V : Nat → Int32) (U : Nat → Nat) (tr : Int64) (sc : Nat → Nat → Int32) (sv : Nat → Int32) (sb : Bool) (tc : Nat → Nat → Int32) (tv : Nat → Int32), Inv R V U → ∀ (H : Heap) (locs : List Loc), va_P G vwCl (wX cI cZ ad R V U tr sc sv sb ++ wM cI cZ am R V U tr tc tv) H → va_D (fun q : Nat => s.heap.size ≤ q) (wX cI cZ ad R V U tr sc sv sb ++ wM cI cZ am R V U tr tc tv) → va_S (fun q : Nat => s.heap.size ≤ q) s.heap H locs → W p l e room_1 s m #[Value.ref b] below meth c H locs 81 3416 Q (F0 m 1043 ls [])) : W p l e room_1 s m #[Value.ref b] below meth c H locs 81 3416 Q (F0 m 308 ls []) := by
  have hA : ∀ q : Nat, s.heap.size ≤ q → (fun q : Nat => s.heap.size ≤ q) q := fun _ h => h
  have hbA : ¬ (fun q : Nat => s.heap.size ≤ q) b := Nat.not_le.mpr hbl
  have hlow : ∀ q : Nat, (fun q : Nat => s.heap.size ≤ q) q → E.1 ≤ q := fun _ h => by rw [hE1]; exact h
  obtain ⟨⟨i01, i6k, ile, ihd, ign, l9, hl6, hla⟩, hi1, hi2, ⟨hTB, hTn⟩, ⟨hse, hwa, hN, hho, hle⟩, ⟨⟨gN, hgp, hgl⟩, hgr, ⟨zN, hcz, hzl⟩, hng, hnc, hGA, hCA, s9, hs9, hsl⟩, ⟨hnw, wx, wz, hW⟩, hm0_, hm1_⟩ := id hI
  refine lv_aload_n hx hb dL_law_308 rfl (lv_at hl 1 rfl) ?_
  refine lv_aload_n hx hb dL_law_309 rfl (lv_at hl 0 rfl) ?_
  refine lv_iload_n hx hb dL_law_310 rfl (lv_at hl 3 rfl) ?_
  refine lv_iconst (v := 1) hx hb dL_law_311 (by decide) ?_
  refine lv_iadd hx hb dL_law_312 ?_
  refine top_eq (y := nI (i + 1)) (nI_add _ _) ?_
  refine va_sld hx hb hX hbl hbA hS (vp_in_nI (by omega) (by omega)) dL_law_313 ?_
  refine top_eq (y := xs (i + 1)) (by rw [nI_clamp (by omega)]) ?_
  refine lv_aload_n hx hb dL_law_314 rfl (lv_at hl 0 rfl) ?_
  refine lv_iload_n hx hb dL_law_315 rfl (lv_at hl 3 rfl) ?_
  refine lv_iconst (v := 2) hx hb dL_law_316 (by decide) ?_
  refine lv_iadd hx hb dL_law_317 ?_
  refine top_eq (y := nI (i + 2)) (nI_add _ _) ?_
  refine va_sld hx hb hX hbl hbA hS (vp_in_nI (by omega) (by omega)) dL_law_318 ?_
  refine top_eq (y := xs (i + 2)) (by rw [nI_clamp (by omega)]) ?_
  refine lv_aload_n hx hb dL_law_319 rfl (lv_at hl 0 rfl) ?_
  refine lv_iload_n hx hb dL_law_320 rfl (lv_at hl 3 rfl) ?_
  refine lv_iconst (v := 3) hx hb dL_law_321 (by decide) ?_
  refine lv_iadd hx hb dL_law_322 ?_
  refine top_eq (y := nI (i + 3)) (nI_add _ _) ?_
  refine va_sld hx hb hX hbl hbA hS (vp_in_nI (by omega) (by omega)) dL_law_323 ?_
  refine top_eq (y := xs (i + 3)) (by rw [nI_clamp (by omega)]) ?_
  have hXc := bX_zone l G E cI cZ ad R V U tr sc sv sb (xs (i + 1)) (xs (i + 2)) (xs (i + 3))
  refine lawLi (As := [.int (xs (i + 1)), .int (xs (i + 2)), .int (xs (i + 3))]) (rest := []) hx hb hml hown hts hXc k_17_11 cal_X6_zone ⟨(Nat.le_of_ble_eq_true rfl), (Nat.le_of_ble_eq_true rfl)⟩ hE hA hlow hD hS hK hP (fun u => (wX_fst _ _ _ _ _ _ _ _ _ _).trans (wX_fst _ _ _ _ _ _ _ _ _ _).symm) 0 6 rfl rfl rfl hl.1 rfl (Nat.le_of_ble_eq_true rfl) dL_law_324 ⟨(Nat.le_of_ble_eq_true rfl), (Nat.le_of_ble_eq_true rfl)⟩ (fun r1 u1 H locs hr1 hP hD hS => ?_)
  subst hr1
  obtain ⟨sc1, sv1, sb1⟩ := u1
  have hP : va_P G vwCl (wX cI cZ ad (upr (upr (upr R 3 (zupS (R 3) (xs (i + 1)) (xs (i + 2)) (xs (i + 3)) 0 (decide ((xs (i + 2)) = 0)))) 4 (zupS (R 4) (xs (i + 1)) (xs (i + 2)) (xs (i + 3)) 0 (!decide ((xs (i + 2)) = 0) && decide ((xs (i + 2)) = 1)))) 5 (zupS (R 5) (xs (i + 1)) (xs (i + 2)) (xs (i + 3)) 0 (!decide ((xs (i + 2)) = 0) && !decide ((xs (i + 2)) = 1)))) V U tr sc1 sv1 sb1 ++ wM cI cZ am R V U tr tc tv) H := hP
  have hD : va_D (fun q : Nat => s.heap.size ≤ q) (wX cI cZ ad (upr (upr (upr R 3 (zupS (R 3) (xs (i + 1)) (xs (i + 2)) (xs (i + 3)) 0 (decide ((xs (i + 2)) = 0)))) 4 (zupS (R 4) (xs (i + 1)) (xs (i + 2)) (xs (i + 3)) 0 (!decide ((xs (i + 2)) = 0) && decide ((xs (i + 2)) = 1)))) 5 (zupS (R 5) (xs (i + 1)) (xs (i + 2)) (xs (i + 3)) 0 (!decide ((xs (i + 2)) = 0) && !decide ((xs (i + 2)) = 1)))) V U tr sc1 sv1 sb1 ++ wM cI cZ am R V U tr tc tv) := hD
  refine lv_aload_n hx hb dL_law_327 rfl (lv_at hl 2 rfl) ?_
  refine lv_aload_n hx hb dL_law_328 rfl (lv_at hl 0 rfl) ?_
  refine lv_iload_n hx hb dL_law_329 rfl (lv_at hl 3 rfl) ?_
  refine lv_iconst (v := 1) hx hb dL_law_330 (by decide) ?_
  refine lv_iadd hx hb dL_law_331 ?_
  refine top_eq (y := nI (i + 1)) (nI_add _ _) ?_
  refine va_sld hx hb hX hbl hbA hS (vp_in_nI (by omega) (by omega)) dL_law_332 ?_
  refine top_eq (y := xs (i + 1)) (by rw [nI_clamp (by omega)]) ?_
  refine lv_aload_n hx hb dL_law_333 rfl (lv_at hl 0 rfl) ?_
  refine lv_iload_n hx hb dL_law_334 rfl (lv_at hl 3 rfl) ?_
  refine lv_iconst (v := 2) hx hb dL_law_335 (by decide) ?_
  refine lv_iadd hx hb dL_law_336 ?_
  refine top_eq (y := nI (i + 2)) (nI_add _ _) ?_
  refine va_sld hx hb hX hbl hbA hS (vp_in_nI (by omega) (by omega)) dL_law_337 ?_
  refine top_eq (y := xs (i + 2)) (by rw [nI_clamp (by omega)]) ?_
  refine lv_aload_n hx hb dL_law_338 rfl (lv_at hl 0 rfl) ?_
  refine lv_iload_n hx hb dL_law_339 rfl (lv_at hl 3 rfl) ?_
  refine lv_iconst (v := 3) hx hb dL_law_340 (by decide) ?_
  refine lv_iadd hx hb dL_law_341 ?_
  refine top_eq (y := nI (i + 3)) (nI_add _ _) ?_
  refine va_sld hx hb hX hbl hbA hS (vp_in_nI (by omega) (by omega)) dL_law_342 ?_
  refine top_eq (y := xs (i + 3)) (by rw [nI_clamp (by omega)]) ?_
  have hM := bM_zone l G E cI cZ am R V U tr tc tv (xs (i + 1)) (xs (i + 2)) (xs (i + 3))
  refine lawRi (As := [.int (xs (i + 1)), .int (xs (i + 2)), .int (xs (i + 3))]) (rest := [.int (zoneS (R 3) (R 4) (R 5) (xs (i + 1)) (xs (i + 2)) (xs (i + 3)))]) hx hb hml hown hts hM k_17_22 cal_X7_zone ⟨(Nat.le_of_ble_eq_true rfl), (Nat.le_of_ble_eq_true rfl)⟩ hE hA hlow hD hS hK hP (fun u => (wM_fst _ _ _ _ _ _ _ _ _ _).trans (wM_fst _ _ _ _ _ _ _ _ _ _).symm) 0 7 rfl rfl rfl hl.1 rfl (Nat.le_of_ble_eq_true rfl) dL_law_343 ⟨(Nat.le_of_ble_eq_true rfl), (Nat.le_of_ble_eq_true rfl)⟩ (fun r2 u2 H locs hr2 hP hD hS => ?_)
  subst hr2
  obtain ⟨tc1, tv1⟩ := u2
  have hP : va_P G vwCl (wX cI cZ ad (upr (upr (upr R 3 (zupS (R 3) (xs (i + 1)) (xs (i + 2)) (xs (i + 3)) 0 (decide ((xs (i + 2)) = 0)))) 4 (zupS (R 4) (xs (i + 1)) (xs (i + 2)) (xs (i + 3)) 0 (!decide ((xs (i + 2)) = 0) && decide ((xs (i + 2)) = 1)))) 5 (zupS (R 5) (xs (i + 1)) (xs (i + 2)) (xs (i + 3)) 0 (!decide ((xs (i + 2)) = 0) && !decide ((xs (i + 2)) = 1)))) V U tr sc1 sv1 sb1 ++ wM cI cZ am (upr (upr (upr R 3 (zupS (R 3) (xs (i + 1)) (xs (i + 2)) (xs (i + 3)) 0 (decide ((xs (i + 2)) = 0)))) 4 (zupS (R 4) (xs (i + 1)) (xs (i + 2)) (xs (i + 3)) 0 (!decide ((xs (i + 2)) = 0) && decide ((xs (i + 2)) = 1)))) 5 (zupS (R 5) (xs (i + 1)) (xs (i + 2)) (xs (i + 3)) 0 (!decide ((xs (i + 2)) = 0) && !decide ((xs (i + 2)) = 1)))) V U tr tc1 tv1) H := hP
  have hD : va_D (fun q : Nat => s.heap.size ≤ q) (wX cI cZ ad (upr (upr (upr R 3 (zupS (R 3) (xs (i + 1)) (xs (i + 2)) (xs (i + 3)) 0 (decide ((xs (i + 2)) = 0)))) 4 (zupS (R 4) (xs (i + 1)) (xs (i + 2)) (xs (i + 3)) 0 (!decide ((xs (i + 2)) = 0) && decide ((xs (i + 2)) = 1)))) 5 (zupS (R 5) (xs (i + 1)) (xs (i + 2)) (xs (i + 3)) 0 (!decide ((xs (i + 2)) = 0) && !decide ((xs (i + 2)) = 1)))) V U tr sc1 sv1 sb1 ++ wM cI cZ am (upr (upr (upr R 3 (zupS (R 3) (xs (i + 1)) (xs (i + 2)) (xs (i + 3)) 0 (decide ((xs (i + 2)) = 0)))) 4 (zupS (R 4) (xs (i + 1)) (xs (i + 2)) (xs (i + 3)) 0 (!decide ((xs (i + 2)) = 0) && decide ((xs (i + 2)) = 1)))) 5 (zupS (R 5) (xs (i + 1)) (xs (i + 2)) (xs (i + 3)) 0 (!decide ((xs (i + 2)) = 0) && !decide ((xs (i + 2)) = 1)))) V U tr tc1 tv1) := D_law hD
  refine lv_icmp_eq (tgt := 1043) hx hb dL_law_346 (by decide) (fun c1 => ?_) (fun c1 => ?_)
  · exact kk (upr (upr (upr R 3 (zupS (R 3) (xs (i + 1)) (xs (i + 2)) (xs (i + 3)) 0 (decide ((xs (i + 2)) = 0)))) 4 (zupS (R 4) (xs (i + 1)) (xs (i + 2)) (xs (i + 3)) 0 (!decide ((xs (i + 2)) = 0) && decide ((xs (i + 2)) = 1)))) 5 (zupS (R 5) (xs (i + 1)) (xs (i + 2)) (xs (i + 3)) 0 (!decide ((xs (i + 2)) = 0) && !decide ((xs (i + 2)) = 1)))) V U tr sc1 sv1 sb1 tc1 tv1 (⟨⟨i01, i6k, zup_99 (w := 0) ile, zup_99 (w := 0) ihd, zup_99 (w := 0) ign, l9, hl6, hla⟩, hI.2⟩) H locs hP hD hS
  · exact absurd (rfl) c1
set_option maxHeartbeats 4000000 in
set_option maxRecDepth 100000 in
theorem L_load {p : Program} {l : Launch} {e : Env} {s : State} {m : MethodId} {below : List Frame} {meth : Method} {c : Code} {b L : Nat} {xs : Nat → Int32} {G : va_G} {E : EvT} {cI cZ : ClassId} {ad am : Nat → Nat} {Q : State → Prop} (hx : p.tables.exec = Jvm.exec) (hb : c.code = code) (hml : c.maxLocals = 4) (hown : s.vm.findClass RL = some m.cls) (hts : ∀ w ∈ wAll, w.before #[Value.ref b] s = true) (hX : va_X b L xs s s.heap) (hbl : b < s.heap.size) (hE : Ev E s) (hE1 : E.1 = s.heap.size) (hK : va_K G vwCl [(cI, .int), (cZ, .boolean)] s) (hL : L ≤ 3072) {i : Nat} (hi : i + 6 ≤ L) (R : Nat → Nat → Int32) (V : Nat → Int32) (U : Nat → Nat) (tr : Int64) (sc : Nat → Nat → Int32) (sv : Nat → Int32) (sb : Bool) (tc : Nat → Nat → Int32) (tv : Nat → Int32) (hI : Inv R V U) {H : Heap} {locs : List Loc} (hP : va_P G vwCl (wX cI cZ ad R V U tr sc sv sb ++ wM cI cZ am R V U tr tc tv) H) (hD : va_D (fun q : Nat => s.heap.size ≤ q) (wX cI cZ ad R V U tr sc sv sb ++ wM cI cZ am R V U tr tc tv)) (hS : va_S (fun q : Nat => s.heap.size ≤ q) s.heap H locs) {ls : Array Slot} (hl : lv_has ls 4 [(0, .ref b), (1, .ref (ad 0)), (2, .ref (am 0)), (3, .int (nI i))]) (kk : ∀ (R : Nat → Nat → Int32) (V : Nat → Int32) (U : Nat → Nat) (tr : Int64) (sc : Nat → Nat → Int32) (sv : Nat → Int32) (sb : Bool) (tc : Nat → Nat → Int32) (tv : Nat → Int32), Inv R V U → ∀ (H : Heap) (locs : List Loc), va_P G vwCl (wX cI cZ ad R V U tr sc sv sb ++ wM cI cZ am R V U tr tc tv) H → va_D (fun q : Nat => s.heap.size ≤ q) (wX cI cZ ad R V U tr sc sv sb ++ wM cI cZ am R V U tr tc tv) → va_S (fun q : Nat => s.heap.size ≤ q) s.heap H locs → W p l e room_1 s m #[Value.ref b] below meth c H locs 81 3416 Q (F0 m 1043 ls [])) : W p l e room_1 s m #[Value.ref b] below meth c H locs 81 3416 Q (F0 m 351 ls []) := by
  have hA : ∀ q : Nat, s.heap.size ≤ q → (fun q : Nat => s.heap.size ≤ q) q := fun _ h => h
  have hbA : ¬ (fun q : Nat => s.heap.size ≤ q) b := Nat.not_le.mpr hbl
  have hlow : ∀ q : Nat, (fun q : Nat => s.heap.size ≤ q) q → E.1 ≤ q := fun _ h => by rw [hE1]; exact h
  obtain ⟨⟨i01, i6k, ile, ihd, ign, l9, hl6, hla⟩, hi1, hi2, ⟨hTB, hTn⟩, ⟨hse, hwa, hN, hho, hle⟩, ⟨⟨gN, hgp, hgl⟩, hgr, ⟨zN, hcz, hzl⟩, hng, hnc, hGA, hCA, s9, hs9, hsl⟩, ⟨hnw, wx, wz, hW⟩, hm0_, hm1_⟩ := id hI
  refine lv_aload_n hx hb dL_law_351 rfl (lv_at hl 1 rfl) ?_
  refine lv_aload_n hx hb dL_law_352 rfl (lv_at hl 0 rfl) ?_
  refine lv_iload_n hx hb dL_law_353 rfl (lv_at hl 3 rfl) ?_
  refine lv_iconst (v := 1) hx hb dL_law_354 (by decide) ?_
  refine lv_iadd hx hb dL_law_355 ?_
  refine top_eq (y := nI (i + 1)) (nI_add _ _) ?_
  refine va_sld hx hb hX hbl hbA hS (vp_in_nI (by omega) (by omega)) dL_law_356 ?_
  refine top_eq (y := xs (i + 1)) (by rw [nI_clamp (by omega)]) ?_
  refine lv_aload_n hx hb dL_law_357 rfl (lv_at hl 0 rfl) ?_
  refine lv_iload_n hx hb dL_law_358 rfl (lv_at hl 3 rfl) ?_
  refine lv_iconst (v := 2) hx hb dL_law_359 (by decide) ?_
  refine lv_iadd hx hb dL_law_360 ?_
  refine top_eq (y := nI (i + 2)) (nI_add _ _) ?_
  refine va_sld hx hb hX hbl hbA hS (vp_in_nI (by omega) (by omega)) dL_law_361 ?_
  refine top_eq (y := xs (i + 2)) (by rw [nI_clamp (by omega)]) ?_
  refine lv_aload_n hx hb dL_law_362 rfl (lv_at hl 0 rfl) ?_
  refine lv_iload_n hx hb dL_law_363 rfl (lv_at hl 3 rfl) ?_
  refine lv_iconst (v := 3) hx hb dL_law_364 (by decide) ?_
  refine lv_iadd hx hb dL_law_365 ?_
  refine top_eq (y := nI (i + 3)) (nI_add _ _) ?_
  refine va_sld hx hb hX hbl hbA hS (vp_in_nI (by omega) (by omega)) dL_law_366 ?_
  refine top_eq (y := xs (i + 3)) (by rw [nI_clamp (by omega)]) ?_
  have hXc := bX_load l G E cI cZ ad R V U tr sc sv sb (xs (i + 1)) (xs (i + 2)) (xs (i + 3))
  refine lawLi (As := [.int (xs (i + 1)), .int (xs (i + 2)), .int (xs (i + 3))]) (rest := []) hx hb hml hown hts hXc k_18_2 cal_X6_load ⟨(Nat.le_of_ble_eq_true rfl), (Nat.le_of_ble_eq_true rfl)⟩ hE hA hlow hD hS hK hP (fun u => (wX_fst _ _ _ _ _ _ _ _ _ _).trans (wX_fst _ _ _ _ _ _ _ _ _ _).symm) 0 6 rfl rfl rfl hl.1 rfl (Nat.le_of_ble_eq_true rfl) dL_law_367 ⟨(Nat.le_of_ble_eq_true rfl), (Nat.le_of_ble_eq_true rfl)⟩ (fun r1 u1 H locs hr1 hP hD hS => ?_)
  subst hr1
  obtain ⟨sc1, sv1, sb1⟩ := u1
  have hP : va_P G vwCl (wX cI cZ ad R V U (ltrS (R 0) (xs (i + 1)) (xs (i + 2)) (xs (i + 3)) tr) sc1 sv1 sb1 ++ wM cI cZ am R V U tr tc tv) H := hP
  have hD : va_D (fun q : Nat => s.heap.size ≤ q) (wX cI cZ ad R V U (ltrS (R 0) (xs (i + 1)) (xs (i + 2)) (xs (i + 3)) tr) sc1 sv1 sb1 ++ wM cI cZ am R V U tr tc tv) := hD
  refine lv_aload_n hx hb dL_law_370 rfl (lv_at hl 2 rfl) ?_
  refine lv_aload_n hx hb dL_law_371 rfl (lv_at hl 0 rfl) ?_
  refine lv_iload_n hx hb dL_law_372 rfl (lv_at hl 3 rfl) ?_
  refine lv_iconst (v := 1) hx hb dL_law_373 (by decide) ?_
  refine lv_iadd hx hb dL_law_374 ?_
  refine top_eq (y := nI (i + 1)) (nI_add _ _) ?_
  refine va_sld hx hb hX hbl hbA hS (vp_in_nI (by omega) (by omega)) dL_law_375 ?_
  refine top_eq (y := xs (i + 1)) (by rw [nI_clamp (by omega)]) ?_
  refine lv_aload_n hx hb dL_law_376 rfl (lv_at hl 0 rfl) ?_
  refine lv_iload_n hx hb dL_law_377 rfl (lv_at hl 3 rfl) ?_
  refine lv_iconst (v := 2) hx hb dL_law_378 (by decide) ?_
  refine lv_iadd hx hb dL_law_379 ?_
  refine top_eq (y := nI (i + 2)) (nI_add _ _) ?_
  refine va_sld hx hb hX hbl hbA hS (vp_in_nI (by omega) (by omega)) dL_law_380 ?_
  refine top_eq (y := xs (i + 2)) (by rw [nI_clamp (by omega)]) ?_
  refine lv_aload_n hx hb dL_law_381 rfl (lv_at hl 0 rfl) ?_
  refine lv_iload_n hx hb dL_law_382 rfl (lv_at hl 3 rfl) ?_
  refine lv_iconst (v := 3) hx hb dL_law_383 (by decide) ?_
  refine lv_iadd hx hb dL_law_384 ?_
  refine top_eq (y := nI (i + 3)) (nI_add _ _) ?_
  refine va_sld hx hb hX hbl hbA hS (vp_in_nI (by omega) (by omega)) dL_law_385 ?_
  refine top_eq (y := xs (i + 3)) (by rw [nI_clamp (by omega)]) ?_
  have hM := bM_load l G E cI cZ am R V U tr tc tv (xs (i + 1)) (xs (i + 2)) (xs (i + 3))
  refine lawRi (As := [.int (xs (i + 1)), .int (xs (i + 2)), .int (xs (i + 3))]) (rest := [.int (loadS (R 0) (R 1) (R 4) (xs (i + 1)) (xs (i + 2)) (xs (i + 3)))]) hx hb hml hown hts hM k_19_10 cal_X7_load ⟨(Nat.le_of_ble_eq_true rfl), (Nat.le_of_ble_eq_true rfl)⟩ hE hA hlow hD hS hK hP (fun u => (wM_fst _ _ _ _ _ _ _ _ _ _).trans (wM_fst _ _ _ _ _ _ _ _ _ _).symm) 0 7 rfl rfl rfl hl.1 rfl (Nat.le_of_ble_eq_true rfl) dL_law_386 ⟨(Nat.le_of_ble_eq_true rfl), (Nat.le_of_ble_eq_true rfl)⟩ (fun r2 u2 H locs hr2 hP hD hS => ?_)
  subst hr2
  obtain ⟨tc1, tv1⟩ := u2
  have hP : va_P G vwCl (wX cI cZ ad R V U (ltrS (R 0) (xs (i + 1)) (xs (i + 2)) (xs (i + 3)) tr) sc1 sv1 sb1 ++ wM cI cZ am R V U (ltrS (R 0) (xs (i + 1)) (xs (i + 2)) (xs (i + 3)) tr) tc1 tv1) H := hP
  have hD : va_D (fun q : Nat => s.heap.size ≤ q) (wX cI cZ ad R V U (ltrS (R 0) (xs (i + 1)) (xs (i + 2)) (xs (i + 3)) tr) sc1 sv1 sb1 ++ wM cI cZ am R V U (ltrS (R 0) (xs (i + 1)) (xs (i + 2)) (xs (i + 3)) tr) tc1 tv1) := D_law hD
  refine lv_icmp_eq (tgt := 1043) hx hb dL_law_389 (by decide) (fun c1 => ?_) (fun c1 => ?_)
  · exact kk R V U (ltrS (R 0) (xs (i + 1)) (xs (i + 2)) (xs (i + 3)) tr) sc1 sv1 sb1 tc1 tv1 (hI) H locs hP hD hS
  · exact absurd (rfl) c1
set_option maxHeartbeats 4000000 in
set_option maxRecDepth 100000 in
theorem L_lake {p : Program} {l : Launch} {e : Env} {s : State} {m : MethodId} {below : List Frame} {meth : Method} {c : Code} {b L : Nat} {xs : Nat → Int32} {G : va_G} {E : EvT} {cI cZ : ClassId} {ad am : Nat → Nat} {Q : State → Prop} (hx : p.tables.exec = Jvm.exec) (hb : c.code = code) (hml : c.maxLocals = 4) (hown : s.vm.findClass RL = some m.cls) (hts : ∀ w ∈ wAll, w.before #[Value.ref b] s = true) (hX : va_X b L xs s s.heap) (hbl : b < s.heap.size) (hE : Ev E s) (hE1 : E.1 = s.heap.size) (hK : va_K G vwCl [(cI, .int), (cZ, .boolean)] s) (hL : L ≤ 3072) {i : Nat} (hi : i + 6 ≤ L) (R : Nat → Nat → Int32) (V : Nat → Int32) (U : Nat → Nat) (tr : Int64) (sc : Nat → Nat → Int32) (sv : Nat → Int32) (sb : Bool) (tc : Nat → Nat → Int32) (tv : Nat → Int32) (hI : Inv R V U) {H : Heap} {locs : List Loc} (hP : va_P G vwCl (wX cI cZ ad R V U tr sc sv sb ++ wM cI cZ am R V U tr tc tv) H) (hD : va_D (fun q : Nat => s.heap.size ≤ q) (wX cI cZ ad R V U tr sc sv sb ++ wM cI cZ am R V U tr tc tv)) (hS : va_S (fun q : Nat => s.heap.size ≤ q) s.heap H locs) {ls : Array Slot} (hl : lv_has ls 4 [(0, .ref b), (1, .ref (ad 0)), (2, .ref (am 0)), (3, .int (nI i))]) (kk : ∀ (R : Nat → Nat → Int32) (V : Nat → Int32) (U : Nat → Nat) (tr : Int64) (sc : Nat → Nat → Int32) (sv : Nat → Int32) (sb : Bool) (tc : Nat → Nat → Int32) (tv : Nat → Int32), Inv R V U → ∀ (H : Heap) (locs : List Loc), va_P G vwCl (wX cI cZ ad R V U tr sc sv sb ++ wM cI cZ am R V U tr tc tv) H → va_D (fun q : Nat => s.heap.size ≤ q) (wX cI cZ ad R V U tr sc sv sb ++ wM cI cZ am R V U tr tc tv) → va_S (fun q : Nat => s.heap.size ≤ q) s.heap H locs → W p l e room_1 s m #[Value.ref b] below meth c H locs 81 3416 Q (F0 m 1043 ls [])) : W p l e room_1 s m #[Value.ref b] below meth c H locs 81 3416 Q (F0 m 394 ls []) := by
  have hA : ∀ q : Nat, s.heap.size ≤ q → (fun q : Nat => s.heap.size ≤ q) q := fun _ h => h
  have hbA : ¬ (fun q : Nat => s.heap.size ≤ q) b := Nat.not_le.mpr hbl
  have hlow : ∀ q : Nat, (fun q : Nat => s.heap.size ≤ q) q → E.1 ≤ q := fun _ h => by rw [hE1]; exact h
  obtain ⟨⟨i01, i6k, ile, ihd, ign, l9, hl6, hla⟩, hi1, hi2, ⟨hTB, hTn⟩, ⟨hse, hwa, hN, hho, hle⟩, ⟨⟨gN, hgp, hgl⟩, hgr, ⟨zN, hcz, hzl⟩, hng, hnc, hGA, hCA, s9, hs9, hsl⟩, ⟨hnw, wx, wz, hW⟩, hm0_, hm1_⟩ := id hI
  refine lv_aload_n hx hb dL_law_394 rfl (lv_at hl 1 rfl) ?_
  refine lv_aload_n hx hb dL_law_395 rfl (lv_at hl 0 rfl) ?_
  refine lv_iload_n hx hb dL_law_396 rfl (lv_at hl 3 rfl) ?_
  refine lv_iconst (v := 1) hx hb dL_law_397 (by decide) ?_
  refine lv_iadd hx hb dL_law_398 ?_
  refine top_eq (y := nI (i + 1)) (nI_add _ _) ?_
  refine va_sld hx hb hX hbl hbA hS (vp_in_nI (by omega) (by omega)) dL_law_399 ?_
  refine top_eq (y := xs (i + 1)) (by rw [nI_clamp (by omega)]) ?_
  have hXc := bX_lake l G E cI cZ ad R V U tr sc sv sb (xs (i + 1))
  refine lawLi (As := [.int (xs (i + 1))]) (rest := []) hx hb hml hown hts hXc k_19_23 cal_X6_lake ⟨(Nat.le_of_ble_eq_true rfl), (Nat.le_of_ble_eq_true rfl)⟩ hE hA hlow hD hS hK hP (fun u => (wX_fst _ _ _ _ _ _ _ _ _ _).trans (wX_fst _ _ _ _ _ _ _ _ _ _).symm) 0 6 rfl rfl rfl hl.1 rfl (Nat.le_of_ble_eq_true rfl) dL_law_400 ⟨(Nat.le_of_ble_eq_true rfl), (Nat.le_of_ble_eq_true rfl)⟩ (fun r1 u1 H locs hr1 hP hD hS => ?_)
  subst hr1
  obtain ⟨sc1, sv1, sb1⟩ := u1
  have hP : va_P G vwCl (wX cI cZ ad R (upv V 0 (if wiB (xs (i + 1)) 0 6 then (xs (i + 1)) else (V 0))) U tr sc1 sv1 sb1 ++ wM cI cZ am R V U tr tc tv) H := hP
  have hD : va_D (fun q : Nat => s.heap.size ≤ q) (wX cI cZ ad R (upv V 0 (if wiB (xs (i + 1)) 0 6 then (xs (i + 1)) else (V 0))) U tr sc1 sv1 sb1 ++ wM cI cZ am R V U tr tc tv) := hD
  refine lv_aload_n hx hb dL_law_403 rfl (lv_at hl 2 rfl) ?_
  refine lv_aload_n hx hb dL_law_404 rfl (lv_at hl 0 rfl) ?_
  refine lv_iload_n hx hb dL_law_405 rfl (lv_at hl 3 rfl) ?_
  refine lv_iconst (v := 1) hx hb dL_law_406 (by decide) ?_
  refine lv_iadd hx hb dL_law_407 ?_
  refine top_eq (y := nI (i + 1)) (nI_add _ _) ?_
  refine va_sld hx hb hX hbl hbA hS (vp_in_nI (by omega) (by omega)) dL_law_408 ?_
  refine top_eq (y := xs (i + 1)) (by rw [nI_clamp (by omega)]) ?_
  have hM := bM_lake l G E cI cZ am R V U tr tc tv (xs (i + 1))
  refine lawRi (As := [.int (xs (i + 1))]) (rest := [.int (if wiB (xs (i + 1)) 0 6 then (V 0) else (-1))]) hx hb hml hown hts hM k_20_3 cal_X7_lake ⟨(Nat.le_of_ble_eq_true rfl), (Nat.le_of_ble_eq_true rfl)⟩ hE hA hlow hD hS hK hP (fun u => (wM_fst _ _ _ _ _ _ _ _ _ _).trans (wM_fst _ _ _ _ _ _ _ _ _ _).symm) 0 7 rfl rfl rfl hl.1 rfl (Nat.le_of_ble_eq_true rfl) dL_law_409 ⟨(Nat.le_of_ble_eq_true rfl), (Nat.le_of_ble_eq_true rfl)⟩ (fun r2 u2 H locs hr2 hP hD hS => ?_)
  subst hr2
  obtain ⟨tc1, tv1⟩ := u2
  have hP : va_P G vwCl (wX cI cZ ad R (upv V 0 (if wiB (xs (i + 1)) 0 6 then (xs (i + 1)) else (V 0))) U tr sc1 sv1 sb1 ++ wM cI cZ am R (upv V 0 (if wiB (xs (i + 1)) 0 6 then (xs (i + 1)) else (V 0))) U tr tc1 tv1) H := hP
  have hD : va_D (fun q : Nat => s.heap.size ≤ q) (wX cI cZ ad R (upv V 0 (if wiB (xs (i + 1)) 0 6 then (xs (i + 1)) else (V 0))) U tr sc1 sv1 sb1 ++ wM cI cZ am R (upv V 0 (if wiB (xs (i + 1)) 0 6 then (xs (i + 1)) else (V 0))) U tr tc1 tv1) := D_law hD
  refine lv_icmp_eq (tgt := 1043) hx hb dL_law_412 (by decide) (fun c1 => ?_) (fun c1 => ?_)
  · exact kk R (upv V 0 (if wiB (xs (i + 1)) 0 6 then (xs (i + 1)) else (V 0))) U tr sc1 sv1 sb1 tc1 tv1 (⟨⟨i01, i6k, ile, ihd, ign, lake_inv ⟨l9, hl6, hla⟩⟩, hI.2⟩) H locs hP hD hS
  · exact absurd (rfl) c1
set_option maxHeartbeats 4000000 in
set_option maxRecDepth 100000 in
theorem L_sweep {p : Program} {l : Launch} {e : Env} {s : State} {m : MethodId} {below : List Frame} {meth : Method} {c : Code} {b L : Nat} {xs : Nat → Int32} {G : va_G} {E : EvT} {cI cZ : ClassId} {ad am : Nat → Nat} {Q : State → Prop} (hx : p.tables.exec = Jvm.exec) (hb : c.code = code) (hml : c.maxLocals = 4) (hown : s.vm.findClass RL = some m.cls) (hts : ∀ w ∈ wAll, w.before #[Value.ref b] s = true) (hX : va_X b L xs s s.heap) (hbl : b < s.heap.size) (hE : Ev E s) (hE1 : E.1 = s.heap.size) (hK : va_K G vwCl [(cI, .int), (cZ, .boolean)] s) (hL : L ≤ 3072) {i : Nat} (hi : i + 6 ≤ L) (R : Nat → Nat → Int32) (V : Nat → Int32) (U : Nat → Nat) (tr : Int64) (sc : Nat → Nat → Int32) (sv : Nat → Int32) (sb : Bool) (tc : Nat → Nat → Int32) (tv : Nat → Int32) (hI : Inv R V U) {H : Heap} {locs : List Loc} (hP : va_P G vwCl (wX cI cZ ad R V U tr sc sv sb ++ wM cI cZ am R V U tr tc tv) H) (hD : va_D (fun q : Nat => s.heap.size ≤ q) (wX cI cZ ad R V U tr sc sv sb ++ wM cI cZ am R V U tr tc tv)) (hS : va_S (fun q : Nat => s.heap.size ≤ q) s.heap H locs) {ls : Array Slot} (hl : lv_has ls 4 [(0, .ref b), (1, .ref (ad 0)), (2, .ref (am 0)), (3, .int (nI i))]) (kk : ∀ (R : Nat → Nat → Int32) (V : Nat → Int32) (U : Nat → Nat) (tr : Int64) (sc : Nat → Nat → Int32) (sv : Nat → Int32) (sb : Bool) (tc : Nat → Nat → Int32) (tv : Nat → Int32), Inv R V U → ∀ (H : Heap) (locs : List Loc), va_P G vwCl (wX cI cZ ad R V U tr sc sv sb ++ wM cI cZ am R V U tr tc tv) H → va_D (fun q : Nat => s.heap.size ≤ q) (wX cI cZ ad R V U tr sc sv sb ++ wM cI cZ am R V U tr tc tv) → va_S (fun q : Nat => s.heap.size ≤ q) s.heap H locs → W p l e room_1 s m #[Value.ref b] below meth c H locs 81 3416 Q (F0 m 1043 ls [])) : W p l e room_1 s m #[Value.ref b] below meth c H locs 81 3416 Q (F0 m 417 ls []) := by
  have hA : ∀ q : Nat, s.heap.size ≤ q → (fun q : Nat => s.heap.size ≤ q) q := fun _ h => h
  have hbA : ¬ (fun q : Nat => s.heap.size ≤ q) b := Nat.not_le.mpr hbl
  have hlow : ∀ q : Nat, (fun q : Nat => s.heap.size ≤ q) q → E.1 ≤ q := fun _ h => by rw [hE1]; exact h
  obtain ⟨⟨i01, i6k, ile, ihd, ign, l9, hl6, hla⟩, hi1, hi2, ⟨hTB, hTn⟩, ⟨hse, hwa, hN, hho, hle⟩, ⟨⟨gN, hgp, hgl⟩, hgr, ⟨zN, hcz, hzl⟩, hng, hnc, hGA, hCA, s9, hs9, hsl⟩, ⟨hnw, wx, wz, hW⟩, hm0_, hm1_⟩ := id hI
  refine lv_aload_n hx hb dL_law_417 rfl (lv_at hl 1 rfl) ?_
  refine lv_aload_n hx hb dL_law_418 rfl (lv_at hl 0 rfl) ?_
  refine lv_iload_n hx hb dL_law_419 rfl (lv_at hl 3 rfl) ?_
  refine lv_iconst (v := 1) hx hb dL_law_420 (by decide) ?_
  refine lv_iadd hx hb dL_law_421 ?_
  refine top_eq (y := nI (i + 1)) (nI_add _ _) ?_
  refine va_sld hx hb hX hbl hbA hS (vp_in_nI (by omega) (by omega)) dL_law_422 ?_
  refine top_eq (y := xs (i + 1)) (by rw [nI_clamp (by omega)]) ?_
  have hXc := bX_sweep l G E cI cZ ad R V U tr sc sv sb (xs (i + 1))
  refine lawLi (As := [.int (xs (i + 1))]) (rest := []) hx hb hml hown hts hXc k_20_7 cal_X6_sweep ⟨(Nat.le_of_ble_eq_true rfl), (Nat.le_of_ble_eq_true rfl)⟩ hE hA hlow hD hS hK hP (fun u => (wX_fst _ _ _ _ _ _ _ _ _ _).trans (wX_fst _ _ _ _ _ _ _ _ _ _).symm) 0 6 rfl rfl rfl hl.1 rfl (Nat.le_of_ble_eq_true rfl) dL_law_423 ⟨(Nat.le_of_ble_eq_true rfl), (Nat.le_of_ble_eq_true rfl)⟩ (fun r1 u1 H locs hr1 hP hD hS => ?_)
  subst hr1
  obtain ⟨sc1, sv1, sb1⟩ := u1
  have hP : va_P G vwCl (wX cI cZ ad (upr R 1 (if wiB (xs (i + 1)) 1 100 then swS (paS (R 0) (R 2) (R 3)) (V 0) (R 1) (xs (i + 1)).toNatClampNeg else (R 1))) V U tr sc1 sv1 sb1 ++ wM cI cZ am R V U tr tc tv) H := hP
  have hD : va_D (fun q : Nat => s.heap.size ≤ q) (wX cI cZ ad (upr R 1 (if wiB (xs (i + 1)) 1 100 then swS (paS (R 0) (R 2) (R 3)) (V 0) (R 1) (xs (i + 1)).toNatClampNeg else (R 1))) V U tr sc1 sv1 sb1 ++ wM cI cZ am R V U tr tc tv) := hD
  refine lv_aload_n hx hb dL_law_426 rfl (lv_at hl 2 rfl) ?_
  refine lv_aload_n hx hb dL_law_427 rfl (lv_at hl 0 rfl) ?_
  refine lv_iload_n hx hb dL_law_428 rfl (lv_at hl 3 rfl) ?_
  refine lv_iconst (v := 1) hx hb dL_law_429 (by decide) ?_
  refine lv_iadd hx hb dL_law_430 ?_
  refine top_eq (y := nI (i + 1)) (nI_add _ _) ?_
  refine va_sld hx hb hX hbl hbA hS (vp_in_nI (by omega) (by omega)) dL_law_431 ?_
  refine top_eq (y := xs (i + 1)) (by rw [nI_clamp (by omega)]) ?_
  have hM := bM_sweep l G E cI cZ am R V U tr tc tv (xs (i + 1))
  simp only [sw_eq ile] at hM
  refine lawRi (As := [.int (xs (i + 1))]) (rest := [.int (if wiB (xs (i + 1)) 1 100 then cntS (wetS (R 0) (swS (paS (R 0) (R 2) (R 3)) (V 0) (R 1) (xs (i + 1)).toNatClampNeg) (R 2)) 48 else (-1))]) hx hb hml hown hts hM k_22_8 cal_X7_sweep ⟨(Nat.le_of_ble_eq_true rfl), (Nat.le_of_ble_eq_true rfl)⟩ hE hA hlow hD hS hK hP (fun u => (wM_fst _ _ _ _ _ _ _ _ _ _).trans (wM_fst _ _ _ _ _ _ _ _ _ _).symm) 0 7 rfl rfl rfl hl.1 rfl (Nat.le_of_ble_eq_true rfl) dL_law_432 ⟨(Nat.le_of_ble_eq_true rfl), (Nat.le_of_ble_eq_true rfl)⟩ (fun r2 u2 H locs hr2 hP hD hS => ?_)
  subst hr2
  obtain ⟨tc1, tv1⟩ := u2
  have hP : va_P G vwCl (wX cI cZ ad (upr R 1 (if wiB (xs (i + 1)) 1 100 then swS (paS (R 0) (R 2) (R 3)) (V 0) (R 1) (xs (i + 1)).toNatClampNeg else (R 1))) V U tr sc1 sv1 sb1 ++ wM cI cZ am (upr R 1 (if wiB (xs (i + 1)) 1 100 then swS (paS (R 0) (R 2) (R 3)) (V 0) (R 1) (xs (i + 1)).toNatClampNeg else (R 1))) V U tr tc1 tv1) H := hP
  have hD : va_D (fun q : Nat => s.heap.size ≤ q) (wX cI cZ ad (upr R 1 (if wiB (xs (i + 1)) 1 100 then swS (paS (R 0) (R 2) (R 3)) (V 0) (R 1) (xs (i + 1)).toNatClampNeg else (R 1))) V U tr sc1 sv1 sb1 ++ wM cI cZ am (upr R 1 (if wiB (xs (i + 1)) 1 100 then swS (paS (R 0) (R 2) (R 3)) (V 0) (R 1) (xs (i + 1)).toNatClampNeg else (R 1))) V U tr tc1 tv1) := D_law hD
  refine lv_icmp_eq (tgt := 1043) hx hb dL_law_435 (by decide) (fun c1 => ?_) (fun c1 => ?_)
  · exact kk (upr R 1 (if wiB (xs (i + 1)) 1 100 then swS (paS (R 0) (R 2) (R 3)) (V 0) (R 1) (xs (i + 1)).toNatClampNeg else (R 1))) V U tr sc1 sv1 sb1 tc1 tv1 (⟨⟨i01, sweep_inv ile hl6 hla i6k, ile, ihd, ign, l9, hl6, hla⟩, hI.2⟩) H locs hP hD hS
  · exact absurd (rfl) c1
set_option maxHeartbeats 4000000 in
set_option maxRecDepth 100000 in
theorem L_seep {p : Program} {l : Launch} {e : Env} {s : State} {m : MethodId} {below : List Frame} {meth : Method} {c : Code} {b L : Nat} {xs : Nat → Int32} {G : va_G} {E : EvT} {cI cZ : ClassId} {ad am : Nat → Nat} {Q : State → Prop} (hx : p.tables.exec = Jvm.exec) (hb : c.code = code) (hml : c.maxLocals = 4) (hown : s.vm.findClass RL = some m.cls) (hts : ∀ w ∈ wAll, w.before #[Value.ref b] s = true) (hX : va_X b L xs s s.heap) (hbl : b < s.heap.size) (hE : Ev E s) (hE1 : E.1 = s.heap.size) (hK : va_K G vwCl [(cI, .int), (cZ, .boolean)] s) (hL : L ≤ 3072) {i : Nat} (hi : i + 6 ≤ L) (R : Nat → Nat → Int32) (V : Nat → Int32) (U : Nat → Nat) (tr : Int64) (sc : Nat → Nat → Int32) (sv : Nat → Int32) (sb : Bool) (tc : Nat → Nat → Int32) (tv : Nat → Int32) (hI : Inv R V U) {H : Heap} {locs : List Loc} (hP : va_P G vwCl (wX cI cZ ad R V U tr sc sv sb ++ wM cI cZ am R V U tr tc tv) H) (hD : va_D (fun q : Nat => s.heap.size ≤ q) (wX cI cZ ad R V U tr sc sv sb ++ wM cI cZ am R V U tr tc tv)) (hS : va_S (fun q : Nat => s.heap.size ≤ q) s.heap H locs) {ls : Array Slot} (hl : lv_has ls 4 [(0, .ref b), (1, .ref (ad 0)), (2, .ref (am 0)), (3, .int (nI i))]) (kk : ∀ (R : Nat → Nat → Int32) (V : Nat → Int32) (U : Nat → Nat) (tr : Int64) (sc : Nat → Nat → Int32) (sv : Nat → Int32) (sb : Bool) (tc : Nat → Nat → Int32) (tv : Nat → Int32), Inv R V U → ∀ (H : Heap) (locs : List Loc), va_P G vwCl (wX cI cZ ad R V U tr sc sv sb ++ wM cI cZ am R V U tr tc tv) H → va_D (fun q : Nat => s.heap.size ≤ q) (wX cI cZ ad R V U tr sc sv sb ++ wM cI cZ am R V U tr tc tv) → va_S (fun q : Nat => s.heap.size ≤ q) s.heap H locs → W p l e room_1 s m #[Value.ref b] below meth c H locs 81 3416 Q (F0 m 1043 ls [])) : W p l e room_1 s m #[Value.ref b] below meth c H locs 81 3416 Q (F0 m 440 ls []) := by
  have hA : ∀ q : Nat, s.heap.size ≤ q → (fun q : Nat => s.heap.size ≤ q) q := fun _ h => h
  have hbA : ¬ (fun q : Nat => s.heap.size ≤ q) b := Nat.not_le.mpr hbl
  have hlow : ∀ q : Nat, (fun q : Nat => s.heap.size ≤ q) q → E.1 ≤ q := fun _ h => by rw [hE1]; exact h
  obtain ⟨⟨i01, i6k, ile, ihd, ign, l9, hl6, hla⟩, hi1, hi2, ⟨hTB, hTn⟩, ⟨hse, hwa, hN, hho, hle⟩, ⟨⟨gN, hgp, hgl⟩, hgr, ⟨zN, hcz, hzl⟩, hng, hnc, hGA, hCA, s9, hs9, hsl⟩, ⟨hnw, wx, wz, hW⟩, hm0_, hm1_⟩ := id hI
  refine lv_aload_n hx hb dL_law_440 rfl (lv_at hl 1 rfl) ?_
  have hXc := bX_seep l G E cI cZ ad R V U tr sc sv sb 
  refine lawLi (As := []) (rest := []) hx hb hml hown hts hXc k_23_11 cal_X6_seep ⟨(Nat.le_of_ble_eq_true rfl), (Nat.le_of_ble_eq_true rfl)⟩ hE hA hlow hD hS hK hP (fun u => (wX_fst _ _ _ _ _ _ _ _ _ _).trans (wX_fst _ _ _ _ _ _ _ _ _ _).symm) 0 6 rfl rfl rfl hl.1 rfl (Nat.le_of_ble_eq_true rfl) dL_law_441 ⟨(Nat.le_of_ble_eq_true rfl), (Nat.le_of_ble_eq_true rfl)⟩ (fun r1 u1 H locs hr1 hP hD hS => ?_)
  subst hr1
  obtain ⟨sc1, sv1, sb1⟩ := u1
  have hP : va_P G vwCl (wX cI cZ ad R V U tr sc1 sv1 sb1 ++ wM cI cZ am R V U tr tc tv) H := hP
  have hD : va_D (fun q : Nat => s.heap.size ≤ q) (wX cI cZ ad R V U tr sc1 sv1 sb1 ++ wM cI cZ am R V U tr tc tv) := hD
  refine lv_aload_n hx hb dL_law_444 rfl (lv_at hl 2 rfl) ?_
  have hM := bM_seep l G E cI cZ am R V U tr tc tv 
  refine lawRi (As := []) (rest := [.int (sumS (fwT (paS (R 0) (R 2) (R 3)) (R 1) 7) 4 / 1000)]) hx hb hml hown hts hM k_23_19 cal_X7_seep ⟨(Nat.le_of_ble_eq_true rfl), (Nat.le_of_ble_eq_true rfl)⟩ hE hA hlow hD hS hK hP (fun u => (wM_fst _ _ _ _ _ _ _ _ _ _).trans (wM_fst _ _ _ _ _ _ _ _ _ _).symm) 0 7 rfl rfl rfl hl.1 rfl (Nat.le_of_ble_eq_true rfl) dL_law_445 ⟨(Nat.le_of_ble_eq_true rfl), (Nat.le_of_ble_eq_true rfl)⟩ (fun r2 u2 H locs hr2 hP hD hS => ?_)
  subst hr2
  obtain ⟨tc1, tv1⟩ := u2
  have hP : va_P G vwCl (wX cI cZ ad R V U tr sc1 sv1 sb1 ++ wM cI cZ am R V U tr tc1 tv1) H := hP
  have hD : va_D (fun q : Nat => s.heap.size ≤ q) (wX cI cZ ad R V U tr sc1 sv1 sb1 ++ wM cI cZ am R V U tr tc1 tv1) := D_law hD
  refine lv_icmp_eq (tgt := 1043) hx hb dL_law_448 (by decide) (fun c1 => ?_) (fun c1 => ?_)
  · exact kk R V U tr sc1 sv1 sb1 tc1 tv1 (hI) H locs hP hD hS
  · exact absurd ((seep_eq ile).symm) c1
set_option maxHeartbeats 4000000 in
set_option maxRecDepth 100000 in
theorem L_dry {p : Program} {l : Launch} {e : Env} {s : State} {m : MethodId} {below : List Frame} {meth : Method} {c : Code} {b L : Nat} {xs : Nat → Int32} {G : va_G} {E : EvT} {cI cZ : ClassId} {ad am : Nat → Nat} {Q : State → Prop} (hx : p.tables.exec = Jvm.exec) (hb : c.code = code) (hml : c.maxLocals = 4) (hown : s.vm.findClass RL = some m.cls) (hts : ∀ w ∈ wAll, w.before #[Value.ref b] s = true) (hX : va_X b L xs s s.heap) (hbl : b < s.heap.size) (hE : Ev E s) (hE1 : E.1 = s.heap.size) (hK : va_K G vwCl [(cI, .int), (cZ, .boolean)] s) (hL : L ≤ 3072) {i : Nat} (hi : i + 6 ≤ L) (R : Nat → Nat → Int32) (V : Nat → Int32) (U : Nat → Nat) (tr : Int64) (sc : Nat → Nat → Int32) (sv : Nat → Int32) (sb : Bool) (tc : Nat → Nat → Int32) (tv : Nat → Int32) (hI : Inv R V U) {H : Heap} {locs : List Loc} (hP : va_P G vwCl (wX cI cZ ad R V U tr sc sv sb ++ wM cI cZ am R V U tr tc tv) H) (hD : va_D (fun q : Nat => s.heap.size ≤ q) (wX cI cZ ad R V U tr sc sv sb ++ wM cI cZ am R V U tr tc tv)) (hS : va_S (fun q : Nat => s.heap.size ≤ q) s.heap H locs) {ls : Array Slot} (hl : lv_has ls 4 [(0, .ref b), (1, .ref (ad 0)), (2, .ref (am 0)), (3, .int (nI i))]) (kk : ∀ (R : Nat → Nat → Int32) (V : Nat → Int32) (U : Nat → Nat) (tr : Int64) (sc : Nat → Nat → Int32) (sv : Nat → Int32) (sb : Bool) (tc : Nat → Nat → Int32) (tv : Nat → Int32), Inv R V U → ∀ (H : Heap) (locs : List Loc), va_P G vwCl (wX cI cZ ad R V U tr sc sv sb ++ wM cI cZ am R V U tr tc tv) H → va_D (fun q : Nat => s.heap.size ≤ q) (wX cI cZ ad R V U tr sc sv sb ++ wM cI cZ am R V U tr tc tv) → va_S (fun q : Nat => s.heap.size ≤ q) s.heap H locs → W p l e room_1 s m #[Value.ref b] below meth c H locs 81 3416 Q (F0 m 1043 ls [])) : W p l e room_1 s m #[Value.ref b] below meth c H locs 81 3416 Q (F0 m 453 ls []) := by
  have hA : ∀ q : Nat, s.heap.size ≤ q → (fun q : Nat => s.heap.size ≤ q) q := fun _ h => h
  have hbA : ¬ (fun q : Nat => s.heap.size ≤ q) b := Nat.not_le.mpr hbl
  have hlow : ∀ q : Nat, (fun q : Nat => s.heap.size ≤ q) q → E.1 ≤ q := fun _ h => by rw [hE1]; exact h
  obtain ⟨⟨i01, i6k, ile, ihd, ign, l9, hl6, hla⟩, hi1, hi2, ⟨hTB, hTn⟩, ⟨hse, hwa, hN, hho, hle⟩, ⟨⟨gN, hgp, hgl⟩, hgr, ⟨zN, hcz, hzl⟩, hng, hnc, hGA, hCA, s9, hs9, hsl⟩, ⟨hnw, wx, wz, hW⟩, hm0_, hm1_⟩ := id hI
  refine lv_aload_n hx hb dL_law_453 rfl (lv_at hl 1 rfl) ?_
  have hXc := bX_dry l G E cI cZ ad R V U tr sc sv sb 
  refine lawLi (As := []) (rest := []) hx hb hml hown hts hXc k_23_23 cal_X6_dry ⟨(Nat.le_of_ble_eq_true rfl), (Nat.le_of_ble_eq_true rfl)⟩ hE hA hlow hD hS hK hP (fun u => (wX_fst _ _ _ _ _ _ _ _ _ _).trans (wX_fst _ _ _ _ _ _ _ _ _ _).symm) 0 6 rfl rfl rfl hl.1 rfl (Nat.le_of_ble_eq_true rfl) dL_law_454 ⟨(Nat.le_of_ble_eq_true rfl), (Nat.le_of_ble_eq_true rfl)⟩ (fun r1 u1 H locs hr1 hP hD hS => ?_)
  subst hr1
  obtain ⟨sc1, sv1, sb1⟩ := u1
  have hP : va_P G vwCl (wX cI cZ ad (upr R 1 (fun _ => 0)) V U tr sc1 sv1 sb1 ++ wM cI cZ am R V U tr tc tv) H := hP
  have hD : va_D (fun q : Nat => s.heap.size ≤ q) (wX cI cZ ad (upr R 1 (fun _ => 0)) V U tr sc1 sv1 sb1 ++ wM cI cZ am R V U tr tc tv) := hD
  refine lv_aload_n hx hb dL_law_457 rfl (lv_at hl 2 rfl) ?_
  have hM := bM_dry l G E cI cZ am R V U tr tc tv 
  refine lawRi (As := []) (rest := [.int (cntS (fun p => !decide ((R 1) p ≤ 0)) 48)]) hx hb hml hown hts hM k_24_7 cal_X7_dry ⟨(Nat.le_of_ble_eq_true rfl), (Nat.le_of_ble_eq_true rfl)⟩ hE hA hlow hD hS hK hP (fun u => (wM_fst _ _ _ _ _ _ _ _ _ _).trans (wM_fst _ _ _ _ _ _ _ _ _ _).symm) 0 7 rfl rfl rfl hl.1 rfl (Nat.le_of_ble_eq_true rfl) dL_law_458 ⟨(Nat.le_of_ble_eq_true rfl), (Nat.le_of_ble_eq_true rfl)⟩ (fun r2 u2 H locs hr2 hP hD hS => ?_)
  subst hr2
  obtain ⟨tc1, tv1⟩ := u2
  have hP : va_P G vwCl (wX cI cZ ad (upr R 1 (fun _ => 0)) V U tr sc1 sv1 sb1 ++ wM cI cZ am (upr R 1 (fun _ => 0)) V U tr tc1 tv1) H := hP
  have hD : va_D (fun q : Nat => s.heap.size ≤ q) (wX cI cZ ad (upr R 1 (fun _ => 0)) V U tr sc1 sv1 sb1 ++ wM cI cZ am (upr R 1 (fun _ => 0)) V U tr tc1 tv1) := D_law hD
  refine lv_icmp_eq (tgt := 1043) hx hb dL_law_461 (by decide) (fun c1 => ?_) (fun c1 => ?_)
  · exact kk (upr R 1 (fun _ => 0)) V U tr sc1 sv1 sb1 tc1 tv1 (⟨⟨i01, z_6k, ile, ihd, ign, l9, hl6, hla⟩, hI.2⟩) H locs hP hD hS
  · exact absurd (rfl) c1
set_option maxHeartbeats 4000000 in
set_option maxRecDepth 100000 in
theorem L_least {p : Program} {l : Launch} {e : Env} {s : State} {m : MethodId} {below : List Frame} {meth : Method} {c : Code} {b L : Nat} {xs : Nat → Int32} {G : va_G} {E : EvT} {cI cZ : ClassId} {ad am : Nat → Nat} {Q : State → Prop} (hx : p.tables.exec = Jvm.exec) (hb : c.code = code) (hml : c.maxLocals = 4) (hown : s.vm.findClass RL = some m.cls) (hts : ∀ w ∈ wAll, w.before #[Value.ref b] s = true) (hX : va_X b L xs s s.heap) (hbl : b < s.heap.size) (hE : Ev E s) (hE1 : E.1 = s.heap.size) (hK : va_K G vwCl [(cI, .int), (cZ, .boolean)] s) (hL : L ≤ 3072) {i : Nat} (hi : i + 6 ≤ L) (R : Nat → Nat → Int32) (V : Nat → Int32) (U : Nat → Nat) (tr : Int64) (sc : Nat → Nat → Int32) (sv : Nat → Int32) (sb : Bool) (tc : Nat → Nat → Int32) (tv : Nat → Int32) (hI : Inv R V U) {H : Heap} {locs : List Loc} (hP : va_P G vwCl (wX cI cZ ad R V U tr sc sv sb ++ wM cI cZ am R V U tr tc tv) H) (hD : va_D (fun q : Nat => s.heap.size ≤ q) (wX cI cZ ad R V U tr sc sv sb ++ wM cI cZ am R V U tr tc tv)) (hS : va_S (fun q : Nat => s.heap.size ≤ q) s.heap H locs) {ls : Array Slot} (hl : lv_has ls 4 [(0, .ref b), (1, .ref (ad 0)), (2, .ref (am 0)), (3, .int (nI i))]) (kk : ∀ (R : Nat → Nat → Int32) (V : Nat → Int32) (U : Nat → Nat) (tr : Int64) (sc : Nat → Nat → Int32) (sv : Nat → Int32) (sb : Bool) (tc : Nat → Nat → Int32) (tv : Nat → Int32), Inv R V U → ∀ (H : Heap) (locs : List Loc), va_P G vwCl (wX cI cZ ad R V U tr sc sv sb ++ wM cI cZ am R V U tr tc tv) H → va_D (fun q : Nat => s.heap.size ≤ q) (wX cI cZ ad R V U tr sc sv sb ++ wM cI cZ am R V U tr tc tv) → va_S (fun q : Nat => s.heap.size ≤ q) s.heap H locs → W p l e room_1 s m #[Value.ref b] below meth c H locs 81 3416 Q (F0 m 1043 ls [])) : W p l e room_1 s m #[Value.ref b] below meth c H locs 81 3416 Q (F0 m 466 ls []) := by
  have hA : ∀ q : Nat, s.heap.size ≤ q → (fun q : Nat => s.heap.size ≤ q) q := fun _ h => h
  have hbA : ¬ (fun q : Nat => s.heap.size ≤ q) b := Nat.not_le.mpr hbl
  have hlow : ∀ q : Nat, (fun q : Nat => s.heap.size ≤ q) q → E.1 ≤ q := fun _ h => by rw [hE1]; exact h
  obtain ⟨⟨i01, i6k, ile, ihd, ign, l9, hl6, hla⟩, hi1, hi2, ⟨hTB, hTn⟩, ⟨hse, hwa, hN, hho, hle⟩, ⟨⟨gN, hgp, hgl⟩, hgr, ⟨zN, hcz, hzl⟩, hng, hnc, hGA, hCA, s9, hs9, hsl⟩, ⟨hnw, wx, wz, hW⟩, hm0_, hm1_⟩ := id hI
  refine lv_aload_n hx hb dL_law_466 rfl (lv_at hl 1 rfl) ?_
  refine lv_aload_n hx hb dL_law_467 rfl (lv_at hl 0 rfl) ?_
  refine lv_iload_n hx hb dL_law_468 rfl (lv_at hl 3 rfl) ?_
  refine lv_iconst (v := 1) hx hb dL_law_469 (by decide) ?_
  refine lv_iadd hx hb dL_law_470 ?_
  refine top_eq (y := nI (i + 1)) (nI_add _ _) ?_
  refine va_sld hx hb hX hbl hbA hS (vp_in_nI (by omega) (by omega)) dL_law_471 ?_
  refine top_eq (y := xs (i + 1)) (by rw [nI_clamp (by omega)]) ?_
  have hXc := bX_least l G E cI cZ ad R V U tr sc sv sb (xs (i + 1)) (hnw)
  refine lawLi (As := [.int (xs (i + 1))]) (rest := []) hx hb hml hown hts hXc k_24_15 cal_X6_least ⟨(Nat.le_of_ble_eq_true rfl), (Nat.le_of_ble_eq_true rfl)⟩ hE hA hlow hD hS hK hP (fun u => (wX_fst _ _ _ _ _ _ _ _ _ _).trans (wX_fst _ _ _ _ _ _ _ _ _ _).symm) 0 6 rfl rfl rfl hl.1 rfl (Nat.le_of_ble_eq_true rfl) dL_law_472 ⟨(Nat.le_of_ble_eq_true rfl), (Nat.le_of_ble_eq_true rfl)⟩ (fun r1 u1 H locs hr1 hP hD hS => ?_)
  subst hr1
  obtain ⟨sc1, sv1, sb1⟩ := u1
  have hP : va_P G vwCl (wX cI cZ ad R V U tr sc1 sv1 sb1 ++ wM cI cZ am R V U tr tc tv) H := hP
  have hD : va_D (fun q : Nat => s.heap.size ≤ q) (wX cI cZ ad R V U tr sc1 sv1 sb1 ++ wM cI cZ am R V U tr tc tv) := hD
  refine lv_aload_n hx hb dL_law_475 rfl (lv_at hl 2 rfl) ?_
  refine lv_aload_n hx hb dL_law_476 rfl (lv_at hl 0 rfl) ?_
  refine lv_iload_n hx hb dL_law_477 rfl (lv_at hl 3 rfl) ?_
  refine lv_iconst (v := 1) hx hb dL_law_478 (by decide) ?_
  refine lv_iadd hx hb dL_law_479 ?_
  refine top_eq (y := nI (i + 1)) (nI_add _ _) ?_
  refine va_sld hx hb hX hbl hbA hS (vp_in_nI (by omega) (by omega)) dL_law_480 ?_
  refine top_eq (y := xs (i + 1)) (by rw [nI_clamp (by omega)]) ?_
  have hM := bM_least l G E cI cZ am R V U tr tc tv (xs (i + 1)) (hm0 hnw ihd hW)
  refine lawRi (As := [.int (xs (i + 1))]) (rest := [.int (if wiB (xs (i + 1)) (-2) 7 then leaS (walS (reG (isES (R 0) (R 2)) (wtD (R 0) (R 1) (R 2) (R 27) (R 28) 0 (U 3)) (hwD (R 0) (R 4) (R 27) (R 28) (R 29) 0 (U 3))) (buG (isES (R 0) (R 2)) (wtD (R 0) (R 1) (R 2) (R 27) (R 28) 0 (U 3))) 0 8) (xs (i + 1)) else (-1))]) hx hb hml hown hts hM k_26_11 cal_X7_least ⟨(Nat.le_of_ble_eq_true rfl), (Nat.le_of_ble_eq_true rfl)⟩ hE hA hlow hD hS hK hP (fun u => (wM_fst _ _ _ _ _ _ _ _ _ _).trans (wM_fst _ _ _ _ _ _ _ _ _ _).symm) 0 7 rfl rfl rfl hl.1 rfl (Nat.le_of_ble_eq_true rfl) dL_law_481 ⟨(Nat.le_of_ble_eq_true rfl), (Nat.le_of_ble_eq_true rfl)⟩ (fun r2 u2 H locs hr2 hP hD hS => ?_)
  subst hr2
  obtain ⟨tc1, tv1⟩ := u2
  have hP : va_P G vwCl (wX cI cZ ad R V U tr sc1 sv1 sb1 ++ wM cI cZ am R V U tr tc1 tv1) H := hP
  have hD : va_D (fun q : Nat => s.heap.size ≤ q) (wX cI cZ ad R V U tr sc1 sv1 sb1 ++ wM cI cZ am R V U tr tc1 tv1) := D_law hD
  refine lv_icmp_eq (tgt := 1043) hx hb dL_law_484 (by decide) (fun c1 => ?_) (fun c1 => ?_)
  · exact kk R V U tr sc1 sv1 sb1 tc1 tv1 (hI) H locs hP hD hS
  · exact absurd (by rw [wal0 hnw ihd hW]) c1
