theorem cal_X6_within : calS yX6_within cX6_within 3 (some .boolean) 3 := ⟨k_7_10, k_1_2, k_7_9, by decide +kernel⟩
set_option maxHeartbeats 4000000 in
set_option maxRecDepth 100000 in
theorem c_X6_within (l : Launch) (G : va_G) (E : EvT) (cI cZ : ClassId) (v : Int32) (lw : Int32) (hg : Int32) : cR l G E yX6_within cX6_within 3 (some .boolean) 1 [(cI, .int), (cZ, .boolean)] [.int v, .int lw, .int hg] [] (bI (wiB v lw hg)) := by
  refine mkR (by decide) (Nat.le_of_ble_eq_true rfl) ?_
  intro zp ze s zm args below meth zc hx hb hr hml hown hts hlocks hE hP hK ls hl
  have hS : va_S (fun _ => False) s.heap s.heap [] := va_S.rf
  have hlow : ∀ q : Nat, (fun _ : Nat => False) q → E.1 ≤ q := fun _ h => h.elim
  have hl : lv_has ls 3 [(0, .int v), (1, .int lw), (2, .int hg)] := hl
  refine lv_iload_n hx hb dX6_within_0 rfl (lv_at hl 0 rfl) ?_
  refine lv_iload_n hx hb dX6_within_1 rfl (lv_at hl 1 rfl) ?_
  refine lv_icmp_lt (tgt := 14) hx hb dX6_within_2 (by decide) (fun c_1 => ?_) (fun c_1 => ?_)
  · skip
    refine lv_iconst (v := 0) hx hb dX6_within_14 (by decide) ?_
    exact retR hx hb hr (rfl) hlocks dX6_within_15 (by simp [wiB, bI, c_1])
  · skip
    refine lv_iload_n hx hb dX6_within_5 rfl (lv_at hl 0 rfl) ?_
    refine lv_iload_n hx hb dX6_within_6 rfl (lv_at hl 2 rfl) ?_
    refine lv_icmp_gt (tgt := 14) hx hb dX6_within_7 (by decide) (fun c_2 => ?_) (fun c_2 => ?_)
    · skip
      refine lv_iconst (v := 0) hx hb dX6_within_14 (by decide) ?_
      exact retR hx hb hr (rfl) hlocks dX6_within_15 (by simp [wiB, bI, c_1, c_2])
    · skip
      refine lv_iconst (v := 1) hx hb dX6_within_10 (by decide) ?_
      refine lv_goto (tgt := 15) hx hb dX6_within_11 (by decide) ?_
      exact retR hx hb hr (rfl) hlocks dX6_within_15 (by simp [wiB, bI, c_1, c_2])
theorem cal_X6_placeOf : calS yX6_placeOf cX6_placeOf 2 (some .int) 2 := ⟨k_13_4, k_1_2, k_13_3, by decide +kernel⟩
set_option maxHeartbeats 4000000 in
set_option maxRecDepth 100000 in
theorem c_X6_placeOf (l : Launch) (G : va_G) (E : EvT) (cI cZ : ClassId) (x : Nat) (y : Nat) : cR l G E yX6_placeOf cX6_placeOf 2 (some .int) 1 [(cI, .int), (cZ, .boolean)] [.int (nI x), .int (nI y)] [] (nI ((8 * y) + x)) := by
  refine mkR (by decide) (Nat.le_of_ble_eq_true rfl) ?_
  intro zp ze s zm args below meth zc hx hb hr hml hown hts hlocks hE hP hK ls hl
  have hS : va_S (fun _ => False) s.heap s.heap [] := va_S.rf
  have hlow : ∀ q : Nat, (fun _ : Nat => False) q → E.1 ≤ q := fun _ h => h.elim
  have hl : lv_has ls 2 [(0, .int (nI x)), (1, .int (nI y))] := hl
  refine lv_bipush (v := 8) hx hb dX6_placeOf_0 (by decide) ?_
  refine lv_iload_n hx hb dX6_placeOf_2 rfl (lv_at hl 1 rfl) ?_
  refine lv_imul hx hb dX6_placeOf_3 ?_
  refine top_eq (y := nI (8 * y)) (pk_mul _ _) ?_
  refine lv_iload_n hx hb dX6_placeOf_4 rfl (lv_at hl 0 rfl) ?_
  refine lv_iadd hx hb dX6_placeOf_5 ?_
  refine top_eq (y := nI ((8 * y) + x)) (nI_add _ _) ?_
  exact retR hx hb hr (rfl) hlocks dX6_placeOf_6 (rfl)
theorem cal_X2_isAir : calV yX2_isAir cX2_isAir 3 (some .boolean) 1 := ⟨k_14_0, k_1_19, k_13_22, k_13_23, by decide +kernel⟩
set_option maxHeartbeats 4000000 in
set_option maxRecDepth 100000 in
theorem c_X2_isAir (l : Launch) (G : va_G) (E : EvT) (cI cZ : ClassId) (p : Nat) (o : Nat) (a_zo : Nat) (fs_o : List Value) (h_o_zo : fs_o[0]? = some (.ref a_zo)) (zo : Nat → Int32) (hp : p < 48) : cR l G E yX2_isAir cX2_isAir 3 (some .boolean) 1 [(cI, .int), (cZ, .boolean)] [.ref o, .int (nI p)] [(o, .inr (2, fs_o)), (a_zo, .inl (cI, 48, .inl zo))] (bI (isAirS zo p)) := by
  refine mkR (by decide) (Nat.le_of_ble_eq_true rfl) ?_
  intro zp ze s zm args below meth zc hx hb hr hml hown hts hlocks hE hP hK ls hl
  have hS : va_S (fun _ => False) s.heap s.heap [] := va_S.rf
  have hlow : ∀ q : Nat, (fun _ : Nat => False) q → E.1 ≤ q := fun _ h => h.elim
  have hl : lv_has ls 3 [(0, .ref o), (1, .int (nI p))] := hl
  refine lv_aload_n hx hb dX2_isAir_0 rfl (lv_at hl 0 rfl) ?_
  refine va_get (D := G) (ci := 2) (v := .ref a_zo) (C := RX2) (T := TX2) (N := 9) hx hb hts inlX2 hown hK hP 0 rfl rfl 0 (by decide) (hts (.fieldLink RX2 9 "EarthBanks$Slice" "zones" "[I") k_3_9) (fun _ h9 => h9) h_o_zo dX2_isAir_1 ?_
  refine lv_iload_n hx hb dX2_isAir_4 rfl (lv_at hl 1 rfl) ?_
  refine ialdN (j := p) hx hb hK hP 1 0 rfl rfl (by omega) (by decide) dX2_isAir_5 ?_
  refine lv_istore_n (lv' := [(2, .int (zo p)), (0, .ref o), (1, .int (nI p))]) hx hb dX2_isAir_6 rfl hl (by decide) rfl (fun ls hl => ?_)
  refine lv_iload_n hx hb dX2_isAir_7 rfl (lv_at hl 0 rfl) ?_
  refine lv_if_lt (tgt := 17) hx hb dX2_isAir_8 (by decide) (fun c_1 => ?_) (fun c_1 => ?_)
  · skip
    refine lv_iconst (v := 1) hx hb dX2_isAir_17 (by decide) ?_
    refine lv_goto (tgt := 22) hx hb dX2_isAir_18 (by decide) ?_
    exact retR hx hb hr (rfl) hlocks dX2_isAir_22 (by simp [isAirS, bI, c_1])
  · skip
    refine lv_iload_n hx hb dX2_isAir_11 rfl (lv_at hl 0 rfl) ?_
    refine lv_bipush (v := 6) hx hb dX2_isAir_12 (by decide) ?_
    refine lv_icmp_lt (tgt := 21) hx hb dX2_isAir_14 (by decide) (fun c_2 => ?_) (fun c_2 => ?_)
    · skip
      refine lv_iconst (v := 0) hx hb dX2_isAir_21 (by decide) ?_
      exact retR hx hb hr (rfl) hlocks dX2_isAir_22 (by simp [isAirS, bI, c_1, c_2])
    · skip
      refine lv_iconst (v := 1) hx hb dX2_isAir_17 (by decide) ?_
      refine lv_goto (tgt := 22) hx hb dX2_isAir_18 (by decide) ?_
      exact retR hx hb hr (rfl) hlocks dX2_isAir_22 (by simp [isAirS, bI, c_1, c_2])
theorem cal_X2_isEarth : calV yX2_isEarth cX2_isEarth 2 (some .boolean) 1 := ⟨k_13_20, k_1_19, k_13_18, k_13_19, by decide +kernel⟩
set_option maxHeartbeats 4000000 in
set_option maxRecDepth 100000 in
theorem c_X2_isEarth (l : Launch) (G : va_G) (E : EvT) (cI cZ : ClassId) (p : Nat) (o : Nat) (a_zo : Nat) (a_go : Nat) (fs_o : List Value) (h_o_zo : fs_o[0]? = some (.ref a_zo)) (h_o_go : fs_o[2]? = some (.ref a_go)) (zo : Nat → Int32) (go : Nat → Int32) (hp : p < 48) : cR l G E yX2_isEarth cX2_isEarth 2 (some .boolean) 2 [(cI, .int), (cZ, .boolean)] [.ref o, .int (nI p)] [(o, .inr (2, fs_o)), (a_zo, .inl (cI, 48, .inl zo)), (a_go, .inl (cI, 48, .inl go))] (bI (isES zo go p)) := by
  refine mkR (by decide) (Nat.le_of_ble_eq_true rfl) ?_
  intro zp ze s zm args below meth zc hx hb hr hml hown hts hlocks hE hP hK ls hl
  have hS : va_S (fun _ => False) s.heap s.heap [] := va_S.rf
  have hlow : ∀ q : Nat, (fun _ : Nat => False) q → E.1 ≤ q := fun _ h => h.elim
  have hl : lv_has ls 2 [(0, .ref o), (1, .int (nI p))] := hl
  refine lv_aload_n hx hb dX2_isEarth_0 rfl (lv_at hl 0 rfl) ?_
  refine lv_iload_n hx hb dX2_isEarth_1 rfl (lv_at hl 1 rfl) ?_
  refine cRV (As := [.int (nI p)]) (rest := []) hx hb hml hown hts (c_X2_isAir l G E cI cZ p o a_zo fs_o h_o_zo zo (hp)) k_13_21 cal_X2_isAir ⟨Nat.le_of_ble_eq_true rfl, Nat.le_of_ble_eq_true rfl⟩ hE hlow hS hK [0, 1] rfl hP [0, 1] rfl 0 2 rfl rfl rfl hl.1 rfl (Nat.le_of_ble_eq_true rfl) dX2_isEarth_2 ⟨Nat.zero_le _, Nat.zero_le _⟩ ?_
  refine lv_if_ne (tgt := 21) hx hb dX2_isEarth_5 (by decide) (fun c_1 => ?_) (fun c_1 => ?_)
  · skip
    have c_1 : (isAirS zo p) = true := bI_t c_1
    refine lv_iconst (v := 0) hx hb dX2_isEarth_21 (by decide) ?_
    exact retR hx hb hr (rfl) hlocks dX2_isEarth_22 (by simp [isES, bI, c_1])
  · skip
    have c_1 : (isAirS zo p) = false := bI_f c_1
    refine lv_aload_n hx hb dX2_isEarth_8 rfl (lv_at hl 0 rfl) ?_
    refine va_get (D := G) (ci := 2) (v := .ref a_go) (C := RX2) (T := TX2) (N := 9) hx hb hts inlX2 hown hK hP 0 rfl rfl 2 (by decide) (hts (.fieldLink RX2 18 "EarthBanks$Slice" "gone" "[I") k_3_11) (fun _ h9 => h9) h_o_go dX2_isEarth_9 ?_
    refine lv_iload_n hx hb dX2_isEarth_12 rfl (lv_at hl 1 rfl) ?_
    refine ialdN (j := p) hx hb hK hP 2 0 rfl rfl (by omega) (by decide) dX2_isEarth_13 ?_
    refine lv_if_ne (tgt := 21) hx hb dX2_isEarth_14 (by decide) (fun c_2 => ?_) (fun c_2 => ?_)
    · skip
      refine lv_iconst (v := 0) hx hb dX2_isEarth_21 (by decide) ?_
      exact retR hx hb hr (rfl) hlocks dX2_isEarth_22 (by simp [isES, bI, c_1, c_2])
    · skip
      refine lv_iconst (v := 1) hx hb dX2_isEarth_17 (by decide) ?_
      refine lv_goto (tgt := 22) hx hb dX2_isEarth_18 (by decide) ?_
      exact retR hx hb hr (rfl) hlocks dX2_isEarth_22 (by simp [isES, bI, c_1, c_2])
theorem cal_X2_holdAt : calV yX2_holdAt cX2_holdAt 2 (some .int) 1 := ⟨k_19_9, k_1_19, k_19_7, k_19_8, by decide +kernel⟩
set_option maxHeartbeats 4000000 in
set_option maxRecDepth 100000 in
theorem c_X2_holdAt (l : Launch) (G : va_G) (E : EvT) (cI cZ : ClassId) (p : Nat) (o : Nat) (a_zo : Nat) (a_hd : Nat) (fs_o : List Value) (h_o_zo : fs_o[0]? = some (.ref a_zo)) (h_o_hd : fs_o[4]? = some (.ref a_hd)) (zo : Nat → Int32) (hd : Nat → Int32) (hp : p < 48) : cR l G E yX2_holdAt cX2_holdAt 2 (some .int) 2 [(cI, .int), (cZ, .boolean)] [.ref o, .int (nI p)] [(o, .inr (2, fs_o)), (a_zo, .inl (cI, 48, .inl zo)), (a_hd, .inl (cI, 6, .inl hd))] (holdS zo hd p) := by
  refine mkR (by decide) (Nat.le_of_ble_eq_true rfl) ?_
  intro zp ze s zm args below meth zc hx hb hr hml hown hts hlocks hE hP hK ls hl
  have hS : va_S (fun _ => False) s.heap s.heap [] := va_S.rf
  have hlow : ∀ q : Nat, (fun _ : Nat => False) q → E.1 ≤ q := fun _ h => h.elim
  have hl : lv_has ls 2 [(0, .ref o), (1, .int (nI p))] := hl
  refine lv_aload_n hx hb dX2_holdAt_0 rfl (lv_at hl 0 rfl) ?_
  refine lv_iload_n hx hb dX2_holdAt_1 rfl (lv_at hl 1 rfl) ?_
  refine cRV (As := [.int (nI p)]) (rest := []) hx hb hml hown hts (c_X2_isAir l G E cI cZ p o a_zo fs_o h_o_zo zo (hp)) k_13_21 cal_X2_isAir ⟨Nat.le_of_ble_eq_true rfl, Nat.le_of_ble_eq_true rfl⟩ hE hlow hS hK [0, 1] rfl hP [0, 1] rfl 0 2 rfl rfl rfl hl.1 rfl (Nat.le_of_ble_eq_true rfl) dX2_holdAt_2 ⟨Nat.zero_le _, Nat.zero_le _⟩ ?_
  refine lv_if_eq (tgt := 12) hx hb dX2_holdAt_5 (by decide) (fun c_1 => ?_) (fun c_1 => ?_)
  · skip
    have c_1 : (isAirS zo p) = false := bI_f c_1
    refine lv_aload_n hx hb dX2_holdAt_12 rfl (lv_at hl 0 rfl) ?_
    refine va_get (D := G) (ci := 2) (v := .ref a_hd) (C := RX2) (T := TX2) (N := 9) hx hb hts inlX2 hown hK hP 0 rfl rfl 4 (by decide) (hts (.fieldLink RX2 24 "EarthBanks$Slice" "holds" "[I") k_3_13) (fun _ h9 => h9) h_o_hd dX2_holdAt_13 ?_
    refine lv_aload_n hx hb dX2_holdAt_16 rfl (lv_at hl 0 rfl) ?_
    refine va_get (D := G) (ci := 2) (v := .ref a_zo) (C := RX2) (T := TX2) (N := 9) hx hb hts inlX2 hown hK hP 0 rfl rfl 0 (by decide) (hts (.fieldLink RX2 9 "EarthBanks$Slice" "zones" "[I") k_3_9) (fun _ h9 => h9) h_o_zo dX2_holdAt_17 ?_
    refine lv_iload_n hx hb dX2_holdAt_20 rfl (lv_at hl 1 rfl) ?_
    refine ialdN (j := p) hx hb hK hP 1 0 rfl rfl (by omega) (by decide) dX2_holdAt_21 ?_
    refine va_iald hx hb hK hP 2 0 rfl rfl (zo_in c_1) dX2_holdAt_22 ?_
    exact retR hx hb hr (rfl) hlocks dX2_holdAt_23 (by simp [holdS, atZ, bI, c_1])
  · skip
    have c_1 : (isAirS zo p) = true := bI_t c_1
    refine lv_iconst (v := 0) hx hb dX2_holdAt_8 (by decide) ?_
    refine lv_goto (tgt := 23) hx hb dX2_holdAt_9 (by decide) ?_
    exact retR hx hb hr (rfl) hlocks dX2_holdAt_23 (by simp [holdS, atZ, bI, c_1])
theorem cal_X2_grainAt : calV yX2_grainAt cX2_grainAt 2 (some .int) 1 := ⟨k_28_23, k_1_19, k_28_21, k_28_22, by decide +kernel⟩
set_option maxHeartbeats 4000000 in
set_option maxRecDepth 100000 in
theorem c_X2_grainAt (l : Launch) (G : va_G) (E : EvT) (cI cZ : ClassId) (p : Nat) (o : Nat) (a_zo : Nat) (a_gn : Nat) (fs_o : List Value) (h_o_zo : fs_o[0]? = some (.ref a_zo)) (h_o_gn : fs_o[5]? = some (.ref a_gn)) (zo : Nat → Int32) (gn : Nat → Int32) (hp : p < 48) : cR l G E yX2_grainAt cX2_grainAt 2 (some .int) 2 [(cI, .int), (cZ, .boolean)] [.ref o, .int (nI p)] [(o, .inr (2, fs_o)), (a_zo, .inl (cI, 48, .inl zo)), (a_gn, .inl (cI, 6, .inl gn))] (holdS zo gn p) := by
  refine mkR (by decide) (Nat.le_of_ble_eq_true rfl) ?_
  intro zp ze s zm args below meth zc hx hb hr hml hown hts hlocks hE hP hK ls hl
  have hS : va_S (fun _ => False) s.heap s.heap [] := va_S.rf
  have hlow : ∀ q : Nat, (fun _ : Nat => False) q → E.1 ≤ q := fun _ h => h.elim
  have hl : lv_has ls 2 [(0, .ref o), (1, .int (nI p))] := hl
  refine lv_aload_n hx hb dX2_grainAt_0 rfl (lv_at hl 0 rfl) ?_
  refine lv_iload_n hx hb dX2_grainAt_1 rfl (lv_at hl 1 rfl) ?_
  refine cRV (As := [.int (nI p)]) (rest := []) hx hb hml hown hts (c_X2_isAir l G E cI cZ p o a_zo fs_o h_o_zo zo (hp)) k_13_21 cal_X2_isAir ⟨Nat.le_of_ble_eq_true rfl, Nat.le_of_ble_eq_true rfl⟩ hE hlow hS hK [0, 1] rfl hP [0, 1] rfl 0 2 rfl rfl rfl hl.1 rfl (Nat.le_of_ble_eq_true rfl) dX2_grainAt_2 ⟨Nat.zero_le _, Nat.zero_le _⟩ ?_
  refine lv_if_eq (tgt := 12) hx hb dX2_grainAt_5 (by decide) (fun c_1 => ?_) (fun c_1 => ?_)
  · skip
    have c_1 : (isAirS zo p) = false := bI_f c_1
    refine lv_aload_n hx hb dX2_grainAt_12 rfl (lv_at hl 0 rfl) ?_
    refine va_get (D := G) (ci := 2) (v := .ref a_gn) (C := RX2) (T := TX2) (N := 9) hx hb hts inlX2 hown hK hP 0 rfl rfl 5 (by decide) (hts (.fieldLink RX2 27 "EarthBanks$Slice" "grains" "[I") k_3_14) (fun _ h9 => h9) h_o_gn dX2_grainAt_13 ?_
    refine lv_aload_n hx hb dX2_grainAt_16 rfl (lv_at hl 0 rfl) ?_
    refine va_get (D := G) (ci := 2) (v := .ref a_zo) (C := RX2) (T := TX2) (N := 9) hx hb hts inlX2 hown hK hP 0 rfl rfl 0 (by decide) (hts (.fieldLink RX2 9 "EarthBanks$Slice" "zones" "[I") k_3_9) (fun _ h9 => h9) h_o_zo dX2_grainAt_17 ?_
    refine lv_iload_n hx hb dX2_grainAt_20 rfl (lv_at hl 1 rfl) ?_
    refine ialdN (j := p) hx hb hK hP 1 0 rfl rfl (by omega) (by decide) dX2_grainAt_21 ?_
    refine va_iald hx hb hK hP 2 0 rfl rfl (zo_in c_1) dX2_grainAt_22 ?_
    exact retR hx hb hr (rfl) hlocks dX2_grainAt_23 (by simp [holdS, atZ, bI, c_1])
  · skip
    have c_1 : (isAirS zo p) = true := bI_t c_1
    refine lv_iconst (v := 0) hx hb dX2_grainAt_8 (by decide) ?_
    refine lv_goto (tgt := 23) hx hb dX2_grainAt_9 (by decide) ?_
    exact retR hx hb hr (rfl) hlocks dX2_grainAt_23 (by simp [holdS, atZ, bI, c_1])
theorem cal_X2_pushAt : calV yX2_pushAt cX2_pushAt 2 (some .int) 1 := ⟨k_16_20, k_1_19, k_16_18, k_16_19, by decide +kernel⟩
set_option maxHeartbeats 4000000 in
set_option maxRecDepth 100000 in
theorem c_X2_pushAt (l : Launch) (G : va_G) (E : EvT) (cI cZ : ClassId) (p : Nat) (o : Nat) (a_he : Nat) (fs_o : List Value) (h_o_he : fs_o[1]? = some (.ref a_he)) (he : Nat → Int32) (hp : p < 48) : cR l G E yX2_pushAt cX2_pushAt 2 (some .int) 1 [(cI, .int), (cZ, .boolean)] [.ref o, .int (nI p)] [(o, .inr (2, fs_o)), (a_he, .inl (cI, 48, .inl he))] (pushS he p) := by
  refine mkR (by decide) (Nat.le_of_ble_eq_true rfl) ?_
  intro zp ze s zm args below meth zc hx hb hr hml hown hts hlocks hE hP hK ls hl
  have hS : va_S (fun _ => False) s.heap s.heap [] := va_S.rf
  have hlow : ∀ q : Nat, (fun _ : Nat => False) q → E.1 ≤ q := fun _ h => h.elim
  have hl : lv_has ls 2 [(0, .ref o), (1, .int (nI p))] := hl
  refine lv_iconst (v := 0) hx hb dX2_pushAt_0 (by decide) ?_
  refine lv_aload_n hx hb dX2_pushAt_1 rfl (lv_at hl 0 rfl) ?_
  refine va_get (D := G) (ci := 2) (v := .ref a_he) (C := RX2) (T := TX2) (N := 9) hx hb hts inlX2 hown hK hP 0 rfl rfl 1 (by decide) (hts (.fieldLink RX2 15 "EarthBanks$Slice" "heads" "[I") k_3_10) (fun _ h9 => h9) h_o_he dX2_pushAt_2 ?_
  refine lv_iload_n hx hb dX2_pushAt_5 rfl (lv_at hl 1 rfl) ?_
  refine ialdN (j := p) hx hb hK hP 1 0 rfl rfl (by omega) (by decide) dX2_pushAt_6 ?_
  refine lv_sipush (v := 1000) hx hb dX2_pushAt_7 (by decide) ?_
  refine lv_iload_n hx hb dX2_pushAt_10 rfl (lv_at hl 1 rfl) ?_
  refine lv_bipush (v := 8) hx hb dX2_pushAt_11 (by decide) ?_
  refine lv_idiv hx hb dX2_pushAt_13 (by decide) ?_
  refine top_eq (y := nI (p / 8)) (pk_div (a := p) (d := 8) (by omega) (by omega) (by omega)) ?_
  refine lv_imul hx hb dX2_pushAt_14 ?_
  refine top_eq (y := nI (1000 * (p / 8))) (pk_mul _ _) ?_
  refine lv_isub hx hb dX2_pushAt_15 ?_
  refine va_mmax hx hb (hml.trans hl.1.symm) hown (hts (.methodLink RX2 59 Lib.Math.max.name) k_16_21) (hts (.static Lib.Math.max.name) k_16_22) (hts (.initialized "java/lang/Math") k_9_19) (hts (.code Lib.Math.max.name Lib.Math.max.code 2 (some .int)) k_16_23) (Nat.le_of_ble_eq_true rfl) (Nat.le_of_ble_eq_true rfl) (Nat.zero_le _) (Nat.zero_le _) dX2_pushAt_16 ?_
  exact retR hx hb hr (rfl) hlocks dX2_pushAt_19 (by simp [pushS, bI])
theorem cal_X2_isWet : calV yX2_isWet cX2_isWet 2 (some .boolean) 1 := ⟨k_22_6, k_1_19, k_22_4, k_22_5, by decide +kernel⟩
set_option maxHeartbeats 4000000 in
set_option maxRecDepth 100000 in
theorem c_X2_isWet (l : Launch) (G : va_G) (E : EvT) (cI cZ : ClassId) (p : Nat) (o : Nat) (a_zo : Nat) (a_he : Nat) (a_go : Nat) (fs_o : List Value) (h_o_zo : fs_o[0]? = some (.ref a_zo)) (h_o_go : fs_o[2]? = some (.ref a_go)) (h_o_he : fs_o[1]? = some (.ref a_he)) (zo : Nat → Int32) (he : Nat → Int32) (go : Nat → Int32) (hp : p < 48) : cR l G E yX2_isWet cX2_isWet 2 (some .boolean) 3 [(cI, .int), (cZ, .boolean)] [.ref o, .int (nI p)] [(o, .inr (2, fs_o)), (a_zo, .inl (cI, 48, .inl zo)), (a_he, .inl (cI, 48, .inl he)), (a_go, .inl (cI, 48, .inl go))] (bI (wetS zo he go p)) := by
  refine mkR (by decide) (Nat.le_of_ble_eq_true rfl) ?_
  intro zp ze s zm args below meth zc hx hb hr hml hown hts hlocks hE hP hK ls hl
  have hS : va_S (fun _ => False) s.heap s.heap [] := va_S.rf
  have hlow : ∀ q : Nat, (fun _ : Nat => False) q → E.1 ≤ q := fun _ h => h.elim
  have hl : lv_has ls 2 [(0, .ref o), (1, .int (nI p))] := hl
  refine lv_aload_n hx hb dX2_isWet_0 rfl (lv_at hl 0 rfl) ?_
  refine lv_iload_n hx hb dX2_isWet_1 rfl (lv_at hl 1 rfl) ?_
  refine cRV (As := [.int (nI p)]) (rest := []) hx hb hml hown hts (c_X2_isEarth l G E cI cZ p o a_zo a_go fs_o h_o_zo h_o_go zo go (hp)) k_13_17 cal_X2_isEarth ⟨Nat.le_of_ble_eq_true rfl, Nat.le_of_ble_eq_true rfl⟩ hE hlow hS hK [0, 1] rfl hP [0, 1, 3] rfl 0 2 rfl rfl rfl hl.1 rfl (Nat.le_of_ble_eq_true rfl) dX2_isWet_2 ⟨Nat.zero_le _, Nat.zero_le _⟩ ?_
  refine lv_if_eq (tgt := 20) hx hb dX2_isWet_5 (by decide) (fun c_1 => ?_) (fun c_1 => ?_)
  · skip
    have c_1 : (isES zo go p) = false := bI_f c_1
    refine lv_iconst (v := 0) hx hb dX2_isWet_20 (by decide) ?_
    exact retR hx hb hr (rfl) hlocks dX2_isWet_21 (by simp [wetS, bI, c_1])
  · skip
    have c_1 : (isES zo go p) = true := bI_t c_1
    refine lv_aload_n hx hb dX2_isWet_8 rfl (lv_at hl 0 rfl) ?_
    refine lv_iload_n hx hb dX2_isWet_9 rfl (lv_at hl 1 rfl) ?_
    refine cRV (As := [.int (nI p)]) (rest := []) hx hb hml hown hts (c_X2_pushAt l G E cI cZ p o a_he fs_o h_o_he he (hp)) k_22_7 cal_X2_pushAt ⟨Nat.le_of_ble_eq_true rfl, Nat.le_of_ble_eq_true rfl⟩ hE hlow hS hK [0, 1] rfl hP [0, 2] rfl 0 2 rfl rfl rfl hl.1 rfl (Nat.le_of_ble_eq_true rfl) dX2_isWet_10 ⟨Nat.zero_le _, Nat.zero_le _⟩ ?_
    refine lv_if_le (tgt := 20) hx hb dX2_isWet_13 (by decide) (fun c_2 => ?_) (fun c_2 => ?_)
    · skip
      refine lv_iconst (v := 0) hx hb dX2_isWet_20 (by decide) ?_
      exact retR hx hb hr (rfl) hlocks dX2_isWet_21 (by simp [wetS, bI, c_1, c_2])
    · skip
      refine lv_iconst (v := 1) hx hb dX2_isWet_16 (by decide) ?_
      refine lv_goto (tgt := 21) hx hb dX2_isWet_17 (by decide) ?_
      exact retR hx hb hr (rfl) hlocks dX2_isWet_21 (by simp [wetS, bI, c_1, c_2])
theorem cal_X2_earthCells : calV yX2_earthCells cX2_earthCells 3 (some .int) 0 := ⟨k_13_16, k_1_19, k_13_14, k_13_15, by decide +kernel⟩
set_option maxHeartbeats 4000000 in
set_option maxRecDepth 100000 in
theorem c_X2_earthCells (l : Launch) (G : va_G) (E : EvT) (cI cZ : ClassId) (o : Nat) (a_zo : Nat) (a_go : Nat) (fs_o : List Value) (h_o_zo : fs_o[0]? = some (.ref a_zo)) (h_o_go : fs_o[2]? = some (.ref a_go)) (zo : Nat → Int32) (go : Nat → Int32) : cR l G E yX2_earthCells cX2_earthCells 3 (some .int) 3 [(cI, .int), (cZ, .boolean)] [.ref o] [(o, .inr (2, fs_o)), (a_zo, .inl (cI, 48, .inl zo)), (a_go, .inl (cI, 48, .inl go))] (cntS (isES zo go) 48) := by
  refine mkR (by decide) (Nat.le_of_ble_eq_true rfl) ?_
  intro zp ze s zm args below meth zc hx hb hr hml hown hts hlocks hE hP hK ls hl
  have hS : va_S (fun _ => False) s.heap s.heap [] := va_S.rf
  have hlow : ∀ q : Nat, (fun _ : Nat => False) q → E.1 ≤ q := fun _ h => h.elim
  have hl : lv_has ls 3 [(0, .ref o)] := hl
  refine lv_iconst (v := 0) hx hb dX2_earthCells_0 (by decide) ?_
  refine lv_istore_n (lv' := [(1, .int 0), (0, .ref o)]) hx hb dX2_earthCells_1 rfl hl (by decide) rfl (fun ls hl => ?_)
  refine lv_iconst (v := 0) hx hb dX2_earthCells_2 (by decide) ?_
  refine lv_istore_n (lv' := [(2, .int 0), (1, .int 0), (0, .ref o)]) hx hb dX2_earthCells_3 rfl hl (by decide) rfl (fun ls hl => ?_)
  suffices lp4 : ∀ zn k4 : Nat, 0 ≤ k4 → k4 ≤ 48 → 48 < k4 + zn → ∀ ls : Array Slot, lv_has ls 3 [(0, .ref o), (1, .int (cntS (isES zo go) k4)), (2, .int (nI k4))] → W zp l ze (rmK 3) s zm args below meth zc s.heap [] 0 0 (MQ below (vp_Si (fun zx => zx = cntS (isES zo go) 48)) args s 0 0 (fun _ => False)) (F0 zm 4 ls []) by
    have el_1 : (0 : Int32) = cntS (isES zo go) 0 := by simp [cntS, cntS, bI]
    have el_2 : (0 : Int32) = nI 0 := rfl
    exact lp4 (48 + 1 - 0) 0 (by omega) (by omega) (by omega)  ls (lv_sub hl [2, 1, 0] (show ([(0, .ref o), (1, .int 0), (2, .int 0)] : List (Nat × Value)) = [(0, .ref o), (1, .int (cntS (isES zo go) 0)), (2, .int (nI 0))] by rw [← el_1, ← el_2]))
  intro zn
  induction zn with
  | zero => exact fun k4 h1 h2 h3 => absurd h3 (by omega)
  | succ zn ih4 =>
    intro k4 hlo4 hhi4 hn4  ls hl
    refine lv_iload_n hx hb dX2_earthCells_4 rfl (lv_at hl 2 rfl) ?_
    refine lv_bipush (v := 48) hx hb dX2_earthCells_5 (by decide) ?_
    refine lv_icmp_ge (tgt := 27) hx hb dX2_earthCells_7 (by decide) (fun c_3 => ?_) (fun c_3 => ?_)
    · skip
      have c_3 : 48 ≤ k4 := (nI_leI (a := 48) (b := k4) (by omega) (by omega)).mp c_3
      have hk9 : 48 = k4 := by omega
      subst hk9
      refine lv_iload_n hx hb dX2_earthCells_27 rfl (lv_at hl 1 rfl) ?_
      exact retR hx hb hr (rfl) hlocks dX2_earthCells_28 (rfl)
    · skip
      have c_3 : ¬ 48 ≤ k4 := fun h9 => c_3 ((nI_leI (a := 48) (b := k4) (by omega) (by omega)).mpr h9)
      refine lv_aload_n hx hb dX2_earthCells_10 rfl (lv_at hl 0 rfl) ?_
      refine lv_iload_n hx hb dX2_earthCells_11 rfl (lv_at hl 2 rfl) ?_
      refine cRV (As := [.int (nI k4)]) (rest := []) hx hb hml hown hts (c_X2_isEarth l G E cI cZ k4 o a_zo a_go fs_o h_o_zo h_o_go zo go (by first | assumption | omega | simp [cntS, bI, c_3])) k_13_17 cal_X2_isEarth ⟨Nat.le_of_ble_eq_true rfl, Nat.le_of_ble_eq_true rfl⟩ hE hlow hS hK [0, 1] rfl hP [0, 1, 2] rfl 0 2 rfl rfl rfl hl.1 rfl (Nat.le_of_ble_eq_true rfl) dX2_earthCells_12 ⟨Nat.zero_le _, Nat.zero_le _⟩ ?_
      refine lv_if_eq (tgt := 21) hx hb dX2_earthCells_15 (by decide) (fun c_4 => ?_) (fun c_4 => ?_)
      · skip
        have c_4 : (isES zo go k4) = false := bI_f c_4
        refine lv_iinc (v := nI (k4 + 1)) (lv' := [(2, .int (nI (k4 + 1))), (0, .ref o), (1, .int (cntS (isES zo go) k4))]) hx hb dX2_earthCells_21 hl (k := 2) rfl (nI_add _ _) (by decide) rfl (fun ls hl => ?_)
        refine lv_goto (tgt := 4) hx hb dX2_earthCells_24 (by decide) ?_
        have el_5 : (cntS (isES zo go) k4 : Int32) = cntS (isES zo go) (k4 + 1) := by simp [cntS, cntS, bI, c_3, c_4]
        exact ih4 (k4 + 1) (by omega) (by omega) (by omega)  ls (lv_sub hl [1, 2, 0] (show ([(0, .ref o), (1, .int (cntS (isES zo go) k4)), (2, .int (nI (k4 + 1)))] : List (Nat × Value)) = [(0, .ref o), (1, .int (cntS (isES zo go) (k4 + 1))), (2, .int (nI (k4 + 1)))] by rw [← el_5]))
      · skip
        have c_4 : (isES zo go k4) = true := bI_t c_4
        refine lv_iinc (v := (cntS (isES zo go) k4 + 1)) (lv' := [(1, .int (cntS (isES zo go) k4 + 1)), (0, .ref o), (2, .int (nI k4))]) hx hb dX2_earthCells_18 hl (k := 1) rfl (rfl) (by decide) rfl (fun ls hl => ?_)
        refine lv_iinc (v := nI (k4 + 1)) (lv' := [(2, .int (nI (k4 + 1))), (1, .int (cntS (isES zo go) k4 + 1)), (0, .ref o)]) hx hb dX2_earthCells_21 hl (k := 2) rfl (nI_add _ _) (by decide) rfl (fun ls hl => ?_)
        refine lv_goto (tgt := 4) hx hb dX2_earthCells_24 (by decide) ?_
        have el_6 : ((cntS (isES zo go) k4 + 1) : Int32) = cntS (isES zo go) (k4 + 1) := by simp [cntS, cntS, bI, c_3, c_4]
        exact ih4 (k4 + 1) (by omega) (by omega) (by omega)  ls (lv_sub hl [2, 1, 0] (show ([(0, .ref o), (1, .int (cntS (isES zo go) k4 + 1)), (2, .int (nI (k4 + 1)))] : List (Nat × Value)) = [(0, .ref o), (1, .int (cntS (isES zo go) (k4 + 1))), (2, .int (nI (k4 + 1)))] by rw [← el_6]))
theorem cal_X2_wetCells : calV yX2_wetCells cX2_wetCells 3 (some .int) 0 := ⟨k_22_2, k_1_19, k_22_0, k_22_1, by decide +kernel⟩
set_option maxHeartbeats 4000000 in
set_option maxRecDepth 100000 in
theorem c_X2_wetCells (l : Launch) (G : va_G) (E : EvT) (cI cZ : ClassId) (o : Nat) (a_zo : Nat) (a_he : Nat) (a_go : Nat) (fs_o : List Value) (h_o_zo : fs_o[0]? = some (.ref a_zo)) (h_o_go : fs_o[2]? = some (.ref a_go)) (h_o_he : fs_o[1]? = some (.ref a_he)) (zo : Nat → Int32) (he : Nat → Int32) (go : Nat → Int32) : cR l G E yX2_wetCells cX2_wetCells 3 (some .int) 4 [(cI, .int), (cZ, .boolean)] [.ref o] [(o, .inr (2, fs_o)), (a_zo, .inl (cI, 48, .inl zo)), (a_he, .inl (cI, 48, .inl he)), (a_go, .inl (cI, 48, .inl go))] (cntS (wetS zo he go) 48) := by
  refine mkR (by decide) (Nat.le_of_ble_eq_true rfl) ?_
  intro zp ze s zm args below meth zc hx hb hr hml hown hts hlocks hE hP hK ls hl
  have hS : va_S (fun _ => False) s.heap s.heap [] := va_S.rf
  have hlow : ∀ q : Nat, (fun _ : Nat => False) q → E.1 ≤ q := fun _ h => h.elim
  have hl : lv_has ls 3 [(0, .ref o)] := hl
  refine lv_iconst (v := 0) hx hb dX2_wetCells_0 (by decide) ?_
  refine lv_istore_n (lv' := [(1, .int 0), (0, .ref o)]) hx hb dX2_wetCells_1 rfl hl (by decide) rfl (fun ls hl => ?_)
  refine lv_iconst (v := 0) hx hb dX2_wetCells_2 (by decide) ?_
  refine lv_istore_n (lv' := [(2, .int 0), (1, .int 0), (0, .ref o)]) hx hb dX2_wetCells_3 rfl hl (by decide) rfl (fun ls hl => ?_)
  suffices lp4 : ∀ zn k4 : Nat, 0 ≤ k4 → k4 ≤ 48 → 48 < k4 + zn → ∀ ls : Array Slot, lv_has ls 3 [(0, .ref o), (1, .int (cntS (wetS zo he go) k4)), (2, .int (nI k4))] → W zp l ze (rmK 4) s zm args below meth zc s.heap [] 0 0 (MQ below (vp_Si (fun zx => zx = cntS (wetS zo he go) 48)) args s 0 0 (fun _ => False)) (F0 zm 4 ls []) by
    have el_1 : (0 : Int32) = cntS (wetS zo he go) 0 := by simp [cntS, cntS, bI]
    have el_2 : (0 : Int32) = nI 0 := rfl
    exact lp4 (48 + 1 - 0) 0 (by omega) (by omega) (by omega)  ls (lv_sub hl [2, 1, 0] (show ([(0, .ref o), (1, .int 0), (2, .int 0)] : List (Nat × Value)) = [(0, .ref o), (1, .int (cntS (wetS zo he go) 0)), (2, .int (nI 0))] by rw [← el_1, ← el_2]))
  intro zn
  induction zn with
  | zero => exact fun k4 h1 h2 h3 => absurd h3 (by omega)
  | succ zn ih4 =>
    intro k4 hlo4 hhi4 hn4  ls hl
    refine lv_iload_n hx hb dX2_wetCells_4 rfl (lv_at hl 2 rfl) ?_
    refine lv_bipush (v := 48) hx hb dX2_wetCells_5 (by decide) ?_
    refine lv_icmp_ge (tgt := 27) hx hb dX2_wetCells_7 (by decide) (fun c_3 => ?_) (fun c_3 => ?_)
    · skip
      have c_3 : 48 ≤ k4 := (nI_leI (a := 48) (b := k4) (by omega) (by omega)).mp c_3
      have hk9 : 48 = k4 := by omega
      subst hk9
      refine lv_iload_n hx hb dX2_wetCells_27 rfl (lv_at hl 1 rfl) ?_
      exact retR hx hb hr (rfl) hlocks dX2_wetCells_28 (rfl)
    · skip
      have c_3 : ¬ 48 ≤ k4 := fun h9 => c_3 ((nI_leI (a := 48) (b := k4) (by omega) (by omega)).mpr h9)
      refine lv_aload_n hx hb dX2_wetCells_10 rfl (lv_at hl 0 rfl) ?_
      refine lv_iload_n hx hb dX2_wetCells_11 rfl (lv_at hl 2 rfl) ?_
      refine cRV (As := [.int (nI k4)]) (rest := []) hx hb hml hown hts (c_X2_isWet l G E cI cZ k4 o a_zo a_he a_go fs_o h_o_zo h_o_go h_o_he zo he go (by first | assumption | omega | simp [cntS, bI, c_3])) k_22_3 cal_X2_isWet ⟨Nat.le_of_ble_eq_true rfl, Nat.le_of_ble_eq_true rfl⟩ hE hlow hS hK [0, 1] rfl hP [0, 1, 2, 3] rfl 0 2 rfl rfl rfl hl.1 rfl (Nat.le_of_ble_eq_true rfl) dX2_wetCells_12 ⟨Nat.zero_le _, Nat.zero_le _⟩ ?_
      refine lv_if_eq (tgt := 21) hx hb dX2_wetCells_15 (by decide) (fun c_4 => ?_) (fun c_4 => ?_)
      · skip
        have c_4 : (wetS zo he go k4) = false := bI_f c_4
        refine lv_iinc (v := nI (k4 + 1)) (lv' := [(2, .int (nI (k4 + 1))), (0, .ref o), (1, .int (cntS (wetS zo he go) k4))]) hx hb dX2_wetCells_21 hl (k := 2) rfl (nI_add _ _) (by decide) rfl (fun ls hl => ?_)
        refine lv_goto (tgt := 4) hx hb dX2_wetCells_24 (by decide) ?_
        have el_5 : (cntS (wetS zo he go) k4 : Int32) = cntS (wetS zo he go) (k4 + 1) := by simp [cntS, cntS, bI, c_3, c_4]
        exact ih4 (k4 + 1) (by omega) (by omega) (by omega)  ls (lv_sub hl [1, 2, 0] (show ([(0, .ref o), (1, .int (cntS (wetS zo he go) k4)), (2, .int (nI (k4 + 1)))] : List (Nat × Value)) = [(0, .ref o), (1, .int (cntS (wetS zo he go) (k4 + 1))), (2, .int (nI (k4 + 1)))] by rw [← el_5]))
      · skip
        have c_4 : (wetS zo he go k4) = true := bI_t c_4
        refine lv_iinc (v := (cntS (wetS zo he go) k4 + 1)) (lv' := [(1, .int (cntS (wetS zo he go) k4 + 1)), (0, .ref o), (2, .int (nI k4))]) hx hb dX2_wetCells_18 hl (k := 1) rfl (rfl) (by decide) rfl (fun ls hl => ?_)
        refine lv_iinc (v := nI (k4 + 1)) (lv' := [(2, .int (nI (k4 + 1))), (1, .int (cntS (wetS zo he go) k4 + 1)), (0, .ref o)]) hx hb dX2_wetCells_21 hl (k := 2) rfl (nI_add _ _) (by decide) rfl (fun ls hl => ?_)
        refine lv_goto (tgt := 4) hx hb dX2_wetCells_24 (by decide) ?_
        have el_6 : ((cntS (wetS zo he go) k4 + 1) : Int32) = cntS (wetS zo he go) (k4 + 1) := by simp [cntS, cntS, bI, c_3, c_4]
        exact ih4 (k4 + 1) (by omega) (by omega) (by omega)  ls (lv_sub hl [2, 1, 0] (show ([(0, .ref o), (1, .int (cntS (wetS zo he go) k4 + 1)), (2, .int (nI (k4 + 1)))] : List (Nat × Value)) = [(0, .ref o), (1, .int (cntS (wetS zo he go) (k4 + 1))), (2, .int (nI (k4 + 1)))] by rw [← el_6]))
