theorem nle_gt {x : Int32} (h : ¬ x ≤ 0) : 0 < x := by
  rw [Int32.le_iff_toInt_le] at h
  rw [Int32.lt_iff_toInt_lt]
  omega
theorem le_ngt {x : Int32} (h : x ≤ 0) : ¬ 0 < x := by
  rw [Int32.le_iff_toInt_le] at h
  rw [Int32.lt_iff_toInt_lt]
  omega
theorem cal_X7_in : calS yX7_in cX7_in 3 (some .boolean) 3 := ⟨k_8_0, k_1_5, k_7_23, by decide +kernel⟩
set_option maxHeartbeats 4000000 in
set_option maxRecDepth 100000 in
theorem c_X7_in (l : Launch) (G : va_G) (E : EvT) (cI cZ : ClassId) (v : Int32) (lw : Int32) (hg : Int32) : cR l G E yX7_in cX7_in 3 (some .boolean) 1 [(cI, .int), (cZ, .boolean)] [.int v, .int lw, .int hg] [] (bI (wiB v lw hg)) := by
  refine mkR (by decide) (Nat.le_of_ble_eq_true rfl) ?_
  intro zp ze s zm args below meth zc hx hb hr hml hown hts hlocks hE hP hK ls hl
  have hS : va_S (fun _ => False) s.heap s.heap [] := va_S.rf
  have hlow : ∀ q : Nat, (fun _ : Nat => False) q → E.1 ≤ q := fun _ h => h.elim
  have hl : lv_has ls 3 [(0, .int v), (1, .int lw), (2, .int hg)] := hl
  refine lv_iload_n hx hb dX7_in_0 rfl (lv_at hl 0 rfl) ?_
  refine lv_iload_n hx hb dX7_in_1 rfl (lv_at hl 1 rfl) ?_
  refine lv_icmp_lt (tgt := 14) hx hb dX7_in_2 (by decide) (fun c_1 => ?_) (fun c_1 => ?_)
  · skip
    refine lv_iconst (v := 0) hx hb dX7_in_14 (by decide) ?_
    exact retR hx hb hr (rfl) hlocks dX7_in_15 (by simp [wiB, bI, c_1])
  · skip
    refine lv_iload_n hx hb dX7_in_5 rfl (lv_at hl 0 rfl) ?_
    refine lv_iload_n hx hb dX7_in_6 rfl (lv_at hl 2 rfl) ?_
    refine lv_icmp_gt (tgt := 14) hx hb dX7_in_7 (by decide) (fun c_2 => ?_) (fun c_2 => ?_)
    · skip
      refine lv_iconst (v := 0) hx hb dX7_in_14 (by decide) ?_
      exact retR hx hb hr (rfl) hlocks dX7_in_15 (by simp [wiB, bI, c_1, c_2])
    · skip
      refine lv_iconst (v := 1) hx hb dX7_in_10 (by decide) ?_
      refine lv_goto (tgt := 15) hx hb dX7_in_11 (by decide) ?_
      exact retR hx hb hr (rfl) hlocks dX7_in_15 (by simp [wiB, bI, c_1, c_2])
theorem cal_X7_isCell : calS yX7_isCell cX7_isCell 2 (some .boolean) 2 := ⟨k_17_6, k_1_5, k_17_5, by decide +kernel⟩
set_option maxHeartbeats 4000000 in
set_option maxRecDepth 100000 in
theorem c_X7_isCell (l : Launch) (G : va_G) (E : EvT) (cI cZ : ClassId) (x : Int32) (y : Int32) : cR l G E yX7_isCell cX7_isCell 2 (some .boolean) 2 [(cI, .int), (cZ, .boolean)] [.int x, .int y] [] (bI (inC x y)) := by
  refine mkR (by decide) (Nat.le_of_ble_eq_true rfl) ?_
  intro zp ze s zm args below meth zc hx hb hr hml hown hts hlocks hE hP hK ls hl
  have hS : va_S (fun _ => False) s.heap s.heap [] := va_S.rf
  have hlow : ∀ q : Nat, (fun _ : Nat => False) q → E.1 ≤ q := fun _ h => h.elim
  have hl : lv_has ls 2 [(0, .int x), (1, .int y)] := hl
  refine lv_iload_n hx hb dX7_isCell_0 rfl (lv_at hl 0 rfl) ?_
  refine lv_iconst (v := 0) hx hb dX7_isCell_1 (by decide) ?_
  refine lv_bipush (v := 7) hx hb dX7_isCell_2 (by decide) ?_
  refine cRS (As := [.int x, .int 0, .int 7]) (rest := []) hx hb hml hown hts (c_X7_in l G E cI cZ x 0 7) k_7_22 cal_X7_in ⟨Nat.le_of_ble_eq_true rfl, Nat.le_of_ble_eq_true rfl⟩ hE hlow hS hK [0, 1] rfl hP [] rfl rfl hl.1 rfl (Nat.le_of_ble_eq_true rfl) dX7_isCell_4 ⟨Nat.zero_le _, Nat.zero_le _⟩ ?_
  refine lv_if_eq (tgt := 23) hx hb dX7_isCell_7 (by decide) (fun c_1 => ?_) (fun c_1 => ?_)
  · skip
    have c_1 : (wiB x 0 7) = false := bI_f c_1
    refine lv_iconst (v := 0) hx hb dX7_isCell_23 (by decide) ?_
    exact retR hx hb hr (rfl) hlocks dX7_isCell_24 (by simp [inC, bI, c_1])
  · skip
    have c_1 : (wiB x 0 7) = true := bI_t c_1
    refine lv_iload_n hx hb dX7_isCell_10 rfl (lv_at hl 1 rfl) ?_
    refine lv_iconst (v := 0) hx hb dX7_isCell_11 (by decide) ?_
    refine lv_iconst (v := 5) hx hb dX7_isCell_12 (by decide) ?_
    refine cRS (As := [.int y, .int 0, .int 5]) (rest := []) hx hb hml hown hts (c_X7_in l G E cI cZ y 0 5) k_7_22 cal_X7_in ⟨Nat.le_of_ble_eq_true rfl, Nat.le_of_ble_eq_true rfl⟩ hE hlow hS hK [0, 1] rfl hP [] rfl rfl hl.1 rfl (Nat.le_of_ble_eq_true rfl) dX7_isCell_13 ⟨Nat.zero_le _, Nat.zero_le _⟩ ?_
    refine lv_if_eq (tgt := 23) hx hb dX7_isCell_16 (by decide) (fun c_2 => ?_) (fun c_2 => ?_)
    · skip
      have c_2 : (wiB y 0 5) = false := bI_f c_2
      refine lv_iconst (v := 0) hx hb dX7_isCell_23 (by decide) ?_
      exact retR hx hb hr (rfl) hlocks dX7_isCell_24 (by simp [inC, bI, c_1, c_2])
    · skip
      have c_2 : (wiB y 0 5) = true := bI_t c_2
      refine lv_iconst (v := 1) hx hb dX7_isCell_19 (by decide) ?_
      refine lv_goto (tgt := 24) hx hb dX7_isCell_20 (by decide) ?_
      exact retR hx hb hr (rfl) hlocks dX7_isCell_24 (by simp [inC, bI, c_1, c_2])
theorem cal_X7_isEarth : calV yX7_isEarth cX7_isEarth 2 (some .boolean) 1 := ⟨k_16_4, k_1_5, k_16_2, k_16_3, by decide +kernel⟩
set_option maxHeartbeats 4000000 in
set_option maxRecDepth 100000 in
theorem c_X7_isEarth (l : Launch) (G : va_G) (E : EvT) (cI cZ : ClassId) (zo : Nat → Int32) (he : Nat → Int32) (go : Nat → Int32) (le : Nat → Int32) (hd : Nat → Int32) (gn : Nat → Int32) (la : Int32) (c : Nat) (o : Nat) (a_S : Nat) (fs_o : List Value) (h_o_S : fs_o[2]? = some (.ref a_S)) (hc : c < 48) : cR l G E yX7_isEarth cX7_isEarth 2 (some .boolean) 1 [(cI, .int), (cZ, .boolean)] [.ref o, .int (nI c)] [(o, .inr (7, fs_o)), (a_S, .inl (cI, 163, .inl (ms zo he go le hd gn la)))] (bI (isES zo go c)) := by
  refine mkR (by decide) (Nat.le_of_ble_eq_true rfl) ?_
  intro zp ze s zm args below meth zc hx hb hr hml hown hts hlocks hE hP hK ls hl
  have hS : va_S (fun _ => False) s.heap s.heap [] := va_S.rf
  have hlow : ∀ q : Nat, (fun _ : Nat => False) q → E.1 ≤ q := fun _ h => h.elim
  have hl : lv_has ls 2 [(0, .ref o), (1, .int (nI c))] := hl
  refine lv_aload_n hx hb dX7_isEarth_0 rfl (lv_at hl 0 rfl) ?_
  refine va_get (D := G) (ci := 7) (v := .ref a_S) (C := RX7) (T := TX7) (N := 38) hx hb hts inlX7 hown hK hP 0 rfl rfl 2 (by decide) (hts (.fieldLink RX7 7 "EarthBanksModel" "s" "[I") k_6_2) (fun _ h9 => h9) h_o_S dX7_isEarth_1 ?_
  refine lv_iconst (v := 0) hx hb dX7_isEarth_4 (by decide) ?_
  refine lv_iload_n hx hb dX7_isEarth_5 rfl (lv_at hl 1 rfl) ?_
  refine lv_iadd hx hb dX7_isEarth_6 ?_
  refine top_eq (y := nI (0 + c)) (nI_add _ _) ?_
  refine ialdN (j := (0 + c)) hx hb hK hP 1 0 rfl rfl (by omega) (by decide) dX7_isEarth_7 ?_
  refine top_eq (y := (mzS zo c)) (ms_z (c := c) (by omega) (by omega)) ?_
  refine lv_bipush (v := (-9)) hx hb dX7_isEarth_8 (by decide) ?_
  refine lv_icmp_eq (tgt := 29) hx hb dX7_isEarth_10 (by decide) (fun c_1 => ?_) (fun c_1 => ?_)
  · skip
    have c_1 : isAirS zo c = true := mz_t c_1
    refine lv_iconst (v := 0) hx hb dX7_isEarth_29 (by decide) ?_
    exact retR hx hb hr (rfl) hlocks dX7_isEarth_30 (by simp [isES, bI, c_1])
  · skip
    have c_1 : isAirS zo c = false := mz_f c_1
    refine lv_aload_n hx hb dX7_isEarth_13 rfl (lv_at hl 0 rfl) ?_
    refine va_get (D := G) (ci := 7) (v := .ref a_S) (C := RX7) (T := TX7) (N := 38) hx hb hts inlX7 hown hK hP 0 rfl rfl 2 (by decide) (hts (.fieldLink RX7 7 "EarthBanksModel" "s" "[I") k_6_2) (fun _ h9 => h9) h_o_S dX7_isEarth_14 ?_
    refine lv_bipush (v := 96) hx hb dX7_isEarth_17 (by decide) ?_
    refine lv_iload_n hx hb dX7_isEarth_19 rfl (lv_at hl 1 rfl) ?_
    refine lv_iadd hx hb dX7_isEarth_20 ?_
    refine top_eq (y := nI (96 + c)) (nI_add _ _) ?_
    refine ialdN (j := (96 + c)) hx hb hK hP 1 0 rfl rfl (by omega) (by decide) dX7_isEarth_21 ?_
    refine top_eq (y := (go c)) (ms_g (c := c) (by omega) (by omega)) ?_
    refine lv_if_ne (tgt := 29) hx hb dX7_isEarth_22 (by decide) (fun c_2 => ?_) (fun c_2 => ?_)
    · skip
      refine lv_iconst (v := 0) hx hb dX7_isEarth_29 (by decide) ?_
      exact retR hx hb hr (rfl) hlocks dX7_isEarth_30 (by simp [isES, bI, c_1, c_2])
    · skip
      refine lv_iconst (v := 1) hx hb dX7_isEarth_25 (by decide) ?_
      refine lv_goto (tgt := 30) hx hb dX7_isEarth_26 (by decide) ?_
      exact retR hx hb hr (rfl) hlocks dX7_isEarth_30 (by simp [isES, bI, c_1, c_2])
theorem cal_X7_pushOf : calV yX7_pushOf cX7_pushOf 3 (some .int) 1 := ⟨k_17_10, k_1_5, k_17_8, k_17_9, by decide +kernel⟩
set_option maxHeartbeats 4000000 in
set_option maxRecDepth 100000 in
theorem c_X7_pushOf (l : Launch) (G : va_G) (E : EvT) (cI cZ : ClassId) (zo : Nat → Int32) (he : Nat → Int32) (go : Nat → Int32) (le : Nat → Int32) (hd : Nat → Int32) (gn : Nat → Int32) (la : Int32) (c : Nat) (o : Nat) (a_S : Nat) (fs_o : List Value) (h_o_S : fs_o[2]? = some (.ref a_S)) (hc : c < 48) : cR l G E yX7_pushOf cX7_pushOf 3 (some .int) 1 [(cI, .int), (cZ, .boolean)] [.ref o, .int (nI c)] [(o, .inr (7, fs_o)), (a_S, .inl (cI, 163, .inl (ms zo he go le hd gn la)))] (pushS he c) := by
  refine mkR (by decide) (Nat.le_of_ble_eq_true rfl) ?_
  intro zp ze s zm args below meth zc hx hb hr hml hown hts hlocks hE hP hK ls hl
  have hS : va_S (fun _ => False) s.heap s.heap [] := va_S.rf
  have hlow : ∀ q : Nat, (fun _ : Nat => False) q → E.1 ≤ q := fun _ h => h.elim
  have hl : lv_has ls 3 [(0, .ref o), (1, .int (nI c))] := hl
  refine lv_aload_n hx hb dX7_pushOf_0 rfl (lv_at hl 0 rfl) ?_
  refine va_get (D := G) (ci := 7) (v := .ref a_S) (C := RX7) (T := TX7) (N := 38) hx hb hts inlX7 hown hK hP 0 rfl rfl 2 (by decide) (hts (.fieldLink RX7 7 "EarthBanksModel" "s" "[I") k_6_2) (fun _ h9 => h9) h_o_S dX7_pushOf_1 ?_
  refine lv_bipush (v := 48) hx hb dX7_pushOf_4 (by decide) ?_
  refine lv_iload_n hx hb dX7_pushOf_6 rfl (lv_at hl 1 rfl) ?_
  refine lv_iadd hx hb dX7_pushOf_7 ?_
  refine top_eq (y := nI (48 + c)) (nI_add _ _) ?_
  refine ialdN (j := (48 + c)) hx hb hK hP 1 0 rfl rfl (by omega) (by decide) dX7_pushOf_8 ?_
  refine top_eq (y := (he c)) (ms_h (c := c) (by omega) (by omega)) ?_
  refine lv_sipush (v := 1000) hx hb dX7_pushOf_9 (by decide) ?_
  refine lv_iload_n hx hb dX7_pushOf_12 rfl (lv_at hl 1 rfl) ?_
  refine lv_bipush (v := 8) hx hb dX7_pushOf_13 (by decide) ?_
  refine lv_idiv hx hb dX7_pushOf_15 (by decide) ?_
  refine top_eq (y := nI (c / 8)) (pk_div (a := c) (d := 8) (by omega) (by omega) (by omega)) ?_
  refine lv_imul hx hb dX7_pushOf_16 ?_
  refine top_eq (y := nI (1000 * (c / 8))) (pk_mul _ _) ?_
  refine lv_isub hx hb dX7_pushOf_17 ?_
  refine lv_istore_n (lv' := [(2, .int ((he c) - (nI (1000 * (c / 8))))), (0, .ref o), (1, .int (nI c))]) hx hb dX7_pushOf_18 rfl hl (by decide) rfl (fun ls hl => ?_)
  refine lv_iload_n hx hb dX7_pushOf_19 rfl (lv_at hl 0 rfl) ?_
  refine lv_if_ge (tgt := 27) hx hb dX7_pushOf_20 (by decide) (fun c_1 => ?_) (fun c_1 => ?_)
  · skip
    refine lv_iload_n hx hb dX7_pushOf_27 rfl (lv_at hl 0 rfl) ?_
    exact retR hx hb hr (rfl) hlocks dX7_pushOf_28 (pushM c_1)
  · skip
    refine lv_iconst (v := 0) hx hb dX7_pushOf_23 (by decide) ?_
    refine lv_goto (tgt := 28) hx hb dX7_pushOf_24 (by decide) ?_
    exact retR hx hb hr (rfl) hlocks dX7_pushOf_28 (pushM0 c_1)
theorem cal_X7_isWet : calV yX7_isWet cX7_isWet 2 (some .boolean) 1 := ⟨k_23_10, k_1_5, k_23_8, k_23_9, by decide +kernel⟩
set_option maxHeartbeats 4000000 in
set_option maxRecDepth 100000 in
theorem c_X7_isWet (l : Launch) (G : va_G) (E : EvT) (cI cZ : ClassId) (zo : Nat → Int32) (he : Nat → Int32) (go : Nat → Int32) (le : Nat → Int32) (hd : Nat → Int32) (gn : Nat → Int32) (la : Int32) (c : Nat) (o : Nat) (a_S : Nat) (fs_o : List Value) (h_o_S : fs_o[2]? = some (.ref a_S)) (hc : c < 48) : cR l G E yX7_isWet cX7_isWet 2 (some .boolean) 2 [(cI, .int), (cZ, .boolean)] [.ref o, .int (nI c)] [(o, .inr (7, fs_o)), (a_S, .inl (cI, 163, .inl (ms zo he go le hd gn la)))] (bI (wetS zo he go c)) := by
  refine mkR (by decide) (Nat.le_of_ble_eq_true rfl) ?_
  intro zp ze s zm args below meth zc hx hb hr hml hown hts hlocks hE hP hK ls hl
  have hS : va_S (fun _ => False) s.heap s.heap [] := va_S.rf
  have hlow : ∀ q : Nat, (fun _ : Nat => False) q → E.1 ≤ q := fun _ h => h.elim
  have hl : lv_has ls 2 [(0, .ref o), (1, .int (nI c))] := hl
  refine lv_aload_n hx hb dX7_isWet_0 rfl (lv_at hl 0 rfl) ?_
  refine lv_iload_n hx hb dX7_isWet_1 rfl (lv_at hl 1 rfl) ?_
  refine cRV (As := [.int (nI c)]) (rest := []) hx hb hml hown hts (c_X7_isEarth l G E cI cZ zo he go le hd gn la c o a_S fs_o h_o_S (hc)) k_16_1 cal_X7_isEarth ⟨Nat.le_of_ble_eq_true rfl, Nat.le_of_ble_eq_true rfl⟩ hE hlow hS hK [0, 1] rfl hP [0, 1] rfl 0 7 rfl rfl rfl hl.1 rfl (Nat.le_of_ble_eq_true rfl) dX7_isWet_2 ⟨Nat.zero_le _, Nat.zero_le _⟩ ?_
  refine lv_if_eq (tgt := 20) hx hb dX7_isWet_5 (by decide) (fun c_1 => ?_) (fun c_1 => ?_)
  · skip
    have c_1 : (isES zo go c) = false := bI_f c_1
    refine lv_iconst (v := 0) hx hb dX7_isWet_20 (by decide) ?_
    exact retR hx hb hr (rfl) hlocks dX7_isWet_21 (by simp [wetS, bI, c_1])
  · skip
    have c_1 : (isES zo go c) = true := bI_t c_1
    refine lv_aload_n hx hb dX7_isWet_8 rfl (lv_at hl 0 rfl) ?_
    refine lv_iload_n hx hb dX7_isWet_9 rfl (lv_at hl 1 rfl) ?_
    refine cRV (As := [.int (nI c)]) (rest := []) hx hb hml hown hts (c_X7_pushOf l G E cI cZ zo he go le hd gn la c o a_S fs_o h_o_S (hc)) k_17_7 cal_X7_pushOf ⟨Nat.le_of_ble_eq_true rfl, Nat.le_of_ble_eq_true rfl⟩ hE hlow hS hK [0, 1] rfl hP [0, 1] rfl 0 7 rfl rfl rfl hl.1 rfl (Nat.le_of_ble_eq_true rfl) dX7_isWet_10 ⟨Nat.zero_le _, Nat.zero_le _⟩ ?_
    refine lv_if_le (tgt := 20) hx hb dX7_isWet_13 (by decide) (fun c_2 => ?_) (fun c_2 => ?_)
    · skip
      refine lv_iconst (v := 0) hx hb dX7_isWet_20 (by decide) ?_
      exact retR hx hb hr (rfl) hlocks dX7_isWet_21 (by simp [wetS, bI, c_1, c_2, le_ngt c_2])
    · skip
      refine lv_iconst (v := 1) hx hb dX7_isWet_16 (by decide) ?_
      refine lv_goto (tgt := 21) hx hb dX7_isWet_17 (by decide) ?_
      exact retR hx hb hr (rfl) hlocks dX7_isWet_21 (by simp [wetS, bI, c_1, c_2, nle_gt c_2])
theorem cal_X7_holdOf : calV yX7_holdOf cX7_holdOf 2 (some .int) 1 := ⟨k_19_22, k_1_5, k_19_20, k_19_21, by decide +kernel⟩
set_option maxHeartbeats 4000000 in
set_option maxRecDepth 100000 in
theorem c_X7_holdOf (l : Launch) (G : va_G) (E : EvT) (cI cZ : ClassId) (zo : Nat → Int32) (he : Nat → Int32) (go : Nat → Int32) (le : Nat → Int32) (hd : Nat → Int32) (gn : Nat → Int32) (la : Int32) (c : Nat) (o : Nat) (a_S : Nat) (fs_o : List Value) (h_o_S : fs_o[2]? = some (.ref a_S)) (hc : c < 48) (hna : isAirS zo c = false) : cR l G E yX7_holdOf cX7_holdOf 2 (some .int) 1 [(cI, .int), (cZ, .boolean)] [.ref o, .int (nI c)] [(o, .inr (7, fs_o)), (a_S, .inl (cI, 163, .inl (ms zo he go le hd gn la)))] (atZ zo hd c) := by
  refine mkR (by decide) (Nat.le_of_ble_eq_true rfl) ?_
  intro zp ze s zm args below meth zc hx hb hr hml hown hts hlocks hE hP hK ls hl
  have hS : va_S (fun _ => False) s.heap s.heap [] := va_S.rf
  have hlow : ∀ q : Nat, (fun _ : Nat => False) q → E.1 ≤ q := fun _ h => h.elim
  have hl : lv_has ls 2 [(0, .ref o), (1, .int (nI c))] := hl
  obtain ⟨z, hz6, hmz, hze, hzc⟩ := mz_n hna
  refine lv_aload_n hx hb dX7_holdOf_0 rfl (lv_at hl 0 rfl) ?_
  refine va_get (D := G) (ci := 7) (v := .ref a_S) (C := RX7) (T := TX7) (N := 38) hx hb hts inlX7 hown hK hP 0 rfl rfl 2 (by decide) (hts (.fieldLink RX7 7 "EarthBanksModel" "s" "[I") k_6_2) (fun _ h9 => h9) h_o_S dX7_holdOf_1 ?_
  refine lv_sipush (v := 150) hx hb dX7_holdOf_4 (by decide) ?_
  refine lv_aload_n hx hb dX7_holdOf_7 rfl (lv_at hl 0 rfl) ?_
  refine va_get (D := G) (ci := 7) (v := .ref a_S) (C := RX7) (T := TX7) (N := 38) hx hb hts inlX7 hown hK hP 0 rfl rfl 2 (by decide) (hts (.fieldLink RX7 7 "EarthBanksModel" "s" "[I") k_6_2) (fun _ h9 => h9) h_o_S dX7_holdOf_8 ?_
  refine lv_iconst (v := 0) hx hb dX7_holdOf_11 (by decide) ?_
  refine lv_iload_n hx hb dX7_holdOf_12 rfl (lv_at hl 1 rfl) ?_
  refine lv_iadd hx hb dX7_holdOf_13 ?_
  refine top_eq (y := nI (0 + c)) (nI_add _ _) ?_
  refine ialdN (j := (0 + c)) hx hb hK hP 1 0 rfl rfl (by omega) (by decide) dX7_holdOf_14 ?_
  refine top_eq (y := nI z) ((ms_z (c := c) (by omega) (by omega)).trans hmz) ?_
  refine lv_iadd hx hb dX7_holdOf_15 ?_
  refine top_eq (y := nI (150 + z)) (nI_add _ _) ?_
  refine ialdN (j := (150 + z)) hx hb hK hP 1 0 rfl rfl (by omega) (by decide) dX7_holdOf_16 ?_
  refine top_eq (y := (hd z)) (ms_d (c := z) (by omega) (by omega)) ?_
  exact retR hx hb hr (rfl) hlocks dX7_holdOf_17 (by rw [atZ, hzc])
theorem cal_X7_earth : calV yX7_earth cX7_earth 3 (some .int) 0 := ⟨k_16_0, k_1_5, k_15_22, k_15_23, by decide +kernel⟩
set_option maxHeartbeats 4000000 in
set_option maxRecDepth 100000 in
theorem c_X7_earth (l : Launch) (G : va_G) (E : EvT) (cI cZ : ClassId) (zo : Nat → Int32) (he : Nat → Int32) (go : Nat → Int32) (le : Nat → Int32) (hd : Nat → Int32) (gn : Nat → Int32) (la : Int32) (o : Nat) (a_S : Nat) (fs_o : List Value) (h_o_S : fs_o[2]? = some (.ref a_S)) : cR l G E yX7_earth cX7_earth 3 (some .int) 2 [(cI, .int), (cZ, .boolean)] [.ref o] [(o, .inr (7, fs_o)), (a_S, .inl (cI, 163, .inl (ms zo he go le hd gn la)))] (cntS (isES zo go) 48) := by
  refine mkR (by decide) (Nat.le_of_ble_eq_true rfl) ?_
  intro zp ze s zm args below meth zc hx hb hr hml hown hts hlocks hE hP hK ls hl
  have hS : va_S (fun _ => False) s.heap s.heap [] := va_S.rf
  have hlow : ∀ q : Nat, (fun _ : Nat => False) q → E.1 ≤ q := fun _ h => h.elim
  have hl : lv_has ls 3 [(0, .ref o)] := hl
  refine lv_iconst (v := 0) hx hb dX7_earth_0 (by decide) ?_
  refine lv_istore_n (lv' := [(1, .int 0), (0, .ref o)]) hx hb dX7_earth_1 rfl hl (by decide) rfl (fun ls hl => ?_)
  refine lv_iconst (v := 0) hx hb dX7_earth_2 (by decide) ?_
  refine lv_istore_n (lv' := [(2, .int 0), (1, .int 0), (0, .ref o)]) hx hb dX7_earth_3 rfl hl (by decide) rfl (fun ls hl => ?_)
  suffices lp4 : ∀ zn k4 : Nat, 0 ≤ k4 → k4 ≤ 48 → 48 < k4 + zn → ∀ ls : Array Slot, lv_has ls 3 [(0, .ref o), (1, .int (cntS (isES zo go) k4)), (2, .int (nI k4))] → W zp l ze (rmK 2) s zm args below meth zc s.heap [] 0 0 (MQ below (vp_Si (fun zx => zx = cntS (isES zo go) 48)) args s 0 0 (fun _ => False)) (F0 zm 4 ls []) by
    have el_1 : (0 : Int32) = cntS (isES zo go) 0 := by simp [cntS, bI]
    have el_2 : (0 : Int32) = nI 0 := rfl
    exact lp4 (48 + 1 - 0) 0 (by omega) (by omega) (by omega)  ls (lv_sub hl [2, 1, 0] (show ([(0, .ref o), (1, .int 0), (2, .int 0)] : List (Nat × Value)) = [(0, .ref o), (1, .int (cntS (isES zo go) 0)), (2, .int (nI 0))] by rw [← el_1, ← el_2]))
  intro zn
  induction zn with
  | zero => exact fun k4 h1 h2 h3 => absurd h3 (by omega)
  | succ zn ih4 =>
    intro k4 hlo4 hhi4 hn4  ls hl
    refine lv_iload_n hx hb dX7_earth_4 rfl (lv_at hl 2 rfl) ?_
    refine lv_bipush (v := 48) hx hb dX7_earth_5 (by decide) ?_
    refine lv_icmp_ge (tgt := 32) hx hb dX7_earth_7 (by decide) (fun c_3 => ?_) (fun c_3 => ?_)
    · skip
      have c_3 : 48 ≤ k4 := (nI_leI (a := 48) (b := k4) (by omega) (by omega)).mp c_3
      have hk9 : 48 = k4 := by omega
      subst hk9
      refine lv_iload_n hx hb dX7_earth_32 rfl (lv_at hl 1 rfl) ?_
      exact retR hx hb hr (rfl) hlocks dX7_earth_33 (rfl)
    · skip
      have c_3 : ¬ 48 ≤ k4 := fun h9 => c_3 ((nI_leI (a := 48) (b := k4) (by omega) (by omega)).mpr h9)
      refine lv_iload_n hx hb dX7_earth_10 rfl (lv_at hl 1 rfl) ?_
      refine lv_aload_n hx hb dX7_earth_11 rfl (lv_at hl 0 rfl) ?_
      refine lv_iload_n hx hb dX7_earth_12 rfl (lv_at hl 2 rfl) ?_
      refine cRV (As := [.int (nI k4)]) (rest := [.int (cntS (isES zo go) k4)]) hx hb hml hown hts (c_X7_isEarth l G E cI cZ zo he go le hd gn la k4 o a_S fs_o h_o_S (by first | assumption | omega | simp [bI, c_3])) k_16_1 cal_X7_isEarth ⟨Nat.le_of_ble_eq_true rfl, Nat.le_of_ble_eq_true rfl⟩ hE hlow hS hK [0, 1] rfl hP [0, 1] rfl 0 7 rfl rfl rfl hl.1 rfl (Nat.le_of_ble_eq_true rfl) dX7_earth_13 ⟨Nat.zero_le _, Nat.zero_le _⟩ ?_
      refine lv_if_eq (tgt := 23) hx hb dX7_earth_16 (by decide) (fun c_4 => ?_) (fun c_4 => ?_)
      · skip
        have c_4 : (isES zo go k4) = false := bI_f c_4
        refine lv_iconst (v := 0) hx hb dX7_earth_23 (by decide) ?_
        refine lv_iadd hx hb dX7_earth_24 ?_
        refine lv_istore_n (lv' := [(1, .int ((cntS (isES zo go) k4) + 0)), (0, .ref o), (2, .int (nI k4))]) hx hb dX7_earth_25 rfl hl (by decide) rfl (fun ls hl => ?_)
        refine lv_iinc (v := nI (k4 + 1)) (lv' := [(2, .int (nI (k4 + 1))), (1, .int ((cntS (isES zo go) k4) + 0)), (0, .ref o)]) hx hb dX7_earth_26 hl (k := 2) rfl (nI_add _ _) (by decide) rfl (fun ls hl => ?_)
        refine lv_goto (tgt := 4) hx hb dX7_earth_29 (by decide) ?_
        have el_5 : (((cntS (isES zo go) k4) + 0) : Int32) = cntS (isES zo go) (k4 + 1) := by simp [cntS, bI, c_3, c_4]
        exact ih4 (k4 + 1) (by omega) (by omega) (by omega)  ls (lv_sub hl [2, 1, 0] (show ([(0, .ref o), (1, .int ((cntS (isES zo go) k4) + 0)), (2, .int (nI (k4 + 1)))] : List (Nat × Value)) = [(0, .ref o), (1, .int (cntS (isES zo go) (k4 + 1))), (2, .int (nI (k4 + 1)))] by rw [← el_5]))
      · skip
        have c_4 : (isES zo go k4) = true := bI_t c_4
        refine lv_iconst (v := 1) hx hb dX7_earth_19 (by decide) ?_
        refine lv_goto (tgt := 24) hx hb dX7_earth_20 (by decide) ?_
        refine lv_iadd hx hb dX7_earth_24 ?_
        refine lv_istore_n (lv' := [(1, .int ((cntS (isES zo go) k4) + 1)), (0, .ref o), (2, .int (nI k4))]) hx hb dX7_earth_25 rfl hl (by decide) rfl (fun ls hl => ?_)
        refine lv_iinc (v := nI (k4 + 1)) (lv' := [(2, .int (nI (k4 + 1))), (1, .int ((cntS (isES zo go) k4) + 1)), (0, .ref o)]) hx hb dX7_earth_26 hl (k := 2) rfl (nI_add _ _) (by decide) rfl (fun ls hl => ?_)
        refine lv_goto (tgt := 4) hx hb dX7_earth_29 (by decide) ?_
        have el_6 : (((cntS (isES zo go) k4) + 1) : Int32) = cntS (isES zo go) (k4 + 1) := by simp [cntS, bI, c_3, c_4]
        exact ih4 (k4 + 1) (by omega) (by omega) (by omega)  ls (lv_sub hl [2, 1, 0] (show ([(0, .ref o), (1, .int ((cntS (isES zo go) k4) + 1)), (2, .int (nI (k4 + 1)))] : List (Nat × Value)) = [(0, .ref o), (1, .int (cntS (isES zo go) (k4 + 1))), (2, .int (nI (k4 + 1)))] by rw [← el_6]))
theorem cal_X7_wet : calV yX7_wet cX7_wet 3 (some .int) 0 := ⟨k_23_6, k_1_5, k_23_4, k_23_5, by decide +kernel⟩
set_option maxHeartbeats 4000000 in
set_option maxRecDepth 100000 in
theorem c_X7_wet (l : Launch) (G : va_G) (E : EvT) (cI cZ : ClassId) (zo : Nat → Int32) (he : Nat → Int32) (go : Nat → Int32) (le : Nat → Int32) (hd : Nat → Int32) (gn : Nat → Int32) (la : Int32) (o : Nat) (a_S : Nat) (fs_o : List Value) (h_o_S : fs_o[2]? = some (.ref a_S)) : cR l G E yX7_wet cX7_wet 3 (some .int) 3 [(cI, .int), (cZ, .boolean)] [.ref o] [(o, .inr (7, fs_o)), (a_S, .inl (cI, 163, .inl (ms zo he go le hd gn la)))] (cntS (wetS zo he go) 48) := by
  refine mkR (by decide) (Nat.le_of_ble_eq_true rfl) ?_
  intro zp ze s zm args below meth zc hx hb hr hml hown hts hlocks hE hP hK ls hl
  have hS : va_S (fun _ => False) s.heap s.heap [] := va_S.rf
  have hlow : ∀ q : Nat, (fun _ : Nat => False) q → E.1 ≤ q := fun _ h => h.elim
  have hl : lv_has ls 3 [(0, .ref o)] := hl
  refine lv_iconst (v := 0) hx hb dX7_wet_0 (by decide) ?_
  refine lv_istore_n (lv' := [(1, .int 0), (0, .ref o)]) hx hb dX7_wet_1 rfl hl (by decide) rfl (fun ls hl => ?_)
  refine lv_iconst (v := 0) hx hb dX7_wet_2 (by decide) ?_
  refine lv_istore_n (lv' := [(2, .int 0), (1, .int 0), (0, .ref o)]) hx hb dX7_wet_3 rfl hl (by decide) rfl (fun ls hl => ?_)
  suffices lp4 : ∀ zn k4 : Nat, 0 ≤ k4 → k4 ≤ 48 → 48 < k4 + zn → ∀ ls : Array Slot, lv_has ls 3 [(0, .ref o), (1, .int (cntS (wetS zo he go) k4)), (2, .int (nI k4))] → W zp l ze (rmK 3) s zm args below meth zc s.heap [] 0 0 (MQ below (vp_Si (fun zx => zx = cntS (wetS zo he go) 48)) args s 0 0 (fun _ => False)) (F0 zm 4 ls []) by
    have el_1 : (0 : Int32) = cntS (wetS zo he go) 0 := by simp [cntS, bI]
    have el_2 : (0 : Int32) = nI 0 := rfl
    exact lp4 (48 + 1 - 0) 0 (by omega) (by omega) (by omega)  ls (lv_sub hl [2, 1, 0] (show ([(0, .ref o), (1, .int 0), (2, .int 0)] : List (Nat × Value)) = [(0, .ref o), (1, .int (cntS (wetS zo he go) 0)), (2, .int (nI 0))] by rw [← el_1, ← el_2]))
  intro zn
  induction zn with
  | zero => exact fun k4 h1 h2 h3 => absurd h3 (by omega)
  | succ zn ih4 =>
    intro k4 hlo4 hhi4 hn4  ls hl
    refine lv_iload_n hx hb dX7_wet_4 rfl (lv_at hl 2 rfl) ?_
    refine lv_bipush (v := 48) hx hb dX7_wet_5 (by decide) ?_
    refine lv_icmp_ge (tgt := 32) hx hb dX7_wet_7 (by decide) (fun c_3 => ?_) (fun c_3 => ?_)
    · skip
      have c_3 : 48 ≤ k4 := (nI_leI (a := 48) (b := k4) (by omega) (by omega)).mp c_3
      have hk9 : 48 = k4 := by omega
      subst hk9
      refine lv_iload_n hx hb dX7_wet_32 rfl (lv_at hl 1 rfl) ?_
      exact retR hx hb hr (rfl) hlocks dX7_wet_33 (rfl)
    · skip
      have c_3 : ¬ 48 ≤ k4 := fun h9 => c_3 ((nI_leI (a := 48) (b := k4) (by omega) (by omega)).mpr h9)
      refine lv_iload_n hx hb dX7_wet_10 rfl (lv_at hl 1 rfl) ?_
      refine lv_aload_n hx hb dX7_wet_11 rfl (lv_at hl 0 rfl) ?_
      refine lv_iload_n hx hb dX7_wet_12 rfl (lv_at hl 2 rfl) ?_
      refine cRV (As := [.int (nI k4)]) (rest := [.int (cntS (wetS zo he go) k4)]) hx hb hml hown hts (c_X7_isWet l G E cI cZ zo he go le hd gn la k4 o a_S fs_o h_o_S (by first | assumption | omega | simp [bI, c_3])) k_23_7 cal_X7_isWet ⟨Nat.le_of_ble_eq_true rfl, Nat.le_of_ble_eq_true rfl⟩ hE hlow hS hK [0, 1] rfl hP [0, 1] rfl 0 7 rfl rfl rfl hl.1 rfl (Nat.le_of_ble_eq_true rfl) dX7_wet_13 ⟨Nat.zero_le _, Nat.zero_le _⟩ ?_
      refine lv_if_eq (tgt := 23) hx hb dX7_wet_16 (by decide) (fun c_4 => ?_) (fun c_4 => ?_)
      · skip
        have c_4 : (wetS zo he go k4) = false := bI_f c_4
        refine lv_iconst (v := 0) hx hb dX7_wet_23 (by decide) ?_
        refine lv_iadd hx hb dX7_wet_24 ?_
        refine lv_istore_n (lv' := [(1, .int ((cntS (wetS zo he go) k4) + 0)), (0, .ref o), (2, .int (nI k4))]) hx hb dX7_wet_25 rfl hl (by decide) rfl (fun ls hl => ?_)
        refine lv_iinc (v := nI (k4 + 1)) (lv' := [(2, .int (nI (k4 + 1))), (1, .int ((cntS (wetS zo he go) k4) + 0)), (0, .ref o)]) hx hb dX7_wet_26 hl (k := 2) rfl (nI_add _ _) (by decide) rfl (fun ls hl => ?_)
        refine lv_goto (tgt := 4) hx hb dX7_wet_29 (by decide) ?_
        have el_5 : (((cntS (wetS zo he go) k4) + 0) : Int32) = cntS (wetS zo he go) (k4 + 1) := by simp [cntS, bI, c_3, c_4]
        exact ih4 (k4 + 1) (by omega) (by omega) (by omega)  ls (lv_sub hl [2, 1, 0] (show ([(0, .ref o), (1, .int ((cntS (wetS zo he go) k4) + 0)), (2, .int (nI (k4 + 1)))] : List (Nat × Value)) = [(0, .ref o), (1, .int (cntS (wetS zo he go) (k4 + 1))), (2, .int (nI (k4 + 1)))] by rw [← el_5]))
      · skip
        have c_4 : (wetS zo he go k4) = true := bI_t c_4
        refine lv_iconst (v := 1) hx hb dX7_wet_19 (by decide) ?_
        refine lv_goto (tgt := 24) hx hb dX7_wet_20 (by decide) ?_
        refine lv_iadd hx hb dX7_wet_24 ?_
        refine lv_istore_n (lv' := [(1, .int ((cntS (wetS zo he go) k4) + 1)), (0, .ref o), (2, .int (nI k4))]) hx hb dX7_wet_25 rfl hl (by decide) rfl (fun ls hl => ?_)
        refine lv_iinc (v := nI (k4 + 1)) (lv' := [(2, .int (nI (k4 + 1))), (1, .int ((cntS (wetS zo he go) k4) + 1)), (0, .ref o)]) hx hb dX7_wet_26 hl (k := 2) rfl (nI_add _ _) (by decide) rfl (fun ls hl => ?_)
        refine lv_goto (tgt := 4) hx hb dX7_wet_29 (by decide) ?_
        have el_6 : (((cntS (wetS zo he go) k4) + 1) : Int32) = cntS (wetS zo he go) (k4 + 1) := by simp [cntS, bI, c_3, c_4]
        exact ih4 (k4 + 1) (by omega) (by omega) (by omega)  ls (lv_sub hl [2, 1, 0] (show ([(0, .ref o), (1, .int ((cntS (wetS zo he go) k4) + 1)), (2, .int (nI (k4 + 1)))] : List (Nat × Value)) = [(0, .ref o), (1, .int (cntS (wetS zo he go) (k4 + 1))), (2, .int (nI (k4 + 1)))] by rw [← el_6]))
theorem cal_X7_beside : calS yX7_beside cX7_beside 4 (some .int) 2 := ⟨k_22_22, k_1_5, k_22_21, by decide +kernel⟩
set_option maxHeartbeats 4000000 in
set_option maxRecDepth 100000 in
theorem c_X7_beside (l : Launch) (G : va_G) (E : EvT) (cI cZ : ClassId) (c : Nat) (d : Nat) (hc : c < 48) (hd : d < 4) : cR l G E yX7_beside cX7_beside 4 (some .int) 3 [(cI, .int), (cZ, .boolean)] [.int (nI c), .int (nI d)] [] (ooI (nb c (pd d))) := by
  refine mkR (by decide) (Nat.le_of_ble_eq_true rfl) ?_
  intro zp ze s zm args below meth zc hx hb hr hml hown hts hlocks hE hP hK ls hl
  have hS : va_S (fun _ => False) s.heap s.heap [] := va_S.rf
  have hlow : ∀ q : Nat, (fun _ : Nat => False) q → E.1 ≤ q := fun _ h => h.elim
  have hl : lv_has ls 4 [(0, .int (nI c)), (1, .int (nI d))] := hl
  rcases (show d = 0 ∨ d = 1 ∨ d = 2 ∨ d = 3 by omega) with hd9 | hd9 | hd9 | hd9
  · skip
    subst hd9
    have hl : lv_has ls 4 [(0, .int (nI c)), (1, .int 0)] := hl
    refine lv_iload_n hx hb dX7_beside_0 rfl (lv_at hl 0 rfl) ?_
    refine lv_bipush (v := 8) hx hb dX7_beside_1 (by decide) ?_
    refine lv_irem hx hb dX7_beside_3 (by decide) ?_
    refine top_eq (y := nI (c % 8)) (pk_rem (a := c) (d := 8) (by omega) (by omega) (by omega)) ?_
    refine lv_iload_n hx hb dX7_beside_4 rfl (lv_at hl 1 rfl) ?_
    refine lv_iconst (v := 2) hx hb dX7_beside_5 (by decide) ?_
    refine lv_icmp_ne (tgt := 13) hx hb dX7_beside_6 (by decide) (fun c_1 => ?_) (fun c_1 => ?_)
    · skip
      refine lv_iload_n hx hb dX7_beside_13 rfl (lv_at hl 1 rfl) ?_
      refine lv_iconst (v := 3) hx hb dX7_beside_14 (by decide) ?_
      refine lv_icmp_ne (tgt := 22) hx hb dX7_beside_15 (by decide) (fun c_2 => ?_) (fun c_2 => ?_)
      · skip
        refine lv_iconst (v := 0) hx hb dX7_beside_22 (by decide) ?_
        refine lv_iadd hx hb dX7_beside_23 ?_
        refine top_eq (y := nI ((c % 8) + 0)) (nI_add _ _) ?_
        refine lv_istore_n (lv' := [(2, .int (nI ((c % 8) + 0))), (0, .int (nI c)), (1, .int 0)]) hx hb dX7_beside_24 rfl hl (by decide) rfl (fun ls hl => ?_)
        refine lv_iload_n hx hb dX7_beside_25 rfl (lv_at hl 1 rfl) ?_
        refine lv_bipush (v := 8) hx hb dX7_beside_26 (by decide) ?_
        refine lv_idiv hx hb dX7_beside_28 (by decide) ?_
        refine top_eq (y := nI (c / 8)) (pk_div (a := c) (d := 8) (by omega) (by omega) (by omega)) ?_
        refine lv_iload_n hx hb dX7_beside_29 rfl (lv_at hl 2 rfl) ?_
        refine lv_if_ne (tgt := 37) hx hb dX7_beside_30 (by decide) (fun c_3 => ?_) (fun c_3 => ?_)
        · skip
          exact absurd (by decide) c_3
        · skip
          refine lv_iconst (v := 1) hx hb dX7_beside_33 (by decide) ?_
          refine lv_goto (tgt := 47) hx hb dX7_beside_34 (by decide) ?_
          refine lv_iadd hx hb dX7_beside_47 ?_
          refine top_eq (y := nI ((c / 8) + 1)) (nI_add _ _) ?_
          refine lv_istore_n (lv' := [(3, .int (nI ((c / 8) + 1))), (2, .int (nI ((c % 8) + 0))), (0, .int (nI c)), (1, .int 0)]) hx hb dX7_beside_48 rfl hl (by decide) rfl (fun ls hl => ?_)
          refine lv_iload_n hx hb dX7_beside_49 rfl (lv_at hl 1 rfl) ?_
          refine lv_iload_n hx hb dX7_beside_50 rfl (lv_at hl 0 rfl) ?_
          refine cRS (As := [.int (nI ((c % 8) + 0)), .int (nI ((c / 8) + 1))]) (rest := []) hx hb hml hown hts (c_X7_isCell l G E cI cZ (nI ((c % 8) + 0)) (nI ((c / 8) + 1))) k_17_4 cal_X7_isCell ⟨Nat.le_of_ble_eq_true rfl, Nat.le_of_ble_eq_true rfl⟩ hE hlow hS hK [0, 1] rfl hP [] rfl rfl hl.1 rfl (Nat.le_of_ble_eq_true rfl) dX7_beside_51 ⟨Nat.zero_le _, Nat.zero_le _⟩ ?_
          refine lv_if_eq (tgt := 66) hx hb dX7_beside_54 (by decide) (fun c_4 => ?_) (fun c_4 => ?_)
          · skip
            have c_4 : (inC (nI ((c % 8) + 0)) (nI ((c / 8) + 1))) = false := bI_f c_4
            refine lv_bipush (v := (-9)) hx hb dX7_beside_66 (by decide) ?_
            exact retR hx hb hr (rfl) hlocks dX7_beside_68 ((show ∀ c : Nat, c < 48 → (inC (nI ((c % 8) + 0)) (nI ((c / 8) + 1))) = false → ((-9) : Int32) = ooI (nb c (pd 0)) from by decide +kernel) c hc c_4)
          · skip
            have c_4 : (inC (nI ((c % 8) + 0)) (nI ((c / 8) + 1))) = true := bI_t c_4
            refine lv_bipush (v := 8) hx hb dX7_beside_57 (by decide) ?_
            refine lv_iload_n hx hb dX7_beside_59 rfl (lv_at hl 0 rfl) ?_
            refine lv_imul hx hb dX7_beside_60 ?_
            refine top_eq (y := nI (8 * ((c / 8) + 1))) (pk_mul _ _) ?_
            refine lv_iload_n hx hb dX7_beside_61 rfl (lv_at hl 1 rfl) ?_
            refine lv_iadd hx hb dX7_beside_62 ?_
            refine top_eq (y := nI ((8 * ((c / 8) + 1)) + ((c % 8) + 0))) (nI_add _ _) ?_
            refine lv_goto (tgt := 68) hx hb dX7_beside_63 (by decide) ?_
            exact retR hx hb hr (rfl) hlocks dX7_beside_68 ((show ∀ c : Nat, c < 48 → (inC (nI ((c % 8) + 0)) (nI ((c / 8) + 1))) = true → (nI ((8 * ((c / 8) + 1)) + ((c % 8) + 0)) : Int32) = ooI (nb c (pd 0)) from by decide +kernel) c hc c_4)
      · skip
        exact absurd c_2 (by decide)
    · skip
      exact absurd c_1 (by decide)
  · skip
    subst hd9
    have hl : lv_has ls 4 [(0, .int (nI c)), (1, .int 1)] := hl
    refine lv_iload_n hx hb dX7_beside_0 rfl (lv_at hl 0 rfl) ?_
    refine lv_bipush (v := 8) hx hb dX7_beside_1 (by decide) ?_
    refine lv_irem hx hb dX7_beside_3 (by decide) ?_
    refine top_eq (y := nI (c % 8)) (pk_rem (a := c) (d := 8) (by omega) (by omega) (by omega)) ?_
    refine lv_iload_n hx hb dX7_beside_4 rfl (lv_at hl 1 rfl) ?_
    refine lv_iconst (v := 2) hx hb dX7_beside_5 (by decide) ?_
    refine lv_icmp_ne (tgt := 13) hx hb dX7_beside_6 (by decide) (fun c_5 => ?_) (fun c_5 => ?_)
    · skip
      refine lv_iload_n hx hb dX7_beside_13 rfl (lv_at hl 1 rfl) ?_
      refine lv_iconst (v := 3) hx hb dX7_beside_14 (by decide) ?_
      refine lv_icmp_ne (tgt := 22) hx hb dX7_beside_15 (by decide) (fun c_6 => ?_) (fun c_6 => ?_)
      · skip
        refine lv_iconst (v := 0) hx hb dX7_beside_22 (by decide) ?_
        refine lv_iadd hx hb dX7_beside_23 ?_
        refine top_eq (y := nI ((c % 8) + 0)) (nI_add _ _) ?_
        refine lv_istore_n (lv' := [(2, .int (nI ((c % 8) + 0))), (0, .int (nI c)), (1, .int 1)]) hx hb dX7_beside_24 rfl hl (by decide) rfl (fun ls hl => ?_)
        refine lv_iload_n hx hb dX7_beside_25 rfl (lv_at hl 1 rfl) ?_
        refine lv_bipush (v := 8) hx hb dX7_beside_26 (by decide) ?_
        refine lv_idiv hx hb dX7_beside_28 (by decide) ?_
        refine top_eq (y := nI (c / 8)) (pk_div (a := c) (d := 8) (by omega) (by omega) (by omega)) ?_
        refine lv_iload_n hx hb dX7_beside_29 rfl (lv_at hl 2 rfl) ?_
        refine lv_if_ne (tgt := 37) hx hb dX7_beside_30 (by decide) (fun c_7 => ?_) (fun c_7 => ?_)
        · skip
          refine lv_iload_n hx hb dX7_beside_37 rfl (lv_at hl 2 rfl) ?_
          refine lv_iconst (v := 1) hx hb dX7_beside_38 (by decide) ?_
          refine lv_icmp_ne (tgt := 46) hx hb dX7_beside_39 (by decide) (fun c_8 => ?_) (fun c_8 => ?_)
          · skip
            exact absurd (by decide) c_8
          · skip
            refine lv_iconst (v := (-1)) hx hb dX7_beside_42 (by decide) ?_
            refine lv_goto (tgt := 47) hx hb dX7_beside_43 (by decide) ?_
            refine lv_iadd hx hb dX7_beside_47 ?_
            refine lv_istore_n (lv' := [(3, .int ((nI (c / 8)) + (-1))), (2, .int (nI ((c % 8) + 0))), (0, .int (nI c)), (1, .int 1)]) hx hb dX7_beside_48 rfl hl (by decide) rfl (fun ls hl => ?_)
            refine lv_iload_n hx hb dX7_beside_49 rfl (lv_at hl 1 rfl) ?_
            refine lv_iload_n hx hb dX7_beside_50 rfl (lv_at hl 0 rfl) ?_
            refine cRS (As := [.int (nI ((c % 8) + 0)), .int ((nI (c / 8)) + (-1))]) (rest := []) hx hb hml hown hts (c_X7_isCell l G E cI cZ (nI ((c % 8) + 0)) ((nI (c / 8)) + (-1))) k_17_4 cal_X7_isCell ⟨Nat.le_of_ble_eq_true rfl, Nat.le_of_ble_eq_true rfl⟩ hE hlow hS hK [0, 1] rfl hP [] rfl rfl hl.1 rfl (Nat.le_of_ble_eq_true rfl) dX7_beside_51 ⟨Nat.zero_le _, Nat.zero_le _⟩ ?_
            refine lv_if_eq (tgt := 66) hx hb dX7_beside_54 (by decide) (fun c_9 => ?_) (fun c_9 => ?_)
            · skip
              have c_9 : (inC (nI ((c % 8) + 0)) ((nI (c / 8)) + (-1))) = false := bI_f c_9
              refine lv_bipush (v := (-9)) hx hb dX7_beside_66 (by decide) ?_
              exact retR hx hb hr (rfl) hlocks dX7_beside_68 ((show ∀ c : Nat, c < 48 → (inC (nI ((c % 8) + 0)) ((nI (c / 8)) + (-1))) = false → ((-9) : Int32) = ooI (nb c (pd 1)) from by decide +kernel) c hc c_9)
            · skip
              have c_9 : (inC (nI ((c % 8) + 0)) ((nI (c / 8)) + (-1))) = true := bI_t c_9
              refine lv_bipush (v := 8) hx hb dX7_beside_57 (by decide) ?_
              refine lv_iload_n hx hb dX7_beside_59 rfl (lv_at hl 0 rfl) ?_
              refine lv_imul hx hb dX7_beside_60 ?_
              refine lv_iload_n hx hb dX7_beside_61 rfl (lv_at hl 1 rfl) ?_
              refine lv_iadd hx hb dX7_beside_62 ?_
              refine lv_goto (tgt := 68) hx hb dX7_beside_63 (by decide) ?_
              exact retR hx hb hr (rfl) hlocks dX7_beside_68 ((show ∀ c : Nat, c < 48 → (inC (nI ((c % 8) + 0)) ((nI (c / 8)) + (-1))) = true → (((8 * ((nI (c / 8)) + (-1))) + (nI ((c % 8) + 0))) : Int32) = ooI (nb c (pd 1)) from by decide +kernel) c hc c_9)
        · skip
          exact absurd c_7 (by decide)
      · skip
        exact absurd c_6 (by decide)
    · skip
      exact absurd c_5 (by decide)
  · skip
    subst hd9
    have hl : lv_has ls 4 [(0, .int (nI c)), (1, .int 2)] := hl
    refine lv_iload_n hx hb dX7_beside_0 rfl (lv_at hl 0 rfl) ?_
    refine lv_bipush (v := 8) hx hb dX7_beside_1 (by decide) ?_
    refine lv_irem hx hb dX7_beside_3 (by decide) ?_
    refine top_eq (y := nI (c % 8)) (pk_rem (a := c) (d := 8) (by omega) (by omega) (by omega)) ?_
    refine lv_iload_n hx hb dX7_beside_4 rfl (lv_at hl 1 rfl) ?_
    refine lv_iconst (v := 2) hx hb dX7_beside_5 (by decide) ?_
    refine lv_icmp_ne (tgt := 13) hx hb dX7_beside_6 (by decide) (fun c_10 => ?_) (fun c_10 => ?_)
    · skip
      exact absurd (by decide) c_10
    · skip
      refine lv_iconst (v := (-1)) hx hb dX7_beside_9 (by decide) ?_
      refine lv_goto (tgt := 23) hx hb dX7_beside_10 (by decide) ?_
      refine lv_iadd hx hb dX7_beside_23 ?_
      refine lv_istore_n (lv' := [(2, .int ((nI (c % 8)) + (-1))), (0, .int (nI c)), (1, .int 2)]) hx hb dX7_beside_24 rfl hl (by decide) rfl (fun ls hl => ?_)
      refine lv_iload_n hx hb dX7_beside_25 rfl (lv_at hl 1 rfl) ?_
      refine lv_bipush (v := 8) hx hb dX7_beside_26 (by decide) ?_
      refine lv_idiv hx hb dX7_beside_28 (by decide) ?_
      refine top_eq (y := nI (c / 8)) (pk_div (a := c) (d := 8) (by omega) (by omega) (by omega)) ?_
      refine lv_iload_n hx hb dX7_beside_29 rfl (lv_at hl 2 rfl) ?_
      refine lv_if_ne (tgt := 37) hx hb dX7_beside_30 (by decide) (fun c_11 => ?_) (fun c_11 => ?_)
      · skip
        refine lv_iload_n hx hb dX7_beside_37 rfl (lv_at hl 2 rfl) ?_
        refine lv_iconst (v := 1) hx hb dX7_beside_38 (by decide) ?_
        refine lv_icmp_ne (tgt := 46) hx hb dX7_beside_39 (by decide) (fun c_12 => ?_) (fun c_12 => ?_)
        · skip
          refine lv_iconst (v := 0) hx hb dX7_beside_46 (by decide) ?_
          refine lv_iadd hx hb dX7_beside_47 ?_
          refine top_eq (y := nI ((c / 8) + 0)) (nI_add _ _) ?_
          refine lv_istore_n (lv' := [(3, .int (nI ((c / 8) + 0))), (2, .int ((nI (c % 8)) + (-1))), (0, .int (nI c)), (1, .int 2)]) hx hb dX7_beside_48 rfl hl (by decide) rfl (fun ls hl => ?_)
          refine lv_iload_n hx hb dX7_beside_49 rfl (lv_at hl 1 rfl) ?_
          refine lv_iload_n hx hb dX7_beside_50 rfl (lv_at hl 0 rfl) ?_
          refine cRS (As := [.int ((nI (c % 8)) + (-1)), .int (nI ((c / 8) + 0))]) (rest := []) hx hb hml hown hts (c_X7_isCell l G E cI cZ ((nI (c % 8)) + (-1)) (nI ((c / 8) + 0))) k_17_4 cal_X7_isCell ⟨Nat.le_of_ble_eq_true rfl, Nat.le_of_ble_eq_true rfl⟩ hE hlow hS hK [0, 1] rfl hP [] rfl rfl hl.1 rfl (Nat.le_of_ble_eq_true rfl) dX7_beside_51 ⟨Nat.zero_le _, Nat.zero_le _⟩ ?_
          refine lv_if_eq (tgt := 66) hx hb dX7_beside_54 (by decide) (fun c_13 => ?_) (fun c_13 => ?_)
          · skip
            have c_13 : (inC ((nI (c % 8)) + (-1)) (nI ((c / 8) + 0))) = false := bI_f c_13
            refine lv_bipush (v := (-9)) hx hb dX7_beside_66 (by decide) ?_
            exact retR hx hb hr (rfl) hlocks dX7_beside_68 ((show ∀ c : Nat, c < 48 → (inC ((nI (c % 8)) + (-1)) (nI ((c / 8) + 0))) = false → ((-9) : Int32) = ooI (nb c (pd 2)) from by decide +kernel) c hc c_13)
          · skip
            have c_13 : (inC ((nI (c % 8)) + (-1)) (nI ((c / 8) + 0))) = true := bI_t c_13
            refine lv_bipush (v := 8) hx hb dX7_beside_57 (by decide) ?_
            refine lv_iload_n hx hb dX7_beside_59 rfl (lv_at hl 0 rfl) ?_
            refine lv_imul hx hb dX7_beside_60 ?_
            refine top_eq (y := nI (8 * ((c / 8) + 0))) (pk_mul _ _) ?_
            refine lv_iload_n hx hb dX7_beside_61 rfl (lv_at hl 1 rfl) ?_
            refine lv_iadd hx hb dX7_beside_62 ?_
            refine lv_goto (tgt := 68) hx hb dX7_beside_63 (by decide) ?_
            exact retR hx hb hr (rfl) hlocks dX7_beside_68 ((show ∀ c : Nat, c < 48 → (inC ((nI (c % 8)) + (-1)) (nI ((c / 8) + 0))) = true → (((nI (8 * ((c / 8) + 0))) + ((nI (c % 8)) + (-1))) : Int32) = ooI (nb c (pd 2)) from by decide +kernel) c hc c_13)
        · skip
          exact absurd c_12 (by decide)
      · skip
        exact absurd c_11 (by decide)
  · skip
    subst hd9
    have hl : lv_has ls 4 [(0, .int (nI c)), (1, .int 3)] := hl
    refine lv_iload_n hx hb dX7_beside_0 rfl (lv_at hl 0 rfl) ?_
    refine lv_bipush (v := 8) hx hb dX7_beside_1 (by decide) ?_
    refine lv_irem hx hb dX7_beside_3 (by decide) ?_
    refine top_eq (y := nI (c % 8)) (pk_rem (a := c) (d := 8) (by omega) (by omega) (by omega)) ?_
    refine lv_iload_n hx hb dX7_beside_4 rfl (lv_at hl 1 rfl) ?_
    refine lv_iconst (v := 2) hx hb dX7_beside_5 (by decide) ?_
    refine lv_icmp_ne (tgt := 13) hx hb dX7_beside_6 (by decide) (fun c_14 => ?_) (fun c_14 => ?_)
    · skip
      refine lv_iload_n hx hb dX7_beside_13 rfl (lv_at hl 1 rfl) ?_
      refine lv_iconst (v := 3) hx hb dX7_beside_14 (by decide) ?_
      refine lv_icmp_ne (tgt := 22) hx hb dX7_beside_15 (by decide) (fun c_15 => ?_) (fun c_15 => ?_)
      · skip
        exact absurd (by decide) c_15
      · skip
        refine lv_iconst (v := 1) hx hb dX7_beside_18 (by decide) ?_
        refine lv_goto (tgt := 23) hx hb dX7_beside_19 (by decide) ?_
        refine lv_iadd hx hb dX7_beside_23 ?_
        refine top_eq (y := nI ((c % 8) + 1)) (nI_add _ _) ?_
        refine lv_istore_n (lv' := [(2, .int (nI ((c % 8) + 1))), (0, .int (nI c)), (1, .int 3)]) hx hb dX7_beside_24 rfl hl (by decide) rfl (fun ls hl => ?_)
        refine lv_iload_n hx hb dX7_beside_25 rfl (lv_at hl 1 rfl) ?_
        refine lv_bipush (v := 8) hx hb dX7_beside_26 (by decide) ?_
        refine lv_idiv hx hb dX7_beside_28 (by decide) ?_
        refine top_eq (y := nI (c / 8)) (pk_div (a := c) (d := 8) (by omega) (by omega) (by omega)) ?_
        refine lv_iload_n hx hb dX7_beside_29 rfl (lv_at hl 2 rfl) ?_
        refine lv_if_ne (tgt := 37) hx hb dX7_beside_30 (by decide) (fun c_16 => ?_) (fun c_16 => ?_)
        · skip
          refine lv_iload_n hx hb dX7_beside_37 rfl (lv_at hl 2 rfl) ?_
          refine lv_iconst (v := 1) hx hb dX7_beside_38 (by decide) ?_
          refine lv_icmp_ne (tgt := 46) hx hb dX7_beside_39 (by decide) (fun c_17 => ?_) (fun c_17 => ?_)
          · skip
            refine lv_iconst (v := 0) hx hb dX7_beside_46 (by decide) ?_
            refine lv_iadd hx hb dX7_beside_47 ?_
            refine top_eq (y := nI ((c / 8) + 0)) (nI_add _ _) ?_
            refine lv_istore_n (lv' := [(3, .int (nI ((c / 8) + 0))), (2, .int (nI ((c % 8) + 1))), (0, .int (nI c)), (1, .int 3)]) hx hb dX7_beside_48 rfl hl (by decide) rfl (fun ls hl => ?_)
            refine lv_iload_n hx hb dX7_beside_49 rfl (lv_at hl 1 rfl) ?_
            refine lv_iload_n hx hb dX7_beside_50 rfl (lv_at hl 0 rfl) ?_
            refine cRS (As := [.int (nI ((c % 8) + 1)), .int (nI ((c / 8) + 0))]) (rest := []) hx hb hml hown hts (c_X7_isCell l G E cI cZ (nI ((c % 8) + 1)) (nI ((c / 8) + 0))) k_17_4 cal_X7_isCell ⟨Nat.le_of_ble_eq_true rfl, Nat.le_of_ble_eq_true rfl⟩ hE hlow hS hK [0, 1] rfl hP [] rfl rfl hl.1 rfl (Nat.le_of_ble_eq_true rfl) dX7_beside_51 ⟨Nat.zero_le _, Nat.zero_le _⟩ ?_
            refine lv_if_eq (tgt := 66) hx hb dX7_beside_54 (by decide) (fun c_18 => ?_) (fun c_18 => ?_)
            · skip
              have c_18 : (inC (nI ((c % 8) + 1)) (nI ((c / 8) + 0))) = false := bI_f c_18
              refine lv_bipush (v := (-9)) hx hb dX7_beside_66 (by decide) ?_
              exact retR hx hb hr (rfl) hlocks dX7_beside_68 ((show ∀ c : Nat, c < 48 → (inC (nI ((c % 8) + 1)) (nI ((c / 8) + 0))) = false → ((-9) : Int32) = ooI (nb c (pd 3)) from by decide +kernel) c hc c_18)
            · skip
              have c_18 : (inC (nI ((c % 8) + 1)) (nI ((c / 8) + 0))) = true := bI_t c_18
              refine lv_bipush (v := 8) hx hb dX7_beside_57 (by decide) ?_
              refine lv_iload_n hx hb dX7_beside_59 rfl (lv_at hl 0 rfl) ?_
              refine lv_imul hx hb dX7_beside_60 ?_
              refine top_eq (y := nI (8 * ((c / 8) + 0))) (pk_mul _ _) ?_
              refine lv_iload_n hx hb dX7_beside_61 rfl (lv_at hl 1 rfl) ?_
              refine lv_iadd hx hb dX7_beside_62 ?_
              refine top_eq (y := nI ((8 * ((c / 8) + 0)) + ((c % 8) + 1))) (nI_add _ _) ?_
              refine lv_goto (tgt := 68) hx hb dX7_beside_63 (by decide) ?_
              exact retR hx hb hr (rfl) hlocks dX7_beside_68 ((show ∀ c : Nat, c < 48 → (inC (nI ((c % 8) + 1)) (nI ((c / 8) + 0))) = true → (nI ((8 * ((c / 8) + 0)) + ((c % 8) + 1)) : Int32) = ooI (nb c (pd 3)) from by decide +kernel) c hc c_18)
          · skip
            exact absurd c_17 (by decide)
        · skip
          exact absurd c_16 (by decide)
    · skip
      exact absurd c_14 (by decide)
theorem cal_X7_lesser : calV yX7_lesser cX7_lesser 5 (some .int) 2 := ⟨k_23_2, k_1_5, k_23_0, k_23_1, by decide +kernel⟩
set_option maxHeartbeats 4000000 in
set_option maxRecDepth 100000 in
theorem c_X7_lesser (l : Launch) (G : va_G) (E : EvT) (cI cZ : ClassId) (zo : Nat → Int32) (he : Nat → Int32) (go : Nat → Int32) (le : Nat → Int32) (hd : Nat → Int32) (gn : Nat → Int32) (la : Int32) (a : Nat) (b : Nat) (o : Nat) (a_S : Nat) (fs_o : List Value) (h_o_S : fs_o[2]? = some (.ref a_S)) (ha : a < 48) (hb9 : b < 48) (hna : isAirS zo a = false) (hnb : isAirS zo b = false) : cR l G E yX7_lesser cX7_lesser 5 (some .int) 1 [(cI, .int), (cZ, .boolean)] [.ref o, .int (nI a), .int (nI b)] [(o, .inr (7, fs_o)), (a_S, .inl (cI, 163, .inl (ms zo he go le hd gn la)))] (lesM (atZ zo le a) (atZ zo le b)) := by
  refine mkR (by decide) (Nat.le_of_ble_eq_true rfl) ?_
  intro zp ze s zm args below meth zc hx hb hr hml hown hts hlocks hE hP hK ls hl
  have hS : va_S (fun _ => False) s.heap s.heap [] := va_S.rf
  have hlow : ∀ q : Nat, (fun _ : Nat => False) q → E.1 ≤ q := fun _ h => h.elim
  have hl : lv_has ls 5 [(0, .ref o), (1, .int (nI a)), (2, .int (nI b))] := hl
  obtain ⟨za, hza6, hmza, hzea, hzca⟩ := mz_n hna
  obtain ⟨zb, hzb6, hmzb, hzeb, hzcb⟩ := mz_n hnb
  refine lv_aload_n hx hb dX7_lesser_0 rfl (lv_at hl 0 rfl) ?_
  refine va_get (D := G) (ci := 7) (v := .ref a_S) (C := RX7) (T := TX7) (N := 38) hx hb hts inlX7 hown hK hP 0 rfl rfl 2 (by decide) (hts (.fieldLink RX7 7 "EarthBanksModel" "s" "[I") k_6_2) (fun _ h9 => h9) h_o_S dX7_lesser_1 ?_
  refine lv_sipush (v := 144) hx hb dX7_lesser_4 (by decide) ?_
  refine lv_aload_n hx hb dX7_lesser_7 rfl (lv_at hl 0 rfl) ?_
  refine va_get (D := G) (ci := 7) (v := .ref a_S) (C := RX7) (T := TX7) (N := 38) hx hb hts inlX7 hown hK hP 0 rfl rfl 2 (by decide) (hts (.fieldLink RX7 7 "EarthBanksModel" "s" "[I") k_6_2) (fun _ h9 => h9) h_o_S dX7_lesser_8 ?_
  refine lv_iconst (v := 0) hx hb dX7_lesser_11 (by decide) ?_
  refine lv_iload_n hx hb dX7_lesser_12 rfl (lv_at hl 1 rfl) ?_
  refine lv_iadd hx hb dX7_lesser_13 ?_
  refine top_eq (y := nI (0 + a)) (nI_add _ _) ?_
  refine ialdN (j := (0 + a)) hx hb hK hP 1 0 rfl rfl (by omega) (by decide) dX7_lesser_14 ?_
  refine top_eq (y := nI za) ((ms_z (c := a) (by omega) (by omega)).trans hmza) ?_
  refine lv_iadd hx hb dX7_lesser_15 ?_
  refine top_eq (y := nI (144 + za)) (nI_add _ _) ?_
  refine ialdN (j := (144 + za)) hx hb hK hP 1 0 rfl rfl (by omega) (by decide) dX7_lesser_16 ?_
  refine top_eq (y := (le za)) (ms_l (c := za) (by omega) (by omega)) ?_
  refine lv_istore_n (lv' := [(3, .int (le za)), (0, .ref o), (1, .int (nI a)), (2, .int (nI b))]) hx hb dX7_lesser_17 rfl hl (by decide) rfl (fun ls hl => ?_)
  refine lv_aload_n hx hb dX7_lesser_18 rfl (lv_at hl 1 rfl) ?_
  refine va_get (D := G) (ci := 7) (v := .ref a_S) (C := RX7) (T := TX7) (N := 38) hx hb hts inlX7 hown hK hP 0 rfl rfl 2 (by decide) (hts (.fieldLink RX7 7 "EarthBanksModel" "s" "[I") k_6_2) (fun _ h9 => h9) h_o_S dX7_lesser_19 ?_
  refine lv_sipush (v := 144) hx hb dX7_lesser_22 (by decide) ?_
  refine lv_aload_n hx hb dX7_lesser_25 rfl (lv_at hl 1 rfl) ?_
  refine va_get (D := G) (ci := 7) (v := .ref a_S) (C := RX7) (T := TX7) (N := 38) hx hb hts inlX7 hown hK hP 0 rfl rfl 2 (by decide) (hts (.fieldLink RX7 7 "EarthBanksModel" "s" "[I") k_6_2) (fun _ h9 => h9) h_o_S dX7_lesser_26 ?_
  refine lv_iconst (v := 0) hx hb dX7_lesser_29 (by decide) ?_
  refine lv_iload_n hx hb dX7_lesser_30 rfl (lv_at hl 3 rfl) ?_
  refine lv_iadd hx hb dX7_lesser_31 ?_
  refine top_eq (y := nI (0 + b)) (nI_add _ _) ?_
  refine ialdN (j := (0 + b)) hx hb hK hP 1 0 rfl rfl (by omega) (by decide) dX7_lesser_32 ?_
  refine top_eq (y := nI zb) ((ms_z (c := b) (by omega) (by omega)).trans hmzb) ?_
  refine lv_iadd hx hb dX7_lesser_33 ?_
  refine top_eq (y := nI (144 + zb)) (nI_add _ _) ?_
  refine ialdN (j := (144 + zb)) hx hb hK hP 1 0 rfl rfl (by omega) (by decide) dX7_lesser_34 ?_
  refine top_eq (y := (le zb)) (ms_l (c := zb) (by omega) (by omega)) ?_
  refine lv_istore (lv' := [(4, .int (le zb)), (3, .int (le za)), (0, .ref o), (1, .int (nI a)), (2, .int (nI b))]) hx hb dX7_lesser_35 hl (by decide) rfl (fun ls hl => ?_)
  refine lv_iload_n hx hb dX7_lesser_37 rfl (lv_at hl 1 rfl) ?_
  refine lv_iload hx hb dX7_lesser_38 (lv_at hl 0 rfl) ?_
  refine lv_icmp_ge (tgt := 47) hx hb dX7_lesser_40 (by decide) (fun c_1 => ?_) (fun c_1 => ?_)
  · skip
    refine lv_iload hx hb dX7_lesser_47 (lv_at hl 0 rfl) ?_
    exact retR hx hb hr (rfl) hlocks dX7_lesser_49 (by simp [lesM, atZ, hzca, hzcb, c_1])
  · skip
    refine lv_iload_n hx hb dX7_lesser_43 rfl (lv_at hl 1 rfl) ?_
    refine lv_goto (tgt := 49) hx hb dX7_lesser_44 (by decide) ?_
    exact retR hx hb hr (rfl) hlocks dX7_lesser_49 (by simp [lesM, atZ, hzca, hzcb, c_1])
