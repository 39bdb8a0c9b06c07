theorem cal_X6_loadOfPart : calV yX6_loadOfPart cX6_loadOfPart 2 (some .int) 1 := ⟨k_18_9, k_1_2, k_18_7, k_18_8, by decide +kernel⟩
set_option maxHeartbeats 4000000 in
set_option maxRecDepth 100000 in
theorem c_X6_loadOfPart (l : Launch) (G : va_G) (E : EvT) (cI cZ : ClassId) (p : Nat) (o : Nat) (a_x : Nat) (a_s : Nat) (a_t : Nat) (a_i : Nat) (a_j : Nat) (a_ke : Nat) (a_w : Nat) (a_d : Nat) (a_r : Nat) (a_g : Nat) (ff : Int32) (tr : Int64) (hp : p < 48) : cWi (S := Unit) l G E yX6_loadOfPart cX6_loadOfPart 2 (some .int) 1 [(cI, .int), (cZ, .boolean)] [.ref o, .int (nI p)] [(o, .inr (6, [.ref a_x, .ref a_s, .ref a_t, .ref a_i, .ref a_j, .ref a_ke, .ref a_w, .ref a_d, .ref a_r, .ref a_g, .int ff, .long tr]))] (fun r _ => r = (lpS p)) (fun _ => [(o, .inr (6, [.ref a_x, .ref a_s, .ref a_t, .ref a_i, .ref a_j, .ref a_ke, .ref a_w, .ref a_d, .ref a_r, .ref a_g, .int ff, .long (tr + 1)]))]) := by
  refine mkWi (by decide) (Nat.le_of_ble_eq_true rfl) ?_
  intro zp ze s zm args below meth zc hx hb hr hml hown hts hlocks hE hK A hA hlow H locs hP hD hS ls hl
  have hl : lv_has ls 2 [(0, .ref o), (1, .int (nI p))] := hl
  refine lv_aload_n hx hb dX6_loadOfPart_0 rfl (lv_at hl 0 rfl) ?_
  refine lv_dup hx hb dX6_loadOfPart_1 rfl ?_
  refine va_get (D := G) (ci := 6) (v := .long tr) (C := RX6) (T := TX6) (N := 12) hx hb hts inlX6 hown hK hP 0 rfl rfl 11 (by decide) (hts (.fieldLink RX6 68 "EarthBanks" "traced" "J") k_2_19) (fun _ h9 => h9) rfl dX6_loadOfPart_2 ?_
  refine lv_lconst (v := 1) hx hb dX6_loadOfPart_5 (by decide) ?_
  refine lv_ladd hx hb dX6_loadOfPart_6 ?_
  refine va_put (D := G) (ci := 6) (v := .long (tr + 1)) (ty := .long) (C := RX6) (T := TX6) (N := 12) hx hb hts inlX6 tyX6 tyX6_ok nmX6 hown hK hP hD hS 0 rfl rfl 11 (by decide) (hts (.fieldLink RX6 68 "EarthBanks" "traced" "J") k_2_19) (fun _ h9 => h9) rfl (by decide +kernel) (rfl) (rfl) (Nat.le_of_ble_eq_true rfl) dX6_loadOfPart_7 (fun H locs hP hD hS => ?_)
  have hP : va_P G vwCl [(o, .inr (6, [.ref a_x, .ref a_s, .ref a_t, .ref a_i, .ref a_j, .ref a_ke, .ref a_w, .ref a_d, .ref a_r, .ref a_g, .int ff, .long (tr + 1)]))] H := hP
  have hD : va_D A [(o, .inr (6, [.ref a_x, .ref a_s, .ref a_t, .ref a_i, .ref a_j, .ref a_ke, .ref a_w, .ref a_d, .ref a_r, .ref a_g, .int ff, .long (tr + 1)]))] := hD
  refine lv_bipush (v := 10) hx hb dX6_loadOfPart_10 (by decide) ?_
  refine lv_iload_n hx hb dX6_loadOfPart_12 rfl (lv_at hl 1 rfl) ?_
  refine lv_bipush (v := 8) hx hb dX6_loadOfPart_13 (by decide) ?_
  refine lv_idiv hx hb dX6_loadOfPart_15 (by decide) ?_
  refine top_eq (y := nI (p / 8)) (pk_div (a := p) (d := 8) (by omega) (by omega) (by omega)) ?_
  refine lv_iadd hx hb dX6_loadOfPart_16 ?_
  refine top_eq (y := nI (10 + (p / 8))) (nI_add _ _) ?_
  exact retWi () hx hb hr (rfl) hlocks dX6_loadOfPart_17 hS (by simp [lpS, bI]) hP
theorem cal_X6_loadOfCell : calV yX6_loadOfCell cX6_loadOfCell 2 (some .int) 1 := ⟨k_18_13, k_1_2, k_18_11, k_18_12, by decide +kernel⟩
set_option maxHeartbeats 4000000 in
set_option maxRecDepth 100000 in
theorem c_X6_loadOfCell (l : Launch) (G : va_G) (E : EvT) (cI cZ : ClassId) (p : Nat) (o : Nat) (a_s : Nat) (a_s_he : Nat) (a_x : Nat) (a_t : Nat) (a_i : Nat) (a_j : Nat) (a_ke : Nat) (a_w : Nat) (a_d : Nat) (a_r : Nat) (a_g : Nat) (ff : Int32) (tr : Int64) (fs_s : List Value) (h_s_he : fs_s[1]? = some (.ref a_s_he)) (s_he : Nat → Int32) (hp : p < 48) : cWi (S := Unit) l G E yX6_loadOfCell cX6_loadOfCell 2 (some .int) 2 [(cI, .int), (cZ, .boolean)] [.ref o, .int (nI p)] [(o, .inr (6, [.ref a_x, .ref a_s, .ref a_t, .ref a_i, .ref a_j, .ref a_ke, .ref a_w, .ref a_d, .ref a_r, .ref a_g, .int ff, .long tr])), (a_s, .inr (2, fs_s)), (a_s_he, .inl (cI, 48, .inl s_he))] (fun r _ => r = (lcS s_he p)) (fun _ => [(o, .inr (6, [.ref a_x, .ref a_s, .ref a_t, .ref a_i, .ref a_j, .ref a_ke, .ref a_w, .ref a_d, .ref a_r, .ref a_g, .int ff, .long ((tr + 10) + 1)])), (a_s, .inr (2, fs_s)), (a_s_he, .inl (cI, 48, .inl s_he))]) := by
  refine mkWi (by decide) (Nat.le_of_ble_eq_true rfl) ?_
  intro zp ze s zm args below meth zc hx hb hr hml hown hts hlocks hE hK A hA hlow H locs hP hD hS ls hl
  have hl : lv_has ls 2 [(0, .ref o), (1, .int (nI p))] := hl
  refine lv_aload_n hx hb dX6_loadOfCell_0 rfl (lv_at hl 0 rfl) ?_
  refine lv_dup hx hb dX6_loadOfCell_1 rfl ?_
  refine va_get (D := G) (ci := 6) (v := .long tr) (C := RX6) (T := TX6) (N := 12) hx hb hts inlX6 hown hK hP 0 rfl rfl 11 (by decide) (hts (.fieldLink RX6 68 "EarthBanks" "traced" "J") k_2_19) (fun _ h9 => h9) rfl dX6_loadOfCell_2 ?_
  refine lv_ldc2 (own := RX6) (index := 156) (v := 10) hx hb hown (hts _ k_18_14) dX6_loadOfCell_5 ?_
  refine lv_ladd hx hb dX6_loadOfCell_8 ?_
  refine va_put (D := G) (ci := 6) (v := .long (tr + 10)) (ty := .long) (C := RX6) (T := TX6) (N := 12) hx hb hts inlX6 tyX6 tyX6_ok nmX6 hown hK hP hD hS 0 rfl rfl 11 (by decide) (hts (.fieldLink RX6 68 "EarthBanks" "traced" "J") k_2_19) (fun _ h9 => h9) rfl (by decide +kernel) (rfl) (rfl) (Nat.le_of_ble_eq_true rfl) dX6_loadOfCell_9 (fun H locs hP hD hS => ?_)
  have hP : va_P G vwCl [(o, .inr (6, [.ref a_x, .ref a_s, .ref a_t, .ref a_i, .ref a_j, .ref a_ke, .ref a_w, .ref a_d, .ref a_r, .ref a_g, .int ff, .long (tr + 10)])), (a_s, .inr (2, fs_s)), (a_s_he, .inl (cI, 48, .inl s_he))] H := hP
  have hD : va_D A [(o, .inr (6, [.ref a_x, .ref a_s, .ref a_t, .ref a_i, .ref a_j, .ref a_ke, .ref a_w, .ref a_d, .ref a_r, .ref a_g, .int ff, .long (tr + 10)])), (a_s, .inr (2, fs_s)), (a_s_he, .inl (cI, 48, .inl s_he))] := hD
  refine lv_aload_n hx hb dX6_loadOfCell_12 rfl (lv_at hl 0 rfl) ?_
  refine lv_iload_n hx hb dX6_loadOfCell_13 rfl (lv_at hl 1 rfl) ?_
  refine cWVi (As := [.int (nI p)]) (rest := []) hx hb hml hown hts (c_X6_loadOfPart l G E cI cZ p o a_x a_s a_t a_i a_j a_ke a_w a_d a_r a_g ff (tr + 10) (hp)) k_18_6 cal_X6_loadOfPart ⟨Nat.le_of_ble_eq_true rfl, Nat.le_of_ble_eq_true rfl⟩ hE hA hlow hD hS hK [0, 1] rfl hP [0] rfl (by decide) (fun _ => rfl) 0 6 rfl rfl rfl hl.1 rfl (Nat.le_of_ble_eq_true rfl) dX6_loadOfCell_14 ⟨Nat.zero_le _, Nat.zero_le _⟩ (fun r_ u H locs hr_ hP hD hS => ?_)
  subst hr_
  have hP : va_P G vwCl [(o, .inr (6, [.ref a_x, .ref a_s, .ref a_t, .ref a_i, .ref a_j, .ref a_ke, .ref a_w, .ref a_d, .ref a_r, .ref a_g, .int ff, .long ((tr + 10) + 1)])), (a_s, .inr (2, fs_s)), (a_s_he, .inl (cI, 48, .inl s_he))] H := hP
  have hD : va_D A [(o, .inr (6, [.ref a_x, .ref a_s, .ref a_t, .ref a_i, .ref a_j, .ref a_ke, .ref a_w, .ref a_d, .ref a_r, .ref a_g, .int ff, .long ((tr + 10) + 1)])), (a_s, .inr (2, fs_s)), (a_s_he, .inl (cI, 48, .inl s_he))] := hD
  refine lv_aload_n hx hb dX6_loadOfCell_17 rfl (lv_at hl 0 rfl) ?_
  refine va_get (D := G) (ci := 6) (v := .ref a_s) (C := RX6) (T := TX6) (N := 12) hx hb hts inlX6 hown hK hP 0 rfl rfl 1 (by decide) (hts (.fieldLink RX6 19 "EarthBanks" "slice" "LEarthBanks$Slice;") k_1_20) (fun _ h9 => h9) rfl dX6_loadOfCell_18 ?_
  refine lv_iload_n hx hb dX6_loadOfCell_21 rfl (lv_at hl 1 rfl) ?_
  refine cRV (As := [.int (nI p)]) (rest := [.int (lpS p)]) hx hb hml hown hts (c_X2_pushAt l G E cI cZ p a_s a_s_he fs_s h_s_he s_he (hp)) k_16_17 cal_X2_pushAt ⟨Nat.le_of_ble_eq_true rfl, Nat.le_of_ble_eq_true rfl⟩ hE hlow hS hK [0, 1] rfl hP [1, 2] rfl 1 2 rfl rfl rfl hl.1 rfl (Nat.le_of_ble_eq_true rfl) dX6_loadOfCell_22 ⟨Nat.zero_le _, Nat.zero_le _⟩ ?_
  refine lv_bipush (v := 100) hx hb dX6_loadOfCell_25 (by decide) ?_
  refine lv_idiv hx hb dX6_loadOfCell_27 (by decide) ?_
  refine lv_iadd hx hb dX6_loadOfCell_28 ?_
  exact retWi () hx hb hr (rfl) hlocks dX6_loadOfCell_29 hS (by simp [lcS, bI]) hP
theorem cal_X6_loadOfDrained : calV yX6_loadOfDrained cX6_loadOfDrained 3 (some .int) 1 := ⟨k_18_18, k_1_2, k_18_16, k_18_17, by decide +kernel⟩
set_option maxHeartbeats 4000000 in
set_option maxRecDepth 100000 in
theorem c_X6_loadOfDrained (l : Launch) (G : va_G) (E : EvT) (cI cZ : ClassId) (p : Nat) (o : Nat) (a_s : Nat) (a_s_he : Nat) (a_x : Nat) (a_t : Nat) (a_i : Nat) (a_j : Nat) (a_ke : Nat) (a_w : Nat) (a_d : Nat) (a_r : Nat) (a_g : Nat) (ff : Int32) (tr : Int64) (fs_s : List Value) (h_s_he : fs_s[1]? = some (.ref a_s_he)) (s_he : Nat → Int32) (hp : p < 48) : cWi (S := Unit) l G E yX6_loadOfDrained cX6_loadOfDrained 3 (some .int) 3 [(cI, .int), (cZ, .boolean)] [.ref o, .int (nI p)] [(o, .inr (6, [.ref a_x, .ref a_s, .ref a_t, .ref a_i, .ref a_j, .ref a_ke, .ref a_w, .ref a_d, .ref a_r, .ref a_g, .int ff, .long tr])), (a_s, .inr (2, fs_s)), (a_s_he, .inl (cI, 48, .inl s_he))] (fun r _ => r = ((lcS s_he p) - ((lcS s_he p) / 3))) (fun _ => [(o, .inr (6, [.ref a_x, .ref a_s, .ref a_t, .ref a_i, .ref a_j, .ref a_ke, .ref a_w, .ref a_d, .ref a_r, .ref a_g, .int ff, .long (((tr + 100) + 10) + 1)])), (a_s, .inr (2, fs_s)), (a_s_he, .inl (cI, 48, .inl s_he))]) := by
  refine mkWi (by decide) (Nat.le_of_ble_eq_true rfl) ?_
  intro zp ze s zm args below meth zc hx hb hr hml hown hts hlocks hE hK A hA hlow H locs hP hD hS ls hl
  have hl : lv_has ls 3 [(0, .ref o), (1, .int (nI p))] := hl
  refine lv_aload_n hx hb dX6_loadOfDrained_0 rfl (lv_at hl 0 rfl) ?_
  refine lv_dup hx hb dX6_loadOfDrained_1 rfl ?_
  refine va_get (D := G) (ci := 6) (v := .long tr) (C := RX6) (T := TX6) (N := 12) hx hb hts inlX6 hown hK hP 0 rfl rfl 11 (by decide) (hts (.fieldLink RX6 68 "EarthBanks" "traced" "J") k_2_19) (fun _ h9 => h9) rfl dX6_loadOfDrained_2 ?_
  refine lv_ldc2 (own := RX6) (index := 158) (v := 100) hx hb hown (hts _ k_18_19) dX6_loadOfDrained_5 ?_
  refine lv_ladd hx hb dX6_loadOfDrained_8 ?_
  refine va_put (D := G) (ci := 6) (v := .long (tr + 100)) (ty := .long) (C := RX6) (T := TX6) (N := 12) hx hb hts inlX6 tyX6 tyX6_ok nmX6 hown hK hP hD hS 0 rfl rfl 11 (by decide) (hts (.fieldLink RX6 68 "EarthBanks" "traced" "J") k_2_19) (fun _ h9 => h9) rfl (by decide +kernel) (rfl) (rfl) (Nat.le_of_ble_eq_true rfl) dX6_loadOfDrained_9 (fun H locs hP hD hS => ?_)
  have hP : va_P G vwCl [(o, .inr (6, [.ref a_x, .ref a_s, .ref a_t, .ref a_i, .ref a_j, .ref a_ke, .ref a_w, .ref a_d, .ref a_r, .ref a_g, .int ff, .long (tr + 100)])), (a_s, .inr (2, fs_s)), (a_s_he, .inl (cI, 48, .inl s_he))] H := hP
  have hD : va_D A [(o, .inr (6, [.ref a_x, .ref a_s, .ref a_t, .ref a_i, .ref a_j, .ref a_ke, .ref a_w, .ref a_d, .ref a_r, .ref a_g, .int ff, .long (tr + 100)])), (a_s, .inr (2, fs_s)), (a_s_he, .inl (cI, 48, .inl s_he))] := hD
  refine lv_aload_n hx hb dX6_loadOfDrained_12 rfl (lv_at hl 0 rfl) ?_
  refine lv_iload_n hx hb dX6_loadOfDrained_13 rfl (lv_at hl 1 rfl) ?_
  refine cWVi (As := [.int (nI p)]) (rest := []) hx hb hml hown hts (c_X6_loadOfCell l G E cI cZ p o a_s a_s_he a_x a_t a_i a_j a_ke a_w a_d a_r a_g ff (tr + 100) fs_s h_s_he s_he (hp)) k_18_10 cal_X6_loadOfCell ⟨Nat.le_of_ble_eq_true rfl, Nat.le_of_ble_eq_true rfl⟩ hE hA hlow hD hS hK [0, 1] rfl hP [0, 1, 2] rfl (by decide) (fun _ => rfl) 0 6 rfl rfl rfl hl.1 rfl (Nat.le_of_ble_eq_true rfl) dX6_loadOfDrained_14 ⟨Nat.zero_le _, Nat.zero_le _⟩ (fun r_ u H locs hr_ hP hD hS => ?_)
  subst hr_
  have hP : va_P G vwCl [(o, .inr (6, [.ref a_x, .ref a_s, .ref a_t, .ref a_i, .ref a_j, .ref a_ke, .ref a_w, .ref a_d, .ref a_r, .ref a_g, .int ff, .long (((tr + 100) + 10) + 1)])), (a_s, .inr (2, fs_s)), (a_s_he, .inl (cI, 48, .inl s_he))] H := hP
  have hD : va_D A [(o, .inr (6, [.ref a_x, .ref a_s, .ref a_t, .ref a_i, .ref a_j, .ref a_ke, .ref a_w, .ref a_d, .ref a_r, .ref a_g, .int ff, .long (((tr + 100) + 10) + 1)])), (a_s, .inr (2, fs_s)), (a_s_he, .inl (cI, 48, .inl s_he))] := hD
  refine lv_istore_n (lv' := [(2, .int (lcS s_he p)), (0, .ref o), (1, .int (nI p))]) hx hb dX6_loadOfDrained_17 rfl hl (by decide) rfl (fun ls hl => ?_)
  refine lv_iload_n hx hb dX6_loadOfDrained_18 rfl (lv_at hl 0 rfl) ?_
  refine lv_iload_n hx hb dX6_loadOfDrained_19 rfl (lv_at hl 0 rfl) ?_
  refine lv_iconst (v := 3) hx hb dX6_loadOfDrained_20 (by decide) ?_
  refine lv_idiv hx hb dX6_loadOfDrained_21 (by decide) ?_
  refine lv_isub hx hb dX6_loadOfDrained_22 ?_
  exact retWi () hx hb hr (rfl) hlocks dX6_loadOfDrained_23 hS (rfl) hP
theorem cal_X6_loadOfCarried : calV yX6_loadOfCarried cX6_loadOfCarried 2 (some .int) 1 := ⟨k_18_23, k_1_2, k_18_21, k_18_22, by decide +kernel⟩
set_option maxHeartbeats 4000000 in
set_option maxRecDepth 100000 in
theorem c_X6_loadOfCarried (l : Launch) (G : va_G) (E : EvT) (cI cZ : ClassId) (p : Nat) (o : Nat) (a_s : Nat) (a_s_he : Nat) (a_x : Nat) (a_t : Nat) (a_i : Nat) (a_j : Nat) (a_ke : Nat) (a_w : Nat) (a_d : Nat) (a_r : Nat) (a_g : Nat) (ff : Int32) (tr : Int64) (fs_s : List Value) (h_s_he : fs_s[1]? = some (.ref a_s_he)) (s_he : Nat → Int32) (hp : p < 48) : cWi (S := Unit) l G E yX6_loadOfCarried cX6_loadOfCarried 2 (some .int) 3 [(cI, .int), (cZ, .boolean)] [.ref o, .int (nI p)] [(o, .inr (6, [.ref a_x, .ref a_s, .ref a_t, .ref a_i, .ref a_j, .ref a_ke, .ref a_w, .ref a_d, .ref a_r, .ref a_g, .int ff, .long tr])), (a_s, .inr (2, fs_s)), (a_s_he, .inl (cI, 48, .inl s_he))] (fun r _ => r = ((lcS s_he p) / 2)) (fun _ => [(o, .inr (6, [.ref a_x, .ref a_s, .ref a_t, .ref a_i, .ref a_j, .ref a_ke, .ref a_w, .ref a_d, .ref a_r, .ref a_g, .int ff, .long (((tr + 1000) + 10) + 1)])), (a_s, .inr (2, fs_s)), (a_s_he, .inl (cI, 48, .inl s_he))]) := by
  refine mkWi (by decide) (Nat.le_of_ble_eq_true rfl) ?_
  intro zp ze s zm args below meth zc hx hb hr hml hown hts hlocks hE hK A hA hlow H locs hP hD hS ls hl
  have hl : lv_has ls 2 [(0, .ref o), (1, .int (nI p))] := hl
  refine lv_aload_n hx hb dX6_loadOfCarried_0 rfl (lv_at hl 0 rfl) ?_
  refine lv_dup hx hb dX6_loadOfCarried_1 rfl ?_
  refine va_get (D := G) (ci := 6) (v := .long tr) (C := RX6) (T := TX6) (N := 12) hx hb hts inlX6 hown hK hP 0 rfl rfl 11 (by decide) (hts (.fieldLink RX6 68 "EarthBanks" "traced" "J") k_2_19) (fun _ h9 => h9) rfl dX6_loadOfCarried_2 ?_
  refine lv_ldc2 (own := RX6) (index := 160) (v := 1000) hx hb hown (hts _ k_19_0) dX6_loadOfCarried_5 ?_
  refine lv_ladd hx hb dX6_loadOfCarried_8 ?_
  refine va_put (D := G) (ci := 6) (v := .long (tr + 1000)) (ty := .long) (C := RX6) (T := TX6) (N := 12) hx hb hts inlX6 tyX6 tyX6_ok nmX6 hown hK hP hD hS 0 rfl rfl 11 (by decide) (hts (.fieldLink RX6 68 "EarthBanks" "traced" "J") k_2_19) (fun _ h9 => h9) rfl (by decide +kernel) (rfl) (rfl) (Nat.le_of_ble_eq_true rfl) dX6_loadOfCarried_9 (fun H locs hP hD hS => ?_)
  have hP : va_P G vwCl [(o, .inr (6, [.ref a_x, .ref a_s, .ref a_t, .ref a_i, .ref a_j, .ref a_ke, .ref a_w, .ref a_d, .ref a_r, .ref a_g, .int ff, .long (tr + 1000)])), (a_s, .inr (2, fs_s)), (a_s_he, .inl (cI, 48, .inl s_he))] H := hP
  have hD : va_D A [(o, .inr (6, [.ref a_x, .ref a_s, .ref a_t, .ref a_i, .ref a_j, .ref a_ke, .ref a_w, .ref a_d, .ref a_r, .ref a_g, .int ff, .long (tr + 1000)])), (a_s, .inr (2, fs_s)), (a_s_he, .inl (cI, 48, .inl s_he))] := hD
  refine lv_aload_n hx hb dX6_loadOfCarried_12 rfl (lv_at hl 0 rfl) ?_
  refine lv_iload_n hx hb dX6_loadOfCarried_13 rfl (lv_at hl 1 rfl) ?_
  refine cWVi (As := [.int (nI p)]) (rest := []) hx hb hml hown hts (c_X6_loadOfCell l G E cI cZ p o a_s a_s_he a_x a_t a_i a_j a_ke a_w a_d a_r a_g ff (tr + 1000) fs_s h_s_he s_he (hp)) k_18_10 cal_X6_loadOfCell ⟨Nat.le_of_ble_eq_true rfl, Nat.le_of_ble_eq_true rfl⟩ hE hA hlow hD hS hK [0, 1] rfl hP [0, 1, 2] rfl (by decide) (fun _ => rfl) 0 6 rfl rfl rfl hl.1 rfl (Nat.le_of_ble_eq_true rfl) dX6_loadOfCarried_14 ⟨Nat.zero_le _, Nat.zero_le _⟩ (fun r_ u H locs hr_ hP hD hS => ?_)
  subst hr_
  have hP : va_P G vwCl [(o, .inr (6, [.ref a_x, .ref a_s, .ref a_t, .ref a_i, .ref a_j, .ref a_ke, .ref a_w, .ref a_d, .ref a_r, .ref a_g, .int ff, .long (((tr + 1000) + 10) + 1)])), (a_s, .inr (2, fs_s)), (a_s_he, .inl (cI, 48, .inl s_he))] H := hP
  have hD : va_D A [(o, .inr (6, [.ref a_x, .ref a_s, .ref a_t, .ref a_i, .ref a_j, .ref a_ke, .ref a_w, .ref a_d, .ref a_r, .ref a_g, .int ff, .long (((tr + 1000) + 10) + 1)])), (a_s, .inr (2, fs_s)), (a_s_he, .inl (cI, 48, .inl s_he))] := hD
  refine lv_iconst (v := 2) hx hb dX6_loadOfCarried_17 (by decide) ?_
  refine lv_idiv hx hb dX6_loadOfCarried_18 (by decide) ?_
  exact retWi () hx hb hr (rfl) hlocks dX6_loadOfCarried_19 hS (rfl) hP
theorem cal_X6_loadOfCrack : calV yX6_loadOfCrack cX6_loadOfCrack 2 (some .int) 1 := ⟨k_19_4, k_1_2, k_19_2, k_19_3, by decide +kernel⟩
set_option maxHeartbeats 4000000 in
set_option maxRecDepth 100000 in
theorem c_X6_loadOfCrack (l : Launch) (G : va_G) (E : EvT) (cI cZ : ClassId) (p : Nat) (o : Nat) (a_s : Nat) (a_s_zo : Nat) (a_s_hd : Nat) (a_x : Nat) (a_t : Nat) (a_i : Nat) (a_j : Nat) (a_ke : Nat) (a_w : Nat) (a_d : Nat) (a_r : Nat) (a_g : Nat) (ff : Int32) (tr : Int64) (fs_s : List Value) (h_s_zo : fs_s[0]? = some (.ref a_s_zo)) (h_s_hd : fs_s[4]? = some (.ref a_s_hd)) (s_zo : Nat → Int32) (s_hd : Nat → Int32) (hp : p < 48) : cWi (S := Unit) l G E yX6_loadOfCrack cX6_loadOfCrack 2 (some .int) 3 [(cI, .int), (cZ, .boolean)] [.ref o, .int (nI p)] [(o, .inr (6, [.ref a_x, .ref a_s, .ref a_t, .ref a_i, .ref a_j, .ref a_ke, .ref a_w, .ref a_d, .ref a_r, .ref a_g, .int ff, .long tr])), (a_s, .inr (2, fs_s)), (a_s_zo, .inl (cI, 48, .inl s_zo)), (a_s_hd, .inl (cI, 6, .inl s_hd))] (fun r _ => r = ((lpS p) - ((holdS s_zo s_hd p) / 10))) (fun _ => [(o, .inr (6, [.ref a_x, .ref a_s, .ref a_t, .ref a_i, .ref a_j, .ref a_ke, .ref a_w, .ref a_d, .ref a_r, .ref a_g, .int ff, .long ((tr + 10000) + 1)])), (a_s, .inr (2, fs_s)), (a_s_zo, .inl (cI, 48, .inl s_zo)), (a_s_hd, .inl (cI, 6, .inl s_hd))]) := by
  refine mkWi (by decide) (Nat.le_of_ble_eq_true rfl) ?_
  intro zp ze s zm args below meth zc hx hb hr hml hown hts hlocks hE hK A hA hlow H locs hP hD hS ls hl
  have hl : lv_has ls 2 [(0, .ref o), (1, .int (nI p))] := hl
  refine lv_aload_n hx hb dX6_loadOfCrack_0 rfl (lv_at hl 0 rfl) ?_
  refine lv_dup hx hb dX6_loadOfCrack_1 rfl ?_
  refine va_get (D := G) (ci := 6) (v := .long tr) (C := RX6) (T := TX6) (N := 12) hx hb hts inlX6 hown hK hP 0 rfl rfl 11 (by decide) (hts (.fieldLink RX6 68 "EarthBanks" "traced" "J") k_2_19) (fun _ h9 => h9) rfl dX6_loadOfCrack_2 ?_
  refine lv_ldc2 (own := RX6) (index := 162) (v := 10000) hx hb hown (hts _ k_19_5) dX6_loadOfCrack_5 ?_
  refine lv_ladd hx hb dX6_loadOfCrack_8 ?_
  refine va_put (D := G) (ci := 6) (v := .long (tr + 10000)) (ty := .long) (C := RX6) (T := TX6) (N := 12) hx hb hts inlX6 tyX6 tyX6_ok nmX6 hown hK hP hD hS 0 rfl rfl 11 (by decide) (hts (.fieldLink RX6 68 "EarthBanks" "traced" "J") k_2_19) (fun _ h9 => h9) rfl (by decide +kernel) (rfl) (rfl) (Nat.le_of_ble_eq_true rfl) dX6_loadOfCrack_9 (fun H locs hP hD hS => ?_)
  have hP : va_P G vwCl [(o, .inr (6, [.ref a_x, .ref a_s, .ref a_t, .ref a_i, .ref a_j, .ref a_ke, .ref a_w, .ref a_d, .ref a_r, .ref a_g, .int ff, .long (tr + 10000)])), (a_s, .inr (2, fs_s)), (a_s_zo, .inl (cI, 48, .inl s_zo)), (a_s_hd, .inl (cI, 6, .inl s_hd))] H := hP
  have hD : va_D A [(o, .inr (6, [.ref a_x, .ref a_s, .ref a_t, .ref a_i, .ref a_j, .ref a_ke, .ref a_w, .ref a_d, .ref a_r, .ref a_g, .int ff, .long (tr + 10000)])), (a_s, .inr (2, fs_s)), (a_s_zo, .inl (cI, 48, .inl s_zo)), (a_s_hd, .inl (cI, 6, .inl s_hd))] := hD
  refine lv_aload_n hx hb dX6_loadOfCrack_12 rfl (lv_at hl 0 rfl) ?_
  refine lv_iload_n hx hb dX6_loadOfCrack_13 rfl (lv_at hl 1 rfl) ?_
  refine cWVi (As := [.int (nI p)]) (rest := []) hx hb hml hown hts (c_X6_loadOfPart l G E cI cZ p o a_x a_s a_t a_i a_j a_ke a_w a_d a_r a_g ff (tr + 10000) (hp)) k_18_6 cal_X6_loadOfPart ⟨Nat.le_of_ble_eq_true rfl, Nat.le_of_ble_eq_true rfl⟩ hE hA hlow hD hS hK [0, 1] rfl hP [0] rfl (by decide) (fun _ => rfl) 0 6 rfl rfl rfl hl.1 rfl (Nat.le_of_ble_eq_true rfl) dX6_loadOfCrack_14 ⟨Nat.zero_le _, Nat.zero_le _⟩ (fun r_ u H locs hr_ hP hD hS => ?_)
  subst hr_
  have hP : va_P G vwCl [(o, .inr (6, [.ref a_x, .ref a_s, .ref a_t, .ref a_i, .ref a_j, .ref a_ke, .ref a_w, .ref a_d, .ref a_r, .ref a_g, .int ff, .long ((tr + 10000) + 1)])), (a_s, .inr (2, fs_s)), (a_s_zo, .inl (cI, 48, .inl s_zo)), (a_s_hd, .inl (cI, 6, .inl s_hd))] H := hP
  have hD : va_D A [(o, .inr (6, [.ref a_x, .ref a_s, .ref a_t, .ref a_i, .ref a_j, .ref a_ke, .ref a_w, .ref a_d, .ref a_r, .ref a_g, .int ff, .long ((tr + 10000) + 1)])), (a_s, .inr (2, fs_s)), (a_s_zo, .inl (cI, 48, .inl s_zo)), (a_s_hd, .inl (cI, 6, .inl s_hd))] := hD
  refine lv_aload_n hx hb dX6_loadOfCrack_17 rfl (lv_at hl 0 rfl) ?_
  refine va_get (D := G) (ci := 6) (v := .ref a_s) (C := RX6) (T := TX6) (N := 12) hx hb hts inlX6 hown hK hP 0 rfl rfl 1 (by decide) (hts (.fieldLink RX6 19 "EarthBanks" "slice" "LEarthBanks$Slice;") k_1_20) (fun _ h9 => h9) rfl dX6_loadOfCrack_18 ?_
  refine lv_iload_n hx hb dX6_loadOfCrack_21 rfl (lv_at hl 1 rfl) ?_
  refine cRV (As := [.int (nI p)]) (rest := [.int (lpS p)]) hx hb hml hown hts (c_X2_holdAt l G E cI cZ p a_s a_s_zo a_s_hd fs_s h_s_zo h_s_hd s_zo s_hd (hp)) k_19_6 cal_X2_holdAt ⟨Nat.le_of_ble_eq_true rfl, Nat.le_of_ble_eq_true rfl⟩ hE hlow hS hK [0, 1] rfl hP [1, 2, 3] rfl 1 2 rfl rfl rfl hl.1 rfl (Nat.le_of_ble_eq_true rfl) dX6_loadOfCrack_22 ⟨Nat.zero_le _, Nat.zero_le _⟩ ?_
  refine lv_bipush (v := 10) hx hb dX6_loadOfCrack_25 (by decide) ?_
  refine lv_idiv hx hb dX6_loadOfCrack_27 (by decide) ?_
  refine lv_isub hx hb dX6_loadOfCrack_28 ?_
  exact retWi () hx hb hr (rfl) hlocks dX6_loadOfCrack_29 hS (rfl) hP
