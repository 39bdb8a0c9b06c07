theorem cal_X6_loadOfPart : calV yX6_loadOfPart cX6_loadOfPart 2 (some .int) 1 := ⟨k_18_9, k_1_2, k_18_7, k_18_8, by decide +kernel⟩
set_option maxHeartbeats 4000000 in
set_option maxRecDepth 100000 in
theorem c_X6_loadOfPart (l : Launch) (G : va_G) (E : EvT) (cI cZ : ClassId) (p : Nat) (o : Nat) (a_x : Nat) (a_s : Nat) (a_t : Nat) (a_i : Nat) (a_j : Nat) (a_ke : Nat) (a_w : Nat) (a_d : Nat) (a_r : Nat) (a_g : Nat) (ff : Int32) (tr : Int64) (hp : p < 48) : cWi (S := Unit) l G E yX6_loadOfPart cX6_loadOfPart 2 (some .int) 1 [(cI, .int), (cZ, .boolean)] [.ref o, .int (nI p)] [(o, .inr (6, [.ref a_x, .ref a_s, .ref a_t, .ref a_i, .ref a_j, .ref a_ke, .ref a_w, .ref a_d, .ref a_r, .ref a_g, .int ff, .long tr]))] (fun r _ => r = (lpS p)) (fun _ => [(o, .inr (6, [.ref a_x, .ref a_s, .ref a_t, .ref a_i, .ref a_j, .ref a_ke, .ref a_w, .ref a_d, .ref a_r, .ref a_g, .int ff, .long (tr + 1)]))]) := by
  refine mkWi (by decide) (Nat.le_of_ble_eq_true rfl) ?_
  intro zp ze s zm args below meth zc hx hb hr hml hown hts hlocks hE hK A hA hlow H locs hP hD hS ls hl
  have hl : lv_has ls 2 [(0, .ref o), (1, .int (nI p))] := hl
  refine lv_aload_n hx hb dX6_loadOfPart_0 rfl (lv_at hl 0 rfl) ?_
  refine lv_dup hx hb dX6_loadOfPart_1 rfl ?_
  refine va_get (D := G) (ci := 6) (v := .long tr) (C := RX6) (T := TX6) (N := 12) hx hb hts inlX6 hown hK hP 0 rfl rfl 11 (by decide) (hts (.fieldLink RX6 68 "EarthBanks" "traced" "J") k_2_19) (fun _ h9 => h9) rfl dX6_loadOfPart_2 ?_
  refine lv_lconst (v := 1) hx hb dX6_loadOfPart_5 rfl ?_
  refine lv_ladd hx hb dX6_loadOfPart_6 ?_
  refine va_put (D := G) (ci := 6) (v := .long (tr + 1)) (ty := .long) (C := RX6) (T := TX6) (N := 12) hx hb hts inlX6 tyX6 tyX6_ok nmX6 hown hK hP hD hS 0 rfl rfl 11 (by decide) (hts (.fieldLink RX6 68 "EarthBanks" "traced" "J") k_2_19) (fun _ h9 => h9) rfl (by decide +kernel) (rfl) (rfl) (Nat.le_of_ble_eq_true rfl) dX6_loadOfPart_7 (fun H locs hP hD hS => ?_)
  have hP : va_P G vwCl [(o, .inr (6, [.ref a_x, .ref a_s, .ref a_t, .ref a_i, .ref a_j, .ref a_ke, .ref a_w, .ref a_d, .ref a_r, .ref a_g, .int ff, .long (tr + 1)]))] H := hP
  have hD : va_D A [(o, .inr (6, [.ref a_x, .ref a_s, .ref a_t, .ref a_i, .ref a_j, .ref a_ke, .ref a_w, .ref a_d, .ref a_r, .ref a_g, .int ff, .long (tr + 1)]))] := hD
  refine lv_bipush (v := 10) hx hb dX6_loadOfPart_10 (by decide) ?_
  refine lv_iload_n hx hb dX6_loadOfPart_12 rfl (lv_at hl 1 rfl) ?_
  refine lv_bipush (v := 8) hx hb dX6_loadOfPart_13 (by decide) ?_
  refine lv_idiv hx hb dX6_loadOfPart_15 (by decide) ?_
  refine top_eq (y := nI (p / 8)) (pk_div (a := p) (d := 8) (by omega) (by omega) (by omega)) ?_
  refine lv_iadd hx hb dX6_loadOfPart_16 ?_
  refine top_eq (y := nI (10 + (p / 8))) (nI_add _ _) ?_
  exact retWi () hx hb hr (rfl) hlocks dX6_loadOfPart_17 hS (by simp [lpS, bI]) hP
theorem cal_X6_loadOfCell : calV yX6_loadOfCell cX6_loadOfCell 2 (some .int) 1 := ⟨k_18_13, k_1_2, k_18_11, k_18_12, by decide +kernel⟩
set_option maxHeartbeats 4000000 in
set_option maxRecDepth 100000 in
theorem c_X6_loadOfCell (l : Launch) (G : va_G) (E : EvT) (cI cZ : ClassId) (p : Nat) (o : Nat) (a_s : Nat) (a_s_he : Nat) (a_x : Nat) (a_t : Nat) (a_i : Nat) (a_j : Nat) (a_ke : Nat) (a_w : Nat) (a_d : Nat) (a_r : Nat) (a_g : Nat) (ff : Int32) (tr : Int64) (fs_s : List Value) (h_s_he : fs_s[1]? = some (.ref a_s_he)) (s_he : Nat → Int32) (hp : p < 48) : cWi (S := Unit) l G E yX6_loadOfCell cX6_loadOfCell 2 (some .int) 2 [(cI, .int), (cZ, .boolean)] [.ref o, .int (nI p)] [(o, .inr (6, [.ref a_x, .ref a_s, .ref a_t, .ref a_i, .ref a_j, .ref a_ke, .ref a_w, .ref a_d, .ref a_r, .ref a_g, .int ff, .long tr])), (a_s, .inr (2, fs_s)), (a_s_he, .inl (cI, 48, .inl s_he))] (fun r _ => r = (lcS s_he p)) (fun _ => [(o, .inr (6, [.ref a_x, .ref a_s, .ref a_t, .ref a_i, .ref a_j, .ref a_ke, .ref a_w, .ref a_d, .ref a_r, .ref a_g, .int ff, .long ((tr + L10) + 1)])), (a_s, .inr (2, fs_s)), (a_s_he, .inl (cI, 48, .inl s_he))]) := by
  refine mkWi (by decide) (Nat.le_of_ble_eq_true rfl) ?_
  intro zp ze s zm args below meth zc hx hb hr hml hown hts hlocks hE hK A hA hlow H locs hP hD hS ls hl
  have hl : lv_has ls 2 [(0, .ref o), (1, .int (nI p))] := hl
  refine lv_aload_n hx hb dX6_loadOfCell_0 rfl (lv_at hl 0 rfl) ?_
  refine lv_dup hx hb dX6_loadOfCell_1 rfl ?_
  refine va_get (D := G) (ci := 6) (v := .long tr) (C := RX6) (T := TX6) (N := 12) hx hb hts inlX6 hown hK hP 0 rfl rfl 11 (by decide) (hts (.fieldLink RX6 68 "EarthBanks" "traced" "J") k_2_19) (fun _ h9 => h9) rfl dX6_loadOfCell_2 ?_
  refine lv_ldc2 (own := RX6) (index := 156) (v := 10) hx hb hown (hts _ k_18_14) dX6_loadOfCell_5 ?_
  refine topl_eq (y := L10) rfl ?_
  refine lv_ladd hx hb dX6_loadOfCell_8 ?_
  refine va_put (D := G) (ci := 6) (v := .long (tr + L10)) (ty := .long) (C := RX6) (T := TX6) (N := 12) hx hb hts inlX6 tyX6 tyX6_ok nmX6 hown hK hP hD hS 0 rfl rfl 11 (by decide) (hts (.fieldLink RX6 68 "EarthBanks" "traced" "J") k_2_19) (fun _ h9 => h9) rfl (by decide +kernel) (rfl) (rfl) (Nat.le_of_ble_eq_true rfl) dX6_loadOfCell_9 (fun H locs hP hD hS => ?_)
  have hP : va_P G vwCl [(o, .inr (6, [.ref a_x, .ref a_s, .ref a_t, .ref a_i, .ref a_j, .ref a_ke, .ref a_w, .ref a_d, .ref a_r, .ref a_g, .int ff, .long (tr + L10)])), (a_s, .inr (2, fs_s)), (a_s_he, .inl (cI, 48, .inl s_he))] H := hP
  have hD : va_D A [(o, .inr (6, [.ref a_x, .ref a_s, .ref a_t, .ref a_i, .ref a_j, .ref a_ke, .ref a_w, .ref a_d, .ref a_r, .ref a_g, .int ff, .long (tr + L10)])), (a_s, .inr (2, fs_s)), (a_s_he, .inl (cI, 48, .inl s_he))] := hD
  refine lv_aload_n hx hb dX6_loadOfCell_12 rfl (lv_at hl 0 rfl) ?_
  refine lv_iload_n hx hb dX6_loadOfCell_13 rfl (lv_at hl 1 rfl) ?_
  refine cWVi (As := [.int (nI p)]) (rest := []) hx hb hml hown hts (c_X6_loadOfPart l G E cI cZ p o a_x a_s a_t a_i a_j a_ke a_w a_d a_r a_g ff (tr + L10) (hp)) k_18_6 cal_X6_loadOfPart ⟨Nat.le_of_ble_eq_true rfl, Nat.le_of_ble_eq_true rfl⟩ hE hA hlow hD hS hK [0, 1] rfl hP [0] rfl (by decide) [o] rfl (fun _ => rfl) [1, 2] [(a_s, .inr (2, fs_s)), (a_s_he, .inl (cI, 48, .inl s_he))] (fun _ => [(o, .inr (6, [.ref a_x, .ref a_s, .ref a_t, .ref a_i, .ref a_j, .ref a_ke, .ref a_w, .ref a_d, .ref a_r, .ref a_g, .int ff, .long ((tr + L10) + 1)])), (a_s, .inr (2, fs_s)), (a_s_he, .inl (cI, 48, .inl s_he))]) 3 rfl (fun _ => rfl) (fun _ => rfl) (fun _ => rfl) (by decide) (by decide) 0 6 rfl rfl rfl hl.1 rfl (Nat.le_of_ble_eq_true rfl) dX6_loadOfCell_14 ⟨Nat.zero_le _, Nat.zero_le _⟩ (fun r_ u H locs hr_ hP hD hS => ?_)
  subst hr_
  have hP : va_P G vwCl [(o, .inr (6, [.ref a_x, .ref a_s, .ref a_t, .ref a_i, .ref a_j, .ref a_ke, .ref a_w, .ref a_d, .ref a_r, .ref a_g, .int ff, .long ((tr + L10) + 1)])), (a_s, .inr (2, fs_s)), (a_s_he, .inl (cI, 48, .inl s_he))] H := hP
  have hD : va_D A [(o, .inr (6, [.ref a_x, .ref a_s, .ref a_t, .ref a_i, .ref a_j, .ref a_ke, .ref a_w, .ref a_d, .ref a_r, .ref a_g, .int ff, .long ((tr + L10) + 1)])), (a_s, .inr (2, fs_s)), (a_s_he, .inl (cI, 48, .inl s_he))] := hD
  refine lv_aload_n hx hb dX6_loadOfCell_17 rfl (lv_at hl 0 rfl) ?_
  refine va_get (D := G) (ci := 6) (v := .ref a_s) (C := RX6) (T := TX6) (N := 12) hx hb hts inlX6 hown hK hP 0 rfl rfl 1 (by decide) (hts (.fieldLink RX6 19 "EarthBanks" "slice" "LEarthBanks$Slice;") k_1_20) (fun _ h9 => h9) rfl dX6_loadOfCell_18 ?_
  refine lv_iload_n hx hb dX6_loadOfCell_21 rfl (lv_at hl 1 rfl) ?_
  refine cRV (As := [.int (nI p)]) (rest := [.int (lpS p)]) hx hb hml hown hts (c_X2_pushAt l G E cI cZ p a_s a_s_he fs_s h_s_he s_he (hp)) k_16_17 cal_X2_pushAt ⟨Nat.le_of_ble_eq_true rfl, Nat.le_of_ble_eq_true rfl⟩ hE hlow hS hK [0, 1] rfl hP [1, 2] rfl 1 2 rfl rfl rfl hl.1 rfl (Nat.le_of_ble_eq_true rfl) dX6_loadOfCell_22 ⟨Nat.zero_le _, Nat.zero_le _⟩ ?_
  refine lv_bipush (v := 100) hx hb dX6_loadOfCell_25 (by decide) ?_
  refine lv_idiv hx hb dX6_loadOfCell_27 (by decide) ?_
  refine lv_iadd hx hb dX6_loadOfCell_28 ?_
  exact retWi () hx hb hr (rfl) hlocks dX6_loadOfCell_29 hS (by simp [lcS, bI]) hP
theorem cal_X6_loadOfDrained : calV yX6_loadOfDrained cX6_loadOfDrained 3 (some .int) 1 := ⟨k_18_18, k_1_2, k_18_16, k_18_17, by decide +kernel⟩
set_option maxHeartbeats 4000000 in
set_option maxRecDepth 100000 in
theorem c_X6_loadOfDrained (l : Launch) (G : va_G) (E : EvT) (cI cZ : ClassId) (p : Nat) (o : Nat) (a_s : Nat) (a_s_he : Nat) (a_x : Nat) (a_t : Nat) (a_i : Nat) (a_j : Nat) (a_ke : Nat) (a_w : Nat) (a_d : Nat) (a_r : Nat) (a_g : Nat) (ff : Int32) (tr : Int64) (fs_s : List Value) (h_s_he : fs_s[1]? = some (.ref a_s_he)) (s_he : Nat → Int32) (hp : p < 48) : cWi (S := Unit) l G E yX6_loadOfDrained cX6_loadOfDrained 3 (some .int) 3 [(cI, .int), (cZ, .boolean)] [.ref o, .int (nI p)] [(o, .inr (6, [.ref a_x, .ref a_s, .ref a_t, .ref a_i, .ref a_j, .ref a_ke, .ref a_w, .ref a_d, .ref a_r, .ref a_g, .int ff, .long tr])), (a_s, .inr (2, fs_s)), (a_s_he, .inl (cI, 48, .inl s_he))] (fun r _ => r = ((lcS s_he p) - ((lcS s_he p) / 3))) (fun _ => [(o, .inr (6, [.ref a_x, .ref a_s, .ref a_t, .ref a_i, .ref a_j, .ref a_ke, .ref a_w, .ref a_d, .ref a_r, .ref a_g, .int ff, .long (((tr + L100) + L10) + 1)])), (a_s, .inr (2, fs_s)), (a_s_he, .inl (cI, 48, .inl s_he))]) := by
  refine mkWi (by decide) (Nat.le_of_ble_eq_true rfl) ?_
  intro zp ze s zm args below meth zc hx hb hr hml hown hts hlocks hE hK A hA hlow H locs hP hD hS ls hl
  have hl : lv_has ls 3 [(0, .ref o), (1, .int (nI p))] := hl
  refine lv_aload_n hx hb dX6_loadOfDrained_0 rfl (lv_at hl 0 rfl) ?_
  refine lv_dup hx hb dX6_loadOfDrained_1 rfl ?_
  refine va_get (D := G) (ci := 6) (v := .long tr) (C := RX6) (T := TX6) (N := 12) hx hb hts inlX6 hown hK hP 0 rfl rfl 11 (by decide) (hts (.fieldLink RX6 68 "EarthBanks" "traced" "J") k_2_19) (fun _ h9 => h9) rfl dX6_loadOfDrained_2 ?_
  refine lv_ldc2 (own := RX6) (index := 158) (v := 100) hx hb hown (hts _ k_18_19) dX6_loadOfDrained_5 ?_
  refine topl_eq (y := L100) rfl ?_
  refine lv_ladd hx hb dX6_loadOfDrained_8 ?_
  refine va_put (D := G) (ci := 6) (v := .long (tr + L100)) (ty := .long) (C := RX6) (T := TX6) (N := 12) hx hb hts inlX6 tyX6 tyX6_ok nmX6 hown hK hP hD hS 0 rfl rfl 11 (by decide) (hts (.fieldLink RX6 68 "EarthBanks" "traced" "J") k_2_19) (fun _ h9 => h9) rfl (by decide +kernel) (rfl) (rfl) (Nat.le_of_ble_eq_true rfl) dX6_loadOfDrained_9 (fun H locs hP hD hS => ?_)
  have hP : va_P G vwCl [(o, .inr (6, [.ref a_x, .ref a_s, .ref a_t, .ref a_i, .ref a_j, .ref a_ke, .ref a_w, .ref a_d, .ref a_r, .ref a_g, .int ff, .long (tr + L100)])), (a_s, .inr (2, fs_s)), (a_s_he, .inl (cI, 48, .inl s_he))] H := hP
  have hD : va_D A [(o, .inr (6, [.ref a_x, .ref a_s, .ref a_t, .ref a_i, .ref a_j, .ref a_ke, .ref a_w, .ref a_d, .ref a_r, .ref a_g, .int ff, .long (tr + L100)])), (a_s, .inr (2, fs_s)), (a_s_he, .inl (cI, 48, .inl s_he))] := hD
  refine lv_aload_n hx hb dX6_loadOfDrained_12 rfl (lv_at hl 0 rfl) ?_
  refine lv_iload_n hx hb dX6_loadOfDrained_13 rfl (lv_at hl 1 rfl) ?_
  refine cWVi (As := [.int (nI p)]) (rest := []) hx hb hml hown hts (c_X6_loadOfCell l G E cI cZ p o a_s a_s_he a_x a_t a_i a_j a_ke a_w a_d a_r a_g ff (tr + L100) fs_s h_s_he s_he (hp)) k_18_10 cal_X6_loadOfCell ⟨Nat.le_of_ble_eq_true rfl, Nat.le_of_ble_eq_true rfl⟩ hE hA hlow hD hS hK [0, 1] rfl hP [0, 1, 2] rfl (by decide) [o, a_s, a_s_he] rfl (fun _ => rfl) [] [] (fun _ => [(o, .inr (6, [.ref a_x, .ref a_s, .ref a_t, .ref a_i, .ref a_j, .ref a_ke, .ref a_w, .ref a_d, .ref a_r, .ref a_g, .int ff, .long (((tr + L100) + L10) + 1)])), (a_s, .inr (2, fs_s)), (a_s_he, .inl (cI, 48, .inl s_he))]) 3 rfl (fun _ => rfl) (fun _ => rfl) (fun _ => rfl) (by decide) (by decide) 0 6 rfl rfl rfl hl.1 rfl (Nat.le_of_ble_eq_true rfl) dX6_loadOfDrained_14 ⟨Nat.zero_le _, Nat.zero_le _⟩ (fun r_ u H locs hr_ hP hD hS => ?_)
  subst hr_
  have hP : va_P G vwCl [(o, .inr (6, [.ref a_x, .ref a_s, .ref a_t, .ref a_i, .ref a_j, .ref a_ke, .ref a_w, .ref a_d, .ref a_r, .ref a_g, .int ff, .long (((tr + L100) + L10) + 1)])), (a_s, .inr (2, fs_s)), (a_s_he, .inl (cI, 48, .inl s_he))] H := hP
  have hD : va_D A [(o, .inr (6, [.ref a_x, .ref a_s, .ref a_t, .ref a_i, .ref a_j, .ref a_ke, .ref a_w, .ref a_d, .ref a_r, .ref a_g, .int ff, .long (((tr + L100) + L10) + 1)])), (a_s, .inr (2, fs_s)), (a_s_he, .inl (cI, 48, .inl s_he))] := hD
  refine lv_istore_n (lv' := [(2, .int (lcS s_he p)), (0, .ref o), (1, .int (nI p))]) hx hb dX6_loadOfDrained_17 rfl hl (by decide) rfl (fun ls hl => ?_)
  refine lv_iload_n hx hb dX6_loadOfDrained_18 rfl (lv_at hl 0 rfl) ?_
  refine lv_iload_n hx hb dX6_loadOfDrained_19 rfl (lv_at hl 0 rfl) ?_
  refine lv_iconst (v := 3) hx hb dX6_loadOfDrained_20 (by decide) ?_
  refine lv_idiv hx hb dX6_loadOfDrained_21 (by decide) ?_
  refine lv_isub hx hb dX6_loadOfDrained_22 ?_
  exact retWi () hx hb hr (rfl) hlocks dX6_loadOfDrained_23 hS (rfl) hP
theorem cal_X6_loadOfCarried : calV yX6_loadOfCarried cX6_loadOfCarried 2 (some .int) 1 := ⟨k_18_23, k_1_2, k_18_21, k_18_22, by decide +kernel⟩
set_option maxHeartbeats 4000000 in
set_option maxRecDepth 100000 in
theorem c_X6_loadOfCarried (l : Launch) (G : va_G) (E : EvT) (cI cZ : ClassId) (p : Nat) (o : Nat) (a_s : Nat) (a_s_he : Nat) (a_x : Nat) (a_t : Nat) (a_i : Nat) (a_j : Nat) (a_ke : Nat) (a_w : Nat) (a_d : Nat) (a_r : Nat) (a_g : Nat) (ff : Int32) (tr : Int64) (fs_s : List Value) (h_s_he : fs_s[1]? = some (.ref a_s_he)) (s_he : Nat → Int32) (hp : p < 48) : cWi (S := Unit) l G E yX6_loadOfCarried cX6_loadOfCarried 2 (some .int) 3 [(cI, .int), (cZ, .boolean)] [.ref o, .int (nI p)] [(o, .inr (6, [.ref a_x, .ref a_s, .ref a_t, .ref a_i, .ref a_j, .ref a_ke, .ref a_w, .ref a_d, .ref a_r, .ref a_g, .int ff, .long tr])), (a_s, .inr (2, fs_s)), (a_s_he, .inl (cI, 48, .inl s_he))] (fun r _ => r = ((lcS s_he p) / 2)) (fun _ => [(o, .inr (6, [.ref a_x, .ref a_s, .ref a_t, .ref a_i, .ref a_j, .ref a_ke, .ref a_w, .ref a_d, .ref a_r, .ref a_g, .int ff, .long (((tr + L1000) + L10) + 1)])), (a_s, .inr (2, fs_s)), (a_s_he, .inl (cI, 48, .inl s_he))]) := by
  refine mkWi (by decide) (Nat.le_of_ble_eq_true rfl) ?_
  intro zp ze s zm args below meth zc hx hb hr hml hown hts hlocks hE hK A hA hlow H locs hP hD hS ls hl
  have hl : lv_has ls 2 [(0, .ref o), (1, .int (nI p))] := hl
  refine lv_aload_n hx hb dX6_loadOfCarried_0 rfl (lv_at hl 0 rfl) ?_
  refine lv_dup hx hb dX6_loadOfCarried_1 rfl ?_
  refine va_get (D := G) (ci := 6) (v := .long tr) (C := RX6) (T := TX6) (N := 12) hx hb hts inlX6 hown hK hP 0 rfl rfl 11 (by decide) (hts (.fieldLink RX6 68 "EarthBanks" "traced" "J") k_2_19) (fun _ h9 => h9) rfl dX6_loadOfCarried_2 ?_
  refine lv_ldc2 (own := RX6) (index := 160) (v := 1000) hx hb hown (hts _ k_19_0) dX6_loadOfCarried_5 ?_
  refine topl_eq (y := L1000) rfl ?_
  refine lv_ladd hx hb dX6_loadOfCarried_8 ?_
  refine va_put (D := G) (ci := 6) (v := .long (tr + L1000)) (ty := .long) (C := RX6) (T := TX6) (N := 12) hx hb hts inlX6 tyX6 tyX6_ok nmX6 hown hK hP hD hS 0 rfl rfl 11 (by decide) (hts (.fieldLink RX6 68 "EarthBanks" "traced" "J") k_2_19) (fun _ h9 => h9) rfl (by decide +kernel) (rfl) (rfl) (Nat.le_of_ble_eq_true rfl) dX6_loadOfCarried_9 (fun H locs hP hD hS => ?_)
  have hP : va_P G vwCl [(o, .inr (6, [.ref a_x, .ref a_s, .ref a_t, .ref a_i, .ref a_j, .ref a_ke, .ref a_w, .ref a_d, .ref a_r, .ref a_g, .int ff, .long (tr + L1000)])), (a_s, .inr (2, fs_s)), (a_s_he, .inl (cI, 48, .inl s_he))] H := hP
  have hD : va_D A [(o, .inr (6, [.ref a_x, .ref a_s, .ref a_t, .ref a_i, .ref a_j, .ref a_ke, .ref a_w, .ref a_d, .ref a_r, .ref a_g, .int ff, .long (tr + L1000)])), (a_s, .inr (2, fs_s)), (a_s_he, .inl (cI, 48, .inl s_he))] := hD
  refine lv_aload_n hx hb dX6_loadOfCarried_12 rfl (lv_at hl 0 rfl) ?_
  refine lv_iload_n hx hb dX6_loadOfCarried_13 rfl (lv_at hl 1 rfl) ?_
  refine cWVi (As := [.int (nI p)]) (rest := []) hx hb hml hown hts (c_X6_loadOfCell l G E cI cZ p o a_s a_s_he a_x a_t a_i a_j a_ke a_w a_d a_r a_g ff (tr + L1000) fs_s h_s_he s_he (hp)) k_18_10 cal_X6_loadOfCell ⟨Nat.le_of_ble_eq_true rfl, Nat.le_of_ble_eq_true rfl⟩ hE hA hlow hD hS hK [0, 1] rfl hP [0, 1, 2] rfl (by decide) [o, a_s, a_s_he] rfl (fun _ => rfl) [] [] (fun _ => [(o, .inr (6, [.ref a_x, .ref a_s, .ref a_t, .ref a_i, .ref a_j, .ref a_ke, .ref a_w, .ref a_d, .ref a_r, .ref a_g, .int ff, .long (((tr + L1000) + L10) + 1)])), (a_s, .inr (2, fs_s)), (a_s_he, .inl (cI, 48, .inl s_he))]) 3 rfl (fun _ => rfl) (fun _ => rfl) (fun _ => rfl) (by decide) (by decide) 0 6 rfl rfl rfl hl.1 rfl (Nat.le_of_ble_eq_true rfl) dX6_loadOfCarried_14 ⟨Nat.zero_le _, Nat.zero_le _⟩ (fun r_ u H locs hr_ hP hD hS => ?_)
  subst hr_
  have hP : va_P G vwCl [(o, .inr (6, [.ref a_x, .ref a_s, .ref a_t, .ref a_i, .ref a_j, .ref a_ke, .ref a_w, .ref a_d, .ref a_r, .ref a_g, .int ff, .long (((tr + L1000) + L10) + 1)])), (a_s, .inr (2, fs_s)), (a_s_he, .inl (cI, 48, .inl s_he))] H := hP
  have hD : va_D A [(o, .inr (6, [.ref a_x, .ref a_s, .ref a_t, .ref a_i, .ref a_j, .ref a_ke, .ref a_w, .ref a_d, .ref a_r, .ref a_g, .int ff, .long (((tr + L1000) + L10) + 1)])), (a_s, .inr (2, fs_s)), (a_s_he, .inl (cI, 48, .inl s_he))] := hD
  refine lv_iconst (v := 2) hx hb dX6_loadOfCarried_17 (by decide) ?_
  refine lv_idiv hx hb dX6_loadOfCarried_18 (by decide) ?_
  exact retWi () hx hb hr (rfl) hlocks dX6_loadOfCarried_19 hS (rfl) hP
theorem cal_X6_loadOfCrack : calV yX6_loadOfCrack cX6_loadOfCrack 2 (some .int) 1 := ⟨k_19_4, k_1_2, k_19_2, k_19_3, by decide +kernel⟩
set_option maxHeartbeats 4000000 in
set_option maxRecDepth 100000 in
theorem c_X6_loadOfCrack (l : Launch) (G : va_G) (E : EvT) (cI cZ : ClassId) (p : Nat) (o : Nat) (a_s : Nat) (a_s_zo : Nat) (a_s_hd : Nat) (a_x : Nat) (a_t : Nat) (a_i : Nat) (a_j : Nat) (a_ke : Nat) (a_w : Nat) (a_d : Nat) (a_r : Nat) (a_g : Nat) (ff : Int32) (tr : Int64) (fs_s : List Value) (h_s_zo : fs_s[0]? = some (.ref a_s_zo)) (h_s_hd : fs_s[4]? = some (.ref a_s_hd)) (s_zo : Nat → Int32) (s_hd : Nat → Int32) (hp : p < 48) : cWi (S := Unit) l G E yX6_loadOfCrack cX6_loadOfCrack 2 (some .int) 3 [(cI, .int), (cZ, .boolean)] [.ref o, .int (nI p)] [(o, .inr (6, [.ref a_x, .ref a_s, .ref a_t, .ref a_i, .ref a_j, .ref a_ke, .ref a_w, .ref a_d, .ref a_r, .ref a_g, .int ff, .long tr])), (a_s, .inr (2, fs_s)), (a_s_zo, .inl (cI, 48, .inl s_zo)), (a_s_hd, .inl (cI, 6, .inl s_hd))] (fun r _ => r = ((lpS p) - ((holdS s_zo s_hd p) / 10))) (fun _ => [(o, .inr (6, [.ref a_x, .ref a_s, .ref a_t, .ref a_i, .ref a_j, .ref a_ke, .ref a_w, .ref a_d, .ref a_r, .ref a_g, .int ff, .long ((tr + L10000) + 1)])), (a_s, .inr (2, fs_s)), (a_s_zo, .inl (cI, 48, .inl s_zo)), (a_s_hd, .inl (cI, 6, .inl s_hd))]) := by
  refine mkWi (by decide) (Nat.le_of_ble_eq_true rfl) ?_
  intro zp ze s zm args below meth zc hx hb hr hml hown hts hlocks hE hK A hA hlow H locs hP hD hS ls hl
  have hl : lv_has ls 2 [(0, .ref o), (1, .int (nI p))] := hl
  refine lv_aload_n hx hb dX6_loadOfCrack_0 rfl (lv_at hl 0 rfl) ?_
  refine lv_dup hx hb dX6_loadOfCrack_1 rfl ?_
  refine va_get (D := G) (ci := 6) (v := .long tr) (C := RX6) (T := TX6) (N := 12) hx hb hts inlX6 hown hK hP 0 rfl rfl 11 (by decide) (hts (.fieldLink RX6 68 "EarthBanks" "traced" "J") k_2_19) (fun _ h9 => h9) rfl dX6_loadOfCrack_2 ?_
  refine lv_ldc2 (own := RX6) (index := 162) (v := 10000) hx hb hown (hts _ k_19_5) dX6_loadOfCrack_5 ?_
  refine topl_eq (y := L10000) rfl ?_
  refine lv_ladd hx hb dX6_loadOfCrack_8 ?_
  refine va_put (D := G) (ci := 6) (v := .long (tr + L10000)) (ty := .long) (C := RX6) (T := TX6) (N := 12) hx hb hts inlX6 tyX6 tyX6_ok nmX6 hown hK hP hD hS 0 rfl rfl 11 (by decide) (hts (.fieldLink RX6 68 "EarthBanks" "traced" "J") k_2_19) (fun _ h9 => h9) rfl (by decide +kernel) (rfl) (rfl) (Nat.le_of_ble_eq_true rfl) dX6_loadOfCrack_9 (fun H locs hP hD hS => ?_)
  have hP : va_P G vwCl [(o, .inr (6, [.ref a_x, .ref a_s, .ref a_t, .ref a_i, .ref a_j, .ref a_ke, .ref a_w, .ref a_d, .ref a_r, .ref a_g, .int ff, .long (tr + L10000)])), (a_s, .inr (2, fs_s)), (a_s_zo, .inl (cI, 48, .inl s_zo)), (a_s_hd, .inl (cI, 6, .inl s_hd))] H := hP
  have hD : va_D A [(o, .inr (6, [.ref a_x, .ref a_s, .ref a_t, .ref a_i, .ref a_j, .ref a_ke, .ref a_w, .ref a_d, .ref a_r, .ref a_g, .int ff, .long (tr + L10000)])), (a_s, .inr (2, fs_s)), (a_s_zo, .inl (cI, 48, .inl s_zo)), (a_s_hd, .inl (cI, 6, .inl s_hd))] := hD
  refine lv_aload_n hx hb dX6_loadOfCrack_12 rfl (lv_at hl 0 rfl) ?_
  refine lv_iload_n hx hb dX6_loadOfCrack_13 rfl (lv_at hl 1 rfl) ?_
  refine cWVi (As := [.int (nI p)]) (rest := []) hx hb hml hown hts (c_X6_loadOfPart l G E cI cZ p o a_x a_s a_t a_i a_j a_ke a_w a_d a_r a_g ff (tr + L10000) (hp)) k_18_6 cal_X6_loadOfPart ⟨Nat.le_of_ble_eq_true rfl, Nat.le_of_ble_eq_true rfl⟩ hE hA hlow hD hS hK [0, 1] rfl hP [0] rfl (by decide) [o] rfl (fun _ => rfl) [1, 2, 3] [(a_s, .inr (2, fs_s)), (a_s_zo, .inl (cI, 48, .inl s_zo)), (a_s_hd, .inl (cI, 6, .inl s_hd))] (fun _ => [(o, .inr (6, [.ref a_x, .ref a_s, .ref a_t, .ref a_i, .ref a_j, .ref a_ke, .ref a_w, .ref a_d, .ref a_r, .ref a_g, .int ff, .long ((tr + L10000) + 1)])), (a_s, .inr (2, fs_s)), (a_s_zo, .inl (cI, 48, .inl s_zo)), (a_s_hd, .inl (cI, 6, .inl s_hd))]) 4 rfl (fun _ => rfl) (fun _ => rfl) (fun _ => rfl) (by decide) (by decide) 0 6 rfl rfl rfl hl.1 rfl (Nat.le_of_ble_eq_true rfl) dX6_loadOfCrack_14 ⟨Nat.zero_le _, Nat.zero_le _⟩ (fun r_ u H locs hr_ hP hD hS => ?_)
  subst hr_
  have hP : va_P G vwCl [(o, .inr (6, [.ref a_x, .ref a_s, .ref a_t, .ref a_i, .ref a_j, .ref a_ke, .ref a_w, .ref a_d, .ref a_r, .ref a_g, .int ff, .long ((tr + L10000) + 1)])), (a_s, .inr (2, fs_s)), (a_s_zo, .inl (cI, 48, .inl s_zo)), (a_s_hd, .inl (cI, 6, .inl s_hd))] H := hP
  have hD : va_D A [(o, .inr (6, [.ref a_x, .ref a_s, .ref a_t, .ref a_i, .ref a_j, .ref a_ke, .ref a_w, .ref a_d, .ref a_r, .ref a_g, .int ff, .long ((tr + L10000) + 1)])), (a_s, .inr (2, fs_s)), (a_s_zo, .inl (cI, 48, .inl s_zo)), (a_s_hd, .inl (cI, 6, .inl s_hd))] := hD
  refine lv_aload_n hx hb dX6_loadOfCrack_17 rfl (lv_at hl 0 rfl) ?_
  refine va_get (D := G) (ci := 6) (v := .ref a_s) (C := RX6) (T := TX6) (N := 12) hx hb hts inlX6 hown hK hP 0 rfl rfl 1 (by decide) (hts (.fieldLink RX6 19 "EarthBanks" "slice" "LEarthBanks$Slice;") k_1_20) (fun _ h9 => h9) rfl dX6_loadOfCrack_18 ?_
  refine lv_iload_n hx hb dX6_loadOfCrack_21 rfl (lv_at hl 1 rfl) ?_
  refine cRV (As := [.int (nI p)]) (rest := [.int (lpS p)]) hx hb hml hown hts (c_X2_holdAt l G E cI cZ p a_s a_s_zo a_s_hd fs_s h_s_zo h_s_hd s_zo s_hd (hp)) k_19_6 cal_X2_holdAt ⟨Nat.le_of_ble_eq_true rfl, Nat.le_of_ble_eq_true rfl⟩ hE hlow hS hK [0, 1] rfl hP [1, 2, 3] rfl 1 2 rfl rfl rfl hl.1 rfl (Nat.le_of_ble_eq_true rfl) dX6_loadOfCrack_22 ⟨Nat.zero_le _, Nat.zero_le _⟩ ?_
  refine lv_bipush (v := 10) hx hb dX6_loadOfCrack_25 (by decide) ?_
  refine lv_idiv hx hb dX6_loadOfCrack_27 (by decide) ?_
  refine lv_isub hx hb dX6_loadOfCrack_28 ?_
  exact retWi () hx hb hr (rfl) hlocks dX6_loadOfCrack_29 hS (rfl) hP
theorem cal_X6_load : calV yX6_load cX6_load 5 (some .int) 3 := ⟨k_18_5, k_1_2, k_18_3, k_18_4, by decide +kernel⟩
set_option maxHeartbeats 4000000 in
set_option maxRecDepth 100000 in
theorem c_X6_load (l : Launch) (G : va_G) (E : EvT) (cI cZ : ClassId) (kd : Int32) (x : Int32) (y : Int32) (o : Nat) (a_s : Nat) (a_s_zo : Nat) (a_s_he : Nat) (a_s_hd : Nat) (a_x : Nat) (a_t : Nat) (a_i : Nat) (a_j : Nat) (a_ke : Nat) (a_w : Nat) (a_d : Nat) (a_r : Nat) (a_g : Nat) (ff : Int32) (tr : Int64) (fs_s : List Value) (h_s_zo : fs_s[0]? = some (.ref a_s_zo)) (h_s_he : fs_s[1]? = some (.ref a_s_he)) (h_s_hd : fs_s[4]? = some (.ref a_s_hd)) (s_zo : Nat → Int32) (s_he : Nat → Int32) (s_hd : Nat → Int32) : cWi (S := Unit) l G E yX6_load cX6_load 5 (some .int) 4 [(cI, .int), (cZ, .boolean)] [.ref o, .int kd, .int x, .int y] [(o, .inr (6, [.ref a_x, .ref a_s, .ref a_t, .ref a_i, .ref a_j, .ref a_ke, .ref a_w, .ref a_d, .ref a_r, .ref a_g, .int ff, .long tr])), (a_s, .inr (2, fs_s)), (a_s_zo, .inl (cI, 48, .inl s_zo)), (a_s_he, .inl (cI, 48, .inl s_he)), (a_s_hd, .inl (cI, 6, .inl s_hd))] (fun r _ => r = loadS s_zo s_he s_hd kd x y) (fun _ => [(o, .inr (6, [.ref a_x, .ref a_s, .ref a_t, .ref a_i, .ref a_j, .ref a_ke, .ref a_w, .ref a_d, .ref a_r, .ref a_g, .int ff, .long (ltrS s_zo kd x y tr)])), (a_s, .inr (2, fs_s)), (a_s_zo, .inl (cI, 48, .inl s_zo)), (a_s_he, .inl (cI, 48, .inl s_he)), (a_s_hd, .inl (cI, 6, .inl s_hd))]) := by
  refine mkWi (by decide) (Nat.le_of_ble_eq_true rfl) ?_
  intro zp ze s zm args below meth zc hx hb hr hml hown hts hlocks hE hK A hA hlow H locs hP hD hS ls hl
  have hl : lv_has ls 5 [(0, .ref o), (1, .int kd), (2, .int x), (3, .int y)] := hl
  refine lv_iload_n hx hb dX6_load_0 rfl (lv_at hl 1 rfl) ?_
  refine lv_iconst (v := 0) hx hb dX6_load_1 (by decide) ?_
  refine lv_iconst (v := 4) hx hb dX6_load_2 (by decide) ?_
  refine cRS (As := [.int kd, .int 0, .int 4]) (rest := []) hx hb hml hown hts (c_X6_within l G E cI cZ kd 0 4) k_7_8 cal_X6_within ⟨Nat.le_of_ble_eq_true rfl, Nat.le_of_ble_eq_true rfl⟩ hE hlow hS hK [0, 1] rfl hP [] rfl rfl hl.1 rfl (Nat.le_of_ble_eq_true rfl) dX6_load_3 ⟨Nat.zero_le _, Nat.zero_le _⟩ ?_
  refine lv_if_eq (tgt := 17) hx hb dX6_load_6 (by decide) (fun c_1 => ?_) (fun c_1 => ?_)
  · skip
    have c_1 : (wiB kd 0 4) = false := bI_f c_1
    refine lv_iconst (v := (-1)) hx hb dX6_load_17 (by decide) ?_
    have ew_2 : (tr : Int64) = ltrS s_zo kd x y tr := by simp [ltrS, c_1]
    have hP : va_P G vwCl [(o, .inr (6, [.ref a_x, .ref a_s, .ref a_t, .ref a_i, .ref a_j, .ref a_ke, .ref a_w, .ref a_d, .ref a_r, .ref a_g, .int ff, .long (ltrS s_zo kd x y tr)])), (a_s, .inr (2, fs_s)), (a_s_zo, .inl (cI, 48, .inl s_zo)), (a_s_he, .inl (cI, 48, .inl s_he)), (a_s_hd, .inl (cI, 6, .inl s_hd))] H := by rw [← ew_2]; exact hP
    exact retWi () hx hb hr (rfl) hlocks dX6_load_18 hS (by simp [loadS, c_1]) hP
  · skip
    have c_1 : (wiB kd 0 4) = true := bI_t c_1
    refine lv_iload_n hx hb dX6_load_9 rfl (lv_at hl 2 rfl) ?_
    refine lv_iload_n hx hb dX6_load_10 rfl (lv_at hl 3 rfl) ?_
    refine cRS (As := [.int x, .int y]) (rest := []) hx hb hml hown hts (c_X6_isCell l G E cI cZ x y) k_16_12 cal_X6_isCell ⟨Nat.le_of_ble_eq_true rfl, Nat.le_of_ble_eq_true rfl⟩ hE hlow hS hK [0, 1] rfl hP [] rfl rfl hl.1 rfl (Nat.le_of_ble_eq_true rfl) dX6_load_11 ⟨Nat.zero_le _, Nat.zero_le _⟩ ?_
    refine lv_if_ne (tgt := 19) hx hb dX6_load_14 (by decide) (fun c_3 => ?_) (fun c_3 => ?_)
    · skip
      have c_3 : (inC x y) = true := bI_t c_3
      obtain ⟨xn, yn, hxn, hyn, hex, hey, hcx, hcy⟩ := inC_n c_3
      have hl : lv_has ls 5 [(0, .ref o), (1, .int kd), (2, .int (nI xn)), (3, .int y)] := by rw [hex] at hl; exact hl
      have hl : lv_has ls 5 [(0, .ref o), (1, .int kd), (2, .int (nI xn)), (3, .int (nI yn))] := by rw [hey] at hl; exact hl
      have hpl : plc x y = 8 * yn + xn := by rw [plc, hcx, hcy]
      refine lv_iload_n hx hb dX6_load_19 rfl (lv_at hl 2 rfl) ?_
      refine lv_iload_n hx hb dX6_load_20 rfl (lv_at hl 3 rfl) ?_
      refine cRS (As := [.int (nI xn), .int (nI yn)]) (rest := []) hx hb hml hown hts (c_X6_placeOf l G E cI cZ xn yn) k_16_15 cal_X6_placeOf ⟨Nat.le_of_ble_eq_true rfl, Nat.le_of_ble_eq_true rfl⟩ hE hlow hS hK [0, 1] rfl hP [] rfl rfl hl.1 rfl (Nat.le_of_ble_eq_true rfl) dX6_load_21 ⟨Nat.zero_le _, Nat.zero_le _⟩ ?_
      refine lv_istore (lv' := [(4, .int (nI ((8 * yn) + xn))), (0, .ref o), (1, .int kd), (2, .int (nI xn)), (3, .int (nI yn))]) hx hb dX6_load_24 hl (by decide) rfl (fun ls hl => ?_)
      refine lv_aload_n hx hb dX6_load_26 rfl (lv_at hl 1 rfl) ?_
      refine va_get (D := G) (ci := 6) (v := .ref a_s) (C := RX6) (T := TX6) (N := 12) hx hb hts inlX6 hown hK hP 0 rfl rfl 1 (by decide) (hts (.fieldLink RX6 19 "EarthBanks" "slice" "LEarthBanks$Slice;") k_1_20) (fun _ h9 => h9) rfl dX6_load_27 ?_
      refine lv_iload hx hb dX6_load_30 (lv_at hl 0 rfl) ?_
      refine cRV (As := [.int (nI ((8 * yn) + xn))]) (rest := []) hx hb hml hown hts (c_X2_isAir l G E cI cZ ((8 * yn) + xn) a_s a_s_zo fs_s h_s_zo s_zo (by first | assumption | omega | simp [bI, c_1, c_3])) k_16_16 cal_X2_isAir ⟨Nat.le_of_ble_eq_true rfl, Nat.le_of_ble_eq_true rfl⟩ hE hlow hS hK [0, 1] rfl hP [1, 2] rfl 1 2 rfl rfl rfl hl.1 rfl (Nat.le_of_ble_eq_true rfl) dX6_load_32 ⟨Nat.zero_le _, Nat.zero_le _⟩ ?_
      refine lv_if_eq (tgt := 41) hx hb dX6_load_35 (by decide) (fun c_4 => ?_) (fun c_4 => ?_)
      · skip
        have c_4 : (isAirS s_zo ((8 * yn) + xn)) = false := bI_f c_4
        refine lv_iload_n hx hb dX6_load_41 rfl (lv_at hl 2 rfl) ?_
        by_cases c_5 : kd = 0
        · skip
          refine lv_tableIn (tgt := 72) (off := 30) hx hb dX6_load_42 (by rw [c_5]; decide) (by rw [c_5]; decide) (by rw [c_5]; decide) (by decide) ?_
          refine lv_aload_n hx hb dX6_load_72 rfl (lv_at hl 1 rfl) ?_
          refine lv_iload hx hb dX6_load_73 (lv_at hl 0 rfl) ?_
          refine cWVi (As := [.int (nI ((8 * yn) + xn))]) (rest := []) hx hb hml hown hts (c_X6_loadOfPart l G E cI cZ ((8 * yn) + xn) o a_x a_s a_t a_i a_j a_ke a_w a_d a_r a_g ff tr (by first | assumption | omega | simp [bI, c_1, c_3, c_4, c_5])) k_18_6 cal_X6_loadOfPart ⟨Nat.le_of_ble_eq_true rfl, Nat.le_of_ble_eq_true rfl⟩ hE hA hlow hD hS hK [0, 1] rfl hP [0] rfl (by decide) [o] rfl (fun _ => rfl) [1, 2, 3, 4] [(a_s, .inr (2, fs_s)), (a_s_zo, .inl (cI, 48, .inl s_zo)), (a_s_he, .inl (cI, 48, .inl s_he)), (a_s_hd, .inl (cI, 6, .inl s_hd))] (fun _ => [(o, .inr (6, [.ref a_x, .ref a_s, .ref a_t, .ref a_i, .ref a_j, .ref a_ke, .ref a_w, .ref a_d, .ref a_r, .ref a_g, .int ff, .long (tr + 1)])), (a_s, .inr (2, fs_s)), (a_s_zo, .inl (cI, 48, .inl s_zo)), (a_s_he, .inl (cI, 48, .inl s_he)), (a_s_hd, .inl (cI, 6, .inl s_hd))]) 5 rfl (fun _ => rfl) (fun _ => rfl) (fun _ => rfl) (by decide) (by decide) 0 6 rfl rfl rfl hl.1 rfl (Nat.le_of_ble_eq_true rfl) dX6_load_75 ⟨Nat.zero_le _, Nat.zero_le _⟩ (fun r_ u H locs hr_ hP hD hS => ?_)
          subst hr_
          have hP : va_P G vwCl [(o, .inr (6, [.ref a_x, .ref a_s, .ref a_t, .ref a_i, .ref a_j, .ref a_ke, .ref a_w, .ref a_d, .ref a_r, .ref a_g, .int ff, .long (tr + 1)])), (a_s, .inr (2, fs_s)), (a_s_zo, .inl (cI, 48, .inl s_zo)), (a_s_he, .inl (cI, 48, .inl s_he)), (a_s_hd, .inl (cI, 6, .inl s_hd))] H := hP
          have hD : va_D A [(o, .inr (6, [.ref a_x, .ref a_s, .ref a_t, .ref a_i, .ref a_j, .ref a_ke, .ref a_w, .ref a_d, .ref a_r, .ref a_g, .int ff, .long (tr + 1)])), (a_s, .inr (2, fs_s)), (a_s_zo, .inl (cI, 48, .inl s_zo)), (a_s_he, .inl (cI, 48, .inl s_he)), (a_s_hd, .inl (cI, 6, .inl s_hd))] := hD
          have ew_6 : ((tr + 1) : Int64) = ltrS s_zo kd x y tr := by simp [ltrS, hpl, c_1, c_3, c_4, eq_true c_5]
          have hP : va_P G vwCl [(o, .inr (6, [.ref a_x, .ref a_s, .ref a_t, .ref a_i, .ref a_j, .ref a_ke, .ref a_w, .ref a_d, .ref a_r, .ref a_g, .int ff, .long (ltrS s_zo kd x y tr)])), (a_s, .inr (2, fs_s)), (a_s_zo, .inl (cI, 48, .inl s_zo)), (a_s_he, .inl (cI, 48, .inl s_he)), (a_s_hd, .inl (cI, 6, .inl s_hd))] H := by rw [← ew_6]; exact hP
          exact retWi () hx hb hr (rfl) hlocks dX6_load_78 hS (by simp [loadS, hpl, c_1, c_3, c_4, eq_true c_5]) hP
        by_cases c_7 : kd = 1
        · skip
          refine lv_tableIn (tgt := 79) (off := 37) hx hb dX6_load_42 (by rw [c_7]; decide) (by rw [c_7]; decide) (by rw [c_7]; decide) (by decide) ?_
          refine lv_aload_n hx hb dX6_load_79 rfl (lv_at hl 1 rfl) ?_
          refine lv_iload hx hb dX6_load_80 (lv_at hl 0 rfl) ?_
          refine cWVi (As := [.int (nI ((8 * yn) + xn))]) (rest := []) hx hb hml hown hts (c_X6_loadOfCell l G E cI cZ ((8 * yn) + xn) o a_s a_s_he a_x a_t a_i a_j a_ke a_w a_d a_r a_g ff tr fs_s h_s_he s_he (by first | assumption | omega | simp [bI, c_1, c_3, c_4, c_5, c_7])) k_18_10 cal_X6_loadOfCell ⟨Nat.le_of_ble_eq_true rfl, Nat.le_of_ble_eq_true rfl⟩ hE hA hlow hD hS hK [0, 1] rfl hP [0, 1, 3] rfl (by decide) [o, a_s, a_s_he] rfl (fun _ => rfl) [2, 4] [(a_s_zo, .inl (cI, 48, .inl s_zo)), (a_s_hd, .inl (cI, 6, .inl s_hd))] (fun _ => [(o, .inr (6, [.ref a_x, .ref a_s, .ref a_t, .ref a_i, .ref a_j, .ref a_ke, .ref a_w, .ref a_d, .ref a_r, .ref a_g, .int ff, .long ((tr + L10) + 1)])), (a_s, .inr (2, fs_s)), (a_s_zo, .inl (cI, 48, .inl s_zo)), (a_s_he, .inl (cI, 48, .inl s_he)), (a_s_hd, .inl (cI, 6, .inl s_hd))]) 5 rfl (fun _ => rfl) (fun _ => rfl) (fun _ => rfl) (by decide) (by decide) 0 6 rfl rfl rfl hl.1 rfl (Nat.le_of_ble_eq_true rfl) dX6_load_82 ⟨Nat.zero_le _, Nat.zero_le _⟩ (fun r_ u H locs hr_ hP hD hS => ?_)
          subst hr_
          have hP : va_P G vwCl [(o, .inr (6, [.ref a_x, .ref a_s, .ref a_t, .ref a_i, .ref a_j, .ref a_ke, .ref a_w, .ref a_d, .ref a_r, .ref a_g, .int ff, .long ((tr + L10) + 1)])), (a_s, .inr (2, fs_s)), (a_s_zo, .inl (cI, 48, .inl s_zo)), (a_s_he, .inl (cI, 48, .inl s_he)), (a_s_hd, .inl (cI, 6, .inl s_hd))] H := hP
          have hD : va_D A [(o, .inr (6, [.ref a_x, .ref a_s, .ref a_t, .ref a_i, .ref a_j, .ref a_ke, .ref a_w, .ref a_d, .ref a_r, .ref a_g, .int ff, .long ((tr + L10) + 1)])), (a_s, .inr (2, fs_s)), (a_s_zo, .inl (cI, 48, .inl s_zo)), (a_s_he, .inl (cI, 48, .inl s_he)), (a_s_hd, .inl (cI, 6, .inl s_hd))] := hD
          have ew_8 : (((tr + L10) + 1) : Int64) = ltrS s_zo kd x y tr := by simp [ltrS, hpl, c_1, c_3, c_4, c_5, eq_true c_7]
          have hP : va_P G vwCl [(o, .inr (6, [.ref a_x, .ref a_s, .ref a_t, .ref a_i, .ref a_j, .ref a_ke, .ref a_w, .ref a_d, .ref a_r, .ref a_g, .int ff, .long (ltrS s_zo kd x y tr)])), (a_s, .inr (2, fs_s)), (a_s_zo, .inl (cI, 48, .inl s_zo)), (a_s_he, .inl (cI, 48, .inl s_he)), (a_s_hd, .inl (cI, 6, .inl s_hd))] H := by rw [← ew_8]; exact hP
          exact retWi () hx hb hr (rfl) hlocks dX6_load_85 hS (by simp [loadS, hpl, c_1, c_3, c_4, c_5, eq_true c_7]) hP
        by_cases c_9 : kd = 2
        · skip
          refine lv_tableIn (tgt := 86) (off := 44) hx hb dX6_load_42 (by rw [c_9]; decide) (by rw [c_9]; decide) (by rw [c_9]; decide) (by decide) ?_
          refine lv_aload_n hx hb dX6_load_86 rfl (lv_at hl 1 rfl) ?_
          refine lv_iload hx hb dX6_load_87 (lv_at hl 0 rfl) ?_
          refine cWVi (As := [.int (nI ((8 * yn) + xn))]) (rest := []) hx hb hml hown hts (c_X6_loadOfDrained l G E cI cZ ((8 * yn) + xn) o a_s a_s_he a_x a_t a_i a_j a_ke a_w a_d a_r a_g ff tr fs_s h_s_he s_he (by first | assumption | omega | simp [bI, c_1, c_3, c_4, c_5, c_7, c_9])) k_18_15 cal_X6_loadOfDrained ⟨Nat.le_of_ble_eq_true rfl, Nat.le_of_ble_eq_true rfl⟩ hE hA hlow hD hS hK [0, 1] rfl hP [0, 1, 3] rfl (by decide) [o, a_s, a_s_he] rfl (fun _ => rfl) [2, 4] [(a_s_zo, .inl (cI, 48, .inl s_zo)), (a_s_hd, .inl (cI, 6, .inl s_hd))] (fun _ => [(o, .inr (6, [.ref a_x, .ref a_s, .ref a_t, .ref a_i, .ref a_j, .ref a_ke, .ref a_w, .ref a_d, .ref a_r, .ref a_g, .int ff, .long (((tr + L100) + L10) + 1)])), (a_s, .inr (2, fs_s)), (a_s_zo, .inl (cI, 48, .inl s_zo)), (a_s_he, .inl (cI, 48, .inl s_he)), (a_s_hd, .inl (cI, 6, .inl s_hd))]) 5 rfl (fun _ => rfl) (fun _ => rfl) (fun _ => rfl) (by decide) (by decide) 0 6 rfl rfl rfl hl.1 rfl (Nat.le_of_ble_eq_true rfl) dX6_load_89 ⟨Nat.zero_le _, Nat.zero_le _⟩ (fun r_ u H locs hr_ hP hD hS => ?_)
          subst hr_
          have hP : va_P G vwCl [(o, .inr (6, [.ref a_x, .ref a_s, .ref a_t, .ref a_i, .ref a_j, .ref a_ke, .ref a_w, .ref a_d, .ref a_r, .ref a_g, .int ff, .long (((tr + L100) + L10) + 1)])), (a_s, .inr (2, fs_s)), (a_s_zo, .inl (cI, 48, .inl s_zo)), (a_s_he, .inl (cI, 48, .inl s_he)), (a_s_hd, .inl (cI, 6, .inl s_hd))] H := hP
          have hD : va_D A [(o, .inr (6, [.ref a_x, .ref a_s, .ref a_t, .ref a_i, .ref a_j, .ref a_ke, .ref a_w, .ref a_d, .ref a_r, .ref a_g, .int ff, .long (((tr + L100) + L10) + 1)])), (a_s, .inr (2, fs_s)), (a_s_zo, .inl (cI, 48, .inl s_zo)), (a_s_he, .inl (cI, 48, .inl s_he)), (a_s_hd, .inl (cI, 6, .inl s_hd))] := hD
          have ew_10 : ((((tr + L100) + L10) + 1) : Int64) = ltrS s_zo kd x y tr := by simp [ltrS, hpl, c_1, c_3, c_4, c_5, c_7, eq_true c_9]
          have hP : va_P G vwCl [(o, .inr (6, [.ref a_x, .ref a_s, .ref a_t, .ref a_i, .ref a_j, .ref a_ke, .ref a_w, .ref a_d, .ref a_r, .ref a_g, .int ff, .long (ltrS s_zo kd x y tr)])), (a_s, .inr (2, fs_s)), (a_s_zo, .inl (cI, 48, .inl s_zo)), (a_s_he, .inl (cI, 48, .inl s_he)), (a_s_hd, .inl (cI, 6, .inl s_hd))] H := by rw [← ew_10]; exact hP
          exact retWi () hx hb hr (rfl) hlocks dX6_load_92 hS (by simp [loadS, hpl, c_1, c_3, c_4, c_5, c_7, eq_true c_9]) hP
        by_cases c_11 : kd = 3
        · skip
          refine lv_tableIn (tgt := 93) (off := 51) hx hb dX6_load_42 (by rw [c_11]; decide) (by rw [c_11]; decide) (by rw [c_11]; decide) (by decide) ?_
          refine lv_aload_n hx hb dX6_load_93 rfl (lv_at hl 1 rfl) ?_
          refine lv_iload hx hb dX6_load_94 (lv_at hl 0 rfl) ?_
          refine cWVi (As := [.int (nI ((8 * yn) + xn))]) (rest := []) hx hb hml hown hts (c_X6_loadOfCarried l G E cI cZ ((8 * yn) + xn) o a_s a_s_he a_x a_t a_i a_j a_ke a_w a_d a_r a_g ff tr fs_s h_s_he s_he (by first | assumption | omega | simp [bI, c_1, c_3, c_4, c_5, c_7, c_9, c_11])) k_18_20 cal_X6_loadOfCarried ⟨Nat.le_of_ble_eq_true rfl, Nat.le_of_ble_eq_true rfl⟩ hE hA hlow hD hS hK [0, 1] rfl hP [0, 1, 3] rfl (by decide) [o, a_s, a_s_he] rfl (fun _ => rfl) [2, 4] [(a_s_zo, .inl (cI, 48, .inl s_zo)), (a_s_hd, .inl (cI, 6, .inl s_hd))] (fun _ => [(o, .inr (6, [.ref a_x, .ref a_s, .ref a_t, .ref a_i, .ref a_j, .ref a_ke, .ref a_w, .ref a_d, .ref a_r, .ref a_g, .int ff, .long (((tr + L1000) + L10) + 1)])), (a_s, .inr (2, fs_s)), (a_s_zo, .inl (cI, 48, .inl s_zo)), (a_s_he, .inl (cI, 48, .inl s_he)), (a_s_hd, .inl (cI, 6, .inl s_hd))]) 5 rfl (fun _ => rfl) (fun _ => rfl) (fun _ => rfl) (by decide) (by decide) 0 6 rfl rfl rfl hl.1 rfl (Nat.le_of_ble_eq_true rfl) dX6_load_96 ⟨Nat.zero_le _, Nat.zero_le _⟩ (fun r_ u H locs hr_ hP hD hS => ?_)
          subst hr_
          have hP : va_P G vwCl [(o, .inr (6, [.ref a_x, .ref a_s, .ref a_t, .ref a_i, .ref a_j, .ref a_ke, .ref a_w, .ref a_d, .ref a_r, .ref a_g, .int ff, .long (((tr + L1000) + L10) + 1)])), (a_s, .inr (2, fs_s)), (a_s_zo, .inl (cI, 48, .inl s_zo)), (a_s_he, .inl (cI, 48, .inl s_he)), (a_s_hd, .inl (cI, 6, .inl s_hd))] H := hP
          have hD : va_D A [(o, .inr (6, [.ref a_x, .ref a_s, .ref a_t, .ref a_i, .ref a_j, .ref a_ke, .ref a_w, .ref a_d, .ref a_r, .ref a_g, .int ff, .long (((tr + L1000) + L10) + 1)])), (a_s, .inr (2, fs_s)), (a_s_zo, .inl (cI, 48, .inl s_zo)), (a_s_he, .inl (cI, 48, .inl s_he)), (a_s_hd, .inl (cI, 6, .inl s_hd))] := hD
          have ew_12 : ((((tr + L1000) + L10) + 1) : Int64) = ltrS s_zo kd x y tr := by simp [ltrS, hpl, c_1, c_3, c_4, c_5, c_7, c_9, eq_true c_11]
          have hP : va_P G vwCl [(o, .inr (6, [.ref a_x, .ref a_s, .ref a_t, .ref a_i, .ref a_j, .ref a_ke, .ref a_w, .ref a_d, .ref a_r, .ref a_g, .int ff, .long (ltrS s_zo kd x y tr)])), (a_s, .inr (2, fs_s)), (a_s_zo, .inl (cI, 48, .inl s_zo)), (a_s_he, .inl (cI, 48, .inl s_he)), (a_s_hd, .inl (cI, 6, .inl s_hd))] H := by rw [← ew_12]; exact hP
          exact retWi () hx hb hr (rfl) hlocks dX6_load_99 hS (by simp [loadS, hpl, c_1, c_3, c_4, c_5, c_7, c_9, eq_true c_11]) hP
        refine lv_tableOut (tgt := 100) hx hb dX6_load_42 (tbl_out3 c_5 c_7 c_9 c_11) (by decide) ?_
        refine lv_aload_n hx hb dX6_load_100 rfl (lv_at hl 1 rfl) ?_
        refine lv_iload hx hb dX6_load_101 (lv_at hl 0 rfl) ?_
        refine cWVi (As := [.int (nI ((8 * yn) + xn))]) (rest := []) hx hb hml hown hts (c_X6_loadOfCrack l G E cI cZ ((8 * yn) + xn) o a_s a_s_zo a_s_hd a_x a_t a_i a_j a_ke a_w a_d a_r a_g ff tr fs_s h_s_zo h_s_hd s_zo s_hd (by first | assumption | omega | simp [bI, c_1, c_3, c_4, c_5, c_7, c_9, c_11])) k_19_1 cal_X6_loadOfCrack ⟨Nat.le_of_ble_eq_true rfl, Nat.le_of_ble_eq_true rfl⟩ hE hA hlow hD hS hK [0, 1] rfl hP [0, 1, 2, 4] rfl (by decide) [o, a_s, a_s_zo, a_s_hd] rfl (fun _ => rfl) [3] [(a_s_he, .inl (cI, 48, .inl s_he))] (fun _ => [(o, .inr (6, [.ref a_x, .ref a_s, .ref a_t, .ref a_i, .ref a_j, .ref a_ke, .ref a_w, .ref a_d, .ref a_r, .ref a_g, .int ff, .long ((tr + L10000) + 1)])), (a_s, .inr (2, fs_s)), (a_s_zo, .inl (cI, 48, .inl s_zo)), (a_s_he, .inl (cI, 48, .inl s_he)), (a_s_hd, .inl (cI, 6, .inl s_hd))]) 5 rfl (fun _ => rfl) (fun _ => rfl) (fun _ => rfl) (by decide) (by decide) 0 6 rfl rfl rfl hl.1 rfl (Nat.le_of_ble_eq_true rfl) dX6_load_103 ⟨Nat.zero_le _, Nat.zero_le _⟩ (fun r_ u H locs hr_ hP hD hS => ?_)
        subst hr_
        have hP : va_P G vwCl [(o, .inr (6, [.ref a_x, .ref a_s, .ref a_t, .ref a_i, .ref a_j, .ref a_ke, .ref a_w, .ref a_d, .ref a_r, .ref a_g, .int ff, .long ((tr + L10000) + 1)])), (a_s, .inr (2, fs_s)), (a_s_zo, .inl (cI, 48, .inl s_zo)), (a_s_he, .inl (cI, 48, .inl s_he)), (a_s_hd, .inl (cI, 6, .inl s_hd))] H := hP
        have hD : va_D A [(o, .inr (6, [.ref a_x, .ref a_s, .ref a_t, .ref a_i, .ref a_j, .ref a_ke, .ref a_w, .ref a_d, .ref a_r, .ref a_g, .int ff, .long ((tr + L10000) + 1)])), (a_s, .inr (2, fs_s)), (a_s_zo, .inl (cI, 48, .inl s_zo)), (a_s_he, .inl (cI, 48, .inl s_he)), (a_s_hd, .inl (cI, 6, .inl s_hd))] := hD
        have ew_13 : (((tr + L10000) + 1) : Int64) = ltrS s_zo kd x y tr := by simp [ltrS, hpl, c_1, c_3, c_4, c_5, c_7, c_9, c_11]
        have hP : va_P G vwCl [(o, .inr (6, [.ref a_x, .ref a_s, .ref a_t, .ref a_i, .ref a_j, .ref a_ke, .ref a_w, .ref a_d, .ref a_r, .ref a_g, .int ff, .long (ltrS s_zo kd x y tr)])), (a_s, .inr (2, fs_s)), (a_s_zo, .inl (cI, 48, .inl s_zo)), (a_s_he, .inl (cI, 48, .inl s_he)), (a_s_hd, .inl (cI, 6, .inl s_hd))] H := by rw [← ew_13]; exact hP
        exact retWi () hx hb hr (rfl) hlocks dX6_load_106 hS (by simp [loadS, hpl, c_1, c_3, c_4, c_5, c_7, c_9, c_11]) hP
      · skip
        have c_4 : (isAirS s_zo ((8 * yn) + xn)) = true := bI_t c_4
        refine lv_bipush (v := (-2)) hx hb dX6_load_38 (by decide) ?_
        have ew_14 : (tr : Int64) = ltrS s_zo kd x y tr := by simp [ltrS, hpl, c_1, c_3, c_4]
        have hP : va_P G vwCl [(o, .inr (6, [.ref a_x, .ref a_s, .ref a_t, .ref a_i, .ref a_j, .ref a_ke, .ref a_w, .ref a_d, .ref a_r, .ref a_g, .int ff, .long (ltrS s_zo kd x y tr)])), (a_s, .inr (2, fs_s)), (a_s_zo, .inl (cI, 48, .inl s_zo)), (a_s_he, .inl (cI, 48, .inl s_he)), (a_s_hd, .inl (cI, 6, .inl s_hd))] H := by rw [← ew_14]; exact hP
        exact retWi () hx hb hr (rfl) hlocks dX6_load_40 hS (by simp [loadS, hpl, c_1, c_3, c_4]) hP
    · skip
      have c_3 : (inC x y) = false := bI_f c_3
      refine lv_iconst (v := (-1)) hx hb dX6_load_17 (by decide) ?_
      have ew_15 : (tr : Int64) = ltrS s_zo kd x y tr := by simp [ltrS, c_1, c_3]
      have hP : va_P G vwCl [(o, .inr (6, [.ref a_x, .ref a_s, .ref a_t, .ref a_i, .ref a_j, .ref a_ke, .ref a_w, .ref a_d, .ref a_r, .ref a_g, .int ff, .long (ltrS s_zo kd x y tr)])), (a_s, .inr (2, fs_s)), (a_s_zo, .inl (cI, 48, .inl s_zo)), (a_s_he, .inl (cI, 48, .inl s_he)), (a_s_hd, .inl (cI, 6, .inl s_hd))] H := by rw [← ew_15]; exact hP
      exact retWi () hx hb hr (rfl) hlocks dX6_load_18 hS (by simp [loadS, c_1, c_3]) hP
