theorem cal_X6_lake : calV yX6_lake cX6_lake 3 (some .int) 1 := ⟨k_20_2, k_1_2, k_20_0, k_20_1, by decide +kernel⟩
set_option maxHeartbeats 4000000 in
set_option maxRecDepth 100000 in
theorem c_X6_lake (l : Launch) (G : va_G) (E : EvT) (cI cZ : ClassId) (v : Int32) (o : Nat) (a_s : Nat) (a_s_zo : Nat) (a_s_he : Nat) (a_s_go : Nat) (a_s_le : Nat) (a_s_hd : Nat) (a_s_gn : Nat) (a_s_lv : Nat) (a_s_pa : Nat) (fs_o : List Value) (h_o_s : fs_o[1]? = some (.ref a_s)) (s_la : Int32) : cWi (S := Unit) l G E yX6_lake cX6_lake 3 (some .int) 2 [(cI, .int), (cZ, .boolean)] [.ref o, .int v] [(o, .inr (6, fs_o)), (a_s, .inr (2, [.ref a_s_zo, .ref a_s_he, .ref a_s_go, .ref a_s_le, .ref a_s_hd, .ref a_s_gn, .int s_la, .ref a_s_lv, .ref a_s_pa]))] (fun r _ => r = (if wiB v 0 6 then s_la else (-1))) (fun _ => [(o, .inr (6, fs_o)), (a_s, .inr (2, [.ref a_s_zo, .ref a_s_he, .ref a_s_go, .ref a_s_le, .ref a_s_hd, .ref a_s_gn, .int (if wiB v 0 6 then v else s_la), .ref a_s_lv, .ref a_s_pa]))]) := by
  refine mkWi (by decide) (Nat.le_of_ble_eq_true rfl) ?_
  intro zp ze s zm args below meth zc hx hb hr hml hown hts hlocks hE hK A hA hlow H locs hP hD hS ls hl
  have hl : lv_has ls 3 [(0, .ref o), (1, .int v)] := hl
  refine lv_iload_n hx hb dX6_lake_0 rfl (lv_at hl 1 rfl) ?_
  refine lv_iconst (v := 0) hx hb dX6_lake_1 (by decide) ?_
  refine lv_bipush (v := 6) hx hb dX6_lake_2 (by decide) ?_
  refine cRS (As := [.int v, .int 0, .int 6]) (rest := []) hx hb hml hown hts (c_X6_within l G E cI cZ v 0 6) k_7_8 cal_X6_within ⟨Nat.le_of_ble_eq_true rfl, Nat.le_of_ble_eq_true rfl⟩ hE hlow hS hK [0, 1] rfl hP [] rfl rfl hl.1 rfl (Nat.le_of_ble_eq_true rfl) dX6_lake_4 ⟨Nat.zero_le _, Nat.zero_le _⟩ ?_
  refine lv_if_ne (tgt := 12) hx hb dX6_lake_7 (by decide) (fun c_1 => ?_) (fun c_1 => ?_)
  · skip
    have c_1 : (wiB v 0 6) = true := bI_t c_1
    refine lv_aload_n hx hb dX6_lake_12 rfl (lv_at hl 0 rfl) ?_
    refine va_get (D := G) (ci := 6) (v := .ref a_s) (C := RX6) (T := TX6) (N := 12) hx hb hts inlX6 hown hK hP 0 rfl rfl 1 (by decide) (hts (.fieldLink RX6 19 "EarthBanks" "slice" "LEarthBanks$Slice;") k_1_20) (fun _ h9 => h9) h_o_s dX6_lake_13 ?_
    refine va_get (D := G) (ci := 2) (v := .int s_la) (C := RX2) (T := TX2) (N := 9) hx hb hts inlX2 hown hK hP 1 rfl rfl 6 (by decide) (hts (.fieldLink RX6 91 "EarthBanks$Slice" "lakeLevel" "I") k_8_17) (fun _ h9 => h9) rfl dX6_lake_16 ?_
    refine lv_istore_n (lv' := [(2, .int s_la), (0, .ref o), (1, .int v)]) hx hb dX6_lake_19 rfl hl (by decide) rfl (fun ls hl => ?_)
    refine lv_aload_n hx hb dX6_lake_20 rfl (lv_at hl 1 rfl) ?_
    refine va_get (D := G) (ci := 6) (v := .ref a_s) (C := RX6) (T := TX6) (N := 12) hx hb hts inlX6 hown hK hP 0 rfl rfl 1 (by decide) (hts (.fieldLink RX6 19 "EarthBanks" "slice" "LEarthBanks$Slice;") k_1_20) (fun _ h9 => h9) h_o_s dX6_lake_21 ?_
    refine lv_iload_n hx hb dX6_lake_24 rfl (lv_at hl 2 rfl) ?_
    refine va_put (D := G) (ci := 2) (v := .int v) (ty := .int) (C := RX2) (T := TX2) (N := 9) hx hb hts inlX2 tyX2 tyX2_ok nmX2 hown hK hP hD hS 1 rfl rfl 6 (by decide) (hts (.fieldLink RX6 91 "EarthBanks$Slice" "lakeLevel" "I") k_8_17) (fun _ h9 => h9) rfl (by decide +kernel) (rfl) (rfl) (Nat.le_of_ble_eq_true rfl) dX6_lake_25 (fun H locs hP hD hS => ?_)
    have hP : va_P G vwCl [(o, .inr (6, fs_o)), (a_s, .inr (2, [.ref a_s_zo, .ref a_s_he, .ref a_s_go, .ref a_s_le, .ref a_s_hd, .ref a_s_gn, .int v, .ref a_s_lv, .ref a_s_pa]))] H := hP
    have hD : va_D A [(o, .inr (6, fs_o)), (a_s, .inr (2, [.ref a_s_zo, .ref a_s_he, .ref a_s_go, .ref a_s_le, .ref a_s_hd, .ref a_s_gn, .int v, .ref a_s_lv, .ref a_s_pa]))] := hD
    refine lv_iload_n hx hb dX6_lake_28 rfl (lv_at hl 0 rfl) ?_
    have ew_2 : (v : Int32) = if wiB v 0 6 then v else s_la := by simp [bI, c_1]
    have hP : va_P G vwCl [(o, .inr (6, fs_o)), (a_s, .inr (2, [.ref a_s_zo, .ref a_s_he, .ref a_s_go, .ref a_s_le, .ref a_s_hd, .ref a_s_gn, .int (if wiB v 0 6 then v else s_la), .ref a_s_lv, .ref a_s_pa]))] H := by rw [← ew_2]; exact hP
    exact retWi () hx hb hr (rfl) hlocks dX6_lake_29 hS (by simp [bI, c_1]) hP
  · skip
    have c_1 : (wiB v 0 6) = false := bI_f c_1
    refine lv_iconst (v := (-1)) hx hb dX6_lake_10 (by decide) ?_
    have ew_3 : (s_la : Int32) = if wiB v 0 6 then v else s_la := by simp [bI, c_1]
    have hP : va_P G vwCl [(o, .inr (6, fs_o)), (a_s, .inr (2, [.ref a_s_zo, .ref a_s_he, .ref a_s_go, .ref a_s_le, .ref a_s_hd, .ref a_s_gn, .int (if wiB v 0 6 then v else s_la), .ref a_s_lv, .ref a_s_pa]))] H := by rw [← ew_3]; exact hP
    exact retWi () hx hb hr (rfl) hlocks dX6_lake_11 hS (by simp [bI, c_1]) hP
theorem cal_X6_sweep : calV yX6_sweep cX6_sweep 2 (some .int) 1 := ⟨k_20_10, k_1_2, k_20_8, k_20_9, by decide +kernel⟩
set_option maxHeartbeats 4000000 in
set_option maxRecDepth 100000 in
theorem c_X6_sweep (l : Launch) (G : va_G) (E : EvT) (cI cZ : ClassId) (v : Int32) (o : Nat) (a_s : Nat) (a_s_zo : Nat) (a_s_he : Nat) (a_s_go : Nat) (a_s_le : Nat) (a_s_pa : Nat) (fs_o : List Value) (h_o_s : fs_o[1]? = some (.ref a_s)) (s_la : Int32) (fs_s : List Value) (h_s_pa : fs_s[8]? = some (.ref a_s_pa)) (h_s_zo : fs_s[0]? = some (.ref a_s_zo)) (h_s_go : fs_s[2]? = some (.ref a_s_go)) (h_s_le : fs_s[3]? = some (.ref a_s_le)) (h_s_la : fs_s[6]? = some (.int s_la)) (h_s_he : fs_s[1]? = some (.ref a_s_he)) (s_zo : Nat → Int32) (s_he : Nat → Int32) (s_go : Nat → Int32) (s_le : Nat → Int32) (s_pa : Nat → Int32) : cWi (S := (Nat → Int32)) l G E yX6_sweep cX6_sweep 2 (some .int) 6 [(cI, .int), (cZ, .boolean)] [.ref o, .int v] [(o, .inr (6, fs_o)), (a_s, .inr (2, fs_s)), (a_s_zo, .inl (cI, 48, .inl s_zo)), (a_s_he, .inl (cI, 48, .inl s_he)), (a_s_go, .inl (cI, 48, .inl s_go)), (a_s_le, .inl (cI, 6, .inl s_le)), (a_s_pa, .inl (cI, 48, .inl s_pa))] (fun r _ => r = (if wiB v 1 100 then cntS (wetS s_zo (swS (paS s_zo s_go s_le) s_la s_he v.toNatClampNeg) s_go) 48 else (-1))) (fun u => [(o, .inr (6, fs_o)), (a_s, .inr (2, fs_s)), (a_s_zo, .inl (cI, 48, .inl s_zo)), (a_s_he, .inl (cI, 48, .inl (if wiB v 1 100 then swS (paS s_zo s_go s_le) s_la s_he v.toNatClampNeg else s_he))), (a_s_go, .inl (cI, 48, .inl s_go)), (a_s_le, .inl (cI, 6, .inl s_le)), (a_s_pa, .inl (cI, 48, .inl u))]) := by
  refine mkWi (by decide) (Nat.le_of_ble_eq_true rfl) ?_
  intro zp ze s zm args below meth zc hx hb hr hml hown hts hlocks hE hK A hA hlow H locs hP hD hS ls hl
  have hl : lv_has ls 2 [(0, .ref o), (1, .int v)] := hl
  refine lv_iload_n hx hb dX6_sweep_0 rfl (lv_at hl 1 rfl) ?_
  refine lv_iconst (v := 1) hx hb dX6_sweep_1 (by decide) ?_
  refine lv_bipush (v := 100) hx hb dX6_sweep_2 (by decide) ?_
  refine cRS (As := [.int v, .int 1, .int 100]) (rest := []) hx hb hml hown hts (c_X6_within l G E cI cZ v 1 100) k_7_8 cal_X6_within ⟨Nat.le_of_ble_eq_true rfl, Nat.le_of_ble_eq_true rfl⟩ hE hlow hS hK [0, 1] rfl hP [] rfl rfl hl.1 rfl (Nat.le_of_ble_eq_true rfl) dX6_sweep_4 ⟨Nat.zero_le _, Nat.zero_le _⟩ ?_
  refine lv_if_ne (tgt := 12) hx hb dX6_sweep_7 (by decide) (fun c_1 => ?_) (fun c_1 => ?_)
  · skip
    have c_1 : (wiB v 1 100) = true := bI_t c_1
    obtain ⟨vn, h1v9, hv9, hev, hcv⟩ := wiB_1 (M := 100) (by omega) c_1
    have hl : lv_has ls 2 [(0, .ref o), (1, .int (nI vn))] := by rw [hev] at hl; exact hl
    refine lv_aload_n hx hb dX6_sweep_12 rfl (lv_at hl 0 rfl) ?_
    refine va_get (D := G) (ci := 6) (v := .ref a_s) (C := RX6) (T := TX6) (N := 12) hx hb hts inlX6 hown hK hP 0 rfl rfl 1 (by decide) (hts (.fieldLink RX6 19 "EarthBanks" "slice" "LEarthBanks$Slice;") k_1_20) (fun _ h9 => h9) h_o_s dX6_sweep_13 ?_
    refine lv_iload_n hx hb dX6_sweep_16 rfl (lv_at hl 1 rfl) ?_
    refine cWVv (As := [.int (nI vn)]) (rest := []) hx hb hml hown hts (c_X2_runSweeps l G E cI cZ vn a_s a_s_zo a_s_he a_s_go a_s_le a_s_pa s_la fs_s h_s_pa h_s_zo h_s_go h_s_le h_s_la h_s_he s_zo s_he s_go s_le s_pa (by first | assumption | omega | simp [bI, c_1])) k_20_11 cal_X2_runSweeps ⟨Nat.le_of_ble_eq_true rfl, Nat.le_of_ble_eq_true rfl⟩ hE hA hlow hD hS hK [0, 1] rfl hP [1, 2, 3, 4, 5, 6] rfl (by decide) [a_s, a_s_zo, a_s_he, a_s_go, a_s_le, a_s_pa] rfl (fun _ => rfl) [0] [(o, .inr (6, fs_o))] (fun _ => [(o, .inr (6, fs_o)), (a_s, .inr (2, fs_s)), (a_s_zo, .inl (cI, 48, .inl s_zo)), (a_s_he, .inl (cI, 48, .inl (swS (paS s_zo s_go s_le) s_la s_he vn))), (a_s_go, .inl (cI, 48, .inl s_go)), (a_s_le, .inl (cI, 6, .inl s_le)), (a_s_pa, .inl (cI, 48, .inl (paS s_zo s_go s_le)))]) 7 rfl (fun _ => rfl) (fun _ => rfl) (fun _ => rfl) (by decide) (by decide) 1 2 rfl rfl rfl hl.1 rfl (Nat.le_of_ble_eq_true rfl) dX6_sweep_17 ⟨Nat.zero_le _, Nat.zero_le _⟩ (fun u H locs hr_ hP hD hS => ?_)
    have hP : va_P G vwCl [(o, .inr (6, fs_o)), (a_s, .inr (2, fs_s)), (a_s_zo, .inl (cI, 48, .inl s_zo)), (a_s_he, .inl (cI, 48, .inl (swS (paS s_zo s_go s_le) s_la s_he vn))), (a_s_go, .inl (cI, 48, .inl s_go)), (a_s_le, .inl (cI, 6, .inl s_le)), (a_s_pa, .inl (cI, 48, .inl (paS s_zo s_go s_le)))] H := hP
    have hD : va_D A [(o, .inr (6, fs_o)), (a_s, .inr (2, fs_s)), (a_s_zo, .inl (cI, 48, .inl s_zo)), (a_s_he, .inl (cI, 48, .inl (swS (paS s_zo s_go s_le) s_la s_he vn))), (a_s_go, .inl (cI, 48, .inl s_go)), (a_s_le, .inl (cI, 6, .inl s_le)), (a_s_pa, .inl (cI, 48, .inl (paS s_zo s_go s_le)))] := hD
    refine lv_aload_n hx hb dX6_sweep_20 rfl (lv_at hl 0 rfl) ?_
    refine va_get (D := G) (ci := 6) (v := .ref a_s) (C := RX6) (T := TX6) (N := 12) hx hb hts inlX6 hown hK hP 0 rfl rfl 1 (by decide) (hts (.fieldLink RX6 19 "EarthBanks" "slice" "LEarthBanks$Slice;") k_1_20) (fun _ h9 => h9) h_o_s dX6_sweep_21 ?_
    refine cRV (As := []) (rest := []) hx hb hml hown hts (c_X2_wetCells l G E cI cZ a_s a_s_zo a_s_he a_s_go fs_s h_s_zo h_s_go h_s_he s_zo (swS (paS s_zo s_go s_le) s_la s_he vn) s_go) k_21_23 cal_X2_wetCells ⟨Nat.le_of_ble_eq_true rfl, Nat.le_of_ble_eq_true rfl⟩ hE hlow hS hK [0, 1] rfl hP [1, 2, 3, 4] rfl 1 2 rfl rfl rfl hl.1 rfl (Nat.le_of_ble_eq_true rfl) dX6_sweep_24 ⟨Nat.zero_le _, Nat.zero_le _⟩ ?_
    have ew_2 : (swS (paS s_zo s_go s_le) s_la s_he vn) = (if wiB v 1 100 then swS (paS s_zo s_go s_le) s_la s_he v.toNatClampNeg else s_he) := by simp [hcv, c_1]
    have hP : va_P G vwCl [(o, .inr (6, fs_o)), (a_s, .inr (2, fs_s)), (a_s_zo, .inl (cI, 48, .inl s_zo)), (a_s_he, .inl (cI, 48, .inl (if wiB v 1 100 then swS (paS s_zo s_go s_le) s_la s_he v.toNatClampNeg else s_he))), (a_s_go, .inl (cI, 48, .inl s_go)), (a_s_le, .inl (cI, 6, .inl s_le)), (a_s_pa, .inl (cI, 48, .inl (paS s_zo s_go s_le)))] H := by rw [← ew_2]; exact hP
    exact retWi (paS s_zo s_go s_le) hx hb hr (rfl) hlocks dX6_sweep_27 hS (by simp [hcv, c_1]) hP
  · skip
    have c_1 : (wiB v 1 100) = false := bI_f c_1
    refine lv_iconst (v := (-1)) hx hb dX6_sweep_10 (by decide) ?_
    have ew_3 : s_he = (if wiB v 1 100 then swS (paS s_zo s_go s_le) s_la s_he v.toNatClampNeg else s_he) := by simp [c_1]
    have hP : va_P G vwCl [(o, .inr (6, fs_o)), (a_s, .inr (2, fs_s)), (a_s_zo, .inl (cI, 48, .inl s_zo)), (a_s_he, .inl (cI, 48, .inl (if wiB v 1 100 then swS (paS s_zo s_go s_le) s_la s_he v.toNatClampNeg else s_he))), (a_s_go, .inl (cI, 48, .inl s_go)), (a_s_le, .inl (cI, 6, .inl s_le)), (a_s_pa, .inl (cI, 48, .inl s_pa))] H := by rw [← ew_3]; exact hP
    exact retWi (s_pa) hx hb hr (rfl) hlocks dX6_sweep_11 hS (by simp [c_1]) hP
theorem cal_X6_seep : calV yX6_seep cX6_seep 1 (some .int) 0 := ⟨k_23_14, k_1_2, k_23_12, k_23_13, by decide +kernel⟩
set_option maxHeartbeats 4000000 in
set_option maxRecDepth 100000 in
theorem c_X6_seep (l : Launch) (G : va_G) (E : EvT) (cI cZ : ClassId) (o : Nat) (a_s : Nat) (a_s_zo : Nat) (a_s_he : Nat) (a_s_go : Nat) (a_s_le : Nat) (a_s_pa : Nat) (fs_o : List Value) (h_o_s : fs_o[1]? = some (.ref a_s)) (fs_s : List Value) (h_s_pa : fs_s[8]? = some (.ref a_s_pa)) (h_s_zo : fs_s[0]? = some (.ref a_s_zo)) (h_s_go : fs_s[2]? = some (.ref a_s_go)) (h_s_le : fs_s[3]? = some (.ref a_s_le)) (h_s_he : fs_s[1]? = some (.ref a_s_he)) (s_zo : Nat → Int32) (s_he : Nat → Int32) (s_go : Nat → Int32) (s_le : Nat → Int32) (s_pa : Nat → Int32) : cWi (S := (Nat → Int32)) l G E yX6_seep cX6_seep 1 (some .int) 5 [(cI, .int), (cZ, .boolean)] [.ref o] [(o, .inr (6, fs_o)), (a_s, .inr (2, fs_s)), (a_s_zo, .inl (cI, 48, .inl s_zo)), (a_s_he, .inl (cI, 48, .inl s_he)), (a_s_go, .inl (cI, 48, .inl s_go)), (a_s_le, .inl (cI, 6, .inl s_le)), (a_s_pa, .inl (cI, 48, .inl s_pa))] (fun r _ => r = (sumS (fwT (paS s_zo s_go s_le) s_he 7) 4 / 1000)) (fun u => [(o, .inr (6, fs_o)), (a_s, .inr (2, fs_s)), (a_s_zo, .inl (cI, 48, .inl s_zo)), (a_s_he, .inl (cI, 48, .inl s_he)), (a_s_go, .inl (cI, 48, .inl s_go)), (a_s_le, .inl (cI, 6, .inl s_le)), (a_s_pa, .inl (cI, 48, .inl u))]) := by
  refine mkWi (by decide) (Nat.le_of_ble_eq_true rfl) ?_
  intro zp ze s zm args below meth zc hx hb hr hml hown hts hlocks hE hK A hA hlow H locs hP hD hS ls hl
  have hl : lv_has ls 1 [(0, .ref o)] := hl
  refine lv_aload_n hx hb dX6_seep_0 rfl (lv_at hl 0 rfl) ?_
  refine va_get (D := G) (ci := 6) (v := .ref a_s) (C := RX6) (T := TX6) (N := 12) hx hb hts inlX6 hown hK hP 0 rfl rfl 1 (by decide) (hts (.fieldLink RX6 19 "EarthBanks" "slice" "LEarthBanks$Slice;") k_1_20) (fun _ h9 => h9) h_o_s dX6_seep_1 ?_
  refine cWVi (As := []) (rest := []) hx hb hml hown hts (c_X2_seepage l G E cI cZ a_s a_s_zo a_s_he a_s_go a_s_le a_s_pa fs_s h_s_pa h_s_zo h_s_go h_s_le h_s_he s_zo s_he s_go s_le s_pa) k_23_15 cal_X2_seepage ⟨Nat.le_of_ble_eq_true rfl, Nat.le_of_ble_eq_true rfl⟩ hE hA hlow hD hS hK [0, 1] rfl hP [1, 2, 3, 4, 5, 6] rfl (by decide) [a_s, a_s_zo, a_s_he, a_s_go, a_s_le, a_s_pa] rfl (fun _ => rfl) [0] [(o, .inr (6, fs_o))] (fun _ => [(o, .inr (6, fs_o)), (a_s, .inr (2, fs_s)), (a_s_zo, .inl (cI, 48, .inl s_zo)), (a_s_he, .inl (cI, 48, .inl s_he)), (a_s_go, .inl (cI, 48, .inl s_go)), (a_s_le, .inl (cI, 6, .inl s_le)), (a_s_pa, .inl (cI, 48, .inl (paS s_zo s_go s_le)))]) 7 rfl (fun _ => rfl) (fun _ => rfl) (fun _ => rfl) (by decide) (by decide) 1 2 rfl rfl rfl hl.1 rfl (Nat.le_of_ble_eq_true rfl) dX6_seep_4 ⟨Nat.zero_le _, Nat.zero_le _⟩ (fun r_ u H locs hr_ hP hD hS => ?_)
  subst hr_
  have hP : va_P G vwCl [(o, .inr (6, fs_o)), (a_s, .inr (2, fs_s)), (a_s_zo, .inl (cI, 48, .inl s_zo)), (a_s_he, .inl (cI, 48, .inl s_he)), (a_s_go, .inl (cI, 48, .inl s_go)), (a_s_le, .inl (cI, 6, .inl s_le)), (a_s_pa, .inl (cI, 48, .inl (paS s_zo s_go s_le)))] H := hP
  have hD : va_D A [(o, .inr (6, fs_o)), (a_s, .inr (2, fs_s)), (a_s_zo, .inl (cI, 48, .inl s_zo)), (a_s_he, .inl (cI, 48, .inl s_he)), (a_s_go, .inl (cI, 48, .inl s_go)), (a_s_le, .inl (cI, 6, .inl s_le)), (a_s_pa, .inl (cI, 48, .inl (paS s_zo s_go s_le)))] := hD
  exact retWi (paS s_zo s_go s_le) hx hb hr (rfl) hlocks dX6_seep_7 hS (rfl) hP
theorem cal_X6_dry : calV yX6_dry cX6_dry 1 (some .int) 0 := ⟨k_24_2, k_1_2, k_24_0, k_24_1, by decide +kernel⟩
set_option maxHeartbeats 4000000 in
set_option maxRecDepth 100000 in
theorem c_X6_dry (l : Launch) (G : va_G) (E : EvT) (cI cZ : ClassId) (o : Nat) (a_s : Nat) (a_s_he : Nat) (fs_o : List Value) (h_o_s : fs_o[1]? = some (.ref a_s)) (fs_s : List Value) (h_s_he : fs_s[1]? = some (.ref a_s_he)) (s_he : Nat → Int32) : cWi (S := Unit) l G E yX6_dry cX6_dry 1 (some .int) 2 [(cI, .int), (cZ, .boolean)] [.ref o] [(o, .inr (6, fs_o)), (a_s, .inr (2, fs_s)), (a_s_he, .inl (cI, 48, .inl s_he))] (fun r _ => r = cntS (fun p => !decide (s_he p ≤ 0)) 48) (fun _ => [(o, .inr (6, fs_o)), (a_s, .inr (2, fs_s)), (a_s_he, .inl (cI, 48, .inl (fun _ => 0)))]) := by
  refine mkWi (by decide) (Nat.le_of_ble_eq_true rfl) ?_
  intro zp ze s zm args below meth zc hx hb hr hml hown hts hlocks hE hK A hA hlow H locs hP hD hS ls hl
  have hl : lv_has ls 1 [(0, .ref o)] := hl
  refine lv_aload_n hx hb dX6_dry_0 rfl (lv_at hl 0 rfl) ?_
  refine va_get (D := G) (ci := 6) (v := .ref a_s) (C := RX6) (T := TX6) (N := 12) hx hb hts inlX6 hown hK hP 0 rfl rfl 1 (by decide) (hts (.fieldLink RX6 19 "EarthBanks" "slice" "LEarthBanks$Slice;") k_1_20) (fun _ h9 => h9) h_o_s dX6_dry_1 ?_
  refine cWVi (As := []) (rest := []) hx hb hml hown hts (c_X2_dropHeads l G E cI cZ a_s a_s_he fs_s h_s_he s_he) k_24_3 cal_X2_dropHeads ⟨Nat.le_of_ble_eq_true rfl, Nat.le_of_ble_eq_true rfl⟩ hE hA hlow hD hS hK [0, 1] rfl hP [1, 2] rfl (by decide) [a_s, a_s_he] rfl (fun _ => rfl) [0] [(o, .inr (6, fs_o))] (fun _ => [(o, .inr (6, fs_o)), (a_s, .inr (2, fs_s)), (a_s_he, .inl (cI, 48, .inl (fun _ => 0)))]) 3 rfl (fun _ => rfl) (fun _ => rfl) (fun _ => rfl) (by decide) (by decide) 1 2 rfl rfl rfl hl.1 rfl (Nat.le_of_ble_eq_true rfl) dX6_dry_4 ⟨Nat.zero_le _, Nat.zero_le _⟩ (fun r_ u H locs hr_ hP hD hS => ?_)
  subst hr_
  have hP : va_P G vwCl [(o, .inr (6, fs_o)), (a_s, .inr (2, fs_s)), (a_s_he, .inl (cI, 48, .inl (fun _ => 0)))] H := hP
  have hD : va_D A [(o, .inr (6, fs_o)), (a_s, .inr (2, fs_s)), (a_s_he, .inl (cI, 48, .inl (fun _ => 0)))] := hD
  exact retWi () hx hb hr (rfl) hlocks dX6_dry_7 hS (rfl) hP
theorem cal_X6_filter : calV yX6_filter cX6_filter 3 (some .int) 1 := ⟨k_27_22, k_1_2, k_27_20, k_27_21, by decide +kernel⟩
set_option maxHeartbeats 4000000 in
set_option maxRecDepth 100000 in
theorem c_X6_filter (l : Launch) (G : va_G) (E : EvT) (cI cZ : ClassId) (v : Int32) (o : Nat) (a_x : Nat) (a_s : Nat) (a_t : Nat) (a_i : Nat) (a_j : Nat) (a_ke : Nat) (a_w : Nat) (a_d : Nat) (a_r : Nat) (a_g : Nat) (ff : Int32) (tr : Int64) : cWi (S := Unit) l G E yX6_filter cX6_filter 3 (some .int) 2 [(cI, .int), (cZ, .boolean)] [.ref o, .int v] [(o, .inr (6, [.ref a_x, .ref a_s, .ref a_t, .ref a_i, .ref a_j, .ref a_ke, .ref a_w, .ref a_d, .ref a_r, .ref a_g, .int ff, .long tr]))] (fun r _ => r = (if wiB v 2 9 then ff else (-1))) (fun _ => [(o, .inr (6, [.ref a_x, .ref a_s, .ref a_t, .ref a_i, .ref a_j, .ref a_ke, .ref a_w, .ref a_d, .ref a_r, .ref a_g, .int (if wiB v 2 9 then v else ff), .long tr]))]) := by
  refine mkWi (by decide) (Nat.le_of_ble_eq_true rfl) ?_
  intro zp ze s zm args below meth zc hx hb hr hml hown hts hlocks hE hK A hA hlow H locs hP hD hS ls hl
  have hl : lv_has ls 3 [(0, .ref o), (1, .int v)] := hl
  refine lv_iload_n hx hb dX6_filter_0 rfl (lv_at hl 1 rfl) ?_
  refine lv_iconst (v := 2) hx hb dX6_filter_1 (by decide) ?_
  refine lv_bipush (v := 9) hx hb dX6_filter_2 (by decide) ?_
  refine cRS (As := [.int v, .int 2, .int 9]) (rest := []) hx hb hml hown hts (c_X6_within l G E cI cZ v 2 9) k_7_8 cal_X6_within ⟨Nat.le_of_ble_eq_true rfl, Nat.le_of_ble_eq_true rfl⟩ hE hlow hS hK [0, 1] rfl hP [] rfl rfl hl.1 rfl (Nat.le_of_ble_eq_true rfl) dX6_filter_4 ⟨Nat.zero_le _, Nat.zero_le _⟩ ?_
  refine lv_if_ne (tgt := 12) hx hb dX6_filter_7 (by decide) (fun c_1 => ?_) (fun c_1 => ?_)
  · skip
    have c_1 : (wiB v 2 9) = true := bI_t c_1
    refine lv_aload_n hx hb dX6_filter_12 rfl (lv_at hl 0 rfl) ?_
    refine va_get (D := G) (ci := 6) (v := .int ff) (C := RX6) (T := TX6) (N := 12) hx hb hts inlX6 hown hK hP 0 rfl rfl 10 (by decide) (hts (.fieldLink RX6 64 "EarthBanks" "filterFactor" "I") k_2_18) (fun _ h9 => h9) rfl dX6_filter_13 ?_
    refine lv_istore_n (lv' := [(2, .int ff), (0, .ref o), (1, .int v)]) hx hb dX6_filter_16 rfl hl (by decide) rfl (fun ls hl => ?_)
    refine lv_aload_n hx hb dX6_filter_17 rfl (lv_at hl 1 rfl) ?_
    refine lv_iload_n hx hb dX6_filter_18 rfl (lv_at hl 2 rfl) ?_
    refine va_put (D := G) (ci := 6) (v := .int v) (ty := .int) (C := RX6) (T := TX6) (N := 12) hx hb hts inlX6 tyX6 tyX6_ok nmX6 hown hK hP hD hS 0 rfl rfl 10 (by decide) (hts (.fieldLink RX6 64 "EarthBanks" "filterFactor" "I") k_2_18) (fun _ h9 => h9) rfl (by decide +kernel) (rfl) (rfl) (Nat.le_of_ble_eq_true rfl) dX6_filter_19 (fun H locs hP hD hS => ?_)
    have hP : va_P G vwCl [(o, .inr (6, [.ref a_x, .ref a_s, .ref a_t, .ref a_i, .ref a_j, .ref a_ke, .ref a_w, .ref a_d, .ref a_r, .ref a_g, .int v, .long tr]))] H := hP
    have hD : va_D A [(o, .inr (6, [.ref a_x, .ref a_s, .ref a_t, .ref a_i, .ref a_j, .ref a_ke, .ref a_w, .ref a_d, .ref a_r, .ref a_g, .int v, .long tr]))] := hD
    refine lv_iload_n hx hb dX6_filter_22 rfl (lv_at hl 0 rfl) ?_
    have ew_2 : (v : Int32) = if wiB v 2 9 then v else ff := by simp [bI, c_1]
    have hP : va_P G vwCl [(o, .inr (6, [.ref a_x, .ref a_s, .ref a_t, .ref a_i, .ref a_j, .ref a_ke, .ref a_w, .ref a_d, .ref a_r, .ref a_g, .int (if wiB v 2 9 then v else ff), .long tr]))] H := by rw [← ew_2]; exact hP
    exact retWi () hx hb hr (rfl) hlocks dX6_filter_23 hS (by simp [bI, c_1]) hP
  · skip
    have c_1 : (wiB v 2 9) = false := bI_f c_1
    refine lv_iconst (v := (-1)) hx hb dX6_filter_10 (by decide) ?_
    have ew_3 : (ff : Int32) = if wiB v 2 9 then v else ff := by simp [bI, c_1]
    have hP : va_P G vwCl [(o, .inr (6, [.ref a_x, .ref a_s, .ref a_t, .ref a_i, .ref a_j, .ref a_ke, .ref a_w, .ref a_d, .ref a_r, .ref a_g, .int (if wiB v 2 9 then v else ff), .long tr]))] H := by rw [← ew_3]; exact hP
    exact retWi () hx hb hr (rfl) hlocks dX6_filter_11 hS (by simp [bI, c_1]) hP
theorem cal_X6_day : calV yX6_day cX6_day 1 (some .int) 0 := ⟨k_28_6, k_1_2, k_28_4, k_28_5, by decide +kernel⟩
set_option maxHeartbeats 4000000 in
set_option maxRecDepth 100000 in
theorem c_X6_day (l : Launch) (G : va_G) (E : EvT) (cI cZ : ClassId) (o : Nat) (a_s : Nat) (a_s_zo : Nat) (a_s_he : Nat) (a_s_go : Nat) (a_s_hd : Nat) (a_s_gn : Nat) (a_s_lv : Nat) (ff : Int32) (fs_o : List Value) (h_o_s : fs_o[1]? = some (.ref a_s)) (h_o_ff : fs_o[10]? = some (.int ff)) (fs_s : List Value) (h_s_lv : fs_s[7]? = some (.ref a_s_lv)) (h_s_go : fs_s[2]? = some (.ref a_s_go)) (h_s_zo : fs_s[0]? = some (.ref a_s_zo)) (h_s_he : fs_s[1]? = some (.ref a_s_he)) (h_s_hd : fs_s[4]? = some (.ref a_s_hd)) (h_s_gn : fs_s[5]? = some (.ref a_s_gn)) (s_zo : Nat → Int32) (s_he : Nat → Int32) (s_go : Nat → Int32) (s_hd : Nat → Int32) (s_gn : Nat → Int32) (s_lv : Nat → Int32) : cWi (S := (Nat → Int32)) l G E yX6_day cX6_day 1 (some .int) 6 [(cI, .int), (cZ, .boolean)] [.ref o] [(o, .inr (6, fs_o)), (a_s, .inr (2, fs_s)), (a_s_zo, .inl (cI, 48, .inl s_zo)), (a_s_he, .inl (cI, 48, .inl s_he)), (a_s_go, .inl (cI, 48, .inl s_go)), (a_s_hd, .inl (cI, 6, .inl s_hd)), (a_s_gn, .inl (cI, 6, .inl s_gn)), (a_s_lv, .inl (cI, 48, .inl s_lv))] (fun r _ => r = cntS (loS s_zo s_he s_go s_hd s_gn ff) 48) (fun u => [(o, .inr (6, fs_o)), (a_s, .inr (2, fs_s)), (a_s_zo, .inl (cI, 48, .inl s_zo)), (a_s_he, .inl (cI, 48, .inl s_he)), (a_s_go, .inl (cI, 48, .inl (dyS s_zo s_he s_hd s_gn ff s_go))), (a_s_hd, .inl (cI, 6, .inl s_hd)), (a_s_gn, .inl (cI, 6, .inl s_gn)), (a_s_lv, .inl (cI, 48, .inl u))]) := by
  refine mkWi (by decide) (Nat.le_of_ble_eq_true rfl) ?_
  intro zp ze s zm args below meth zc hx hb hr hml hown hts hlocks hE hK A hA hlow H locs hP hD hS ls hl
  have hl : lv_has ls 1 [(0, .ref o)] := hl
  refine lv_aload_n hx hb dX6_day_0 rfl (lv_at hl 0 rfl) ?_
  refine va_get (D := G) (ci := 6) (v := .ref a_s) (C := RX6) (T := TX6) (N := 12) hx hb hts inlX6 hown hK hP 0 rfl rfl 1 (by decide) (hts (.fieldLink RX6 19 "EarthBanks" "slice" "LEarthBanks$Slice;") k_1_20) (fun _ h9 => h9) h_o_s dX6_day_1 ?_
  refine lv_aload_n hx hb dX6_day_4 rfl (lv_at hl 0 rfl) ?_
  refine va_get (D := G) (ci := 6) (v := .int ff) (C := RX6) (T := TX6) (N := 12) hx hb hts inlX6 hown hK hP 0 rfl rfl 10 (by decide) (hts (.fieldLink RX6 64 "EarthBanks" "filterFactor" "I") k_2_18) (fun _ h9 => h9) h_o_ff dX6_day_5 ?_
  refine cWVi (As := [.int ff]) (rest := []) hx hb hml hown hts (c_X2_passDay l G E cI cZ ff a_s a_s_zo a_s_he a_s_go a_s_hd a_s_gn a_s_lv fs_s h_s_lv h_s_go h_s_zo h_s_he h_s_hd h_s_gn s_zo s_he s_go s_hd s_gn s_lv) k_28_7 cal_X2_passDay ⟨Nat.le_of_ble_eq_true rfl, Nat.le_of_ble_eq_true rfl⟩ hE hA hlow hD hS hK [0, 1] rfl hP [1, 2, 3, 4, 5, 6, 7] rfl (by decide) [a_s, a_s_zo, a_s_he, a_s_go, a_s_hd, a_s_gn, a_s_lv] rfl (fun _ => rfl) [0] [(o, .inr (6, fs_o))] (fun _ => [(o, .inr (6, fs_o)), (a_s, .inr (2, fs_s)), (a_s_zo, .inl (cI, 48, .inl s_zo)), (a_s_he, .inl (cI, 48, .inl s_he)), (a_s_go, .inl (cI, 48, .inl (dyS s_zo s_he s_hd s_gn ff s_go))), (a_s_hd, .inl (cI, 6, .inl s_hd)), (a_s_gn, .inl (cI, 6, .inl s_gn)), (a_s_lv, .inl (cI, 48, .inl (lgS s_zo s_he s_go s_hd s_gn ff)))]) 8 rfl (fun _ => rfl) (fun _ => rfl) (fun _ => rfl) (by decide) (by decide) 1 2 rfl rfl rfl hl.1 rfl (Nat.le_of_ble_eq_true rfl) dX6_day_8 ⟨Nat.zero_le _, Nat.zero_le _⟩ (fun r_ u H locs hr_ hP hD hS => ?_)
  subst hr_
  have hP : va_P G vwCl [(o, .inr (6, fs_o)), (a_s, .inr (2, fs_s)), (a_s_zo, .inl (cI, 48, .inl s_zo)), (a_s_he, .inl (cI, 48, .inl s_he)), (a_s_go, .inl (cI, 48, .inl (dyS s_zo s_he s_hd s_gn ff s_go))), (a_s_hd, .inl (cI, 6, .inl s_hd)), (a_s_gn, .inl (cI, 6, .inl s_gn)), (a_s_lv, .inl (cI, 48, .inl (lgS s_zo s_he s_go s_hd s_gn ff)))] H := hP
  have hD : va_D A [(o, .inr (6, fs_o)), (a_s, .inr (2, fs_s)), (a_s_zo, .inl (cI, 48, .inl s_zo)), (a_s_he, .inl (cI, 48, .inl s_he)), (a_s_go, .inl (cI, 48, .inl (dyS s_zo s_he s_hd s_gn ff s_go))), (a_s_hd, .inl (cI, 6, .inl s_hd)), (a_s_gn, .inl (cI, 6, .inl s_gn)), (a_s_lv, .inl (cI, 48, .inl (lgS s_zo s_he s_go s_hd s_gn ff)))] := hD
  exact retWi (lgS s_zo s_he s_go s_hd s_gn ff) hx hb hr (rfl) hlocks dX6_day_11 hS (rfl) hP
