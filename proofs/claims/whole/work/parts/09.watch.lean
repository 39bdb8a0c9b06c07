theorem cal_X4_addGauge : calV yX4_addGauge cX4_addGauge 3 (some .int) 2 := ⟨k_35_13, k_2_16, k_35_11, k_35_12, by decide +kernel⟩
set_option maxHeartbeats 4000000 in
set_option maxRecDepth 100000 in
theorem c_X4_addGauge (l : Launch) (G : va_G) (E : EvT) (cI cZ : ClassId) (n : Nat) (y1 : Int32) (y2 : Int32) (o : Nat) (a_gp : Nat) (a_gr : Nat) (a_cz : Nat) (a_cl : Nat) (a_lw : Nat) (a_gh : Nat) (nc : Int32) (sl : Int32) (gp : Nat → Int32) (gr : Nat → Int32) (hn : n ≤ 8) : cWi (S := Unit) l G E yX4_addGauge cX4_addGauge 3 (some .int) 1 [(cI, .int), (cZ, .boolean)] [.ref o, .int y1, .int y2] [(o, .inr (4, [.ref a_gp, .ref a_gr, .ref a_cz, .ref a_cl, .ref a_lw, .ref a_gh, .int (nI n), .int nc, .int sl])), (a_gp, .inl (cI, 8, .inl gp)), (a_gr, .inl (cI, 8, .inl gr))] (fun r _ => r = (if n < 8 then nI n else (-3))) (fun _ => [(o, .inr (4, [.ref a_gp, .ref a_gr, .ref a_cz, .ref a_cl, .ref a_lw, .ref a_gh, .int (nI (if n < 8 then n + 1 else n)), .int nc, .int sl])), (a_gp, .inl (cI, 8, .inl (if n < 8 then upd gp n y1 else gp))), (a_gr, .inl (cI, 8, .inl (if n < 8 then upd gr n y2 else gr)))]) := by
  refine mkWi (by decide) (Nat.le_of_ble_eq_true rfl) ?_
  intro zp ze s zm args below meth zc hx hb hr hml hown hts hlocks hE hK A hA hlow H locs hP hD hS ls hl
  have hl : lv_has ls 3 [(0, .ref o), (1, .int y1), (2, .int y2)] := hl
  refine lv_aload_n hx hb dX4_addGauge_0 rfl (lv_at hl 0 rfl) ?_
  refine va_get (D := G) (ci := 4) (v := .int (nI n)) (C := RX4) (T := TX4) (N := 9) hx hb hts inlX4 hown hK hP 0 rfl rfl 6 (by decide) (hts (.fieldLink RX4 30 "EarthBanks$Watch" "gauges" "I") k_5_19) (fun _ h9 => h9) rfl dX4_addGauge_1 ?_
  refine lv_bipush (v := 8) hx hb dX4_addGauge_4 (by decide) ?_
  refine lv_icmp_lt (tgt := 12) hx hb dX4_addGauge_6 (by decide) (fun c_1 => ?_) (fun c_1 => ?_)
  · skip
    have c_1 : n < 8 := (nI_ltI (a := n) (b := 8) (by omega) (by omega)).mp c_1
    refine lv_aload_n hx hb dX4_addGauge_12 rfl (lv_at hl 0 rfl) ?_
    refine va_get (D := G) (ci := 4) (v := .ref a_gp) (C := RX4) (T := TX4) (N := 9) hx hb hts inlX4 hown hK hP 0 rfl rfl 0 (by decide) (hts (.fieldLink RX4 9 "EarthBanks$Watch" "gaugePlaces" "[I") k_5_13) (fun _ h9 => h9) rfl dX4_addGauge_13 ?_
    refine lv_aload_n hx hb dX4_addGauge_16 rfl (lv_at hl 0 rfl) ?_
    refine va_get (D := G) (ci := 4) (v := .int (nI n)) (C := RX4) (T := TX4) (N := 9) hx hb hts inlX4 hown hK hP 0 rfl rfl 6 (by decide) (hts (.fieldLink RX4 30 "EarthBanks$Watch" "gauges" "I") k_5_19) (fun _ h9 => h9) rfl dX4_addGauge_17 ?_
    refine lv_iload_n hx hb dX4_addGauge_20 rfl (lv_at hl 1 rfl) ?_
    refine iastN (j := n) hx hb hK hP hD hS 1 0 rfl rfl (by omega) (by decide) dX4_addGauge_21 (fun H locs hP hD hS => ?_)
    have hP : va_P G vwCl [(o, .inr (4, [.ref a_gp, .ref a_gr, .ref a_cz, .ref a_cl, .ref a_lw, .ref a_gh, .int (nI n), .int nc, .int sl])), (a_gp, .inl (cI, 8, .inl (upd gp n y1))), (a_gr, .inl (cI, 8, .inl gr))] H := hP
    have hD : va_D A [(o, .inr (4, [.ref a_gp, .ref a_gr, .ref a_cz, .ref a_cl, .ref a_lw, .ref a_gh, .int (nI n), .int nc, .int sl])), (a_gp, .inl (cI, 8, .inl (upd gp n y1))), (a_gr, .inl (cI, 8, .inl gr))] := hD
    refine lv_aload_n hx hb dX4_addGauge_22 rfl (lv_at hl 0 rfl) ?_
    refine va_get (D := G) (ci := 4) (v := .ref a_gr) (C := RX4) (T := TX4) (N := 9) hx hb hts inlX4 hown hK hP 0 rfl rfl 1 (by decide) (hts (.fieldLink RX4 15 "EarthBanks$Watch" "gaugeReads" "[I") k_5_14) (fun _ h9 => h9) rfl dX4_addGauge_23 ?_
    refine lv_aload_n hx hb dX4_addGauge_26 rfl (lv_at hl 0 rfl) ?_
    refine va_get (D := G) (ci := 4) (v := .int (nI n)) (C := RX4) (T := TX4) (N := 9) hx hb hts inlX4 hown hK hP 0 rfl rfl 6 (by decide) (hts (.fieldLink RX4 30 "EarthBanks$Watch" "gauges" "I") k_5_19) (fun _ h9 => h9) rfl dX4_addGauge_27 ?_
    refine lv_iload_n hx hb dX4_addGauge_30 rfl (lv_at hl 2 rfl) ?_
    refine iastN (j := n) hx hb hK hP hD hS 2 0 rfl rfl (by omega) (by decide) dX4_addGauge_31 (fun H locs hP hD hS => ?_)
    have hP : va_P G vwCl [(o, .inr (4, [.ref a_gp, .ref a_gr, .ref a_cz, .ref a_cl, .ref a_lw, .ref a_gh, .int (nI n), .int nc, .int sl])), (a_gp, .inl (cI, 8, .inl (upd gp n y1))), (a_gr, .inl (cI, 8, .inl (upd gr n y2)))] H := hP
    have hD : va_D A [(o, .inr (4, [.ref a_gp, .ref a_gr, .ref a_cz, .ref a_cl, .ref a_lw, .ref a_gh, .int (nI n), .int nc, .int sl])), (a_gp, .inl (cI, 8, .inl (upd gp n y1))), (a_gr, .inl (cI, 8, .inl (upd gr n y2)))] := hD
    refine lv_aload_n hx hb dX4_addGauge_32 rfl (lv_at hl 0 rfl) ?_
    refine lv_dup hx hb dX4_addGauge_33 rfl ?_
    refine va_get (D := G) (ci := 4) (v := .int (nI n)) (C := RX4) (T := TX4) (N := 9) hx hb hts inlX4 hown hK hP 0 rfl rfl 6 (by decide) (hts (.fieldLink RX4 30 "EarthBanks$Watch" "gauges" "I") k_5_19) (fun _ h9 => h9) rfl dX4_addGauge_34 ?_
    refine lv_iconst (v := 1) hx hb dX4_addGauge_37 (by decide) ?_
    refine lv_iadd hx hb dX4_addGauge_38 ?_
    refine top_eq (y := nI (n + 1)) (nI_add _ _) ?_
    refine va_put (D := G) (ci := 4) (v := .int (nI (n + 1))) (ty := .int) (C := RX4) (T := TX4) (N := 9) hx hb hts inlX4 tyX4 tyX4_ok nmX4 hown hK hP hD hS 0 rfl rfl 6 (by decide) (hts (.fieldLink RX4 30 "EarthBanks$Watch" "gauges" "I") k_5_19) (fun _ h9 => h9) rfl (by decide +kernel) (rfl) (rfl) (Nat.le_of_ble_eq_true rfl) dX4_addGauge_39 (fun H locs hP hD hS => ?_)
    have hP : va_P G vwCl [(o, .inr (4, [.ref a_gp, .ref a_gr, .ref a_cz, .ref a_cl, .ref a_lw, .ref a_gh, .int (nI (n + 1)), .int nc, .int sl])), (a_gp, .inl (cI, 8, .inl (upd gp n y1))), (a_gr, .inl (cI, 8, .inl (upd gr n y2)))] H := hP
    have hD : va_D A [(o, .inr (4, [.ref a_gp, .ref a_gr, .ref a_cz, .ref a_cl, .ref a_lw, .ref a_gh, .int (nI (n + 1)), .int nc, .int sl])), (a_gp, .inl (cI, 8, .inl (upd gp n y1))), (a_gr, .inl (cI, 8, .inl (upd gr n y2)))] := hD
    refine lv_aload_n hx hb dX4_addGauge_42 rfl (lv_at hl 0 rfl) ?_
    refine va_get (D := G) (ci := 4) (v := .int (nI (n + 1))) (C := RX4) (T := TX4) (N := 9) hx hb hts inlX4 hown hK hP 0 rfl rfl 6 (by decide) (hts (.fieldLink RX4 30 "EarthBanks$Watch" "gauges" "I") k_5_19) (fun _ h9 => h9) rfl dX4_addGauge_43 ?_
    refine lv_iconst (v := 1) hx hb dX4_addGauge_46 (by decide) ?_
    refine lv_isub hx hb dX4_addGauge_47 ?_
    refine top_eq (y := nI ((n + 1) - 1)) (pk_sub (a := (n + 1)) (b := 1) (by omega)) ?_
    have ew_2 : (nI (n + 1) : Int32) = nI (if n < 8 then n + 1 else n) := by simp [bI, c_1]
    have ew_3 : (upd gp n y1) = (if n < 8 then upd gp n y1 else gp) := by simp [bI, c_1]
    have ew_4 : (upd gr n y2) = (if n < 8 then upd gr n y2 else gr) := by simp [bI, c_1]
    have hP : va_P G vwCl [(o, .inr (4, [.ref a_gp, .ref a_gr, .ref a_cz, .ref a_cl, .ref a_lw, .ref a_gh, .int (nI (if n < 8 then n + 1 else n)), .int nc, .int sl])), (a_gp, .inl (cI, 8, .inl (if n < 8 then upd gp n y1 else gp))), (a_gr, .inl (cI, 8, .inl (if n < 8 then upd gr n y2 else gr)))] H := by rw [← ew_2, ← ew_3, ← ew_4]; exact hP
    exact retWi () hx hb hr (rfl) hlocks dX4_addGauge_48 hS (by simp [bI, c_1]) hP
  · skip
    have c_1 : ¬ n < 8 := fun h9 => c_1 ((nI_ltI (a := n) (b := 8) (by omega) (by omega)).mpr h9)
    refine lv_bipush (v := (-3)) hx hb dX4_addGauge_9 (by decide) ?_
    have ew_5 : (nI n : Int32) = nI (if n < 8 then n + 1 else n) := by simp [bI, c_1]
    have ew_6 : gp = (if n < 8 then upd gp n y1 else gp) := by simp [bI, c_1]
    have ew_7 : gr = (if n < 8 then upd gr n y2 else gr) := by simp [bI, c_1]
    have hP : va_P G vwCl [(o, .inr (4, [.ref a_gp, .ref a_gr, .ref a_cz, .ref a_cl, .ref a_lw, .ref a_gh, .int (nI (if n < 8 then n + 1 else n)), .int nc, .int sl])), (a_gp, .inl (cI, 8, .inl (if n < 8 then upd gp n y1 else gp))), (a_gr, .inl (cI, 8, .inl (if n < 8 then upd gr n y2 else gr)))] H := by rw [← ew_5, ← ew_6, ← ew_7]; exact hP
    exact retWi () hx hb hr (rfl) hlocks dX4_addGauge_11 hS (by simp [bI, c_1]) hP
theorem cal_X4_addCause : calV yX4_addCause cX4_addCause 3 (some .int) 2 := ⟨k_36_2, k_2_16, k_36_0, k_36_1, by decide +kernel⟩
set_option maxHeartbeats 4000000 in
set_option maxRecDepth 100000 in
theorem c_X4_addCause (l : Launch) (G : va_G) (E : EvT) (cI cZ : ClassId) (n : Nat) (y1 : Int32) (y2 : Int32) (o : Nat) (a_cz : Nat) (a_cl : Nat) (a_gp : Nat) (a_gr : Nat) (a_lw : Nat) (a_gh : Nat) (ng : Int32) (sl : Int32) (cz : Nat → Int32) (cl : Nat → Int32) (hn : n ≤ 8) : cWi (S := Unit) l G E yX4_addCause cX4_addCause 3 (some .int) 1 [(cI, .int), (cZ, .boolean)] [.ref o, .int y1, .int y2] [(o, .inr (4, [.ref a_gp, .ref a_gr, .ref a_cz, .ref a_cl, .ref a_lw, .ref a_gh, .int ng, .int (nI n), .int sl])), (a_cz, .inl (cI, 8, .inl cz)), (a_cl, .inl (cI, 8, .inl cl))] (fun r _ => r = (if n < 8 then nI n else (-3))) (fun _ => [(o, .inr (4, [.ref a_gp, .ref a_gr, .ref a_cz, .ref a_cl, .ref a_lw, .ref a_gh, .int ng, .int (nI (if n < 8 then n + 1 else n)), .int sl])), (a_cz, .inl (cI, 8, .inl (if n < 8 then upd cz n y1 else cz))), (a_cl, .inl (cI, 8, .inl (if n < 8 then upd cl n y2 else cl)))]) := by
  refine mkWi (by decide) (Nat.le_of_ble_eq_true rfl) ?_
  intro zp ze s zm args below meth zc hx hb hr hml hown hts hlocks hE hK A hA hlow H locs hP hD hS ls hl
  have hl : lv_has ls 3 [(0, .ref o), (1, .int y1), (2, .int y2)] := hl
  refine lv_aload_n hx hb dX4_addCause_0 rfl (lv_at hl 0 rfl) ?_
  refine va_get (D := G) (ci := 4) (v := .int (nI n)) (C := RX4) (T := TX4) (N := 9) hx hb hts inlX4 hown hK hP 0 rfl rfl 7 (by decide) (hts (.fieldLink RX4 34 "EarthBanks$Watch" "causes" "I") k_5_20) (fun _ h9 => h9) rfl dX4_addCause_1 ?_
  refine lv_bipush (v := 8) hx hb dX4_addCause_4 (by decide) ?_
  refine lv_icmp_lt (tgt := 12) hx hb dX4_addCause_6 (by decide) (fun c_1 => ?_) (fun c_1 => ?_)
  · skip
    have c_1 : n < 8 := (nI_ltI (a := n) (b := 8) (by omega) (by omega)).mp c_1
    refine lv_aload_n hx hb dX4_addCause_12 rfl (lv_at hl 0 rfl) ?_
    refine va_get (D := G) (ci := 4) (v := .ref a_cz) (C := RX4) (T := TX4) (N := 9) hx hb hts inlX4 hown hK hP 0 rfl rfl 2 (by decide) (hts (.fieldLink RX4 18 "EarthBanks$Watch" "causeZones" "[I") k_5_15) (fun _ h9 => h9) rfl dX4_addCause_13 ?_
    refine lv_aload_n hx hb dX4_addCause_16 rfl (lv_at hl 0 rfl) ?_
    refine va_get (D := G) (ci := 4) (v := .int (nI n)) (C := RX4) (T := TX4) (N := 9) hx hb hts inlX4 hown hK hP 0 rfl rfl 7 (by decide) (hts (.fieldLink RX4 34 "EarthBanks$Watch" "causes" "I") k_5_20) (fun _ h9 => h9) rfl dX4_addCause_17 ?_
    refine lv_iload_n hx hb dX4_addCause_20 rfl (lv_at hl 1 rfl) ?_
    refine iastN (j := n) hx hb hK hP hD hS 1 0 rfl rfl (by omega) (by decide) dX4_addCause_21 (fun H locs hP hD hS => ?_)
    have hP : va_P G vwCl [(o, .inr (4, [.ref a_gp, .ref a_gr, .ref a_cz, .ref a_cl, .ref a_lw, .ref a_gh, .int ng, .int (nI n), .int sl])), (a_cz, .inl (cI, 8, .inl (upd cz n y1))), (a_cl, .inl (cI, 8, .inl cl))] H := hP
    have hD : va_D A [(o, .inr (4, [.ref a_gp, .ref a_gr, .ref a_cz, .ref a_cl, .ref a_lw, .ref a_gh, .int ng, .int (nI n), .int sl])), (a_cz, .inl (cI, 8, .inl (upd cz n y1))), (a_cl, .inl (cI, 8, .inl cl))] := hD
    refine lv_aload_n hx hb dX4_addCause_22 rfl (lv_at hl 0 rfl) ?_
    refine va_get (D := G) (ci := 4) (v := .ref a_cl) (C := RX4) (T := TX4) (N := 9) hx hb hts inlX4 hown hK hP 0 rfl rfl 3 (by decide) (hts (.fieldLink RX4 21 "EarthBanks$Watch" "causeLeads" "[I") k_5_16) (fun _ h9 => h9) rfl dX4_addCause_23 ?_
    refine lv_aload_n hx hb dX4_addCause_26 rfl (lv_at hl 0 rfl) ?_
    refine va_get (D := G) (ci := 4) (v := .int (nI n)) (C := RX4) (T := TX4) (N := 9) hx hb hts inlX4 hown hK hP 0 rfl rfl 7 (by decide) (hts (.fieldLink RX4 34 "EarthBanks$Watch" "causes" "I") k_5_20) (fun _ h9 => h9) rfl dX4_addCause_27 ?_
    refine lv_iload_n hx hb dX4_addCause_30 rfl (lv_at hl 2 rfl) ?_
    refine iastN (j := n) hx hb hK hP hD hS 2 0 rfl rfl (by omega) (by decide) dX4_addCause_31 (fun H locs hP hD hS => ?_)
    have hP : va_P G vwCl [(o, .inr (4, [.ref a_gp, .ref a_gr, .ref a_cz, .ref a_cl, .ref a_lw, .ref a_gh, .int ng, .int (nI n), .int sl])), (a_cz, .inl (cI, 8, .inl (upd cz n y1))), (a_cl, .inl (cI, 8, .inl (upd cl n y2)))] H := hP
    have hD : va_D A [(o, .inr (4, [.ref a_gp, .ref a_gr, .ref a_cz, .ref a_cl, .ref a_lw, .ref a_gh, .int ng, .int (nI n), .int sl])), (a_cz, .inl (cI, 8, .inl (upd cz n y1))), (a_cl, .inl (cI, 8, .inl (upd cl n y2)))] := hD
    refine lv_aload_n hx hb dX4_addCause_32 rfl (lv_at hl 0 rfl) ?_
    refine lv_dup hx hb dX4_addCause_33 rfl ?_
    refine va_get (D := G) (ci := 4) (v := .int (nI n)) (C := RX4) (T := TX4) (N := 9) hx hb hts inlX4 hown hK hP 0 rfl rfl 7 (by decide) (hts (.fieldLink RX4 34 "EarthBanks$Watch" "causes" "I") k_5_20) (fun _ h9 => h9) rfl dX4_addCause_34 ?_
    refine lv_iconst (v := 1) hx hb dX4_addCause_37 (by decide) ?_
    refine lv_iadd hx hb dX4_addCause_38 ?_
    refine top_eq (y := nI (n + 1)) (nI_add _ _) ?_
    refine va_put (D := G) (ci := 4) (v := .int (nI (n + 1))) (ty := .int) (C := RX4) (T := TX4) (N := 9) hx hb hts inlX4 tyX4 tyX4_ok nmX4 hown hK hP hD hS 0 rfl rfl 7 (by decide) (hts (.fieldLink RX4 34 "EarthBanks$Watch" "causes" "I") k_5_20) (fun _ h9 => h9) rfl (by decide +kernel) (rfl) (rfl) (Nat.le_of_ble_eq_true rfl) dX4_addCause_39 (fun H locs hP hD hS => ?_)
    have hP : va_P G vwCl [(o, .inr (4, [.ref a_gp, .ref a_gr, .ref a_cz, .ref a_cl, .ref a_lw, .ref a_gh, .int ng, .int (nI (n + 1)), .int sl])), (a_cz, .inl (cI, 8, .inl (upd cz n y1))), (a_cl, .inl (cI, 8, .inl (upd cl n y2)))] H := hP
    have hD : va_D A [(o, .inr (4, [.ref a_gp, .ref a_gr, .ref a_cz, .ref a_cl, .ref a_lw, .ref a_gh, .int ng, .int (nI (n + 1)), .int sl])), (a_cz, .inl (cI, 8, .inl (upd cz n y1))), (a_cl, .inl (cI, 8, .inl (upd cl n y2)))] := hD
    refine lv_aload_n hx hb dX4_addCause_42 rfl (lv_at hl 0 rfl) ?_
    refine va_get (D := G) (ci := 4) (v := .int (nI (n + 1))) (C := RX4) (T := TX4) (N := 9) hx hb hts inlX4 hown hK hP 0 rfl rfl 7 (by decide) (hts (.fieldLink RX4 34 "EarthBanks$Watch" "causes" "I") k_5_20) (fun _ h9 => h9) rfl dX4_addCause_43 ?_
    refine lv_iconst (v := 1) hx hb dX4_addCause_46 (by decide) ?_
    refine lv_isub hx hb dX4_addCause_47 ?_
    refine top_eq (y := nI ((n + 1) - 1)) (pk_sub (a := (n + 1)) (b := 1) (by omega)) ?_
    have ew_2 : (nI (n + 1) : Int32) = nI (if n < 8 then n + 1 else n) := by simp [bI, c_1]
    have ew_3 : (upd cz n y1) = (if n < 8 then upd cz n y1 else cz) := by simp [bI, c_1]
    have ew_4 : (upd cl n y2) = (if n < 8 then upd cl n y2 else cl) := by simp [bI, c_1]
    have hP : va_P G vwCl [(o, .inr (4, [.ref a_gp, .ref a_gr, .ref a_cz, .ref a_cl, .ref a_lw, .ref a_gh, .int ng, .int (nI (if n < 8 then n + 1 else n)), .int sl])), (a_cz, .inl (cI, 8, .inl (if n < 8 then upd cz n y1 else cz))), (a_cl, .inl (cI, 8, .inl (if n < 8 then upd cl n y2 else cl)))] H := by rw [← ew_2, ← ew_3, ← ew_4]; exact hP
    exact retWi () hx hb hr (rfl) hlocks dX4_addCause_48 hS (by simp [bI, c_1]) hP
  · skip
    have c_1 : ¬ n < 8 := fun h9 => c_1 ((nI_ltI (a := n) (b := 8) (by omega) (by omega)).mpr h9)
    refine lv_bipush (v := (-3)) hx hb dX4_addCause_9 (by decide) ?_
    have ew_5 : (nI n : Int32) = nI (if n < 8 then n + 1 else n) := by simp [bI, c_1]
    have ew_6 : cz = (if n < 8 then upd cz n y1 else cz) := by simp [bI, c_1]
    have ew_7 : cl = (if n < 8 then upd cl n y2 else cl) := by simp [bI, c_1]
    have hP : va_P G vwCl [(o, .inr (4, [.ref a_gp, .ref a_gr, .ref a_cz, .ref a_cl, .ref a_lw, .ref a_gh, .int ng, .int (nI (if n < 8 then n + 1 else n)), .int sl])), (a_cz, .inl (cI, 8, .inl (if n < 8 then upd cz n y1 else cz))), (a_cl, .inl (cI, 8, .inl (if n < 8 then upd cl n y2 else cl)))] H := by rw [← ew_5, ← ew_6, ← ew_7]; exact hP
    exact retWi () hx hb hr (rfl) hlocks dX4_addCause_11 hS (by simp [bI, c_1]) hP
theorem cal_X4_allGaugesAgree : calV yX4_allGaugesAgree cX4_allGaugesAgree 4 (some .boolean) 1 := ⟨k_37_8, k_2_16, k_37_6, k_37_7, by decide +kernel⟩
set_option maxHeartbeats 4000000 in
set_option maxRecDepth 100000 in
theorem c_X4_allGaugesAgree (l : Launch) (G : va_G) (E : EvT) (cI cZ : ClassId) (gN : Nat → Nat) (n : Nat) (o : Nat) (a_gp : Nat) (a_gr : Nat) (p1 : Nat) (a_p1_zo : Nat) (a_p1_he : Nat) (a_p1_go : Nat) (sl : Int32) (fs_o : List Value) (h_o_ng : fs_o[6]? = some (.int (nI n))) (h_o_gp : fs_o[0]? = some (.ref a_gp)) (h_o_gr : fs_o[1]? = some (.ref a_gr)) (h_o_sl : fs_o[8]? = some (.int sl)) (fs_p1 : List Value) (h_p1_zo : fs_p1[0]? = some (.ref a_p1_zo)) (h_p1_go : fs_p1[2]? = some (.ref a_p1_go)) (h_p1_he : fs_p1[1]? = some (.ref a_p1_he)) (gp : Nat → Int32) (gr : Nat → Int32) (p1_zo : Nat → Int32) (p1_he : Nat → Int32) (p1_go : Nat → Int32) (hgp : ∀ j, gp j = nI (gN j)) (hgl : ∀ j, gN j < 48) (hn : n ≤ 8) : cR l G E yX4_allGaugesAgree cX4_allGaugesAgree 4 (some .boolean) 3 [(cI, .int), (cZ, .boolean)] [.ref o, .ref p1] [(o, .inr (4, fs_o)), (a_gp, .inl (cI, 8, .inl gp)), (a_gr, .inl (cI, 8, .inl gr)), (p1, .inr (2, fs_p1)), (a_p1_zo, .inl (cI, 48, .inl p1_zo)), (a_p1_he, .inl (cI, 48, .inl p1_he)), (a_p1_go, .inl (cI, 48, .inl p1_go))] (bI (agrS p1_zo p1_he p1_go gr gN sl n)) := by
  refine mkR (by decide) (Nat.le_of_ble_eq_true rfl) ?_
  intro zp ze s zm args below meth zc hx hb hr hml hown hts hlocks hE hP hK ls hl
  have hS : va_S (fun _ => False) s.heap s.heap [] := va_S.rf
  have hlow : ∀ q : Nat, (fun _ : Nat => False) q → E.1 ≤ q := fun _ h => h.elim
  have hl : lv_has ls 4 [(0, .ref o), (1, .ref p1)] := hl
  refine lv_iconst (v := 0) hx hb dX4_allGaugesAgree_0 (by decide) ?_
  refine lv_istore_n (lv' := [(2, .int 0), (0, .ref o), (1, .ref p1)]) hx hb dX4_allGaugesAgree_1 rfl hl (by decide) rfl (fun ls hl => ?_)
  suffices lp2 : ∀ zn k2 : Nat, 0 ≤ k2 → k2 ≤ n → n < k2 + zn → (anyS (gaT p1_zo p1_he p1_go gr gN sl) k2 = false) → ∀ ls : Array Slot, lv_has ls 4 [(0, .ref o), (1, .ref p1), (2, .int (nI k2))] → W zp l ze (rmK 3) s zm args below meth zc s.heap [] 0 0 (MQ below (vp_Si (fun zx => zx = bI (agrS p1_zo p1_he p1_go gr gN sl n))) args s 0 0 (fun _ => False)) (F0 zm 2 ls []) by
    have el_1 : (0 : Int32) = nI 0 := rfl
    exact lp2 (n + 1 - 0) 0 (by omega) (by omega) (by omega) (rfl) ls (lv_sub hl [1, 2, 0] (show ([(0, .ref o), (1, .ref p1), (2, .int 0)] : List (Nat × Value)) = [(0, .ref o), (1, .ref p1), (2, .int (nI 0))] by rw [← el_1]))
  intro zn
  induction zn with
  | zero => exact fun k2 h1 h2 h3 => absurd h3 (by omega)
  | succ zn ih2 =>
    intro k2 hlo2 hhi2 hn2 hany ls hl
    refine lv_iload_n hx hb dX4_allGaugesAgree_2 rfl (lv_at hl 2 rfl) ?_
    refine lv_aload_n hx hb dX4_allGaugesAgree_3 rfl (lv_at hl 0 rfl) ?_
    refine va_get (D := G) (ci := 4) (v := .int (nI n)) (C := RX4) (T := TX4) (N := 9) hx hb hts inlX4 hown hK hP 0 rfl rfl 6 (by decide) (hts (.fieldLink RX4 30 "EarthBanks$Watch" "gauges" "I") k_5_19) (fun _ h9 => h9) h_o_ng dX4_allGaugesAgree_4 ?_
    refine lv_icmp_ge (tgt := 59) hx hb dX4_allGaugesAgree_7 (by decide) (fun c_2 => ?_) (fun c_2 => ?_)
    · skip
      have c_2 : n ≤ k2 := (nI_leI (a := n) (b := k2) (by omega) (by omega)).mp c_2
      have hk9 : n = k2 := by omega
      subst hk9
      refine lv_iconst (v := 1) hx hb dX4_allGaugesAgree_59 (by decide) ?_
      exact retR hx hb hr (rfl) hlocks dX4_allGaugesAgree_60 (by rw [agrS, hany]; rfl)
    · skip
      have c_2 : ¬ n ≤ k2 := fun h9 => c_2 ((nI_leI (a := n) (b := k2) (by omega) (by omega)).mpr h9)
      refine lv_aload_n hx hb dX4_allGaugesAgree_10 rfl (lv_at hl 0 rfl) ?_
      refine va_get (D := G) (ci := 4) (v := .ref a_gp) (C := RX4) (T := TX4) (N := 9) hx hb hts inlX4 hown hK hP 0 rfl rfl 0 (by decide) (hts (.fieldLink RX4 9 "EarthBanks$Watch" "gaugePlaces" "[I") k_5_13) (fun _ h9 => h9) h_o_gp dX4_allGaugesAgree_11 ?_
      refine lv_iload_n hx hb dX4_allGaugesAgree_14 rfl (lv_at hl 2 rfl) ?_
      refine ialdN (j := k2) hx hb hK hP 1 0 rfl rfl (by omega) (by decide) dX4_allGaugesAgree_15 ?_
      refine top_eq (y := nI (gN k2)) (hgp k2) ?_
      have hg1 := hgl k2
      refine lv_istore_n (lv' := [(3, .int (nI (gN k2))), (0, .ref o), (1, .ref p1), (2, .int (nI k2))]) hx hb dX4_allGaugesAgree_16 rfl hl (by decide) rfl (fun ls hl => ?_)
      refine lv_aload_n hx hb dX4_allGaugesAgree_17 rfl (lv_at hl 2 rfl) ?_
      refine lv_iload_n hx hb dX4_allGaugesAgree_18 rfl (lv_at hl 0 rfl) ?_
      refine cRV (As := [.int (nI (gN k2))]) (rest := []) hx hb hml hown hts (c_X2_isEarth l G E cI cZ (gN k2) p1 a_p1_zo a_p1_go fs_p1 h_p1_zo h_p1_go p1_zo p1_go (by first | assumption | omega | simp [bI, c_2])) k_37_13 cal_X2_isEarth ⟨Nat.le_of_ble_eq_true rfl, Nat.le_of_ble_eq_true rfl⟩ hE hlow hS hK [0, 1] rfl hP [3, 4, 6] rfl 3 2 rfl rfl rfl hl.1 rfl (Nat.le_of_ble_eq_true rfl) dX4_allGaugesAgree_19 ⟨Nat.zero_le _, Nat.zero_le _⟩ ?_
      refine lv_if_ne (tgt := 28) hx hb dX4_allGaugesAgree_22 (by decide) (fun c_3 => ?_) (fun c_3 => ?_)
      · skip
        have c_3 : (isES p1_zo p1_go (gN k2)) = true := bI_t c_3
        refine lv_aload_n hx hb dX4_allGaugesAgree_28 rfl (lv_at hl 2 rfl) ?_
        refine va_get (D := G) (ci := 2) (v := .ref a_p1_he) (C := RX2) (T := TX2) (N := 9) hx hb hts inlX2 hown hK hP 3 rfl rfl 1 (by decide) (hts (.fieldLink RX4 69 "EarthBanks$Slice" "heads" "[I") k_37_9) (fun _ h9 => h9) h_p1_he dX4_allGaugesAgree_29 ?_
        refine lv_iload_n hx hb dX4_allGaugesAgree_32 rfl (lv_at hl 0 rfl) ?_
        refine ialdN (j := (gN k2)) hx hb hK hP 5 0 rfl rfl (by omega) (by decide) dX4_allGaugesAgree_33 ?_
        refine lv_aload_n hx hb dX4_allGaugesAgree_34 rfl (lv_at hl 1 rfl) ?_
        refine va_get (D := G) (ci := 4) (v := .ref a_gr) (C := RX4) (T := TX4) (N := 9) hx hb hts inlX4 hown hK hP 0 rfl rfl 1 (by decide) (hts (.fieldLink RX4 15 "EarthBanks$Watch" "gaugeReads" "[I") k_5_14) (fun _ h9 => h9) h_o_gr dX4_allGaugesAgree_35 ?_
        refine lv_iload_n hx hb dX4_allGaugesAgree_38 rfl (lv_at hl 3 rfl) ?_
        refine ialdN (j := k2) hx hb hK hP 2 0 rfl rfl (by omega) (by decide) dX4_allGaugesAgree_39 ?_
        refine lv_isub hx hb dX4_allGaugesAgree_40 ?_
        refine va_mabs hx hb (hml.trans hl.1.symm) hown (hts (.methodLink RX4 72 Lib.Math.abs.name) k_37_10) (hts (.static Lib.Math.abs.name) k_37_11) (hts (.initialized "java/lang/Math") k_9_19) (hts (.code Lib.Math.abs.name Lib.Math.abs.code 1 (some .int)) k_37_12) (Nat.le_of_ble_eq_true rfl) (Nat.le_of_ble_eq_true rfl) (Nat.zero_le _) (Nat.zero_le _) dX4_allGaugesAgree_41 ?_
        refine top_eq (y := (absI (p1_he (gN k2) - gr k2))) (rfl) ?_
        refine lv_aload_n hx hb dX4_allGaugesAgree_44 rfl (lv_at hl 1 rfl) ?_
        refine va_get (D := G) (ci := 4) (v := .int sl) (C := RX4) (T := TX4) (N := 9) hx hb hts inlX4 hown hK hP 0 rfl rfl 8 (by decide) (hts (.fieldLink RX4 37 "EarthBanks$Watch" "slackAllowed" "I") k_5_21) (fun _ h9 => h9) h_o_sl dX4_allGaugesAgree_45 ?_
        refine lv_icmp_le (tgt := 53) hx hb dX4_allGaugesAgree_48 (by decide) (fun c_4 => ?_) (fun c_4 => ?_)
        · skip
          refine lv_iinc (v := nI (k2 + 1)) (lv' := [(2, .int (nI (k2 + 1))), (3, .int (nI (gN k2))), (0, .ref o), (1, .ref p1)]) hx hb dX4_allGaugesAgree_53 hl (k := 3) rfl (nI_add _ _) (by decide) rfl (fun ls hl => ?_)
          refine lv_goto (tgt := 2) hx hb dX4_allGaugesAgree_56 (by decide) ?_
          exact ih2 (k2 + 1) (by omega) (by omega) (by omega) (by simp [anyS, hany, gaT, c_2, c_3, c_4]) ls (lv_sub hl [2, 3, 0] rfl)
        · skip
          refine lv_iconst (v := 0) hx hb dX4_allGaugesAgree_51 (by decide) ?_
          exact retR hx hb hr (rfl) hlocks dX4_allGaugesAgree_52 (by rw [agrS, anyS_t (k := k2) (by simp [gaT, c_2, c_3, c_4]) (by omega)]; rfl)
      · skip
        have c_3 : (isES p1_zo p1_go (gN k2)) = false := bI_f c_3
        refine lv_goto (tgt := 53) hx hb dX4_allGaugesAgree_25 (by decide) ?_
        refine lv_iinc (v := nI (k2 + 1)) (lv' := [(2, .int (nI (k2 + 1))), (3, .int (nI (gN k2))), (0, .ref o), (1, .ref p1)]) hx hb dX4_allGaugesAgree_53 hl (k := 3) rfl (nI_add _ _) (by decide) rfl (fun ls hl => ?_)
        refine lv_goto (tgt := 2) hx hb dX4_allGaugesAgree_56 (by decide) ?_
        exact ih2 (k2 + 1) (by omega) (by omega) (by omega) (by simp [anyS, hany, gaT, c_2, c_3]) ls (lv_sub hl [2, 3, 0] rfl)
theorem cal_X4_noteHeads : calV yX4_noteHeads cX4_noteHeads 3 none 1 := ⟨k_37_17, k_2_16, k_37_15, k_37_16, by decide +kernel⟩
set_option maxHeartbeats 4000000 in
set_option maxRecDepth 100000 in
theorem c_X4_noteHeads (l : Launch) (G : va_G) (E : EvT) (cI cZ : ClassId) (o : Nat) (a_lw : Nat) (a_gh : Nat) (p1 : Nat) (a_p1_he : Nat) (fs_o : List Value) (h_o_lw : fs_o[4]? = some (.ref a_lw)) (h_o_gh : fs_o[5]? = some (.ref a_gh)) (fs_p1 : List Value) (h_p1_he : fs_p1[1]? = some (.ref a_p1_he)) (lw : Nat → Int32) (gh : Nat → Int32) (p1_he : Nat → Int32) : cWv (S := Unit) l G E yX4_noteHeads cX4_noteHeads 3 none 1 [(cI, .int), (cZ, .boolean)] [.ref o, .ref p1] [(o, .inr (4, fs_o)), (a_lw, .inl (cI, 48, .inl lw)), (a_gh, .inl (cI, 48, .inl gh)), (p1, .inr (2, fs_p1)), (a_p1_he, .inl (cI, 48, .inl p1_he))] (fun _ => True) (fun _ => [(o, .inr (4, fs_o)), (a_lw, .inl (cI, 48, .inl (lwS lw p1_he))), (a_gh, .inl (cI, 48, .inl (ghS gh p1_he))), (p1, .inr (2, fs_p1)), (a_p1_he, .inl (cI, 48, .inl p1_he))]) := by
  refine mkWv (by decide) (Nat.le_of_ble_eq_true rfl) ?_
  intro zp ze s zm args below meth zc hx hb hr hml hown hts hlocks hE hK A hA hlow H locs hP hD hS ls hl
  have hl : lv_has ls 3 [(0, .ref o), (1, .ref p1)] := hl
  refine lv_iconst (v := 0) hx hb dX4_noteHeads_0 (by decide) ?_
  refine lv_istore_n (lv' := [(2, .int 0), (0, .ref o), (1, .ref p1)]) hx hb dX4_noteHeads_1 rfl hl (by decide) rfl (fun ls hl => ?_)
  suffices lp2 : ∀ zn k2 : Nat, 0 ≤ k2 → k2 ≤ 48 → 48 < k2 + zn → ∀ (H : Heap) (locs : List Loc), va_P G vwCl [(o, .inr (4, fs_o)), (a_lw, .inl (cI, 48, .inl (filS (lwS lw p1_he) lw k2))), (a_gh, .inl (cI, 48, .inl (filS (ghS gh p1_he) gh k2))), (p1, .inr (2, fs_p1)), (a_p1_he, .inl (cI, 48, .inl p1_he))] H → va_D A [(o, .inr (4, fs_o)), (a_lw, .inl (cI, 48, .inl (filS (lwS lw p1_he) lw k2))), (a_gh, .inl (cI, 48, .inl (filS (ghS gh p1_he) gh k2))), (p1, .inr (2, fs_p1)), (a_p1_he, .inl (cI, 48, .inl p1_he))] → va_S A s.heap H locs → ∀ ls : Array Slot, lv_has ls 3 [(0, .ref o), (1, .ref p1), (2, .int (nI k2))] → W zp l ze (rmK 1) s zm args below meth zc H locs 0 0 (MQ below (va_Qv (S := Unit) (fun _ => True) (fun u t => va_P G vwCl ((fun _ => [(o, .inr (4, fs_o)), (a_lw, .inl (cI, 48, .inl (lwS lw p1_he))), (a_gh, .inl (cI, 48, .inl (ghS gh p1_he))), (p1, .inr (2, fs_p1)), (a_p1_he, .inl (cI, 48, .inl p1_he))]) u) t.heap) A) args s 0 0 A) (F0 zm 2 ls []) by
    have el_1 : (0 : Int32) = nI 0 := rfl
    have er_2 : lw = (filS (lwS lw p1_he) lw 0) := (filS_0 _ _).symm
    have er_3 : gh = (filS (ghS gh p1_he) gh 0) := (filS_0 _ _).symm
    exact lp2 (48 + 1 - 0) 0 (by omega) (by omega) (by omega)  H locs (by rw [← er_2, ← er_3]; exact hP) (by rw [← er_2, ← er_3]; exact hD) hS ls (lv_sub hl [1, 2, 0] (show ([(0, .ref o), (1, .ref p1), (2, .int 0)] : List (Nat × Value)) = [(0, .ref o), (1, .ref p1), (2, .int (nI 0))] by rw [← el_1]))
  intro zn
  induction zn with
  | zero => exact fun k2 h1 h2 h3 => absurd h3 (by omega)
  | succ zn ih2 =>
    intro k2 hlo2 hhi2 hn2  H locs hP hD hS ls hl
    refine lv_iload_n hx hb dX4_noteHeads_2 rfl (lv_at hl 2 rfl) ?_
    refine lv_bipush (v := 48) hx hb dX4_noteHeads_3 (by decide) ?_
    refine lv_icmp_ge (tgt := 56) hx hb dX4_noteHeads_5 (by decide) (fun c_4 => ?_) (fun c_4 => ?_)
    · skip
      have c_4 : 48 ≤ k2 := (nI_leI (a := 48) (b := k2) (by omega) (by omega)).mp c_4
      have hk9 : 48 = k2 := by omega
      subst hk9
      have hP := P_swap hP 1 (lwS lw p1_he) rfl (fun k h9 => filS_in h9)
      have hP : va_P G vwCl [(o, .inr (4, fs_o)), (a_lw, .inl (cI, 48, .inl (lwS lw p1_he))), (a_gh, .inl (cI, 48, .inl (filS (ghS gh p1_he) gh 48))), (p1, .inr (2, fs_p1)), (a_p1_he, .inl (cI, 48, .inl p1_he))] H := hP
      have hP := P_swap hP 2 (ghS gh p1_he) rfl (fun k h9 => filS_in h9)
      have hP : va_P G vwCl [(o, .inr (4, fs_o)), (a_lw, .inl (cI, 48, .inl (lwS lw p1_he))), (a_gh, .inl (cI, 48, .inl (ghS gh p1_he))), (p1, .inr (2, fs_p1)), (a_p1_he, .inl (cI, 48, .inl p1_he))] H := hP
      exact retWv () hx hb hr hlocks dX4_noteHeads_56 hS (trivial) hP
    · skip
      have c_4 : ¬ 48 ≤ k2 := fun h9 => c_4 ((nI_leI (a := 48) (b := k2) (by omega) (by omega)).mpr h9)
      refine lv_aload_n hx hb dX4_noteHeads_8 rfl (lv_at hl 0 rfl) ?_
      refine va_get (D := G) (ci := 4) (v := .ref a_lw) (C := RX4) (T := TX4) (N := 9) hx hb hts inlX4 hown hK hP 0 rfl rfl 4 (by decide) (hts (.fieldLink RX4 24 "EarthBanks$Watch" "leastHeads" "[I") k_5_17) (fun _ h9 => h9) h_o_lw dX4_noteHeads_9 ?_
      refine lv_iload_n hx hb dX4_noteHeads_12 rfl (lv_at hl 2 rfl) ?_
      refine lv_aload_n hx hb dX4_noteHeads_13 rfl (lv_at hl 0 rfl) ?_
      refine va_get (D := G) (ci := 4) (v := .ref a_lw) (C := RX4) (T := TX4) (N := 9) hx hb hts inlX4 hown hK hP 0 rfl rfl 4 (by decide) (hts (.fieldLink RX4 24 "EarthBanks$Watch" "leastHeads" "[I") k_5_17) (fun _ h9 => h9) h_o_lw dX4_noteHeads_14 ?_
      refine lv_iload_n hx hb dX4_noteHeads_17 rfl (lv_at hl 2 rfl) ?_
      refine ialdN (j := k2) hx hb hK hP 1 0 rfl rfl (by omega) (by decide) dX4_noteHeads_18 ?_
      refine top_eq (y := (lw k2)) (filS_out (Nat.le_refl _)) ?_
      refine lv_aload_n hx hb dX4_noteHeads_19 rfl (lv_at hl 1 rfl) ?_
      refine va_get (D := G) (ci := 2) (v := .ref a_p1_he) (C := RX2) (T := TX2) (N := 9) hx hb hts inlX2 hown hK hP 3 rfl rfl 1 (by decide) (hts (.fieldLink RX4 69 "EarthBanks$Slice" "heads" "[I") k_37_9) (fun _ h9 => h9) h_p1_he dX4_noteHeads_20 ?_
      refine lv_iload_n hx hb dX4_noteHeads_23 rfl (lv_at hl 2 rfl) ?_
      refine ialdN (j := k2) hx hb hK hP 4 0 rfl rfl (by omega) (by decide) dX4_noteHeads_24 ?_
      refine va_mmin hx hb (hml.trans hl.1.symm) hown (hts (.methodLink RX4 78 Lib.Math.min.name) k_37_18) (hts (.static Lib.Math.min.name) k_9_18) (hts (.initialized "java/lang/Math") k_9_19) (hts (.code Lib.Math.min.name Lib.Math.min.code 2 (some .int)) k_9_20) (Nat.le_of_ble_eq_true rfl) (Nat.le_of_ble_eq_true rfl) (Nat.zero_le _) (Nat.zero_le _) dX4_noteHeads_25 ?_
      refine iastN (j := k2) hx hb hK hP hD hS 1 0 rfl rfl (by omega) (by decide) dX4_noteHeads_28 (fun H locs hP hD hS => ?_)
      have hP : va_P G vwCl [(o, .inr (4, fs_o)), (a_lw, .inl (cI, 48, .inl (upd (filS (lwS lw p1_he) lw k2) k2 (if (p1_he k2) < (lw k2) then (p1_he k2) else (lw k2))))), (a_gh, .inl (cI, 48, .inl (filS (ghS gh p1_he) gh k2))), (p1, .inr (2, fs_p1)), (a_p1_he, .inl (cI, 48, .inl p1_he))] H := hP
      have hD : va_D A [(o, .inr (4, fs_o)), (a_lw, .inl (cI, 48, .inl (upd (filS (lwS lw p1_he) lw k2) k2 (if (p1_he k2) < (lw k2) then (p1_he k2) else (lw k2))))), (a_gh, .inl (cI, 48, .inl (filS (ghS gh p1_he) gh k2))), (p1, .inr (2, fs_p1)), (a_p1_he, .inl (cI, 48, .inl p1_he))] := hD
      refine lv_aload_n hx hb dX4_noteHeads_29 rfl (lv_at hl 0 rfl) ?_
      refine va_get (D := G) (ci := 4) (v := .ref a_gh) (C := RX4) (T := TX4) (N := 9) hx hb hts inlX4 hown hK hP 0 rfl rfl 5 (by decide) (hts (.fieldLink RX4 27 "EarthBanks$Watch" "greatestHeads" "[I") k_5_18) (fun _ h9 => h9) h_o_gh dX4_noteHeads_30 ?_
      refine lv_iload_n hx hb dX4_noteHeads_33 rfl (lv_at hl 2 rfl) ?_
      refine lv_aload_n hx hb dX4_noteHeads_34 rfl (lv_at hl 0 rfl) ?_
      refine va_get (D := G) (ci := 4) (v := .ref a_gh) (C := RX4) (T := TX4) (N := 9) hx hb hts inlX4 hown hK hP 0 rfl rfl 5 (by decide) (hts (.fieldLink RX4 27 "EarthBanks$Watch" "greatestHeads" "[I") k_5_18) (fun _ h9 => h9) h_o_gh dX4_noteHeads_35 ?_
      refine lv_iload_n hx hb dX4_noteHeads_38 rfl (lv_at hl 2 rfl) ?_
      refine ialdN (j := k2) hx hb hK hP 2 0 rfl rfl (by omega) (by decide) dX4_noteHeads_39 ?_
      refine top_eq (y := (gh k2)) (filS_out (Nat.le_refl _)) ?_
      refine lv_aload_n hx hb dX4_noteHeads_40 rfl (lv_at hl 1 rfl) ?_
      refine va_get (D := G) (ci := 2) (v := .ref a_p1_he) (C := RX2) (T := TX2) (N := 9) hx hb hts inlX2 hown hK hP 3 rfl rfl 1 (by decide) (hts (.fieldLink RX4 69 "EarthBanks$Slice" "heads" "[I") k_37_9) (fun _ h9 => h9) h_p1_he dX4_noteHeads_41 ?_
      refine lv_iload_n hx hb dX4_noteHeads_44 rfl (lv_at hl 2 rfl) ?_
      refine ialdN (j := k2) hx hb hK hP 4 0 rfl rfl (by omega) (by decide) dX4_noteHeads_45 ?_
      refine va_mmax hx hb (hml.trans hl.1.symm) hown (hts (.methodLink RX4 82 Lib.Math.max.name) k_37_19) (hts (.static Lib.Math.max.name) k_16_22) (hts (.initialized "java/lang/Math") k_9_19) (hts (.code Lib.Math.max.name Lib.Math.max.code 2 (some .int)) k_16_23) (Nat.le_of_ble_eq_true rfl) (Nat.le_of_ble_eq_true rfl) (Nat.zero_le _) (Nat.zero_le _) dX4_noteHeads_46 ?_
      refine iastN (j := k2) hx hb hK hP hD hS 2 0 rfl rfl (by omega) (by decide) dX4_noteHeads_49 (fun H locs hP hD hS => ?_)
      have hP : va_P G vwCl [(o, .inr (4, fs_o)), (a_lw, .inl (cI, 48, .inl (upd (filS (lwS lw p1_he) lw k2) k2 (if (p1_he k2) < (lw k2) then (p1_he k2) else (lw k2))))), (a_gh, .inl (cI, 48, .inl (upd (filS (ghS gh p1_he) gh k2) k2 (if (gh k2) < (p1_he k2) then (p1_he k2) else (gh k2))))), (p1, .inr (2, fs_p1)), (a_p1_he, .inl (cI, 48, .inl p1_he))] H := hP
      have hD : va_D A [(o, .inr (4, fs_o)), (a_lw, .inl (cI, 48, .inl (upd (filS (lwS lw p1_he) lw k2) k2 (if (p1_he k2) < (lw k2) then (p1_he k2) else (lw k2))))), (a_gh, .inl (cI, 48, .inl (upd (filS (ghS gh p1_he) gh k2) k2 (if (gh k2) < (p1_he k2) then (p1_he k2) else (gh k2))))), (p1, .inr (2, fs_p1)), (a_p1_he, .inl (cI, 48, .inl p1_he))] := hD
      refine lv_iinc (v := nI (k2 + 1)) (lv' := [(2, .int (nI (k2 + 1))), (0, .ref o), (1, .ref p1)]) hx hb dX4_noteHeads_50 hl (k := 2) rfl (nI_add _ _) (by decide) rfl (fun ls hl => ?_)
      refine lv_goto (tgt := 2) hx hb dX4_noteHeads_53 (by decide) ?_
      have er_5 : (upd (filS (lwS lw p1_he) lw k2) k2 (if (p1_he k2) < (lw k2) then (p1_he k2) else (lw k2))) = (filS (lwS lw p1_he) lw (k2 + 1)) := filS_s _ _ _ _ rfl
      have er_6 : (upd (filS (ghS gh p1_he) gh k2) k2 (if (gh k2) < (p1_he k2) then (p1_he k2) else (gh k2))) = (filS (ghS gh p1_he) gh (k2 + 1)) := filS_s _ _ _ _ rfl
      exact ih2 (k2 + 1) (by omega) (by omega) (by omega)  H locs (by rw [← er_5, ← er_6]; exact hP) (by rw [← er_5, ← er_6]; exact hD) hS ls (lv_sub hl [1, 2, 0] rfl)
theorem cal_X4_apartAt : calV yX4_apartAt cX4_apartAt 2 (some .int) 1 := ⟨k_38_22, k_2_16, k_38_20, k_38_21, by decide +kernel⟩
set_option maxHeartbeats 4000000 in
set_option maxRecDepth 100000 in
theorem c_X4_apartAt (l : Launch) (G : va_G) (E : EvT) (cI cZ : ClassId) (p : Nat) (o : Nat) (a_lw : Nat) (a_gh : Nat) (fs_o : List Value) (h_o_gh : fs_o[5]? = some (.ref a_gh)) (h_o_lw : fs_o[4]? = some (.ref a_lw)) (lw : Nat → Int32) (gh : Nat → Int32) (hp : p < 48) : cR l G E yX4_apartAt cX4_apartAt 2 (some .int) 1 [(cI, .int), (cZ, .boolean)] [.ref o, .int (nI p)] [(o, .inr (4, fs_o)), (a_lw, .inl (cI, 48, .inl lw)), (a_gh, .inl (cI, 48, .inl gh))] (gh p - lw p) := by
  refine mkR (by decide) (Nat.le_of_ble_eq_true rfl) ?_
  intro zp ze s zm args below meth zc hx hb hr hml hown hts hlocks hE hP hK ls hl
  have hS : va_S (fun _ => False) s.heap s.heap [] := va_S.rf
  have hlow : ∀ q : Nat, (fun _ : Nat => False) q → E.1 ≤ q := fun _ h => h.elim
  have hl : lv_has ls 2 [(0, .ref o), (1, .int (nI p))] := hl
  refine lv_aload_n hx hb dX4_apartAt_0 rfl (lv_at hl 0 rfl) ?_
  refine va_get (D := G) (ci := 4) (v := .ref a_gh) (C := RX4) (T := TX4) (N := 9) hx hb hts inlX4 hown hK hP 0 rfl rfl 5 (by decide) (hts (.fieldLink RX4 27 "EarthBanks$Watch" "greatestHeads" "[I") k_5_18) (fun _ h9 => h9) h_o_gh dX4_apartAt_1 ?_
  refine lv_iload_n hx hb dX4_apartAt_4 rfl (lv_at hl 1 rfl) ?_
  refine ialdN (j := p) hx hb hK hP 2 0 rfl rfl (by omega) (by decide) dX4_apartAt_5 ?_
  refine lv_aload_n hx hb dX4_apartAt_6 rfl (lv_at hl 0 rfl) ?_
  refine va_get (D := G) (ci := 4) (v := .ref a_lw) (C := RX4) (T := TX4) (N := 9) hx hb hts inlX4 hown hK hP 0 rfl rfl 4 (by decide) (hts (.fieldLink RX4 24 "EarthBanks$Watch" "leastHeads" "[I") k_5_17) (fun _ h9 => h9) h_o_lw dX4_apartAt_7 ?_
  refine lv_iload_n hx hb dX4_apartAt_10 rfl (lv_at hl 1 rfl) ?_
  refine ialdN (j := p) hx hb hK hP 1 0 rfl rfl (by omega) (by decide) dX4_apartAt_11 ?_
  refine lv_isub hx hb dX4_apartAt_12 ?_
  exact retR hx hb hr (rfl) hlocks dX4_apartAt_13 (by simp [bI])
theorem cal_X4_tryCauses : calV yX4_tryCauses cX4_tryCauses 5 (some .int) 2 := ⟨k_37_0, k_2_16, k_36_22, k_36_23, by decide +kernel⟩
set_option maxHeartbeats 4000000 in
set_option maxRecDepth 100000 in
theorem c_X4_tryCauses (l : Launch) (G : va_G) (E : EvT) (cI cZ : ClassId) (gN : Nat → Nat) (zN : Nat → Nat) (n : Nat) (nn : Nat) (o : Nat) (a_gp : Nat) (a_gr : Nat) (a_cz : Nat) (a_cl : Nat) (a_lw : Nat) (a_gh : Nat) (p1 : Nat) (a_p1_zo : Nat) (a_p1_he : Nat) (a_p1_go : Nat) (a_p1_le : Nat) (a_p1_hd : Nat) (a_p1_gn : Nat) (p2 : Nat) (a_p2_zo : Nat) (a_p2_he : Nat) (a_p2_go : Nat) (a_p2_le : Nat) (a_p2_hd : Nat) (a_p2_gn : Nat) (a_p2_pa : Nat) (a_p2_lv : Nat) (sl : Int32) (fs_o : List Value) (h_o_lw : fs_o[4]? = some (.ref a_lw)) (h_o_gh : fs_o[5]? = some (.ref a_gh)) (h_o_nc : fs_o[7]? = some (.int (nI nn))) (h_o_cz : fs_o[2]? = some (.ref a_cz)) (h_o_cl : fs_o[3]? = some (.ref a_cl)) (h_o_ng : fs_o[6]? = some (.int (nI n))) (h_o_gp : fs_o[0]? = some (.ref a_gp)) (h_o_gr : fs_o[1]? = some (.ref a_gr)) (h_o_sl : fs_o[8]? = some (.int sl)) (p1_la : Int32) (fs_p1 : List Value) (h_p1_zo : fs_p1[0]? = some (.ref a_p1_zo)) (h_p1_he : fs_p1[1]? = some (.ref a_p1_he)) (h_p1_go : fs_p1[2]? = some (.ref a_p1_go)) (h_p1_le : fs_p1[3]? = some (.ref a_p1_le)) (h_p1_hd : fs_p1[4]? = some (.ref a_p1_hd)) (h_p1_gn : fs_p1[5]? = some (.ref a_p1_gn)) (h_p1_la : fs_p1[6]? = some (.int p1_la)) (p2_la : Int32) (gp : Nat → Int32) (gr : Nat → Int32) (cz : Nat → Int32) (cl : Nat → Int32) (lw : Nat → Int32) (gh : Nat → Int32) (p1_zo : Nat → Int32) (p1_he : Nat → Int32) (p1_go : Nat → Int32) (p1_le : Nat → Int32) (p1_hd : Nat → Int32) (p1_gn : Nat → Int32) (p2_zo : Nat → Int32) (p2_he : Nat → Int32) (p2_go : Nat → Int32) (p2_le : Nat → Int32) (p2_hd : Nat → Int32) (p2_gn : Nat → Int32) (p2_pa : Nat → Int32) (hgp : ∀ j, gp j = nI (gN j)) (hgl : ∀ j, gN j < 48) (hcz : ∀ j, cz j = nI (zN j)) (hzl : ∀ j, zN j < 6) (hn : n ≤ 8) (hnn : nn ≤ 8) : cWi (S := (Nat → Int32) × (Nat → Int32) × (Nat → Int32) × (Nat → Int32) × (Nat → Int32) × (Nat → Int32) × (Nat → Int32) × Int32) l G E yX4_tryCauses cX4_tryCauses 5 (some .int) 7 [(cI, .int), (cZ, .boolean)] [.ref o, .ref p1, .ref p2] [(o, .inr (4, fs_o)), (a_gp, .inl (cI, 8, .inl gp)), (a_gr, .inl (cI, 8, .inl gr)), (a_cz, .inl (cI, 8, .inl cz)), (a_cl, .inl (cI, 8, .inl cl)), (a_lw, .inl (cI, 48, .inl lw)), (a_gh, .inl (cI, 48, .inl gh)), (p1, .inr (2, fs_p1)), (a_p1_zo, .inl (cI, 48, .inl p1_zo)), (a_p1_he, .inl (cI, 48, .inl p1_he)), (a_p1_go, .inl (cI, 48, .inl p1_go)), (a_p1_le, .inl (cI, 6, .inl p1_le)), (a_p1_hd, .inl (cI, 6, .inl p1_hd)), (a_p1_gn, .inl (cI, 6, .inl p1_gn)), (p2, .inr (2, [.ref a_p2_zo, .ref a_p2_he, .ref a_p2_go, .ref a_p2_le, .ref a_p2_hd, .ref a_p2_gn, .int p2_la, .ref a_p2_lv, .ref a_p2_pa])), (a_p2_zo, .inl (cI, 48, .inl p2_zo)), (a_p2_he, .inl (cI, 48, .inl p2_he)), (a_p2_go, .inl (cI, 48, .inl p2_go)), (a_p2_le, .inl (cI, 6, .inl p2_le)), (a_p2_hd, .inl (cI, 6, .inl p2_hd)), (a_p2_gn, .inl (cI, 6, .inl p2_gn)), (a_p2_pa, .inl (cI, 48, .inl p2_pa))] (fun r _ => r = (fitS p1_zo p1_go p1_le gr cl p1_la sl gN zN n nn).1) (fun u => [(o, .inr (4, fs_o)), (a_gp, .inl (cI, 8, .inl gp)), (a_gr, .inl (cI, 8, .inl gr)), (a_cz, .inl (cI, 8, .inl cz)), (a_cl, .inl (cI, 8, .inl cl)), (a_lw, .inl (cI, 48, .inl ((fitS p1_zo p1_go p1_le gr cl p1_la sl gN zN n nn).2.1))), (a_gh, .inl (cI, 48, .inl ((fitS p1_zo p1_go p1_le gr cl p1_la sl gN zN n nn).2.2))), (p1, .inr (2, fs_p1)), (a_p1_zo, .inl (cI, 48, .inl p1_zo)), (a_p1_he, .inl (cI, 48, .inl p1_he)), (a_p1_go, .inl (cI, 48, .inl p1_go)), (a_p1_le, .inl (cI, 6, .inl p1_le)), (a_p1_hd, .inl (cI, 6, .inl p1_hd)), (a_p1_gn, .inl (cI, 6, .inl p1_gn)), (p2, .inr (2, [.ref a_p2_zo, .ref a_p2_he, .ref a_p2_go, .ref a_p2_le, .ref a_p2_hd, .ref a_p2_gn, .int u.2.2.2.2.2.2.2, .ref a_p2_lv, .ref a_p2_pa])), (a_p2_zo, .inl (cI, 48, .inl u.1)), (a_p2_he, .inl (cI, 48, .inl u.2.1)), (a_p2_go, .inl (cI, 48, .inl u.2.2.1)), (a_p2_le, .inl (cI, 6, .inl u.2.2.2.1)), (a_p2_hd, .inl (cI, 6, .inl u.2.2.2.2.1)), (a_p2_gn, .inl (cI, 6, .inl u.2.2.2.2.2.1)), (a_p2_pa, .inl (cI, 48, .inl u.2.2.2.2.2.2.1))]) := by
  refine mkWi (by decide) (Nat.le_of_ble_eq_true rfl) ?_
  intro zp ze s zm args below meth zc hx hb hr hml hown hts hlocks hE hK A hA hlow H locs hP hD hS ls hl
  have hl : lv_has ls 5 [(0, .ref o), (1, .ref p1), (2, .ref p2)] := hl
  refine lv_iconst (v := 0) hx hb dX4_tryCauses_0 (by decide) ?_
  refine lv_istore_n (lv' := [(3, .int 0), (0, .ref o), (1, .ref p1), (2, .ref p2)]) hx hb dX4_tryCauses_1 rfl hl (by decide) rfl (fun ls hl => ?_)
  refine lv_aload_n hx hb dX4_tryCauses_2 rfl (lv_at hl 1 rfl) ?_
  refine va_get (D := G) (ci := 4) (v := .ref a_lw) (C := RX4) (T := TX4) (N := 9) hx hb hts inlX4 hown hK hP 0 rfl rfl 4 (by decide) (hts (.fieldLink RX4 24 "EarthBanks$Watch" "leastHeads" "[I") k_5_17) (fun _ h9 => h9) h_o_lw dX4_tryCauses_3 ?_
  refine lv_sipush (v := 7000) hx hb dX4_tryCauses_6 (by decide) ?_
  refine cWSv (As := [.ref a_lw, .int 7000]) (rest := []) hx hb hml hown hts (c_J7_fill_53178 l G E cI cZ 7000 a_lw 48 lw (by first | assumption | omega | simp [bI])) k_37_2 cal_J7_fill_53178 ⟨Nat.le_of_ble_eq_true rfl, Nat.le_of_ble_eq_true rfl⟩ hE hA hlow hD hS hK [0, 1] rfl hP [5] rfl (by decide) [a_lw] rfl (fun _ => rfl) [0, 1, 2, 3, 4, 6, 7, 8, 9, 10, 11, 12, 13, 14, 15, 16, 17, 18, 19, 20, 21] [(o, .inr (4, fs_o)), (a_gp, .inl (cI, 8, .inl gp)), (a_gr, .inl (cI, 8, .inl gr)), (a_cz, .inl (cI, 8, .inl cz)), (a_cl, .inl (cI, 8, .inl cl)), (a_gh, .inl (cI, 48, .inl gh)), (p1, .inr (2, fs_p1)), (a_p1_zo, .inl (cI, 48, .inl p1_zo)), (a_p1_he, .inl (cI, 48, .inl p1_he)), (a_p1_go, .inl (cI, 48, .inl p1_go)), (a_p1_le, .inl (cI, 6, .inl p1_le)), (a_p1_hd, .inl (cI, 6, .inl p1_hd)), (a_p1_gn, .inl (cI, 6, .inl p1_gn)), (p2, .inr (2, [.ref a_p2_zo, .ref a_p2_he, .ref a_p2_go, .ref a_p2_le, .ref a_p2_hd, .ref a_p2_gn, .int p2_la, .ref a_p2_lv, .ref a_p2_pa])), (a_p2_zo, .inl (cI, 48, .inl p2_zo)), (a_p2_he, .inl (cI, 48, .inl p2_he)), (a_p2_go, .inl (cI, 48, .inl p2_go)), (a_p2_le, .inl (cI, 6, .inl p2_le)), (a_p2_hd, .inl (cI, 6, .inl p2_hd)), (a_p2_gn, .inl (cI, 6, .inl p2_gn)), (a_p2_pa, .inl (cI, 48, .inl p2_pa))] (fun _ => [(o, .inr (4, fs_o)), (a_gp, .inl (cI, 8, .inl gp)), (a_gr, .inl (cI, 8, .inl gr)), (a_cz, .inl (cI, 8, .inl cz)), (a_cl, .inl (cI, 8, .inl cl)), (a_lw, .inl (cI, 48, .inl (fun _ => 7000))), (a_gh, .inl (cI, 48, .inl gh)), (p1, .inr (2, fs_p1)), (a_p1_zo, .inl (cI, 48, .inl p1_zo)), (a_p1_he, .inl (cI, 48, .inl p1_he)), (a_p1_go, .inl (cI, 48, .inl p1_go)), (a_p1_le, .inl (cI, 6, .inl p1_le)), (a_p1_hd, .inl (cI, 6, .inl p1_hd)), (a_p1_gn, .inl (cI, 6, .inl p1_gn)), (p2, .inr (2, [.ref a_p2_zo, .ref a_p2_he, .ref a_p2_go, .ref a_p2_le, .ref a_p2_hd, .ref a_p2_gn, .int p2_la, .ref a_p2_lv, .ref a_p2_pa])), (a_p2_zo, .inl (cI, 48, .inl p2_zo)), (a_p2_he, .inl (cI, 48, .inl p2_he)), (a_p2_go, .inl (cI, 48, .inl p2_go)), (a_p2_le, .inl (cI, 6, .inl p2_le)), (a_p2_hd, .inl (cI, 6, .inl p2_hd)), (a_p2_gn, .inl (cI, 6, .inl p2_gn)), (a_p2_pa, .inl (cI, 48, .inl p2_pa))]) 22 rfl (fun _ => rfl) (fun _ => rfl) (fun _ => rfl) (by decide) (by decide) rfl hl.1 rfl (Nat.le_of_ble_eq_true rfl) dX4_tryCauses_9 ⟨Nat.zero_le _, Nat.zero_le _⟩ (fun u H locs hr_ hP hD hS => ?_)
  have hP : va_P G vwCl [(o, .inr (4, fs_o)), (a_gp, .inl (cI, 8, .inl gp)), (a_gr, .inl (cI, 8, .inl gr)), (a_cz, .inl (cI, 8, .inl cz)), (a_cl, .inl (cI, 8, .inl cl)), (a_lw, .inl (cI, 48, .inl (fun _ => 7000))), (a_gh, .inl (cI, 48, .inl gh)), (p1, .inr (2, fs_p1)), (a_p1_zo, .inl (cI, 48, .inl p1_zo)), (a_p1_he, .inl (cI, 48, .inl p1_he)), (a_p1_go, .inl (cI, 48, .inl p1_go)), (a_p1_le, .inl (cI, 6, .inl p1_le)), (a_p1_hd, .inl (cI, 6, .inl p1_hd)), (a_p1_gn, .inl (cI, 6, .inl p1_gn)), (p2, .inr (2, [.ref a_p2_zo, .ref a_p2_he, .ref a_p2_go, .ref a_p2_le, .ref a_p2_hd, .ref a_p2_gn, .int p2_la, .ref a_p2_lv, .ref a_p2_pa])), (a_p2_zo, .inl (cI, 48, .inl p2_zo)), (a_p2_he, .inl (cI, 48, .inl p2_he)), (a_p2_go, .inl (cI, 48, .inl p2_go)), (a_p2_le, .inl (cI, 6, .inl p2_le)), (a_p2_hd, .inl (cI, 6, .inl p2_hd)), (a_p2_gn, .inl (cI, 6, .inl p2_gn)), (a_p2_pa, .inl (cI, 48, .inl p2_pa))] H := hP
  have hD : va_D A [(o, .inr (4, fs_o)), (a_gp, .inl (cI, 8, .inl gp)), (a_gr, .inl (cI, 8, .inl gr)), (a_cz, .inl (cI, 8, .inl cz)), (a_cl, .inl (cI, 8, .inl cl)), (a_lw, .inl (cI, 48, .inl (fun _ => 7000))), (a_gh, .inl (cI, 48, .inl gh)), (p1, .inr (2, fs_p1)), (a_p1_zo, .inl (cI, 48, .inl p1_zo)), (a_p1_he, .inl (cI, 48, .inl p1_he)), (a_p1_go, .inl (cI, 48, .inl p1_go)), (a_p1_le, .inl (cI, 6, .inl p1_le)), (a_p1_hd, .inl (cI, 6, .inl p1_hd)), (a_p1_gn, .inl (cI, 6, .inl p1_gn)), (p2, .inr (2, [.ref a_p2_zo, .ref a_p2_he, .ref a_p2_go, .ref a_p2_le, .ref a_p2_hd, .ref a_p2_gn, .int p2_la, .ref a_p2_lv, .ref a_p2_pa])), (a_p2_zo, .inl (cI, 48, .inl p2_zo)), (a_p2_he, .inl (cI, 48, .inl p2_he)), (a_p2_go, .inl (cI, 48, .inl p2_go)), (a_p2_le, .inl (cI, 6, .inl p2_le)), (a_p2_hd, .inl (cI, 6, .inl p2_hd)), (a_p2_gn, .inl (cI, 6, .inl p2_gn)), (a_p2_pa, .inl (cI, 48, .inl p2_pa))] := hD
  refine lv_aload_n hx hb dX4_tryCauses_12 rfl (lv_at hl 1 rfl) ?_
  refine va_get (D := G) (ci := 4) (v := .ref a_gh) (C := RX4) (T := TX4) (N := 9) hx hb hts inlX4 hown hK hP 0 rfl rfl 5 (by decide) (hts (.fieldLink RX4 27 "EarthBanks$Watch" "greatestHeads" "[I") k_5_18) (fun _ h9 => h9) h_o_gh dX4_tryCauses_13 ?_
  refine lv_iconst (v := 0) hx hb dX4_tryCauses_16 (by decide) ?_
  refine cWSv (As := [.ref a_gh, .int 0]) (rest := []) hx hb hml hown hts (c_J7_fill_53178 l G E cI cZ 0 a_gh 48 gh (by first | assumption | omega | simp [bI])) k_37_2 cal_J7_fill_53178 ⟨Nat.le_of_ble_eq_true rfl, Nat.le_of_ble_eq_true rfl⟩ hE hA hlow hD hS hK [0, 1] rfl hP [6] rfl (by decide) [a_gh] rfl (fun _ => rfl) [0, 1, 2, 3, 4, 5, 7, 8, 9, 10, 11, 12, 13, 14, 15, 16, 17, 18, 19, 20, 21] [(o, .inr (4, fs_o)), (a_gp, .inl (cI, 8, .inl gp)), (a_gr, .inl (cI, 8, .inl gr)), (a_cz, .inl (cI, 8, .inl cz)), (a_cl, .inl (cI, 8, .inl cl)), (a_lw, .inl (cI, 48, .inl (fun _ => 7000))), (p1, .inr (2, fs_p1)), (a_p1_zo, .inl (cI, 48, .inl p1_zo)), (a_p1_he, .inl (cI, 48, .inl p1_he)), (a_p1_go, .inl (cI, 48, .inl p1_go)), (a_p1_le, .inl (cI, 6, .inl p1_le)), (a_p1_hd, .inl (cI, 6, .inl p1_hd)), (a_p1_gn, .inl (cI, 6, .inl p1_gn)), (p2, .inr (2, [.ref a_p2_zo, .ref a_p2_he, .ref a_p2_go, .ref a_p2_le, .ref a_p2_hd, .ref a_p2_gn, .int p2_la, .ref a_p2_lv, .ref a_p2_pa])), (a_p2_zo, .inl (cI, 48, .inl p2_zo)), (a_p2_he, .inl (cI, 48, .inl p2_he)), (a_p2_go, .inl (cI, 48, .inl p2_go)), (a_p2_le, .inl (cI, 6, .inl p2_le)), (a_p2_hd, .inl (cI, 6, .inl p2_hd)), (a_p2_gn, .inl (cI, 6, .inl p2_gn)), (a_p2_pa, .inl (cI, 48, .inl p2_pa))] (fun _ => [(o, .inr (4, fs_o)), (a_gp, .inl (cI, 8, .inl gp)), (a_gr, .inl (cI, 8, .inl gr)), (a_cz, .inl (cI, 8, .inl cz)), (a_cl, .inl (cI, 8, .inl cl)), (a_lw, .inl (cI, 48, .inl (fun _ => 7000))), (a_gh, .inl (cI, 48, .inl (fun _ => 0))), (p1, .inr (2, fs_p1)), (a_p1_zo, .inl (cI, 48, .inl p1_zo)), (a_p1_he, .inl (cI, 48, .inl p1_he)), (a_p1_go, .inl (cI, 48, .inl p1_go)), (a_p1_le, .inl (cI, 6, .inl p1_le)), (a_p1_hd, .inl (cI, 6, .inl p1_hd)), (a_p1_gn, .inl (cI, 6, .inl p1_gn)), (p2, .inr (2, [.ref a_p2_zo, .ref a_p2_he, .ref a_p2_go, .ref a_p2_le, .ref a_p2_hd, .ref a_p2_gn, .int p2_la, .ref a_p2_lv, .ref a_p2_pa])), (a_p2_zo, .inl (cI, 48, .inl p2_zo)), (a_p2_he, .inl (cI, 48, .inl p2_he)), (a_p2_go, .inl (cI, 48, .inl p2_go)), (a_p2_le, .inl (cI, 6, .inl p2_le)), (a_p2_hd, .inl (cI, 6, .inl p2_hd)), (a_p2_gn, .inl (cI, 6, .inl p2_gn)), (a_p2_pa, .inl (cI, 48, .inl p2_pa))]) 22 rfl (fun _ => rfl) (fun _ => rfl) (fun _ => rfl) (by decide) (by decide) rfl hl.1 rfl (Nat.le_of_ble_eq_true rfl) dX4_tryCauses_17 ⟨Nat.zero_le _, Nat.zero_le _⟩ (fun u H locs hr_ hP hD hS => ?_)
  have hP : va_P G vwCl [(o, .inr (4, fs_o)), (a_gp, .inl (cI, 8, .inl gp)), (a_gr, .inl (cI, 8, .inl gr)), (a_cz, .inl (cI, 8, .inl cz)), (a_cl, .inl (cI, 8, .inl cl)), (a_lw, .inl (cI, 48, .inl (fun _ => 7000))), (a_gh, .inl (cI, 48, .inl (fun _ => 0))), (p1, .inr (2, fs_p1)), (a_p1_zo, .inl (cI, 48, .inl p1_zo)), (a_p1_he, .inl (cI, 48, .inl p1_he)), (a_p1_go, .inl (cI, 48, .inl p1_go)), (a_p1_le, .inl (cI, 6, .inl p1_le)), (a_p1_hd, .inl (cI, 6, .inl p1_hd)), (a_p1_gn, .inl (cI, 6, .inl p1_gn)), (p2, .inr (2, [.ref a_p2_zo, .ref a_p2_he, .ref a_p2_go, .ref a_p2_le, .ref a_p2_hd, .ref a_p2_gn, .int p2_la, .ref a_p2_lv, .ref a_p2_pa])), (a_p2_zo, .inl (cI, 48, .inl p2_zo)), (a_p2_he, .inl (cI, 48, .inl p2_he)), (a_p2_go, .inl (cI, 48, .inl p2_go)), (a_p2_le, .inl (cI, 6, .inl p2_le)), (a_p2_hd, .inl (cI, 6, .inl p2_hd)), (a_p2_gn, .inl (cI, 6, .inl p2_gn)), (a_p2_pa, .inl (cI, 48, .inl p2_pa))] H := hP
  have hD : va_D A [(o, .inr (4, fs_o)), (a_gp, .inl (cI, 8, .inl gp)), (a_gr, .inl (cI, 8, .inl gr)), (a_cz, .inl (cI, 8, .inl cz)), (a_cl, .inl (cI, 8, .inl cl)), (a_lw, .inl (cI, 48, .inl (fun _ => 7000))), (a_gh, .inl (cI, 48, .inl (fun _ => 0))), (p1, .inr (2, fs_p1)), (a_p1_zo, .inl (cI, 48, .inl p1_zo)), (a_p1_he, .inl (cI, 48, .inl p1_he)), (a_p1_go, .inl (cI, 48, .inl p1_go)), (a_p1_le, .inl (cI, 6, .inl p1_le)), (a_p1_hd, .inl (cI, 6, .inl p1_hd)), (a_p1_gn, .inl (cI, 6, .inl p1_gn)), (p2, .inr (2, [.ref a_p2_zo, .ref a_p2_he, .ref a_p2_go, .ref a_p2_le, .ref a_p2_hd, .ref a_p2_gn, .int p2_la, .ref a_p2_lv, .ref a_p2_pa])), (a_p2_zo, .inl (cI, 48, .inl p2_zo)), (a_p2_he, .inl (cI, 48, .inl p2_he)), (a_p2_go, .inl (cI, 48, .inl p2_go)), (a_p2_le, .inl (cI, 6, .inl p2_le)), (a_p2_hd, .inl (cI, 6, .inl p2_hd)), (a_p2_gn, .inl (cI, 6, .inl p2_gn)), (a_p2_pa, .inl (cI, 48, .inl p2_pa))] := hD
  refine lv_iconst (v := 0) hx hb dX4_tryCauses_20 (by decide) ?_
  refine lv_istore (lv' := [(4, .int 0), (3, .int 0), (0, .ref o), (1, .ref p1), (2, .ref p2)]) hx hb dX4_tryCauses_21 hl (by decide) rfl (fun ls hl => ?_)
  suffices lp23 : ∀ zn k23 : Nat, ∀ (x0 : Nat → Int32) (x1 : Nat → Int32) (x2 : Nat → Int32) (x3 : Nat → Int32) (x4 : Nat → Int32) (x5 : Nat → Int32) (x6 : Nat → Int32) (xl : Int32) , 0 ≤ k23 → k23 ≤ nn → nn < k23 + zn → ∀ (H : Heap) (locs : List Loc), va_P G vwCl [(o, .inr (4, fs_o)), (a_gp, .inl (cI, 8, .inl gp)), (a_gr, .inl (cI, 8, .inl gr)), (a_cz, .inl (cI, 8, .inl cz)), (a_cl, .inl (cI, 8, .inl cl)), (a_lw, .inl (cI, 48, .inl ((fitS p1_zo p1_go p1_le gr cl p1_la sl gN zN n k23).2.1))), (a_gh, .inl (cI, 48, .inl ((fitS p1_zo p1_go p1_le gr cl p1_la sl gN zN n k23).2.2))), (p1, .inr (2, fs_p1)), (a_p1_zo, .inl (cI, 48, .inl p1_zo)), (a_p1_he, .inl (cI, 48, .inl p1_he)), (a_p1_go, .inl (cI, 48, .inl p1_go)), (a_p1_le, .inl (cI, 6, .inl p1_le)), (a_p1_hd, .inl (cI, 6, .inl p1_hd)), (a_p1_gn, .inl (cI, 6, .inl p1_gn)), (p2, .inr (2, [.ref a_p2_zo, .ref a_p2_he, .ref a_p2_go, .ref a_p2_le, .ref a_p2_hd, .ref a_p2_gn, .int xl, .ref a_p2_lv, .ref a_p2_pa])), (a_p2_zo, .inl (cI, 48, .inl x0)), (a_p2_he, .inl (cI, 48, .inl x1)), (a_p2_go, .inl (cI, 48, .inl x2)), (a_p2_le, .inl (cI, 6, .inl x3)), (a_p2_hd, .inl (cI, 6, .inl x4)), (a_p2_gn, .inl (cI, 6, .inl x5)), (a_p2_pa, .inl (cI, 48, .inl x6))] H → va_D A [(o, .inr (4, fs_o)), (a_gp, .inl (cI, 8, .inl gp)), (a_gr, .inl (cI, 8, .inl gr)), (a_cz, .inl (cI, 8, .inl cz)), (a_cl, .inl (cI, 8, .inl cl)), (a_lw, .inl (cI, 48, .inl ((fitS p1_zo p1_go p1_le gr cl p1_la sl gN zN n k23).2.1))), (a_gh, .inl (cI, 48, .inl ((fitS p1_zo p1_go p1_le gr cl p1_la sl gN zN n k23).2.2))), (p1, .inr (2, fs_p1)), (a_p1_zo, .inl (cI, 48, .inl p1_zo)), (a_p1_he, .inl (cI, 48, .inl p1_he)), (a_p1_go, .inl (cI, 48, .inl p1_go)), (a_p1_le, .inl (cI, 6, .inl p1_le)), (a_p1_hd, .inl (cI, 6, .inl p1_hd)), (a_p1_gn, .inl (cI, 6, .inl p1_gn)), (p2, .inr (2, [.ref a_p2_zo, .ref a_p2_he, .ref a_p2_go, .ref a_p2_le, .ref a_p2_hd, .ref a_p2_gn, .int xl, .ref a_p2_lv, .ref a_p2_pa])), (a_p2_zo, .inl (cI, 48, .inl x0)), (a_p2_he, .inl (cI, 48, .inl x1)), (a_p2_go, .inl (cI, 48, .inl x2)), (a_p2_le, .inl (cI, 6, .inl x3)), (a_p2_hd, .inl (cI, 6, .inl x4)), (a_p2_gn, .inl (cI, 6, .inl x5)), (a_p2_pa, .inl (cI, 48, .inl x6))] → va_S A s.heap H locs → ∀ ls : Array Slot, lv_has ls 5 [(0, .ref o), (1, .ref p1), (2, .ref p2), (3, .int ((fitS p1_zo p1_go p1_le gr cl p1_la sl gN zN n k23).1)), (4, .int (nI k23))] → W zp l ze (rmK 7) s zm args below meth zc H locs 0 0 (MQ below (va_Qi (S := (Nat → Int32) × (Nat → Int32) × (Nat → Int32) × (Nat → Int32) × (Nat → Int32) × (Nat → Int32) × (Nat → Int32) × Int32) (fun r _ => r = (fitS p1_zo p1_go p1_le gr cl p1_la sl gN zN n nn).1) (fun u t => va_P G vwCl ((fun u => [(o, .inr (4, fs_o)), (a_gp, .inl (cI, 8, .inl gp)), (a_gr, .inl (cI, 8, .inl gr)), (a_cz, .inl (cI, 8, .inl cz)), (a_cl, .inl (cI, 8, .inl cl)), (a_lw, .inl (cI, 48, .inl ((fitS p1_zo p1_go p1_le gr cl p1_la sl gN zN n nn).2.1))), (a_gh, .inl (cI, 48, .inl ((fitS p1_zo p1_go p1_le gr cl p1_la sl gN zN n nn).2.2))), (p1, .inr (2, fs_p1)), (a_p1_zo, .inl (cI, 48, .inl p1_zo)), (a_p1_he, .inl (cI, 48, .inl p1_he)), (a_p1_go, .inl (cI, 48, .inl p1_go)), (a_p1_le, .inl (cI, 6, .inl p1_le)), (a_p1_hd, .inl (cI, 6, .inl p1_hd)), (a_p1_gn, .inl (cI, 6, .inl p1_gn)), (p2, .inr (2, [.ref a_p2_zo, .ref a_p2_he, .ref a_p2_go, .ref a_p2_le, .ref a_p2_hd, .ref a_p2_gn, .int u.2.2.2.2.2.2.2, .ref a_p2_lv, .ref a_p2_pa])), (a_p2_zo, .inl (cI, 48, .inl u.1)), (a_p2_he, .inl (cI, 48, .inl u.2.1)), (a_p2_go, .inl (cI, 48, .inl u.2.2.1)), (a_p2_le, .inl (cI, 6, .inl u.2.2.2.1)), (a_p2_hd, .inl (cI, 6, .inl u.2.2.2.2.1)), (a_p2_gn, .inl (cI, 6, .inl u.2.2.2.2.2.1)), (a_p2_pa, .inl (cI, 48, .inl u.2.2.2.2.2.2.1))]) u) t.heap) A) args s 0 0 A) (F0 zm 23 ls []) by
    have el_1 : (0 : Int32) = (fitS p1_zo p1_go p1_le gr cl p1_la sl gN zN n 0).1 := rfl
    have el_2 : (0 : Int32) = nI 0 := rfl
    have er_3 : (fun _ => 7000) = ((fitS p1_zo p1_go p1_le gr cl p1_la sl gN zN n 0).2.1) := rfl
    have er_4 : (fun _ => 0) = ((fitS p1_zo p1_go p1_le gr cl p1_la sl gN zN n 0).2.2) := rfl
    exact lp23 (nn + 1 - 0) 0 p2_zo p2_he p2_go p2_le p2_hd p2_gn p2_pa p2_la (by omega) (by omega) (by omega)  H locs (by rw [← er_3, ← er_4]; exact hP) (by rw [← er_3, ← er_4]; exact hD) hS ls (lv_sub hl [2, 3, 4, 1, 0] (show ([(0, .ref o), (1, .ref p1), (2, .ref p2), (3, .int 0), (4, .int 0)] : List (Nat × Value)) = [(0, .ref o), (1, .ref p1), (2, .ref p2), (3, .int ((fitS p1_zo p1_go p1_le gr cl p1_la sl gN zN n 0).1)), (4, .int (nI 0))] by rw [← el_1, ← el_2]))
  intro zn
  induction zn with
  | zero => exact fun k23 x0 x1 x2 x3 x4 x5 x6 xl h1 h2 h3 => absurd h3 (by omega)
  | succ zn ih23 =>
    intro k23 x0 x1 x2 x3 x4 x5 x6 xl hlo23 hhi23 hn23  H locs hP hD hS ls hl
    refine lv_iload hx hb dX4_tryCauses_23 (lv_at hl 4 rfl) ?_
    refine lv_aload_n hx hb dX4_tryCauses_25 rfl (lv_at hl 0 rfl) ?_
    refine va_get (D := G) (ci := 4) (v := .int (nI nn)) (C := RX4) (T := TX4) (N := 9) hx hb hts inlX4 hown hK hP 0 rfl rfl 7 (by decide) (hts (.fieldLink RX4 34 "EarthBanks$Watch" "causes" "I") k_5_20) (fun _ h9 => h9) h_o_nc dX4_tryCauses_26 ?_
    refine lv_icmp_ge (tgt := 89) hx hb dX4_tryCauses_29 (by decide) (fun c_5 => ?_) (fun c_5 => ?_)
    · skip
      have c_5 : nn ≤ k23 := (nI_leI (a := nn) (b := k23) (by omega) (by omega)).mp c_5
      have hk9 : nn = k23 := by omega
      subst hk9
      refine lv_iload_n hx hb dX4_tryCauses_89 rfl (lv_at hl 3 rfl) ?_
      exact retWi (x0, x1, x2, x3, x4, x5, x6, xl) hx hb hr (rfl) hlocks dX4_tryCauses_90 hS (rfl) hP
    · skip
      have c_5 : ¬ nn ≤ k23 := fun h9 => c_5 ((nI_leI (a := nn) (b := k23) (by omega) (by omega)).mpr h9)
      refine lv_aload_n hx hb dX4_tryCauses_32 rfl (lv_at hl 2 rfl) ?_
      refine lv_aload_n hx hb dX4_tryCauses_33 rfl (lv_at hl 1 rfl) ?_
      refine cWVv (As := [.ref p1]) (rest := []) hx hb hml hown hts (c_X2_copy l G E cI cZ p2 a_p2_zo a_p2_he a_p2_go a_p2_le a_p2_hd a_p2_gn p1 a_p1_zo a_p1_he a_p1_go a_p1_le a_p1_hd a_p1_gn a_p2_lv a_p2_pa xl p1_la fs_p1 h_p1_zo h_p1_he h_p1_go h_p1_le h_p1_hd h_p1_gn h_p1_la x0 x1 x2 x3 x4 x5 p1_zo p1_he p1_go p1_le p1_hd p1_gn) k_37_3 cal_X2_copy ⟨Nat.le_of_ble_eq_true rfl, Nat.le_of_ble_eq_true rfl⟩ hE hA hlow hD hS hK [0, 1] rfl hP [14, 15, 16, 17, 18, 19, 20, 7, 8, 9, 10, 11, 12, 13] rfl (by decide) [p2, a_p2_zo, a_p2_he, a_p2_go, a_p2_le, a_p2_hd, a_p2_gn, p1, a_p1_zo, a_p1_he, a_p1_go, a_p1_le, a_p1_hd, a_p1_gn] rfl (fun _ => rfl) [0, 1, 2, 3, 4, 5, 6, 21] [(o, .inr (4, fs_o)), (a_gp, .inl (cI, 8, .inl gp)), (a_gr, .inl (cI, 8, .inl gr)), (a_cz, .inl (cI, 8, .inl cz)), (a_cl, .inl (cI, 8, .inl cl)), (a_lw, .inl (cI, 48, .inl ((fitS p1_zo p1_go p1_le gr cl p1_la sl gN zN n k23).2.1))), (a_gh, .inl (cI, 48, .inl ((fitS p1_zo p1_go p1_le gr cl p1_la sl gN zN n k23).2.2))), (a_p2_pa, .inl (cI, 48, .inl x6))] (fun _ => [(o, .inr (4, fs_o)), (a_gp, .inl (cI, 8, .inl gp)), (a_gr, .inl (cI, 8, .inl gr)), (a_cz, .inl (cI, 8, .inl cz)), (a_cl, .inl (cI, 8, .inl cl)), (a_lw, .inl (cI, 48, .inl ((fitS p1_zo p1_go p1_le gr cl p1_la sl gN zN n k23).2.1))), (a_gh, .inl (cI, 48, .inl ((fitS p1_zo p1_go p1_le gr cl p1_la sl gN zN n k23).2.2))), (p1, .inr (2, fs_p1)), (a_p1_zo, .inl (cI, 48, .inl p1_zo)), (a_p1_he, .inl (cI, 48, .inl p1_he)), (a_p1_go, .inl (cI, 48, .inl p1_go)), (a_p1_le, .inl (cI, 6, .inl p1_le)), (a_p1_hd, .inl (cI, 6, .inl p1_hd)), (a_p1_gn, .inl (cI, 6, .inl p1_gn)), (p2, .inr (2, [.ref a_p2_zo, .ref a_p2_he, .ref a_p2_go, .ref a_p2_le, .ref a_p2_hd, .ref a_p2_gn, .int p1_la, .ref a_p2_lv, .ref a_p2_pa])), (a_p2_zo, .inl (cI, 48, .inl p1_zo)), (a_p2_he, .inl (cI, 48, .inl p1_he)), (a_p2_go, .inl (cI, 48, .inl p1_go)), (a_p2_le, .inl (cI, 6, .inl p1_le)), (a_p2_hd, .inl (cI, 6, .inl p1_hd)), (a_p2_gn, .inl (cI, 6, .inl p1_gn)), (a_p2_pa, .inl (cI, 48, .inl x6))]) 22 rfl (fun _ => rfl) (fun _ => rfl) (fun _ => rfl) (by decide) (by decide) 14 2 rfl rfl rfl hl.1 rfl (Nat.le_of_ble_eq_true rfl) dX4_tryCauses_34 ⟨Nat.zero_le _, Nat.zero_le _⟩ (fun u H locs hr_ hP hD hS => ?_)
      have hP : va_P G vwCl [(o, .inr (4, fs_o)), (a_gp, .inl (cI, 8, .inl gp)), (a_gr, .inl (cI, 8, .inl gr)), (a_cz, .inl (cI, 8, .inl cz)), (a_cl, .inl (cI, 8, .inl cl)), (a_lw, .inl (cI, 48, .inl ((fitS p1_zo p1_go p1_le gr cl p1_la sl gN zN n k23).2.1))), (a_gh, .inl (cI, 48, .inl ((fitS p1_zo p1_go p1_le gr cl p1_la sl gN zN n k23).2.2))), (p1, .inr (2, fs_p1)), (a_p1_zo, .inl (cI, 48, .inl p1_zo)), (a_p1_he, .inl (cI, 48, .inl p1_he)), (a_p1_go, .inl (cI, 48, .inl p1_go)), (a_p1_le, .inl (cI, 6, .inl p1_le)), (a_p1_hd, .inl (cI, 6, .inl p1_hd)), (a_p1_gn, .inl (cI, 6, .inl p1_gn)), (p2, .inr (2, [.ref a_p2_zo, .ref a_p2_he, .ref a_p2_go, .ref a_p2_le, .ref a_p2_hd, .ref a_p2_gn, .int p1_la, .ref a_p2_lv, .ref a_p2_pa])), (a_p2_zo, .inl (cI, 48, .inl p1_zo)), (a_p2_he, .inl (cI, 48, .inl p1_he)), (a_p2_go, .inl (cI, 48, .inl p1_go)), (a_p2_le, .inl (cI, 6, .inl p1_le)), (a_p2_hd, .inl (cI, 6, .inl p1_hd)), (a_p2_gn, .inl (cI, 6, .inl p1_gn)), (a_p2_pa, .inl (cI, 48, .inl x6))] H := hP
      have hD : va_D A [(o, .inr (4, fs_o)), (a_gp, .inl (cI, 8, .inl gp)), (a_gr, .inl (cI, 8, .inl gr)), (a_cz, .inl (cI, 8, .inl cz)), (a_cl, .inl (cI, 8, .inl cl)), (a_lw, .inl (cI, 48, .inl ((fitS p1_zo p1_go p1_le gr cl p1_la sl gN zN n k23).2.1))), (a_gh, .inl (cI, 48, .inl ((fitS p1_zo p1_go p1_le gr cl p1_la sl gN zN n k23).2.2))), (p1, .inr (2, fs_p1)), (a_p1_zo, .inl (cI, 48, .inl p1_zo)), (a_p1_he, .inl (cI, 48, .inl p1_he)), (a_p1_go, .inl (cI, 48, .inl p1_go)), (a_p1_le, .inl (cI, 6, .inl p1_le)), (a_p1_hd, .inl (cI, 6, .inl p1_hd)), (a_p1_gn, .inl (cI, 6, .inl p1_gn)), (p2, .inr (2, [.ref a_p2_zo, .ref a_p2_he, .ref a_p2_go, .ref a_p2_le, .ref a_p2_hd, .ref a_p2_gn, .int p1_la, .ref a_p2_lv, .ref a_p2_pa])), (a_p2_zo, .inl (cI, 48, .inl p1_zo)), (a_p2_he, .inl (cI, 48, .inl p1_he)), (a_p2_go, .inl (cI, 48, .inl p1_go)), (a_p2_le, .inl (cI, 6, .inl p1_le)), (a_p2_hd, .inl (cI, 6, .inl p1_hd)), (a_p2_gn, .inl (cI, 6, .inl p1_gn)), (a_p2_pa, .inl (cI, 48, .inl x6))] := hD
      refine lv_aload_n hx hb dX4_tryCauses_37 rfl (lv_at hl 2 rfl) ?_
      refine va_get (D := G) (ci := 2) (v := .ref a_p2_le) (C := RX2) (T := TX2) (N := 9) hx hb hts inlX2 hown hK hP 14 rfl rfl 3 (by decide) (hts (.fieldLink RX4 52 "EarthBanks$Slice" "leads" "[I") k_37_1) (fun _ h9 => h9) rfl dX4_tryCauses_38 ?_
      refine lv_aload_n hx hb dX4_tryCauses_41 rfl (lv_at hl 0 rfl) ?_
      refine va_get (D := G) (ci := 4) (v := .ref a_cz) (C := RX4) (T := TX4) (N := 9) hx hb hts inlX4 hown hK hP 0 rfl rfl 2 (by decide) (hts (.fieldLink RX4 18 "EarthBanks$Watch" "causeZones" "[I") k_5_15) (fun _ h9 => h9) h_o_cz dX4_tryCauses_42 ?_
      refine lv_iload hx hb dX4_tryCauses_45 (lv_at hl 4 rfl) ?_
      refine ialdN (j := k23) hx hb hK hP 3 0 rfl rfl (by omega) (by decide) dX4_tryCauses_47 ?_
      refine top_eq (y := nI (zN k23)) (hcz k23) ?_
      have hz1 := hzl k23
      refine lv_aload_n hx hb dX4_tryCauses_48 rfl (lv_at hl 0 rfl) ?_
      refine va_get (D := G) (ci := 4) (v := .ref a_cl) (C := RX4) (T := TX4) (N := 9) hx hb hts inlX4 hown hK hP 0 rfl rfl 3 (by decide) (hts (.fieldLink RX4 21 "EarthBanks$Watch" "causeLeads" "[I") k_5_16) (fun _ h9 => h9) h_o_cl dX4_tryCauses_49 ?_
      refine lv_iload hx hb dX4_tryCauses_52 (lv_at hl 4 rfl) ?_
      refine ialdN (j := k23) hx hb hK hP 4 0 rfl rfl (by omega) (by decide) dX4_tryCauses_54 ?_
      refine iastN (j := (zN k23)) hx hb hK hP hD hS 18 0 rfl rfl (by omega) (by decide) dX4_tryCauses_55 (fun H locs hP hD hS => ?_)
      have hP : va_P G vwCl [(o, .inr (4, fs_o)), (a_gp, .inl (cI, 8, .inl gp)), (a_gr, .inl (cI, 8, .inl gr)), (a_cz, .inl (cI, 8, .inl cz)), (a_cl, .inl (cI, 8, .inl cl)), (a_lw, .inl (cI, 48, .inl ((fitS p1_zo p1_go p1_le gr cl p1_la sl gN zN n k23).2.1))), (a_gh, .inl (cI, 48, .inl ((fitS p1_zo p1_go p1_le gr cl p1_la sl gN zN n k23).2.2))), (p1, .inr (2, fs_p1)), (a_p1_zo, .inl (cI, 48, .inl p1_zo)), (a_p1_he, .inl (cI, 48, .inl p1_he)), (a_p1_go, .inl (cI, 48, .inl p1_go)), (a_p1_le, .inl (cI, 6, .inl p1_le)), (a_p1_hd, .inl (cI, 6, .inl p1_hd)), (a_p1_gn, .inl (cI, 6, .inl p1_gn)), (p2, .inr (2, [.ref a_p2_zo, .ref a_p2_he, .ref a_p2_go, .ref a_p2_le, .ref a_p2_hd, .ref a_p2_gn, .int p1_la, .ref a_p2_lv, .ref a_p2_pa])), (a_p2_zo, .inl (cI, 48, .inl p1_zo)), (a_p2_he, .inl (cI, 48, .inl p1_he)), (a_p2_go, .inl (cI, 48, .inl p1_go)), (a_p2_le, .inl (cI, 6, .inl (upd p1_le (zN k23) (cl k23)))), (a_p2_hd, .inl (cI, 6, .inl p1_hd)), (a_p2_gn, .inl (cI, 6, .inl p1_gn)), (a_p2_pa, .inl (cI, 48, .inl x6))] H := hP
      have hD : va_D A [(o, .inr (4, fs_o)), (a_gp, .inl (cI, 8, .inl gp)), (a_gr, .inl (cI, 8, .inl gr)), (a_cz, .inl (cI, 8, .inl cz)), (a_cl, .inl (cI, 8, .inl cl)), (a_lw, .inl (cI, 48, .inl ((fitS p1_zo p1_go p1_le gr cl p1_la sl gN zN n k23).2.1))), (a_gh, .inl (cI, 48, .inl ((fitS p1_zo p1_go p1_le gr cl p1_la sl gN zN n k23).2.2))), (p1, .inr (2, fs_p1)), (a_p1_zo, .inl (cI, 48, .inl p1_zo)), (a_p1_he, .inl (cI, 48, .inl p1_he)), (a_p1_go, .inl (cI, 48, .inl p1_go)), (a_p1_le, .inl (cI, 6, .inl p1_le)), (a_p1_hd, .inl (cI, 6, .inl p1_hd)), (a_p1_gn, .inl (cI, 6, .inl p1_gn)), (p2, .inr (2, [.ref a_p2_zo, .ref a_p2_he, .ref a_p2_go, .ref a_p2_le, .ref a_p2_hd, .ref a_p2_gn, .int p1_la, .ref a_p2_lv, .ref a_p2_pa])), (a_p2_zo, .inl (cI, 48, .inl p1_zo)), (a_p2_he, .inl (cI, 48, .inl p1_he)), (a_p2_go, .inl (cI, 48, .inl p1_go)), (a_p2_le, .inl (cI, 6, .inl (upd p1_le (zN k23) (cl k23)))), (a_p2_hd, .inl (cI, 6, .inl p1_hd)), (a_p2_gn, .inl (cI, 6, .inl p1_gn)), (a_p2_pa, .inl (cI, 48, .inl x6))] := hD
      refine lv_aload_n hx hb dX4_tryCauses_56 rfl (lv_at hl 2 rfl) ?_
      refine cWVv (As := []) (rest := []) hx hb hml hown hts (c_X2_soakAnew l G E cI cZ p2 a_p2_zo a_p2_he a_p2_go a_p2_le a_p2_pa p1_la [.ref a_p2_zo, .ref a_p2_he, .ref a_p2_go, .ref a_p2_le, .ref a_p2_hd, .ref a_p2_gn, .int p1_la, .ref a_p2_lv, .ref a_p2_pa] rfl rfl rfl rfl rfl rfl p1_zo p1_he p1_go (upd p1_le (zN k23) (cl k23)) x6) k_37_4 cal_X2_soakAnew ⟨Nat.le_of_ble_eq_true rfl, Nat.le_of_ble_eq_true rfl⟩ hE hA hlow hD hS hK [0, 1] rfl hP [14, 15, 16, 17, 18, 21] rfl (by decide) [p2, a_p2_zo, a_p2_he, a_p2_go, a_p2_le, a_p2_pa] rfl (fun _ => rfl) [0, 1, 2, 3, 4, 5, 6, 7, 8, 9, 10, 11, 12, 13, 19, 20] [(o, .inr (4, fs_o)), (a_gp, .inl (cI, 8, .inl gp)), (a_gr, .inl (cI, 8, .inl gr)), (a_cz, .inl (cI, 8, .inl cz)), (a_cl, .inl (cI, 8, .inl cl)), (a_lw, .inl (cI, 48, .inl ((fitS p1_zo p1_go p1_le gr cl p1_la sl gN zN n k23).2.1))), (a_gh, .inl (cI, 48, .inl ((fitS p1_zo p1_go p1_le gr cl p1_la sl gN zN n k23).2.2))), (p1, .inr (2, fs_p1)), (a_p1_zo, .inl (cI, 48, .inl p1_zo)), (a_p1_he, .inl (cI, 48, .inl p1_he)), (a_p1_go, .inl (cI, 48, .inl p1_go)), (a_p1_le, .inl (cI, 6, .inl p1_le)), (a_p1_hd, .inl (cI, 6, .inl p1_hd)), (a_p1_gn, .inl (cI, 6, .inl p1_gn)), (a_p2_hd, .inl (cI, 6, .inl p1_hd)), (a_p2_gn, .inl (cI, 6, .inl p1_gn))] (fun _ => [(o, .inr (4, fs_o)), (a_gp, .inl (cI, 8, .inl gp)), (a_gr, .inl (cI, 8, .inl gr)), (a_cz, .inl (cI, 8, .inl cz)), (a_cl, .inl (cI, 8, .inl cl)), (a_lw, .inl (cI, 48, .inl ((fitS p1_zo p1_go p1_le gr cl p1_la sl gN zN n k23).2.1))), (a_gh, .inl (cI, 48, .inl ((fitS p1_zo p1_go p1_le gr cl p1_la sl gN zN n k23).2.2))), (p1, .inr (2, fs_p1)), (a_p1_zo, .inl (cI, 48, .inl p1_zo)), (a_p1_he, .inl (cI, 48, .inl p1_he)), (a_p1_go, .inl (cI, 48, .inl p1_go)), (a_p1_le, .inl (cI, 6, .inl p1_le)), (a_p1_hd, .inl (cI, 6, .inl p1_hd)), (a_p1_gn, .inl (cI, 6, .inl p1_gn)), (p2, .inr (2, [.ref a_p2_zo, .ref a_p2_he, .ref a_p2_go, .ref a_p2_le, .ref a_p2_hd, .ref a_p2_gn, .int p1_la, .ref a_p2_lv, .ref a_p2_pa])), (a_p2_zo, .inl (cI, 48, .inl p1_zo)), (a_p2_he, .inl (cI, 48, .inl (swS (paS p1_zo p1_go (upd p1_le (zN k23) (cl k23))) p1_la (fun _ => 0) 40))), (a_p2_go, .inl (cI, 48, .inl p1_go)), (a_p2_le, .inl (cI, 6, .inl (upd p1_le (zN k23) (cl k23)))), (a_p2_hd, .inl (cI, 6, .inl p1_hd)), (a_p2_gn, .inl (cI, 6, .inl p1_gn)), (a_p2_pa, .inl (cI, 48, .inl (paS p1_zo p1_go (upd p1_le (zN k23) (cl k23)))))]) 22 rfl (fun _ => rfl) (fun _ => rfl) (fun _ => rfl) (by decide) (by decide) 14 2 rfl rfl rfl hl.1 rfl (Nat.le_of_ble_eq_true rfl) dX4_tryCauses_57 ⟨Nat.zero_le _, Nat.zero_le _⟩ (fun u H locs hr_ hP hD hS => ?_)
      have hP : va_P G vwCl [(o, .inr (4, fs_o)), (a_gp, .inl (cI, 8, .inl gp)), (a_gr, .inl (cI, 8, .inl gr)), (a_cz, .inl (cI, 8, .inl cz)), (a_cl, .inl (cI, 8, .inl cl)), (a_lw, .inl (cI, 48, .inl ((fitS p1_zo p1_go p1_le gr cl p1_la sl gN zN n k23).2.1))), (a_gh, .inl (cI, 48, .inl ((fitS p1_zo p1_go p1_le gr cl p1_la sl gN zN n k23).2.2))), (p1, .inr (2, fs_p1)), (a_p1_zo, .inl (cI, 48, .inl p1_zo)), (a_p1_he, .inl (cI, 48, .inl p1_he)), (a_p1_go, .inl (cI, 48, .inl p1_go)), (a_p1_le, .inl (cI, 6, .inl p1_le)), (a_p1_hd, .inl (cI, 6, .inl p1_hd)), (a_p1_gn, .inl (cI, 6, .inl p1_gn)), (p2, .inr (2, [.ref a_p2_zo, .ref a_p2_he, .ref a_p2_go, .ref a_p2_le, .ref a_p2_hd, .ref a_p2_gn, .int p1_la, .ref a_p2_lv, .ref a_p2_pa])), (a_p2_zo, .inl (cI, 48, .inl p1_zo)), (a_p2_he, .inl (cI, 48, .inl (swS (paS p1_zo p1_go (upd p1_le (zN k23) (cl k23))) p1_la (fun _ => 0) 40))), (a_p2_go, .inl (cI, 48, .inl p1_go)), (a_p2_le, .inl (cI, 6, .inl (upd p1_le (zN k23) (cl k23)))), (a_p2_hd, .inl (cI, 6, .inl p1_hd)), (a_p2_gn, .inl (cI, 6, .inl p1_gn)), (a_p2_pa, .inl (cI, 48, .inl (paS p1_zo p1_go (upd p1_le (zN k23) (cl k23)))))] H := hP
      have hD : va_D A [(o, .inr (4, fs_o)), (a_gp, .inl (cI, 8, .inl gp)), (a_gr, .inl (cI, 8, .inl gr)), (a_cz, .inl (cI, 8, .inl cz)), (a_cl, .inl (cI, 8, .inl cl)), (a_lw, .inl (cI, 48, .inl ((fitS p1_zo p1_go p1_le gr cl p1_la sl gN zN n k23).2.1))), (a_gh, .inl (cI, 48, .inl ((fitS p1_zo p1_go p1_le gr cl p1_la sl gN zN n k23).2.2))), (p1, .inr (2, fs_p1)), (a_p1_zo, .inl (cI, 48, .inl p1_zo)), (a_p1_he, .inl (cI, 48, .inl p1_he)), (a_p1_go, .inl (cI, 48, .inl p1_go)), (a_p1_le, .inl (cI, 6, .inl p1_le)), (a_p1_hd, .inl (cI, 6, .inl p1_hd)), (a_p1_gn, .inl (cI, 6, .inl p1_gn)), (p2, .inr (2, [.ref a_p2_zo, .ref a_p2_he, .ref a_p2_go, .ref a_p2_le, .ref a_p2_hd, .ref a_p2_gn, .int p1_la, .ref a_p2_lv, .ref a_p2_pa])), (a_p2_zo, .inl (cI, 48, .inl p1_zo)), (a_p2_he, .inl (cI, 48, .inl (swS (paS p1_zo p1_go (upd p1_le (zN k23) (cl k23))) p1_la (fun _ => 0) 40))), (a_p2_go, .inl (cI, 48, .inl p1_go)), (a_p2_le, .inl (cI, 6, .inl (upd p1_le (zN k23) (cl k23)))), (a_p2_hd, .inl (cI, 6, .inl p1_hd)), (a_p2_gn, .inl (cI, 6, .inl p1_gn)), (a_p2_pa, .inl (cI, 48, .inl (paS p1_zo p1_go (upd p1_le (zN k23) (cl k23)))))] := hD
      refine lv_aload_n hx hb dX4_tryCauses_60 rfl (lv_at hl 0 rfl) ?_
      refine lv_aload_n hx hb dX4_tryCauses_61 rfl (lv_at hl 2 rfl) ?_
      refine cRV (As := [.ref p2]) (rest := []) hx hb hml hown hts (c_X4_allGaugesAgree l G E cI cZ gN n o a_gp a_gr p2 a_p2_zo a_p2_he a_p2_go sl fs_o h_o_ng h_o_gp h_o_gr h_o_sl [.ref a_p2_zo, .ref a_p2_he, .ref a_p2_go, .ref a_p2_le, .ref a_p2_hd, .ref a_p2_gn, .int p1_la, .ref a_p2_lv, .ref a_p2_pa] rfl rfl rfl gp gr p1_zo (swS (paS p1_zo p1_go (upd p1_le (zN k23) (cl k23))) p1_la (fun _ => 0) 40) p1_go (hgp) (hgl) (hn)) k_37_5 cal_X4_allGaugesAgree ⟨Nat.le_of_ble_eq_true rfl, Nat.le_of_ble_eq_true rfl⟩ hE hlow hS hK [0, 1] rfl hP [0, 1, 2, 14, 15, 16, 17] rfl 0 4 rfl rfl rfl hl.1 rfl (Nat.le_of_ble_eq_true rfl) dX4_tryCauses_62 ⟨Nat.zero_le _, Nat.zero_le _⟩ ?_
      refine lv_if_ne (tgt := 71) hx hb dX4_tryCauses_65 (by decide) (fun c_6 => ?_) (fun c_6 => ?_)
      · skip
        have c_6 : (agrS p1_zo (swS (paS p1_zo p1_go (upd p1_le (zN k23) (cl k23))) p1_la (fun _ => 0) 40) p1_go gr gN sl n) = true := bI_t c_6
        refine lv_iload_n hx hb dX4_tryCauses_71 rfl (lv_at hl 3 rfl) ?_
        refine lv_iconst (v := 1) hx hb dX4_tryCauses_72 (by decide) ?_
        refine lv_iload hx hb dX4_tryCauses_73 (lv_at hl 4 rfl) ?_
        refine lv_ishl hx hb dX4_tryCauses_75 ?_
        refine lv_ior hx hb dX4_tryCauses_76 ?_
        refine lv_istore_n (lv' := [(3, .int (((fitS p1_zo p1_go p1_le gr cl p1_la sl gN zN n k23).1) ||| (1 <<< (nI k23 &&& 31)))), (0, .ref o), (1, .ref p1), (2, .ref p2), (4, .int (nI k23))]) hx hb dX4_tryCauses_77 rfl hl (by decide) rfl (fun ls hl => ?_)
        refine lv_aload_n hx hb dX4_tryCauses_78 rfl (lv_at hl 1 rfl) ?_
        refine lv_aload_n hx hb dX4_tryCauses_79 rfl (lv_at hl 3 rfl) ?_
        refine cWVv (As := [.ref p2]) (rest := []) hx hb hml hown hts (c_X4_noteHeads l G E cI cZ o a_lw a_gh p2 a_p2_he fs_o h_o_lw h_o_gh [.ref a_p2_zo, .ref a_p2_he, .ref a_p2_go, .ref a_p2_le, .ref a_p2_hd, .ref a_p2_gn, .int p1_la, .ref a_p2_lv, .ref a_p2_pa] rfl ((fitS p1_zo p1_go p1_le gr cl p1_la sl gN zN n k23).2.1) ((fitS p1_zo p1_go p1_le gr cl p1_la sl gN zN n k23).2.2) (swS (paS p1_zo p1_go (upd p1_le (zN k23) (cl k23))) p1_la (fun _ => 0) 40)) k_37_14 cal_X4_noteHeads ⟨Nat.le_of_ble_eq_true rfl, Nat.le_of_ble_eq_true rfl⟩ hE hA hlow hD hS hK [0, 1] rfl hP [0, 5, 6, 14, 16] rfl (by decide) [o, a_lw, a_gh, p2, a_p2_he] rfl (fun _ => rfl) [1, 2, 3, 4, 7, 8, 9, 10, 11, 12, 13, 15, 17, 18, 19, 20, 21] [(a_gp, .inl (cI, 8, .inl gp)), (a_gr, .inl (cI, 8, .inl gr)), (a_cz, .inl (cI, 8, .inl cz)), (a_cl, .inl (cI, 8, .inl cl)), (p1, .inr (2, fs_p1)), (a_p1_zo, .inl (cI, 48, .inl p1_zo)), (a_p1_he, .inl (cI, 48, .inl p1_he)), (a_p1_go, .inl (cI, 48, .inl p1_go)), (a_p1_le, .inl (cI, 6, .inl p1_le)), (a_p1_hd, .inl (cI, 6, .inl p1_hd)), (a_p1_gn, .inl (cI, 6, .inl p1_gn)), (a_p2_zo, .inl (cI, 48, .inl p1_zo)), (a_p2_go, .inl (cI, 48, .inl p1_go)), (a_p2_le, .inl (cI, 6, .inl (upd p1_le (zN k23) (cl k23)))), (a_p2_hd, .inl (cI, 6, .inl p1_hd)), (a_p2_gn, .inl (cI, 6, .inl p1_gn)), (a_p2_pa, .inl (cI, 48, .inl (paS p1_zo p1_go (upd p1_le (zN k23) (cl k23)))))] (fun _ => [(o, .inr (4, fs_o)), (a_gp, .inl (cI, 8, .inl gp)), (a_gr, .inl (cI, 8, .inl gr)), (a_cz, .inl (cI, 8, .inl cz)), (a_cl, .inl (cI, 8, .inl cl)), (a_lw, .inl (cI, 48, .inl (lwS ((fitS p1_zo p1_go p1_le gr cl p1_la sl gN zN n k23).2.1) (swS (paS p1_zo p1_go (upd p1_le (zN k23) (cl k23))) p1_la (fun _ => 0) 40)))), (a_gh, .inl (cI, 48, .inl (ghS ((fitS p1_zo p1_go p1_le gr cl p1_la sl gN zN n k23).2.2) (swS (paS p1_zo p1_go (upd p1_le (zN k23) (cl k23))) p1_la (fun _ => 0) 40)))), (p1, .inr (2, fs_p1)), (a_p1_zo, .inl (cI, 48, .inl p1_zo)), (a_p1_he, .inl (cI, 48, .inl p1_he)), (a_p1_go, .inl (cI, 48, .inl p1_go)), (a_p1_le, .inl (cI, 6, .inl p1_le)), (a_p1_hd, .inl (cI, 6, .inl p1_hd)), (a_p1_gn, .inl (cI, 6, .inl p1_gn)), (p2, .inr (2, [.ref a_p2_zo, .ref a_p2_he, .ref a_p2_go, .ref a_p2_le, .ref a_p2_hd, .ref a_p2_gn, .int p1_la, .ref a_p2_lv, .ref a_p2_pa])), (a_p2_zo, .inl (cI, 48, .inl p1_zo)), (a_p2_he, .inl (cI, 48, .inl (swS (paS p1_zo p1_go (upd p1_le (zN k23) (cl k23))) p1_la (fun _ => 0) 40))), (a_p2_go, .inl (cI, 48, .inl p1_go)), (a_p2_le, .inl (cI, 6, .inl (upd p1_le (zN k23) (cl k23)))), (a_p2_hd, .inl (cI, 6, .inl p1_hd)), (a_p2_gn, .inl (cI, 6, .inl p1_gn)), (a_p2_pa, .inl (cI, 48, .inl (paS p1_zo p1_go (upd p1_le (zN k23) (cl k23)))))]) 22 rfl (fun _ => rfl) (fun _ => rfl) (fun _ => rfl) (by decide) (by decide) 0 4 rfl rfl rfl hl.1 rfl (Nat.le_of_ble_eq_true rfl) dX4_tryCauses_80 ⟨Nat.zero_le _, Nat.zero_le _⟩ (fun u H locs hr_ hP hD hS => ?_)
        have hP : va_P G vwCl [(o, .inr (4, fs_o)), (a_gp, .inl (cI, 8, .inl gp)), (a_gr, .inl (cI, 8, .inl gr)), (a_cz, .inl (cI, 8, .inl cz)), (a_cl, .inl (cI, 8, .inl cl)), (a_lw, .inl (cI, 48, .inl (lwS ((fitS p1_zo p1_go p1_le gr cl p1_la sl gN zN n k23).2.1) (swS (paS p1_zo p1_go (upd p1_le (zN k23) (cl k23))) p1_la (fun _ => 0) 40)))), (a_gh, .inl (cI, 48, .inl (ghS ((fitS p1_zo p1_go p1_le gr cl p1_la sl gN zN n k23).2.2) (swS (paS p1_zo p1_go (upd p1_le (zN k23) (cl k23))) p1_la (fun _ => 0) 40)))), (p1, .inr (2, fs_p1)), (a_p1_zo, .inl (cI, 48, .inl p1_zo)), (a_p1_he, .inl (cI, 48, .inl p1_he)), (a_p1_go, .inl (cI, 48, .inl p1_go)), (a_p1_le, .inl (cI, 6, .inl p1_le)), (a_p1_hd, .inl (cI, 6, .inl p1_hd)), (a_p1_gn, .inl (cI, 6, .inl p1_gn)), (p2, .inr (2, [.ref a_p2_zo, .ref a_p2_he, .ref a_p2_go, .ref a_p2_le, .ref a_p2_hd, .ref a_p2_gn, .int p1_la, .ref a_p2_lv, .ref a_p2_pa])), (a_p2_zo, .inl (cI, 48, .inl p1_zo)), (a_p2_he, .inl (cI, 48, .inl (swS (paS p1_zo p1_go (upd p1_le (zN k23) (cl k23))) p1_la (fun _ => 0) 40))), (a_p2_go, .inl (cI, 48, .inl p1_go)), (a_p2_le, .inl (cI, 6, .inl (upd p1_le (zN k23) (cl k23)))), (a_p2_hd, .inl (cI, 6, .inl p1_hd)), (a_p2_gn, .inl (cI, 6, .inl p1_gn)), (a_p2_pa, .inl (cI, 48, .inl (paS p1_zo p1_go (upd p1_le (zN k23) (cl k23)))))] H := hP
        have hD : va_D A [(o, .inr (4, fs_o)), (a_gp, .inl (cI, 8, .inl gp)), (a_gr, .inl (cI, 8, .inl gr)), (a_cz, .inl (cI, 8, .inl cz)), (a_cl, .inl (cI, 8, .inl cl)), (a_lw, .inl (cI, 48, .inl (lwS ((fitS p1_zo p1_go p1_le gr cl p1_la sl gN zN n k23).2.1) (swS (paS p1_zo p1_go (upd p1_le (zN k23) (cl k23))) p1_la (fun _ => 0) 40)))), (a_gh, .inl (cI, 48, .inl (ghS ((fitS p1_zo p1_go p1_le gr cl p1_la sl gN zN n k23).2.2) (swS (paS p1_zo p1_go (upd p1_le (zN k23) (cl k23))) p1_la (fun _ => 0) 40)))), (p1, .inr (2, fs_p1)), (a_p1_zo, .inl (cI, 48, .inl p1_zo)), (a_p1_he, .inl (cI, 48, .inl p1_he)), (a_p1_go, .inl (cI, 48, .inl p1_go)), (a_p1_le, .inl (cI, 6, .inl p1_le)), (a_p1_hd, .inl (cI, 6, .inl p1_hd)), (a_p1_gn, .inl (cI, 6, .inl p1_gn)), (p2, .inr (2, [.ref a_p2_zo, .ref a_p2_he, .ref a_p2_go, .ref a_p2_le, .ref a_p2_hd, .ref a_p2_gn, .int p1_la, .ref a_p2_lv, .ref a_p2_pa])), (a_p2_zo, .inl (cI, 48, .inl p1_zo)), (a_p2_he, .inl (cI, 48, .inl (swS (paS p1_zo p1_go (upd p1_le (zN k23) (cl k23))) p1_la (fun _ => 0) 40))), (a_p2_go, .inl (cI, 48, .inl p1_go)), (a_p2_le, .inl (cI, 6, .inl (upd p1_le (zN k23) (cl k23)))), (a_p2_hd, .inl (cI, 6, .inl p1_hd)), (a_p2_gn, .inl (cI, 6, .inl p1_gn)), (a_p2_pa, .inl (cI, 48, .inl (paS p1_zo p1_go (upd p1_le (zN k23) (cl k23)))))] := hD
        refine lv_iinc (v := nI (k23 + 1)) (lv' := [(4, .int (nI (k23 + 1))), (3, .int (((fitS p1_zo p1_go p1_le gr cl p1_la sl gN zN n k23).1) ||| (1 <<< (nI k23 &&& 31)))), (0, .ref o), (1, .ref p1), (2, .ref p2)]) hx hb dX4_tryCauses_83 hl (k := 4) rfl (nI_add _ _) (by decide) rfl (fun ls hl => ?_)
        refine lv_goto (tgt := 23) hx hb dX4_tryCauses_86 (by decide) ?_
        have el_7 : ((((fitS p1_zo p1_go p1_le gr cl p1_la sl gN zN n k23).1) ||| (1 <<< (nI k23 &&& 31))) : Int32) = (fitS p1_zo p1_go p1_le gr cl p1_la sl gN zN n (k23 + 1)).1 := by rw [fitS_s]; simp [chS, c_5, c_6]
        have er_8 : (lwS ((fitS p1_zo p1_go p1_le gr cl p1_la sl gN zN n k23).2.1) (swS (paS p1_zo p1_go (upd p1_le (zN k23) (cl k23))) p1_la (fun _ => 0) 40)) = ((fitS p1_zo p1_go p1_le gr cl p1_la sl gN zN n (k23 + 1)).2.1) := by rw [fitS_s]; simp [chS, c_5, c_6]
        have er_9 : (ghS ((fitS p1_zo p1_go p1_le gr cl p1_la sl gN zN n k23).2.2) (swS (paS p1_zo p1_go (upd p1_le (zN k23) (cl k23))) p1_la (fun _ => 0) 40)) = ((fitS p1_zo p1_go p1_le gr cl p1_la sl gN zN n (k23 + 1)).2.2) := by rw [fitS_s]; simp [chS, c_5, c_6]
        have er_10 : (swS (paS p1_zo p1_go (upd p1_le (zN k23) (cl k23))) p1_la (fun _ => 0) 40) = (swS (paS p1_zo p1_go (upd p1_le (zN k23) (cl k23))) p1_la (fun _ => 0) 40) := by simp [bI, c_5, c_6]
        have er_11 : (upd p1_le (zN k23) (cl k23)) = (upd p1_le (zN k23) (cl k23)) := by simp [bI, c_5, c_6]
        have er_12 : (paS p1_zo p1_go (upd p1_le (zN k23) (cl k23))) = (paS p1_zo p1_go (upd p1_le (zN k23) (cl k23))) := by simp [bI, c_5, c_6]
        exact ih23 (k23 + 1) p1_zo (swS (paS p1_zo p1_go (upd p1_le (zN k23) (cl k23))) p1_la (fun _ => 0) 40) p1_go (upd p1_le (zN k23) (cl k23)) p1_hd p1_gn (paS p1_zo p1_go (upd p1_le (zN k23) (cl k23))) p1_la (by omega) (by omega) (by omega)  H locs (by rw [← er_8, ← er_9, ← er_10, ← er_11, ← er_12]; exact hP) (by rw [← er_8, ← er_9, ← er_10, ← er_11, ← er_12]; exact hD) hS ls (lv_sub hl [2, 3, 4, 1, 0] (show ([(0, .ref o), (1, .ref p1), (2, .ref p2), (3, .int (((fitS p1_zo p1_go p1_le gr cl p1_la sl gN zN n k23).1) ||| (1 <<< (nI k23 &&& 31)))), (4, .int (nI (k23 + 1)))] : List (Nat × Value)) = [(0, .ref o), (1, .ref p1), (2, .ref p2), (3, .int ((fitS p1_zo p1_go p1_le gr cl p1_la sl gN zN n (k23 + 1)).1)), (4, .int (nI (k23 + 1)))] by rw [← el_7]))
      · skip
        have c_6 : (agrS p1_zo (swS (paS p1_zo p1_go (upd p1_le (zN k23) (cl k23))) p1_la (fun _ => 0) 40) p1_go gr gN sl n) = false := bI_f c_6
        refine lv_goto (tgt := 83) hx hb dX4_tryCauses_68 (by decide) ?_
        refine lv_iinc (v := nI (k23 + 1)) (lv' := [(4, .int (nI (k23 + 1))), (0, .ref o), (1, .ref p1), (2, .ref p2), (3, .int ((fitS p1_zo p1_go p1_le gr cl p1_la sl gN zN n k23).1))]) hx hb dX4_tryCauses_83 hl (k := 4) rfl (nI_add _ _) (by decide) rfl (fun ls hl => ?_)
        refine lv_goto (tgt := 23) hx hb dX4_tryCauses_86 (by decide) ?_
        have el_13 : ((fitS p1_zo p1_go p1_le gr cl p1_la sl gN zN n k23).1 : Int32) = (fitS p1_zo p1_go p1_le gr cl p1_la sl gN zN n (k23 + 1)).1 := by rw [fitS_s]; simp [chS, c_5, c_6]
        have er_14 : ((fitS p1_zo p1_go p1_le gr cl p1_la sl gN zN n k23).2.1) = ((fitS p1_zo p1_go p1_le gr cl p1_la sl gN zN n (k23 + 1)).2.1) := by rw [fitS_s]; simp [chS, c_5, c_6]
        have er_15 : ((fitS p1_zo p1_go p1_le gr cl p1_la sl gN zN n k23).2.2) = ((fitS p1_zo p1_go p1_le gr cl p1_la sl gN zN n (k23 + 1)).2.2) := by rw [fitS_s]; simp [chS, c_5, c_6]
        have er_16 : (swS (paS p1_zo p1_go (upd p1_le (zN k23) (cl k23))) p1_la (fun _ => 0) 40) = (swS (paS p1_zo p1_go (upd p1_le (zN k23) (cl k23))) p1_la (fun _ => 0) 40) := by simp [bI, c_5, c_6]
        have er_17 : (upd p1_le (zN k23) (cl k23)) = (upd p1_le (zN k23) (cl k23)) := by simp [bI, c_5, c_6]
        have er_18 : (paS p1_zo p1_go (upd p1_le (zN k23) (cl k23))) = (paS p1_zo p1_go (upd p1_le (zN k23) (cl k23))) := by simp [bI, c_5, c_6]
        exact ih23 (k23 + 1) p1_zo (swS (paS p1_zo p1_go (upd p1_le (zN k23) (cl k23))) p1_la (fun _ => 0) 40) p1_go (upd p1_le (zN k23) (cl k23)) p1_hd p1_gn (paS p1_zo p1_go (upd p1_le (zN k23) (cl k23))) p1_la (by omega) (by omega) (by omega)  H locs (by rw [← er_14, ← er_15, ← er_16, ← er_17, ← er_18]; exact hP) (by rw [← er_14, ← er_15, ← er_16, ← er_17, ← er_18]; exact hD) hS ls (lv_sub hl [1, 2, 3, 4, 0] (show ([(0, .ref o), (1, .ref p1), (2, .ref p2), (3, .int ((fitS p1_zo p1_go p1_le gr cl p1_la sl gN zN n k23).1)), (4, .int (nI (k23 + 1)))] : List (Nat × Value)) = [(0, .ref o), (1, .ref p1), (2, .ref p2), (3, .int ((fitS p1_zo p1_go p1_le gr cl p1_la sl gN zN n (k23 + 1)).1)), (4, .int (nI (k23 + 1)))] by rw [← el_13]))
theorem cal_X4_placeMostApart : calV yX4_placeMostApart cX4_placeMostApart 4 (some .int) 1 := ⟨k_38_18, k_2_16, k_38_16, k_38_17, by decide +kernel⟩
set_option maxHeartbeats 4000000 in
set_option maxRecDepth 100000 in
theorem c_X4_placeMostApart (l : Launch) (G : va_G) (E : EvT) (cI cZ : ClassId) (o : Nat) (a_lw : Nat) (a_gh : Nat) (p1 : Nat) (a_p1_zo : Nat) (a_p1_go : Nat) (fs_o : List Value) (h_o_gh : fs_o[5]? = some (.ref a_gh)) (h_o_lw : fs_o[4]? = some (.ref a_lw)) (fs_p1 : List Value) (h_p1_zo : fs_p1[0]? = some (.ref a_p1_zo)) (h_p1_go : fs_p1[2]? = some (.ref a_p1_go)) (lw : Nat → Int32) (gh : Nat → Int32) (p1_zo : Nat → Int32) (p1_go : Nat → Int32) : cR l G E yX4_placeMostApart cX4_placeMostApart 4 (some .int) 3 [(cI, .int), (cZ, .boolean)] [.ref o, .ref p1] [(o, .inr (4, fs_o)), (a_lw, .inl (cI, 48, .inl lw)), (a_gh, .inl (cI, 48, .inl gh)), (p1, .inr (2, fs_p1)), (a_p1_zo, .inl (cI, 48, .inl p1_zo)), (a_p1_go, .inl (cI, 48, .inl p1_go))] (ooI (mapS p1_zo p1_go lw gh 48)) := by
  refine mkR (by decide) (Nat.le_of_ble_eq_true rfl) ?_
  intro zp ze s zm args below meth zc hx hb hr hml hown hts hlocks hE hP hK ls hl
  have hS : va_S (fun _ => False) s.heap s.heap [] := va_S.rf
  have hlow : ∀ q : Nat, (fun _ : Nat => False) q → E.1 ≤ q := fun _ h => h.elim
  have hl : lv_has ls 4 [(0, .ref o), (1, .ref p1)] := hl
  refine lv_bipush (v := (-9)) hx hb dX4_placeMostApart_0 (by decide) ?_
  refine lv_istore_n (lv' := [(2, .int (-9)), (0, .ref o), (1, .ref p1)]) hx hb dX4_placeMostApart_2 rfl hl (by decide) rfl (fun ls hl => ?_)
  refine lv_iconst (v := 0) hx hb dX4_placeMostApart_3 (by decide) ?_
  refine lv_istore_n (lv' := [(3, .int 0), (2, .int (-9)), (0, .ref o), (1, .ref p1)]) hx hb dX4_placeMostApart_4 rfl hl (by decide) rfl (fun ls hl => ?_)
  suffices lp5 : ∀ zn k5 : Nat, 0 ≤ k5 → k5 ≤ 48 → 48 < k5 + zn → ∀ ls : Array Slot, lv_has ls 4 [(0, .ref o), (1, .ref p1), (2, .int (ooI (mapS p1_zo p1_go lw gh k5))), (3, .int (nI k5))] → W zp l ze (rmK 3) s zm args below meth zc s.heap [] 0 0 (MQ below (vp_Si (fun zx => zx = ooI (mapS p1_zo p1_go lw gh 48))) args s 0 0 (fun _ => False)) (F0 zm 5 ls []) by
    have el_1 : ((-9) : Int32) = ooI (mapS p1_zo p1_go lw gh 0) := rfl
    have el_2 : (0 : Int32) = nI 0 := rfl
    exact lp5 (48 + 1 - 0) 0 (by omega) (by omega) (by omega)  ls (lv_sub hl [2, 3, 1, 0] (show ([(0, .ref o), (1, .ref p1), (2, .int (-9)), (3, .int 0)] : List (Nat × Value)) = [(0, .ref o), (1, .ref p1), (2, .int (ooI (mapS p1_zo p1_go lw gh 0))), (3, .int (nI 0))] by rw [← el_1, ← el_2]))
  intro zn
  induction zn with
  | zero => exact fun k5 h1 h2 h3 => absurd h3 (by omega)
  | succ zn ih5 =>
    intro k5 hlo5 hhi5 hn5  ls hl
    refine lv_iload_n hx hb dX4_placeMostApart_5 rfl (lv_at hl 3 rfl) ?_
    refine lv_bipush (v := 48) hx hb dX4_placeMostApart_6 (by decide) ?_
    refine lv_icmp_ge (tgt := 49) hx hb dX4_placeMostApart_8 (by decide) (fun c_3 => ?_) (fun c_3 => ?_)
    · skip
      have c_3 : 48 ≤ k5 := (nI_leI (a := 48) (b := k5) (by omega) (by omega)).mp c_3
      have hk9 : 48 = k5 := by omega
      subst hk9
      refine lv_iload_n hx hb dX4_placeMostApart_49 rfl (lv_at hl 2 rfl) ?_
      exact retR hx hb hr (rfl) hlocks dX4_placeMostApart_50 (rfl)
    · skip
      have c_3 : ¬ 48 ≤ k5 := fun h9 => c_3 ((nI_leI (a := 48) (b := k5) (by omega) (by omega)).mpr h9)
      refine lv_aload_n hx hb dX4_placeMostApart_11 rfl (lv_at hl 1 rfl) ?_
      refine lv_iload_n hx hb dX4_placeMostApart_12 rfl (lv_at hl 3 rfl) ?_
      refine cRV (As := [.int (nI k5)]) (rest := []) hx hb hml hown hts (c_X2_isEarth l G E cI cZ k5 p1 a_p1_zo a_p1_go fs_p1 h_p1_zo h_p1_go p1_zo p1_go (by first | assumption | omega | simp [bI, c_3])) k_37_13 cal_X2_isEarth ⟨Nat.le_of_ble_eq_true rfl, Nat.le_of_ble_eq_true rfl⟩ hE hlow hS hK [0, 1] rfl hP [3, 4, 5] rfl 3 2 rfl rfl rfl hl.1 rfl (Nat.le_of_ble_eq_true rfl) dX4_placeMostApart_13 ⟨Nat.zero_le _, Nat.zero_le _⟩ ?_
      refine lv_if_ne (tgt := 22) hx hb dX4_placeMostApart_16 (by decide) (fun c_4 => ?_) (fun c_4 => ?_)
      · skip
        have c_4 : (isES p1_zo p1_go k5) = true := bI_t c_4
        rcases hm_5 : mapS p1_zo p1_go lw gh k5 with _ | q_6
        · skip
          have hl : lv_has ls 4 [(0, .ref o), (1, .ref p1), (2, .int (-9)), (3, .int (nI k5))] := by rw [hm_5] at hl; exact hl
          refine lv_iload_n hx hb dX4_placeMostApart_22 rfl (lv_at hl 2 rfl) ?_
          refine lv_bipush (v := (-9)) hx hb dX4_placeMostApart_23 (by decide) ?_
          refine lv_icmp_eq (tgt := 41) hx hb dX4_placeMostApart_25 (by decide) (fun c_7 => ?_) (fun c_7 => ?_)
          · skip
            refine lv_iload_n hx hb dX4_placeMostApart_41 rfl (lv_at hl 3 rfl) ?_
            refine lv_istore_n (lv' := [(2, .int (nI k5)), (0, .ref o), (1, .ref p1), (3, .int (nI k5))]) hx hb dX4_placeMostApart_42 rfl hl (by decide) rfl (fun ls hl => ?_)
            refine lv_iinc (v := nI (k5 + 1)) (lv' := [(3, .int (nI (k5 + 1))), (2, .int (nI k5)), (0, .ref o), (1, .ref p1)]) hx hb dX4_placeMostApart_43 hl (k := 3) rfl (nI_add _ _) (by decide) rfl (fun ls hl => ?_)
            refine lv_goto (tgt := 5) hx hb dX4_placeMostApart_46 (by decide) ?_
            have el_8 : (nI k5 : Int32) = ooI (mapS p1_zo p1_go lw gh (k5 + 1)) := by simp [mapS, ooI, c_3, c_4, hm_5, c_7]
            exact ih5 (k5 + 1) (by omega) (by omega) (by omega)  ls (lv_sub hl [2, 3, 1, 0] (show ([(0, .ref o), (1, .ref p1), (2, .int (nI k5)), (3, .int (nI (k5 + 1)))] : List (Nat × Value)) = [(0, .ref o), (1, .ref p1), (2, .int (ooI (mapS p1_zo p1_go lw gh (k5 + 1)))), (3, .int (nI (k5 + 1)))] by rw [← el_8]))
          · skip
            exact absurd rfl c_7
        · skip
          have hq_6 := mapS_lt hm_5
          have hl : lv_has ls 4 [(0, .ref o), (1, .ref p1), (2, .int (nI q_6)), (3, .int (nI k5))] := by rw [hm_5] at hl; exact hl
          refine lv_iload_n hx hb dX4_placeMostApart_22 rfl (lv_at hl 2 rfl) ?_
          refine lv_bipush (v := (-9)) hx hb dX4_placeMostApart_23 (by decide) ?_
          refine lv_icmp_eq (tgt := 41) hx hb dX4_placeMostApart_25 (by decide) (fun c_9 => ?_) (fun c_9 => ?_)
          · skip
            exact absurd c_9 (nI_ne9 (by omega))
          · skip
            refine lv_aload_n hx hb dX4_placeMostApart_28 rfl (lv_at hl 0 rfl) ?_
            refine lv_iload_n hx hb dX4_placeMostApart_29 rfl (lv_at hl 3 rfl) ?_
            refine cRV (As := [.int (nI k5)]) (rest := []) hx hb hml hown hts (c_X4_apartAt l G E cI cZ k5 o a_lw a_gh fs_o h_o_gh h_o_lw lw gh (by first | assumption | omega | simp [bI, c_3, c_4, hm_5, c_9])) k_38_19 cal_X4_apartAt ⟨Nat.le_of_ble_eq_true rfl, Nat.le_of_ble_eq_true rfl⟩ hE hlow hS hK [0, 1] rfl hP [0, 1, 2] rfl 0 4 rfl rfl rfl hl.1 rfl (Nat.le_of_ble_eq_true rfl) dX4_placeMostApart_30 ⟨Nat.zero_le _, Nat.zero_le _⟩ ?_
            refine lv_aload_n hx hb dX4_placeMostApart_33 rfl (lv_at hl 0 rfl) ?_
            refine lv_iload_n hx hb dX4_placeMostApart_34 rfl (lv_at hl 2 rfl) ?_
            refine cRV (As := [.int (nI q_6)]) (rest := [.int (gh k5 - lw k5)]) hx hb hml hown hts (c_X4_apartAt l G E cI cZ q_6 o a_lw a_gh fs_o h_o_gh h_o_lw lw gh (by first | assumption | omega | simp [bI, c_3, c_4, hm_5, c_9])) k_38_19 cal_X4_apartAt ⟨Nat.le_of_ble_eq_true rfl, Nat.le_of_ble_eq_true rfl⟩ hE hlow hS hK [0, 1] rfl hP [0, 1, 2] rfl 0 4 rfl rfl rfl hl.1 rfl (Nat.le_of_ble_eq_true rfl) dX4_placeMostApart_35 ⟨Nat.zero_le _, Nat.zero_le _⟩ ?_
            refine lv_icmp_le (tgt := 43) hx hb dX4_placeMostApart_38 (by decide) (fun c_10 => ?_) (fun c_10 => ?_)
            · skip
              refine lv_iinc (v := nI (k5 + 1)) (lv' := [(3, .int (nI (k5 + 1))), (0, .ref o), (1, .ref p1), (2, .int (nI q_6))]) hx hb dX4_placeMostApart_43 hl (k := 3) rfl (nI_add _ _) (by decide) rfl (fun ls hl => ?_)
              refine lv_goto (tgt := 5) hx hb dX4_placeMostApart_46 (by decide) ?_
              have el_11 : (nI q_6 : Int32) = ooI (mapS p1_zo p1_go lw gh (k5 + 1)) := by simp [mapS, ooI, c_3, c_4, hm_5, c_9, c_10]
              exact ih5 (k5 + 1) (by omega) (by omega) (by omega)  ls (lv_sub hl [1, 2, 3, 0] (show ([(0, .ref o), (1, .ref p1), (2, .int (nI q_6)), (3, .int (nI (k5 + 1)))] : List (Nat × Value)) = [(0, .ref o), (1, .ref p1), (2, .int (ooI (mapS p1_zo p1_go lw gh (k5 + 1)))), (3, .int (nI (k5 + 1)))] by rw [← el_11]))
            · skip
              refine lv_iload_n hx hb dX4_placeMostApart_41 rfl (lv_at hl 3 rfl) ?_
              refine lv_istore_n (lv' := [(2, .int (nI k5)), (0, .ref o), (1, .ref p1), (3, .int (nI k5))]) hx hb dX4_placeMostApart_42 rfl hl (by decide) rfl (fun ls hl => ?_)
              refine lv_iinc (v := nI (k5 + 1)) (lv' := [(3, .int (nI (k5 + 1))), (2, .int (nI k5)), (0, .ref o), (1, .ref p1)]) hx hb dX4_placeMostApart_43 hl (k := 3) rfl (nI_add _ _) (by decide) rfl (fun ls hl => ?_)
              refine lv_goto (tgt := 5) hx hb dX4_placeMostApart_46 (by decide) ?_
              have el_12 : (nI k5 : Int32) = ooI (mapS p1_zo p1_go lw gh (k5 + 1)) := by simp [mapS, ooI, c_3, c_4, hm_5, c_9, c_10]
              exact ih5 (k5 + 1) (by omega) (by omega) (by omega)  ls (lv_sub hl [2, 3, 1, 0] (show ([(0, .ref o), (1, .ref p1), (2, .int (nI k5)), (3, .int (nI (k5 + 1)))] : List (Nat × Value)) = [(0, .ref o), (1, .ref p1), (2, .int (ooI (mapS p1_zo p1_go lw gh (k5 + 1)))), (3, .int (nI (k5 + 1)))] by rw [← el_12]))
      · skip
        have c_4 : (isES p1_zo p1_go k5) = false := bI_f c_4
        refine lv_goto (tgt := 43) hx hb dX4_placeMostApart_19 (by decide) ?_
        refine lv_iinc (v := nI (k5 + 1)) (lv' := [(3, .int (nI (k5 + 1))), (0, .ref o), (1, .ref p1), (2, .int (ooI (mapS p1_zo p1_go lw gh k5)))]) hx hb dX4_placeMostApart_43 hl (k := 3) rfl (nI_add _ _) (by decide) rfl (fun ls hl => ?_)
        refine lv_goto (tgt := 5) hx hb dX4_placeMostApart_46 (by decide) ?_
        have el_13 : (ooI (mapS p1_zo p1_go lw gh k5) : Int32) = ooI (mapS p1_zo p1_go lw gh (k5 + 1)) := by simp [mapS, ooI, c_3, c_4]
        exact ih5 (k5 + 1) (by omega) (by omega) (by omega)  ls (lv_sub hl [1, 2, 3, 0] (show ([(0, .ref o), (1, .ref p1), (2, .int (ooI (mapS p1_zo p1_go lw gh k5))), (3, .int (nI (k5 + 1)))] : List (Nat × Value)) = [(0, .ref o), (1, .ref p1), (2, .int (ooI (mapS p1_zo p1_go lw gh (k5 + 1)))), (3, .int (nI (k5 + 1)))] by rw [← el_13]))
