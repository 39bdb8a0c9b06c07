theorem cal_X6_zone : calV yX6_zone cX6_zone 6 (some .int) 3 := ⟨k_17_14, k_1_2, k_17_12, k_17_13, by decide +kernel⟩
set_option maxHeartbeats 4000000 in
set_option maxRecDepth 100000 in
theorem c_X6_zone (l : Launch) (G : va_G) (E : EvT) (cI cZ : ClassId) (z : Int32) (wh : Int32) (v : Int32) (o : Nat) (a_s : Nat) (a_s_le : Nat) (a_s_hd : Nat) (a_s_gn : Nat) (fs_o : List Value) (h_o_s : fs_o[1]? = some (.ref a_s)) (fs_s : List Value) (h_s_gn : fs_s[5]? = some (.ref a_s_gn)) (h_s_hd : fs_s[4]? = some (.ref a_s_hd)) (h_s_le : fs_s[3]? = some (.ref a_s_le)) (s_le : Nat → Int32) (s_hd : Nat → Int32) (s_gn : Nat → Int32) : cWi (S := Unit) l G E yX6_zone cX6_zone 6 (some .int) 3 [(cI, .int), (cZ, .boolean)] [.ref o, .int z, .int wh, .int v] [(o, .inr (6, fs_o)), (a_s, .inr (2, fs_s)), (a_s_le, .inl (cI, 6, .inl s_le)), (a_s_hd, .inl (cI, 6, .inl s_hd)), (a_s_gn, .inl (cI, 6, .inl s_gn))] (fun r _ => r = zoneS s_le s_hd s_gn z wh v) (fun _ => [(o, .inr (6, fs_o)), (a_s, .inr (2, fs_s)), (a_s_le, .inl (cI, 6, .inl (zupS s_le z wh v 0 (decide (wh = 0))))), (a_s_hd, .inl (cI, 6, .inl (zupS s_hd z wh v 0 (!decide (wh = 0) && decide (wh = 1))))), (a_s_gn, .inl (cI, 6, .inl (zupS s_gn z wh v 0 (!decide (wh = 0) && !decide (wh = 1)))))]) := by
  refine mkWi (by decide) (Nat.le_of_ble_eq_true rfl) ?_
  intro zp ze s zm args below meth zc hx hb hr hml hown hts hlocks hE hK A hA hlow H locs hP hD hS ls hl
  have hl : lv_has ls 6 [(0, .ref o), (1, .int z), (2, .int wh), (3, .int v)] := hl
  refine lv_iload_n hx hb dX6_zone_0 rfl (lv_at hl 1 rfl) ?_
  refine cRS (As := [.int z]) (rest := []) hx hb hml hown hts (c_X6_isZone l G E cI cZ z) k_17_18 cal_X6_isZone ⟨Nat.le_of_ble_eq_true rfl, Nat.le_of_ble_eq_true rfl⟩ hE hlow hS hK [0, 1] rfl hP [] rfl rfl hl.1 rfl (Nat.le_of_ble_eq_true rfl) dX6_zone_1 ⟨Nat.zero_le _, Nat.zero_le _⟩ ?_
  refine lv_if_eq (tgt := 23) hx hb dX6_zone_4 (by decide) (fun c_1 => ?_) (fun c_1 => ?_)
  · skip
    have c_1 : (wiB z 0 5) = false := bI_f c_1
    refine lv_iconst (v := (-1)) hx hb dX6_zone_23 (by decide) ?_
    have ew_2 : s_le = (zupS s_le z wh v 0 (decide (wh = 0))) := by simp [zupS, zvB, c_1]
    have ew_3 : s_hd = (zupS s_hd z wh v 0 (!decide (wh = 0) && decide (wh = 1))) := by simp [zupS, zvB, c_1]
    have ew_4 : s_gn = (zupS s_gn z wh v 0 (!decide (wh = 0) && !decide (wh = 1))) := by simp [zupS, zvB, c_1]
    have hP : va_P G vwCl [(o, .inr (6, fs_o)), (a_s, .inr (2, fs_s)), (a_s_le, .inl (cI, 6, .inl (zupS s_le z wh v 0 (decide (wh = 0))))), (a_s_hd, .inl (cI, 6, .inl (zupS s_hd z wh v 0 (!decide (wh = 0) && decide (wh = 1))))), (a_s_gn, .inl (cI, 6, .inl (zupS s_gn z wh v 0 (!decide (wh = 0) && !decide (wh = 1)))))] H := by rw [← ew_2, ← ew_3, ← ew_4]; exact hP
    exact retWi () hx hb hr (rfl) hlocks dX6_zone_24 hS (by simp [zoneS, zvB, c_1]) hP
  · skip
    have c_1 : (wiB z 0 5) = true := bI_t c_1
    refine lv_iload_n hx hb dX6_zone_7 rfl (lv_at hl 2 rfl) ?_
    refine lv_iconst (v := 0) hx hb dX6_zone_8 (by decide) ?_
    refine lv_iconst (v := 2) hx hb dX6_zone_9 (by decide) ?_
    refine cRS (As := [.int wh, .int 0, .int 2]) (rest := []) hx hb hml hown hts (c_X6_within l G E cI cZ wh 0 2) k_7_8 cal_X6_within ⟨Nat.le_of_ble_eq_true rfl, Nat.le_of_ble_eq_true rfl⟩ hE hlow hS hK [0, 1] rfl hP [] rfl rfl hl.1 rfl (Nat.le_of_ble_eq_true rfl) dX6_zone_10 ⟨Nat.zero_le _, Nat.zero_le _⟩ ?_
    refine lv_if_eq (tgt := 23) hx hb dX6_zone_13 (by decide) (fun c_5 => ?_) (fun c_5 => ?_)
    · skip
      have c_5 : (wiB wh 0 2) = false := bI_f c_5
      refine lv_iconst (v := (-1)) hx hb dX6_zone_23 (by decide) ?_
      have ew_6 : s_le = (zupS s_le z wh v 0 (decide (wh = 0))) := by simp [zupS, zvB, c_1, c_5]
      have ew_7 : s_hd = (zupS s_hd z wh v 0 (!decide (wh = 0) && decide (wh = 1))) := by simp [zupS, zvB, c_1, c_5]
      have ew_8 : s_gn = (zupS s_gn z wh v 0 (!decide (wh = 0) && !decide (wh = 1))) := by simp [zupS, zvB, c_1, c_5]
      have hP : va_P G vwCl [(o, .inr (6, fs_o)), (a_s, .inr (2, fs_s)), (a_s_le, .inl (cI, 6, .inl (zupS s_le z wh v 0 (decide (wh = 0))))), (a_s_hd, .inl (cI, 6, .inl (zupS s_hd z wh v 0 (!decide (wh = 0) && decide (wh = 1))))), (a_s_gn, .inl (cI, 6, .inl (zupS s_gn z wh v 0 (!decide (wh = 0) && !decide (wh = 1)))))] H := by rw [← ew_6, ← ew_7, ← ew_8]; exact hP
      exact retWi () hx hb hr (rfl) hlocks dX6_zone_24 hS (by simp [zoneS, zvB, c_1, c_5]) hP
    · skip
      have c_5 : (wiB wh 0 2) = true := bI_t c_5
      refine lv_iload_n hx hb dX6_zone_16 rfl (lv_at hl 3 rfl) ?_
      refine cRS (As := [.int v]) (rest := []) hx hb hml hown hts (c_X6_isTrait l G E cI cZ v) k_17_19 cal_X6_isTrait ⟨Nat.le_of_ble_eq_true rfl, Nat.le_of_ble_eq_true rfl⟩ hE hlow hS hK [0, 1] rfl hP [] rfl rfl hl.1 rfl (Nat.le_of_ble_eq_true rfl) dX6_zone_17 ⟨Nat.zero_le _, Nat.zero_le _⟩ ?_
      refine lv_if_ne (tgt := 25) hx hb dX6_zone_20 (by decide) (fun c_9 => ?_) (fun c_9 => ?_)
      · skip
        have c_9 : (wiB v 1 99) = true := bI_t c_9
        obtain ⟨zn, hz9, hez, hcz⟩ := wiB_n (M := 5) (by omega) c_1
        have hl : lv_has ls 6 [(0, .ref o), (1, .int (nI zn)), (2, .int wh), (3, .int v)] := by rw [hez] at hl; exact hl
        refine lv_iload_n hx hb dX6_zone_25 rfl (lv_at hl 2 rfl) ?_
        refine lv_if_ne (tgt := 39) hx hb dX6_zone_26 (by decide) (fun c_10 => ?_) (fun c_10 => ?_)
        · skip
          refine lv_iload_n hx hb dX6_zone_39 rfl (lv_at hl 2 rfl) ?_
          refine lv_iconst (v := 1) hx hb dX6_zone_40 (by decide) ?_
          refine lv_icmp_ne (tgt := 54) hx hb dX6_zone_41 (by decide) (fun c_11 => ?_) (fun c_11 => ?_)
          · skip
            refine lv_aload_n hx hb dX6_zone_54 rfl (lv_at hl 0 rfl) ?_
            refine va_get (D := G) (ci := 6) (v := .ref a_s) (C := RX6) (T := TX6) (N := 12) hx hb hts inlX6 hown hK hP 0 rfl rfl 1 (by decide) (hts (.fieldLink RX6 19 "EarthBanks" "slice" "LEarthBanks$Slice;") k_1_20) (fun _ h9 => h9) h_o_s dX6_zone_55 ?_
            refine va_get (D := G) (ci := 2) (v := .ref a_s_gn) (C := RX2) (T := TX2) (N := 9) hx hb hts inlX2 hown hK hP 1 rfl rfl 5 (by decide) (hts (.fieldLink RX6 138 "EarthBanks$Slice" "grains" "[I") k_17_17) (fun _ h9 => h9) h_s_gn dX6_zone_58 ?_
            refine lv_astore (lv' := [(4, .ref a_s_gn), (0, .ref o), (1, .int (nI zn)), (2, .int wh), (3, .int v)]) hx hb dX6_zone_61 hl (by decide) rfl (fun ls hl => ?_)
            refine lv_aload hx hb dX6_zone_63 (lv_at hl 0 rfl) ?_
            refine lv_iload_n hx hb dX6_zone_65 rfl (lv_at hl 2 rfl) ?_
            refine ialdN (j := zn) hx hb hK hP 4 0 rfl rfl (by omega) (by decide) dX6_zone_66 ?_
            refine lv_istore (lv' := [(5, .int (s_gn zn)), (4, .ref a_s_gn), (0, .ref o), (1, .int (nI zn)), (2, .int wh), (3, .int v)]) hx hb dX6_zone_67 hl (by decide) rfl (fun ls hl => ?_)
            refine lv_aload hx hb dX6_zone_69 (lv_at hl 1 rfl) ?_
            refine lv_iload_n hx hb dX6_zone_71 rfl (lv_at hl 3 rfl) ?_
            refine lv_iload_n hx hb dX6_zone_72 rfl (lv_at hl 5 rfl) ?_
            refine iastN (j := zn) hx hb hK hP hD hS 4 0 rfl rfl (by omega) (by decide) dX6_zone_73 (fun H locs hP hD hS => ?_)
            have hP : va_P G vwCl [(o, .inr (6, fs_o)), (a_s, .inr (2, fs_s)), (a_s_le, .inl (cI, 6, .inl s_le)), (a_s_hd, .inl (cI, 6, .inl s_hd)), (a_s_gn, .inl (cI, 6, .inl (upd s_gn zn v)))] H := hP
            have hD : va_D A [(o, .inr (6, fs_o)), (a_s, .inr (2, fs_s)), (a_s_le, .inl (cI, 6, .inl s_le)), (a_s_hd, .inl (cI, 6, .inl s_hd)), (a_s_gn, .inl (cI, 6, .inl (upd s_gn zn v)))] := hD
            refine lv_iload hx hb dX6_zone_74 (lv_at hl 0 rfl) ?_
            have ew_12 : s_le = (zupS s_le z wh v 0 (decide (wh = 0))) := by simp [zupS, zvB, hcz, c_1, c_5, c_9, c_10, c_11]
            have ew_13 : s_hd = (zupS s_hd z wh v 0 (!decide (wh = 0) && decide (wh = 1))) := by simp [zupS, zvB, hcz, c_1, c_5, c_9, c_10, c_11]
            have ew_14 : (upd s_gn zn v) = (zupS s_gn z wh v 0 (!decide (wh = 0) && !decide (wh = 1))) := by simp [zupS, zvB, hcz, c_1, c_5, c_9, c_10, c_11]
            have hP : va_P G vwCl [(o, .inr (6, fs_o)), (a_s, .inr (2, fs_s)), (a_s_le, .inl (cI, 6, .inl (zupS s_le z wh v 0 (decide (wh = 0))))), (a_s_hd, .inl (cI, 6, .inl (zupS s_hd z wh v 0 (!decide (wh = 0) && decide (wh = 1))))), (a_s_gn, .inl (cI, 6, .inl (zupS s_gn z wh v 0 (!decide (wh = 0) && !decide (wh = 1)))))] H := by rw [← ew_12, ← ew_13, ← ew_14]; exact hP
            exact retWi () hx hb hr (rfl) hlocks dX6_zone_76 hS (by simp [zoneS, zvB, hcz, c_1, c_5, c_9, c_10, c_11]) hP
          · skip
            refine lv_aload_n hx hb dX6_zone_44 rfl (lv_at hl 0 rfl) ?_
            refine va_get (D := G) (ci := 6) (v := .ref a_s) (C := RX6) (T := TX6) (N := 12) hx hb hts inlX6 hown hK hP 0 rfl rfl 1 (by decide) (hts (.fieldLink RX6 19 "EarthBanks" "slice" "LEarthBanks$Slice;") k_1_20) (fun _ h9 => h9) h_o_s dX6_zone_45 ?_
            refine va_get (D := G) (ci := 2) (v := .ref a_s_hd) (C := RX2) (T := TX2) (N := 9) hx hb hts inlX2 hown hK hP 1 rfl rfl 4 (by decide) (hts (.fieldLink RX6 135 "EarthBanks$Slice" "holds" "[I") k_17_16) (fun _ h9 => h9) h_s_hd dX6_zone_48 ?_
            refine lv_goto (tgt := 61) hx hb dX6_zone_51 (by decide) ?_
            refine lv_astore (lv' := [(4, .ref a_s_hd), (0, .ref o), (1, .int (nI zn)), (2, .int wh), (3, .int v)]) hx hb dX6_zone_61 hl (by decide) rfl (fun ls hl => ?_)
            refine lv_aload hx hb dX6_zone_63 (lv_at hl 0 rfl) ?_
            refine lv_iload_n hx hb dX6_zone_65 rfl (lv_at hl 2 rfl) ?_
            refine ialdN (j := zn) hx hb hK hP 3 0 rfl rfl (by omega) (by decide) dX6_zone_66 ?_
            refine lv_istore (lv' := [(5, .int (s_hd zn)), (4, .ref a_s_hd), (0, .ref o), (1, .int (nI zn)), (2, .int wh), (3, .int v)]) hx hb dX6_zone_67 hl (by decide) rfl (fun ls hl => ?_)
            refine lv_aload hx hb dX6_zone_69 (lv_at hl 1 rfl) ?_
            refine lv_iload_n hx hb dX6_zone_71 rfl (lv_at hl 3 rfl) ?_
            refine lv_iload_n hx hb dX6_zone_72 rfl (lv_at hl 5 rfl) ?_
            refine iastN (j := zn) hx hb hK hP hD hS 3 0 rfl rfl (by omega) (by decide) dX6_zone_73 (fun H locs hP hD hS => ?_)
            have hP : va_P G vwCl [(o, .inr (6, fs_o)), (a_s, .inr (2, fs_s)), (a_s_le, .inl (cI, 6, .inl s_le)), (a_s_hd, .inl (cI, 6, .inl (upd s_hd zn v))), (a_s_gn, .inl (cI, 6, .inl s_gn))] H := hP
            have hD : va_D A [(o, .inr (6, fs_o)), (a_s, .inr (2, fs_s)), (a_s_le, .inl (cI, 6, .inl s_le)), (a_s_hd, .inl (cI, 6, .inl (upd s_hd zn v))), (a_s_gn, .inl (cI, 6, .inl s_gn))] := hD
            refine lv_iload hx hb dX6_zone_74 (lv_at hl 0 rfl) ?_
            have ew_15 : s_le = (zupS s_le z wh v 0 (decide (wh = 0))) := by simp [zupS, zvB, hcz, c_1, c_5, c_9, c_10, eq_true c_11]
            have ew_16 : (upd s_hd zn v) = (zupS s_hd z wh v 0 (!decide (wh = 0) && decide (wh = 1))) := by simp [zupS, zvB, hcz, c_1, c_5, c_9, c_10, eq_true c_11]
            have ew_17 : s_gn = (zupS s_gn z wh v 0 (!decide (wh = 0) && !decide (wh = 1))) := by simp [zupS, zvB, hcz, c_1, c_5, c_9, c_10, eq_true c_11]
            have hP : va_P G vwCl [(o, .inr (6, fs_o)), (a_s, .inr (2, fs_s)), (a_s_le, .inl (cI, 6, .inl (zupS s_le z wh v 0 (decide (wh = 0))))), (a_s_hd, .inl (cI, 6, .inl (zupS s_hd z wh v 0 (!decide (wh = 0) && decide (wh = 1))))), (a_s_gn, .inl (cI, 6, .inl (zupS s_gn z wh v 0 (!decide (wh = 0) && !decide (wh = 1)))))] H := by rw [← ew_15, ← ew_16, ← ew_17]; exact hP
            exact retWi () hx hb hr (rfl) hlocks dX6_zone_76 hS (by simp [zoneS, zvB, hcz, c_1, c_5, c_9, c_10, eq_true c_11]) hP
        · skip
          refine lv_aload_n hx hb dX6_zone_29 rfl (lv_at hl 0 rfl) ?_
          refine va_get (D := G) (ci := 6) (v := .ref a_s) (C := RX6) (T := TX6) (N := 12) hx hb hts inlX6 hown hK hP 0 rfl rfl 1 (by decide) (hts (.fieldLink RX6 19 "EarthBanks" "slice" "LEarthBanks$Slice;") k_1_20) (fun _ h9 => h9) h_o_s dX6_zone_30 ?_
          refine va_get (D := G) (ci := 2) (v := .ref a_s_le) (C := RX2) (T := TX2) (N := 9) hx hb hts inlX2 hown hK hP 1 rfl rfl 3 (by decide) (hts (.fieldLink RX6 132 "EarthBanks$Slice" "leads" "[I") k_17_15) (fun _ h9 => h9) h_s_le dX6_zone_33 ?_
          refine lv_goto (tgt := 61) hx hb dX6_zone_36 (by decide) ?_
          refine lv_astore (lv' := [(4, .ref a_s_le), (0, .ref o), (1, .int (nI zn)), (2, .int wh), (3, .int v)]) hx hb dX6_zone_61 hl (by decide) rfl (fun ls hl => ?_)
          refine lv_aload hx hb dX6_zone_63 (lv_at hl 0 rfl) ?_
          refine lv_iload_n hx hb dX6_zone_65 rfl (lv_at hl 2 rfl) ?_
          refine ialdN (j := zn) hx hb hK hP 2 0 rfl rfl (by omega) (by decide) dX6_zone_66 ?_
          refine lv_istore (lv' := [(5, .int (s_le zn)), (4, .ref a_s_le), (0, .ref o), (1, .int (nI zn)), (2, .int wh), (3, .int v)]) hx hb dX6_zone_67 hl (by decide) rfl (fun ls hl => ?_)
          refine lv_aload hx hb dX6_zone_69 (lv_at hl 1 rfl) ?_
          refine lv_iload_n hx hb dX6_zone_71 rfl (lv_at hl 3 rfl) ?_
          refine lv_iload_n hx hb dX6_zone_72 rfl (lv_at hl 5 rfl) ?_
          refine iastN (j := zn) hx hb hK hP hD hS 2 0 rfl rfl (by omega) (by decide) dX6_zone_73 (fun H locs hP hD hS => ?_)
          have hP : va_P G vwCl [(o, .inr (6, fs_o)), (a_s, .inr (2, fs_s)), (a_s_le, .inl (cI, 6, .inl (upd s_le zn v))), (a_s_hd, .inl (cI, 6, .inl s_hd)), (a_s_gn, .inl (cI, 6, .inl s_gn))] H := hP
          have hD : va_D A [(o, .inr (6, fs_o)), (a_s, .inr (2, fs_s)), (a_s_le, .inl (cI, 6, .inl (upd s_le zn v))), (a_s_hd, .inl (cI, 6, .inl s_hd)), (a_s_gn, .inl (cI, 6, .inl s_gn))] := hD
          refine lv_iload hx hb dX6_zone_74 (lv_at hl 0 rfl) ?_
          have ew_18 : (upd s_le zn v) = (zupS s_le z wh v 0 (decide (wh = 0))) := by simp [zupS, zvB, hcz, c_1, c_5, c_9, eq_true c_10]
          have ew_19 : s_hd = (zupS s_hd z wh v 0 (!decide (wh = 0) && decide (wh = 1))) := by simp [zupS, zvB, hcz, c_1, c_5, c_9, eq_true c_10]
          have ew_20 : s_gn = (zupS s_gn z wh v 0 (!decide (wh = 0) && !decide (wh = 1))) := by simp [zupS, zvB, hcz, c_1, c_5, c_9, eq_true c_10]
          have hP : va_P G vwCl [(o, .inr (6, fs_o)), (a_s, .inr (2, fs_s)), (a_s_le, .inl (cI, 6, .inl (zupS s_le z wh v 0 (decide (wh = 0))))), (a_s_hd, .inl (cI, 6, .inl (zupS s_hd z wh v 0 (!decide (wh = 0) && decide (wh = 1))))), (a_s_gn, .inl (cI, 6, .inl (zupS s_gn z wh v 0 (!decide (wh = 0) && !decide (wh = 1)))))] H := by rw [← ew_18, ← ew_19, ← ew_20]; exact hP
          exact retWi () hx hb hr (rfl) hlocks dX6_zone_76 hS (by simp [zoneS, zvB, hcz, c_1, c_5, c_9, eq_true c_10]) hP
      · skip
        have c_9 : (wiB v 1 99) = false := bI_f c_9
        refine lv_iconst (v := (-1)) hx hb dX6_zone_23 (by decide) ?_
        have ew_21 : s_le = (zupS s_le z wh v 0 (decide (wh = 0))) := by simp [zupS, zvB, c_1, c_5, c_9]
        have ew_22 : s_hd = (zupS s_hd z wh v 0 (!decide (wh = 0) && decide (wh = 1))) := by simp [zupS, zvB, c_1, c_5, c_9]
        have ew_23 : s_gn = (zupS s_gn z wh v 0 (!decide (wh = 0) && !decide (wh = 1))) := by simp [zupS, zvB, c_1, c_5, c_9]
        have hP : va_P G vwCl [(o, .inr (6, fs_o)), (a_s, .inr (2, fs_s)), (a_s_le, .inl (cI, 6, .inl (zupS s_le z wh v 0 (decide (wh = 0))))), (a_s_hd, .inl (cI, 6, .inl (zupS s_hd z wh v 0 (!decide (wh = 0) && decide (wh = 1))))), (a_s_gn, .inl (cI, 6, .inl (zupS s_gn z wh v 0 (!decide (wh = 0) && !decide (wh = 1)))))] H := by rw [← ew_21, ← ew_22, ← ew_23]; exact hP
        exact retWi () hx hb hr (rfl) hlocks dX6_zone_24 hS (by simp [zoneS, zvB, c_1, c_5, c_9]) hP
