theorem cal_X6_cell : calV yX6_cell cX6_cell 6 (some .int) 3 := ⟨k_16_8, k_1_2, k_16_6, k_16_7, by decide +kernel⟩
set_option maxHeartbeats 4000000 in
set_option maxRecDepth 100000 in
theorem c_X6_cell (l : Launch) (G : va_G) (E : EvT) (cI cZ : ClassId) (x : Int32) (y : Int32) (wh : Int32) (o : Nat) (a_s : Nat) (a_s_zo : Nat) (a_s_he : Nat) (a_s_go : Nat) (fs_o : List Value) (h_o_s : fs_o[1]? = some (.ref a_s)) (fs_s : List Value) (h_s_zo : fs_s[0]? = some (.ref a_s_zo)) (h_s_go : fs_s[2]? = some (.ref a_s_go)) (h_s_he : fs_s[1]? = some (.ref a_s_he)) (s_zo : Nat → Int32) (s_he : Nat → Int32) (s_go : Nat → Int32) : cR l G E yX6_cell cX6_cell 6 (some .int) 3 [(cI, .int), (cZ, .boolean)] [.ref o, .int x, .int y, .int wh] [(o, .inr (6, fs_o)), (a_s, .inr (2, fs_s)), (a_s_zo, .inl (cI, 48, .inl s_zo)), (a_s_he, .inl (cI, 48, .inl s_he)), (a_s_go, .inl (cI, 48, .inl s_go))] (cellS s_zo s_he s_go x y wh) := by
  refine mkR (by decide) (Nat.le_of_ble_eq_true rfl) ?_
  intro zp ze s zm args below meth zc hx hb hr hml hown hts hlocks hE hP hK ls hl
  have hS : va_S (fun _ => False) s.heap s.heap [] := va_S.rf
  have hlow : ∀ q : Nat, (fun _ : Nat => False) q → E.1 ≤ q := fun _ h => h.elim
  have hl : lv_has ls 6 [(0, .ref o), (1, .int x), (2, .int y), (3, .int wh)] := hl
  refine lv_iload_n hx hb dX6_cell_0 rfl (lv_at hl 1 rfl) ?_
  refine lv_iload_n hx hb dX6_cell_1 rfl (lv_at hl 2 rfl) ?_
  refine cRS (As := [.int x, .int y]) (rest := []) hx hb hml hown hts (c_X6_isCell l G E cI cZ x y) k_16_12 cal_X6_isCell ⟨Nat.le_of_ble_eq_true rfl, Nat.le_of_ble_eq_true rfl⟩ hE hlow hS hK [0, 1] rfl hP [] rfl rfl hl.1 rfl (Nat.le_of_ble_eq_true rfl) dX6_cell_2 ⟨Nat.zero_le _, Nat.zero_le _⟩ ?_
  refine lv_if_eq (tgt := 17) hx hb dX6_cell_5 (by decide) (fun c_1 => ?_) (fun c_1 => ?_)
  · skip
    have c_1 : (inC x y) = false := bI_f c_1
    refine lv_iconst (v := (-1)) hx hb dX6_cell_17 (by decide) ?_
    exact retR hx hb hr (rfl) hlocks dX6_cell_18 (by simp [cellS, c_1])
  · skip
    have c_1 : (inC x y) = true := bI_t c_1
    refine lv_iload_n hx hb dX6_cell_8 rfl (lv_at hl 3 rfl) ?_
    refine lv_iconst (v := 0) hx hb dX6_cell_9 (by decide) ?_
    refine lv_iconst (v := 3) hx hb dX6_cell_10 (by decide) ?_
    refine cRS (As := [.int wh, .int 0, .int 3]) (rest := []) hx hb hml hown hts (c_X6_within l G E cI cZ wh 0 3) k_7_8 cal_X6_within ⟨Nat.le_of_ble_eq_true rfl, Nat.le_of_ble_eq_true rfl⟩ hE hlow hS hK [0, 1] rfl hP [] rfl rfl hl.1 rfl (Nat.le_of_ble_eq_true rfl) dX6_cell_11 ⟨Nat.zero_le _, Nat.zero_le _⟩ ?_
    refine lv_if_ne (tgt := 19) hx hb dX6_cell_14 (by decide) (fun c_2 => ?_) (fun c_2 => ?_)
    · skip
      have c_2 : (wiB wh 0 3) = true := bI_t c_2
      obtain ⟨xn, yn, hxn, hyn, hex, hey, hcx, hcy⟩ := inC_n c_1
      have hl : lv_has ls 6 [(0, .ref o), (1, .int (nI xn)), (2, .int y), (3, .int wh)] := by rw [hex] at hl; exact hl
      have hl : lv_has ls 6 [(0, .ref o), (1, .int (nI xn)), (2, .int (nI yn)), (3, .int wh)] := by rw [hey] at hl; exact hl
      have hpl : plc x y = 8 * yn + xn := by rw [plc, hcx, hcy]
      refine lv_iload_n hx hb dX6_cell_19 rfl (lv_at hl 1 rfl) ?_
      refine lv_iload_n hx hb dX6_cell_20 rfl (lv_at hl 2 rfl) ?_
      refine cRS (As := [.int (nI xn), .int (nI yn)]) (rest := []) hx hb hml hown hts (c_X6_placeOf l G E cI cZ xn yn) k_16_15 cal_X6_placeOf ⟨Nat.le_of_ble_eq_true rfl, Nat.le_of_ble_eq_true rfl⟩ hE hlow hS hK [0, 1] rfl hP [] rfl rfl hl.1 rfl (Nat.le_of_ble_eq_true rfl) dX6_cell_21 ⟨Nat.zero_le _, Nat.zero_le _⟩ ?_
      refine lv_istore (lv' := [(4, .int (nI ((8 * yn) + xn))), (0, .ref o), (1, .int (nI xn)), (2, .int (nI yn)), (3, .int wh)]) hx hb dX6_cell_24 hl (by decide) rfl (fun ls hl => ?_)
      refine lv_aload_n hx hb dX6_cell_26 rfl (lv_at hl 1 rfl) ?_
      refine va_get (D := G) (ci := 6) (v := .ref a_s) (C := RX6) (T := TX6) (N := 12) hx hb hts inlX6 hown hK hP 0 rfl rfl 1 (by decide) (hts (.fieldLink RX6 19 "EarthBanks" "slice" "LEarthBanks$Slice;") k_1_20) (fun _ h9 => h9) h_o_s dX6_cell_27 ?_
      refine lv_iload hx hb dX6_cell_30 (lv_at hl 0 rfl) ?_
      refine cRV (As := [.int (nI ((8 * yn) + xn))]) (rest := []) hx hb hml hown hts (c_X2_isAir l G E cI cZ ((8 * yn) + xn) a_s a_s_zo fs_s h_s_zo s_zo (by first | assumption | omega | simp [bI, c_1, c_2])) k_16_16 cal_X2_isAir ⟨Nat.le_of_ble_eq_true rfl, Nat.le_of_ble_eq_true rfl⟩ hE hlow hS hK [0, 1] rfl hP [1, 2] rfl 1 2 rfl rfl rfl hl.1 rfl (Nat.le_of_ble_eq_true rfl) dX6_cell_32 ⟨Nat.zero_le _, Nat.zero_le _⟩ ?_
      refine lv_istore (lv' := [(5, .int (bI (isAirS s_zo ((8 * yn) + xn)))), (4, .int (nI ((8 * yn) + xn))), (0, .ref o), (1, .int (nI xn)), (2, .int (nI yn)), (3, .int wh)]) hx hb dX6_cell_35 hl (by decide) rfl (fun ls hl => ?_)
      refine lv_iload_n hx hb dX6_cell_37 rfl (lv_at hl 5 rfl) ?_
      refine lv_if_ne (tgt := 62) hx hb dX6_cell_38 (by decide) (fun c_3 => ?_) (fun c_3 => ?_)
      · skip
        refine lv_iload hx hb dX6_cell_62 (lv_at hl 0 rfl) ?_
        refine lv_if_eq (tgt := 70) hx hb dX6_cell_64 (by decide) (fun c_4 => ?_) (fun c_4 => ?_)
        · skip
          have c_4 : (isAirS s_zo ((8 * yn) + xn)) = false := bI_f c_4
          refine lv_iload_n hx hb dX6_cell_70 rfl (lv_at hl 5 rfl) ?_
          refine lv_iconst (v := 1) hx hb dX6_cell_71 (by decide) ?_
          refine lv_icmp_ne (tgt := 86) hx hb dX6_cell_72 (by decide) (fun c_5 => ?_) (fun c_5 => ?_)
          · skip
            refine lv_iload_n hx hb dX6_cell_86 rfl (lv_at hl 5 rfl) ?_
            refine lv_iconst (v := 2) hx hb dX6_cell_87 (by decide) ?_
            refine lv_icmp_ne (tgt := 103) hx hb dX6_cell_88 (by decide) (fun c_6 => ?_) (fun c_6 => ?_)
            · skip
              refine lv_aload_n hx hb dX6_cell_103 rfl (lv_at hl 2 rfl) ?_
              refine va_get (D := G) (ci := 6) (v := .ref a_s) (C := RX6) (T := TX6) (N := 12) hx hb hts inlX6 hown hK hP 0 rfl rfl 1 (by decide) (hts (.fieldLink RX6 19 "EarthBanks" "slice" "LEarthBanks$Slice;") k_1_20) (fun _ h9 => h9) h_o_s dX6_cell_104 ?_
              refine va_get (D := G) (ci := 2) (v := .ref a_s_go) (C := RX2) (T := TX2) (N := 9) hx hb hts inlX2 hown hK hP 1 rfl rfl 2 (by decide) (hts (.fieldLink RX6 123 "EarthBanks$Slice" "gone" "[I") k_16_11) (fun _ h9 => h9) h_s_go dX6_cell_107 ?_
              refine lv_iload hx hb dX6_cell_110 (lv_at hl 1 rfl) ?_
              refine ialdN (j := ((8 * yn) + xn)) hx hb hK hP 4 0 rfl rfl (by omega) (by decide) dX6_cell_112 ?_
              exact retR hx hb hr (rfl) hlocks dX6_cell_113 (by simp [cellS, hpl, c_1, c_2, c_3, c_4, c_5, c_6])
            · skip
              refine lv_aload_n hx hb dX6_cell_91 rfl (lv_at hl 2 rfl) ?_
              refine va_get (D := G) (ci := 6) (v := .ref a_s) (C := RX6) (T := TX6) (N := 12) hx hb hts inlX6 hown hK hP 0 rfl rfl 1 (by decide) (hts (.fieldLink RX6 19 "EarthBanks" "slice" "LEarthBanks$Slice;") k_1_20) (fun _ h9 => h9) h_o_s dX6_cell_92 ?_
              refine lv_iload hx hb dX6_cell_95 (lv_at hl 1 rfl) ?_
              refine cRV (As := [.int (nI ((8 * yn) + xn))]) (rest := []) hx hb hml hown hts (c_X2_pushAt l G E cI cZ ((8 * yn) + xn) a_s a_s_he fs_s h_s_he s_he (by first | assumption | omega | simp [bI, c_1, c_2, c_3, c_4, c_5, c_6])) k_16_17 cal_X2_pushAt ⟨Nat.le_of_ble_eq_true rfl, Nat.le_of_ble_eq_true rfl⟩ hE hlow hS hK [0, 1] rfl hP [1, 3] rfl 1 2 rfl rfl rfl hl.1 rfl (Nat.le_of_ble_eq_true rfl) dX6_cell_97 ⟨Nat.zero_le _, Nat.zero_le _⟩ ?_
              refine lv_goto (tgt := 113) hx hb dX6_cell_100 (by decide) ?_
              exact retR hx hb hr (rfl) hlocks dX6_cell_113 (by simp [cellS, hpl, c_1, c_2, c_3, c_4, c_5, eq_true c_6])
          · skip
            refine lv_aload_n hx hb dX6_cell_75 rfl (lv_at hl 2 rfl) ?_
            refine va_get (D := G) (ci := 6) (v := .ref a_s) (C := RX6) (T := TX6) (N := 12) hx hb hts inlX6 hown hK hP 0 rfl rfl 1 (by decide) (hts (.fieldLink RX6 19 "EarthBanks" "slice" "LEarthBanks$Slice;") k_1_20) (fun _ h9 => h9) h_o_s dX6_cell_76 ?_
            refine va_get (D := G) (ci := 2) (v := .ref a_s_he) (C := RX2) (T := TX2) (N := 9) hx hb hts inlX2 hown hK hP 1 rfl rfl 1 (by decide) (hts (.fieldLink RX6 116 "EarthBanks$Slice" "heads" "[I") k_16_10) (fun _ h9 => h9) h_s_he dX6_cell_79 ?_
            refine lv_iload hx hb dX6_cell_82 (lv_at hl 1 rfl) ?_
            refine ialdN (j := ((8 * yn) + xn)) hx hb hK hP 3 0 rfl rfl (by omega) (by decide) dX6_cell_84 ?_
            exact retR hx hb hr (rfl) hlocks dX6_cell_85 (by simp [cellS, hpl, c_1, c_2, c_3, c_4, eq_true c_5])
        · skip
          have c_4 : (isAirS s_zo ((8 * yn) + xn)) = true := bI_t c_4
          refine lv_bipush (v := (-2)) hx hb dX6_cell_67 (by decide) ?_
          exact retR hx hb hr (rfl) hlocks dX6_cell_69 (by simp [cellS, hpl, c_1, c_2, c_3, c_4])
      · skip
        refine lv_iload hx hb dX6_cell_41 (lv_at hl 0 rfl) ?_
        refine lv_if_eq (tgt := 51) hx hb dX6_cell_43 (by decide) (fun c_7 => ?_) (fun c_7 => ?_)
        · skip
          have c_7 : (isAirS s_zo ((8 * yn) + xn)) = false := bI_f c_7
          refine lv_aload_n hx hb dX6_cell_51 rfl (lv_at hl 2 rfl) ?_
          refine va_get (D := G) (ci := 6) (v := .ref a_s) (C := RX6) (T := TX6) (N := 12) hx hb hts inlX6 hown hK hP 0 rfl rfl 1 (by decide) (hts (.fieldLink RX6 19 "EarthBanks" "slice" "LEarthBanks$Slice;") k_1_20) (fun _ h9 => h9) h_o_s dX6_cell_52 ?_
          refine va_get (D := G) (ci := 2) (v := .ref a_s_zo) (C := RX2) (T := TX2) (N := 9) hx hb hts inlX2 hown hK hP 1 rfl rfl 0 (by decide) (hts (.fieldLink RX6 113 "EarthBanks$Slice" "zones" "[I") k_16_9) (fun _ h9 => h9) h_s_zo dX6_cell_55 ?_
          refine lv_iload hx hb dX6_cell_58 (lv_at hl 1 rfl) ?_
          refine ialdN (j := ((8 * yn) + xn)) hx hb hK hP 2 0 rfl rfl (by omega) (by decide) dX6_cell_60 ?_
          exact retR hx hb hr (rfl) hlocks dX6_cell_61 (by simp [cellS, hpl, c_1, c_2, eq_true c_3, c_7])
        · skip
          have c_7 : (isAirS s_zo ((8 * yn) + xn)) = true := bI_t c_7
          refine lv_bipush (v := (-9)) hx hb dX6_cell_46 (by decide) ?_
          refine lv_goto (tgt := 61) hx hb dX6_cell_48 (by decide) ?_
          exact retR hx hb hr (rfl) hlocks dX6_cell_61 (by simp [cellS, hpl, c_1, c_2, eq_true c_3, c_7])
    · skip
      have c_2 : (wiB wh 0 3) = false := bI_f c_2
      refine lv_iconst (v := (-1)) hx hb dX6_cell_17 (by decide) ?_
      exact retR hx hb hr (rfl) hlocks dX6_cell_18 (by simp [cellS, c_1, c_2])
