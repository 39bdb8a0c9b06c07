theorem cal_X6_least : calV yX6_least cX6_least 2 (some .int) 1 := ⟨k_24_18, k_1_2, k_24_16, k_24_17, by decide +kernel⟩
set_option maxHeartbeats 4000000 in
set_option maxRecDepth 100000 in
theorem c_X6_least (l : Launch) (G : va_G) (E : EvT) (cI cZ : ClassId) (n : Nat) (fo : Bool) (v : Int32) (o : Nat) (a_s : Nat) (a_s_zo : Nat) (a_s_he : Nat) (a_s_go : Nat) (a_s_hd : Nat) (a_w : Nat) (a_w_ki : Nat) (a_w_pl : Nat) (a_w_mo : Nat) (a_d : Nat) (a_d_re : Nat) (a_d_bu : Nat) (a_d_hg : Nat) (a_d_lh : Nat) (a_d_ba : Nat) (fs_o : List Value) (h_o_d : fs_o[7]? = some (.ref a_d)) (h_o_s : fs_o[1]? = some (.ref a_s)) (h_o_w : fs_o[6]? = some (.ref a_w)) (fs_s : List Value) (h_s_zo : fs_s[0]? = some (.ref a_s_zo)) (h_s_go : fs_s[2]? = some (.ref a_s_go)) (h_s_he : fs_s[1]? = some (.ref a_s_he)) (h_s_hd : fs_s[4]? = some (.ref a_s_hd)) (fs_w : List Value) (h_w_nw : fs_w[4]? = some (.int (nI n))) (h_w_ki : fs_w[0]? = some (.ref a_w_ki)) (h_w_pl : fs_w[1]? = some (.ref a_w_pl)) (h_w_mo : fs_w[2]? = some (.ref a_w_mo)) (d_sa : Int32) (d_am : Int32) (d_bl : Int32) (d_lm : Int32) (d_lt : Int32) (s_zo : Nat → Int32) (s_he : Nat → Int32) (s_go : Nat → Int32) (s_hd : Nat → Int32) (w_ki : Nat → Int32) (w_pl : Nat → Int32) (w_mo : Nat → Int32) (d_re : Nat → Int32) (d_bu : Nat → Int32) (d_hg : Nat → Int32) (d_lh : Nat → Int32) (hn : n ≤ 8) : cWi (S := (Nat → Int32) × (Nat → Int32) × (Nat → Int32) × Int32 × Bool × Int32 × Int32 × (Nat → Int32) × Int32 × Int32) l G E yX6_least cX6_least 2 (some .int) 14 [(cI, .int), (cZ, .boolean)] [.ref o, .int v] [(o, .inr (6, fs_o)), (a_s, .inr (2, fs_s)), (a_s_zo, .inl (cI, 48, .inl s_zo)), (a_s_he, .inl (cI, 48, .inl s_he)), (a_s_go, .inl (cI, 48, .inl s_go)), (a_s_hd, .inl (cI, 6, .inl s_hd)), (a_w, .inr (5, fs_w)), (a_w_ki, .inl (cI, 8, .inl w_ki)), (a_w_pl, .inl (cI, 8, .inl w_pl)), (a_w_mo, .inl (cI, 8, .inl w_mo)), (a_d, .inr (3, [.ref a_d_re, .ref a_d_bu, .ref a_d_hg, .int d_sa, .int d_am, .ref a_d_ba, .int (bI fo), .int d_bl, .int d_lm, .int d_lt, .ref a_d_lh])), (a_d_re, .inl (cI, 48, .inl d_re)), (a_d_bu, .inl (cI, 48, .inl d_bu)), (a_d_hg, .inl (cI, 8, .inl d_hg)), (a_d_lh, .inl (cI, 8, .inl d_lh))] (fun r _ => r = (if wiB v (-2) 7 then leaS (walS (reG (isES s_zo s_go) (wtD s_zo s_he s_go w_ki w_pl 0 n) (hwD s_zo s_hd w_ki w_pl w_mo 0 n)) (buG (isES s_zo s_go) (wtD s_zo s_he s_go w_ki w_pl 0 n)) 0 8) v else (-1))) (fun u => [(o, .inr (6, fs_o)), (a_s, .inr (2, fs_s)), (a_s_zo, .inl (cI, 48, .inl s_zo)), (a_s_he, .inl (cI, 48, .inl s_he)), (a_s_go, .inl (cI, 48, .inl s_go)), (a_s_hd, .inl (cI, 6, .inl s_hd)), (a_w, .inr (5, fs_w)), (a_w_ki, .inl (cI, 8, .inl w_ki)), (a_w_pl, .inl (cI, 8, .inl w_pl)), (a_w_mo, .inl (cI, 8, .inl w_mo)), (a_d, .inr (3, [.ref a_d_re, .ref a_d_bu, .ref a_d_hg, .int u.2.2.2.2.2.2.2.2.1, .int u.2.2.2.2.2.2.2.2.2, .ref a_d_ba, .int (bI u.2.2.2.2.1), .int u.2.2.2.1, .int u.2.2.2.2.2.1, .int u.2.2.2.2.2.2.1, .ref a_d_lh])), (a_d_re, .inl (cI, 48, .inl u.1)), (a_d_bu, .inl (cI, 48, .inl u.2.1)), (a_d_hg, .inl (cI, 8, .inl u.2.2.1)), (a_d_lh, .inl (cI, 8, .inl u.2.2.2.2.2.2.2.1))]) := by
  refine mkWi (by decide) (Nat.le_of_ble_eq_true rfl) ?_
  intro zp ze s zm args below meth zc hx hb hr hml hown hts hlocks hE hK A hA hlow H locs hP hD hS ls hl
  have hl : lv_has ls 2 [(0, .ref o), (1, .int v)] := hl
  refine lv_iload_n hx hb dX6_least_0 rfl (lv_at hl 1 rfl) ?_
  refine lv_bipush (v := (-2)) hx hb dX6_least_1 (by decide) ?_
  refine lv_bipush (v := 7) hx hb dX6_least_3 (by decide) ?_
  refine cRS (As := [.int v, .int (-2), .int 7]) (rest := []) hx hb hml hown hts (c_X6_within l G E cI cZ v (-2) 7) k_7_8 cal_X6_within ⟨Nat.le_of_ble_eq_true rfl, Nat.le_of_ble_eq_true rfl⟩ hE hlow hS hK [0, 1] rfl hP [] rfl rfl hl.1 rfl (Nat.le_of_ble_eq_true rfl) dX6_least_5 ⟨Nat.zero_le _, Nat.zero_le _⟩ ?_
  refine lv_if_ne (tgt := 13) hx hb dX6_least_8 (by decide) (fun c_1 => ?_) (fun c_1 => ?_)
  · skip
    have c_1 : (wiB v (-2) 7) = true := bI_t c_1
    refine lv_aload_n hx hb dX6_least_13 rfl (lv_at hl 0 rfl) ?_
    refine va_get (D := G) (ci := 6) (v := .ref a_d) (C := RX6) (T := TX6) (N := 12) hx hb hts inlX6 hown hK hP 0 rfl rfl 7 (by decide) (hts (.fieldLink RX6 46 "EarthBanks" "slides" "LEarthBanks$Slides;") k_2_9) (fun _ h9 => h9) h_o_d dX6_least_14 ?_
    refine lv_aload_n hx hb dX6_least_17 rfl (lv_at hl 0 rfl) ?_
    refine va_get (D := G) (ci := 6) (v := .ref a_s) (C := RX6) (T := TX6) (N := 12) hx hb hts inlX6 hown hK hP 0 rfl rfl 1 (by decide) (hts (.fieldLink RX6 19 "EarthBanks" "slice" "LEarthBanks$Slice;") k_1_20) (fun _ h9 => h9) h_o_s dX6_least_18 ?_
    refine lv_aload_n hx hb dX6_least_21 rfl (lv_at hl 0 rfl) ?_
    refine va_get (D := G) (ci := 6) (v := .ref a_w) (C := RX6) (T := TX6) (N := 12) hx hb hts inlX6 hown hK hP 0 rfl rfl 6 (by decide) (hts (.fieldLink RX6 39 "EarthBanks" "works" "LEarthBanks$Works;") k_2_5) (fun _ h9 => h9) h_o_w dX6_least_22 ?_
    refine lv_iconst (v := 0) hx hb dX6_least_25 (by decide) ?_
    refine cWVv (As := [.ref a_s, .ref a_w, .int 0]) (rest := []) hx hb hml hown hts (c_X3_survey l G E cI cZ n 0 a_d a_d_re a_d_bu a_s a_s_zo a_s_he a_s_go a_s_hd a_w a_w_ki a_w_pl a_w_mo [.ref a_d_re, .ref a_d_bu, .ref a_d_hg, .int d_sa, .int d_am, .ref a_d_ba, .int (bI fo), .int d_bl, .int d_lm, .int d_lt, .ref a_d_lh] rfl rfl fs_s h_s_zo h_s_go h_s_he h_s_hd fs_w h_w_nw h_w_ki h_w_pl h_w_mo d_re d_bu s_zo s_he s_go s_hd w_ki w_pl w_mo (hn)) k_24_23 cal_X3_survey ⟨Nat.le_of_ble_eq_true rfl, Nat.le_of_ble_eq_true rfl⟩ hE hA hlow hD hS hK [0, 1] rfl hP [10, 11, 12, 1, 2, 3, 4, 5, 6, 7, 8, 9] rfl (by decide) [a_d, a_d_re, a_d_bu, a_s, a_s_zo, a_s_he, a_s_go, a_s_hd, a_w, a_w_ki, a_w_pl, a_w_mo] rfl (fun _ => rfl) 10 3 rfl rfl rfl hl.1 rfl (Nat.le_of_ble_eq_true rfl) dX6_least_26 ⟨Nat.zero_le _, Nat.zero_le _⟩ (fun u H locs hr_ hP hD hS => ?_)
    have hP : va_P G vwCl [(o, .inr (6, fs_o)), (a_s, .inr (2, fs_s)), (a_s_zo, .inl (cI, 48, .inl s_zo)), (a_s_he, .inl (cI, 48, .inl s_he)), (a_s_go, .inl (cI, 48, .inl s_go)), (a_s_hd, .inl (cI, 6, .inl s_hd)), (a_w, .inr (5, fs_w)), (a_w_ki, .inl (cI, 8, .inl w_ki)), (a_w_pl, .inl (cI, 8, .inl w_pl)), (a_w_mo, .inl (cI, 8, .inl w_mo)), (a_d, .inr (3, [.ref a_d_re, .ref a_d_bu, .ref a_d_hg, .int d_sa, .int d_am, .ref a_d_ba, .int (bI fo), .int d_bl, .int d_lm, .int d_lt, .ref a_d_lh])), (a_d_re, .inl (cI, 48, .inl (reG (isES s_zo s_go) (wtD s_zo s_he s_go w_ki w_pl 0 n) (hwD s_zo s_hd w_ki w_pl w_mo 0 n)))), (a_d_bu, .inl (cI, 48, .inl (buG (isES s_zo s_go) (wtD s_zo s_he s_go w_ki w_pl 0 n)))), (a_d_hg, .inl (cI, 8, .inl d_hg)), (a_d_lh, .inl (cI, 8, .inl d_lh))] H := hP
    have hD : va_D A [(o, .inr (6, fs_o)), (a_s, .inr (2, fs_s)), (a_s_zo, .inl (cI, 48, .inl s_zo)), (a_s_he, .inl (cI, 48, .inl s_he)), (a_s_go, .inl (cI, 48, .inl s_go)), (a_s_hd, .inl (cI, 6, .inl s_hd)), (a_w, .inr (5, fs_w)), (a_w_ki, .inl (cI, 8, .inl w_ki)), (a_w_pl, .inl (cI, 8, .inl w_pl)), (a_w_mo, .inl (cI, 8, .inl w_mo)), (a_d, .inr (3, [.ref a_d_re, .ref a_d_bu, .ref a_d_hg, .int d_sa, .int d_am, .ref a_d_ba, .int (bI fo), .int d_bl, .int d_lm, .int d_lt, .ref a_d_lh])), (a_d_re, .inl (cI, 48, .inl (reG (isES s_zo s_go) (wtD s_zo s_he s_go w_ki w_pl 0 n) (hwD s_zo s_hd w_ki w_pl w_mo 0 n)))), (a_d_bu, .inl (cI, 48, .inl (buG (isES s_zo s_go) (wtD s_zo s_he s_go w_ki w_pl 0 n)))), (a_d_hg, .inl (cI, 8, .inl d_hg)), (a_d_lh, .inl (cI, 8, .inl d_lh))] := hD
    refine lv_aload_n hx hb dX6_least_29 rfl (lv_at hl 0 rfl) ?_
    refine va_get (D := G) (ci := 6) (v := .ref a_d) (C := RX6) (T := TX6) (N := 12) hx hb hts inlX6 hown hK hP 0 rfl rfl 7 (by decide) (hts (.fieldLink RX6 46 "EarthBanks" "slides" "LEarthBanks$Slides;") k_2_9) (fun _ h9 => h9) h_o_d dX6_least_30 ?_
    refine lv_iconst (v := 0) hx hb dX6_least_33 (by decide) ?_
    refine cWVv (As := [.int 0]) (rest := []) hx hb hml hown hts (c_X3_walkAll l G E cI cZ fo 0 a_d a_d_re a_d_bu a_d_hg a_d_lh a_d_ba d_sa d_am d_bl d_lm d_lt (reG (isES s_zo s_go) (wtD s_zo s_he s_go w_ki w_pl 0 n) (hwD s_zo s_hd w_ki w_pl w_mo 0 n)) (buG (isES s_zo s_go) (wtD s_zo s_he s_go w_ki w_pl 0 n)) d_hg d_lh) k_25_17 cal_X3_walkAll ⟨Nat.le_of_ble_eq_true rfl, Nat.le_of_ble_eq_true rfl⟩ hE hA hlow hD hS hK [0, 1] rfl hP [10, 11, 12, 13, 14] rfl (by decide) [a_d, a_d_re, a_d_bu, a_d_hg, a_d_lh] rfl (fun _ => rfl) 10 3 rfl rfl rfl hl.1 rfl (Nat.le_of_ble_eq_true rfl) dX6_least_34 ⟨Nat.zero_le _, Nat.zero_le _⟩ (fun u H locs hr_ hP hD hS => ?_)
    obtain ⟨hg2_2, bl2_3, fo2_4, lm2_5, lt2_6, lh2_7, sa2_8⟩ := u
    have hp_9 : accR (walS (reG (isES s_zo s_go) (wtD s_zo s_he s_go w_ki w_pl 0 n) (hwD s_zo s_hd w_ki w_pl w_mo 0 n)) (buG (isES s_zo s_go) (wtD s_zo s_he s_go w_ki w_pl 0 n)) 0 8) bl2_3 fo2_4 lm2_5 lt2_6 lh2_7 := hr_
    have hP : va_P G vwCl [(o, .inr (6, fs_o)), (a_s, .inr (2, fs_s)), (a_s_zo, .inl (cI, 48, .inl s_zo)), (a_s_he, .inl (cI, 48, .inl s_he)), (a_s_go, .inl (cI, 48, .inl s_go)), (a_s_hd, .inl (cI, 6, .inl s_hd)), (a_w, .inr (5, fs_w)), (a_w_ki, .inl (cI, 8, .inl w_ki)), (a_w_pl, .inl (cI, 8, .inl w_pl)), (a_w_mo, .inl (cI, 8, .inl w_mo)), (a_d, .inr (3, [.ref a_d_re, .ref a_d_bu, .ref a_d_hg, .int sa2_8, .int 0, .ref a_d_ba, .int (bI fo2_4), .int bl2_3, .int lm2_5, .int lt2_6, .ref a_d_lh])), (a_d_re, .inl (cI, 48, .inl (reG (isES s_zo s_go) (wtD s_zo s_he s_go w_ki w_pl 0 n) (hwD s_zo s_hd w_ki w_pl w_mo 0 n)))), (a_d_bu, .inl (cI, 48, .inl (buG (isES s_zo s_go) (wtD s_zo s_he s_go w_ki w_pl 0 n)))), (a_d_hg, .inl (cI, 8, .inl hg2_2)), (a_d_lh, .inl (cI, 8, .inl lh2_7))] H := hP
    have hD : va_D A [(o, .inr (6, fs_o)), (a_s, .inr (2, fs_s)), (a_s_zo, .inl (cI, 48, .inl s_zo)), (a_s_he, .inl (cI, 48, .inl s_he)), (a_s_go, .inl (cI, 48, .inl s_go)), (a_s_hd, .inl (cI, 6, .inl s_hd)), (a_w, .inr (5, fs_w)), (a_w_ki, .inl (cI, 8, .inl w_ki)), (a_w_pl, .inl (cI, 8, .inl w_pl)), (a_w_mo, .inl (cI, 8, .inl w_mo)), (a_d, .inr (3, [.ref a_d_re, .ref a_d_bu, .ref a_d_hg, .int sa2_8, .int 0, .ref a_d_ba, .int (bI fo2_4), .int bl2_3, .int lm2_5, .int lt2_6, .ref a_d_lh])), (a_d_re, .inl (cI, 48, .inl (reG (isES s_zo s_go) (wtD s_zo s_he s_go w_ki w_pl 0 n) (hwD s_zo s_hd w_ki w_pl w_mo 0 n)))), (a_d_bu, .inl (cI, 48, .inl (buG (isES s_zo s_go) (wtD s_zo s_he s_go w_ki w_pl 0 n)))), (a_d_hg, .inl (cI, 8, .inl hg2_2)), (a_d_lh, .inl (cI, 8, .inl lh2_7))] := hD
    have hpw := hp_9
    refine lv_aload_n hx hb dX6_least_37 rfl (lv_at hl 0 rfl) ?_
    refine va_get (D := G) (ci := 6) (v := .ref a_d) (C := RX6) (T := TX6) (N := 12) hx hb hts inlX6 hown hK hP 0 rfl rfl 7 (by decide) (hts (.fieldLink RX6 46 "EarthBanks" "slides" "LEarthBanks$Slides;") k_2_9) (fun _ h9 => h9) h_o_d dX6_least_38 ?_
    refine va_get (D := G) (ci := 3) (v := .int (bI fo2_4)) (C := RX3) (T := TX3) (N := 11) hx hb hts inlX3 hown hK hP 10 rfl rfl 6 (by decide) (hts (.fieldLink RX6 187 "EarthBanks$Slides" "found" "Z") k_24_19) (fun _ h9 => h9) rfl dX6_least_41 ?_
    refine lv_if_ne (tgt := 50) hx hb dX6_least_44 (by decide) (fun c_10 => ?_) (fun c_10 => ?_)
    · skip
      have c_10 : fo2_4 = true := bI_t c_10
      refine lv_iload_n hx hb dX6_least_50 rfl (lv_at hl 1 rfl) ?_
      refine lv_iconst (v := (-1)) hx hb dX6_least_51 (by decide) ?_
      refine lv_icmp_ne (tgt := 63) hx hb dX6_least_52 (by decide) (fun c_11 => ?_) (fun c_11 => ?_)
      · skip
        refine lv_iload_n hx hb dX6_least_63 rfl (lv_at hl 1 rfl) ?_
        refine lv_bipush (v := (-2)) hx hb dX6_least_64 (by decide) ?_
        refine lv_icmp_ne (tgt := 77) hx hb dX6_least_66 (by decide) (fun c_12 => ?_) (fun c_12 => ?_)
        · skip
          refine lv_iload_n hx hb dX6_least_77 rfl (lv_at hl 1 rfl) ?_
          refine lv_aload_n hx hb dX6_least_78 rfl (lv_at hl 0 rfl) ?_
          refine va_get (D := G) (ci := 6) (v := .ref a_d) (C := RX6) (T := TX6) (N := 12) hx hb hts inlX6 hown hK hP 0 rfl rfl 7 (by decide) (hts (.fieldLink RX6 46 "EarthBanks" "slides" "LEarthBanks$Slides;") k_2_9) (fun _ h9 => h9) h_o_d dX6_least_79 ?_
          refine va_get (D := G) (ci := 3) (v := .int lt2_6) (C := RX3) (T := TX3) (N := 11) hx hb hts inlX3 hown hK hP 10 rfl rfl 9 (by decide) (hts (.fieldLink RX6 194 "EarthBanks$Slides" "leastStart" "I") k_24_21) (fun _ h9 => h9) rfl dX6_least_82 ?_
          refine lv_icmp_ge (tgt := 93) hx hb dX6_least_85 (by decide) (fun c_13 => ?_) (fun c_13 => ?_)
          · skip
            obtain ⟨vn, hvn, hev⟩ := wiB_k c_1 c_11 c_12
            have hcv : v.toNatClampNeg = vn := by rw [hev]; exact nI_clamp (by omega)
            have hl : lv_has ls 2 [(0, .ref o), (1, .int (nI vn))] := by rw [hev] at hl; exact hl
            refine lv_aload_n hx hb dX6_least_93 rfl (lv_at hl 0 rfl) ?_
            refine va_get (D := G) (ci := 6) (v := .ref a_d) (C := RX6) (T := TX6) (N := 12) hx hb hts inlX6 hown hK hP 0 rfl rfl 7 (by decide) (hts (.fieldLink RX6 46 "EarthBanks" "slides" "LEarthBanks$Slides;") k_2_9) (fun _ h9 => h9) h_o_d dX6_least_94 ?_
            refine va_get (D := G) (ci := 3) (v := .ref a_d_lh) (C := RX3) (T := TX3) (N := 11) hx hb hts inlX3 hown hK hP 10 rfl rfl 10 (by decide) (hts (.fieldLink RX6 197 "EarthBanks$Slides" "leastHeights" "[I") k_24_22) (fun _ h9 => h9) rfl dX6_least_97 ?_
            refine lv_iload_n hx hb dX6_least_100 rfl (lv_at hl 1 rfl) ?_
            refine ialdN (j := vn) hx hb hK hP 14 0 rfl rfl (by omega) (by decide) dX6_least_101 ?_
            exact retWi ((reG (isES s_zo s_go) (wtD s_zo s_he s_go w_ki w_pl 0 n) (hwD s_zo s_hd w_ki w_pl w_mo 0 n)), (buG (isES s_zo s_go) (wtD s_zo s_he s_go w_ki w_pl 0 n)), hg2_2, bl2_3, fo2_4, lm2_5, lt2_6, lh2_7, sa2_8, 0) hx hb hr (rfl) hlocks dX6_least_102 hS (by rw [show (wiB v (-2) 7) = true from c_1, if_pos rfl, leaS_t hpw c_10 (fun a b => wiB_k c_1 a b)]; simp [hcv, c_11, c_12, c_13]) hP
          · skip
            refine lv_bipush (v := (-9)) hx hb dX6_least_88 (by decide) ?_
            refine lv_goto (tgt := 102) hx hb dX6_least_90 (by decide) ?_
            exact retWi ((reG (isES s_zo s_go) (wtD s_zo s_he s_go w_ki w_pl 0 n) (hwD s_zo s_hd w_ki w_pl w_mo 0 n)), (buG (isES s_zo s_go) (wtD s_zo s_he s_go w_ki w_pl 0 n)), hg2_2, bl2_3, fo2_4, lm2_5, lt2_6, lh2_7, sa2_8, 0) hx hb hr (rfl) hlocks dX6_least_102 hS (by rw [show (wiB v (-2) 7) = true from c_1, if_pos rfl, leaS_t hpw c_10 (fun a b => wiB_k c_1 a b)]; simp [c_11, c_12, c_13]) hP
        · skip
          refine lv_aload_n hx hb dX6_least_69 rfl (lv_at hl 0 rfl) ?_
          refine va_get (D := G) (ci := 6) (v := .ref a_d) (C := RX6) (T := TX6) (N := 12) hx hb hts inlX6 hown hK hP 0 rfl rfl 7 (by decide) (hts (.fieldLink RX6 46 "EarthBanks" "slides" "LEarthBanks$Slides;") k_2_9) (fun _ h9 => h9) h_o_d dX6_least_70 ?_
          refine va_get (D := G) (ci := 3) (v := .int lt2_6) (C := RX3) (T := TX3) (N := 11) hx hb hts inlX3 hown hK hP 10 rfl rfl 9 (by decide) (hts (.fieldLink RX6 194 "EarthBanks$Slides" "leastStart" "I") k_24_21) (fun _ h9 => h9) rfl dX6_least_73 ?_
          exact retWi ((reG (isES s_zo s_go) (wtD s_zo s_he s_go w_ki w_pl 0 n) (hwD s_zo s_hd w_ki w_pl w_mo 0 n)), (buG (isES s_zo s_go) (wtD s_zo s_he s_go w_ki w_pl 0 n)), hg2_2, bl2_3, fo2_4, lm2_5, lt2_6, lh2_7, sa2_8, 0) hx hb hr (rfl) hlocks dX6_least_76 hS (by rw [show (wiB v (-2) 7) = true from c_1, if_pos rfl, leaS_t hpw c_10 (fun a b => wiB_k c_1 a b)]; simp [c_11, eq_true c_12]) hP
      · skip
        refine lv_aload_n hx hb dX6_least_55 rfl (lv_at hl 0 rfl) ?_
        refine va_get (D := G) (ci := 6) (v := .ref a_d) (C := RX6) (T := TX6) (N := 12) hx hb hts inlX6 hown hK hP 0 rfl rfl 7 (by decide) (hts (.fieldLink RX6 46 "EarthBanks" "slides" "LEarthBanks$Slides;") k_2_9) (fun _ h9 => h9) h_o_d dX6_least_56 ?_
        refine va_get (D := G) (ci := 3) (v := .int lm2_5) (C := RX3) (T := TX3) (N := 11) hx hb hts inlX3 hown hK hP 10 rfl rfl 8 (by decide) (hts (.fieldLink RX6 191 "EarthBanks$Slides" "leastMargin" "I") k_24_20) (fun _ h9 => h9) rfl dX6_least_59 ?_
        exact retWi ((reG (isES s_zo s_go) (wtD s_zo s_he s_go w_ki w_pl 0 n) (hwD s_zo s_hd w_ki w_pl w_mo 0 n)), (buG (isES s_zo s_go) (wtD s_zo s_he s_go w_ki w_pl 0 n)), hg2_2, bl2_3, fo2_4, lm2_5, lt2_6, lh2_7, sa2_8, 0) hx hb hr (rfl) hlocks dX6_least_62 hS (by rw [show (wiB v (-2) 7) = true from c_1, if_pos rfl, leaS_t hpw c_10 (fun a b => wiB_k c_1 a b)]; simp [eq_true c_11]) hP
    · skip
      have c_10 : fo2_4 = false := bI_f c_10
      refine lv_bipush (v := (-9)) hx hb dX6_least_47 (by decide) ?_
      exact retWi ((reG (isES s_zo s_go) (wtD s_zo s_he s_go w_ki w_pl 0 n) (hwD s_zo s_hd w_ki w_pl w_mo 0 n)), (buG (isES s_zo s_go) (wtD s_zo s_he s_go w_ki w_pl 0 n)), hg2_2, bl2_3, fo2_4, lm2_5, lt2_6, lh2_7, sa2_8, 0) hx hb hr (rfl) hlocks dX6_least_49 hS (by rw [show (wiB v (-2) 7) = true from c_1, if_pos rfl, leaS_f hpw c_10]) hP
  · skip
    have c_1 : (wiB v (-2) 7) = false := bI_f c_1
    refine lv_iconst (v := (-1)) hx hb dX6_least_11 (by decide) ?_
    exact retWi (d_re, d_bu, d_hg, d_bl, fo, d_lm, d_lt, d_lh, d_sa, d_am) hx hb hr (rfl) hlocks dX6_least_12 hS (by simp [bI, c_1]) hP
theorem cal_X6_ways : calV yX6_ways cX6_ways 2 (some .int) 1 := ⟨k_27_13, k_1_2, k_27_11, k_27_12, by decide +kernel⟩
set_option maxHeartbeats 4000000 in
set_option maxRecDepth 100000 in
theorem c_X6_ways (l : Launch) (G : va_G) (E : EvT) (cI cZ : ClassId) (n : Nat) (fo : Bool) (v : Int32) (o : Nat) (a_s : Nat) (a_s_zo : Nat) (a_s_he : Nat) (a_s_go : Nat) (a_s_hd : Nat) (a_w : Nat) (a_w_ki : Nat) (a_w_pl : Nat) (a_w_mo : Nat) (a_d : Nat) (a_d_re : Nat) (a_d_bu : Nat) (a_d_hg : Nat) (a_d_lh : Nat) (a_d_ba : Nat) (fs_o : List Value) (h_o_d : fs_o[7]? = some (.ref a_d)) (h_o_s : fs_o[1]? = some (.ref a_s)) (h_o_w : fs_o[6]? = some (.ref a_w)) (fs_s : List Value) (h_s_zo : fs_s[0]? = some (.ref a_s_zo)) (h_s_go : fs_s[2]? = some (.ref a_s_go)) (h_s_he : fs_s[1]? = some (.ref a_s_he)) (h_s_hd : fs_s[4]? = some (.ref a_s_hd)) (fs_w : List Value) (h_w_nw : fs_w[4]? = some (.int (nI n))) (h_w_ki : fs_w[0]? = some (.ref a_w_ki)) (h_w_pl : fs_w[1]? = some (.ref a_w_pl)) (h_w_mo : fs_w[2]? = some (.ref a_w_mo)) (d_sa : Int32) (d_am : Int32) (d_bl : Int32) (d_lm : Int32) (d_lt : Int32) (s_zo : Nat → Int32) (s_he : Nat → Int32) (s_go : Nat → Int32) (s_hd : Nat → Int32) (w_ki : Nat → Int32) (w_pl : Nat → Int32) (w_mo : Nat → Int32) (d_re : Nat → Int32) (d_bu : Nat → Int32) (d_hg : Nat → Int32) (d_lh : Nat → Int32) (hn : n ≤ 8) : cWi (S := (Nat → Int32) × (Nat → Int32) × (Nat → Int32) × Int32 × Bool × Int32 × Int32 × (Nat → Int32) × Int32 × Int32) l G E yX6_ways cX6_ways 2 (some .int) 14 [(cI, .int), (cZ, .boolean)] [.ref o, .int v] [(o, .inr (6, fs_o)), (a_s, .inr (2, fs_s)), (a_s_zo, .inl (cI, 48, .inl s_zo)), (a_s_he, .inl (cI, 48, .inl s_he)), (a_s_go, .inl (cI, 48, .inl s_go)), (a_s_hd, .inl (cI, 6, .inl s_hd)), (a_w, .inr (5, fs_w)), (a_w_ki, .inl (cI, 8, .inl w_ki)), (a_w_pl, .inl (cI, 8, .inl w_pl)), (a_w_mo, .inl (cI, 8, .inl w_mo)), (a_d, .inr (3, [.ref a_d_re, .ref a_d_bu, .ref a_d_hg, .int d_sa, .int d_am, .ref a_d_ba, .int (bI fo), .int d_bl, .int d_lm, .int d_lt, .ref a_d_lh])), (a_d_re, .inl (cI, 48, .inl d_re)), (a_d_bu, .inl (cI, 48, .inl d_bu)), (a_d_hg, .inl (cI, 8, .inl d_hg)), (a_d_lh, .inl (cI, 8, .inl d_lh))] (fun r _ => r = (if 0 ≤ v then (walS (reG (isES s_zo s_go) (wtD s_zo s_he s_go w_ki w_pl 0 n) (hwD s_zo s_hd w_ki w_pl w_mo 0 n)) (buG (isES s_zo s_go) (wtD s_zo s_he s_go w_ki w_pl 0 n)) v 8).1 else (-1))) (fun u => [(o, .inr (6, fs_o)), (a_s, .inr (2, fs_s)), (a_s_zo, .inl (cI, 48, .inl s_zo)), (a_s_he, .inl (cI, 48, .inl s_he)), (a_s_go, .inl (cI, 48, .inl s_go)), (a_s_hd, .inl (cI, 6, .inl s_hd)), (a_w, .inr (5, fs_w)), (a_w_ki, .inl (cI, 8, .inl w_ki)), (a_w_pl, .inl (cI, 8, .inl w_pl)), (a_w_mo, .inl (cI, 8, .inl w_mo)), (a_d, .inr (3, [.ref a_d_re, .ref a_d_bu, .ref a_d_hg, .int u.2.2.2.2.2.2.2.2.1, .int u.2.2.2.2.2.2.2.2.2, .ref a_d_ba, .int (bI u.2.2.2.2.1), .int u.2.2.2.1, .int u.2.2.2.2.2.1, .int u.2.2.2.2.2.2.1, .ref a_d_lh])), (a_d_re, .inl (cI, 48, .inl u.1)), (a_d_bu, .inl (cI, 48, .inl u.2.1)), (a_d_hg, .inl (cI, 8, .inl u.2.2.1)), (a_d_lh, .inl (cI, 8, .inl u.2.2.2.2.2.2.2.1))]) := by
  refine mkWi (by decide) (Nat.le_of_ble_eq_true rfl) ?_
  intro zp ze s zm args below meth zc hx hb hr hml hown hts hlocks hE hK A hA hlow H locs hP hD hS ls hl
  have hl : lv_has ls 2 [(0, .ref o), (1, .int v)] := hl
  refine lv_iload_n hx hb dX6_ways_0 rfl (lv_at hl 1 rfl) ?_
  refine lv_if_ge (tgt := 6) hx hb dX6_ways_1 (by decide) (fun c_1 => ?_) (fun c_1 => ?_)
  · skip
    refine lv_aload_n hx hb dX6_ways_6 rfl (lv_at hl 0 rfl) ?_
    refine va_get (D := G) (ci := 6) (v := .ref a_d) (C := RX6) (T := TX6) (N := 12) hx hb hts inlX6 hown hK hP 0 rfl rfl 7 (by decide) (hts (.fieldLink RX6 46 "EarthBanks" "slides" "LEarthBanks$Slides;") k_2_9) (fun _ h9 => h9) h_o_d dX6_ways_7 ?_
    refine lv_aload_n hx hb dX6_ways_10 rfl (lv_at hl 0 rfl) ?_
    refine va_get (D := G) (ci := 6) (v := .ref a_s) (C := RX6) (T := TX6) (N := 12) hx hb hts inlX6 hown hK hP 0 rfl rfl 1 (by decide) (hts (.fieldLink RX6 19 "EarthBanks" "slice" "LEarthBanks$Slice;") k_1_20) (fun _ h9 => h9) h_o_s dX6_ways_11 ?_
    refine lv_aload_n hx hb dX6_ways_14 rfl (lv_at hl 0 rfl) ?_
    refine va_get (D := G) (ci := 6) (v := .ref a_w) (C := RX6) (T := TX6) (N := 12) hx hb hts inlX6 hown hK hP 0 rfl rfl 6 (by decide) (hts (.fieldLink RX6 39 "EarthBanks" "works" "LEarthBanks$Works;") k_2_5) (fun _ h9 => h9) h_o_w dX6_ways_15 ?_
    refine lv_iconst (v := 0) hx hb dX6_ways_18 (by decide) ?_
    refine cWVv (As := [.ref a_s, .ref a_w, .int 0]) (rest := []) hx hb hml hown hts (c_X3_survey l G E cI cZ n 0 a_d a_d_re a_d_bu a_s a_s_zo a_s_he a_s_go a_s_hd a_w a_w_ki a_w_pl a_w_mo [.ref a_d_re, .ref a_d_bu, .ref a_d_hg, .int d_sa, .int d_am, .ref a_d_ba, .int (bI fo), .int d_bl, .int d_lm, .int d_lt, .ref a_d_lh] rfl rfl fs_s h_s_zo h_s_go h_s_he h_s_hd fs_w h_w_nw h_w_ki h_w_pl h_w_mo d_re d_bu s_zo s_he s_go s_hd w_ki w_pl w_mo (hn)) k_24_23 cal_X3_survey ⟨Nat.le_of_ble_eq_true rfl, Nat.le_of_ble_eq_true rfl⟩ hE hA hlow hD hS hK [0, 1] rfl hP [10, 11, 12, 1, 2, 3, 4, 5, 6, 7, 8, 9] rfl (by decide) [a_d, a_d_re, a_d_bu, a_s, a_s_zo, a_s_he, a_s_go, a_s_hd, a_w, a_w_ki, a_w_pl, a_w_mo] rfl (fun _ => rfl) 10 3 rfl rfl rfl hl.1 rfl (Nat.le_of_ble_eq_true rfl) dX6_ways_19 ⟨Nat.zero_le _, Nat.zero_le _⟩ (fun u H locs hr_ hP hD hS => ?_)
    have hP : va_P G vwCl [(o, .inr (6, fs_o)), (a_s, .inr (2, fs_s)), (a_s_zo, .inl (cI, 48, .inl s_zo)), (a_s_he, .inl (cI, 48, .inl s_he)), (a_s_go, .inl (cI, 48, .inl s_go)), (a_s_hd, .inl (cI, 6, .inl s_hd)), (a_w, .inr (5, fs_w)), (a_w_ki, .inl (cI, 8, .inl w_ki)), (a_w_pl, .inl (cI, 8, .inl w_pl)), (a_w_mo, .inl (cI, 8, .inl w_mo)), (a_d, .inr (3, [.ref a_d_re, .ref a_d_bu, .ref a_d_hg, .int d_sa, .int d_am, .ref a_d_ba, .int (bI fo), .int d_bl, .int d_lm, .int d_lt, .ref a_d_lh])), (a_d_re, .inl (cI, 48, .inl (reG (isES s_zo s_go) (wtD s_zo s_he s_go w_ki w_pl 0 n) (hwD s_zo s_hd w_ki w_pl w_mo 0 n)))), (a_d_bu, .inl (cI, 48, .inl (buG (isES s_zo s_go) (wtD s_zo s_he s_go w_ki w_pl 0 n)))), (a_d_hg, .inl (cI, 8, .inl d_hg)), (a_d_lh, .inl (cI, 8, .inl d_lh))] H := hP
    have hD : va_D A [(o, .inr (6, fs_o)), (a_s, .inr (2, fs_s)), (a_s_zo, .inl (cI, 48, .inl s_zo)), (a_s_he, .inl (cI, 48, .inl s_he)), (a_s_go, .inl (cI, 48, .inl s_go)), (a_s_hd, .inl (cI, 6, .inl s_hd)), (a_w, .inr (5, fs_w)), (a_w_ki, .inl (cI, 8, .inl w_ki)), (a_w_pl, .inl (cI, 8, .inl w_pl)), (a_w_mo, .inl (cI, 8, .inl w_mo)), (a_d, .inr (3, [.ref a_d_re, .ref a_d_bu, .ref a_d_hg, .int d_sa, .int d_am, .ref a_d_ba, .int (bI fo), .int d_bl, .int d_lm, .int d_lt, .ref a_d_lh])), (a_d_re, .inl (cI, 48, .inl (reG (isES s_zo s_go) (wtD s_zo s_he s_go w_ki w_pl 0 n) (hwD s_zo s_hd w_ki w_pl w_mo 0 n)))), (a_d_bu, .inl (cI, 48, .inl (buG (isES s_zo s_go) (wtD s_zo s_he s_go w_ki w_pl 0 n)))), (a_d_hg, .inl (cI, 8, .inl d_hg)), (a_d_lh, .inl (cI, 8, .inl d_lh))] := hD
    refine lv_aload_n hx hb dX6_ways_22 rfl (lv_at hl 0 rfl) ?_
    refine va_get (D := G) (ci := 6) (v := .ref a_d) (C := RX6) (T := TX6) (N := 12) hx hb hts inlX6 hown hK hP 0 rfl rfl 7 (by decide) (hts (.fieldLink RX6 46 "EarthBanks" "slides" "LEarthBanks$Slides;") k_2_9) (fun _ h9 => h9) h_o_d dX6_ways_23 ?_
    refine lv_iload_n hx hb dX6_ways_26 rfl (lv_at hl 1 rfl) ?_
    refine cWVv (As := [.int v]) (rest := []) hx hb hml hown hts (c_X3_walkAll l G E cI cZ fo v a_d a_d_re a_d_bu a_d_hg a_d_lh a_d_ba d_sa d_am d_bl d_lm d_lt (reG (isES s_zo s_go) (wtD s_zo s_he s_go w_ki w_pl 0 n) (hwD s_zo s_hd w_ki w_pl w_mo 0 n)) (buG (isES s_zo s_go) (wtD s_zo s_he s_go w_ki w_pl 0 n)) d_hg d_lh) k_25_17 cal_X3_walkAll ⟨Nat.le_of_ble_eq_true rfl, Nat.le_of_ble_eq_true rfl⟩ hE hA hlow hD hS hK [0, 1] rfl hP [10, 11, 12, 13, 14] rfl (by decide) [a_d, a_d_re, a_d_bu, a_d_hg, a_d_lh] rfl (fun _ => rfl) 10 3 rfl rfl rfl hl.1 rfl (Nat.le_of_ble_eq_true rfl) dX6_ways_27 ⟨Nat.zero_le _, Nat.zero_le _⟩ (fun u H locs hr_ hP hD hS => ?_)
    obtain ⟨hg2_2, bl2_3, fo2_4, lm2_5, lt2_6, lh2_7, sa2_8⟩ := u
    have hp_9 : accR (walS (reG (isES s_zo s_go) (wtD s_zo s_he s_go w_ki w_pl 0 n) (hwD s_zo s_hd w_ki w_pl w_mo 0 n)) (buG (isES s_zo s_go) (wtD s_zo s_he s_go w_ki w_pl 0 n)) v 8) bl2_3 fo2_4 lm2_5 lt2_6 lh2_7 := hr_
    have hP : va_P G vwCl [(o, .inr (6, fs_o)), (a_s, .inr (2, fs_s)), (a_s_zo, .inl (cI, 48, .inl s_zo)), (a_s_he, .inl (cI, 48, .inl s_he)), (a_s_go, .inl (cI, 48, .inl s_go)), (a_s_hd, .inl (cI, 6, .inl s_hd)), (a_w, .inr (5, fs_w)), (a_w_ki, .inl (cI, 8, .inl w_ki)), (a_w_pl, .inl (cI, 8, .inl w_pl)), (a_w_mo, .inl (cI, 8, .inl w_mo)), (a_d, .inr (3, [.ref a_d_re, .ref a_d_bu, .ref a_d_hg, .int sa2_8, .int v, .ref a_d_ba, .int (bI fo2_4), .int bl2_3, .int lm2_5, .int lt2_6, .ref a_d_lh])), (a_d_re, .inl (cI, 48, .inl (reG (isES s_zo s_go) (wtD s_zo s_he s_go w_ki w_pl 0 n) (hwD s_zo s_hd w_ki w_pl w_mo 0 n)))), (a_d_bu, .inl (cI, 48, .inl (buG (isES s_zo s_go) (wtD s_zo s_he s_go w_ki w_pl 0 n)))), (a_d_hg, .inl (cI, 8, .inl hg2_2)), (a_d_lh, .inl (cI, 8, .inl lh2_7))] H := hP
    have hD : va_D A [(o, .inr (6, fs_o)), (a_s, .inr (2, fs_s)), (a_s_zo, .inl (cI, 48, .inl s_zo)), (a_s_he, .inl (cI, 48, .inl s_he)), (a_s_go, .inl (cI, 48, .inl s_go)), (a_s_hd, .inl (cI, 6, .inl s_hd)), (a_w, .inr (5, fs_w)), (a_w_ki, .inl (cI, 8, .inl w_ki)), (a_w_pl, .inl (cI, 8, .inl w_pl)), (a_w_mo, .inl (cI, 8, .inl w_mo)), (a_d, .inr (3, [.ref a_d_re, .ref a_d_bu, .ref a_d_hg, .int sa2_8, .int v, .ref a_d_ba, .int (bI fo2_4), .int bl2_3, .int lm2_5, .int lt2_6, .ref a_d_lh])), (a_d_re, .inl (cI, 48, .inl (reG (isES s_zo s_go) (wtD s_zo s_he s_go w_ki w_pl 0 n) (hwD s_zo s_hd w_ki w_pl w_mo 0 n)))), (a_d_bu, .inl (cI, 48, .inl (buG (isES s_zo s_go) (wtD s_zo s_he s_go w_ki w_pl 0 n)))), (a_d_hg, .inl (cI, 8, .inl hg2_2)), (a_d_lh, .inl (cI, 8, .inl lh2_7))] := hD
    have hpw := hp_9
    refine lv_aload_n hx hb dX6_ways_30 rfl (lv_at hl 0 rfl) ?_
    refine va_get (D := G) (ci := 6) (v := .ref a_d) (C := RX6) (T := TX6) (N := 12) hx hb hts inlX6 hown hK hP 0 rfl rfl 7 (by decide) (hts (.fieldLink RX6 46 "EarthBanks" "slides" "LEarthBanks$Slides;") k_2_9) (fun _ h9 => h9) h_o_d dX6_ways_31 ?_
    refine va_get (D := G) (ci := 3) (v := .int bl2_3) (C := RX3) (T := TX3) (N := 11) hx hb hts inlX3 hown hK hP 10 rfl rfl 7 (by decide) (hts (.fieldLink RX6 200 "EarthBanks$Slides" "belowAim" "I") k_27_14) (fun _ h9 => h9) rfl dX6_ways_34 ?_
    exact retWi ((reG (isES s_zo s_go) (wtD s_zo s_he s_go w_ki w_pl 0 n) (hwD s_zo s_hd w_ki w_pl w_mo 0 n)), (buG (isES s_zo s_go) (wtD s_zo s_he s_go w_ki w_pl 0 n)), hg2_2, bl2_3, fo2_4, lm2_5, lt2_6, lh2_7, sa2_8, v) hx hb hr (rfl) hlocks dX6_ways_37 hS (by rw [if_pos c_1]; exact hpw.1) hP
  · skip
    refine lv_iconst (v := (-1)) hx hb dX6_ways_4 (by decide) ?_
    exact retWi (d_re, d_bu, d_hg, d_bl, fo, d_lm, d_lt, d_lh, d_sa, d_am) hx hb hr (rfl) hlocks dX6_ways_5 hS (by simp [bI, c_1]) hP
theorem cal_X6_pool : calV yX6_pool cX6_pool 3 (some .int) 2 := ⟨k_31_10, k_1_2, k_31_8, k_31_9, by decide +kernel⟩
set_option maxHeartbeats 4000000 in
set_option maxRecDepth 100000 in
theorem c_X6_pool (l : Launch) (G : va_G) (E : EvT) (cI cZ : ClassId) (x : Int32) (v : Int32) (o : Nat) (a_r : Nat) (a_r_se : Nat) (fs_o : List Value) (h_o_r : fs_o[8]? = some (.ref a_r)) (fs_r : List Value) (h_r_se : fs_r[0]? = some (.ref a_r_se)) (r_se : Nat → Int32) : cWi (S := Unit) l G E yX6_pool cX6_pool 3 (some .int) 3 [(cI, .int), (cZ, .boolean)] [.ref o, .int x, .int v] [(o, .inr (6, fs_o)), (a_r, .inr (1, fs_r)), (a_r_se, .inl (cI, 6, .inl r_se))] (fun r _ => r = (if wiB x 0 5 && wiB v 0 9999 then r_se x.toNatClampNeg else (-1))) (fun _ => [(o, .inr (6, fs_o)), (a_r, .inr (1, fs_r)), (a_r_se, .inl (cI, 6, .inl (if wiB x 0 5 && wiB v 0 9999 then upd r_se x.toNatClampNeg v else r_se)))]) := by
  refine mkWi (by decide) (Nat.le_of_ble_eq_true rfl) ?_
  intro zp ze s zm args below meth zc hx hb hr hml hown hts hlocks hE hK A hA hlow H locs hP hD hS ls hl
  have hl : lv_has ls 3 [(0, .ref o), (1, .int x), (2, .int v)] := hl
  refine lv_iload_n hx hb dX6_pool_0 rfl (lv_at hl 1 rfl) ?_
  refine lv_iconst (v := 0) hx hb dX6_pool_1 (by decide) ?_
  refine lv_iconst (v := 5) hx hb dX6_pool_2 (by decide) ?_
  refine cRS (As := [.int x, .int 0, .int 5]) (rest := []) hx hb hml hown hts (c_X6_within l G E cI cZ x 0 5) k_7_8 cal_X6_within ⟨Nat.le_of_ble_eq_true rfl, Nat.le_of_ble_eq_true rfl⟩ hE hlow hS hK [0, 1] rfl hP [] rfl rfl hl.1 rfl (Nat.le_of_ble_eq_true rfl) dX6_pool_3 ⟨Nat.zero_le _, Nat.zero_le _⟩ ?_
  refine lv_if_eq (tgt := 16) hx hb dX6_pool_6 (by decide) (fun c_1 => ?_) (fun c_1 => ?_)
  · skip
    have c_1 : (wiB x 0 5) = false := bI_f c_1
    refine lv_iconst (v := (-1)) hx hb dX6_pool_16 (by decide) ?_
    have ew_2 : r_se = (if wiB x 0 5 && wiB v 0 9999 then upd r_se x.toNatClampNeg v else r_se) := by simp [c_1]
    have hP : va_P G vwCl [(o, .inr (6, fs_o)), (a_r, .inr (1, fs_r)), (a_r_se, .inl (cI, 6, .inl (if wiB x 0 5 && wiB v 0 9999 then upd r_se x.toNatClampNeg v else r_se)))] H := by rw [← ew_2]; exact hP
    exact retWi () hx hb hr (rfl) hlocks dX6_pool_17 hS (by simp [c_1]) hP
  · skip
    have c_1 : (wiB x 0 5) = true := bI_t c_1
    refine lv_iload_n hx hb dX6_pool_9 rfl (lv_at hl 2 rfl) ?_
    refine cRS (As := [.int v]) (rest := []) hx hb hml hown hts (c_X6_isPoolWater l G E cI cZ v) k_31_11 cal_X6_isPoolWater ⟨Nat.le_of_ble_eq_true rfl, Nat.le_of_ble_eq_true rfl⟩ hE hlow hS hK [0, 1] rfl hP [] rfl rfl hl.1 rfl (Nat.le_of_ble_eq_true rfl) dX6_pool_10 ⟨Nat.zero_le _, Nat.zero_le _⟩ ?_
    refine lv_if_ne (tgt := 18) hx hb dX6_pool_13 (by decide) (fun c_3 => ?_) (fun c_3 => ?_)
    · skip
      have c_3 : (wiB v 0 9999) = true := bI_t c_3
      obtain ⟨xn, hx9, hex, hcx⟩ := wiB_n (M := 5) (by omega) c_1
      have hl : lv_has ls 3 [(0, .ref o), (1, .int (nI xn)), (2, .int v)] := by rw [hex] at hl; exact hl
      refine lv_aload_n hx hb dX6_pool_18 rfl (lv_at hl 0 rfl) ?_
      refine va_get (D := G) (ci := 6) (v := .ref a_r) (C := RX6) (T := TX6) (N := 12) hx hb hts inlX6 hown hK hP 0 rfl rfl 8 (by decide) (hts (.fieldLink RX6 53 "EarthBanks" "reservoir" "LEarthBanks$Reservoir;") k_2_13) (fun _ h9 => h9) h_o_r dX6_pool_19 ?_
      refine lv_iload_n hx hb dX6_pool_22 rfl (lv_at hl 1 rfl) ?_
      refine lv_iload_n hx hb dX6_pool_23 rfl (lv_at hl 2 rfl) ?_
      refine cWVi (As := [.int (nI xn), .int v]) (rest := []) hx hb hml hown hts (c_X1_change l G E cI cZ xn v a_r a_r_se fs_r h_r_se r_se (by first | assumption | omega | simp [bI, c_1, c_3])) k_31_14 cal_X1_change ⟨Nat.le_of_ble_eq_true rfl, Nat.le_of_ble_eq_true rfl⟩ hE hA hlow hD hS hK [0, 1] rfl hP [1, 2] rfl (by decide) [a_r, a_r_se] rfl (fun _ => rfl) 1 1 rfl rfl rfl hl.1 rfl (Nat.le_of_ble_eq_true rfl) dX6_pool_24 ⟨Nat.zero_le _, Nat.zero_le _⟩ (fun r_ u H locs hr_ hP hD hS => ?_)
      subst hr_
      have hP : va_P G vwCl [(o, .inr (6, fs_o)), (a_r, .inr (1, fs_r)), (a_r_se, .inl (cI, 6, .inl (upd r_se xn v)))] H := hP
      have hD : va_D A [(o, .inr (6, fs_o)), (a_r, .inr (1, fs_r)), (a_r_se, .inl (cI, 6, .inl (upd r_se xn v)))] := hD
      have ew_4 : (upd r_se xn v) = (if wiB x 0 5 && wiB v 0 9999 then upd r_se x.toNatClampNeg v else r_se) := by simp [hcx, c_1, c_3]
      have hP : va_P G vwCl [(o, .inr (6, fs_o)), (a_r, .inr (1, fs_r)), (a_r_se, .inl (cI, 6, .inl (if wiB x 0 5 && wiB v 0 9999 then upd r_se x.toNatClampNeg v else r_se)))] H := by rw [← ew_4]; exact hP
      exact retWi () hx hb hr (rfl) hlocks dX6_pool_27 hS (by simp [hcx, c_1, c_3]) hP
    · skip
      have c_3 : (wiB v 0 9999) = false := bI_f c_3
      refine lv_iconst (v := (-1)) hx hb dX6_pool_16 (by decide) ?_
      have ew_5 : r_se = (if wiB x 0 5 && wiB v 0 9999 then upd r_se x.toNatClampNeg v else r_se) := by simp [c_1, c_3]
      have hP : va_P G vwCl [(o, .inr (6, fs_o)), (a_r, .inr (1, fs_r)), (a_r_se, .inl (cI, 6, .inl (if wiB x 0 5 && wiB v 0 9999 then upd r_se x.toNatClampNeg v else r_se)))] H := by rw [← ew_5]; exact hP
      exact retWi () hx hb hr (rfl) hlocks dX6_pool_17 hS (by simp [c_1, c_3]) hP
theorem cal_X6_flood : calV yX6_flood cX6_flood 3 (some .int) 2 := ⟨k_32_1, k_1_2, k_31_23, k_32_0, by decide +kernel⟩
set_option maxHeartbeats 4000000 in
set_option maxRecDepth 100000 in
theorem c_X6_flood (l : Launch) (G : va_G) (E : EvT) (cI cZ : ClassId) (hN : Nat → Nat) (x : Int32) (v : Int32) (o : Nat) (a_r : Nat) (a_r_wa : Nat) (a_r_ho : Nat) (fs_o : List Value) (h_o_r : fs_o[8]? = some (.ref a_r)) (fs_r : List Value) (h_r_ho : fs_r[2]? = some (.ref a_r_ho)) (h_r_wa : fs_r[1]? = some (.ref a_r_wa)) (r_wa : Nat → Int32) (r_ho : Nat → Int32) (hho : ∀ j, r_ho j = nI (hN j)) (hle : ∀ j, hN j ≤ 12) : cWi (S := Unit) l G E yX6_flood cX6_flood 3 (some .int) 3 [(cI, .int), (cZ, .boolean)] [.ref o, .int x, .int v] [(o, .inr (6, fs_o)), (a_r, .inr (1, fs_r)), (a_r_wa, .inl (cI, 96, .inl r_wa)), (a_r_ho, .inl (cI, 8, .inl r_ho))] (fun r _ => r = (if wiB x 0 7 && wiB v 0 999 then (if hN x.toNatClampNeg < 12 then nI (hN x.toNatClampNeg + 1) else (-3)) else (-1))) (fun _ => [(o, .inr (6, fs_o)), (a_r, .inr (1, fs_r)), (a_r_wa, .inl (cI, 96, .inl (if wiB x 0 7 && wiB v 0 999 then (if hN x.toNatClampNeg < 12 then upd r_wa (x.toNatClampNeg * 12 + hN x.toNatClampNeg) v else r_wa) else r_wa))), (a_r_ho, .inl (cI, 8, .inl (if wiB x 0 7 && wiB v 0 999 then (if hN x.toNatClampNeg < 12 then upd r_ho x.toNatClampNeg (nI (hN x.toNatClampNeg + 1)) else r_ho) else r_ho)))]) := by
  refine mkWi (by decide) (Nat.le_of_ble_eq_true rfl) ?_
  intro zp ze s zm args below meth zc hx hb hr hml hown hts hlocks hE hK A hA hlow H locs hP hD hS ls hl
  have hl : lv_has ls 3 [(0, .ref o), (1, .int x), (2, .int v)] := hl
  refine lv_iload_n hx hb dX6_flood_0 rfl (lv_at hl 1 rfl) ?_
  refine cRS (As := [.int x]) (rest := []) hx hb hml hown hts (c_X6_isFlood l G E cI cZ x) k_32_3 cal_X6_isFlood ⟨Nat.le_of_ble_eq_true rfl, Nat.le_of_ble_eq_true rfl⟩ hE hlow hS hK [0, 1] rfl hP [] rfl rfl hl.1 rfl (Nat.le_of_ble_eq_true rfl) dX6_flood_1 ⟨Nat.zero_le _, Nat.zero_le _⟩ ?_
  refine lv_if_eq (tgt := 18) hx hb dX6_flood_4 (by decide) (fun c_1 => ?_) (fun c_1 => ?_)
  · skip
    have c_1 : (wiB x 0 7) = false := bI_f c_1
    refine lv_iconst (v := (-1)) hx hb dX6_flood_18 (by decide) ?_
    have ew_2 : r_wa = (if wiB x 0 7 && wiB v 0 999 then (if hN x.toNatClampNeg < 12 then upd r_wa (x.toNatClampNeg * 12 + hN x.toNatClampNeg) v else r_wa) else r_wa) := by simp [c_1]
    have ew_3 : r_ho = (if wiB x 0 7 && wiB v 0 999 then (if hN x.toNatClampNeg < 12 then upd r_ho x.toNatClampNeg (nI (hN x.toNatClampNeg + 1)) else r_ho) else r_ho) := by simp [c_1]
    have hP : va_P G vwCl [(o, .inr (6, fs_o)), (a_r, .inr (1, fs_r)), (a_r_wa, .inl (cI, 96, .inl (if wiB x 0 7 && wiB v 0 999 then (if hN x.toNatClampNeg < 12 then upd r_wa (x.toNatClampNeg * 12 + hN x.toNatClampNeg) v else r_wa) else r_wa))), (a_r_ho, .inl (cI, 8, .inl (if wiB x 0 7 && wiB v 0 999 then (if hN x.toNatClampNeg < 12 then upd r_ho x.toNatClampNeg (nI (hN x.toNatClampNeg + 1)) else r_ho) else r_ho)))] H := by rw [← ew_2, ← ew_3]; exact hP
    exact retWi () hx hb hr (rfl) hlocks dX6_flood_19 hS (by simp [c_1]) hP
  · skip
    have c_1 : (wiB x 0 7) = true := bI_t c_1
    refine lv_iload_n hx hb dX6_flood_7 rfl (lv_at hl 2 rfl) ?_
    refine lv_iconst (v := 0) hx hb dX6_flood_8 (by decide) ?_
    refine lv_sipush (v := 999) hx hb dX6_flood_9 (by decide) ?_
    refine cRS (As := [.int v, .int 0, .int 999]) (rest := []) hx hb hml hown hts (c_X6_within l G E cI cZ v 0 999) k_7_8 cal_X6_within ⟨Nat.le_of_ble_eq_true rfl, Nat.le_of_ble_eq_true rfl⟩ hE hlow hS hK [0, 1] rfl hP [] rfl rfl hl.1 rfl (Nat.le_of_ble_eq_true rfl) dX6_flood_12 ⟨Nat.zero_le _, Nat.zero_le _⟩ ?_
    refine lv_if_ne (tgt := 20) hx hb dX6_flood_15 (by decide) (fun c_4 => ?_) (fun c_4 => ?_)
    · skip
      have c_4 : (wiB v 0 999) = true := bI_t c_4
      obtain ⟨xn, hx9, hex, hcx⟩ := wiB_n (M := 7) (by omega) c_1
      have hl : lv_has ls 3 [(0, .ref o), (1, .int (nI xn)), (2, .int v)] := by rw [hex] at hl; exact hl
      refine lv_aload_n hx hb dX6_flood_20 rfl (lv_at hl 0 rfl) ?_
      refine va_get (D := G) (ci := 6) (v := .ref a_r) (C := RX6) (T := TX6) (N := 12) hx hb hts inlX6 hown hK hP 0 rfl rfl 8 (by decide) (hts (.fieldLink RX6 53 "EarthBanks" "reservoir" "LEarthBanks$Reservoir;") k_2_13) (fun _ h9 => h9) h_o_r dX6_flood_21 ?_
      refine lv_iload_n hx hb dX6_flood_24 rfl (lv_at hl 1 rfl) ?_
      refine lv_iload_n hx hb dX6_flood_25 rfl (lv_at hl 2 rfl) ?_
      refine cWVi (As := [.int (nI xn), .int v]) (rest := []) hx hb hml hown hts (c_X1_addHour l G E cI cZ hN xn v a_r a_r_wa a_r_ho fs_r h_r_ho h_r_wa r_wa r_ho (by first | assumption | omega | simp [bI, c_1, c_4]) (hho) (hle)) k_32_6 cal_X1_addHour ⟨Nat.le_of_ble_eq_true rfl, Nat.le_of_ble_eq_true rfl⟩ hE hA hlow hD hS hK [0, 1] rfl hP [1, 2, 3] rfl (by decide) [a_r, a_r_wa, a_r_ho] rfl (fun _ => rfl) 1 1 rfl rfl rfl hl.1 rfl (Nat.le_of_ble_eq_true rfl) dX6_flood_26 ⟨Nat.zero_le _, Nat.zero_le _⟩ (fun r_ u H locs hr_ hP hD hS => ?_)
      subst hr_
      have hP : va_P G vwCl [(o, .inr (6, fs_o)), (a_r, .inr (1, fs_r)), (a_r_wa, .inl (cI, 96, .inl (if hN xn < 12 then upd r_wa (xn * 12 + hN xn) v else r_wa))), (a_r_ho, .inl (cI, 8, .inl (if hN xn < 12 then upd r_ho xn (nI (hN xn + 1)) else r_ho)))] H := hP
      have hD : va_D A [(o, .inr (6, fs_o)), (a_r, .inr (1, fs_r)), (a_r_wa, .inl (cI, 96, .inl (if hN xn < 12 then upd r_wa (xn * 12 + hN xn) v else r_wa))), (a_r_ho, .inl (cI, 8, .inl (if hN xn < 12 then upd r_ho xn (nI (hN xn + 1)) else r_ho)))] := hD
      refine lv_if_eq (tgt := 44) hx hb dX6_flood_29 (by decide) (fun c_5 => ?_) (fun c_5 => ?_)
      · skip
        have c_5 : ¬ (hN xn < 12) := of_decide_eq_false (bI_f c_5)
        refine lv_bipush (v := (-3)) hx hb dX6_flood_44 (by decide) ?_
        have ew_6 : (if hN xn < 12 then upd r_wa (xn * 12 + hN xn) v else r_wa) = (if wiB x 0 7 && wiB v 0 999 then (if hN x.toNatClampNeg < 12 then upd r_wa (x.toNatClampNeg * 12 + hN x.toNatClampNeg) v else r_wa) else r_wa) := by simp [hcx, c_1, c_4, c_5]
        have ew_7 : (if hN xn < 12 then upd r_ho xn (nI (hN xn + 1)) else r_ho) = (if wiB x 0 7 && wiB v 0 999 then (if hN x.toNatClampNeg < 12 then upd r_ho x.toNatClampNeg (nI (hN x.toNatClampNeg + 1)) else r_ho) else r_ho) := by simp [hcx, c_1, c_4, c_5]
        have hP : va_P G vwCl [(o, .inr (6, fs_o)), (a_r, .inr (1, fs_r)), (a_r_wa, .inl (cI, 96, .inl (if wiB x 0 7 && wiB v 0 999 then (if hN x.toNatClampNeg < 12 then upd r_wa (x.toNatClampNeg * 12 + hN x.toNatClampNeg) v else r_wa) else r_wa))), (a_r_ho, .inl (cI, 8, .inl (if wiB x 0 7 && wiB v 0 999 then (if hN x.toNatClampNeg < 12 then upd r_ho x.toNatClampNeg (nI (hN x.toNatClampNeg + 1)) else r_ho) else r_ho)))] H := by rw [← ew_6, ← ew_7]; exact hP
        exact retWi () hx hb hr (rfl) hlocks dX6_flood_46 hS (by simp [hcx, c_1, c_4, c_5]) hP
      · skip
        have c_5 : (hN xn < 12) := of_decide_eq_true (bI_t c_5)
        refine lv_aload_n hx hb dX6_flood_32 rfl (lv_at hl 0 rfl) ?_
        refine va_get (D := G) (ci := 6) (v := .ref a_r) (C := RX6) (T := TX6) (N := 12) hx hb hts inlX6 hown hK hP 0 rfl rfl 8 (by decide) (hts (.fieldLink RX6 53 "EarthBanks" "reservoir" "LEarthBanks$Reservoir;") k_2_13) (fun _ h9 => h9) h_o_r dX6_flood_33 ?_
        refine va_get (D := G) (ci := 1) (v := .ref a_r_ho) (C := RX1) (T := TX1) (N := 7) hx hb hts inlX1 hown hK hP 1 rfl rfl 2 (by decide) (hts (.fieldLink RX6 224 "EarthBanks$Reservoir" "hours" "[I") k_32_2) (fun _ h9 => h9) h_r_ho dX6_flood_36 ?_
        refine lv_iload_n hx hb dX6_flood_39 rfl (lv_at hl 1 rfl) ?_
        refine ialdN (j := xn) hx hb hK hP 3 0 rfl rfl (by omega) (by decide) dX6_flood_40 ?_
        refine top_eq (y := nI (hN xn + 1)) (by rw [if_pos c_5]; exact pk_us) ?_
        refine lv_goto (tgt := 46) hx hb dX6_flood_41 (by decide) ?_
        have ew_8 : (if hN xn < 12 then upd r_wa (xn * 12 + hN xn) v else r_wa) = (if wiB x 0 7 && wiB v 0 999 then (if hN x.toNatClampNeg < 12 then upd r_wa (x.toNatClampNeg * 12 + hN x.toNatClampNeg) v else r_wa) else r_wa) := by simp [hcx, c_1, c_4, c_5]
        have ew_9 : (if hN xn < 12 then upd r_ho xn (nI (hN xn + 1)) else r_ho) = (if wiB x 0 7 && wiB v 0 999 then (if hN x.toNatClampNeg < 12 then upd r_ho x.toNatClampNeg (nI (hN x.toNatClampNeg + 1)) else r_ho) else r_ho) := by simp [hcx, c_1, c_4, c_5]
        have hP : va_P G vwCl [(o, .inr (6, fs_o)), (a_r, .inr (1, fs_r)), (a_r_wa, .inl (cI, 96, .inl (if wiB x 0 7 && wiB v 0 999 then (if hN x.toNatClampNeg < 12 then upd r_wa (x.toNatClampNeg * 12 + hN x.toNatClampNeg) v else r_wa) else r_wa))), (a_r_ho, .inl (cI, 8, .inl (if wiB x 0 7 && wiB v 0 999 then (if hN x.toNatClampNeg < 12 then upd r_ho x.toNatClampNeg (nI (hN x.toNatClampNeg + 1)) else r_ho) else r_ho)))] H := by rw [← ew_8, ← ew_9]; exact hP
        exact retWi () hx hb hr (rfl) hlocks dX6_flood_46 hS (by simp [hcx, c_1, c_4, c_5]) hP
    · skip
      have c_4 : (wiB v 0 999) = false := bI_f c_4
      refine lv_iconst (v := (-1)) hx hb dX6_flood_18 (by decide) ?_
      have ew_10 : r_wa = (if wiB x 0 7 && wiB v 0 999 then (if hN x.toNatClampNeg < 12 then upd r_wa (x.toNatClampNeg * 12 + hN x.toNatClampNeg) v else r_wa) else r_wa) := by simp [c_1, c_4]
      have ew_11 : r_ho = (if wiB x 0 7 && wiB v 0 999 then (if hN x.toNatClampNeg < 12 then upd r_ho x.toNatClampNeg (nI (hN x.toNatClampNeg + 1)) else r_ho) else r_ho) := by simp [c_1, c_4]
      have hP : va_P G vwCl [(o, .inr (6, fs_o)), (a_r, .inr (1, fs_r)), (a_r_wa, .inl (cI, 96, .inl (if wiB x 0 7 && wiB v 0 999 then (if hN x.toNatClampNeg < 12 then upd r_wa (x.toNatClampNeg * 12 + hN x.toNatClampNeg) v else r_wa) else r_wa))), (a_r_ho, .inl (cI, 8, .inl (if wiB x 0 7 && wiB v 0 999 then (if hN x.toNatClampNeg < 12 then upd r_ho x.toNatClampNeg (nI (hN x.toNatClampNeg + 1)) else r_ho) else r_ho)))] H := by rw [← ew_10, ← ew_11]; exact hP
      exact retWi () hx hb hr (rfl) hlocks dX6_flood_19 hS (by simp [c_1, c_4]) hP
theorem cal_X6_ebb : calV yX6_ebb cX6_ebb 2 (some .int) 1 := ⟨k_32_17, k_1_2, k_32_15, k_32_16, by decide +kernel⟩
set_option maxHeartbeats 4000000 in
set_option maxRecDepth 100000 in
theorem c_X6_ebb (l : Launch) (G : va_G) (E : EvT) (cI cZ : ClassId) (x : Int32) (o : Nat) (a_r : Nat) (a_r_ho : Nat) (fs_o : List Value) (h_o_r : fs_o[8]? = some (.ref a_r)) (fs_r : List Value) (h_r_ho : fs_r[2]? = some (.ref a_r_ho)) (r_ho : Nat → Int32) : cWi (S := Unit) l G E yX6_ebb cX6_ebb 2 (some .int) 3 [(cI, .int), (cZ, .boolean)] [.ref o, .int x] [(o, .inr (6, fs_o)), (a_r, .inr (1, fs_r)), (a_r_ho, .inl (cI, 8, .inl r_ho))] (fun r _ => r = (if wiB x 0 7 then r_ho x.toNatClampNeg else (-1))) (fun _ => [(o, .inr (6, fs_o)), (a_r, .inr (1, fs_r)), (a_r_ho, .inl (cI, 8, .inl (if wiB x 0 7 then upd r_ho x.toNatClampNeg 0 else r_ho)))]) := by
  refine mkWi (by decide) (Nat.le_of_ble_eq_true rfl) ?_
  intro zp ze s zm args below meth zc hx hb hr hml hown hts hlocks hE hK A hA hlow H locs hP hD hS ls hl
  have hl : lv_has ls 2 [(0, .ref o), (1, .int x)] := hl
  refine lv_iload_n hx hb dX6_ebb_0 rfl (lv_at hl 1 rfl) ?_
  refine cRS (As := [.int x]) (rest := []) hx hb hml hown hts (c_X6_isFlood l G E cI cZ x) k_32_3 cal_X6_isFlood ⟨Nat.le_of_ble_eq_true rfl, Nat.le_of_ble_eq_true rfl⟩ hE hlow hS hK [0, 1] rfl hP [] rfl rfl hl.1 rfl (Nat.le_of_ble_eq_true rfl) dX6_ebb_1 ⟨Nat.zero_le _, Nat.zero_le _⟩ ?_
  refine lv_if_ne (tgt := 9) hx hb dX6_ebb_4 (by decide) (fun c_1 => ?_) (fun c_1 => ?_)
  · skip
    have c_1 : (wiB x 0 7) = true := bI_t c_1
    obtain ⟨xn, hx9, hex, hcx⟩ := wiB_n (M := 7) (by omega) c_1
    have hl : lv_has ls 2 [(0, .ref o), (1, .int (nI xn))] := by rw [hex] at hl; exact hl
    refine lv_aload_n hx hb dX6_ebb_9 rfl (lv_at hl 0 rfl) ?_
    refine va_get (D := G) (ci := 6) (v := .ref a_r) (C := RX6) (T := TX6) (N := 12) hx hb hts inlX6 hown hK hP 0 rfl rfl 8 (by decide) (hts (.fieldLink RX6 53 "EarthBanks" "reservoir" "LEarthBanks$Reservoir;") k_2_13) (fun _ h9 => h9) h_o_r dX6_ebb_10 ?_
    refine lv_iload_n hx hb dX6_ebb_13 rfl (lv_at hl 1 rfl) ?_
    refine cWVi (As := [.int (nI xn)]) (rest := []) hx hb hml hown hts (c_X1_emptyFlood l G E cI cZ xn a_r a_r_ho fs_r h_r_ho r_ho (by first | assumption | omega | simp [bI, c_1])) k_32_18 cal_X1_emptyFlood ⟨Nat.le_of_ble_eq_true rfl, Nat.le_of_ble_eq_true rfl⟩ hE hA hlow hD hS hK [0, 1] rfl hP [1, 2] rfl (by decide) [a_r, a_r_ho] rfl (fun _ => rfl) 1 1 rfl rfl rfl hl.1 rfl (Nat.le_of_ble_eq_true rfl) dX6_ebb_14 ⟨Nat.zero_le _, Nat.zero_le _⟩ (fun r_ u H locs hr_ hP hD hS => ?_)
    subst hr_
    have hP : va_P G vwCl [(o, .inr (6, fs_o)), (a_r, .inr (1, fs_r)), (a_r_ho, .inl (cI, 8, .inl (upd r_ho xn 0)))] H := hP
    have hD : va_D A [(o, .inr (6, fs_o)), (a_r, .inr (1, fs_r)), (a_r_ho, .inl (cI, 8, .inl (upd r_ho xn 0)))] := hD
    have ew_2 : (upd r_ho xn 0) = (if wiB x 0 7 then upd r_ho x.toNatClampNeg 0 else r_ho) := by simp [hcx, c_1]
    have hP : va_P G vwCl [(o, .inr (6, fs_o)), (a_r, .inr (1, fs_r)), (a_r_ho, .inl (cI, 8, .inl (if wiB x 0 7 then upd r_ho x.toNatClampNeg 0 else r_ho)))] H := by rw [← ew_2]; exact hP
    exact retWi () hx hb hr (rfl) hlocks dX6_ebb_17 hS (by simp [hcx, c_1]) hP
  · skip
    have c_1 : (wiB x 0 7) = false := bI_f c_1
    refine lv_iconst (v := (-1)) hx hb dX6_ebb_7 (by decide) ?_
    have ew_3 : r_ho = (if wiB x 0 7 then upd r_ho x.toNatClampNeg 0 else r_ho) := by simp [c_1]
    have hP : va_P G vwCl [(o, .inr (6, fs_o)), (a_r, .inr (1, fs_r)), (a_r_ho, .inl (cI, 8, .inl (if wiB x 0 7 then upd r_ho x.toNatClampNeg 0 else r_ho)))] H := by rw [← ew_3]; exact hP
    exact retWi () hx hb hr (rfl) hlocks dX6_ebb_8 hS (by simp [c_1]) hP
