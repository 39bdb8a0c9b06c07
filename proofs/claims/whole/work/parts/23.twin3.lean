def swN (zo go le : Nat → Int32) (la : Int32) (he : Nat → Int32) : Nat → Nat → Int32
  | 0 => he
  | k + 1 => swM zo go le la (swN zo go le la he k)
theorem l11 (tr : Int64) : tr + L11 = tr + L10 + 1 := by rw [Int64.add_assoc]; rfl
theorem l111 (tr : Int64) : tr + L111 = tr + L100 + L10 + 1 := by rw [Int64.add_assoc, Int64.add_assoc]; rfl
theorem l1011 (tr : Int64) : tr + L1011 = tr + L1000 + L10 + 1 := by rw [Int64.add_assoc, Int64.add_assoc]; rfl
theorem l10001 (tr : Int64) : tr + L10001 = tr + L10000 + 1 := by rw [Int64.add_assoc]; rfl
theorem cal_X7_cell : calV yX7_cell cX7_cell 5 (some .int) 3 := ⟨k_17_3, k_1_5, k_17_1, k_17_2, by decide +kernel⟩
set_option maxHeartbeats 4000000 in
set_option maxRecDepth 100000 in
theorem c_X7_cell (l : Launch) (G : va_G) (E : EvT) (cI cZ : ClassId) (zo : Nat → Int32) (he : Nat → Int32) (go : Nat → Int32) (le : Nat → Int32) (hd : Nat → Int32) (gn : Nat → Int32) (la : Int32) (x : Int32) (y : Int32) (wh : Int32) (o : Nat) (a_S : Nat) (a_K : Nat) (a_IK : Nat) (a_SV : Nat) (a_DR : Nat) (a_TX : Nat) (a_WY : Nat) (a_BE : Nat) (a_MO : Nat) (a_DY : Nat) (a_PO : Nat) (a_HO : Nat) (a_WA : Nat) (a_GA : Nat) (a_CA : Nat) (a_MT : Nat) (a_LW : Nat) (a_WK : Nat) (th : Int32) (tr : Int64) (td : Int32) (nx : Int32) (tk : Int32) (pc : Int32) (vl : Int32) (fa : Int32) (ff : Int32) (bf : Int32) (bm : Int32) (bl : Int32) (ng : Int32) (nc : Int32) (sl : Int32) (nw : Int32) (pe : Int32) (pv : Int32) (pt : Int32) (pu : Int32) : cWi (S := Unit) l G E yX7_cell cX7_cell 5 (some .int) 8 [(cI, .int), (cZ, .boolean)] [.ref o, .int x, .int y, .int wh] [(o, .inr (7, [.int th, .long tr, .ref a_S, .ref a_K, .ref a_IK, .ref a_SV, .ref a_DR, .ref a_TX, .int td, .int nx, .int tk, .int pc, .int vl, .int fa, .int ff, .ref a_WY, .ref a_BE, .int bf, .int bm, .int bl, .ref a_MO, .ref a_DY, .ref a_PO, .ref a_HO, .ref a_WA, .int ng, .ref a_GA, .int nc, .ref a_CA, .int sl, .ref a_MT, .ref a_LW, .int nw, .ref a_WK, .int pe, .int pv, .int pt, .int pu])), (a_S, .inl (cI, 163, .inl (ms zo he go le hd gn la)))] (fun r _ => r = cellS zo he go x y wh) (fun _ => [(o, .inr (7, [.int 0, .long tr, .ref a_S, .ref a_K, .ref a_IK, .ref a_SV, .ref a_DR, .ref a_TX, .int td, .int nx, .int tk, .int pc, .int vl, .int fa, .int ff, .ref a_WY, .ref a_BE, .int bf, .int bm, .int bl, .ref a_MO, .ref a_DY, .ref a_PO, .ref a_HO, .ref a_WA, .int ng, .ref a_GA, .int nc, .ref a_CA, .int sl, .ref a_MT, .ref a_LW, .int nw, .ref a_WK, .int pe, .int pv, .int pt, .int pu])), (a_S, .inl (cI, 163, .inl (ms zo he go le hd gn la)))]) := by
  refine mkWi (by decide) (Nat.le_of_ble_eq_true rfl) ?_
  intro zp ze s zm args below meth zc hx hb hr hml hown hts hlocks hE hK A hA hlow H locs hP hD hS ls hl
  have hl : lv_has ls 5 [(0, .ref o), (1, .int x), (2, .int y), (3, .int wh)] := hl
  refine lv_aload_n hx hb dX7_cell_0 rfl (lv_at hl 0 rfl) ?_
  refine lv_iconst (v := 0) hx hb dX7_cell_1 (by decide) ?_
  refine va_put (D := G) (ci := 7) (v := .int 0) (ty := .int) (C := RX7) (T := TX7) (N := 38) hx hb hts inlX7 tyX7 tyX7_ok nmX7 hown hK hP hD hS 0 rfl rfl 0 (by decide) (hts (.fieldLink RX7 75 "EarthBanksModel" "thrown" "I") k_7_19) (fun _ h9 => h9) rfl (by decide +kernel) (rfl) (rfl) (Nat.le_of_ble_eq_true rfl) dX7_cell_2 (fun H locs hP hD hS => ?_)
  have hP : va_P G vwCl [(o, .inr (7, [.int 0, .long tr, .ref a_S, .ref a_K, .ref a_IK, .ref a_SV, .ref a_DR, .ref a_TX, .int td, .int nx, .int tk, .int pc, .int vl, .int fa, .int ff, .ref a_WY, .ref a_BE, .int bf, .int bm, .int bl, .ref a_MO, .ref a_DY, .ref a_PO, .ref a_HO, .ref a_WA, .int ng, .ref a_GA, .int nc, .ref a_CA, .int sl, .ref a_MT, .ref a_LW, .int nw, .ref a_WK, .int pe, .int pv, .int pt, .int pu])), (a_S, .inl (cI, 163, .inl (ms zo he go le hd gn la)))] H := hP
  have hD : va_D A [(o, .inr (7, [.int 0, .long tr, .ref a_S, .ref a_K, .ref a_IK, .ref a_SV, .ref a_DR, .ref a_TX, .int td, .int nx, .int tk, .int pc, .int vl, .int fa, .int ff, .ref a_WY, .ref a_BE, .int bf, .int bm, .int bl, .ref a_MO, .ref a_DY, .ref a_PO, .ref a_HO, .ref a_WA, .int ng, .ref a_GA, .int nc, .ref a_CA, .int sl, .ref a_MT, .ref a_LW, .int nw, .ref a_WK, .int pe, .int pv, .int pt, .int pu])), (a_S, .inl (cI, 163, .inl (ms zo he go le hd gn la)))] := hD
  refine lv_iload_n hx hb dX7_cell_5 rfl (lv_at hl 1 rfl) ?_
  refine lv_iload_n hx hb dX7_cell_6 rfl (lv_at hl 2 rfl) ?_
  refine cRS (As := [.int x, .int y]) (rest := []) hx hb hml hown hts (c_X7_isCell l G E cI cZ x y) k_17_4 cal_X7_isCell ⟨Nat.le_of_ble_eq_true rfl, Nat.le_of_ble_eq_true rfl⟩ hE hlow hS hK [0, 1] rfl hP [] rfl rfl hl.1 rfl (Nat.le_of_ble_eq_true rfl) dX7_cell_7 ⟨Nat.zero_le _, Nat.zero_le _⟩ ?_
  refine lv_if_eq (tgt := 22) hx hb dX7_cell_10 (by decide) (fun c_1 => ?_) (fun c_1 => ?_)
  · skip
    have c_1 : (inC x y) = false := bI_f c_1
    refine lv_iconst (v := (-1)) hx hb dX7_cell_22 (by decide) ?_
    exact retWi () hx hb hr (rfl) hlocks dX7_cell_23 hS (by simp [cellS, mzS, c_1]) hP
  · skip
    have c_1 : (inC x y) = true := bI_t c_1
    refine lv_iload_n hx hb dX7_cell_13 rfl (lv_at hl 3 rfl) ?_
    refine lv_iconst (v := 0) hx hb dX7_cell_14 (by decide) ?_
    refine lv_iconst (v := 3) hx hb dX7_cell_15 (by decide) ?_
    refine cRS (As := [.int wh, .int 0, .int 3]) (rest := []) hx hb hml hown hts (c_X7_in l G E cI cZ wh 0 3) k_7_22 cal_X7_in ⟨Nat.le_of_ble_eq_true rfl, Nat.le_of_ble_eq_true rfl⟩ hE hlow hS hK [0, 1] rfl hP [] rfl rfl hl.1 rfl (Nat.le_of_ble_eq_true rfl) dX7_cell_16 ⟨Nat.zero_le _, Nat.zero_le _⟩ ?_
    refine lv_if_ne (tgt := 24) hx hb dX7_cell_19 (by decide) (fun c_2 => ?_) (fun c_2 => ?_)
    · skip
      have c_2 : (wiB wh 0 3) = true := bI_t c_2
      obtain ⟨xn, yn, hxn, hyn, hex, hey, hcx, hcy⟩ := inC_n c_1
      have hl : lv_has ls 5 [(0, .ref o), (1, .int (nI xn)), (2, .int y), (3, .int wh)] := by rw [hex] at hl; exact hl
      have hl : lv_has ls 5 [(0, .ref o), (1, .int (nI xn)), (2, .int (nI yn)), (3, .int wh)] := by rw [hey] at hl; exact hl
      have hpl : plc x y = 8 * yn + xn := by rw [plc, hcx, hcy]
      have hdv : (8 * yn + xn) / 8 = yn := by omega
      refine lv_bipush (v := 8) hx hb dX7_cell_24 (by decide) ?_
      refine lv_iload_n hx hb dX7_cell_26 rfl (lv_at hl 2 rfl) ?_
      refine lv_imul hx hb dX7_cell_27 ?_
      refine top_eq (y := nI (8 * yn)) (pk_mul _ _) ?_
      refine lv_iload_n hx hb dX7_cell_28 rfl (lv_at hl 1 rfl) ?_
      refine lv_iadd hx hb dX7_cell_29 ?_
      refine top_eq (y := nI ((8 * yn) + xn)) (nI_add _ _) ?_
      refine lv_istore (lv' := [(4, .int (nI ((8 * yn) + xn))), (0, .ref o), (1, .int (nI xn)), (2, .int (nI yn)), (3, .int wh)]) hx hb dX7_cell_30 hl (by decide) rfl (fun ls hl => ?_)
      refine lv_iload_n hx hb dX7_cell_32 rfl (lv_at hl 4 rfl) ?_
      refine lv_if_ne (tgt := 46) hx hb dX7_cell_33 (by decide) (fun c_3 => ?_) (fun c_3 => ?_)
      · skip
        refine lv_aload_n hx hb dX7_cell_46 rfl (lv_at hl 1 rfl) ?_
        refine va_get (D := G) (ci := 7) (v := .ref a_S) (C := RX7) (T := TX7) (N := 38) hx hb hts inlX7 hown hK hP 0 rfl rfl 2 (by decide) (hts (.fieldLink RX7 7 "EarthBanksModel" "s" "[I") k_6_2) (fun _ h9 => h9) rfl dX7_cell_47 ?_
        refine lv_iconst (v := 0) hx hb dX7_cell_50 (by decide) ?_
        refine lv_iload hx hb dX7_cell_51 (lv_at hl 0 rfl) ?_
        refine lv_iadd hx hb dX7_cell_53 ?_
        refine top_eq (y := nI (0 + ((8 * yn) + xn))) (nI_add _ _) ?_
        refine ialdN (j := (0 + ((8 * yn) + xn))) hx hb hK hP 1 0 rfl rfl (by omega) (by decide) dX7_cell_54 ?_
        refine top_eq (y := (mzS zo ((8 * yn) + xn))) (ms_z (c := ((8 * yn) + xn)) (by omega) (by omega)) ?_
        refine lv_bipush (v := (-9)) hx hb dX7_cell_55 (by decide) ?_
        refine lv_icmp_ne (tgt := 63) hx hb dX7_cell_57 (by decide) (fun c_4 => ?_) (fun c_4 => ?_)
        · skip
          have c_4 : isAirS zo ((8 * yn) + xn) = false := mz_f c_4
          refine lv_iload_n hx hb dX7_cell_63 rfl (lv_at hl 4 rfl) ?_
          refine lv_iconst (v := 1) hx hb dX7_cell_64 (by decide) ?_
          refine lv_icmp_ne (tgt := 81) hx hb dX7_cell_65 (by decide) (fun c_5 => ?_) (fun c_5 => ?_)
          · skip
            refine lv_iload_n hx hb dX7_cell_81 rfl (lv_at hl 4 rfl) ?_
            refine lv_iconst (v := 2) hx hb dX7_cell_82 (by decide) ?_
            refine lv_icmp_ne (tgt := 95) hx hb dX7_cell_83 (by decide) (fun c_6 => ?_) (fun c_6 => ?_)
            · skip
              refine lv_aload_n hx hb dX7_cell_95 rfl (lv_at hl 1 rfl) ?_
              refine va_get (D := G) (ci := 7) (v := .ref a_S) (C := RX7) (T := TX7) (N := 38) hx hb hts inlX7 hown hK hP 0 rfl rfl 2 (by decide) (hts (.fieldLink RX7 7 "EarthBanksModel" "s" "[I") k_6_2) (fun _ h9 => h9) rfl dX7_cell_96 ?_
              refine lv_bipush (v := 96) hx hb dX7_cell_99 (by decide) ?_
              refine lv_iload hx hb dX7_cell_101 (lv_at hl 0 rfl) ?_
              refine lv_iadd hx hb dX7_cell_103 ?_
              refine top_eq (y := nI (96 + ((8 * yn) + xn))) (nI_add _ _) ?_
              refine ialdN (j := (96 + ((8 * yn) + xn))) hx hb hK hP 1 0 rfl rfl (by omega) (by decide) dX7_cell_104 ?_
              refine top_eq (y := (go ((8 * yn) + xn))) (ms_g (c := ((8 * yn) + xn)) (by omega) (by omega)) ?_
              exact retWi () hx hb hr (rfl) hlocks dX7_cell_105 hS (by simp [cellS, mzS, hpl, c_1, c_2, c_3, c_4, c_5, c_6]) hP
            · skip
              refine lv_aload_n hx hb dX7_cell_86 rfl (lv_at hl 1 rfl) ?_
              refine lv_iload hx hb dX7_cell_87 (lv_at hl 0 rfl) ?_
              refine cRV (As := [.int (nI ((8 * yn) + xn))]) (rest := []) hx hb hml hown hts (c_X7_pushOf l G E cI cZ zo he go le hd gn la ((8 * yn) + xn) o a_S [.int 0, .long tr, .ref a_S, .ref a_K, .ref a_IK, .ref a_SV, .ref a_DR, .ref a_TX, .int td, .int nx, .int tk, .int pc, .int vl, .int fa, .int ff, .ref a_WY, .ref a_BE, .int bf, .int bm, .int bl, .ref a_MO, .ref a_DY, .ref a_PO, .ref a_HO, .ref a_WA, .int ng, .ref a_GA, .int nc, .ref a_CA, .int sl, .ref a_MT, .ref a_LW, .int nw, .ref a_WK, .int pe, .int pv, .int pt, .int pu] rfl (by first | assumption | omega | simp [bI, c_1, c_2, c_3, c_4, c_5, c_6])) k_17_7 cal_X7_pushOf ⟨Nat.le_of_ble_eq_true rfl, Nat.le_of_ble_eq_true rfl⟩ hE hlow hS hK [0, 1] rfl hP [0, 1] rfl 0 7 rfl rfl rfl hl.1 rfl (Nat.le_of_ble_eq_true rfl) dX7_cell_89 ⟨Nat.zero_le _, Nat.zero_le _⟩ ?_
              refine lv_goto (tgt := 105) hx hb dX7_cell_92 (by decide) ?_
              exact retWi () hx hb hr (rfl) hlocks dX7_cell_105 hS (by simp [cellS, mzS, hpl, c_1, c_2, c_3, c_4, c_5, eq_true c_6]) hP
          · skip
            refine lv_aload_n hx hb dX7_cell_68 rfl (lv_at hl 1 rfl) ?_
            refine va_get (D := G) (ci := 7) (v := .ref a_S) (C := RX7) (T := TX7) (N := 38) hx hb hts inlX7 hown hK hP 0 rfl rfl 2 (by decide) (hts (.fieldLink RX7 7 "EarthBanksModel" "s" "[I") k_6_2) (fun _ h9 => h9) rfl dX7_cell_69 ?_
            refine lv_bipush (v := 48) hx hb dX7_cell_72 (by decide) ?_
            refine lv_iload hx hb dX7_cell_74 (lv_at hl 0 rfl) ?_
            refine lv_iadd hx hb dX7_cell_76 ?_
            refine top_eq (y := nI (48 + ((8 * yn) + xn))) (nI_add _ _) ?_
            refine ialdN (j := (48 + ((8 * yn) + xn))) hx hb hK hP 1 0 rfl rfl (by omega) (by decide) dX7_cell_77 ?_
            refine top_eq (y := (he ((8 * yn) + xn))) (ms_h (c := ((8 * yn) + xn)) (by omega) (by omega)) ?_
            refine lv_goto (tgt := 105) hx hb dX7_cell_78 (by decide) ?_
            exact retWi () hx hb hr (rfl) hlocks dX7_cell_105 hS (by simp [cellS, mzS, hpl, c_1, c_2, c_3, c_4, eq_true c_5]) hP
        · skip
          have c_4 : isAirS zo ((8 * yn) + xn) = true := mz_t c_4
          refine lv_bipush (v := (-2)) hx hb dX7_cell_60 (by decide) ?_
          exact retWi () hx hb hr (rfl) hlocks dX7_cell_62 hS (by simp [cellS, mzS, hpl, c_1, c_2, c_3, c_4]) hP
      · skip
        refine lv_aload_n hx hb dX7_cell_36 rfl (lv_at hl 1 rfl) ?_
        refine va_get (D := G) (ci := 7) (v := .ref a_S) (C := RX7) (T := TX7) (N := 38) hx hb hts inlX7 hown hK hP 0 rfl rfl 2 (by decide) (hts (.fieldLink RX7 7 "EarthBanksModel" "s" "[I") k_6_2) (fun _ h9 => h9) rfl dX7_cell_37 ?_
        refine lv_iconst (v := 0) hx hb dX7_cell_40 (by decide) ?_
        refine lv_iload hx hb dX7_cell_41 (lv_at hl 0 rfl) ?_
        refine lv_iadd hx hb dX7_cell_43 ?_
        refine top_eq (y := nI (0 + ((8 * yn) + xn))) (nI_add _ _) ?_
        refine ialdN (j := (0 + ((8 * yn) + xn))) hx hb hK hP 1 0 rfl rfl (by omega) (by decide) dX7_cell_44 ?_
        refine top_eq (y := (mzS zo ((8 * yn) + xn))) (ms_z (c := ((8 * yn) + xn)) (by omega) (by omega)) ?_
        exact retWi () hx hb hr (rfl) hlocks dX7_cell_45 hS (by simp [cellS, mzS, hpl, c_1, c_2, eq_true c_3]) hP
    · skip
      have c_2 : (wiB wh 0 3) = false := bI_f c_2
      refine lv_iconst (v := (-1)) hx hb dX7_cell_22 (by decide) ?_
      exact retWi () hx hb hr (rfl) hlocks dX7_cell_23 hS (by simp [cellS, mzS, c_1, c_2]) hP
theorem cal_X7_zone : calV yX7_zone cX7_zone 6 (some .int) 3 := ⟨k_18_1, k_1_5, k_17_23, k_18_0, by decide +kernel⟩
set_option maxHeartbeats 4000000 in
set_option maxRecDepth 100000 in
theorem c_X7_zone (l : Launch) (G : va_G) (E : EvT) (cI cZ : ClassId) (zo : Nat → Int32) (he : Nat → Int32) (go : Nat → Int32) (le : Nat → Int32) (hd : Nat → Int32) (gn : Nat → Int32) (la : Int32) (z : Int32) (wh : Int32) (v : Int32) (o : Nat) (a_S : Nat) (a_K : Nat) (a_IK : Nat) (a_SV : Nat) (a_DR : Nat) (a_TX : Nat) (a_WY : Nat) (a_BE : Nat) (a_MO : Nat) (a_DY : Nat) (a_PO : Nat) (a_HO : Nat) (a_WA : Nat) (a_GA : Nat) (a_CA : Nat) (a_MT : Nat) (a_LW : Nat) (a_WK : Nat) (th : Int32) (tr : Int64) (td : Int32) (nx : Int32) (tk : Int32) (pc : Int32) (vl : Int32) (fa : Int32) (ff : Int32) (bf : Int32) (bm : Int32) (bl : Int32) (ng : Int32) (nc : Int32) (sl : Int32) (nw : Int32) (pe : Int32) (pv : Int32) (pt : Int32) (pu : Int32) : cWi (S := Unit) l G E yX7_zone cX7_zone 6 (some .int) 8 [(cI, .int), (cZ, .boolean)] [.ref o, .int z, .int wh, .int v] [(o, .inr (7, [.int th, .long tr, .ref a_S, .ref a_K, .ref a_IK, .ref a_SV, .ref a_DR, .ref a_TX, .int td, .int nx, .int tk, .int pc, .int vl, .int fa, .int ff, .ref a_WY, .ref a_BE, .int bf, .int bm, .int bl, .ref a_MO, .ref a_DY, .ref a_PO, .ref a_HO, .ref a_WA, .int ng, .ref a_GA, .int nc, .ref a_CA, .int sl, .ref a_MT, .ref a_LW, .int nw, .ref a_WK, .int pe, .int pv, .int pt, .int pu])), (a_S, .inl (cI, 163, .inl (ms zo he go le hd gn la)))] (fun r _ => r = zoneS le hd gn z wh v) (fun _ => [(o, .inr (7, [.int 0, .long tr, .ref a_S, .ref a_K, .ref a_IK, .ref a_SV, .ref a_DR, .ref a_TX, .int td, .int nx, .int tk, .int pc, .int vl, .int fa, .int ff, .ref a_WY, .ref a_BE, .int bf, .int bm, .int bl, .ref a_MO, .ref a_DY, .ref a_PO, .ref a_HO, .ref a_WA, .int ng, .ref a_GA, .int nc, .ref a_CA, .int sl, .ref a_MT, .ref a_LW, .int nw, .ref a_WK, .int pe, .int pv, .int pt, .int pu])), (a_S, .inl (cI, 163, .inl (ms zo he go (zupS le z wh v 0 (decide (wh = 0))) (zupS hd z wh v 0 (!decide (wh = 0) && decide (wh = 1))) (zupS gn z wh v 0 (!decide (wh = 0) && !decide (wh = 1))) la)))]) := by
  refine mkWi (by decide) (Nat.le_of_ble_eq_true rfl) ?_
  intro zp ze s zm args below meth zc hx hb hr hml hown hts hlocks hE hK A hA hlow H locs hP hD hS ls hl
  have hl : lv_has ls 6 [(0, .ref o), (1, .int z), (2, .int wh), (3, .int v)] := hl
  refine lv_aload_n hx hb dX7_zone_0 rfl (lv_at hl 0 rfl) ?_
  refine lv_iconst (v := 0) hx hb dX7_zone_1 (by decide) ?_
  refine va_put (D := G) (ci := 7) (v := .int 0) (ty := .int) (C := RX7) (T := TX7) (N := 38) hx hb hts inlX7 tyX7 tyX7_ok nmX7 hown hK hP hD hS 0 rfl rfl 0 (by decide) (hts (.fieldLink RX7 75 "EarthBanksModel" "thrown" "I") k_7_19) (fun _ h9 => h9) rfl (by decide +kernel) (rfl) (rfl) (Nat.le_of_ble_eq_true rfl) dX7_zone_2 (fun H locs hP hD hS => ?_)
  have hP : va_P G vwCl [(o, .inr (7, [.int 0, .long tr, .ref a_S, .ref a_K, .ref a_IK, .ref a_SV, .ref a_DR, .ref a_TX, .int td, .int nx, .int tk, .int pc, .int vl, .int fa, .int ff, .ref a_WY, .ref a_BE, .int bf, .int bm, .int bl, .ref a_MO, .ref a_DY, .ref a_PO, .ref a_HO, .ref a_WA, .int ng, .ref a_GA, .int nc, .ref a_CA, .int sl, .ref a_MT, .ref a_LW, .int nw, .ref a_WK, .int pe, .int pv, .int pt, .int pu])), (a_S, .inl (cI, 163, .inl (ms zo he go le hd gn la)))] H := hP
  have hD : va_D A [(o, .inr (7, [.int 0, .long tr, .ref a_S, .ref a_K, .ref a_IK, .ref a_SV, .ref a_DR, .ref a_TX, .int td, .int nx, .int tk, .int pc, .int vl, .int fa, .int ff, .ref a_WY, .ref a_BE, .int bf, .int bm, .int bl, .ref a_MO, .ref a_DY, .ref a_PO, .ref a_HO, .ref a_WA, .int ng, .ref a_GA, .int nc, .ref a_CA, .int sl, .ref a_MT, .ref a_LW, .int nw, .ref a_WK, .int pe, .int pv, .int pt, .int pu])), (a_S, .inl (cI, 163, .inl (ms zo he go le hd gn la)))] := hD
  refine lv_iload_n hx hb dX7_zone_5 rfl (lv_at hl 1 rfl) ?_
  refine lv_iconst (v := 0) hx hb dX7_zone_6 (by decide) ?_
  refine lv_iconst (v := 5) hx hb dX7_zone_7 (by decide) ?_
  refine cRS (As := [.int z, .int 0, .int 5]) (rest := []) hx hb hml hown hts (c_X7_in l G E cI cZ z 0 5) k_7_22 cal_X7_in ⟨Nat.le_of_ble_eq_true rfl, Nat.le_of_ble_eq_true rfl⟩ hE hlow hS hK [0, 1] rfl hP [] rfl rfl hl.1 rfl (Nat.le_of_ble_eq_true rfl) dX7_zone_8 ⟨Nat.zero_le _, Nat.zero_le _⟩ ?_
  refine lv_if_eq (tgt := 33) hx hb dX7_zone_11 (by decide) (fun c_1 => ?_) (fun c_1 => ?_)
  · skip
    have c_1 : (wiB z 0 5) = false := bI_f c_1
    refine lv_iconst (v := (-1)) hx hb dX7_zone_33 (by decide) ?_
    have ew_2 : (ms zo he go le hd gn la) = (ms zo he go (zupS le z wh v 0 (decide (wh = 0))) (zupS hd z wh v 0 (!decide (wh = 0) && decide (wh = 1))) (zupS gn z wh v 0 (!decide (wh = 0) && !decide (wh = 1))) la) := by simp [zupS, zvB, c_1]
    have hP : va_P G vwCl [(o, .inr (7, [.int 0, .long tr, .ref a_S, .ref a_K, .ref a_IK, .ref a_SV, .ref a_DR, .ref a_TX, .int td, .int nx, .int tk, .int pc, .int vl, .int fa, .int ff, .ref a_WY, .ref a_BE, .int bf, .int bm, .int bl, .ref a_MO, .ref a_DY, .ref a_PO, .ref a_HO, .ref a_WA, .int ng, .ref a_GA, .int nc, .ref a_CA, .int sl, .ref a_MT, .ref a_LW, .int nw, .ref a_WK, .int pe, .int pv, .int pt, .int pu])), (a_S, .inl (cI, 163, .inl (ms zo he go (zupS le z wh v 0 (decide (wh = 0))) (zupS hd z wh v 0 (!decide (wh = 0) && decide (wh = 1))) (zupS gn z wh v 0 (!decide (wh = 0) && !decide (wh = 1))) la)))] H := by rw [← ew_2]; exact hP
    exact retWi () hx hb hr (rfl) hlocks dX7_zone_34 hS (by simp [zoneS, zvB, c_1]) hP
  · skip
    have c_1 : (wiB z 0 5) = true := bI_t c_1
    refine lv_iload_n hx hb dX7_zone_14 rfl (lv_at hl 2 rfl) ?_
    refine lv_iconst (v := 0) hx hb dX7_zone_15 (by decide) ?_
    refine lv_iconst (v := 2) hx hb dX7_zone_16 (by decide) ?_
    refine cRS (As := [.int wh, .int 0, .int 2]) (rest := []) hx hb hml hown hts (c_X7_in l G E cI cZ wh 0 2) k_7_22 cal_X7_in ⟨Nat.le_of_ble_eq_true rfl, Nat.le_of_ble_eq_true rfl⟩ hE hlow hS hK [0, 1] rfl hP [] rfl rfl hl.1 rfl (Nat.le_of_ble_eq_true rfl) dX7_zone_17 ⟨Nat.zero_le _, Nat.zero_le _⟩ ?_
    refine lv_if_eq (tgt := 33) hx hb dX7_zone_20 (by decide) (fun c_3 => ?_) (fun c_3 => ?_)
    · skip
      have c_3 : (wiB wh 0 2) = false := bI_f c_3
      refine lv_iconst (v := (-1)) hx hb dX7_zone_33 (by decide) ?_
      have ew_4 : (ms zo he go le hd gn la) = (ms zo he go (zupS le z wh v 0 (decide (wh = 0))) (zupS hd z wh v 0 (!decide (wh = 0) && decide (wh = 1))) (zupS gn z wh v 0 (!decide (wh = 0) && !decide (wh = 1))) la) := by simp [zupS, zvB, c_1, c_3]
      have hP : va_P G vwCl [(o, .inr (7, [.int 0, .long tr, .ref a_S, .ref a_K, .ref a_IK, .ref a_SV, .ref a_DR, .ref a_TX, .int td, .int nx, .int tk, .int pc, .int vl, .int fa, .int ff, .ref a_WY, .ref a_BE, .int bf, .int bm, .int bl, .ref a_MO, .ref a_DY, .ref a_PO, .ref a_HO, .ref a_WA, .int ng, .ref a_GA, .int nc, .ref a_CA, .int sl, .ref a_MT, .ref a_LW, .int nw, .ref a_WK, .int pe, .int pv, .int pt, .int pu])), (a_S, .inl (cI, 163, .inl (ms zo he go (zupS le z wh v 0 (decide (wh = 0))) (zupS hd z wh v 0 (!decide (wh = 0) && decide (wh = 1))) (zupS gn z wh v 0 (!decide (wh = 0) && !decide (wh = 1))) la)))] H := by rw [← ew_4]; exact hP
      exact retWi () hx hb hr (rfl) hlocks dX7_zone_34 hS (by simp [zoneS, zvB, c_1, c_3]) hP
    · skip
      have c_3 : (wiB wh 0 2) = true := bI_t c_3
      refine lv_iload_n hx hb dX7_zone_23 rfl (lv_at hl 3 rfl) ?_
      refine lv_iconst (v := 1) hx hb dX7_zone_24 (by decide) ?_
      refine lv_bipush (v := 99) hx hb dX7_zone_25 (by decide) ?_
      refine cRS (As := [.int v, .int 1, .int 99]) (rest := []) hx hb hml hown hts (c_X7_in l G E cI cZ v 1 99) k_7_22 cal_X7_in ⟨Nat.le_of_ble_eq_true rfl, Nat.le_of_ble_eq_true rfl⟩ hE hlow hS hK [0, 1] rfl hP [] rfl rfl hl.1 rfl (Nat.le_of_ble_eq_true rfl) dX7_zone_27 ⟨Nat.zero_le _, Nat.zero_le _⟩ ?_
      refine lv_if_ne (tgt := 35) hx hb dX7_zone_30 (by decide) (fun c_5 => ?_) (fun c_5 => ?_)
      · skip
        have c_5 : (wiB v 1 99) = true := bI_t c_5
        obtain ⟨zn, hz9, hez, hcz⟩ := wiB_n (M := 5) (by omega) c_1
        have hl : lv_has ls 6 [(0, .ref o), (1, .int (nI zn)), (2, .int wh), (3, .int v)] := by rw [hez] at hl; exact hl
        obtain ⟨wn, hw9, hew, hcw⟩ := wiB_n (M := 2) (by omega) c_3
        rcases (show wn = 0 ∨ wn = 1 ∨ wn = 2 by omega) with hd9 | hd9 | hd9
        · skip
          subst hd9
          have hwe : wh = 0 := hew
          have hl : lv_has ls 6 [(0, .ref o), (1, .int (nI zn)), (2, .int 0), (3, .int v)] := by rw [hwe] at hl; exact hl
          have hw1 : (wh = 0) = True := eq_true hwe
          refine lv_sipush (v := 144) hx hb dX7_zone_35 (by decide) ?_
          refine lv_bipush (v := 6) hx hb dX7_zone_38 (by decide) ?_
          refine lv_iload_n hx hb dX7_zone_40 rfl (lv_at hl 2 rfl) ?_
          refine lv_imul hx hb dX7_zone_41 ?_
          refine top_eq (y := nI (6 * 0)) (pk_mul _ _) ?_
          refine lv_iadd hx hb dX7_zone_42 ?_
          refine top_eq (y := nI (144 + (6 * 0))) (nI_add _ _) ?_
          refine lv_iload_n hx hb dX7_zone_43 rfl (lv_at hl 1 rfl) ?_
          refine lv_iadd hx hb dX7_zone_44 ?_
          refine top_eq (y := nI ((144 + (6 * 0)) + zn)) (nI_add _ _) ?_
          refine lv_istore (lv' := [(4, .int (nI ((144 + (6 * 0)) + zn))), (0, .ref o), (1, .int (nI zn)), (2, .int 0), (3, .int v)]) hx hb dX7_zone_45 hl (by decide) rfl (fun ls hl => ?_)
          refine lv_aload_n hx hb dX7_zone_47 rfl (lv_at hl 1 rfl) ?_
          refine va_get (D := G) (ci := 7) (v := .ref a_S) (C := RX7) (T := TX7) (N := 38) hx hb hts inlX7 hown hK hP 0 rfl rfl 2 (by decide) (hts (.fieldLink RX7 7 "EarthBanksModel" "s" "[I") k_6_2) (fun _ h9 => h9) rfl dX7_zone_48 ?_
          refine lv_iload hx hb dX7_zone_51 (lv_at hl 0 rfl) ?_
          refine ialdN (j := ((144 + (6 * 0)) + zn)) hx hb hK hP 1 0 rfl rfl (by omega) (by decide) dX7_zone_53 ?_
          refine top_eq (y := (le zn)) (ms_l (c := zn) (by omega) (by omega)) ?_
          refine lv_istore (lv' := [(5, .int (le zn)), (4, .int (nI ((144 + (6 * 0)) + zn))), (0, .ref o), (1, .int (nI zn)), (2, .int 0), (3, .int v)]) hx hb dX7_zone_54 hl (by decide) rfl (fun ls hl => ?_)
          refine lv_aload_n hx hb dX7_zone_56 rfl (lv_at hl 2 rfl) ?_
          refine va_get (D := G) (ci := 7) (v := .ref a_S) (C := RX7) (T := TX7) (N := 38) hx hb hts inlX7 hown hK hP 0 rfl rfl 2 (by decide) (hts (.fieldLink RX7 7 "EarthBanksModel" "s" "[I") k_6_2) (fun _ h9 => h9) rfl dX7_zone_57 ?_
          refine lv_iload hx hb dX7_zone_60 (lv_at hl 1 rfl) ?_
          refine lv_iload_n hx hb dX7_zone_62 rfl (lv_at hl 5 rfl) ?_
          refine iastN (j := ((144 + (6 * 0)) + zn)) hx hb hK hP hD hS 1 0 rfl rfl (by omega) (by decide) dX7_zone_63 (fun H locs hP hD hS => ?_)
          have hP : va_P G vwCl [(o, .inr (7, [.int 0, .long tr, .ref a_S, .ref a_K, .ref a_IK, .ref a_SV, .ref a_DR, .ref a_TX, .int td, .int nx, .int tk, .int pc, .int vl, .int fa, .int ff, .ref a_WY, .ref a_BE, .int bf, .int bm, .int bl, .ref a_MO, .ref a_DY, .ref a_PO, .ref a_HO, .ref a_WA, .int ng, .ref a_GA, .int nc, .ref a_CA, .int sl, .ref a_MT, .ref a_LW, .int nw, .ref a_WK, .int pe, .int pv, .int pt, .int pu])), (a_S, .inl (cI, 163, .inl (upd (ms zo he go le hd gn la) ((144 + (6 * 0)) + zn) v)))] H := hP
          have hD : va_D A [(o, .inr (7, [.int 0, .long tr, .ref a_S, .ref a_K, .ref a_IK, .ref a_SV, .ref a_DR, .ref a_TX, .int td, .int nx, .int tk, .int pc, .int vl, .int fa, .int ff, .ref a_WY, .ref a_BE, .int bf, .int bm, .int bl, .ref a_MO, .ref a_DY, .ref a_PO, .ref a_HO, .ref a_WA, .int ng, .ref a_GA, .int nc, .ref a_CA, .int sl, .ref a_MT, .ref a_LW, .int nw, .ref a_WK, .int pe, .int pv, .int pt, .int pu])), (a_S, .inl (cI, 163, .inl (upd (ms zo he go le hd gn la) ((144 + (6 * 0)) + zn) v)))] := hD
          have en_6 : upd (ms zo he go le hd gn la) ((144 + (6 * 0)) + zn) v = ms zo he go (upd le zn v) hd gn la := ms_ul (c := zn) (by omega) (by omega)
          rw [en_6] at hP hD
          have hP : va_P G vwCl [(o, .inr (7, [.int 0, .long tr, .ref a_S, .ref a_K, .ref a_IK, .ref a_SV, .ref a_DR, .ref a_TX, .int td, .int nx, .int tk, .int pc, .int vl, .int fa, .int ff, .ref a_WY, .ref a_BE, .int bf, .int bm, .int bl, .ref a_MO, .ref a_DY, .ref a_PO, .ref a_HO, .ref a_WA, .int ng, .ref a_GA, .int nc, .ref a_CA, .int sl, .ref a_MT, .ref a_LW, .int nw, .ref a_WK, .int pe, .int pv, .int pt, .int pu])), (a_S, .inl (cI, 163, .inl (ms zo he go (upd le zn v) hd gn la)))] H := hP
          have hD : va_D A [(o, .inr (7, [.int 0, .long tr, .ref a_S, .ref a_K, .ref a_IK, .ref a_SV, .ref a_DR, .ref a_TX, .int td, .int nx, .int tk, .int pc, .int vl, .int fa, .int ff, .ref a_WY, .ref a_BE, .int bf, .int bm, .int bl, .ref a_MO, .ref a_DY, .ref a_PO, .ref a_HO, .ref a_WA, .int ng, .ref a_GA, .int nc, .ref a_CA, .int sl, .ref a_MT, .ref a_LW, .int nw, .ref a_WK, .int pe, .int pv, .int pt, .int pu])), (a_S, .inl (cI, 163, .inl (ms zo he go (upd le zn v) hd gn la)))] := hD
          refine lv_iload hx hb dX7_zone_64 (lv_at hl 0 rfl) ?_
          have ew_7 : (ms zo he go (upd le zn v) hd gn la) = (ms zo he go (zupS le z wh v 0 (decide (wh = 0))) (zupS hd z wh v 0 (!decide (wh = 0) && decide (wh = 1))) (zupS gn z wh v 0 (!decide (wh = 0) && !decide (wh = 1))) la) := by simp [zupS, zvB, hcz, c_1, c_3, c_5, hw1]
          have hP : va_P G vwCl [(o, .inr (7, [.int 0, .long tr, .ref a_S, .ref a_K, .ref a_IK, .ref a_SV, .ref a_DR, .ref a_TX, .int td, .int nx, .int tk, .int pc, .int vl, .int fa, .int ff, .ref a_WY, .ref a_BE, .int bf, .int bm, .int bl, .ref a_MO, .ref a_DY, .ref a_PO, .ref a_HO, .ref a_WA, .int ng, .ref a_GA, .int nc, .ref a_CA, .int sl, .ref a_MT, .ref a_LW, .int nw, .ref a_WK, .int pe, .int pv, .int pt, .int pu])), (a_S, .inl (cI, 163, .inl (ms zo he go (zupS le z wh v 0 (decide (wh = 0))) (zupS hd z wh v 0 (!decide (wh = 0) && decide (wh = 1))) (zupS gn z wh v 0 (!decide (wh = 0) && !decide (wh = 1))) la)))] H := by rw [← ew_7]; exact hP
          exact retWi () hx hb hr (rfl) hlocks dX7_zone_66 hS (by simp [zoneS, zvB, hcz, c_1, c_3, c_5, hw1]) hP
        · skip
          subst hd9
          have hwe : wh = 1 := hew
          have hl : lv_has ls 6 [(0, .ref o), (1, .int (nI zn)), (2, .int 1), (3, .int v)] := by rw [hwe] at hl; exact hl
          have hw1 : ¬ wh = 0 := by rw [hwe]; decide
          have hw2 : (wh = 1) = True := eq_true hwe
          refine lv_sipush (v := 144) hx hb dX7_zone_35 (by decide) ?_
          refine lv_bipush (v := 6) hx hb dX7_zone_38 (by decide) ?_
          refine lv_iload_n hx hb dX7_zone_40 rfl (lv_at hl 2 rfl) ?_
          refine lv_imul hx hb dX7_zone_41 ?_
          refine top_eq (y := nI (6 * 1)) (pk_mul _ _) ?_
          refine lv_iadd hx hb dX7_zone_42 ?_
          refine top_eq (y := nI (144 + (6 * 1))) (nI_add _ _) ?_
          refine lv_iload_n hx hb dX7_zone_43 rfl (lv_at hl 1 rfl) ?_
          refine lv_iadd hx hb dX7_zone_44 ?_
          refine top_eq (y := nI ((144 + (6 * 1)) + zn)) (nI_add _ _) ?_
          refine lv_istore (lv' := [(4, .int (nI ((144 + (6 * 1)) + zn))), (0, .ref o), (1, .int (nI zn)), (2, .int 1), (3, .int v)]) hx hb dX7_zone_45 hl (by decide) rfl (fun ls hl => ?_)
          refine lv_aload_n hx hb dX7_zone_47 rfl (lv_at hl 1 rfl) ?_
          refine va_get (D := G) (ci := 7) (v := .ref a_S) (C := RX7) (T := TX7) (N := 38) hx hb hts inlX7 hown hK hP 0 rfl rfl 2 (by decide) (hts (.fieldLink RX7 7 "EarthBanksModel" "s" "[I") k_6_2) (fun _ h9 => h9) rfl dX7_zone_48 ?_
          refine lv_iload hx hb dX7_zone_51 (lv_at hl 0 rfl) ?_
          refine ialdN (j := ((144 + (6 * 1)) + zn)) hx hb hK hP 1 0 rfl rfl (by omega) (by decide) dX7_zone_53 ?_
          refine top_eq (y := (hd zn)) (ms_d (c := zn) (by omega) (by omega)) ?_
          refine lv_istore (lv' := [(5, .int (hd zn)), (4, .int (nI ((144 + (6 * 1)) + zn))), (0, .ref o), (1, .int (nI zn)), (2, .int 1), (3, .int v)]) hx hb dX7_zone_54 hl (by decide) rfl (fun ls hl => ?_)
          refine lv_aload_n hx hb dX7_zone_56 rfl (lv_at hl 2 rfl) ?_
          refine va_get (D := G) (ci := 7) (v := .ref a_S) (C := RX7) (T := TX7) (N := 38) hx hb hts inlX7 hown hK hP 0 rfl rfl 2 (by decide) (hts (.fieldLink RX7 7 "EarthBanksModel" "s" "[I") k_6_2) (fun _ h9 => h9) rfl dX7_zone_57 ?_
          refine lv_iload hx hb dX7_zone_60 (lv_at hl 1 rfl) ?_
          refine lv_iload_n hx hb dX7_zone_62 rfl (lv_at hl 5 rfl) ?_
          refine iastN (j := ((144 + (6 * 1)) + zn)) hx hb hK hP hD hS 1 0 rfl rfl (by omega) (by decide) dX7_zone_63 (fun H locs hP hD hS => ?_)
          have hP : va_P G vwCl [(o, .inr (7, [.int 0, .long tr, .ref a_S, .ref a_K, .ref a_IK, .ref a_SV, .ref a_DR, .ref a_TX, .int td, .int nx, .int tk, .int pc, .int vl, .int fa, .int ff, .ref a_WY, .ref a_BE, .int bf, .int bm, .int bl, .ref a_MO, .ref a_DY, .ref a_PO, .ref a_HO, .ref a_WA, .int ng, .ref a_GA, .int nc, .ref a_CA, .int sl, .ref a_MT, .ref a_LW, .int nw, .ref a_WK, .int pe, .int pv, .int pt, .int pu])), (a_S, .inl (cI, 163, .inl (upd (ms zo he go le hd gn la) ((144 + (6 * 1)) + zn) v)))] H := hP
          have hD : va_D A [(o, .inr (7, [.int 0, .long tr, .ref a_S, .ref a_K, .ref a_IK, .ref a_SV, .ref a_DR, .ref a_TX, .int td, .int nx, .int tk, .int pc, .int vl, .int fa, .int ff, .ref a_WY, .ref a_BE, .int bf, .int bm, .int bl, .ref a_MO, .ref a_DY, .ref a_PO, .ref a_HO, .ref a_WA, .int ng, .ref a_GA, .int nc, .ref a_CA, .int sl, .ref a_MT, .ref a_LW, .int nw, .ref a_WK, .int pe, .int pv, .int pt, .int pu])), (a_S, .inl (cI, 163, .inl (upd (ms zo he go le hd gn la) ((144 + (6 * 1)) + zn) v)))] := hD
          have en_8 : upd (ms zo he go le hd gn la) ((144 + (6 * 1)) + zn) v = ms zo he go le (upd hd zn v) gn la := ms_ud (c := zn) (by omega) (by omega)
          rw [en_8] at hP hD
          have hP : va_P G vwCl [(o, .inr (7, [.int 0, .long tr, .ref a_S, .ref a_K, .ref a_IK, .ref a_SV, .ref a_DR, .ref a_TX, .int td, .int nx, .int tk, .int pc, .int vl, .int fa, .int ff, .ref a_WY, .ref a_BE, .int bf, .int bm, .int bl, .ref a_MO, .ref a_DY, .ref a_PO, .ref a_HO, .ref a_WA, .int ng, .ref a_GA, .int nc, .ref a_CA, .int sl, .ref a_MT, .ref a_LW, .int nw, .ref a_WK, .int pe, .int pv, .int pt, .int pu])), (a_S, .inl (cI, 163, .inl (ms zo he go le (upd hd zn v) gn la)))] H := hP
          have hD : va_D A [(o, .inr (7, [.int 0, .long tr, .ref a_S, .ref a_K, .ref a_IK, .ref a_SV, .ref a_DR, .ref a_TX, .int td, .int nx, .int tk, .int pc, .int vl, .int fa, .int ff, .ref a_WY, .ref a_BE, .int bf, .int bm, .int bl, .ref a_MO, .ref a_DY, .ref a_PO, .ref a_HO, .ref a_WA, .int ng, .ref a_GA, .int nc, .ref a_CA, .int sl, .ref a_MT, .ref a_LW, .int nw, .ref a_WK, .int pe, .int pv, .int pt, .int pu])), (a_S, .inl (cI, 163, .inl (ms zo he go le (upd hd zn v) gn la)))] := hD
          refine lv_iload hx hb dX7_zone_64 (lv_at hl 0 rfl) ?_
          have ew_9 : (ms zo he go le (upd hd zn v) gn la) = (ms zo he go (zupS le z wh v 0 (decide (wh = 0))) (zupS hd z wh v 0 (!decide (wh = 0) && decide (wh = 1))) (zupS gn z wh v 0 (!decide (wh = 0) && !decide (wh = 1))) la) := by simp [zupS, zvB, hcz, c_1, c_3, c_5, hw1, hw2]
          have hP : va_P G vwCl [(o, .inr (7, [.int 0, .long tr, .ref a_S, .ref a_K, .ref a_IK, .ref a_SV, .ref a_DR, .ref a_TX, .int td, .int nx, .int tk, .int pc, .int vl, .int fa, .int ff, .ref a_WY, .ref a_BE, .int bf, .int bm, .int bl, .ref a_MO, .ref a_DY, .ref a_PO, .ref a_HO, .ref a_WA, .int ng, .ref a_GA, .int nc, .ref a_CA, .int sl, .ref a_MT, .ref a_LW, .int nw, .ref a_WK, .int pe, .int pv, .int pt, .int pu])), (a_S, .inl (cI, 163, .inl (ms zo he go (zupS le z wh v 0 (decide (wh = 0))) (zupS hd z wh v 0 (!decide (wh = 0) && decide (wh = 1))) (zupS gn z wh v 0 (!decide (wh = 0) && !decide (wh = 1))) la)))] H := by rw [← ew_9]; exact hP
          exact retWi () hx hb hr (rfl) hlocks dX7_zone_66 hS (by simp [zoneS, zvB, hcz, c_1, c_3, c_5, hw1, hw2]) hP
        · skip
          subst hd9
          have hwe : wh = 2 := hew
          have hl : lv_has ls 6 [(0, .ref o), (1, .int (nI zn)), (2, .int 2), (3, .int v)] := by rw [hwe] at hl; exact hl
          have hw1 : ¬ wh = 0 := by rw [hwe]; decide
          have hw2 : ¬ wh = 1 := by rw [hwe]; decide
          refine lv_sipush (v := 144) hx hb dX7_zone_35 (by decide) ?_
          refine lv_bipush (v := 6) hx hb dX7_zone_38 (by decide) ?_
          refine lv_iload_n hx hb dX7_zone_40 rfl (lv_at hl 2 rfl) ?_
          refine lv_imul hx hb dX7_zone_41 ?_
          refine top_eq (y := nI (6 * 2)) (pk_mul _ _) ?_
          refine lv_iadd hx hb dX7_zone_42 ?_
          refine top_eq (y := nI (144 + (6 * 2))) (nI_add _ _) ?_
          refine lv_iload_n hx hb dX7_zone_43 rfl (lv_at hl 1 rfl) ?_
          refine lv_iadd hx hb dX7_zone_44 ?_
          refine top_eq (y := nI ((144 + (6 * 2)) + zn)) (nI_add _ _) ?_
          refine lv_istore (lv' := [(4, .int (nI ((144 + (6 * 2)) + zn))), (0, .ref o), (1, .int (nI zn)), (2, .int 2), (3, .int v)]) hx hb dX7_zone_45 hl (by decide) rfl (fun ls hl => ?_)
          refine lv_aload_n hx hb dX7_zone_47 rfl (lv_at hl 1 rfl) ?_
          refine va_get (D := G) (ci := 7) (v := .ref a_S) (C := RX7) (T := TX7) (N := 38) hx hb hts inlX7 hown hK hP 0 rfl rfl 2 (by decide) (hts (.fieldLink RX7 7 "EarthBanksModel" "s" "[I") k_6_2) (fun _ h9 => h9) rfl dX7_zone_48 ?_
          refine lv_iload hx hb dX7_zone_51 (lv_at hl 0 rfl) ?_
          refine ialdN (j := ((144 + (6 * 2)) + zn)) hx hb hK hP 1 0 rfl rfl (by omega) (by decide) dX7_zone_53 ?_
          refine top_eq (y := (gn zn)) (ms_n (c := zn) (by omega) (by omega)) ?_
          refine lv_istore (lv' := [(5, .int (gn zn)), (4, .int (nI ((144 + (6 * 2)) + zn))), (0, .ref o), (1, .int (nI zn)), (2, .int 2), (3, .int v)]) hx hb dX7_zone_54 hl (by decide) rfl (fun ls hl => ?_)
          refine lv_aload_n hx hb dX7_zone_56 rfl (lv_at hl 2 rfl) ?_
          refine va_get (D := G) (ci := 7) (v := .ref a_S) (C := RX7) (T := TX7) (N := 38) hx hb hts inlX7 hown hK hP 0 rfl rfl 2 (by decide) (hts (.fieldLink RX7 7 "EarthBanksModel" "s" "[I") k_6_2) (fun _ h9 => h9) rfl dX7_zone_57 ?_
          refine lv_iload hx hb dX7_zone_60 (lv_at hl 1 rfl) ?_
          refine lv_iload_n hx hb dX7_zone_62 rfl (lv_at hl 5 rfl) ?_
          refine iastN (j := ((144 + (6 * 2)) + zn)) hx hb hK hP hD hS 1 0 rfl rfl (by omega) (by decide) dX7_zone_63 (fun H locs hP hD hS => ?_)
          have hP : va_P G vwCl [(o, .inr (7, [.int 0, .long tr, .ref a_S, .ref a_K, .ref a_IK, .ref a_SV, .ref a_DR, .ref a_TX, .int td, .int nx, .int tk, .int pc, .int vl, .int fa, .int ff, .ref a_WY, .ref a_BE, .int bf, .int bm, .int bl, .ref a_MO, .ref a_DY, .ref a_PO, .ref a_HO, .ref a_WA, .int ng, .ref a_GA, .int nc, .ref a_CA, .int sl, .ref a_MT, .ref a_LW, .int nw, .ref a_WK, .int pe, .int pv, .int pt, .int pu])), (a_S, .inl (cI, 163, .inl (upd (ms zo he go le hd gn la) ((144 + (6 * 2)) + zn) v)))] H := hP
          have hD : va_D A [(o, .inr (7, [.int 0, .long tr, .ref a_S, .ref a_K, .ref a_IK, .ref a_SV, .ref a_DR, .ref a_TX, .int td, .int nx, .int tk, .int pc, .int vl, .int fa, .int ff, .ref a_WY, .ref a_BE, .int bf, .int bm, .int bl, .ref a_MO, .ref a_DY, .ref a_PO, .ref a_HO, .ref a_WA, .int ng, .ref a_GA, .int nc, .ref a_CA, .int sl, .ref a_MT, .ref a_LW, .int nw, .ref a_WK, .int pe, .int pv, .int pt, .int pu])), (a_S, .inl (cI, 163, .inl (upd (ms zo he go le hd gn la) ((144 + (6 * 2)) + zn) v)))] := hD
          have en_10 : upd (ms zo he go le hd gn la) ((144 + (6 * 2)) + zn) v = ms zo he go le hd (upd gn zn v) la := ms_un (c := zn) (by omega) (by omega)
          rw [en_10] at hP hD
          have hP : va_P G vwCl [(o, .inr (7, [.int 0, .long tr, .ref a_S, .ref a_K, .ref a_IK, .ref a_SV, .ref a_DR, .ref a_TX, .int td, .int nx, .int tk, .int pc, .int vl, .int fa, .int ff, .ref a_WY, .ref a_BE, .int bf, .int bm, .int bl, .ref a_MO, .ref a_DY, .ref a_PO, .ref a_HO, .ref a_WA, .int ng, .ref a_GA, .int nc, .ref a_CA, .int sl, .ref a_MT, .ref a_LW, .int nw, .ref a_WK, .int pe, .int pv, .int pt, .int pu])), (a_S, .inl (cI, 163, .inl (ms zo he go le hd (upd gn zn v) la)))] H := hP
          have hD : va_D A [(o, .inr (7, [.int 0, .long tr, .ref a_S, .ref a_K, .ref a_IK, .ref a_SV, .ref a_DR, .ref a_TX, .int td, .int nx, .int tk, .int pc, .int vl, .int fa, .int ff, .ref a_WY, .ref a_BE, .int bf, .int bm, .int bl, .ref a_MO, .ref a_DY, .ref a_PO, .ref a_HO, .ref a_WA, .int ng, .ref a_GA, .int nc, .ref a_CA, .int sl, .ref a_MT, .ref a_LW, .int nw, .ref a_WK, .int pe, .int pv, .int pt, .int pu])), (a_S, .inl (cI, 163, .inl (ms zo he go le hd (upd gn zn v) la)))] := hD
          refine lv_iload hx hb dX7_zone_64 (lv_at hl 0 rfl) ?_
          have ew_11 : (ms zo he go le hd (upd gn zn v) la) = (ms zo he go (zupS le z wh v 0 (decide (wh = 0))) (zupS hd z wh v 0 (!decide (wh = 0) && decide (wh = 1))) (zupS gn z wh v 0 (!decide (wh = 0) && !decide (wh = 1))) la) := by simp [zupS, zvB, hcz, c_1, c_3, c_5, hw1, hw2]
          have hP : va_P G vwCl [(o, .inr (7, [.int 0, .long tr, .ref a_S, .ref a_K, .ref a_IK, .ref a_SV, .ref a_DR, .ref a_TX, .int td, .int nx, .int tk, .int pc, .int vl, .int fa, .int ff, .ref a_WY, .ref a_BE, .int bf, .int bm, .int bl, .ref a_MO, .ref a_DY, .ref a_PO, .ref a_HO, .ref a_WA, .int ng, .ref a_GA, .int nc, .ref a_CA, .int sl, .ref a_MT, .ref a_LW, .int nw, .ref a_WK, .int pe, .int pv, .int pt, .int pu])), (a_S, .inl (cI, 163, .inl (ms zo he go (zupS le z wh v 0 (decide (wh = 0))) (zupS hd z wh v 0 (!decide (wh = 0) && decide (wh = 1))) (zupS gn z wh v 0 (!decide (wh = 0) && !decide (wh = 1))) la)))] H := by rw [← ew_11]; exact hP
          exact retWi () hx hb hr (rfl) hlocks dX7_zone_66 hS (by simp [zoneS, zvB, hcz, c_1, c_3, c_5, hw1, hw2]) hP
      · skip
        have c_5 : (wiB v 1 99) = false := bI_f c_5
        refine lv_iconst (v := (-1)) hx hb dX7_zone_33 (by decide) ?_
        have ew_12 : (ms zo he go le hd gn la) = (ms zo he go (zupS le z wh v 0 (decide (wh = 0))) (zupS hd z wh v 0 (!decide (wh = 0) && decide (wh = 1))) (zupS gn z wh v 0 (!decide (wh = 0) && !decide (wh = 1))) la) := by simp [zupS, zvB, c_1, c_3, c_5]
        have hP : va_P G vwCl [(o, .inr (7, [.int 0, .long tr, .ref a_S, .ref a_K, .ref a_IK, .ref a_SV, .ref a_DR, .ref a_TX, .int td, .int nx, .int tk, .int pc, .int vl, .int fa, .int ff, .ref a_WY, .ref a_BE, .int bf, .int bm, .int bl, .ref a_MO, .ref a_DY, .ref a_PO, .ref a_HO, .ref a_WA, .int ng, .ref a_GA, .int nc, .ref a_CA, .int sl, .ref a_MT, .ref a_LW, .int nw, .ref a_WK, .int pe, .int pv, .int pt, .int pu])), (a_S, .inl (cI, 163, .inl (ms zo he go (zupS le z wh v 0 (decide (wh = 0))) (zupS hd z wh v 0 (!decide (wh = 0) && decide (wh = 1))) (zupS gn z wh v 0 (!decide (wh = 0) && !decide (wh = 1))) la)))] H := by rw [← ew_12]; exact hP
        exact retWi () hx hb hr (rfl) hlocks dX7_zone_34 hS (by simp [zoneS, zvB, c_1, c_3, c_5]) hP
theorem cal_X7_load : calV yX7_load cX7_load 7 (some .int) 3 := ⟨k_19_13, k_1_5, k_19_11, k_19_12, by decide +kernel⟩
set_option maxHeartbeats 4000000 in
set_option maxRecDepth 100000 in
theorem c_X7_load (l : Launch) (G : va_G) (E : EvT) (cI cZ : ClassId) (zo : Nat → Int32) (he : Nat → Int32) (go : Nat → Int32) (le : Nat → Int32) (hd : Nat → Int32) (gn : Nat → Int32) (la : Int32) (kd : Int32) (x : Int32) (y : Int32) (o : Nat) (a_S : Nat) (a_K : Nat) (a_IK : Nat) (a_SV : Nat) (a_DR : Nat) (a_TX : Nat) (a_WY : Nat) (a_BE : Nat) (a_MO : Nat) (a_DY : Nat) (a_PO : Nat) (a_HO : Nat) (a_WA : Nat) (a_GA : Nat) (a_CA : Nat) (a_MT : Nat) (a_LW : Nat) (a_WK : Nat) (th : Int32) (tr : Int64) (td : Int32) (nx : Int32) (tk : Int32) (pc : Int32) (vl : Int32) (fa : Int32) (ff : Int32) (bf : Int32) (bm : Int32) (bl : Int32) (ng : Int32) (nc : Int32) (sl : Int32) (nw : Int32) (pe : Int32) (pv : Int32) (pt : Int32) (pu : Int32) : cWi (S := Unit) l G E yX7_load cX7_load 7 (some .int) 8 [(cI, .int), (cZ, .boolean)] [.ref o, .int kd, .int x, .int y] [(o, .inr (7, [.int th, .long tr, .ref a_S, .ref a_K, .ref a_IK, .ref a_SV, .ref a_DR, .ref a_TX, .int td, .int nx, .int tk, .int pc, .int vl, .int fa, .int ff, .ref a_WY, .ref a_BE, .int bf, .int bm, .int bl, .ref a_MO, .ref a_DY, .ref a_PO, .ref a_HO, .ref a_WA, .int ng, .ref a_GA, .int nc, .ref a_CA, .int sl, .ref a_MT, .ref a_LW, .int nw, .ref a_WK, .int pe, .int pv, .int pt, .int pu])), (a_S, .inl (cI, 163, .inl (ms zo he go le hd gn la)))] (fun r _ => r = loadS zo he hd kd x y) (fun _ => [(o, .inr (7, [.int 0, .long (ltrS zo kd x y tr), .ref a_S, .ref a_K, .ref a_IK, .ref a_SV, .ref a_DR, .ref a_TX, .int td, .int nx, .int tk, .int pc, .int vl, .int fa, .int ff, .ref a_WY, .ref a_BE, .int bf, .int bm, .int bl, .ref a_MO, .ref a_DY, .ref a_PO, .ref a_HO, .ref a_WA, .int ng, .ref a_GA, .int nc, .ref a_CA, .int sl, .ref a_MT, .ref a_LW, .int nw, .ref a_WK, .int pe, .int pv, .int pt, .int pu])), (a_S, .inl (cI, 163, .inl (ms zo he go le hd gn la)))]) := by
  refine mkWi (by decide) (Nat.le_of_ble_eq_true rfl) ?_
  intro zp ze s zm args below meth zc hx hb hr hml hown hts hlocks hE hK A hA hlow H locs hP hD hS ls hl
  have hl : lv_has ls 7 [(0, .ref o), (1, .int kd), (2, .int x), (3, .int y)] := hl
  refine lv_aload_n hx hb dX7_load_0 rfl (lv_at hl 0 rfl) ?_
  refine lv_iconst (v := 0) hx hb dX7_load_1 (by decide) ?_
  refine va_put (D := G) (ci := 7) (v := .int 0) (ty := .int) (C := RX7) (T := TX7) (N := 38) hx hb hts inlX7 tyX7 tyX7_ok nmX7 hown hK hP hD hS 0 rfl rfl 0 (by decide) (hts (.fieldLink RX7 75 "EarthBanksModel" "thrown" "I") k_7_19) (fun _ h9 => h9) rfl (by decide +kernel) (rfl) (rfl) (Nat.le_of_ble_eq_true rfl) dX7_load_2 (fun H locs hP hD hS => ?_)
  have hP : va_P G vwCl [(o, .inr (7, [.int 0, .long tr, .ref a_S, .ref a_K, .ref a_IK, .ref a_SV, .ref a_DR, .ref a_TX, .int td, .int nx, .int tk, .int pc, .int vl, .int fa, .int ff, .ref a_WY, .ref a_BE, .int bf, .int bm, .int bl, .ref a_MO, .ref a_DY, .ref a_PO, .ref a_HO, .ref a_WA, .int ng, .ref a_GA, .int nc, .ref a_CA, .int sl, .ref a_MT, .ref a_LW, .int nw, .ref a_WK, .int pe, .int pv, .int pt, .int pu])), (a_S, .inl (cI, 163, .inl (ms zo he go le hd gn la)))] H := hP
  have hD : va_D A [(o, .inr (7, [.int 0, .long tr, .ref a_S, .ref a_K, .ref a_IK, .ref a_SV, .ref a_DR, .ref a_TX, .int td, .int nx, .int tk, .int pc, .int vl, .int fa, .int ff, .ref a_WY, .ref a_BE, .int bf, .int bm, .int bl, .ref a_MO, .ref a_DY, .ref a_PO, .ref a_HO, .ref a_WA, .int ng, .ref a_GA, .int nc, .ref a_CA, .int sl, .ref a_MT, .ref a_LW, .int nw, .ref a_WK, .int pe, .int pv, .int pt, .int pu])), (a_S, .inl (cI, 163, .inl (ms zo he go le hd gn la)))] := hD
  refine lv_iload_n hx hb dX7_load_5 rfl (lv_at hl 1 rfl) ?_
  refine lv_iconst (v := 0) hx hb dX7_load_6 (by decide) ?_
  refine lv_iconst (v := 4) hx hb dX7_load_7 (by decide) ?_
  refine cRS (As := [.int kd, .int 0, .int 4]) (rest := []) hx hb hml hown hts (c_X7_in l G E cI cZ kd 0 4) k_7_22 cal_X7_in ⟨Nat.le_of_ble_eq_true rfl, Nat.le_of_ble_eq_true rfl⟩ hE hlow hS hK [0, 1] rfl hP [] rfl rfl hl.1 rfl (Nat.le_of_ble_eq_true rfl) dX7_load_8 ⟨Nat.zero_le _, Nat.zero_le _⟩ ?_
  refine lv_if_eq (tgt := 22) hx hb dX7_load_11 (by decide) (fun c_1 => ?_) (fun c_1 => ?_)
  · skip
    have c_1 : (wiB kd 0 4) = false := bI_f c_1
    refine lv_iconst (v := (-1)) hx hb dX7_load_22 (by decide) ?_
    have ew_2 : (tr : Int64) = ltrS zo kd x y tr := by simp [ltrS, l11, l111, l1011, l10001, c_1]
    have hP : va_P G vwCl [(o, .inr (7, [.int 0, .long (ltrS zo kd x y tr), .ref a_S, .ref a_K, .ref a_IK, .ref a_SV, .ref a_DR, .ref a_TX, .int td, .int nx, .int tk, .int pc, .int vl, .int fa, .int ff, .ref a_WY, .ref a_BE, .int bf, .int bm, .int bl, .ref a_MO, .ref a_DY, .ref a_PO, .ref a_HO, .ref a_WA, .int ng, .ref a_GA, .int nc, .ref a_CA, .int sl, .ref a_MT, .ref a_LW, .int nw, .ref a_WK, .int pe, .int pv, .int pt, .int pu])), (a_S, .inl (cI, 163, .inl (ms zo he go le hd gn la)))] H := by rw [← ew_2]; exact hP
    exact retWi () hx hb hr (rfl) hlocks dX7_load_23 hS (by simp [loadS, lpS, lcS, holdS, c_1]) hP
  · skip
    have c_1 : (wiB kd 0 4) = true := bI_t c_1
    refine lv_iload_n hx hb dX7_load_14 rfl (lv_at hl 2 rfl) ?_
    refine lv_iload_n hx hb dX7_load_15 rfl (lv_at hl 3 rfl) ?_
    refine cRS (As := [.int x, .int y]) (rest := []) hx hb hml hown hts (c_X7_isCell l G E cI cZ x y) k_17_4 cal_X7_isCell ⟨Nat.le_of_ble_eq_true rfl, Nat.le_of_ble_eq_true rfl⟩ hE hlow hS hK [0, 1] rfl hP [] rfl rfl hl.1 rfl (Nat.le_of_ble_eq_true rfl) dX7_load_16 ⟨Nat.zero_le _, Nat.zero_le _⟩ ?_
    refine lv_if_ne (tgt := 24) hx hb dX7_load_19 (by decide) (fun c_3 => ?_) (fun c_3 => ?_)
    · skip
      have c_3 : (inC x y) = true := bI_t c_3
      obtain ⟨xn, yn, hxn, hyn, hex, hey, hcx, hcy⟩ := inC_n c_3
      have hl : lv_has ls 7 [(0, .ref o), (1, .int kd), (2, .int (nI xn)), (3, .int y)] := by rw [hex] at hl; exact hl
      have hl : lv_has ls 7 [(0, .ref o), (1, .int kd), (2, .int (nI xn)), (3, .int (nI yn))] := by rw [hey] at hl; exact hl
      have hpl : plc x y = 8 * yn + xn := by rw [plc, hcx, hcy]
      have hdv : (8 * yn + xn) / 8 = yn := by omega
      refine lv_bipush (v := 8) hx hb dX7_load_24 (by decide) ?_
      refine lv_iload_n hx hb dX7_load_26 rfl (lv_at hl 3 rfl) ?_
      refine lv_imul hx hb dX7_load_27 ?_
      refine top_eq (y := nI (8 * yn)) (pk_mul _ _) ?_
      refine lv_iload_n hx hb dX7_load_28 rfl (lv_at hl 2 rfl) ?_
      refine lv_iadd hx hb dX7_load_29 ?_
      refine top_eq (y := nI ((8 * yn) + xn)) (nI_add _ _) ?_
      refine lv_istore (lv' := [(4, .int (nI ((8 * yn) + xn))), (0, .ref o), (1, .int kd), (2, .int (nI xn)), (3, .int (nI yn))]) hx hb dX7_load_30 hl (by decide) rfl (fun ls hl => ?_)
      refine lv_aload_n hx hb dX7_load_32 rfl (lv_at hl 1 rfl) ?_
      refine va_get (D := G) (ci := 7) (v := .ref a_S) (C := RX7) (T := TX7) (N := 38) hx hb hts inlX7 hown hK hP 0 rfl rfl 2 (by decide) (hts (.fieldLink RX7 7 "EarthBanksModel" "s" "[I") k_6_2) (fun _ h9 => h9) rfl dX7_load_33 ?_
      refine lv_iconst (v := 0) hx hb dX7_load_36 (by decide) ?_
      refine lv_iload hx hb dX7_load_37 (lv_at hl 0 rfl) ?_
      refine lv_iadd hx hb dX7_load_39 ?_
      refine top_eq (y := nI (0 + ((8 * yn) + xn))) (nI_add _ _) ?_
      refine ialdN (j := (0 + ((8 * yn) + xn))) hx hb hK hP 1 0 rfl rfl (by omega) (by decide) dX7_load_40 ?_
      refine top_eq (y := (mzS zo ((8 * yn) + xn))) (ms_z (c := ((8 * yn) + xn)) (by omega) (by omega)) ?_
      refine lv_bipush (v := (-9)) hx hb dX7_load_41 (by decide) ?_
      refine lv_icmp_ne (tgt := 49) hx hb dX7_load_43 (by decide) (fun c_4 => ?_) (fun c_4 => ?_)
      · skip
        have c_4 : isAirS zo ((8 * yn) + xn) = false := mz_f c_4
        refine lv_bipush (v := 10) hx hb dX7_load_49 (by decide) ?_
        refine lv_iload_n hx hb dX7_load_51 rfl (lv_at hl 4 rfl) ?_
        refine lv_iadd hx hb dX7_load_52 ?_
        refine top_eq (y := nI (10 + yn)) (nI_add _ _) ?_
        refine lv_istore (lv' := [(5, .int (nI (10 + yn))), (4, .int (nI ((8 * yn) + xn))), (0, .ref o), (1, .int kd), (2, .int (nI xn)), (3, .int (nI yn))]) hx hb dX7_load_53 hl (by decide) rfl (fun ls hl => ?_)
        refine lv_iload hx hb dX7_load_55 (lv_at hl 0 rfl) ?_
        refine lv_aload_n hx hb dX7_load_57 rfl (lv_at hl 2 rfl) ?_
        refine lv_iload hx hb dX7_load_58 (lv_at hl 1 rfl) ?_
        refine cRV (As := [.int (nI ((8 * yn) + xn))]) (rest := [.int (nI (10 + yn))]) hx hb hml hown hts (c_X7_pushOf l G E cI cZ zo he go le hd gn la ((8 * yn) + xn) o a_S [.int 0, .long tr, .ref a_S, .ref a_K, .ref a_IK, .ref a_SV, .ref a_DR, .ref a_TX, .int td, .int nx, .int tk, .int pc, .int vl, .int fa, .int ff, .ref a_WY, .ref a_BE, .int bf, .int bm, .int bl, .ref a_MO, .ref a_DY, .ref a_PO, .ref a_HO, .ref a_WA, .int ng, .ref a_GA, .int nc, .ref a_CA, .int sl, .ref a_MT, .ref a_LW, .int nw, .ref a_WK, .int pe, .int pv, .int pt, .int pu] rfl (by first | assumption | omega | simp [bI, c_1, c_3, c_4])) k_17_7 cal_X7_pushOf ⟨Nat.le_of_ble_eq_true rfl, Nat.le_of_ble_eq_true rfl⟩ hE hlow hS hK [0, 1] rfl hP [0, 1] rfl 0 7 rfl rfl rfl hl.1 rfl (Nat.le_of_ble_eq_true rfl) dX7_load_60 ⟨Nat.zero_le _, Nat.zero_le _⟩ ?_
        refine lv_bipush (v := 100) hx hb dX7_load_63 (by decide) ?_
        refine lv_idiv hx hb dX7_load_65 (by decide) ?_
        refine lv_iadd hx hb dX7_load_66 ?_
        refine lv_istore (lv' := [(6, .int ((nI (10 + yn)) + ((pushS he ((8 * yn) + xn)) / 100))), (5, .int (nI (10 + yn))), (4, .int (nI ((8 * yn) + xn))), (0, .ref o), (1, .int kd), (2, .int (nI xn)), (3, .int (nI yn))]) hx hb dX7_load_67 hl (by decide) rfl (fun ls hl => ?_)
        refine lv_aload_n hx hb dX7_load_69 rfl (lv_at hl 3 rfl) ?_
        refine lv_dup hx hb dX7_load_70 rfl ?_
        refine va_get (D := G) (ci := 7) (v := .long tr) (C := RX7) (T := TX7) (N := 38) hx hb hts inlX7 hown hK hP 0 rfl rfl 1 (by decide) (hts (.fieldLink RX7 148 "EarthBanksModel" "trace" "J") k_19_14) (fun _ h9 => h9) rfl dX7_load_71 ?_
        refine lv_iload_n hx hb dX7_load_74 rfl (lv_at hl 4 rfl) ?_
        refine lv_if_ne (tgt := 82) hx hb dX7_load_75 (by decide) (fun c_5 => ?_) (fun c_5 => ?_)
        · skip
          refine lv_iload_n hx hb dX7_load_82 rfl (lv_at hl 4 rfl) ?_
          refine lv_iconst (v := 1) hx hb dX7_load_83 (by decide) ?_
          refine lv_icmp_ne (tgt := 93) hx hb dX7_load_84 (by decide) (fun c_6 => ?_) (fun c_6 => ?_)
          · skip
            refine lv_iload_n hx hb dX7_load_93 rfl (lv_at hl 4 rfl) ?_
            refine lv_iconst (v := 2) hx hb dX7_load_94 (by decide) ?_
            refine lv_icmp_ne (tgt := 104) hx hb dX7_load_95 (by decide) (fun c_7 => ?_) (fun c_7 => ?_)
            · skip
              refine lv_iload_n hx hb dX7_load_104 rfl (lv_at hl 4 rfl) ?_
              refine lv_iconst (v := 3) hx hb dX7_load_105 (by decide) ?_
              refine lv_icmp_ne (tgt := 115) hx hb dX7_load_106 (by decide) (fun c_8 => ?_) (fun c_8 => ?_)
              · skip
                refine lv_ldc2 (own := RX7) (index := 158) (v := 10001) hx hb hown (hts _ k_19_18) dX7_load_115 ?_
                refine topl_eq (y := L10001) rfl ?_
                refine lv_ladd hx hb dX7_load_118 ?_
                refine va_put (D := G) (ci := 7) (v := .long (tr + L10001)) (ty := .long) (C := RX7) (T := TX7) (N := 38) hx hb hts inlX7 tyX7 tyX7_ok nmX7 hown hK hP hD hS 0 rfl rfl 1 (by decide) (hts (.fieldLink RX7 148 "EarthBanksModel" "trace" "J") k_19_14) (fun _ h9 => h9) rfl (by decide +kernel) (rfl) (rfl) (Nat.le_of_ble_eq_true rfl) dX7_load_119 (fun H locs hP hD hS => ?_)
                have hP : va_P G vwCl [(o, .inr (7, [.int 0, .long (tr + L10001), .ref a_S, .ref a_K, .ref a_IK, .ref a_SV, .ref a_DR, .ref a_TX, .int td, .int nx, .int tk, .int pc, .int vl, .int fa, .int ff, .ref a_WY, .ref a_BE, .int bf, .int bm, .int bl, .ref a_MO, .ref a_DY, .ref a_PO, .ref a_HO, .ref a_WA, .int ng, .ref a_GA, .int nc, .ref a_CA, .int sl, .ref a_MT, .ref a_LW, .int nw, .ref a_WK, .int pe, .int pv, .int pt, .int pu])), (a_S, .inl (cI, 163, .inl (ms zo he go le hd gn la)))] H := hP
                have hD : va_D A [(o, .inr (7, [.int 0, .long (tr + L10001), .ref a_S, .ref a_K, .ref a_IK, .ref a_SV, .ref a_DR, .ref a_TX, .int td, .int nx, .int tk, .int pc, .int vl, .int fa, .int ff, .ref a_WY, .ref a_BE, .int bf, .int bm, .int bl, .ref a_MO, .ref a_DY, .ref a_PO, .ref a_HO, .ref a_WA, .int ng, .ref a_GA, .int nc, .ref a_CA, .int sl, .ref a_MT, .ref a_LW, .int nw, .ref a_WK, .int pe, .int pv, .int pt, .int pu])), (a_S, .inl (cI, 163, .inl (ms zo he go le hd gn la)))] := hD
                refine lv_iload_n hx hb dX7_load_122 rfl (lv_at hl 4 rfl) ?_
                refine lv_if_ne (tgt := 131) hx hb dX7_load_123 (by decide) (fun c_9 => ?_) (fun c_9 => ?_)
                · skip
                  refine lv_iload_n hx hb dX7_load_131 rfl (lv_at hl 4 rfl) ?_
                  refine lv_iconst (v := 1) hx hb dX7_load_132 (by decide) ?_
                  refine lv_icmp_ne (tgt := 141) hx hb dX7_load_133 (by decide) (fun c_10 => ?_) (fun c_10 => ?_)
                  · skip
                    refine lv_iload_n hx hb dX7_load_141 rfl (lv_at hl 4 rfl) ?_
                    refine lv_iconst (v := 2) hx hb dX7_load_142 (by decide) ?_
                    refine lv_icmp_ne (tgt := 156) hx hb dX7_load_143 (by decide) (fun c_11 => ?_) (fun c_11 => ?_)
                    · skip
                      refine lv_iload_n hx hb dX7_load_156 rfl (lv_at hl 4 rfl) ?_
                      refine lv_iconst (v := 3) hx hb dX7_load_157 (by decide) ?_
                      refine lv_icmp_ne (tgt := 168) hx hb dX7_load_158 (by decide) (fun c_12 => ?_) (fun c_12 => ?_)
                      · skip
                        refine lv_iload hx hb dX7_load_168 (lv_at hl 1 rfl) ?_
                        refine lv_aload_n hx hb dX7_load_170 rfl (lv_at hl 3 rfl) ?_
                        refine lv_iload hx hb dX7_load_171 (lv_at hl 2 rfl) ?_
                        refine cRV (As := [.int (nI ((8 * yn) + xn))]) (rest := [.int (nI (10 + yn))]) hx hb hml hown hts (c_X7_holdOf l G E cI cZ zo he go le hd gn la ((8 * yn) + xn) o a_S [.int 0, .long (tr + L10001), .ref a_S, .ref a_K, .ref a_IK, .ref a_SV, .ref a_DR, .ref a_TX, .int td, .int nx, .int tk, .int pc, .int vl, .int fa, .int ff, .ref a_WY, .ref a_BE, .int bf, .int bm, .int bl, .ref a_MO, .ref a_DY, .ref a_PO, .ref a_HO, .ref a_WA, .int ng, .ref a_GA, .int nc, .ref a_CA, .int sl, .ref a_MT, .ref a_LW, .int nw, .ref a_WK, .int pe, .int pv, .int pt, .int pu] rfl (by first | assumption | omega | simp [bI, c_1, c_3, c_4, c_5, c_6, c_7, c_8, c_9, c_10, c_11, c_12]) (c_4)) k_19_19 cal_X7_holdOf ⟨Nat.le_of_ble_eq_true rfl, Nat.le_of_ble_eq_true rfl⟩ hE hlow hS hK [0, 1] rfl hP [0, 1] rfl 0 7 rfl rfl rfl hl.1 rfl (Nat.le_of_ble_eq_true rfl) dX7_load_173 ⟨Nat.zero_le _, Nat.zero_le _⟩ ?_
                        refine lv_bipush (v := 10) hx hb dX7_load_176 (by decide) ?_
                        refine lv_idiv hx hb dX7_load_178 (by decide) ?_
                        refine lv_isub hx hb dX7_load_179 ?_
                        have ew_13 : ((tr + L10001) : Int64) = ltrS zo kd x y tr := by simp [ltrS, l11, l111, l1011, l10001, hpl, hdv, c_1, c_3, c_4, c_5, c_6, c_7, c_8, c_9, c_10, c_11, c_12]
                        have hP : va_P G vwCl [(o, .inr (7, [.int 0, .long (ltrS zo kd x y tr), .ref a_S, .ref a_K, .ref a_IK, .ref a_SV, .ref a_DR, .ref a_TX, .int td, .int nx, .int tk, .int pc, .int vl, .int fa, .int ff, .ref a_WY, .ref a_BE, .int bf, .int bm, .int bl, .ref a_MO, .ref a_DY, .ref a_PO, .ref a_HO, .ref a_WA, .int ng, .ref a_GA, .int nc, .ref a_CA, .int sl, .ref a_MT, .ref a_LW, .int nw, .ref a_WK, .int pe, .int pv, .int pt, .int pu])), (a_S, .inl (cI, 163, .inl (ms zo he go le hd gn la)))] H := by rw [← ew_13]; exact hP
                        exact retWi () hx hb hr (rfl) hlocks dX7_load_180 hS (by simp [loadS, lpS, lcS, holdS, hpl, hdv, c_1, c_3, c_4, c_5, c_6, c_7, c_8, c_9, c_10, c_11, c_12]) hP
                      · skip
                        exact absurd c_12 c_8
                    · skip
                      exact absurd c_11 c_7
                  · skip
                    exact absurd c_10 c_6
                · skip
                  exact absurd c_9 c_5
              · skip
                refine lv_ldc2 (own := RX7) (index := 156) (v := 1011) hx hb hown (hts _ k_19_17) dX7_load_109 ?_
                refine topl_eq (y := L1011) rfl ?_
                refine lv_goto (tgt := 118) hx hb dX7_load_112 (by decide) ?_
                refine lv_ladd hx hb dX7_load_118 ?_
                refine va_put (D := G) (ci := 7) (v := .long (tr + L1011)) (ty := .long) (C := RX7) (T := TX7) (N := 38) hx hb hts inlX7 tyX7 tyX7_ok nmX7 hown hK hP hD hS 0 rfl rfl 1 (by decide) (hts (.fieldLink RX7 148 "EarthBanksModel" "trace" "J") k_19_14) (fun _ h9 => h9) rfl (by decide +kernel) (rfl) (rfl) (Nat.le_of_ble_eq_true rfl) dX7_load_119 (fun H locs hP hD hS => ?_)
                have hP : va_P G vwCl [(o, .inr (7, [.int 0, .long (tr + L1011), .ref a_S, .ref a_K, .ref a_IK, .ref a_SV, .ref a_DR, .ref a_TX, .int td, .int nx, .int tk, .int pc, .int vl, .int fa, .int ff, .ref a_WY, .ref a_BE, .int bf, .int bm, .int bl, .ref a_MO, .ref a_DY, .ref a_PO, .ref a_HO, .ref a_WA, .int ng, .ref a_GA, .int nc, .ref a_CA, .int sl, .ref a_MT, .ref a_LW, .int nw, .ref a_WK, .int pe, .int pv, .int pt, .int pu])), (a_S, .inl (cI, 163, .inl (ms zo he go le hd gn la)))] H := hP
                have hD : va_D A [(o, .inr (7, [.int 0, .long (tr + L1011), .ref a_S, .ref a_K, .ref a_IK, .ref a_SV, .ref a_DR, .ref a_TX, .int td, .int nx, .int tk, .int pc, .int vl, .int fa, .int ff, .ref a_WY, .ref a_BE, .int bf, .int bm, .int bl, .ref a_MO, .ref a_DY, .ref a_PO, .ref a_HO, .ref a_WA, .int ng, .ref a_GA, .int nc, .ref a_CA, .int sl, .ref a_MT, .ref a_LW, .int nw, .ref a_WK, .int pe, .int pv, .int pt, .int pu])), (a_S, .inl (cI, 163, .inl (ms zo he go le hd gn la)))] := hD
                refine lv_iload_n hx hb dX7_load_122 rfl (lv_at hl 4 rfl) ?_
                refine lv_if_ne (tgt := 131) hx hb dX7_load_123 (by decide) (fun c_14 => ?_) (fun c_14 => ?_)
                · skip
                  refine lv_iload_n hx hb dX7_load_131 rfl (lv_at hl 4 rfl) ?_
                  refine lv_iconst (v := 1) hx hb dX7_load_132 (by decide) ?_
                  refine lv_icmp_ne (tgt := 141) hx hb dX7_load_133 (by decide) (fun c_15 => ?_) (fun c_15 => ?_)
                  · skip
                    refine lv_iload_n hx hb dX7_load_141 rfl (lv_at hl 4 rfl) ?_
                    refine lv_iconst (v := 2) hx hb dX7_load_142 (by decide) ?_
                    refine lv_icmp_ne (tgt := 156) hx hb dX7_load_143 (by decide) (fun c_16 => ?_) (fun c_16 => ?_)
                    · skip
                      refine lv_iload_n hx hb dX7_load_156 rfl (lv_at hl 4 rfl) ?_
                      refine lv_iconst (v := 3) hx hb dX7_load_157 (by decide) ?_
                      refine lv_icmp_ne (tgt := 168) hx hb dX7_load_158 (by decide) (fun c_17 => ?_) (fun c_17 => ?_)
                      · skip
                        exact absurd c_8 c_17
                      · skip
                        refine lv_iload hx hb dX7_load_161 (lv_at hl 0 rfl) ?_
                        refine lv_iconst (v := 2) hx hb dX7_load_163 (by decide) ?_
                        refine lv_idiv hx hb dX7_load_164 (by decide) ?_
                        refine lv_goto (tgt := 180) hx hb dX7_load_165 (by decide) ?_
                        have ew_18 : ((tr + L1011) : Int64) = ltrS zo kd x y tr := by simp [ltrS, l11, l111, l1011, l10001, hpl, hdv, c_1, c_3, c_4, c_5, c_6, c_7, eq_true c_8, c_14, c_15, c_16, eq_true c_17]
                        have hP : va_P G vwCl [(o, .inr (7, [.int 0, .long (ltrS zo kd x y tr), .ref a_S, .ref a_K, .ref a_IK, .ref a_SV, .ref a_DR, .ref a_TX, .int td, .int nx, .int tk, .int pc, .int vl, .int fa, .int ff, .ref a_WY, .ref a_BE, .int bf, .int bm, .int bl, .ref a_MO, .ref a_DY, .ref a_PO, .ref a_HO, .ref a_WA, .int ng, .ref a_GA, .int nc, .ref a_CA, .int sl, .ref a_MT, .ref a_LW, .int nw, .ref a_WK, .int pe, .int pv, .int pt, .int pu])), (a_S, .inl (cI, 163, .inl (ms zo he go le hd gn la)))] H := by rw [← ew_18]; exact hP
                        exact retWi () hx hb hr (rfl) hlocks dX7_load_180 hS (by simp [loadS, lpS, lcS, holdS, hpl, hdv, c_1, c_3, c_4, c_5, c_6, c_7, eq_true c_8, c_14, c_15, c_16, eq_true c_17]) hP
                    · skip
                      exact absurd c_16 c_7
                  · skip
                    exact absurd c_15 c_6
                · skip
                  exact absurd c_14 c_5
            · skip
              refine lv_ldc2 (own := RX7) (index := 154) (v := 111) hx hb hown (hts _ k_19_16) dX7_load_98 ?_
              refine topl_eq (y := L111) rfl ?_
              refine lv_goto (tgt := 118) hx hb dX7_load_101 (by decide) ?_
              refine lv_ladd hx hb dX7_load_118 ?_
              refine va_put (D := G) (ci := 7) (v := .long (tr + L111)) (ty := .long) (C := RX7) (T := TX7) (N := 38) hx hb hts inlX7 tyX7 tyX7_ok nmX7 hown hK hP hD hS 0 rfl rfl 1 (by decide) (hts (.fieldLink RX7 148 "EarthBanksModel" "trace" "J") k_19_14) (fun _ h9 => h9) rfl (by decide +kernel) (rfl) (rfl) (Nat.le_of_ble_eq_true rfl) dX7_load_119 (fun H locs hP hD hS => ?_)
              have hP : va_P G vwCl [(o, .inr (7, [.int 0, .long (tr + L111), .ref a_S, .ref a_K, .ref a_IK, .ref a_SV, .ref a_DR, .ref a_TX, .int td, .int nx, .int tk, .int pc, .int vl, .int fa, .int ff, .ref a_WY, .ref a_BE, .int bf, .int bm, .int bl, .ref a_MO, .ref a_DY, .ref a_PO, .ref a_HO, .ref a_WA, .int ng, .ref a_GA, .int nc, .ref a_CA, .int sl, .ref a_MT, .ref a_LW, .int nw, .ref a_WK, .int pe, .int pv, .int pt, .int pu])), (a_S, .inl (cI, 163, .inl (ms zo he go le hd gn la)))] H := hP
              have hD : va_D A [(o, .inr (7, [.int 0, .long (tr + L111), .ref a_S, .ref a_K, .ref a_IK, .ref a_SV, .ref a_DR, .ref a_TX, .int td, .int nx, .int tk, .int pc, .int vl, .int fa, .int ff, .ref a_WY, .ref a_BE, .int bf, .int bm, .int bl, .ref a_MO, .ref a_DY, .ref a_PO, .ref a_HO, .ref a_WA, .int ng, .ref a_GA, .int nc, .ref a_CA, .int sl, .ref a_MT, .ref a_LW, .int nw, .ref a_WK, .int pe, .int pv, .int pt, .int pu])), (a_S, .inl (cI, 163, .inl (ms zo he go le hd gn la)))] := hD
              refine lv_iload_n hx hb dX7_load_122 rfl (lv_at hl 4 rfl) ?_
              refine lv_if_ne (tgt := 131) hx hb dX7_load_123 (by decide) (fun c_19 => ?_) (fun c_19 => ?_)
              · skip
                refine lv_iload_n hx hb dX7_load_131 rfl (lv_at hl 4 rfl) ?_
                refine lv_iconst (v := 1) hx hb dX7_load_132 (by decide) ?_
                refine lv_icmp_ne (tgt := 141) hx hb dX7_load_133 (by decide) (fun c_20 => ?_) (fun c_20 => ?_)
                · skip
                  refine lv_iload_n hx hb dX7_load_141 rfl (lv_at hl 4 rfl) ?_
                  refine lv_iconst (v := 2) hx hb dX7_load_142 (by decide) ?_
                  refine lv_icmp_ne (tgt := 156) hx hb dX7_load_143 (by decide) (fun c_21 => ?_) (fun c_21 => ?_)
                  · skip
                    exact absurd c_7 c_21
                  · skip
                    refine lv_iload hx hb dX7_load_146 (lv_at hl 0 rfl) ?_
                    refine lv_iload hx hb dX7_load_148 (lv_at hl 0 rfl) ?_
                    refine lv_iconst (v := 3) hx hb dX7_load_150 (by decide) ?_
                    refine lv_idiv hx hb dX7_load_151 (by decide) ?_
                    refine lv_isub hx hb dX7_load_152 ?_
                    refine lv_goto (tgt := 180) hx hb dX7_load_153 (by decide) ?_
                    have ew_22 : ((tr + L111) : Int64) = ltrS zo kd x y tr := by simp [ltrS, l11, l111, l1011, l10001, hpl, hdv, c_1, c_3, c_4, c_5, c_6, eq_true c_7, c_19, c_20, eq_true c_21]
                    have hP : va_P G vwCl [(o, .inr (7, [.int 0, .long (ltrS zo kd x y tr), .ref a_S, .ref a_K, .ref a_IK, .ref a_SV, .ref a_DR, .ref a_TX, .int td, .int nx, .int tk, .int pc, .int vl, .int fa, .int ff, .ref a_WY, .ref a_BE, .int bf, .int bm, .int bl, .ref a_MO, .ref a_DY, .ref a_PO, .ref a_HO, .ref a_WA, .int ng, .ref a_GA, .int nc, .ref a_CA, .int sl, .ref a_MT, .ref a_LW, .int nw, .ref a_WK, .int pe, .int pv, .int pt, .int pu])), (a_S, .inl (cI, 163, .inl (ms zo he go le hd gn la)))] H := by rw [← ew_22]; exact hP
                    exact retWi () hx hb hr (rfl) hlocks dX7_load_180 hS (by simp [loadS, lpS, lcS, holdS, hpl, hdv, c_1, c_3, c_4, c_5, c_6, eq_true c_7, c_19, c_20, eq_true c_21]) hP
                · skip
                  exact absurd c_20 c_6
              · skip
                exact absurd c_19 c_5
          · skip
            refine lv_ldc2 (own := RX7) (index := 152) (v := 11) hx hb hown (hts _ k_19_15) dX7_load_87 ?_
            refine topl_eq (y := L11) rfl ?_
            refine lv_goto (tgt := 118) hx hb dX7_load_90 (by decide) ?_
            refine lv_ladd hx hb dX7_load_118 ?_
            refine va_put (D := G) (ci := 7) (v := .long (tr + L11)) (ty := .long) (C := RX7) (T := TX7) (N := 38) hx hb hts inlX7 tyX7 tyX7_ok nmX7 hown hK hP hD hS 0 rfl rfl 1 (by decide) (hts (.fieldLink RX7 148 "EarthBanksModel" "trace" "J") k_19_14) (fun _ h9 => h9) rfl (by decide +kernel) (rfl) (rfl) (Nat.le_of_ble_eq_true rfl) dX7_load_119 (fun H locs hP hD hS => ?_)
            have hP : va_P G vwCl [(o, .inr (7, [.int 0, .long (tr + L11), .ref a_S, .ref a_K, .ref a_IK, .ref a_SV, .ref a_DR, .ref a_TX, .int td, .int nx, .int tk, .int pc, .int vl, .int fa, .int ff, .ref a_WY, .ref a_BE, .int bf, .int bm, .int bl, .ref a_MO, .ref a_DY, .ref a_PO, .ref a_HO, .ref a_WA, .int ng, .ref a_GA, .int nc, .ref a_CA, .int sl, .ref a_MT, .ref a_LW, .int nw, .ref a_WK, .int pe, .int pv, .int pt, .int pu])), (a_S, .inl (cI, 163, .inl (ms zo he go le hd gn la)))] H := hP
            have hD : va_D A [(o, .inr (7, [.int 0, .long (tr + L11), .ref a_S, .ref a_K, .ref a_IK, .ref a_SV, .ref a_DR, .ref a_TX, .int td, .int nx, .int tk, .int pc, .int vl, .int fa, .int ff, .ref a_WY, .ref a_BE, .int bf, .int bm, .int bl, .ref a_MO, .ref a_DY, .ref a_PO, .ref a_HO, .ref a_WA, .int ng, .ref a_GA, .int nc, .ref a_CA, .int sl, .ref a_MT, .ref a_LW, .int nw, .ref a_WK, .int pe, .int pv, .int pt, .int pu])), (a_S, .inl (cI, 163, .inl (ms zo he go le hd gn la)))] := hD
            refine lv_iload_n hx hb dX7_load_122 rfl (lv_at hl 4 rfl) ?_
            refine lv_if_ne (tgt := 131) hx hb dX7_load_123 (by decide) (fun c_23 => ?_) (fun c_23 => ?_)
            · skip
              refine lv_iload_n hx hb dX7_load_131 rfl (lv_at hl 4 rfl) ?_
              refine lv_iconst (v := 1) hx hb dX7_load_132 (by decide) ?_
              refine lv_icmp_ne (tgt := 141) hx hb dX7_load_133 (by decide) (fun c_24 => ?_) (fun c_24 => ?_)
              · skip
                exact absurd c_6 c_24
              · skip
                refine lv_iload hx hb dX7_load_136 (lv_at hl 0 rfl) ?_
                refine lv_goto (tgt := 180) hx hb dX7_load_138 (by decide) ?_
                have ew_25 : ((tr + L11) : Int64) = ltrS zo kd x y tr := by simp [ltrS, l11, l111, l1011, l10001, hpl, hdv, c_1, c_3, c_4, c_5, eq_true c_6, c_23, eq_true c_24]
                have hP : va_P G vwCl [(o, .inr (7, [.int 0, .long (ltrS zo kd x y tr), .ref a_S, .ref a_K, .ref a_IK, .ref a_SV, .ref a_DR, .ref a_TX, .int td, .int nx, .int tk, .int pc, .int vl, .int fa, .int ff, .ref a_WY, .ref a_BE, .int bf, .int bm, .int bl, .ref a_MO, .ref a_DY, .ref a_PO, .ref a_HO, .ref a_WA, .int ng, .ref a_GA, .int nc, .ref a_CA, .int sl, .ref a_MT, .ref a_LW, .int nw, .ref a_WK, .int pe, .int pv, .int pt, .int pu])), (a_S, .inl (cI, 163, .inl (ms zo he go le hd gn la)))] H := by rw [← ew_25]; exact hP
                exact retWi () hx hb hr (rfl) hlocks dX7_load_180 hS (by simp [loadS, lpS, lcS, holdS, hpl, hdv, c_1, c_3, c_4, c_5, eq_true c_6, c_23, eq_true c_24]) hP
            · skip
              exact absurd c_23 c_5
        · skip
          refine lv_lconst (v := 1) hx hb dX7_load_78 rfl ?_
          refine lv_goto (tgt := 118) hx hb dX7_load_79 (by decide) ?_
          refine lv_ladd hx hb dX7_load_118 ?_
          refine va_put (D := G) (ci := 7) (v := .long (tr + 1)) (ty := .long) (C := RX7) (T := TX7) (N := 38) hx hb hts inlX7 tyX7 tyX7_ok nmX7 hown hK hP hD hS 0 rfl rfl 1 (by decide) (hts (.fieldLink RX7 148 "EarthBanksModel" "trace" "J") k_19_14) (fun _ h9 => h9) rfl (by decide +kernel) (rfl) (rfl) (Nat.le_of_ble_eq_true rfl) dX7_load_119 (fun H locs hP hD hS => ?_)
          have hP : va_P G vwCl [(o, .inr (7, [.int 0, .long (tr + 1), .ref a_S, .ref a_K, .ref a_IK, .ref a_SV, .ref a_DR, .ref a_TX, .int td, .int nx, .int tk, .int pc, .int vl, .int fa, .int ff, .ref a_WY, .ref a_BE, .int bf, .int bm, .int bl, .ref a_MO, .ref a_DY, .ref a_PO, .ref a_HO, .ref a_WA, .int ng, .ref a_GA, .int nc, .ref a_CA, .int sl, .ref a_MT, .ref a_LW, .int nw, .ref a_WK, .int pe, .int pv, .int pt, .int pu])), (a_S, .inl (cI, 163, .inl (ms zo he go le hd gn la)))] H := hP
          have hD : va_D A [(o, .inr (7, [.int 0, .long (tr + 1), .ref a_S, .ref a_K, .ref a_IK, .ref a_SV, .ref a_DR, .ref a_TX, .int td, .int nx, .int tk, .int pc, .int vl, .int fa, .int ff, .ref a_WY, .ref a_BE, .int bf, .int bm, .int bl, .ref a_MO, .ref a_DY, .ref a_PO, .ref a_HO, .ref a_WA, .int ng, .ref a_GA, .int nc, .ref a_CA, .int sl, .ref a_MT, .ref a_LW, .int nw, .ref a_WK, .int pe, .int pv, .int pt, .int pu])), (a_S, .inl (cI, 163, .inl (ms zo he go le hd gn la)))] := hD
          refine lv_iload_n hx hb dX7_load_122 rfl (lv_at hl 4 rfl) ?_
          refine lv_if_ne (tgt := 131) hx hb dX7_load_123 (by decide) (fun c_26 => ?_) (fun c_26 => ?_)
          · skip
            exact absurd c_5 c_26
          · skip
            refine lv_iload hx hb dX7_load_126 (lv_at hl 1 rfl) ?_
            refine lv_goto (tgt := 180) hx hb dX7_load_128 (by decide) ?_
            have ew_27 : ((tr + 1) : Int64) = ltrS zo kd x y tr := by simp [ltrS, l11, l111, l1011, l10001, hpl, hdv, c_1, c_3, c_4, eq_true c_5, eq_true c_26]
            have hP : va_P G vwCl [(o, .inr (7, [.int 0, .long (ltrS zo kd x y tr), .ref a_S, .ref a_K, .ref a_IK, .ref a_SV, .ref a_DR, .ref a_TX, .int td, .int nx, .int tk, .int pc, .int vl, .int fa, .int ff, .ref a_WY, .ref a_BE, .int bf, .int bm, .int bl, .ref a_MO, .ref a_DY, .ref a_PO, .ref a_HO, .ref a_WA, .int ng, .ref a_GA, .int nc, .ref a_CA, .int sl, .ref a_MT, .ref a_LW, .int nw, .ref a_WK, .int pe, .int pv, .int pt, .int pu])), (a_S, .inl (cI, 163, .inl (ms zo he go le hd gn la)))] H := by rw [← ew_27]; exact hP
            exact retWi () hx hb hr (rfl) hlocks dX7_load_180 hS (by simp [loadS, lpS, lcS, holdS, hpl, hdv, c_1, c_3, c_4, eq_true c_5, eq_true c_26]) hP
      · skip
        have c_4 : isAirS zo ((8 * yn) + xn) = true := mz_t c_4
        refine lv_bipush (v := (-2)) hx hb dX7_load_46 (by decide) ?_
        have ew_28 : (tr : Int64) = ltrS zo kd x y tr := by simp [ltrS, l11, l111, l1011, l10001, hpl, hdv, c_1, c_3, c_4]
        have hP : va_P G vwCl [(o, .inr (7, [.int 0, .long (ltrS zo kd x y tr), .ref a_S, .ref a_K, .ref a_IK, .ref a_SV, .ref a_DR, .ref a_TX, .int td, .int nx, .int tk, .int pc, .int vl, .int fa, .int ff, .ref a_WY, .ref a_BE, .int bf, .int bm, .int bl, .ref a_MO, .ref a_DY, .ref a_PO, .ref a_HO, .ref a_WA, .int ng, .ref a_GA, .int nc, .ref a_CA, .int sl, .ref a_MT, .ref a_LW, .int nw, .ref a_WK, .int pe, .int pv, .int pt, .int pu])), (a_S, .inl (cI, 163, .inl (ms zo he go le hd gn la)))] H := by rw [← ew_28]; exact hP
        exact retWi () hx hb hr (rfl) hlocks dX7_load_48 hS (by simp [loadS, lpS, lcS, holdS, hpl, hdv, c_1, c_3, c_4]) hP
    · skip
      have c_3 : (inC x y) = false := bI_f c_3
      refine lv_iconst (v := (-1)) hx hb dX7_load_22 (by decide) ?_
      have ew_29 : (tr : Int64) = ltrS zo kd x y tr := by simp [ltrS, l11, l111, l1011, l10001, c_1, c_3]
      have hP : va_P G vwCl [(o, .inr (7, [.int 0, .long (ltrS zo kd x y tr), .ref a_S, .ref a_K, .ref a_IK, .ref a_SV, .ref a_DR, .ref a_TX, .int td, .int nx, .int tk, .int pc, .int vl, .int fa, .int ff, .ref a_WY, .ref a_BE, .int bf, .int bm, .int bl, .ref a_MO, .ref a_DY, .ref a_PO, .ref a_HO, .ref a_WA, .int ng, .ref a_GA, .int nc, .ref a_CA, .int sl, .ref a_MT, .ref a_LW, .int nw, .ref a_WK, .int pe, .int pv, .int pt, .int pu])), (a_S, .inl (cI, 163, .inl (ms zo he go le hd gn la)))] H := by rw [← ew_29]; exact hP
      exact retWi () hx hb hr (rfl) hlocks dX7_load_23 hS (by simp [loadS, lpS, lcS, holdS, c_1, c_3]) hP
theorem cal_X7_lake : calV yX7_lake cX7_lake 3 (some .int) 1 := ⟨k_20_6, k_1_5, k_20_4, k_20_5, by decide +kernel⟩
set_option maxHeartbeats 4000000 in
set_option maxRecDepth 100000 in
theorem c_X7_lake (l : Launch) (G : va_G) (E : EvT) (cI cZ : ClassId) (zo : Nat → Int32) (he : Nat → Int32) (go : Nat → Int32) (le : Nat → Int32) (hd : Nat → Int32) (gn : Nat → Int32) (la : Int32) (v : Int32) (o : Nat) (a_S : Nat) (a_K : Nat) (a_IK : Nat) (a_SV : Nat) (a_DR : Nat) (a_TX : Nat) (a_WY : Nat) (a_BE : Nat) (a_MO : Nat) (a_DY : Nat) (a_PO : Nat) (a_HO : Nat) (a_WA : Nat) (a_GA : Nat) (a_CA : Nat) (a_MT : Nat) (a_LW : Nat) (a_WK : Nat) (th : Int32) (tr : Int64) (td : Int32) (nx : Int32) (tk : Int32) (pc : Int32) (vl : Int32) (fa : Int32) (ff : Int32) (bf : Int32) (bm : Int32) (bl : Int32) (ng : Int32) (nc : Int32) (sl : Int32) (nw : Int32) (pe : Int32) (pv : Int32) (pt : Int32) (pu : Int32) : cWi (S := Unit) l G E yX7_lake cX7_lake 3 (some .int) 8 [(cI, .int), (cZ, .boolean)] [.ref o, .int v] [(o, .inr (7, [.int th, .long tr, .ref a_S, .ref a_K, .ref a_IK, .ref a_SV, .ref a_DR, .ref a_TX, .int td, .int nx, .int tk, .int pc, .int vl, .int fa, .int ff, .ref a_WY, .ref a_BE, .int bf, .int bm, .int bl, .ref a_MO, .ref a_DY, .ref a_PO, .ref a_HO, .ref a_WA, .int ng, .ref a_GA, .int nc, .ref a_CA, .int sl, .ref a_MT, .ref a_LW, .int nw, .ref a_WK, .int pe, .int pv, .int pt, .int pu])), (a_S, .inl (cI, 163, .inl (ms zo he go le hd gn la)))] (fun r _ => r = (if wiB v 0 6 then la else (-1))) (fun _ => [(o, .inr (7, [.int 0, .long tr, .ref a_S, .ref a_K, .ref a_IK, .ref a_SV, .ref a_DR, .ref a_TX, .int td, .int nx, .int tk, .int pc, .int vl, .int fa, .int ff, .ref a_WY, .ref a_BE, .int bf, .int bm, .int bl, .ref a_MO, .ref a_DY, .ref a_PO, .ref a_HO, .ref a_WA, .int ng, .ref a_GA, .int nc, .ref a_CA, .int sl, .ref a_MT, .ref a_LW, .int nw, .ref a_WK, .int pe, .int pv, .int pt, .int pu])), (a_S, .inl (cI, 163, .inl (ms zo he go le hd gn (if wiB v 0 6 then v else la))))]) := by
  refine mkWi (by decide) (Nat.le_of_ble_eq_true rfl) ?_
  intro zp ze s zm args below meth zc hx hb hr hml hown hts hlocks hE hK A hA hlow H locs hP hD hS ls hl
  have hl : lv_has ls 3 [(0, .ref o), (1, .int v)] := hl
  refine lv_aload_n hx hb dX7_lake_0 rfl (lv_at hl 0 rfl) ?_
  refine lv_iconst (v := 0) hx hb dX7_lake_1 (by decide) ?_
  refine va_put (D := G) (ci := 7) (v := .int 0) (ty := .int) (C := RX7) (T := TX7) (N := 38) hx hb hts inlX7 tyX7 tyX7_ok nmX7 hown hK hP hD hS 0 rfl rfl 0 (by decide) (hts (.fieldLink RX7 75 "EarthBanksModel" "thrown" "I") k_7_19) (fun _ h9 => h9) rfl (by decide +kernel) (rfl) (rfl) (Nat.le_of_ble_eq_true rfl) dX7_lake_2 (fun H locs hP hD hS => ?_)
  have hP : va_P G vwCl [(o, .inr (7, [.int 0, .long tr, .ref a_S, .ref a_K, .ref a_IK, .ref a_SV, .ref a_DR, .ref a_TX, .int td, .int nx, .int tk, .int pc, .int vl, .int fa, .int ff, .ref a_WY, .ref a_BE, .int bf, .int bm, .int bl, .ref a_MO, .ref a_DY, .ref a_PO, .ref a_HO, .ref a_WA, .int ng, .ref a_GA, .int nc, .ref a_CA, .int sl, .ref a_MT, .ref a_LW, .int nw, .ref a_WK, .int pe, .int pv, .int pt, .int pu])), (a_S, .inl (cI, 163, .inl (ms zo he go le hd gn la)))] H := hP
  have hD : va_D A [(o, .inr (7, [.int 0, .long tr, .ref a_S, .ref a_K, .ref a_IK, .ref a_SV, .ref a_DR, .ref a_TX, .int td, .int nx, .int tk, .int pc, .int vl, .int fa, .int ff, .ref a_WY, .ref a_BE, .int bf, .int bm, .int bl, .ref a_MO, .ref a_DY, .ref a_PO, .ref a_HO, .ref a_WA, .int ng, .ref a_GA, .int nc, .ref a_CA, .int sl, .ref a_MT, .ref a_LW, .int nw, .ref a_WK, .int pe, .int pv, .int pt, .int pu])), (a_S, .inl (cI, 163, .inl (ms zo he go le hd gn la)))] := hD
  refine lv_iload_n hx hb dX7_lake_5 rfl (lv_at hl 1 rfl) ?_
  refine lv_iconst (v := 0) hx hb dX7_lake_6 (by decide) ?_
  refine lv_bipush (v := 6) hx hb dX7_lake_7 (by decide) ?_
  refine cRS (As := [.int v, .int 0, .int 6]) (rest := []) hx hb hml hown hts (c_X7_in l G E cI cZ v 0 6) k_7_22 cal_X7_in ⟨Nat.le_of_ble_eq_true rfl, Nat.le_of_ble_eq_true rfl⟩ hE hlow hS hK [0, 1] rfl hP [] rfl rfl hl.1 rfl (Nat.le_of_ble_eq_true rfl) dX7_lake_9 ⟨Nat.zero_le _, Nat.zero_le _⟩ ?_
  refine lv_if_ne (tgt := 17) hx hb dX7_lake_12 (by decide) (fun c_1 => ?_) (fun c_1 => ?_)
  · skip
    have c_1 : (wiB v 0 6) = true := bI_t c_1
    refine lv_aload_n hx hb dX7_lake_17 rfl (lv_at hl 0 rfl) ?_
    refine va_get (D := G) (ci := 7) (v := .ref a_S) (C := RX7) (T := TX7) (N := 38) hx hb hts inlX7 hown hK hP 0 rfl rfl 2 (by decide) (hts (.fieldLink RX7 7 "EarthBanksModel" "s" "[I") k_6_2) (fun _ h9 => h9) rfl dX7_lake_18 ?_
    refine lv_sipush (v := 162) hx hb dX7_lake_21 (by decide) ?_
    refine ialdN (j := 162) hx hb hK hP 1 0 rfl rfl (by omega) (by decide) dX7_lake_24 ?_
    refine top_eq (y := la) (ms_a (by omega)) ?_
    refine lv_istore_n (lv' := [(2, .int la), (0, .ref o), (1, .int v)]) hx hb dX7_lake_25 rfl hl (by decide) rfl (fun ls hl => ?_)
    refine lv_aload_n hx hb dX7_lake_26 rfl (lv_at hl 1 rfl) ?_
    refine va_get (D := G) (ci := 7) (v := .ref a_S) (C := RX7) (T := TX7) (N := 38) hx hb hts inlX7 hown hK hP 0 rfl rfl 2 (by decide) (hts (.fieldLink RX7 7 "EarthBanksModel" "s" "[I") k_6_2) (fun _ h9 => h9) rfl dX7_lake_27 ?_
    refine lv_sipush (v := 162) hx hb dX7_lake_30 (by decide) ?_
    refine lv_iload_n hx hb dX7_lake_33 rfl (lv_at hl 2 rfl) ?_
    refine iastN (j := 162) hx hb hK hP hD hS 1 0 rfl rfl (by omega) (by decide) dX7_lake_34 (fun H locs hP hD hS => ?_)
    have hP : va_P G vwCl [(o, .inr (7, [.int 0, .long tr, .ref a_S, .ref a_K, .ref a_IK, .ref a_SV, .ref a_DR, .ref a_TX, .int td, .int nx, .int tk, .int pc, .int vl, .int fa, .int ff, .ref a_WY, .ref a_BE, .int bf, .int bm, .int bl, .ref a_MO, .ref a_DY, .ref a_PO, .ref a_HO, .ref a_WA, .int ng, .ref a_GA, .int nc, .ref a_CA, .int sl, .ref a_MT, .ref a_LW, .int nw, .ref a_WK, .int pe, .int pv, .int pt, .int pu])), (a_S, .inl (cI, 163, .inl (upd (ms zo he go le hd gn la) 162 v)))] H := hP
    have hD : va_D A [(o, .inr (7, [.int 0, .long tr, .ref a_S, .ref a_K, .ref a_IK, .ref a_SV, .ref a_DR, .ref a_TX, .int td, .int nx, .int tk, .int pc, .int vl, .int fa, .int ff, .ref a_WY, .ref a_BE, .int bf, .int bm, .int bl, .ref a_MO, .ref a_DY, .ref a_PO, .ref a_HO, .ref a_WA, .int ng, .ref a_GA, .int nc, .ref a_CA, .int sl, .ref a_MT, .ref a_LW, .int nw, .ref a_WK, .int pe, .int pv, .int pt, .int pu])), (a_S, .inl (cI, 163, .inl (upd (ms zo he go le hd gn la) 162 v)))] := hD
    have en_2 : upd (ms zo he go le hd gn la) 162 v = ms zo he go le hd gn v := ms_ua (by omega)
    rw [en_2] at hP hD
    have hP : va_P G vwCl [(o, .inr (7, [.int 0, .long tr, .ref a_S, .ref a_K, .ref a_IK, .ref a_SV, .ref a_DR, .ref a_TX, .int td, .int nx, .int tk, .int pc, .int vl, .int fa, .int ff, .ref a_WY, .ref a_BE, .int bf, .int bm, .int bl, .ref a_MO, .ref a_DY, .ref a_PO, .ref a_HO, .ref a_WA, .int ng, .ref a_GA, .int nc, .ref a_CA, .int sl, .ref a_MT, .ref a_LW, .int nw, .ref a_WK, .int pe, .int pv, .int pt, .int pu])), (a_S, .inl (cI, 163, .inl (ms zo he go le hd gn v)))] H := hP
    have hD : va_D A [(o, .inr (7, [.int 0, .long tr, .ref a_S, .ref a_K, .ref a_IK, .ref a_SV, .ref a_DR, .ref a_TX, .int td, .int nx, .int tk, .int pc, .int vl, .int fa, .int ff, .ref a_WY, .ref a_BE, .int bf, .int bm, .int bl, .ref a_MO, .ref a_DY, .ref a_PO, .ref a_HO, .ref a_WA, .int ng, .ref a_GA, .int nc, .ref a_CA, .int sl, .ref a_MT, .ref a_LW, .int nw, .ref a_WK, .int pe, .int pv, .int pt, .int pu])), (a_S, .inl (cI, 163, .inl (ms zo he go le hd gn v)))] := hD
    refine lv_iload_n hx hb dX7_lake_35 rfl (lv_at hl 0 rfl) ?_
    have ew_3 : (ms zo he go le hd gn v) = (ms zo he go le hd gn (if wiB v 0 6 then v else la)) := by simp [bI, c_1]
    have hP : va_P G vwCl [(o, .inr (7, [.int 0, .long tr, .ref a_S, .ref a_K, .ref a_IK, .ref a_SV, .ref a_DR, .ref a_TX, .int td, .int nx, .int tk, .int pc, .int vl, .int fa, .int ff, .ref a_WY, .ref a_BE, .int bf, .int bm, .int bl, .ref a_MO, .ref a_DY, .ref a_PO, .ref a_HO, .ref a_WA, .int ng, .ref a_GA, .int nc, .ref a_CA, .int sl, .ref a_MT, .ref a_LW, .int nw, .ref a_WK, .int pe, .int pv, .int pt, .int pu])), (a_S, .inl (cI, 163, .inl (ms zo he go le hd gn (if wiB v 0 6 then v else la))))] H := by rw [← ew_3]; exact hP
    exact retWi () hx hb hr (rfl) hlocks dX7_lake_36 hS (by simp [bI, c_1]) hP
  · skip
    have c_1 : (wiB v 0 6) = false := bI_f c_1
    refine lv_iconst (v := (-1)) hx hb dX7_lake_15 (by decide) ?_
    have ew_4 : (ms zo he go le hd gn la) = (ms zo he go le hd gn (if wiB v 0 6 then v else la)) := by simp [bI, c_1]
    have hP : va_P G vwCl [(o, .inr (7, [.int 0, .long tr, .ref a_S, .ref a_K, .ref a_IK, .ref a_SV, .ref a_DR, .ref a_TX, .int td, .int nx, .int tk, .int pc, .int vl, .int fa, .int ff, .ref a_WY, .ref a_BE, .int bf, .int bm, .int bl, .ref a_MO, .ref a_DY, .ref a_PO, .ref a_HO, .ref a_WA, .int ng, .ref a_GA, .int nc, .ref a_CA, .int sl, .ref a_MT, .ref a_LW, .int nw, .ref a_WK, .int pe, .int pv, .int pt, .int pu])), (a_S, .inl (cI, 163, .inl (ms zo he go le hd gn (if wiB v 0 6 then v else la))))] H := by rw [← ew_4]; exact hP
    exact retWi () hx hb hr (rfl) hlocks dX7_lake_16 hS (by simp [bI, c_1]) hP
theorem cal_X7_sweep : calV yX7_sweep cX7_sweep 3 (some .int) 1 := ⟨k_22_11, k_1_5, k_22_9, k_22_10, by decide +kernel⟩
set_option maxHeartbeats 4000000 in
set_option maxRecDepth 100000 in
theorem c_X7_sweep (l : Launch) (G : va_G) (E : EvT) (cI cZ : ClassId) (zo : Nat → Int32) (he : Nat → Int32) (go : Nat → Int32) (le : Nat → Int32) (hd : Nat → Int32) (gn : Nat → Int32) (la : Int32) (v : Int32) (o : Nat) (a_S : Nat) (a_K : Nat) (a_IK : Nat) (a_SV : Nat) (a_DR : Nat) (a_TX : Nat) (a_WY : Nat) (a_BE : Nat) (a_MO : Nat) (a_DY : Nat) (a_PO : Nat) (a_HO : Nat) (a_WA : Nat) (a_GA : Nat) (a_CA : Nat) (a_MT : Nat) (a_LW : Nat) (a_WK : Nat) (th : Int32) (tr : Int64) (td : Int32) (nx : Int32) (tk : Int32) (pc : Int32) (vl : Int32) (fa : Int32) (ff : Int32) (bf : Int32) (bm : Int32) (bl : Int32) (ng : Int32) (nc : Int32) (sl : Int32) (nw : Int32) (pe : Int32) (pv : Int32) (pt : Int32) (pu : Int32) : cWi (S := Unit) l G E yX7_sweep cX7_sweep 3 (some .int) 8 [(cI, .int), (cZ, .boolean)] [.ref o, .int v] [(o, .inr (7, [.int th, .long tr, .ref a_S, .ref a_K, .ref a_IK, .ref a_SV, .ref a_DR, .ref a_TX, .int td, .int nx, .int tk, .int pc, .int vl, .int fa, .int ff, .ref a_WY, .ref a_BE, .int bf, .int bm, .int bl, .ref a_MO, .ref a_DY, .ref a_PO, .ref a_HO, .ref a_WA, .int ng, .ref a_GA, .int nc, .ref a_CA, .int sl, .ref a_MT, .ref a_LW, .int nw, .ref a_WK, .int pe, .int pv, .int pt, .int pu])), (a_S, .inl (cI, 163, .inl (ms zo he go le hd gn la)))] (fun r _ => r = (if wiB v 1 100 then cntS (wetS zo (swN zo go le la he v.toNatClampNeg) go) 48 else (-1))) (fun _ => [(o, .inr (7, [.int 0, .long tr, .ref a_S, .ref a_K, .ref a_IK, .ref a_SV, .ref a_DR, .ref a_TX, .int td, .int nx, .int tk, .int pc, .int vl, .int fa, .int ff, .ref a_WY, .ref a_BE, .int bf, .int bm, .int bl, .ref a_MO, .ref a_DY, .ref a_PO, .ref a_HO, .ref a_WA, .int ng, .ref a_GA, .int nc, .ref a_CA, .int sl, .ref a_MT, .ref a_LW, .int nw, .ref a_WK, .int pe, .int pv, .int pt, .int pu])), (a_S, .inl (cI, 163, .inl (ms zo (if wiB v 1 100 then swN zo go le la he v.toNatClampNeg else he) go le hd gn la)))]) := by
  refine mkWi (by decide) (Nat.le_of_ble_eq_true rfl) ?_
  intro zp ze s zm args below meth zc hx hb hr hml hown hts hlocks hE hK A hA hlow H locs hP hD hS ls hl
  have hl : lv_has ls 3 [(0, .ref o), (1, .int v)] := hl
  refine lv_aload_n hx hb dX7_sweep_0 rfl (lv_at hl 0 rfl) ?_
  refine lv_iconst (v := 0) hx hb dX7_sweep_1 (by decide) ?_
  refine va_put (D := G) (ci := 7) (v := .int 0) (ty := .int) (C := RX7) (T := TX7) (N := 38) hx hb hts inlX7 tyX7 tyX7_ok nmX7 hown hK hP hD hS 0 rfl rfl 0 (by decide) (hts (.fieldLink RX7 75 "EarthBanksModel" "thrown" "I") k_7_19) (fun _ h9 => h9) rfl (by decide +kernel) (rfl) (rfl) (Nat.le_of_ble_eq_true rfl) dX7_sweep_2 (fun H locs hP hD hS => ?_)
  have hP : va_P G vwCl [(o, .inr (7, [.int 0, .long tr, .ref a_S, .ref a_K, .ref a_IK, .ref a_SV, .ref a_DR, .ref a_TX, .int td, .int nx, .int tk, .int pc, .int vl, .int fa, .int ff, .ref a_WY, .ref a_BE, .int bf, .int bm, .int bl, .ref a_MO, .ref a_DY, .ref a_PO, .ref a_HO, .ref a_WA, .int ng, .ref a_GA, .int nc, .ref a_CA, .int sl, .ref a_MT, .ref a_LW, .int nw, .ref a_WK, .int pe, .int pv, .int pt, .int pu])), (a_S, .inl (cI, 163, .inl (ms zo he go le hd gn la)))] H := hP
  have hD : va_D A [(o, .inr (7, [.int 0, .long tr, .ref a_S, .ref a_K, .ref a_IK, .ref a_SV, .ref a_DR, .ref a_TX, .int td, .int nx, .int tk, .int pc, .int vl, .int fa, .int ff, .ref a_WY, .ref a_BE, .int bf, .int bm, .int bl, .ref a_MO, .ref a_DY, .ref a_PO, .ref a_HO, .ref a_WA, .int ng, .ref a_GA, .int nc, .ref a_CA, .int sl, .ref a_MT, .ref a_LW, .int nw, .ref a_WK, .int pe, .int pv, .int pt, .int pu])), (a_S, .inl (cI, 163, .inl (ms zo he go le hd gn la)))] := hD
  refine lv_iload_n hx hb dX7_sweep_5 rfl (lv_at hl 1 rfl) ?_
  refine lv_iconst (v := 1) hx hb dX7_sweep_6 (by decide) ?_
  refine lv_bipush (v := 100) hx hb dX7_sweep_7 (by decide) ?_
  refine cRS (As := [.int v, .int 1, .int 100]) (rest := []) hx hb hml hown hts (c_X7_in l G E cI cZ v 1 100) k_7_22 cal_X7_in ⟨Nat.le_of_ble_eq_true rfl, Nat.le_of_ble_eq_true rfl⟩ hE hlow hS hK [0, 1] rfl hP [] rfl rfl hl.1 rfl (Nat.le_of_ble_eq_true rfl) dX7_sweep_9 ⟨Nat.zero_le _, Nat.zero_le _⟩ ?_
  refine lv_if_ne (tgt := 17) hx hb dX7_sweep_12 (by decide) (fun c_1 => ?_) (fun c_1 => ?_)
  · skip
    have c_1 : (wiB v 1 100) = true := bI_t c_1
    obtain ⟨vn, h1v9, hv9, hev, hcv⟩ := wiB_1 (M := 100) (by omega) c_1
    have hl : lv_has ls 3 [(0, .ref o), (1, .int (nI vn))] := by rw [hev] at hl; exact hl
    refine lv_iconst (v := 0) hx hb dX7_sweep_17 (by decide) ?_
    refine lv_istore_n (lv' := [(2, .int 0), (0, .ref o), (1, .int (nI vn))]) hx hb dX7_sweep_18 rfl hl (by decide) rfl (fun ls hl => ?_)
    suffices lp19 : ∀ zn k19 : Nat, 0 ≤ k19 → k19 ≤ vn → vn < k19 + zn → ∀ (H : Heap) (locs : List Loc), va_P G vwCl [(o, .inr (7, [.int 0, .long tr, .ref a_S, .ref a_K, .ref a_IK, .ref a_SV, .ref a_DR, .ref a_TX, .int td, .int nx, .int tk, .int pc, .int vl, .int fa, .int ff, .ref a_WY, .ref a_BE, .int bf, .int bm, .int bl, .ref a_MO, .ref a_DY, .ref a_PO, .ref a_HO, .ref a_WA, .int ng, .ref a_GA, .int nc, .ref a_CA, .int sl, .ref a_MT, .ref a_LW, .int nw, .ref a_WK, .int pe, .int pv, .int pt, .int pu])), (a_S, .inl (cI, 163, .inl (ms zo (swN zo go le la he k19) go le hd gn la)))] H → va_D A [(o, .inr (7, [.int 0, .long tr, .ref a_S, .ref a_K, .ref a_IK, .ref a_SV, .ref a_DR, .ref a_TX, .int td, .int nx, .int tk, .int pc, .int vl, .int fa, .int ff, .ref a_WY, .ref a_BE, .int bf, .int bm, .int bl, .ref a_MO, .ref a_DY, .ref a_PO, .ref a_HO, .ref a_WA, .int ng, .ref a_GA, .int nc, .ref a_CA, .int sl, .ref a_MT, .ref a_LW, .int nw, .ref a_WK, .int pe, .int pv, .int pt, .int pu])), (a_S, .inl (cI, 163, .inl (ms zo (swN zo go le la he k19) go le hd gn la)))] → va_S A s.heap H locs → ∀ ls : Array Slot, lv_has ls 3 [(0, .ref o), (1, .int (nI vn)), (2, .int (nI k19))] → W zp l ze (rmK 8) s zm args below meth zc H locs 0 0 (MQ below (va_Qi (S := Unit) (fun r _ => r = (if wiB v 1 100 then cntS (wetS zo (swN zo go le la he v.toNatClampNeg) go) 48 else (-1))) (fun u t => va_P G vwCl ((fun _ => [(o, .inr (7, [.int 0, .long tr, .ref a_S, .ref a_K, .ref a_IK, .ref a_SV, .ref a_DR, .ref a_TX, .int td, .int nx, .int tk, .int pc, .int vl, .int fa, .int ff, .ref a_WY, .ref a_BE, .int bf, .int bm, .int bl, .ref a_MO, .ref a_DY, .ref a_PO, .ref a_HO, .ref a_WA, .int ng, .ref a_GA, .int nc, .ref a_CA, .int sl, .ref a_MT, .ref a_LW, .int nw, .ref a_WK, .int pe, .int pv, .int pt, .int pu])), (a_S, .inl (cI, 163, .inl (ms zo (if wiB v 1 100 then swN zo go le la he v.toNatClampNeg else he) go le hd gn la)))]) u) t.heap) A) args s 0 0 A) (F0 zm 19 ls []) by
      have el_2 : (0 : Int32) = nI 0 := rfl
      have er_3 : (ms zo he go le hd gn la) = (ms zo (swN zo go le la he 0) go le hd gn la) := rfl
      exact lp19 (vn + 1 - 0) 0 (by omega) (by omega) (by omega)  H locs (by rw [← er_3]; exact hP) (by rw [← er_3]; exact hD) hS ls (lv_sub hl [1, 2, 0] (show ([(0, .ref o), (1, .int (nI vn)), (2, .int 0)] : List (Nat × Value)) = [(0, .ref o), (1, .int (nI vn)), (2, .int (nI 0))] by rw [← el_2]))
    intro zn
    induction zn with
    | zero => exact fun k19 h1 h2 h3 => absurd h3 (by omega)
    | succ zn ih19 =>
      intro k19 hlo19 hhi19 hn19  H locs hP hD hS ls hl
      refine lv_iload_n hx hb dX7_sweep_19 rfl (lv_at hl 2 rfl) ?_
      refine lv_iload_n hx hb dX7_sweep_20 rfl (lv_at hl 1 rfl) ?_
      refine lv_icmp_ge (tgt := 34) hx hb dX7_sweep_21 (by decide) (fun c_4 => ?_) (fun c_4 => ?_)
      · skip
        have c_4 : vn ≤ k19 := (nI_leI (a := vn) (b := k19) (by omega) (by omega)).mp c_4
        have hk9 : vn = k19 := by omega
        subst hk9
        refine lv_aload_n hx hb dX7_sweep_34 rfl (lv_at hl 0 rfl) ?_
        refine cRV (As := []) (rest := []) hx hb hml hown hts (c_X7_wet l G E cI cZ zo (swN zo go le la he vn) go le hd gn la o a_S [.int 0, .long tr, .ref a_S, .ref a_K, .ref a_IK, .ref a_SV, .ref a_DR, .ref a_TX, .int td, .int nx, .int tk, .int pc, .int vl, .int fa, .int ff, .ref a_WY, .ref a_BE, .int bf, .int bm, .int bl, .ref a_MO, .ref a_DY, .ref a_PO, .ref a_HO, .ref a_WA, .int ng, .ref a_GA, .int nc, .ref a_CA, .int sl, .ref a_MT, .ref a_LW, .int nw, .ref a_WK, .int pe, .int pv, .int pt, .int pu] rfl) k_23_3 cal_X7_wet ⟨Nat.le_of_ble_eq_true rfl, Nat.le_of_ble_eq_true rfl⟩ hE hlow hS hK [0, 1] rfl hP [0, 1] rfl 0 7 rfl rfl rfl hl.1 rfl (Nat.le_of_ble_eq_true rfl) dX7_sweep_35 ⟨Nat.zero_le _, Nat.zero_le _⟩ ?_
        have ew_5 : (ms zo (swN zo go le la he vn) go le hd gn la) = (ms zo (if wiB v 1 100 then swN zo go le la he v.toNatClampNeg else he) go le hd gn la) := by simp [hcv, c_1, c_4]
        have hP : va_P G vwCl [(o, .inr (7, [.int 0, .long tr, .ref a_S, .ref a_K, .ref a_IK, .ref a_SV, .ref a_DR, .ref a_TX, .int td, .int nx, .int tk, .int pc, .int vl, .int fa, .int ff, .ref a_WY, .ref a_BE, .int bf, .int bm, .int bl, .ref a_MO, .ref a_DY, .ref a_PO, .ref a_HO, .ref a_WA, .int ng, .ref a_GA, .int nc, .ref a_CA, .int sl, .ref a_MT, .ref a_LW, .int nw, .ref a_WK, .int pe, .int pv, .int pt, .int pu])), (a_S, .inl (cI, 163, .inl (ms zo (if wiB v 1 100 then swN zo go le la he v.toNatClampNeg else he) go le hd gn la)))] H := by rw [← ew_5]; exact hP
        exact retWi () hx hb hr (rfl) hlocks dX7_sweep_38 hS (by simp [hcv, c_1, c_4]) hP
      · skip
        have c_4 : ¬ vn ≤ k19 := fun h9 => c_4 ((nI_leI (a := vn) (b := k19) (by omega) (by omega)).mpr h9)
        refine lv_aload_n hx hb dX7_sweep_24 rfl (lv_at hl 0 rfl) ?_
        refine cWVv (As := []) (rest := []) hx hb hml hown hts (c_X7_sweeps l G E cI cZ zo (swN zo go le la he k19) go le hd gn la o a_S [.int 0, .long tr, .ref a_S, .ref a_K, .ref a_IK, .ref a_SV, .ref a_DR, .ref a_TX, .int td, .int nx, .int tk, .int pc, .int vl, .int fa, .int ff, .ref a_WY, .ref a_BE, .int bf, .int bm, .int bl, .ref a_MO, .ref a_DY, .ref a_PO, .ref a_HO, .ref a_WA, .int ng, .ref a_GA, .int nc, .ref a_CA, .int sl, .ref a_MT, .ref a_LW, .int nw, .ref a_WK, .int pe, .int pv, .int pt, .int pu] rfl) k_22_12 cal_X7_sweeps ⟨Nat.le_of_ble_eq_true rfl, Nat.le_of_ble_eq_true rfl⟩ hE hA hlow hD hS hK [0, 1] rfl hP [0, 1] rfl (by decide) [o, a_S] rfl (fun _ => rfl) [] [] (fun _ => [(o, .inr (7, [.int 0, .long tr, .ref a_S, .ref a_K, .ref a_IK, .ref a_SV, .ref a_DR, .ref a_TX, .int td, .int nx, .int tk, .int pc, .int vl, .int fa, .int ff, .ref a_WY, .ref a_BE, .int bf, .int bm, .int bl, .ref a_MO, .ref a_DY, .ref a_PO, .ref a_HO, .ref a_WA, .int ng, .ref a_GA, .int nc, .ref a_CA, .int sl, .ref a_MT, .ref a_LW, .int nw, .ref a_WK, .int pe, .int pv, .int pt, .int pu])), (a_S, .inl (cI, 163, .inl (ms zo (swM zo go le la (swN zo go le la he k19)) go le hd gn la)))]) 2 rfl (fun _ => rfl) (fun _ => rfl) (fun _ => rfl) (by decide) (by decide) 0 7 rfl rfl rfl hl.1 rfl (Nat.le_of_ble_eq_true rfl) dX7_sweep_25 ⟨Nat.zero_le _, Nat.zero_le _⟩ (fun u H locs hr_ hP hD hS => ?_)
        have hP : va_P G vwCl [(o, .inr (7, [.int 0, .long tr, .ref a_S, .ref a_K, .ref a_IK, .ref a_SV, .ref a_DR, .ref a_TX, .int td, .int nx, .int tk, .int pc, .int vl, .int fa, .int ff, .ref a_WY, .ref a_BE, .int bf, .int bm, .int bl, .ref a_MO, .ref a_DY, .ref a_PO, .ref a_HO, .ref a_WA, .int ng, .ref a_GA, .int nc, .ref a_CA, .int sl, .ref a_MT, .ref a_LW, .int nw, .ref a_WK, .int pe, .int pv, .int pt, .int pu])), (a_S, .inl (cI, 163, .inl (ms zo (swM zo go le la (swN zo go le la he k19)) go le hd gn la)))] H := hP
        have hD : va_D A [(o, .inr (7, [.int 0, .long tr, .ref a_S, .ref a_K, .ref a_IK, .ref a_SV, .ref a_DR, .ref a_TX, .int td, .int nx, .int tk, .int pc, .int vl, .int fa, .int ff, .ref a_WY, .ref a_BE, .int bf, .int bm, .int bl, .ref a_MO, .ref a_DY, .ref a_PO, .ref a_HO, .ref a_WA, .int ng, .ref a_GA, .int nc, .ref a_CA, .int sl, .ref a_MT, .ref a_LW, .int nw, .ref a_WK, .int pe, .int pv, .int pt, .int pu])), (a_S, .inl (cI, 163, .inl (ms zo (swM zo go le la (swN zo go le la he k19)) go le hd gn la)))] := hD
        refine lv_iinc (v := nI (k19 + 1)) (lv' := [(2, .int (nI (k19 + 1))), (0, .ref o), (1, .int (nI vn))]) hx hb dX7_sweep_28 hl (k := 2) rfl (nI_add _ _) (by decide) rfl (fun ls hl => ?_)
        refine lv_goto (tgt := 19) hx hb dX7_sweep_31 (by decide) ?_
        have er_6 : (ms zo (swM zo go le la (swN zo go le la he k19)) go le hd gn la) = (ms zo (swN zo go le la he (k19 + 1)) go le hd gn la) := rfl
        exact ih19 (k19 + 1) (by omega) (by omega) (by omega)  H locs (by rw [← er_6]; exact hP) (by rw [← er_6]; exact hD) hS ls (lv_sub hl [1, 2, 0] rfl)
  · skip
    have c_1 : (wiB v 1 100) = false := bI_f c_1
    refine lv_iconst (v := (-1)) hx hb dX7_sweep_15 (by decide) ?_
    have ew_7 : (ms zo he go le hd gn la) = (ms zo (if wiB v 1 100 then swN zo go le la he v.toNatClampNeg else he) go le hd gn la) := by simp [c_1]
    have hP : va_P G vwCl [(o, .inr (7, [.int 0, .long tr, .ref a_S, .ref a_K, .ref a_IK, .ref a_SV, .ref a_DR, .ref a_TX, .int td, .int nx, .int tk, .int pc, .int vl, .int fa, .int ff, .ref a_WY, .ref a_BE, .int bf, .int bm, .int bl, .ref a_MO, .ref a_DY, .ref a_PO, .ref a_HO, .ref a_WA, .int ng, .ref a_GA, .int nc, .ref a_CA, .int sl, .ref a_MT, .ref a_LW, .int nw, .ref a_WK, .int pe, .int pv, .int pt, .int pu])), (a_S, .inl (cI, 163, .inl (ms zo (if wiB v 1 100 then swN zo go le la he v.toNatClampNeg else he) go le hd gn la)))] H := by rw [← ew_7]; exact hP
    exact retWi () hx hb hr (rfl) hlocks dX7_sweep_16 hS (by simp [c_1]) hP
theorem cal_X7_seep : calV yX7_seep cX7_seep 1 (some .int) 0 := ⟨k_23_22, k_1_5, k_23_20, k_23_21, by decide +kernel⟩
set_option maxHeartbeats 4000000 in
set_option maxRecDepth 100000 in
theorem c_X7_seep (l : Launch) (G : va_G) (E : EvT) (cI cZ : ClassId) (zo : Nat → Int32) (he : Nat → Int32) (go : Nat → Int32) (le : Nat → Int32) (hd : Nat → Int32) (gn : Nat → Int32) (la : Int32) (o : Nat) (a_S : Nat) (a_K : Nat) (a_IK : Nat) (a_SV : Nat) (a_DR : Nat) (a_TX : Nat) (a_WY : Nat) (a_BE : Nat) (a_MO : Nat) (a_DY : Nat) (a_PO : Nat) (a_HO : Nat) (a_WA : Nat) (a_GA : Nat) (a_CA : Nat) (a_MT : Nat) (a_LW : Nat) (a_WK : Nat) (th : Int32) (tr : Int64) (td : Int32) (nx : Int32) (tk : Int32) (pc : Int32) (vl : Int32) (fa : Int32) (ff : Int32) (bf : Int32) (bm : Int32) (bl : Int32) (ng : Int32) (nc : Int32) (sl : Int32) (nw : Int32) (pe : Int32) (pv : Int32) (pt : Int32) (pu : Int32) : cWi (S := Unit) l G E yX7_seep cX7_seep 1 (some .int) 8 [(cI, .int), (cZ, .boolean)] [.ref o] [(o, .inr (7, [.int th, .long tr, .ref a_S, .ref a_K, .ref a_IK, .ref a_SV, .ref a_DR, .ref a_TX, .int td, .int nx, .int tk, .int pc, .int vl, .int fa, .int ff, .ref a_WY, .ref a_BE, .int bf, .int bm, .int bl, .ref a_MO, .ref a_DY, .ref a_PO, .ref a_HO, .ref a_WA, .int ng, .ref a_GA, .int nc, .ref a_CA, .int sl, .ref a_MT, .ref a_LW, .int nw, .ref a_WK, .int pe, .int pv, .int pt, .int pu])), (a_S, .inl (cI, 163, .inl (ms zo he go le hd gn la)))] (fun r _ => r = (if isES zo go 7 then sumS (flM zo he go le 7 true) 4 / 1000 else 0)) (fun _ => [(o, .inr (7, [.int 0, .long tr, .ref a_S, .ref a_K, .ref a_IK, .ref a_SV, .ref a_DR, .ref a_TX, .int td, .int nx, .int tk, .int pc, .int vl, .int fa, .int ff, .ref a_WY, .ref a_BE, .int bf, .int bm, .int bl, .ref a_MO, .ref a_DY, .ref a_PO, .ref a_HO, .ref a_WA, .int ng, .ref a_GA, .int nc, .ref a_CA, .int sl, .ref a_MT, .ref a_LW, .int nw, .ref a_WK, .int pe, .int pv, .int pt, .int pu])), (a_S, .inl (cI, 163, .inl (ms zo he go le hd gn la)))]) := by
  refine mkWi (by decide) (Nat.le_of_ble_eq_true rfl) ?_
  intro zp ze s zm args below meth zc hx hb hr hml hown hts hlocks hE hK A hA hlow H locs hP hD hS ls hl
  have hl : lv_has ls 1 [(0, .ref o)] := hl
  refine lv_aload_n hx hb dX7_seep_0 rfl (lv_at hl 0 rfl) ?_
  refine lv_iconst (v := 0) hx hb dX7_seep_1 (by decide) ?_
  refine va_put (D := G) (ci := 7) (v := .int 0) (ty := .int) (C := RX7) (T := TX7) (N := 38) hx hb hts inlX7 tyX7 tyX7_ok nmX7 hown hK hP hD hS 0 rfl rfl 0 (by decide) (hts (.fieldLink RX7 75 "EarthBanksModel" "thrown" "I") k_7_19) (fun _ h9 => h9) rfl (by decide +kernel) (rfl) (rfl) (Nat.le_of_ble_eq_true rfl) dX7_seep_2 (fun H locs hP hD hS => ?_)
  have hP : va_P G vwCl [(o, .inr (7, [.int 0, .long tr, .ref a_S, .ref a_K, .ref a_IK, .ref a_SV, .ref a_DR, .ref a_TX, .int td, .int nx, .int tk, .int pc, .int vl, .int fa, .int ff, .ref a_WY, .ref a_BE, .int bf, .int bm, .int bl, .ref a_MO, .ref a_DY, .ref a_PO, .ref a_HO, .ref a_WA, .int ng, .ref a_GA, .int nc, .ref a_CA, .int sl, .ref a_MT, .ref a_LW, .int nw, .ref a_WK, .int pe, .int pv, .int pt, .int pu])), (a_S, .inl (cI, 163, .inl (ms zo he go le hd gn la)))] H := hP
  have hD : va_D A [(o, .inr (7, [.int 0, .long tr, .ref a_S, .ref a_K, .ref a_IK, .ref a_SV, .ref a_DR, .ref a_TX, .int td, .int nx, .int tk, .int pc, .int vl, .int fa, .int ff, .ref a_WY, .ref a_BE, .int bf, .int bm, .int bl, .ref a_MO, .ref a_DY, .ref a_PO, .ref a_HO, .ref a_WA, .int ng, .ref a_GA, .int nc, .ref a_CA, .int sl, .ref a_MT, .ref a_LW, .int nw, .ref a_WK, .int pe, .int pv, .int pt, .int pu])), (a_S, .inl (cI, 163, .inl (ms zo he go le hd gn la)))] := hD
  refine lv_aload_n hx hb dX7_seep_5 rfl (lv_at hl 0 rfl) ?_
  refine lv_bipush (v := 7) hx hb dX7_seep_6 (by decide) ?_
  refine cRV (As := [.int 7]) (rest := []) hx hb hml hown hts (c_X7_isEarth l G E cI cZ zo he go le hd gn la 7 o a_S [.int 0, .long tr, .ref a_S, .ref a_K, .ref a_IK, .ref a_SV, .ref a_DR, .ref a_TX, .int td, .int nx, .int tk, .int pc, .int vl, .int fa, .int ff, .ref a_WY, .ref a_BE, .int bf, .int bm, .int bl, .ref a_MO, .ref a_DY, .ref a_PO, .ref a_HO, .ref a_WA, .int ng, .ref a_GA, .int nc, .ref a_CA, .int sl, .ref a_MT, .ref a_LW, .int nw, .ref a_WK, .int pe, .int pv, .int pt, .int pu] rfl (by first | assumption | omega | simp [bI])) k_16_1 cal_X7_isEarth ⟨Nat.le_of_ble_eq_true rfl, Nat.le_of_ble_eq_true rfl⟩ hE hlow hS hK [0, 1] rfl hP [0, 1] rfl 0 7 rfl rfl rfl hl.1 rfl (Nat.le_of_ble_eq_true rfl) dX7_seep_8 ⟨Nat.zero_le _, Nat.zero_le _⟩ ?_
  refine lv_if_eq (tgt := 28) hx hb dX7_seep_11 (by decide) (fun c_1 => ?_) (fun c_1 => ?_)
  · skip
    have c_1 : (isES zo go 7) = false := bI_f c_1
    refine lv_iconst (v := 0) hx hb dX7_seep_28 (by decide) ?_
    exact retWi () hx hb hr (rfl) hlocks dX7_seep_29 hS (by simp [c_1]) hP
  · skip
    have c_1 : (isES zo go 7) = true := bI_t c_1
    refine lv_aload_n hx hb dX7_seep_14 rfl (lv_at hl 0 rfl) ?_
    refine lv_bipush (v := 7) hx hb dX7_seep_15 (by decide) ?_
    refine lv_iconst (v := 1) hx hb dX7_seep_17 (by decide) ?_
    refine cRV (As := [.int 7, .int 1]) (rest := []) hx hb hml hown hts (c_X7_flowing l G E cI cZ zo he go le hd gn la 7 true o a_S [.int 0, .long tr, .ref a_S, .ref a_K, .ref a_IK, .ref a_SV, .ref a_DR, .ref a_TX, .int td, .int nx, .int tk, .int pc, .int vl, .int fa, .int ff, .ref a_WY, .ref a_BE, .int bf, .int bm, .int bl, .ref a_MO, .ref a_DY, .ref a_PO, .ref a_HO, .ref a_WA, .int ng, .ref a_GA, .int nc, .ref a_CA, .int sl, .ref a_MT, .ref a_LW, .int nw, .ref a_WK, .int pe, .int pv, .int pt, .int pu] rfl (by first | assumption | omega | simp [bI, c_1]) (isE_na c_1)) k_22_16 cal_X7_flowing ⟨Nat.le_of_ble_eq_true rfl, Nat.le_of_ble_eq_true rfl⟩ hE hlow hS hK [0, 1] rfl hP [0, 1] rfl 0 7 rfl rfl rfl hl.1 rfl (Nat.le_of_ble_eq_true rfl) dX7_seep_18 ⟨Nat.zero_le _, Nat.zero_le _⟩ ?_
    refine lv_sipush (v := 1000) hx hb dX7_seep_21 (by decide) ?_
    refine lv_idiv hx hb dX7_seep_24 (by decide) ?_
    refine lv_goto (tgt := 29) hx hb dX7_seep_25 (by decide) ?_
    exact retWi () hx hb hr (rfl) hlocks dX7_seep_29 hS (by simp [c_1]) hP
theorem cal_X7_dry : calV yX7_dry cX7_dry 1 (some .int) 0 := ⟨k_24_10, k_1_5, k_24_8, k_24_9, by decide +kernel⟩
set_option maxHeartbeats 4000000 in
set_option maxRecDepth 100000 in
theorem c_X7_dry (l : Launch) (G : va_G) (E : EvT) (cI cZ : ClassId) (zo : Nat → Int32) (he : Nat → Int32) (go : Nat → Int32) (le : Nat → Int32) (hd : Nat → Int32) (gn : Nat → Int32) (la : Int32) (o : Nat) (a_S : Nat) (a_K : Nat) (a_IK : Nat) (a_SV : Nat) (a_DR : Nat) (a_TX : Nat) (a_WY : Nat) (a_BE : Nat) (a_MO : Nat) (a_DY : Nat) (a_PO : Nat) (a_HO : Nat) (a_WA : Nat) (a_GA : Nat) (a_CA : Nat) (a_MT : Nat) (a_LW : Nat) (a_WK : Nat) (th : Int32) (tr : Int64) (td : Int32) (nx : Int32) (tk : Int32) (pc : Int32) (vl : Int32) (fa : Int32) (ff : Int32) (bf : Int32) (bm : Int32) (bl : Int32) (ng : Int32) (nc : Int32) (sl : Int32) (nw : Int32) (pe : Int32) (pv : Int32) (pt : Int32) (pu : Int32) : cWi (S := Unit) l G E yX7_dry cX7_dry 1 (some .int) 8 [(cI, .int), (cZ, .boolean)] [.ref o] [(o, .inr (7, [.int th, .long tr, .ref a_S, .ref a_K, .ref a_IK, .ref a_SV, .ref a_DR, .ref a_TX, .int td, .int nx, .int tk, .int pc, .int vl, .int fa, .int ff, .ref a_WY, .ref a_BE, .int bf, .int bm, .int bl, .ref a_MO, .ref a_DY, .ref a_PO, .ref a_HO, .ref a_WA, .int ng, .ref a_GA, .int nc, .ref a_CA, .int sl, .ref a_MT, .ref a_LW, .int nw, .ref a_WK, .int pe, .int pv, .int pt, .int pu])), (a_S, .inl (cI, 163, .inl (ms zo he go le hd gn la)))] (fun r _ => r = cntS (fun p => !decide (he p ≤ 0)) 48) (fun _ => [(o, .inr (7, [.int 0, .long tr, .ref a_S, .ref a_K, .ref a_IK, .ref a_SV, .ref a_DR, .ref a_TX, .int td, .int nx, .int tk, .int pc, .int vl, .int fa, .int ff, .ref a_WY, .ref a_BE, .int bf, .int bm, .int bl, .ref a_MO, .ref a_DY, .ref a_PO, .ref a_HO, .ref a_WA, .int ng, .ref a_GA, .int nc, .ref a_CA, .int sl, .ref a_MT, .ref a_LW, .int nw, .ref a_WK, .int pe, .int pv, .int pt, .int pu])), (a_S, .inl (cI, 163, .inl (ms zo (fun _ => 0) go le hd gn la)))]) := by
  refine mkWi (by decide) (Nat.le_of_ble_eq_true rfl) ?_
  intro zp ze s zm args below meth zc hx hb hr hml hown hts hlocks hE hK A hA hlow H locs hP hD hS ls hl
  have hl : lv_has ls 1 [(0, .ref o)] := hl
  refine lv_aload_n hx hb dX7_dry_0 rfl (lv_at hl 0 rfl) ?_
  refine lv_iconst (v := 0) hx hb dX7_dry_1 (by decide) ?_
  refine va_put (D := G) (ci := 7) (v := .int 0) (ty := .int) (C := RX7) (T := TX7) (N := 38) hx hb hts inlX7 tyX7 tyX7_ok nmX7 hown hK hP hD hS 0 rfl rfl 0 (by decide) (hts (.fieldLink RX7 75 "EarthBanksModel" "thrown" "I") k_7_19) (fun _ h9 => h9) rfl (by decide +kernel) (rfl) (rfl) (Nat.le_of_ble_eq_true rfl) dX7_dry_2 (fun H locs hP hD hS => ?_)
  have hP : va_P G vwCl [(o, .inr (7, [.int 0, .long tr, .ref a_S, .ref a_K, .ref a_IK, .ref a_SV, .ref a_DR, .ref a_TX, .int td, .int nx, .int tk, .int pc, .int vl, .int fa, .int ff, .ref a_WY, .ref a_BE, .int bf, .int bm, .int bl, .ref a_MO, .ref a_DY, .ref a_PO, .ref a_HO, .ref a_WA, .int ng, .ref a_GA, .int nc, .ref a_CA, .int sl, .ref a_MT, .ref a_LW, .int nw, .ref a_WK, .int pe, .int pv, .int pt, .int pu])), (a_S, .inl (cI, 163, .inl (ms zo he go le hd gn la)))] H := hP
  have hD : va_D A [(o, .inr (7, [.int 0, .long tr, .ref a_S, .ref a_K, .ref a_IK, .ref a_SV, .ref a_DR, .ref a_TX, .int td, .int nx, .int tk, .int pc, .int vl, .int fa, .int ff, .ref a_WY, .ref a_BE, .int bf, .int bm, .int bl, .ref a_MO, .ref a_DY, .ref a_PO, .ref a_HO, .ref a_WA, .int ng, .ref a_GA, .int nc, .ref a_CA, .int sl, .ref a_MT, .ref a_LW, .int nw, .ref a_WK, .int pe, .int pv, .int pt, .int pu])), (a_S, .inl (cI, 163, .inl (ms zo he go le hd gn la)))] := hD
  refine lv_aload_n hx hb dX7_dry_5 rfl (lv_at hl 0 rfl) ?_
  refine cWVi (As := []) (rest := []) hx hb hml hown hts (c_X7_dries l G E cI cZ zo he go le hd gn la o a_S [.int 0, .long tr, .ref a_S, .ref a_K, .ref a_IK, .ref a_SV, .ref a_DR, .ref a_TX, .int td, .int nx, .int tk, .int pc, .int vl, .int fa, .int ff, .ref a_WY, .ref a_BE, .int bf, .int bm, .int bl, .ref a_MO, .ref a_DY, .ref a_PO, .ref a_HO, .ref a_WA, .int ng, .ref a_GA, .int nc, .ref a_CA, .int sl, .ref a_MT, .ref a_LW, .int nw, .ref a_WK, .int pe, .int pv, .int pt, .int pu] rfl) k_24_11 cal_X7_dries ⟨Nat.le_of_ble_eq_true rfl, Nat.le_of_ble_eq_true rfl⟩ hE hA hlow hD hS hK [0, 1] rfl hP [0, 1] rfl (by decide) [o, a_S] rfl (fun _ => rfl) [] [] (fun _ => [(o, .inr (7, [.int 0, .long tr, .ref a_S, .ref a_K, .ref a_IK, .ref a_SV, .ref a_DR, .ref a_TX, .int td, .int nx, .int tk, .int pc, .int vl, .int fa, .int ff, .ref a_WY, .ref a_BE, .int bf, .int bm, .int bl, .ref a_MO, .ref a_DY, .ref a_PO, .ref a_HO, .ref a_WA, .int ng, .ref a_GA, .int nc, .ref a_CA, .int sl, .ref a_MT, .ref a_LW, .int nw, .ref a_WK, .int pe, .int pv, .int pt, .int pu])), (a_S, .inl (cI, 163, .inl (ms zo (fun _ => 0) go le hd gn la)))]) 2 rfl (fun _ => rfl) (fun _ => rfl) (fun _ => rfl) (by decide) (by decide) 0 7 rfl rfl rfl hl.1 rfl (Nat.le_of_ble_eq_true rfl) dX7_dry_6 ⟨Nat.zero_le _, Nat.zero_le _⟩ (fun r_ u H locs hr_ hP hD hS => ?_)
  subst hr_
  have hP : va_P G vwCl [(o, .inr (7, [.int 0, .long tr, .ref a_S, .ref a_K, .ref a_IK, .ref a_SV, .ref a_DR, .ref a_TX, .int td, .int nx, .int tk, .int pc, .int vl, .int fa, .int ff, .ref a_WY, .ref a_BE, .int bf, .int bm, .int bl, .ref a_MO, .ref a_DY, .ref a_PO, .ref a_HO, .ref a_WA, .int ng, .ref a_GA, .int nc, .ref a_CA, .int sl, .ref a_MT, .ref a_LW, .int nw, .ref a_WK, .int pe, .int pv, .int pt, .int pu])), (a_S, .inl (cI, 163, .inl (ms zo (fun _ => 0) go le hd gn la)))] H := hP
  have hD : va_D A [(o, .inr (7, [.int 0, .long tr, .ref a_S, .ref a_K, .ref a_IK, .ref a_SV, .ref a_DR, .ref a_TX, .int td, .int nx, .int tk, .int pc, .int vl, .int fa, .int ff, .ref a_WY, .ref a_BE, .int bf, .int bm, .int bl, .ref a_MO, .ref a_DY, .ref a_PO, .ref a_HO, .ref a_WA, .int ng, .ref a_GA, .int nc, .ref a_CA, .int sl, .ref a_MT, .ref a_LW, .int nw, .ref a_WK, .int pe, .int pv, .int pt, .int pu])), (a_S, .inl (cI, 163, .inl (ms zo (fun _ => 0) go le hd gn la)))] := hD
  exact retWi () hx hb hr (rfl) hlocks dX7_dry_9 hS (rfl) hP
theorem cal_X7_filter : calV yX7_filter cX7_filter 3 (some .int) 1 := ⟨k_28_2, k_1_5, k_28_0, k_28_1, by decide +kernel⟩
set_option maxHeartbeats 4000000 in
set_option maxRecDepth 100000 in
theorem c_X7_filter (l : Launch) (G : va_G) (E : EvT) (cI cZ : ClassId) (zo : Nat → Int32) (he : Nat → Int32) (go : Nat → Int32) (le : Nat → Int32) (hd : Nat → Int32) (gn : Nat → Int32) (la : Int32) (v : Int32) (o : Nat) (a_S : Nat) (a_K : Nat) (a_IK : Nat) (a_SV : Nat) (a_DR : Nat) (a_TX : Nat) (a_WY : Nat) (a_BE : Nat) (a_MO : Nat) (a_DY : Nat) (a_PO : Nat) (a_HO : Nat) (a_WA : Nat) (a_GA : Nat) (a_CA : Nat) (a_MT : Nat) (a_LW : Nat) (a_WK : Nat) (th : Int32) (tr : Int64) (td : Int32) (nx : Int32) (tk : Int32) (pc : Int32) (vl : Int32) (fa : Int32) (ff : Int32) (bf : Int32) (bm : Int32) (bl : Int32) (ng : Int32) (nc : Int32) (sl : Int32) (nw : Int32) (pe : Int32) (pv : Int32) (pt : Int32) (pu : Int32) : cWi (S := Unit) l G E yX7_filter cX7_filter 3 (some .int) 8 [(cI, .int), (cZ, .boolean)] [.ref o, .int v] [(o, .inr (7, [.int th, .long tr, .ref a_S, .ref a_K, .ref a_IK, .ref a_SV, .ref a_DR, .ref a_TX, .int td, .int nx, .int tk, .int pc, .int vl, .int fa, .int ff, .ref a_WY, .ref a_BE, .int bf, .int bm, .int bl, .ref a_MO, .ref a_DY, .ref a_PO, .ref a_HO, .ref a_WA, .int ng, .ref a_GA, .int nc, .ref a_CA, .int sl, .ref a_MT, .ref a_LW, .int nw, .ref a_WK, .int pe, .int pv, .int pt, .int pu]))] (fun r _ => r = (if wiB v 2 9 then ff else (-1))) (fun _ => [(o, .inr (7, [.int 0, .long tr, .ref a_S, .ref a_K, .ref a_IK, .ref a_SV, .ref a_DR, .ref a_TX, .int td, .int nx, .int tk, .int pc, .int vl, .int fa, .int (if wiB v 2 9 then v else ff), .ref a_WY, .ref a_BE, .int bf, .int bm, .int bl, .ref a_MO, .ref a_DY, .ref a_PO, .ref a_HO, .ref a_WA, .int ng, .ref a_GA, .int nc, .ref a_CA, .int sl, .ref a_MT, .ref a_LW, .int nw, .ref a_WK, .int pe, .int pv, .int pt, .int pu]))]) := by
  refine mkWi (by decide) (Nat.le_of_ble_eq_true rfl) ?_
  intro zp ze s zm args below meth zc hx hb hr hml hown hts hlocks hE hK A hA hlow H locs hP hD hS ls hl
  have hl : lv_has ls 3 [(0, .ref o), (1, .int v)] := hl
  refine lv_aload_n hx hb dX7_filter_0 rfl (lv_at hl 0 rfl) ?_
  refine lv_iconst (v := 0) hx hb dX7_filter_1 (by decide) ?_
  refine va_put (D := G) (ci := 7) (v := .int 0) (ty := .int) (C := RX7) (T := TX7) (N := 38) hx hb hts inlX7 tyX7 tyX7_ok nmX7 hown hK hP hD hS 0 rfl rfl 0 (by decide) (hts (.fieldLink RX7 75 "EarthBanksModel" "thrown" "I") k_7_19) (fun _ h9 => h9) rfl (by decide +kernel) (rfl) (rfl) (Nat.le_of_ble_eq_true rfl) dX7_filter_2 (fun H locs hP hD hS => ?_)
  have hP : va_P G vwCl [(o, .inr (7, [.int 0, .long tr, .ref a_S, .ref a_K, .ref a_IK, .ref a_SV, .ref a_DR, .ref a_TX, .int td, .int nx, .int tk, .int pc, .int vl, .int fa, .int ff, .ref a_WY, .ref a_BE, .int bf, .int bm, .int bl, .ref a_MO, .ref a_DY, .ref a_PO, .ref a_HO, .ref a_WA, .int ng, .ref a_GA, .int nc, .ref a_CA, .int sl, .ref a_MT, .ref a_LW, .int nw, .ref a_WK, .int pe, .int pv, .int pt, .int pu]))] H := hP
  have hD : va_D A [(o, .inr (7, [.int 0, .long tr, .ref a_S, .ref a_K, .ref a_IK, .ref a_SV, .ref a_DR, .ref a_TX, .int td, .int nx, .int tk, .int pc, .int vl, .int fa, .int ff, .ref a_WY, .ref a_BE, .int bf, .int bm, .int bl, .ref a_MO, .ref a_DY, .ref a_PO, .ref a_HO, .ref a_WA, .int ng, .ref a_GA, .int nc, .ref a_CA, .int sl, .ref a_MT, .ref a_LW, .int nw, .ref a_WK, .int pe, .int pv, .int pt, .int pu]))] := hD
  refine lv_iload_n hx hb dX7_filter_5 rfl (lv_at hl 1 rfl) ?_
  refine lv_iconst (v := 2) hx hb dX7_filter_6 (by decide) ?_
  refine lv_bipush (v := 9) hx hb dX7_filter_7 (by decide) ?_
  refine cRS (As := [.int v, .int 2, .int 9]) (rest := []) hx hb hml hown hts (c_X7_in l G E cI cZ v 2 9) k_7_22 cal_X7_in ⟨Nat.le_of_ble_eq_true rfl, Nat.le_of_ble_eq_true rfl⟩ hE hlow hS hK [0, 1] rfl hP [] rfl rfl hl.1 rfl (Nat.le_of_ble_eq_true rfl) dX7_filter_9 ⟨Nat.zero_le _, Nat.zero_le _⟩ ?_
  refine lv_if_ne (tgt := 17) hx hb dX7_filter_12 (by decide) (fun c_1 => ?_) (fun c_1 => ?_)
  · skip
    have c_1 : (wiB v 2 9) = true := bI_t c_1
    refine lv_aload_n hx hb dX7_filter_17 rfl (lv_at hl 0 rfl) ?_
    refine va_get (D := G) (ci := 7) (v := .int ff) (C := RX7) (T := TX7) (N := 38) hx hb hts inlX7 hown hK hP 0 rfl rfl 14 (by decide) (hts (.fieldLink RX7 29 "EarthBanksModel" "f" "I") k_6_9) (fun _ h9 => h9) rfl dX7_filter_18 ?_
    refine lv_istore_n (lv' := [(2, .int ff), (0, .ref o), (1, .int v)]) hx hb dX7_filter_21 rfl hl (by decide) rfl (fun ls hl => ?_)
    refine lv_aload_n hx hb dX7_filter_22 rfl (lv_at hl 1 rfl) ?_
    refine lv_iload_n hx hb dX7_filter_23 rfl (lv_at hl 2 rfl) ?_
    refine va_put (D := G) (ci := 7) (v := .int v) (ty := .int) (C := RX7) (T := TX7) (N := 38) hx hb hts inlX7 tyX7 tyX7_ok nmX7 hown hK hP hD hS 0 rfl rfl 14 (by decide) (hts (.fieldLink RX7 29 "EarthBanksModel" "f" "I") k_6_9) (fun _ h9 => h9) rfl (by decide +kernel) (rfl) (rfl) (Nat.le_of_ble_eq_true rfl) dX7_filter_24 (fun H locs hP hD hS => ?_)
    have hP : va_P G vwCl [(o, .inr (7, [.int 0, .long tr, .ref a_S, .ref a_K, .ref a_IK, .ref a_SV, .ref a_DR, .ref a_TX, .int td, .int nx, .int tk, .int pc, .int vl, .int fa, .int v, .ref a_WY, .ref a_BE, .int bf, .int bm, .int bl, .ref a_MO, .ref a_DY, .ref a_PO, .ref a_HO, .ref a_WA, .int ng, .ref a_GA, .int nc, .ref a_CA, .int sl, .ref a_MT, .ref a_LW, .int nw, .ref a_WK, .int pe, .int pv, .int pt, .int pu]))] H := hP
    have hD : va_D A [(o, .inr (7, [.int 0, .long tr, .ref a_S, .ref a_K, .ref a_IK, .ref a_SV, .ref a_DR, .ref a_TX, .int td, .int nx, .int tk, .int pc, .int vl, .int fa, .int v, .ref a_WY, .ref a_BE, .int bf, .int bm, .int bl, .ref a_MO, .ref a_DY, .ref a_PO, .ref a_HO, .ref a_WA, .int ng, .ref a_GA, .int nc, .ref a_CA, .int sl, .ref a_MT, .ref a_LW, .int nw, .ref a_WK, .int pe, .int pv, .int pt, .int pu]))] := hD
    refine lv_iload_n hx hb dX7_filter_27 rfl (lv_at hl 0 rfl) ?_
    have ew_2 : (v : Int32) = if wiB v 2 9 then v else ff := by simp [bI, c_1]
    have hP : va_P G vwCl [(o, .inr (7, [.int 0, .long tr, .ref a_S, .ref a_K, .ref a_IK, .ref a_SV, .ref a_DR, .ref a_TX, .int td, .int nx, .int tk, .int pc, .int vl, .int fa, .int (if wiB v 2 9 then v else ff), .ref a_WY, .ref a_BE, .int bf, .int bm, .int bl, .ref a_MO, .ref a_DY, .ref a_PO, .ref a_HO, .ref a_WA, .int ng, .ref a_GA, .int nc, .ref a_CA, .int sl, .ref a_MT, .ref a_LW, .int nw, .ref a_WK, .int pe, .int pv, .int pt, .int pu]))] H := by rw [← ew_2]; exact hP
    exact retWi () hx hb hr (rfl) hlocks dX7_filter_28 hS (by simp [bI, c_1]) hP
  · skip
    have c_1 : (wiB v 2 9) = false := bI_f c_1
    refine lv_iconst (v := (-1)) hx hb dX7_filter_15 (by decide) ?_
    have ew_3 : (ff : Int32) = if wiB v 2 9 then v else ff := by simp [bI, c_1]
    have hP : va_P G vwCl [(o, .inr (7, [.int 0, .long tr, .ref a_S, .ref a_K, .ref a_IK, .ref a_SV, .ref a_DR, .ref a_TX, .int td, .int nx, .int tk, .int pc, .int vl, .int fa, .int (if wiB v 2 9 then v else ff), .ref a_WY, .ref a_BE, .int bf, .int bm, .int bl, .ref a_MO, .ref a_DY, .ref a_PO, .ref a_HO, .ref a_WA, .int ng, .ref a_GA, .int nc, .ref a_CA, .int sl, .ref a_MT, .ref a_LW, .int nw, .ref a_WK, .int pe, .int pv, .int pt, .int pu]))] H := by rw [← ew_3]; exact hP
    exact retWi () hx hb hr (rfl) hlocks dX7_filter_16 hS (by simp [bI, c_1]) hP
