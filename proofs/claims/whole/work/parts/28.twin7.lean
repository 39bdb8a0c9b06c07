theorem cal_X7_pool : calV yX7_pool cX7_pool 4 (some .int) 2 := ⟨k_31_21, k_1_5, k_31_19, k_31_20, by decide +kernel⟩
set_option maxHeartbeats 4000000 in
set_option maxRecDepth 100000 in
theorem c_X7_pool (l : Launch) (G : va_G) (E : EvT) (cI cZ : ClassId) (x : Int32) (v : Int32) (o : Nat) (a_PO : Nat) (a_S : Nat) (a_K : Nat) (a_IK : Nat) (a_SV : Nat) (a_DR : Nat) (a_TX : Nat) (a_WY : Nat) (a_BE : Nat) (a_MO : Nat) (a_DY : Nat) (a_HO : Nat) (a_WA : Nat) (a_GA : Nat) (a_CA : Nat) (a_MT : Nat) (a_LW : Nat) (a_WK : Nat) (th : Int32) (tr : Int64) (td : Int32) (nx : Int32) (tk : Int32) (pc : Int32) (vl : Int32) (fa : Int32) (ff : Int32) (bf : Int32) (bm : Int32) (bl : Int32) (ng : Int32) (nc : Int32) (sl : Int32) (nw : Int32) (pe : Int32) (pv : Int32) (pt : Int32) (pu : Int32) (PO : Nat → Int32) : cWi (S := Unit) l G E yX7_pool cX7_pool 4 (some .int) 8 [(cI, .int), (cZ, .boolean)] [.ref o, .int x, .int v] [(o, .inr (7, [.int th, .long tr, .ref a_S, .ref a_K, .ref a_IK, .ref a_SV, .ref a_DR, .ref a_TX, .int td, .int nx, .int tk, .int pc, .int vl, .int fa, .int ff, .ref a_WY, .ref a_BE, .int bf, .int bm, .int bl, .ref a_MO, .ref a_DY, .ref a_PO, .ref a_HO, .ref a_WA, .int ng, .ref a_GA, .int nc, .ref a_CA, .int sl, .ref a_MT, .ref a_LW, .int nw, .ref a_WK, .int pe, .int pv, .int pt, .int pu])), (a_PO, .inl (cI, 6, .inl PO))] (fun r _ => r = (if wiB x 0 5 && wiB v 0 9999 then PO x.toNatClampNeg else (-1))) (fun _ => [(o, .inr (7, [.int 0, .long tr, .ref a_S, .ref a_K, .ref a_IK, .ref a_SV, .ref a_DR, .ref a_TX, .int td, .int nx, .int tk, .int pc, .int vl, .int fa, .int ff, .ref a_WY, .ref a_BE, .int bf, .int bm, .int bl, .ref a_MO, .ref a_DY, .ref a_PO, .ref a_HO, .ref a_WA, .int ng, .ref a_GA, .int nc, .ref a_CA, .int sl, .ref a_MT, .ref a_LW, .int nw, .ref a_WK, .int pe, .int pv, .int pt, .int pu])), (a_PO, .inl (cI, 6, .inl (if wiB x 0 5 && wiB v 0 9999 then upd PO x.toNatClampNeg v else PO)))]) := by
  refine mkWi (by decide) (Nat.le_of_ble_eq_true rfl) ?_
  intro zp ze s zm args below meth zc hx hb hr hml hown hts hlocks hE hK A hA hlow H locs hP hD hS ls hl
  have hl : lv_has ls 4 [(0, .ref o), (1, .int x), (2, .int v)] := hl
  refine lv_aload_n hx hb dX7_pool_0 rfl (lv_at hl 0 rfl) ?_
  refine lv_iconst (v := 0) hx hb dX7_pool_1 (by decide) ?_
  refine va_put (D := G) (ci := 7) (v := .int 0) (ty := .int) (C := RX7) (T := TX7) (N := 38) hx hb hts inlX7 tyX7 tyX7_ok nmX7 hown hK hP hD hS 0 rfl rfl 0 (by decide) (hts (.fieldLink RX7 75 "EarthBanksModel" "thrown" "I") k_7_19) (fun _ h9 => h9) rfl (by decide +kernel) (rfl) (rfl) (Nat.le_of_ble_eq_true rfl) dX7_pool_2 (fun H locs hP hD hS => ?_)
  have hP : va_P G vwCl [(o, .inr (7, [.int 0, .long tr, .ref a_S, .ref a_K, .ref a_IK, .ref a_SV, .ref a_DR, .ref a_TX, .int td, .int nx, .int tk, .int pc, .int vl, .int fa, .int ff, .ref a_WY, .ref a_BE, .int bf, .int bm, .int bl, .ref a_MO, .ref a_DY, .ref a_PO, .ref a_HO, .ref a_WA, .int ng, .ref a_GA, .int nc, .ref a_CA, .int sl, .ref a_MT, .ref a_LW, .int nw, .ref a_WK, .int pe, .int pv, .int pt, .int pu])), (a_PO, .inl (cI, 6, .inl PO))] H := hP
  have hD : va_D A [(o, .inr (7, [.int 0, .long tr, .ref a_S, .ref a_K, .ref a_IK, .ref a_SV, .ref a_DR, .ref a_TX, .int td, .int nx, .int tk, .int pc, .int vl, .int fa, .int ff, .ref a_WY, .ref a_BE, .int bf, .int bm, .int bl, .ref a_MO, .ref a_DY, .ref a_PO, .ref a_HO, .ref a_WA, .int ng, .ref a_GA, .int nc, .ref a_CA, .int sl, .ref a_MT, .ref a_LW, .int nw, .ref a_WK, .int pe, .int pv, .int pt, .int pu])), (a_PO, .inl (cI, 6, .inl PO))] := hD
  refine lv_iload_n hx hb dX7_pool_5 rfl (lv_at hl 1 rfl) ?_
  refine lv_iconst (v := 0) hx hb dX7_pool_6 (by decide) ?_
  refine lv_iconst (v := 5) hx hb dX7_pool_7 (by decide) ?_
  refine cRS (As := [.int x, .int 0, .int 5]) (rest := []) hx hb hml hown hts (c_X7_in l G E cI cZ x 0 5) k_7_22 cal_X7_in ⟨Nat.le_of_ble_eq_true rfl, Nat.le_of_ble_eq_true rfl⟩ hE hlow hS hK [0, 1] rfl hP [] rfl rfl hl.1 rfl (Nat.le_of_ble_eq_true rfl) dX7_pool_8 ⟨Nat.zero_le _, Nat.zero_le _⟩ ?_
  refine lv_if_eq (tgt := 25) hx hb dX7_pool_11 (by decide) (fun c_1 => ?_) (fun c_1 => ?_)
  · skip
    have c_1 : (wiB x 0 5) = false := bI_f c_1
    refine lv_iconst (v := (-1)) hx hb dX7_pool_25 (by decide) ?_
    have ew_2 : PO = (if wiB x 0 5 && wiB v 0 9999 then upd PO x.toNatClampNeg v else PO) := by simp [c_1]
    have hP : va_P G vwCl [(o, .inr (7, [.int 0, .long tr, .ref a_S, .ref a_K, .ref a_IK, .ref a_SV, .ref a_DR, .ref a_TX, .int td, .int nx, .int tk, .int pc, .int vl, .int fa, .int ff, .ref a_WY, .ref a_BE, .int bf, .int bm, .int bl, .ref a_MO, .ref a_DY, .ref a_PO, .ref a_HO, .ref a_WA, .int ng, .ref a_GA, .int nc, .ref a_CA, .int sl, .ref a_MT, .ref a_LW, .int nw, .ref a_WK, .int pe, .int pv, .int pt, .int pu])), (a_PO, .inl (cI, 6, .inl (if wiB x 0 5 && wiB v 0 9999 then upd PO x.toNatClampNeg v else PO)))] H := by rw [← ew_2]; exact hP
    exact retWi () hx hb hr (rfl) hlocks dX7_pool_26 hS (by simp [c_1]) hP
  · skip
    have c_1 : (wiB x 0 5) = true := bI_t c_1
    refine lv_iload_n hx hb dX7_pool_14 rfl (lv_at hl 2 rfl) ?_
    refine lv_iconst (v := 0) hx hb dX7_pool_15 (by decide) ?_
    refine lv_sipush (v := 9999) hx hb dX7_pool_16 (by decide) ?_
    refine cRS (As := [.int v, .int 0, .int 9999]) (rest := []) hx hb hml hown hts (c_X7_in l G E cI cZ v 0 9999) k_7_22 cal_X7_in ⟨Nat.le_of_ble_eq_true rfl, Nat.le_of_ble_eq_true rfl⟩ hE hlow hS hK [0, 1] rfl hP [] rfl rfl hl.1 rfl (Nat.le_of_ble_eq_true rfl) dX7_pool_19 ⟨Nat.zero_le _, Nat.zero_le _⟩ ?_
    refine lv_if_ne (tgt := 27) hx hb dX7_pool_22 (by decide) (fun c_3 => ?_) (fun c_3 => ?_)
    · skip
      have c_3 : (wiB v 0 9999) = true := bI_t c_3
      obtain ⟨xn, hx9, hex, hcx⟩ := wiB_n (M := 5) (by omega) c_1
      have hl : lv_has ls 4 [(0, .ref o), (1, .int (nI xn)), (2, .int v)] := by rw [hex] at hl; exact hl
      refine lv_aload_n hx hb dX7_pool_27 rfl (lv_at hl 0 rfl) ?_
      refine va_get (D := G) (ci := 7) (v := .ref a_PO) (C := RX7) (T := TX7) (N := 38) hx hb hts inlX7 hown hK hP 0 rfl rfl 22 (by decide) (hts (.fieldLink RX7 45 "EarthBanksModel" "pool" "[I") k_6_14) (fun _ h9 => h9) rfl dX7_pool_28 ?_
      refine lv_iload_n hx hb dX7_pool_31 rfl (lv_at hl 1 rfl) ?_
      refine ialdN (j := xn) hx hb hK hP 1 0 rfl rfl (by omega) (by decide) dX7_pool_32 ?_
      refine lv_istore_n (lv' := [(3, .int (PO xn)), (0, .ref o), (1, .int (nI xn)), (2, .int v)]) hx hb dX7_pool_33 rfl hl (by decide) rfl (fun ls hl => ?_)
      refine lv_aload_n hx hb dX7_pool_34 rfl (lv_at hl 1 rfl) ?_
      refine va_get (D := G) (ci := 7) (v := .ref a_PO) (C := RX7) (T := TX7) (N := 38) hx hb hts inlX7 hown hK hP 0 rfl rfl 22 (by decide) (hts (.fieldLink RX7 45 "EarthBanksModel" "pool" "[I") k_6_14) (fun _ h9 => h9) rfl dX7_pool_35 ?_
      refine lv_iload_n hx hb dX7_pool_38 rfl (lv_at hl 2 rfl) ?_
      refine lv_iload_n hx hb dX7_pool_39 rfl (lv_at hl 3 rfl) ?_
      refine iastN (j := xn) hx hb hK hP hD hS 1 0 rfl rfl (by omega) (by decide) dX7_pool_40 (fun H locs hP hD hS => ?_)
      have hP : va_P G vwCl [(o, .inr (7, [.int 0, .long tr, .ref a_S, .ref a_K, .ref a_IK, .ref a_SV, .ref a_DR, .ref a_TX, .int td, .int nx, .int tk, .int pc, .int vl, .int fa, .int ff, .ref a_WY, .ref a_BE, .int bf, .int bm, .int bl, .ref a_MO, .ref a_DY, .ref a_PO, .ref a_HO, .ref a_WA, .int ng, .ref a_GA, .int nc, .ref a_CA, .int sl, .ref a_MT, .ref a_LW, .int nw, .ref a_WK, .int pe, .int pv, .int pt, .int pu])), (a_PO, .inl (cI, 6, .inl (upd PO xn v)))] H := hP
      have hD : va_D A [(o, .inr (7, [.int 0, .long tr, .ref a_S, .ref a_K, .ref a_IK, .ref a_SV, .ref a_DR, .ref a_TX, .int td, .int nx, .int tk, .int pc, .int vl, .int fa, .int ff, .ref a_WY, .ref a_BE, .int bf, .int bm, .int bl, .ref a_MO, .ref a_DY, .ref a_PO, .ref a_HO, .ref a_WA, .int ng, .ref a_GA, .int nc, .ref a_CA, .int sl, .ref a_MT, .ref a_LW, .int nw, .ref a_WK, .int pe, .int pv, .int pt, .int pu])), (a_PO, .inl (cI, 6, .inl (upd PO xn v)))] := hD
      refine lv_iload_n hx hb dX7_pool_41 rfl (lv_at hl 0 rfl) ?_
      have ew_4 : (upd PO xn v) = (if wiB x 0 5 && wiB v 0 9999 then upd PO x.toNatClampNeg v else PO) := by simp [hcx, c_1, c_3]
      have hP : va_P G vwCl [(o, .inr (7, [.int 0, .long tr, .ref a_S, .ref a_K, .ref a_IK, .ref a_SV, .ref a_DR, .ref a_TX, .int td, .int nx, .int tk, .int pc, .int vl, .int fa, .int ff, .ref a_WY, .ref a_BE, .int bf, .int bm, .int bl, .ref a_MO, .ref a_DY, .ref a_PO, .ref a_HO, .ref a_WA, .int ng, .ref a_GA, .int nc, .ref a_CA, .int sl, .ref a_MT, .ref a_LW, .int nw, .ref a_WK, .int pe, .int pv, .int pt, .int pu])), (a_PO, .inl (cI, 6, .inl (if wiB x 0 5 && wiB v 0 9999 then upd PO x.toNatClampNeg v else PO)))] H := by rw [← ew_4]; exact hP
      exact retWi () hx hb hr (rfl) hlocks dX7_pool_42 hS (by simp [hcx, c_1, c_3]) hP
    · skip
      have c_3 : (wiB v 0 9999) = false := bI_f c_3
      refine lv_iconst (v := (-1)) hx hb dX7_pool_25 (by decide) ?_
      have ew_5 : PO = (if wiB x 0 5 && wiB v 0 9999 then upd PO x.toNatClampNeg v else PO) := by simp [c_1, c_3]
      have hP : va_P G vwCl [(o, .inr (7, [.int 0, .long tr, .ref a_S, .ref a_K, .ref a_IK, .ref a_SV, .ref a_DR, .ref a_TX, .int td, .int nx, .int tk, .int pc, .int vl, .int fa, .int ff, .ref a_WY, .ref a_BE, .int bf, .int bm, .int bl, .ref a_MO, .ref a_DY, .ref a_PO, .ref a_HO, .ref a_WA, .int ng, .ref a_GA, .int nc, .ref a_CA, .int sl, .ref a_MT, .ref a_LW, .int nw, .ref a_WK, .int pe, .int pv, .int pt, .int pu])), (a_PO, .inl (cI, 6, .inl (if wiB x 0 5 && wiB v 0 9999 then upd PO x.toNatClampNeg v else PO)))] H := by rw [← ew_5]; exact hP
      exact retWi () hx hb hr (rfl) hlocks dX7_pool_26 hS (by simp [c_1, c_3]) hP
theorem cal_X7_flood : calV yX7_flood cX7_flood 3 (some .int) 2 := ⟨k_32_13, k_1_5, k_32_11, k_32_12, by decide +kernel⟩
set_option maxHeartbeats 4000000 in
set_option maxRecDepth 100000 in
theorem c_X7_flood (l : Launch) (G : va_G) (E : EvT) (cI cZ : ClassId) (hN : Nat → Nat) (x : Int32) (v : Int32) (o : Nat) (a_HO : Nat) (a_WA : Nat) (a_S : Nat) (a_K : Nat) (a_IK : Nat) (a_SV : Nat) (a_DR : Nat) (a_TX : Nat) (a_WY : Nat) (a_BE : Nat) (a_MO : Nat) (a_DY : Nat) (a_PO : Nat) (a_GA : Nat) (a_CA : Nat) (a_MT : Nat) (a_LW : Nat) (a_WK : Nat) (th : Int32) (tr : Int64) (td : Int32) (nx : Int32) (tk : Int32) (pc : Int32) (vl : Int32) (fa : Int32) (ff : Int32) (bf : Int32) (bm : Int32) (bl : Int32) (ng : Int32) (nc : Int32) (sl : Int32) (nw : Int32) (pe : Int32) (pv : Int32) (pt : Int32) (pu : Int32) (HO : Nat → Int32) (WA : Nat → Int32) (hho : ∀ j, HO j = nI (hN j)) (hle : ∀ j, hN j ≤ 12) : cWi (S := Unit) l G E yX7_flood cX7_flood 3 (some .int) 8 [(cI, .int), (cZ, .boolean)] [.ref o, .int x, .int v] [(o, .inr (7, [.int th, .long tr, .ref a_S, .ref a_K, .ref a_IK, .ref a_SV, .ref a_DR, .ref a_TX, .int td, .int nx, .int tk, .int pc, .int vl, .int fa, .int ff, .ref a_WY, .ref a_BE, .int bf, .int bm, .int bl, .ref a_MO, .ref a_DY, .ref a_PO, .ref a_HO, .ref a_WA, .int ng, .ref a_GA, .int nc, .ref a_CA, .int sl, .ref a_MT, .ref a_LW, .int nw, .ref a_WK, .int pe, .int pv, .int pt, .int pu])), (a_HO, .inl (cI, 8, .inl HO)), (a_WA, .inl (cI, 96, .inl WA))] (fun r _ => r = (if wiB x 0 7 && wiB v 0 999 then (if hN x.toNatClampNeg < 12 then nI (hN x.toNatClampNeg + 1) else (-3)) else (-1))) (fun _ => [(o, .inr (7, [.int 0, .long tr, .ref a_S, .ref a_K, .ref a_IK, .ref a_SV, .ref a_DR, .ref a_TX, .int td, .int nx, .int tk, .int pc, .int vl, .int fa, .int ff, .ref a_WY, .ref a_BE, .int bf, .int bm, .int bl, .ref a_MO, .ref a_DY, .ref a_PO, .ref a_HO, .ref a_WA, .int ng, .ref a_GA, .int nc, .ref a_CA, .int sl, .ref a_MT, .ref a_LW, .int nw, .ref a_WK, .int pe, .int pv, .int pt, .int pu])), (a_HO, .inl (cI, 8, .inl (if wiB x 0 7 && wiB v 0 999 then (if hN x.toNatClampNeg < 12 then upd HO x.toNatClampNeg (nI (hN x.toNatClampNeg + 1)) else HO) else HO))), (a_WA, .inl (cI, 96, .inl (if wiB x 0 7 && wiB v 0 999 then (if hN x.toNatClampNeg < 12 then upd WA (x.toNatClampNeg * 12 + hN x.toNatClampNeg) v else WA) else WA)))]) := by
  refine mkWi (by decide) (Nat.le_of_ble_eq_true rfl) ?_
  intro zp ze s zm args below meth zc hx hb hr hml hown hts hlocks hE hK A hA hlow H locs hP hD hS ls hl
  have hl : lv_has ls 3 [(0, .ref o), (1, .int x), (2, .int v)] := hl
  refine lv_aload_n hx hb dX7_flood_0 rfl (lv_at hl 0 rfl) ?_
  refine lv_iconst (v := 0) hx hb dX7_flood_1 (by decide) ?_
  refine va_put (D := G) (ci := 7) (v := .int 0) (ty := .int) (C := RX7) (T := TX7) (N := 38) hx hb hts inlX7 tyX7 tyX7_ok nmX7 hown hK hP hD hS 0 rfl rfl 0 (by decide) (hts (.fieldLink RX7 75 "EarthBanksModel" "thrown" "I") k_7_19) (fun _ h9 => h9) rfl (by decide +kernel) (rfl) (rfl) (Nat.le_of_ble_eq_true rfl) dX7_flood_2 (fun H locs hP hD hS => ?_)
  have hP : va_P G vwCl [(o, .inr (7, [.int 0, .long tr, .ref a_S, .ref a_K, .ref a_IK, .ref a_SV, .ref a_DR, .ref a_TX, .int td, .int nx, .int tk, .int pc, .int vl, .int fa, .int ff, .ref a_WY, .ref a_BE, .int bf, .int bm, .int bl, .ref a_MO, .ref a_DY, .ref a_PO, .ref a_HO, .ref a_WA, .int ng, .ref a_GA, .int nc, .ref a_CA, .int sl, .ref a_MT, .ref a_LW, .int nw, .ref a_WK, .int pe, .int pv, .int pt, .int pu])), (a_HO, .inl (cI, 8, .inl HO)), (a_WA, .inl (cI, 96, .inl WA))] H := hP
  have hD : va_D A [(o, .inr (7, [.int 0, .long tr, .ref a_S, .ref a_K, .ref a_IK, .ref a_SV, .ref a_DR, .ref a_TX, .int td, .int nx, .int tk, .int pc, .int vl, .int fa, .int ff, .ref a_WY, .ref a_BE, .int bf, .int bm, .int bl, .ref a_MO, .ref a_DY, .ref a_PO, .ref a_HO, .ref a_WA, .int ng, .ref a_GA, .int nc, .ref a_CA, .int sl, .ref a_MT, .ref a_LW, .int nw, .ref a_WK, .int pe, .int pv, .int pt, .int pu])), (a_HO, .inl (cI, 8, .inl HO)), (a_WA, .inl (cI, 96, .inl WA))] := hD
  refine lv_iload_n hx hb dX7_flood_5 rfl (lv_at hl 1 rfl) ?_
  refine lv_iconst (v := 0) hx hb dX7_flood_6 (by decide) ?_
  refine lv_bipush (v := 7) hx hb dX7_flood_7 (by decide) ?_
  refine cRS (As := [.int x, .int 0, .int 7]) (rest := []) hx hb hml hown hts (c_X7_in l G E cI cZ x 0 7) k_7_22 cal_X7_in ⟨Nat.le_of_ble_eq_true rfl, Nat.le_of_ble_eq_true rfl⟩ hE hlow hS hK [0, 1] rfl hP [] rfl rfl hl.1 rfl (Nat.le_of_ble_eq_true rfl) dX7_flood_9 ⟨Nat.zero_le _, Nat.zero_le _⟩ ?_
  refine lv_if_eq (tgt := 26) hx hb dX7_flood_12 (by decide) (fun c_1 => ?_) (fun c_1 => ?_)
  · skip
    have c_1 : (wiB x 0 7) = false := bI_f c_1
    refine lv_iconst (v := (-1)) hx hb dX7_flood_26 (by decide) ?_
    have ew_2 : HO = (if wiB x 0 7 && wiB v 0 999 then (if hN x.toNatClampNeg < 12 then upd HO x.toNatClampNeg (nI (hN x.toNatClampNeg + 1)) else HO) else HO) := by simp [c_1]
    have ew_3 : WA = (if wiB x 0 7 && wiB v 0 999 then (if hN x.toNatClampNeg < 12 then upd WA (x.toNatClampNeg * 12 + hN x.toNatClampNeg) v else WA) else WA) := by simp [c_1]
    have hP : va_P G vwCl [(o, .inr (7, [.int 0, .long tr, .ref a_S, .ref a_K, .ref a_IK, .ref a_SV, .ref a_DR, .ref a_TX, .int td, .int nx, .int tk, .int pc, .int vl, .int fa, .int ff, .ref a_WY, .ref a_BE, .int bf, .int bm, .int bl, .ref a_MO, .ref a_DY, .ref a_PO, .ref a_HO, .ref a_WA, .int ng, .ref a_GA, .int nc, .ref a_CA, .int sl, .ref a_MT, .ref a_LW, .int nw, .ref a_WK, .int pe, .int pv, .int pt, .int pu])), (a_HO, .inl (cI, 8, .inl (if wiB x 0 7 && wiB v 0 999 then (if hN x.toNatClampNeg < 12 then upd HO x.toNatClampNeg (nI (hN x.toNatClampNeg + 1)) else HO) else HO))), (a_WA, .inl (cI, 96, .inl (if wiB x 0 7 && wiB v 0 999 then (if hN x.toNatClampNeg < 12 then upd WA (x.toNatClampNeg * 12 + hN x.toNatClampNeg) v else WA) else WA)))] H := by rw [← ew_2, ← ew_3]; exact hP
    exact retWi () hx hb hr (rfl) hlocks dX7_flood_27 hS (by simp [c_1]) hP
  · skip
    have c_1 : (wiB x 0 7) = true := bI_t c_1
    refine lv_iload_n hx hb dX7_flood_15 rfl (lv_at hl 2 rfl) ?_
    refine lv_iconst (v := 0) hx hb dX7_flood_16 (by decide) ?_
    refine lv_sipush (v := 999) hx hb dX7_flood_17 (by decide) ?_
    refine cRS (As := [.int v, .int 0, .int 999]) (rest := []) hx hb hml hown hts (c_X7_in l G E cI cZ v 0 999) k_7_22 cal_X7_in ⟨Nat.le_of_ble_eq_true rfl, Nat.le_of_ble_eq_true rfl⟩ hE hlow hS hK [0, 1] rfl hP [] rfl rfl hl.1 rfl (Nat.le_of_ble_eq_true rfl) dX7_flood_20 ⟨Nat.zero_le _, Nat.zero_le _⟩ ?_
    refine lv_if_ne (tgt := 28) hx hb dX7_flood_23 (by decide) (fun c_4 => ?_) (fun c_4 => ?_)
    · skip
      have c_4 : (wiB v 0 999) = true := bI_t c_4
      obtain ⟨xn, hx9, hex, hcx⟩ := wiB_n (M := 7) (by omega) c_1
      have hl : lv_has ls 3 [(0, .ref o), (1, .int (nI xn)), (2, .int v)] := by rw [hex] at hl; exact hl
      have hle1 := hle xn
      refine lv_aload_n hx hb dX7_flood_28 rfl (lv_at hl 0 rfl) ?_
      refine va_get (D := G) (ci := 7) (v := .ref a_HO) (C := RX7) (T := TX7) (N := 38) hx hb hts inlX7 hown hK hP 0 rfl rfl 23 (by decide) (hts (.fieldLink RX7 48 "EarthBanksModel" "hours" "[I") k_6_15) (fun _ h9 => h9) rfl dX7_flood_29 ?_
      refine lv_iload_n hx hb dX7_flood_32 rfl (lv_at hl 1 rfl) ?_
      refine ialdN (j := xn) hx hb hK hP 1 0 rfl rfl (by omega) (by decide) dX7_flood_33 ?_
      refine top_eq (y := nI (hN xn)) (hho xn) ?_
      refine lv_bipush (v := 12) hx hb dX7_flood_34 (by decide) ?_
      refine lv_icmp_ne (tgt := 42) hx hb dX7_flood_36 (by decide) (fun c_5 => ?_) (fun c_5 => ?_)
      · skip
        have c_5 : ¬ (hN xn) = 12 := fun h9 => c_5 ((nI_eq (a := (hN xn)) (b := 12) (by omega) (by omega)).mpr h9)
        have hle1 := hle xn
        have h12 : hN xn < 12 := by omega
        refine lv_aload_n hx hb dX7_flood_42 rfl (lv_at hl 0 rfl) ?_
        refine va_get (D := G) (ci := 7) (v := .ref a_WA) (C := RX7) (T := TX7) (N := 38) hx hb hts inlX7 hown hK hP 0 rfl rfl 24 (by decide) (hts (.fieldLink RX7 51 "EarthBanksModel" "water" "[I") k_6_16) (fun _ h9 => h9) rfl dX7_flood_43 ?_
        refine lv_bipush (v := 12) hx hb dX7_flood_46 (by decide) ?_
        refine lv_iload_n hx hb dX7_flood_48 rfl (lv_at hl 1 rfl) ?_
        refine lv_imul hx hb dX7_flood_49 ?_
        refine top_eq (y := nI (12 * xn)) (pk_mul _ _) ?_
        refine lv_aload_n hx hb dX7_flood_50 rfl (lv_at hl 0 rfl) ?_
        refine va_get (D := G) (ci := 7) (v := .ref a_HO) (C := RX7) (T := TX7) (N := 38) hx hb hts inlX7 hown hK hP 0 rfl rfl 23 (by decide) (hts (.fieldLink RX7 48 "EarthBanksModel" "hours" "[I") k_6_15) (fun _ h9 => h9) rfl dX7_flood_51 ?_
        refine lv_iload_n hx hb dX7_flood_54 rfl (lv_at hl 1 rfl) ?_
        refine ialdN (j := xn) hx hb hK hP 1 0 rfl rfl (by omega) (by decide) dX7_flood_55 ?_
        refine top_eq (y := nI (hN xn)) (hho xn) ?_
        refine lv_iadd hx hb dX7_flood_56 ?_
        refine top_eq (y := nI ((12 * xn) + (hN xn))) (nI_add _ _) ?_
        refine lv_iload_n hx hb dX7_flood_57 rfl (lv_at hl 2 rfl) ?_
        refine iastN (j := ((12 * xn) + (hN xn))) hx hb hK hP hD hS 2 0 rfl rfl (by omega) (by decide) dX7_flood_58 (fun H locs hP hD hS => ?_)
        have hP : va_P G vwCl [(o, .inr (7, [.int 0, .long tr, .ref a_S, .ref a_K, .ref a_IK, .ref a_SV, .ref a_DR, .ref a_TX, .int td, .int nx, .int tk, .int pc, .int vl, .int fa, .int ff, .ref a_WY, .ref a_BE, .int bf, .int bm, .int bl, .ref a_MO, .ref a_DY, .ref a_PO, .ref a_HO, .ref a_WA, .int ng, .ref a_GA, .int nc, .ref a_CA, .int sl, .ref a_MT, .ref a_LW, .int nw, .ref a_WK, .int pe, .int pv, .int pt, .int pu])), (a_HO, .inl (cI, 8, .inl HO)), (a_WA, .inl (cI, 96, .inl (upd WA ((12 * xn) + (hN xn)) v)))] H := hP
        have hD : va_D A [(o, .inr (7, [.int 0, .long tr, .ref a_S, .ref a_K, .ref a_IK, .ref a_SV, .ref a_DR, .ref a_TX, .int td, .int nx, .int tk, .int pc, .int vl, .int fa, .int ff, .ref a_WY, .ref a_BE, .int bf, .int bm, .int bl, .ref a_MO, .ref a_DY, .ref a_PO, .ref a_HO, .ref a_WA, .int ng, .ref a_GA, .int nc, .ref a_CA, .int sl, .ref a_MT, .ref a_LW, .int nw, .ref a_WK, .int pe, .int pv, .int pt, .int pu])), (a_HO, .inl (cI, 8, .inl HO)), (a_WA, .inl (cI, 96, .inl (upd WA ((12 * xn) + (hN xn)) v)))] := hD
        have en_6 : upd WA ((12 * xn) + (hN xn)) v = upd WA (xn * 12 + hN xn) v := by rw [Nat.mul_comm]
        rw [en_6] at hP hD
        have hP : va_P G vwCl [(o, .inr (7, [.int 0, .long tr, .ref a_S, .ref a_K, .ref a_IK, .ref a_SV, .ref a_DR, .ref a_TX, .int td, .int nx, .int tk, .int pc, .int vl, .int fa, .int ff, .ref a_WY, .ref a_BE, .int bf, .int bm, .int bl, .ref a_MO, .ref a_DY, .ref a_PO, .ref a_HO, .ref a_WA, .int ng, .ref a_GA, .int nc, .ref a_CA, .int sl, .ref a_MT, .ref a_LW, .int nw, .ref a_WK, .int pe, .int pv, .int pt, .int pu])), (a_HO, .inl (cI, 8, .inl HO)), (a_WA, .inl (cI, 96, .inl (upd WA (xn * 12 + hN xn) v)))] H := hP
        have hD : va_D A [(o, .inr (7, [.int 0, .long tr, .ref a_S, .ref a_K, .ref a_IK, .ref a_SV, .ref a_DR, .ref a_TX, .int td, .int nx, .int tk, .int pc, .int vl, .int fa, .int ff, .ref a_WY, .ref a_BE, .int bf, .int bm, .int bl, .ref a_MO, .ref a_DY, .ref a_PO, .ref a_HO, .ref a_WA, .int ng, .ref a_GA, .int nc, .ref a_CA, .int sl, .ref a_MT, .ref a_LW, .int nw, .ref a_WK, .int pe, .int pv, .int pt, .int pu])), (a_HO, .inl (cI, 8, .inl HO)), (a_WA, .inl (cI, 96, .inl (upd WA (xn * 12 + hN xn) v)))] := hD
        refine lv_aload_n hx hb dX7_flood_59 rfl (lv_at hl 0 rfl) ?_
        refine va_get (D := G) (ci := 7) (v := .ref a_HO) (C := RX7) (T := TX7) (N := 38) hx hb hts inlX7 hown hK hP 0 rfl rfl 23 (by decide) (hts (.fieldLink RX7 48 "EarthBanksModel" "hours" "[I") k_6_15) (fun _ h9 => h9) rfl dX7_flood_60 ?_
        refine lv_iload_n hx hb dX7_flood_63 rfl (lv_at hl 1 rfl) ?_
        refine lv_dup2_11 hx hb dX7_flood_64 rfl rfl ?_
        refine ialdN (j := xn) hx hb hK hP 1 0 rfl rfl (by omega) (by decide) dX7_flood_65 ?_
        refine top_eq (y := nI (hN xn)) (hho xn) ?_
        refine lv_iconst (v := 1) hx hb dX7_flood_66 (by decide) ?_
        refine lv_iadd hx hb dX7_flood_67 ?_
        refine top_eq (y := nI ((hN xn) + 1)) (nI_add _ _) ?_
        refine iastN (j := xn) hx hb hK hP hD hS 1 0 rfl rfl (by omega) (by decide) dX7_flood_68 (fun H locs hP hD hS => ?_)
        have hP : va_P G vwCl [(o, .inr (7, [.int 0, .long tr, .ref a_S, .ref a_K, .ref a_IK, .ref a_SV, .ref a_DR, .ref a_TX, .int td, .int nx, .int tk, .int pc, .int vl, .int fa, .int ff, .ref a_WY, .ref a_BE, .int bf, .int bm, .int bl, .ref a_MO, .ref a_DY, .ref a_PO, .ref a_HO, .ref a_WA, .int ng, .ref a_GA, .int nc, .ref a_CA, .int sl, .ref a_MT, .ref a_LW, .int nw, .ref a_WK, .int pe, .int pv, .int pt, .int pu])), (a_HO, .inl (cI, 8, .inl (upd HO xn (nI ((hN xn) + 1))))), (a_WA, .inl (cI, 96, .inl (upd WA (xn * 12 + hN xn) v)))] H := hP
        have hD : va_D A [(o, .inr (7, [.int 0, .long tr, .ref a_S, .ref a_K, .ref a_IK, .ref a_SV, .ref a_DR, .ref a_TX, .int td, .int nx, .int tk, .int pc, .int vl, .int fa, .int ff, .ref a_WY, .ref a_BE, .int bf, .int bm, .int bl, .ref a_MO, .ref a_DY, .ref a_PO, .ref a_HO, .ref a_WA, .int ng, .ref a_GA, .int nc, .ref a_CA, .int sl, .ref a_MT, .ref a_LW, .int nw, .ref a_WK, .int pe, .int pv, .int pt, .int pu])), (a_HO, .inl (cI, 8, .inl (upd HO xn (nI ((hN xn) + 1))))), (a_WA, .inl (cI, 96, .inl (upd WA (xn * 12 + hN xn) v)))] := hD
        refine lv_aload_n hx hb dX7_flood_69 rfl (lv_at hl 0 rfl) ?_
        refine va_get (D := G) (ci := 7) (v := .ref a_HO) (C := RX7) (T := TX7) (N := 38) hx hb hts inlX7 hown hK hP 0 rfl rfl 23 (by decide) (hts (.fieldLink RX7 48 "EarthBanksModel" "hours" "[I") k_6_15) (fun _ h9 => h9) rfl dX7_flood_70 ?_
        refine lv_iload_n hx hb dX7_flood_73 rfl (lv_at hl 1 rfl) ?_
        refine ialdN (j := xn) hx hb hK hP 1 0 rfl rfl (by omega) (by decide) dX7_flood_74 ?_
        refine top_eq (y := nI (hN xn + 1)) (pk_us) ?_
        have ew_7 : (upd HO xn (nI ((hN xn) + 1))) = (if wiB x 0 7 && wiB v 0 999 then (if hN x.toNatClampNeg < 12 then upd HO x.toNatClampNeg (nI (hN x.toNatClampNeg + 1)) else HO) else HO) := by simp [hcx, h12, c_1, c_4]
        have ew_8 : (upd WA (xn * 12 + hN xn) v) = (if wiB x 0 7 && wiB v 0 999 then (if hN x.toNatClampNeg < 12 then upd WA (x.toNatClampNeg * 12 + hN x.toNatClampNeg) v else WA) else WA) := by simp [hcx, h12, c_1, c_4]
        have hP : va_P G vwCl [(o, .inr (7, [.int 0, .long tr, .ref a_S, .ref a_K, .ref a_IK, .ref a_SV, .ref a_DR, .ref a_TX, .int td, .int nx, .int tk, .int pc, .int vl, .int fa, .int ff, .ref a_WY, .ref a_BE, .int bf, .int bm, .int bl, .ref a_MO, .ref a_DY, .ref a_PO, .ref a_HO, .ref a_WA, .int ng, .ref a_GA, .int nc, .ref a_CA, .int sl, .ref a_MT, .ref a_LW, .int nw, .ref a_WK, .int pe, .int pv, .int pt, .int pu])), (a_HO, .inl (cI, 8, .inl (if wiB x 0 7 && wiB v 0 999 then (if hN x.toNatClampNeg < 12 then upd HO x.toNatClampNeg (nI (hN x.toNatClampNeg + 1)) else HO) else HO))), (a_WA, .inl (cI, 96, .inl (if wiB x 0 7 && wiB v 0 999 then (if hN x.toNatClampNeg < 12 then upd WA (x.toNatClampNeg * 12 + hN x.toNatClampNeg) v else WA) else WA)))] H := by rw [← ew_7, ← ew_8]; exact hP
        exact retWi () hx hb hr (rfl) hlocks dX7_flood_75 hS (by simp [hcx, h12, c_1, c_4]) hP
      · skip
        have c_5 : (hN xn) = 12 := (nI_eq (a := (hN xn)) (b := 12) (by omega) (by omega)).mp c_5
        have hle1 := hle xn
        have h12 : ¬ hN xn < 12 := by omega
        refine lv_bipush (v := (-3)) hx hb dX7_flood_39 (by decide) ?_
        have ew_9 : HO = (if wiB x 0 7 && wiB v 0 999 then (if hN x.toNatClampNeg < 12 then upd HO x.toNatClampNeg (nI (hN x.toNatClampNeg + 1)) else HO) else HO) := by simp [hcx, h12, c_1, c_4]
        have ew_10 : WA = (if wiB x 0 7 && wiB v 0 999 then (if hN x.toNatClampNeg < 12 then upd WA (x.toNatClampNeg * 12 + hN x.toNatClampNeg) v else WA) else WA) := by simp [hcx, h12, c_1, c_4]
        have hP : va_P G vwCl [(o, .inr (7, [.int 0, .long tr, .ref a_S, .ref a_K, .ref a_IK, .ref a_SV, .ref a_DR, .ref a_TX, .int td, .int nx, .int tk, .int pc, .int vl, .int fa, .int ff, .ref a_WY, .ref a_BE, .int bf, .int bm, .int bl, .ref a_MO, .ref a_DY, .ref a_PO, .ref a_HO, .ref a_WA, .int ng, .ref a_GA, .int nc, .ref a_CA, .int sl, .ref a_MT, .ref a_LW, .int nw, .ref a_WK, .int pe, .int pv, .int pt, .int pu])), (a_HO, .inl (cI, 8, .inl (if wiB x 0 7 && wiB v 0 999 then (if hN x.toNatClampNeg < 12 then upd HO x.toNatClampNeg (nI (hN x.toNatClampNeg + 1)) else HO) else HO))), (a_WA, .inl (cI, 96, .inl (if wiB x 0 7 && wiB v 0 999 then (if hN x.toNatClampNeg < 12 then upd WA (x.toNatClampNeg * 12 + hN x.toNatClampNeg) v else WA) else WA)))] H := by rw [← ew_9, ← ew_10]; exact hP
        exact retWi () hx hb hr (rfl) hlocks dX7_flood_41 hS (by simp [hcx, h12, c_1, c_4]) hP
    · skip
      have c_4 : (wiB v 0 999) = false := bI_f c_4
      refine lv_iconst (v := (-1)) hx hb dX7_flood_26 (by decide) ?_
      have ew_11 : HO = (if wiB x 0 7 && wiB v 0 999 then (if hN x.toNatClampNeg < 12 then upd HO x.toNatClampNeg (nI (hN x.toNatClampNeg + 1)) else HO) else HO) := by simp [c_1, c_4]
      have ew_12 : WA = (if wiB x 0 7 && wiB v 0 999 then (if hN x.toNatClampNeg < 12 then upd WA (x.toNatClampNeg * 12 + hN x.toNatClampNeg) v else WA) else WA) := by simp [c_1, c_4]
      have hP : va_P G vwCl [(o, .inr (7, [.int 0, .long tr, .ref a_S, .ref a_K, .ref a_IK, .ref a_SV, .ref a_DR, .ref a_TX, .int td, .int nx, .int tk, .int pc, .int vl, .int fa, .int ff, .ref a_WY, .ref a_BE, .int bf, .int bm, .int bl, .ref a_MO, .ref a_DY, .ref a_PO, .ref a_HO, .ref a_WA, .int ng, .ref a_GA, .int nc, .ref a_CA, .int sl, .ref a_MT, .ref a_LW, .int nw, .ref a_WK, .int pe, .int pv, .int pt, .int pu])), (a_HO, .inl (cI, 8, .inl (if wiB x 0 7 && wiB v 0 999 then (if hN x.toNatClampNeg < 12 then upd HO x.toNatClampNeg (nI (hN x.toNatClampNeg + 1)) else HO) else HO))), (a_WA, .inl (cI, 96, .inl (if wiB x 0 7 && wiB v 0 999 then (if hN x.toNatClampNeg < 12 then upd WA (x.toNatClampNeg * 12 + hN x.toNatClampNeg) v else WA) else WA)))] H := by rw [← ew_11, ← ew_12]; exact hP
      exact retWi () hx hb hr (rfl) hlocks dX7_flood_27 hS (by simp [c_1, c_4]) hP
theorem cal_X7_ebb : calV yX7_ebb cX7_ebb 3 (some .int) 1 := ⟨k_33_1, k_1_5, k_32_23, k_33_0, by decide +kernel⟩
set_option maxHeartbeats 4000000 in
set_option maxRecDepth 100000 in
theorem c_X7_ebb (l : Launch) (G : va_G) (E : EvT) (cI cZ : ClassId) (x : Int32) (o : Nat) (a_HO : Nat) (a_S : Nat) (a_K : Nat) (a_IK : Nat) (a_SV : Nat) (a_DR : Nat) (a_TX : Nat) (a_WY : Nat) (a_BE : Nat) (a_MO : Nat) (a_DY : Nat) (a_PO : Nat) (a_WA : Nat) (a_GA : Nat) (a_CA : Nat) (a_MT : Nat) (a_LW : Nat) (a_WK : Nat) (th : Int32) (tr : Int64) (td : Int32) (nx : Int32) (tk : Int32) (pc : Int32) (vl : Int32) (fa : Int32) (ff : Int32) (bf : Int32) (bm : Int32) (bl : Int32) (ng : Int32) (nc : Int32) (sl : Int32) (nw : Int32) (pe : Int32) (pv : Int32) (pt : Int32) (pu : Int32) (HO : Nat → Int32) : cWi (S := Unit) l G E yX7_ebb cX7_ebb 3 (some .int) 8 [(cI, .int), (cZ, .boolean)] [.ref o, .int x] [(o, .inr (7, [.int th, .long tr, .ref a_S, .ref a_K, .ref a_IK, .ref a_SV, .ref a_DR, .ref a_TX, .int td, .int nx, .int tk, .int pc, .int vl, .int fa, .int ff, .ref a_WY, .ref a_BE, .int bf, .int bm, .int bl, .ref a_MO, .ref a_DY, .ref a_PO, .ref a_HO, .ref a_WA, .int ng, .ref a_GA, .int nc, .ref a_CA, .int sl, .ref a_MT, .ref a_LW, .int nw, .ref a_WK, .int pe, .int pv, .int pt, .int pu])), (a_HO, .inl (cI, 8, .inl HO))] (fun r _ => r = (if wiB x 0 7 then HO x.toNatClampNeg else (-1))) (fun _ => [(o, .inr (7, [.int 0, .long tr, .ref a_S, .ref a_K, .ref a_IK, .ref a_SV, .ref a_DR, .ref a_TX, .int td, .int nx, .int tk, .int pc, .int vl, .int fa, .int ff, .ref a_WY, .ref a_BE, .int bf, .int bm, .int bl, .ref a_MO, .ref a_DY, .ref a_PO, .ref a_HO, .ref a_WA, .int ng, .ref a_GA, .int nc, .ref a_CA, .int sl, .ref a_MT, .ref a_LW, .int nw, .ref a_WK, .int pe, .int pv, .int pt, .int pu])), (a_HO, .inl (cI, 8, .inl (if wiB x 0 7 then upd HO x.toNatClampNeg 0 else HO)))]) := by
  refine mkWi (by decide) (Nat.le_of_ble_eq_true rfl) ?_
  intro zp ze s zm args below meth zc hx hb hr hml hown hts hlocks hE hK A hA hlow H locs hP hD hS ls hl
  have hl : lv_has ls 3 [(0, .ref o), (1, .int x)] := hl
  refine lv_aload_n hx hb dX7_ebb_0 rfl (lv_at hl 0 rfl) ?_
  refine lv_iconst (v := 0) hx hb dX7_ebb_1 (by decide) ?_
  refine va_put (D := G) (ci := 7) (v := .int 0) (ty := .int) (C := RX7) (T := TX7) (N := 38) hx hb hts inlX7 tyX7 tyX7_ok nmX7 hown hK hP hD hS 0 rfl rfl 0 (by decide) (hts (.fieldLink RX7 75 "EarthBanksModel" "thrown" "I") k_7_19) (fun _ h9 => h9) rfl (by decide +kernel) (rfl) (rfl) (Nat.le_of_ble_eq_true rfl) dX7_ebb_2 (fun H locs hP hD hS => ?_)
  have hP : va_P G vwCl [(o, .inr (7, [.int 0, .long tr, .ref a_S, .ref a_K, .ref a_IK, .ref a_SV, .ref a_DR, .ref a_TX, .int td, .int nx, .int tk, .int pc, .int vl, .int fa, .int ff, .ref a_WY, .ref a_BE, .int bf, .int bm, .int bl, .ref a_MO, .ref a_DY, .ref a_PO, .ref a_HO, .ref a_WA, .int ng, .ref a_GA, .int nc, .ref a_CA, .int sl, .ref a_MT, .ref a_LW, .int nw, .ref a_WK, .int pe, .int pv, .int pt, .int pu])), (a_HO, .inl (cI, 8, .inl HO))] H := hP
  have hD : va_D A [(o, .inr (7, [.int 0, .long tr, .ref a_S, .ref a_K, .ref a_IK, .ref a_SV, .ref a_DR, .ref a_TX, .int td, .int nx, .int tk, .int pc, .int vl, .int fa, .int ff, .ref a_WY, .ref a_BE, .int bf, .int bm, .int bl, .ref a_MO, .ref a_DY, .ref a_PO, .ref a_HO, .ref a_WA, .int ng, .ref a_GA, .int nc, .ref a_CA, .int sl, .ref a_MT, .ref a_LW, .int nw, .ref a_WK, .int pe, .int pv, .int pt, .int pu])), (a_HO, .inl (cI, 8, .inl HO))] := hD
  refine lv_iload_n hx hb dX7_ebb_5 rfl (lv_at hl 1 rfl) ?_
  refine lv_iconst (v := 0) hx hb dX7_ebb_6 (by decide) ?_
  refine lv_bipush (v := 7) hx hb dX7_ebb_7 (by decide) ?_
  refine cRS (As := [.int x, .int 0, .int 7]) (rest := []) hx hb hml hown hts (c_X7_in l G E cI cZ x 0 7) k_7_22 cal_X7_in ⟨Nat.le_of_ble_eq_true rfl, Nat.le_of_ble_eq_true rfl⟩ hE hlow hS hK [0, 1] rfl hP [] rfl rfl hl.1 rfl (Nat.le_of_ble_eq_true rfl) dX7_ebb_9 ⟨Nat.zero_le _, Nat.zero_le _⟩ ?_
  refine lv_if_ne (tgt := 17) hx hb dX7_ebb_12 (by decide) (fun c_1 => ?_) (fun c_1 => ?_)
  · skip
    have c_1 : (wiB x 0 7) = true := bI_t c_1
    obtain ⟨xn, hx9, hex, hcx⟩ := wiB_n (M := 7) (by omega) c_1
    have hl : lv_has ls 3 [(0, .ref o), (1, .int (nI xn))] := by rw [hex] at hl; exact hl
    refine lv_aload_n hx hb dX7_ebb_17 rfl (lv_at hl 0 rfl) ?_
    refine va_get (D := G) (ci := 7) (v := .ref a_HO) (C := RX7) (T := TX7) (N := 38) hx hb hts inlX7 hown hK hP 0 rfl rfl 23 (by decide) (hts (.fieldLink RX7 48 "EarthBanksModel" "hours" "[I") k_6_15) (fun _ h9 => h9) rfl dX7_ebb_18 ?_
    refine lv_iload_n hx hb dX7_ebb_21 rfl (lv_at hl 1 rfl) ?_
    refine ialdN (j := xn) hx hb hK hP 1 0 rfl rfl (by omega) (by decide) dX7_ebb_22 ?_
    refine lv_istore_n (lv' := [(2, .int (HO xn)), (0, .ref o), (1, .int (nI xn))]) hx hb dX7_ebb_23 rfl hl (by decide) rfl (fun ls hl => ?_)
    refine lv_aload_n hx hb dX7_ebb_24 rfl (lv_at hl 1 rfl) ?_
    refine va_get (D := G) (ci := 7) (v := .ref a_HO) (C := RX7) (T := TX7) (N := 38) hx hb hts inlX7 hown hK hP 0 rfl rfl 23 (by decide) (hts (.fieldLink RX7 48 "EarthBanksModel" "hours" "[I") k_6_15) (fun _ h9 => h9) rfl dX7_ebb_25 ?_
    refine lv_iload_n hx hb dX7_ebb_28 rfl (lv_at hl 2 rfl) ?_
    refine lv_iconst (v := 0) hx hb dX7_ebb_29 (by decide) ?_
    refine iastN (j := xn) hx hb hK hP hD hS 1 0 rfl rfl (by omega) (by decide) dX7_ebb_30 (fun H locs hP hD hS => ?_)
    have hP : va_P G vwCl [(o, .inr (7, [.int 0, .long tr, .ref a_S, .ref a_K, .ref a_IK, .ref a_SV, .ref a_DR, .ref a_TX, .int td, .int nx, .int tk, .int pc, .int vl, .int fa, .int ff, .ref a_WY, .ref a_BE, .int bf, .int bm, .int bl, .ref a_MO, .ref a_DY, .ref a_PO, .ref a_HO, .ref a_WA, .int ng, .ref a_GA, .int nc, .ref a_CA, .int sl, .ref a_MT, .ref a_LW, .int nw, .ref a_WK, .int pe, .int pv, .int pt, .int pu])), (a_HO, .inl (cI, 8, .inl (upd HO xn 0)))] H := hP
    have hD : va_D A [(o, .inr (7, [.int 0, .long tr, .ref a_S, .ref a_K, .ref a_IK, .ref a_SV, .ref a_DR, .ref a_TX, .int td, .int nx, .int tk, .int pc, .int vl, .int fa, .int ff, .ref a_WY, .ref a_BE, .int bf, .int bm, .int bl, .ref a_MO, .ref a_DY, .ref a_PO, .ref a_HO, .ref a_WA, .int ng, .ref a_GA, .int nc, .ref a_CA, .int sl, .ref a_MT, .ref a_LW, .int nw, .ref a_WK, .int pe, .int pv, .int pt, .int pu])), (a_HO, .inl (cI, 8, .inl (upd HO xn 0)))] := hD
    refine lv_iload_n hx hb dX7_ebb_31 rfl (lv_at hl 0 rfl) ?_
    have ew_2 : (upd HO xn 0) = (if wiB x 0 7 then upd HO x.toNatClampNeg 0 else HO) := by simp [hcx, c_1]
    have hP : va_P G vwCl [(o, .inr (7, [.int 0, .long tr, .ref a_S, .ref a_K, .ref a_IK, .ref a_SV, .ref a_DR, .ref a_TX, .int td, .int nx, .int tk, .int pc, .int vl, .int fa, .int ff, .ref a_WY, .ref a_BE, .int bf, .int bm, .int bl, .ref a_MO, .ref a_DY, .ref a_PO, .ref a_HO, .ref a_WA, .int ng, .ref a_GA, .int nc, .ref a_CA, .int sl, .ref a_MT, .ref a_LW, .int nw, .ref a_WK, .int pe, .int pv, .int pt, .int pu])), (a_HO, .inl (cI, 8, .inl (if wiB x 0 7 then upd HO x.toNatClampNeg 0 else HO)))] H := by rw [← ew_2]; exact hP
    exact retWi () hx hb hr (rfl) hlocks dX7_ebb_32 hS (by simp [hcx, c_1]) hP
  · skip
    have c_1 : (wiB x 0 7) = false := bI_f c_1
    refine lv_iconst (v := (-1)) hx hb dX7_ebb_15 (by decide) ?_
    have ew_3 : HO = (if wiB x 0 7 then upd HO x.toNatClampNeg 0 else HO) := by simp [c_1]
    have hP : va_P G vwCl [(o, .inr (7, [.int 0, .long tr, .ref a_S, .ref a_K, .ref a_IK, .ref a_SV, .ref a_DR, .ref a_TX, .int td, .int nx, .int tk, .int pc, .int vl, .int fa, .int ff, .ref a_WY, .ref a_BE, .int bf, .int bm, .int bl, .ref a_MO, .ref a_DY, .ref a_PO, .ref a_HO, .ref a_WA, .int ng, .ref a_GA, .int nc, .ref a_CA, .int sl, .ref a_MT, .ref a_LW, .int nw, .ref a_WK, .int pe, .int pv, .int pt, .int pu])), (a_HO, .inl (cI, 8, .inl (if wiB x 0 7 then upd HO x.toNatClampNeg 0 else HO)))] H := by rw [← ew_3]; exact hP
    exact retWi () hx hb hr (rfl) hlocks dX7_ebb_16 hS (by simp [c_1]) hP
theorem cal_X7_slack : calV yX7_slack cX7_slack 3 (some .int) 1 := ⟨k_36_16, k_1_5, k_36_14, k_36_15, by decide +kernel⟩
set_option maxHeartbeats 4000000 in
set_option maxRecDepth 100000 in
theorem c_X7_slack (l : Launch) (G : va_G) (E : EvT) (cI cZ : ClassId) (v : Int32) (o : Nat) (a_S : Nat) (a_K : Nat) (a_IK : Nat) (a_SV : Nat) (a_DR : Nat) (a_TX : Nat) (a_WY : Nat) (a_BE : Nat) (a_MO : Nat) (a_DY : Nat) (a_PO : Nat) (a_HO : Nat) (a_WA : Nat) (a_GA : Nat) (a_CA : Nat) (a_MT : Nat) (a_LW : Nat) (a_WK : Nat) (th : Int32) (tr : Int64) (td : Int32) (nx : Int32) (tk : Int32) (pc : Int32) (vl : Int32) (fa : Int32) (ff : Int32) (bf : Int32) (bm : Int32) (bl : Int32) (ng : Int32) (nc : Int32) (sl : Int32) (nw : Int32) (pe : Int32) (pv : Int32) (pt : Int32) (pu : Int32) : cWi (S := Unit) l G E yX7_slack cX7_slack 3 (some .int) 8 [(cI, .int), (cZ, .boolean)] [.ref o, .int v] [(o, .inr (7, [.int th, .long tr, .ref a_S, .ref a_K, .ref a_IK, .ref a_SV, .ref a_DR, .ref a_TX, .int td, .int nx, .int tk, .int pc, .int vl, .int fa, .int ff, .ref a_WY, .ref a_BE, .int bf, .int bm, .int bl, .ref a_MO, .ref a_DY, .ref a_PO, .ref a_HO, .ref a_WA, .int ng, .ref a_GA, .int nc, .ref a_CA, .int sl, .ref a_MT, .ref a_LW, .int nw, .ref a_WK, .int pe, .int pv, .int pt, .int pu]))] (fun r _ => r = (if wiB v 0 999 then sl else (-1))) (fun _ => [(o, .inr (7, [.int 0, .long tr, .ref a_S, .ref a_K, .ref a_IK, .ref a_SV, .ref a_DR, .ref a_TX, .int td, .int nx, .int tk, .int pc, .int vl, .int fa, .int ff, .ref a_WY, .ref a_BE, .int bf, .int bm, .int bl, .ref a_MO, .ref a_DY, .ref a_PO, .ref a_HO, .ref a_WA, .int ng, .ref a_GA, .int nc, .ref a_CA, .int (if wiB v 0 999 then v else sl), .ref a_MT, .ref a_LW, .int nw, .ref a_WK, .int pe, .int pv, .int pt, .int pu]))]) := by
  refine mkWi (by decide) (Nat.le_of_ble_eq_true rfl) ?_
  intro zp ze s zm args below meth zc hx hb hr hml hown hts hlocks hE hK A hA hlow H locs hP hD hS ls hl
  have hl : lv_has ls 3 [(0, .ref o), (1, .int v)] := hl
  refine lv_aload_n hx hb dX7_slack_0 rfl (lv_at hl 0 rfl) ?_
  refine lv_iconst (v := 0) hx hb dX7_slack_1 (by decide) ?_
  refine va_put (D := G) (ci := 7) (v := .int 0) (ty := .int) (C := RX7) (T := TX7) (N := 38) hx hb hts inlX7 tyX7 tyX7_ok nmX7 hown hK hP hD hS 0 rfl rfl 0 (by decide) (hts (.fieldLink RX7 75 "EarthBanksModel" "thrown" "I") k_7_19) (fun _ h9 => h9) rfl (by decide +kernel) (rfl) (rfl) (Nat.le_of_ble_eq_true rfl) dX7_slack_2 (fun H locs hP hD hS => ?_)
  have hP : va_P G vwCl [(o, .inr (7, [.int 0, .long tr, .ref a_S, .ref a_K, .ref a_IK, .ref a_SV, .ref a_DR, .ref a_TX, .int td, .int nx, .int tk, .int pc, .int vl, .int fa, .int ff, .ref a_WY, .ref a_BE, .int bf, .int bm, .int bl, .ref a_MO, .ref a_DY, .ref a_PO, .ref a_HO, .ref a_WA, .int ng, .ref a_GA, .int nc, .ref a_CA, .int sl, .ref a_MT, .ref a_LW, .int nw, .ref a_WK, .int pe, .int pv, .int pt, .int pu]))] H := hP
  have hD : va_D A [(o, .inr (7, [.int 0, .long tr, .ref a_S, .ref a_K, .ref a_IK, .ref a_SV, .ref a_DR, .ref a_TX, .int td, .int nx, .int tk, .int pc, .int vl, .int fa, .int ff, .ref a_WY, .ref a_BE, .int bf, .int bm, .int bl, .ref a_MO, .ref a_DY, .ref a_PO, .ref a_HO, .ref a_WA, .int ng, .ref a_GA, .int nc, .ref a_CA, .int sl, .ref a_MT, .ref a_LW, .int nw, .ref a_WK, .int pe, .int pv, .int pt, .int pu]))] := hD
  refine lv_iload_n hx hb dX7_slack_5 rfl (lv_at hl 1 rfl) ?_
  refine lv_iconst (v := 0) hx hb dX7_slack_6 (by decide) ?_
  refine lv_sipush (v := 999) hx hb dX7_slack_7 (by decide) ?_
  refine cRS (As := [.int v, .int 0, .int 999]) (rest := []) hx hb hml hown hts (c_X7_in l G E cI cZ v 0 999) k_7_22 cal_X7_in ⟨Nat.le_of_ble_eq_true rfl, Nat.le_of_ble_eq_true rfl⟩ hE hlow hS hK [0, 1] rfl hP [] rfl rfl hl.1 rfl (Nat.le_of_ble_eq_true rfl) dX7_slack_10 ⟨Nat.zero_le _, Nat.zero_le _⟩ ?_
  refine lv_if_ne (tgt := 18) hx hb dX7_slack_13 (by decide) (fun c_1 => ?_) (fun c_1 => ?_)
  · skip
    have c_1 : (wiB v 0 999) = true := bI_t c_1
    refine lv_aload_n hx hb dX7_slack_18 rfl (lv_at hl 0 rfl) ?_
    refine va_get (D := G) (ci := 7) (v := .int sl) (C := RX7) (T := TX7) (N := 38) hx hb hts inlX7 hown hK hP 0 rfl rfl 29 (by decide) (hts (.fieldLink RX7 60 "EarthBanksModel" "slack" "I") k_6_19) (fun _ h9 => h9) rfl dX7_slack_19 ?_
    refine lv_istore_n (lv' := [(2, .int sl), (0, .ref o), (1, .int v)]) hx hb dX7_slack_22 rfl hl (by decide) rfl (fun ls hl => ?_)
    refine lv_aload_n hx hb dX7_slack_23 rfl (lv_at hl 1 rfl) ?_
    refine lv_iload_n hx hb dX7_slack_24 rfl (lv_at hl 2 rfl) ?_
    refine va_put (D := G) (ci := 7) (v := .int v) (ty := .int) (C := RX7) (T := TX7) (N := 38) hx hb hts inlX7 tyX7 tyX7_ok nmX7 hown hK hP hD hS 0 rfl rfl 29 (by decide) (hts (.fieldLink RX7 60 "EarthBanksModel" "slack" "I") k_6_19) (fun _ h9 => h9) rfl (by decide +kernel) (rfl) (rfl) (Nat.le_of_ble_eq_true rfl) dX7_slack_25 (fun H locs hP hD hS => ?_)
    have hP : va_P G vwCl [(o, .inr (7, [.int 0, .long tr, .ref a_S, .ref a_K, .ref a_IK, .ref a_SV, .ref a_DR, .ref a_TX, .int td, .int nx, .int tk, .int pc, .int vl, .int fa, .int ff, .ref a_WY, .ref a_BE, .int bf, .int bm, .int bl, .ref a_MO, .ref a_DY, .ref a_PO, .ref a_HO, .ref a_WA, .int ng, .ref a_GA, .int nc, .ref a_CA, .int v, .ref a_MT, .ref a_LW, .int nw, .ref a_WK, .int pe, .int pv, .int pt, .int pu]))] H := hP
    have hD : va_D A [(o, .inr (7, [.int 0, .long tr, .ref a_S, .ref a_K, .ref a_IK, .ref a_SV, .ref a_DR, .ref a_TX, .int td, .int nx, .int tk, .int pc, .int vl, .int fa, .int ff, .ref a_WY, .ref a_BE, .int bf, .int bm, .int bl, .ref a_MO, .ref a_DY, .ref a_PO, .ref a_HO, .ref a_WA, .int ng, .ref a_GA, .int nc, .ref a_CA, .int v, .ref a_MT, .ref a_LW, .int nw, .ref a_WK, .int pe, .int pv, .int pt, .int pu]))] := hD
    refine lv_iload_n hx hb dX7_slack_28 rfl (lv_at hl 0 rfl) ?_
    have ew_2 : (v : Int32) = if wiB v 0 999 then v else sl := by simp [bI, c_1]
    have hP : va_P G vwCl [(o, .inr (7, [.int 0, .long tr, .ref a_S, .ref a_K, .ref a_IK, .ref a_SV, .ref a_DR, .ref a_TX, .int td, .int nx, .int tk, .int pc, .int vl, .int fa, .int ff, .ref a_WY, .ref a_BE, .int bf, .int bm, .int bl, .ref a_MO, .ref a_DY, .ref a_PO, .ref a_HO, .ref a_WA, .int ng, .ref a_GA, .int nc, .ref a_CA, .int (if wiB v 0 999 then v else sl), .ref a_MT, .ref a_LW, .int nw, .ref a_WK, .int pe, .int pv, .int pt, .int pu]))] H := by rw [← ew_2]; exact hP
    exact retWi () hx hb hr (rfl) hlocks dX7_slack_29 hS (by simp [bI, c_1]) hP
  · skip
    have c_1 : (wiB v 0 999) = false := bI_f c_1
    refine lv_iconst (v := (-1)) hx hb dX7_slack_16 (by decide) ?_
    have ew_3 : (sl : Int32) = if wiB v 0 999 then v else sl := by simp [bI, c_1]
    have hP : va_P G vwCl [(o, .inr (7, [.int 0, .long tr, .ref a_S, .ref a_K, .ref a_IK, .ref a_SV, .ref a_DR, .ref a_TX, .int td, .int nx, .int tk, .int pc, .int vl, .int fa, .int ff, .ref a_WY, .ref a_BE, .int bf, .int bm, .int bl, .ref a_MO, .ref a_DY, .ref a_PO, .ref a_HO, .ref a_WA, .int ng, .ref a_GA, .int nc, .ref a_CA, .int (if wiB v 0 999 then v else sl), .ref a_MT, .ref a_LW, .int nw, .ref a_WK, .int pe, .int pv, .int pt, .int pu]))] H := by rw [← ew_3]; exact hP
    exact retWi () hx hb hr (rfl) hlocks dX7_slack_17 hS (by simp [bI, c_1]) hP
theorem cal_X7_count : calV yX7_count cX7_count 4 (some .int) 1 := ⟨k_42_0, k_1_5, k_41_22, k_41_23, by decide +kernel⟩
set_option maxHeartbeats 4000000 in
set_option maxRecDepth 100000 in
theorem c_X7_count (l : Launch) (G : va_G) (E : EvT) (cI cZ : ClassId) (zo : Nat → Int32) (he : Nat → Int32) (go : Nat → Int32) (le : Nat → Int32) (hd : Nat → Int32) (gn : Nat → Int32) (la : Int32) (v : Int32) (o : Nat) (a_S : Nat) (a_K : Nat) (a_IK : Nat) (a_SV : Nat) (a_DR : Nat) (a_TX : Nat) (a_WY : Nat) (a_BE : Nat) (a_MO : Nat) (a_DY : Nat) (a_PO : Nat) (a_HO : Nat) (a_WA : Nat) (a_GA : Nat) (a_CA : Nat) (a_MT : Nat) (a_LW : Nat) (a_WK : Nat) (th : Int32) (tr : Int64) (td : Int32) (nx : Int32) (tk : Int32) (pc : Int32) (vl : Int32) (fa : Int32) (ff : Int32) (bf : Int32) (bm : Int32) (bl : Int32) (ng : Int32) (nc : Int32) (sl : Int32) (nw : Int32) (pe : Int32) (pv : Int32) (pt : Int32) (pu : Int32) : cWi (S := Unit) l G E yX7_count cX7_count 4 (some .int) 8 [(cI, .int), (cZ, .boolean)] [.ref o, .int v] [(o, .inr (7, [.int th, .long tr, .ref a_S, .ref a_K, .ref a_IK, .ref a_SV, .ref a_DR, .ref a_TX, .int td, .int nx, .int tk, .int pc, .int vl, .int fa, .int ff, .ref a_WY, .ref a_BE, .int bf, .int bm, .int bl, .ref a_MO, .ref a_DY, .ref a_PO, .ref a_HO, .ref a_WA, .int ng, .ref a_GA, .int nc, .ref a_CA, .int sl, .ref a_MT, .ref a_LW, .int nw, .ref a_WK, .int pe, .int pv, .int pt, .int pu])), (a_S, .inl (cI, 163, .inl (ms zo he go le hd gn la)))] (fun r _ => r = cntX zo he go la ng nc nw td v) (fun _ => [(o, .inr (7, [.int 0, .long tr, .ref a_S, .ref a_K, .ref a_IK, .ref a_SV, .ref a_DR, .ref a_TX, .int td, .int nx, .int tk, .int pc, .int vl, .int fa, .int ff, .ref a_WY, .ref a_BE, .int bf, .int bm, .int bl, .ref a_MO, .ref a_DY, .ref a_PO, .ref a_HO, .ref a_WA, .int ng, .ref a_GA, .int nc, .ref a_CA, .int sl, .ref a_MT, .ref a_LW, .int nw, .ref a_WK, .int pe, .int pv, .int pt, .int pu])), (a_S, .inl (cI, 163, .inl (ms zo he go le hd gn la)))]) := by
  refine mkWi (by decide) (Nat.le_of_ble_eq_true rfl) ?_
  intro zp ze s zm args below meth zc hx hb hr hml hown hts hlocks hE hK A hA hlow H locs hP hD hS ls hl
  have hl : lv_has ls 4 [(0, .ref o), (1, .int v)] := hl
  refine lv_aload_n hx hb dX7_count_0 rfl (lv_at hl 0 rfl) ?_
  refine lv_iconst (v := 0) hx hb dX7_count_1 (by decide) ?_
  refine va_put (D := G) (ci := 7) (v := .int 0) (ty := .int) (C := RX7) (T := TX7) (N := 38) hx hb hts inlX7 tyX7 tyX7_ok nmX7 hown hK hP hD hS 0 rfl rfl 0 (by decide) (hts (.fieldLink RX7 75 "EarthBanksModel" "thrown" "I") k_7_19) (fun _ h9 => h9) rfl (by decide +kernel) (rfl) (rfl) (Nat.le_of_ble_eq_true rfl) dX7_count_2 (fun H locs hP hD hS => ?_)
  have hP : va_P G vwCl [(o, .inr (7, [.int 0, .long tr, .ref a_S, .ref a_K, .ref a_IK, .ref a_SV, .ref a_DR, .ref a_TX, .int td, .int nx, .int tk, .int pc, .int vl, .int fa, .int ff, .ref a_WY, .ref a_BE, .int bf, .int bm, .int bl, .ref a_MO, .ref a_DY, .ref a_PO, .ref a_HO, .ref a_WA, .int ng, .ref a_GA, .int nc, .ref a_CA, .int sl, .ref a_MT, .ref a_LW, .int nw, .ref a_WK, .int pe, .int pv, .int pt, .int pu])), (a_S, .inl (cI, 163, .inl (ms zo he go le hd gn la)))] H := hP
  have hD : va_D A [(o, .inr (7, [.int 0, .long tr, .ref a_S, .ref a_K, .ref a_IK, .ref a_SV, .ref a_DR, .ref a_TX, .int td, .int nx, .int tk, .int pc, .int vl, .int fa, .int ff, .ref a_WY, .ref a_BE, .int bf, .int bm, .int bl, .ref a_MO, .ref a_DY, .ref a_PO, .ref a_HO, .ref a_WA, .int ng, .ref a_GA, .int nc, .ref a_CA, .int sl, .ref a_MT, .ref a_LW, .int nw, .ref a_WK, .int pe, .int pv, .int pt, .int pu])), (a_S, .inl (cI, 163, .inl (ms zo he go le hd gn la)))] := hD
  refine lv_iconst (v := 0) hx hb dX7_count_5 (by decide) ?_
  refine lv_istore_n (lv' := [(2, .int 0), (0, .ref o), (1, .int v)]) hx hb dX7_count_6 rfl hl (by decide) rfl (fun ls hl => ?_)
  refine lv_iconst (v := 0) hx hb dX7_count_7 (by decide) ?_
  refine lv_istore_n (lv' := [(3, .int 0), (2, .int 0), (0, .ref o), (1, .int v)]) hx hb dX7_count_8 rfl hl (by decide) rfl (fun ls hl => ?_)
  suffices lp9 : ∀ zn k9 : Nat, 0 ≤ k9 → k9 ≤ 48 → 48 < k9 + zn → ∀ (H : Heap) (locs : List Loc), va_P G vwCl [(o, .inr (7, [.int 0, .long tr, .ref a_S, .ref a_K, .ref a_IK, .ref a_SV, .ref a_DR, .ref a_TX, .int td, .int nx, .int tk, .int pc, .int vl, .int fa, .int ff, .ref a_WY, .ref a_BE, .int bf, .int bm, .int bl, .ref a_MO, .ref a_DY, .ref a_PO, .ref a_HO, .ref a_WA, .int ng, .ref a_GA, .int nc, .ref a_CA, .int sl, .ref a_MT, .ref a_LW, .int nw, .ref a_WK, .int pe, .int pv, .int pt, .int pu])), (a_S, .inl (cI, 163, .inl (ms zo he go le hd gn la)))] H → va_D A [(o, .inr (7, [.int 0, .long tr, .ref a_S, .ref a_K, .ref a_IK, .ref a_SV, .ref a_DR, .ref a_TX, .int td, .int nx, .int tk, .int pc, .int vl, .int fa, .int ff, .ref a_WY, .ref a_BE, .int bf, .int bm, .int bl, .ref a_MO, .ref a_DY, .ref a_PO, .ref a_HO, .ref a_WA, .int ng, .ref a_GA, .int nc, .ref a_CA, .int sl, .ref a_MT, .ref a_LW, .int nw, .ref a_WK, .int pe, .int pv, .int pt, .int pu])), (a_S, .inl (cI, 163, .inl (ms zo he go le hd gn la)))] → va_S A s.heap H locs → ∀ ls : Array Slot, lv_has ls 4 [(0, .ref o), (1, .int v), (2, .int (sumS go k9)), (3, .int (nI k9))] → W zp l ze (rmK 8) s zm args below meth zc H locs 0 0 (MQ below (va_Qi (S := Unit) (fun r _ => r = cntX zo he go la ng nc nw td v) (fun u t => va_P G vwCl ((fun _ => [(o, .inr (7, [.int 0, .long tr, .ref a_S, .ref a_K, .ref a_IK, .ref a_SV, .ref a_DR, .ref a_TX, .int td, .int nx, .int tk, .int pc, .int vl, .int fa, .int ff, .ref a_WY, .ref a_BE, .int bf, .int bm, .int bl, .ref a_MO, .ref a_DY, .ref a_PO, .ref a_HO, .ref a_WA, .int ng, .ref a_GA, .int nc, .ref a_CA, .int sl, .ref a_MT, .ref a_LW, .int nw, .ref a_WK, .int pe, .int pv, .int pt, .int pu])), (a_S, .inl (cI, 163, .inl (ms zo he go le hd gn la)))]) u) t.heap) A) args s 0 0 A) (F0 zm 9 ls []) by
    have el_1 : (0 : Int32) = sumS go 0 := rfl
    have el_2 : (0 : Int32) = nI 0 := rfl
    exact lp9 (48 + 1 - 0) 0 (by omega) (by omega) (by omega)  H locs hP hD hS ls (lv_sub hl [2, 3, 1, 0] (show ([(0, .ref o), (1, .int v), (2, .int 0), (3, .int 0)] : List (Nat × Value)) = [(0, .ref o), (1, .int v), (2, .int (sumS go 0)), (3, .int (nI 0))] by rw [← el_1, ← el_2]))
  intro zn
  induction zn with
  | zero => exact fun k9 h1 h2 h3 => absurd h3 (by omega)
  | succ zn ih9 =>
    intro k9 hlo9 hhi9 hn9  H locs hP hD hS ls hl
    refine lv_iload_n hx hb dX7_count_9 rfl (lv_at hl 3 rfl) ?_
    refine lv_bipush (v := 48) hx hb dX7_count_10 (by decide) ?_
    refine lv_icmp_ge (tgt := 33) hx hb dX7_count_12 (by decide) (fun c_3 => ?_) (fun c_3 => ?_)
    · skip
      have c_3 : 48 ≤ k9 := (nI_leI (a := 48) (b := k9) (by omega) (by omega)).mp c_3
      have hk9 : 48 = k9 := by omega
      subst hk9
      refine lv_iload_n hx hb dX7_count_33 rfl (lv_at hl 1 rfl) ?_
      refine lv_if_ne (tgt := 44) hx hb dX7_count_34 (by decide) (fun c_4 => ?_) (fun c_4 => ?_)
      · skip
        refine lv_iload_n hx hb dX7_count_44 rfl (lv_at hl 1 rfl) ?_
        refine lv_iconst (v := 1) hx hb dX7_count_45 (by decide) ?_
        refine lv_icmp_ne (tgt := 53) hx hb dX7_count_46 (by decide) (fun c_5 => ?_) (fun c_5 => ?_)
        · skip
          refine lv_iload_n hx hb dX7_count_53 rfl (lv_at hl 1 rfl) ?_
          refine lv_iconst (v := 2) hx hb dX7_count_54 (by decide) ?_
          refine lv_icmp_ne (tgt := 65) hx hb dX7_count_55 (by decide) (fun c_6 => ?_) (fun c_6 => ?_)
          · skip
            refine lv_iload_n hx hb dX7_count_65 rfl (lv_at hl 1 rfl) ?_
            refine lv_iconst (v := 3) hx hb dX7_count_66 (by decide) ?_
            refine lv_icmp_ne (tgt := 77) hx hb dX7_count_67 (by decide) (fun c_7 => ?_) (fun c_7 => ?_)
            · skip
              refine lv_iload_n hx hb dX7_count_77 rfl (lv_at hl 1 rfl) ?_
              refine lv_iconst (v := 4) hx hb dX7_count_78 (by decide) ?_
              refine lv_icmp_ne (tgt := 89) hx hb dX7_count_79 (by decide) (fun c_8 => ?_) (fun c_8 => ?_)
              · skip
                refine lv_iload_n hx hb dX7_count_89 rfl (lv_at hl 1 rfl) ?_
                refine lv_iconst (v := 5) hx hb dX7_count_90 (by decide) ?_
                refine lv_icmp_ne (tgt := 101) hx hb dX7_count_91 (by decide) (fun c_9 => ?_) (fun c_9 => ?_)
                · skip
                  refine lv_iload_n hx hb dX7_count_101 rfl (lv_at hl 1 rfl) ?_
                  refine lv_bipush (v := 6) hx hb dX7_count_102 (by decide) ?_
                  refine lv_icmp_ne (tgt := 118) hx hb dX7_count_104 (by decide) (fun c_10 => ?_) (fun c_10 => ?_)
                  · skip
                    refine lv_iload_n hx hb dX7_count_118 rfl (lv_at hl 1 rfl) ?_
                    refine lv_bipush (v := 7) hx hb dX7_count_119 (by decide) ?_
                    refine lv_icmp_ne (tgt := 131) hx hb dX7_count_121 (by decide) (fun c_11 => ?_) (fun c_11 => ?_)
                    · skip
                      refine lv_iconst (v := (-1)) hx hb dX7_count_131 (by decide) ?_
                      exact retWi () hx hb hr (rfl) hlocks dX7_count_132 hS (by simp [cntX, c_4, c_5, c_6, c_7, c_8, c_9, c_10, c_11]) hP
                    · skip
                      refine lv_aload_n hx hb dX7_count_124 rfl (lv_at hl 0 rfl) ?_
                      refine va_get (D := G) (ci := 7) (v := .int td) (C := RX7) (T := TX7) (N := 38) hx hb hts inlX7 hown hK hP 0 rfl rfl 8 (by decide) (hts (.fieldLink RX7 90 "EarthBanksModel" "typed" "I") k_7_20) (fun _ h9 => h9) rfl dX7_count_125 ?_
                      refine lv_goto (tgt := 132) hx hb dX7_count_128 (by decide) ?_
                      exact retWi () hx hb hr (rfl) hlocks dX7_count_132 hS (by simp [cntX, c_4, c_5, c_6, c_7, c_8, c_9, c_10, eq_true c_11]) hP
                  · skip
                    refine lv_aload_n hx hb dX7_count_107 rfl (lv_at hl 0 rfl) ?_
                    refine va_get (D := G) (ci := 7) (v := .ref a_S) (C := RX7) (T := TX7) (N := 38) hx hb hts inlX7 hown hK hP 0 rfl rfl 2 (by decide) (hts (.fieldLink RX7 7 "EarthBanksModel" "s" "[I") k_6_2) (fun _ h9 => h9) rfl dX7_count_108 ?_
                    refine lv_sipush (v := 162) hx hb dX7_count_111 (by decide) ?_
                    refine ialdN (j := 162) hx hb hK hP 1 0 rfl rfl (by omega) (by decide) dX7_count_114 ?_
                    refine top_eq (y := la) (ms_a (by omega)) ?_
                    refine lv_goto (tgt := 132) hx hb dX7_count_115 (by decide) ?_
                    exact retWi () hx hb hr (rfl) hlocks dX7_count_132 hS (by simp [cntX, c_4, c_5, c_6, c_7, c_8, c_9, eq_true c_10]) hP
                · skip
                  refine lv_aload_n hx hb dX7_count_94 rfl (lv_at hl 0 rfl) ?_
                  refine va_get (D := G) (ci := 7) (v := .int nw) (C := RX7) (T := TX7) (N := 38) hx hb hts inlX7 hown hK hP 0 rfl rfl 32 (by decide) (hts (.fieldLink RX7 251 "EarthBanksModel" "works" "I") k_39_16) (fun _ h9 => h9) rfl dX7_count_95 ?_
                  refine lv_goto (tgt := 132) hx hb dX7_count_98 (by decide) ?_
                  exact retWi () hx hb hr (rfl) hlocks dX7_count_132 hS (by simp [cntX, c_4, c_5, c_6, c_7, c_8, eq_true c_9]) hP
              · skip
                refine lv_aload_n hx hb dX7_count_82 rfl (lv_at hl 0 rfl) ?_
                refine va_get (D := G) (ci := 7) (v := .int nc) (C := RX7) (T := TX7) (N := 38) hx hb hts inlX7 hown hK hP 0 rfl rfl 27 (by decide) (hts (.fieldLink RX7 245 "EarthBanksModel" "causes" "I") k_36_7) (fun _ h9 => h9) rfl dX7_count_83 ?_
                refine lv_goto (tgt := 132) hx hb dX7_count_86 (by decide) ?_
                exact retWi () hx hb hr (rfl) hlocks dX7_count_132 hS (by simp [cntX, c_4, c_5, c_6, c_7, eq_true c_8]) hP
            · skip
              refine lv_aload_n hx hb dX7_count_70 rfl (lv_at hl 0 rfl) ?_
              refine va_get (D := G) (ci := 7) (v := .int ng) (C := RX7) (T := TX7) (N := 38) hx hb hts inlX7 hown hK hP 0 rfl rfl 25 (by decide) (hts (.fieldLink RX7 242 "EarthBanksModel" "gauges" "I") k_35_18) (fun _ h9 => h9) rfl dX7_count_71 ?_
              refine lv_goto (tgt := 132) hx hb dX7_count_74 (by decide) ?_
              exact retWi () hx hb hr (rfl) hlocks dX7_count_132 hS (by simp [cntX, c_4, c_5, c_6, eq_true c_7]) hP
          · skip
            refine lv_aload_n hx hb dX7_count_58 rfl (lv_at hl 0 rfl) ?_
            refine cRV (As := []) (rest := []) hx hb hml hown hts (c_X7_wet l G E cI cZ zo he go le hd gn la o a_S [.int 0, .long tr, .ref a_S, .ref a_K, .ref a_IK, .ref a_SV, .ref a_DR, .ref a_TX, .int td, .int nx, .int tk, .int pc, .int vl, .int fa, .int ff, .ref a_WY, .ref a_BE, .int bf, .int bm, .int bl, .ref a_MO, .ref a_DY, .ref a_PO, .ref a_HO, .ref a_WA, .int ng, .ref a_GA, .int nc, .ref a_CA, .int sl, .ref a_MT, .ref a_LW, .int nw, .ref a_WK, .int pe, .int pv, .int pt, .int pu] rfl) k_23_3 cal_X7_wet ⟨Nat.le_of_ble_eq_true rfl, Nat.le_of_ble_eq_true rfl⟩ hE hlow hS hK [0, 1] rfl hP [0, 1] rfl 0 7 rfl rfl rfl hl.1 rfl (Nat.le_of_ble_eq_true rfl) dX7_count_59 ⟨Nat.zero_le _, Nat.zero_le _⟩ ?_
            refine lv_goto (tgt := 132) hx hb dX7_count_62 (by decide) ?_
            exact retWi () hx hb hr (rfl) hlocks dX7_count_132 hS (by simp [cntX, c_4, c_5, eq_true c_6]) hP
        · skip
          refine lv_iload_n hx hb dX7_count_49 rfl (lv_at hl 2 rfl) ?_
          refine lv_goto (tgt := 132) hx hb dX7_count_50 (by decide) ?_
          exact retWi () hx hb hr (rfl) hlocks dX7_count_132 hS (by simp [cntX, c_4, eq_true c_5]) hP
      · skip
        refine lv_aload_n hx hb dX7_count_37 rfl (lv_at hl 0 rfl) ?_
        refine cRV (As := []) (rest := []) hx hb hml hown hts (c_X7_earth l G E cI cZ zo he go le hd gn la o a_S [.int 0, .long tr, .ref a_S, .ref a_K, .ref a_IK, .ref a_SV, .ref a_DR, .ref a_TX, .int td, .int nx, .int tk, .int pc, .int vl, .int fa, .int ff, .ref a_WY, .ref a_BE, .int bf, .int bm, .int bl, .ref a_MO, .ref a_DY, .ref a_PO, .ref a_HO, .ref a_WA, .int ng, .ref a_GA, .int nc, .ref a_CA, .int sl, .ref a_MT, .ref a_LW, .int nw, .ref a_WK, .int pe, .int pv, .int pt, .int pu] rfl) k_15_21 cal_X7_earth ⟨Nat.le_of_ble_eq_true rfl, Nat.le_of_ble_eq_true rfl⟩ hE hlow hS hK [0, 1] rfl hP [0, 1] rfl 0 7 rfl rfl rfl hl.1 rfl (Nat.le_of_ble_eq_true rfl) dX7_count_38 ⟨Nat.zero_le _, Nat.zero_le _⟩ ?_
        refine lv_goto (tgt := 132) hx hb dX7_count_41 (by decide) ?_
        exact retWi () hx hb hr (rfl) hlocks dX7_count_132 hS (by simp [cntX, eq_true c_4]) hP
    · skip
      have c_3 : ¬ 48 ≤ k9 := fun h9 => c_3 ((nI_leI (a := 48) (b := k9) (by omega) (by omega)).mpr h9)
      refine lv_iload_n hx hb dX7_count_15 rfl (lv_at hl 2 rfl) ?_
      refine lv_aload_n hx hb dX7_count_16 rfl (lv_at hl 0 rfl) ?_
      refine va_get (D := G) (ci := 7) (v := .ref a_S) (C := RX7) (T := TX7) (N := 38) hx hb hts inlX7 hown hK hP 0 rfl rfl 2 (by decide) (hts (.fieldLink RX7 7 "EarthBanksModel" "s" "[I") k_6_2) (fun _ h9 => h9) rfl dX7_count_17 ?_
      refine lv_bipush (v := 96) hx hb dX7_count_20 (by decide) ?_
      refine lv_iload_n hx hb dX7_count_22 rfl (lv_at hl 3 rfl) ?_
      refine lv_iadd hx hb dX7_count_23 ?_
      refine top_eq (y := nI (96 + k9)) (nI_add _ _) ?_
      refine ialdN (j := (96 + k9)) hx hb hK hP 1 0 rfl rfl (by omega) (by decide) dX7_count_24 ?_
      refine top_eq (y := (go k9)) (ms_g (c := k9) (by omega) (by omega)) ?_
      refine lv_iadd hx hb dX7_count_25 ?_
      refine lv_istore_n (lv' := [(2, .int ((sumS go k9) + (go k9))), (0, .ref o), (1, .int v), (3, .int (nI k9))]) hx hb dX7_count_26 rfl hl (by decide) rfl (fun ls hl => ?_)
      refine lv_iinc (v := nI (k9 + 1)) (lv' := [(3, .int (nI (k9 + 1))), (2, .int ((sumS go k9) + (go k9))), (0, .ref o), (1, .int v)]) hx hb dX7_count_27 hl (k := 3) rfl (nI_add _ _) (by decide) rfl (fun ls hl => ?_)
      refine lv_goto (tgt := 9) hx hb dX7_count_30 (by decide) ?_
      have el_12 : (((sumS go k9) + (go k9)) : Int32) = sumS go (k9 + 1) := rfl
      exact ih9 (k9 + 1) (by omega) (by omega) (by omega)  H locs hP hD hS ls (lv_sub hl [2, 3, 1, 0] (show ([(0, .ref o), (1, .int v), (2, .int ((sumS go k9) + (go k9))), (3, .int (nI (k9 + 1)))] : List (Nat × Value)) = [(0, .ref o), (1, .int v), (2, .int (sumS go (k9 + 1))), (3, .int (nI (k9 + 1)))] by rw [← el_12]))
theorem cal_X7_gauge : calV yX7_gauge cX7_gauge 4 (some .int) 3 := ⟨k_35_17, k_1_5, k_35_15, k_35_16, by decide +kernel⟩
set_option maxHeartbeats 4000000 in
set_option maxRecDepth 100000 in
theorem c_X7_gauge (l : Launch) (G : va_G) (E : EvT) (cI cZ : ClassId) (n : Nat) (x : Int32) (y : Int32) (v : Int32) (o : Nat) (a_GA : Nat) (a_S : Nat) (a_K : Nat) (a_IK : Nat) (a_SV : Nat) (a_DR : Nat) (a_TX : Nat) (a_WY : Nat) (a_BE : Nat) (a_MO : Nat) (a_DY : Nat) (a_PO : Nat) (a_HO : Nat) (a_WA : Nat) (a_CA : Nat) (a_MT : Nat) (a_LW : Nat) (a_WK : Nat) (th : Int32) (tr : Int64) (td : Int32) (nx : Int32) (tk : Int32) (pc : Int32) (vl : Int32) (fa : Int32) (ff : Int32) (bf : Int32) (bm : Int32) (bl : Int32) (nc : Int32) (sl : Int32) (nw : Int32) (pe : Int32) (pv : Int32) (pt : Int32) (pu : Int32) (GA : Nat → Int32) (hn : n ≤ 8) : cWi (S := Unit) l G E yX7_gauge cX7_gauge 4 (some .int) 8 [(cI, .int), (cZ, .boolean)] [.ref o, .int x, .int y, .int v] [(o, .inr (7, [.int th, .long tr, .ref a_S, .ref a_K, .ref a_IK, .ref a_SV, .ref a_DR, .ref a_TX, .int td, .int nx, .int tk, .int pc, .int vl, .int fa, .int ff, .ref a_WY, .ref a_BE, .int bf, .int bm, .int bl, .ref a_MO, .ref a_DY, .ref a_PO, .ref a_HO, .ref a_WA, .int (nI n), .ref a_GA, .int nc, .ref a_CA, .int sl, .ref a_MT, .ref a_LW, .int nw, .ref a_WK, .int pe, .int pv, .int pt, .int pu])), (a_GA, .inl (cI, 16, .inl GA))] (fun r _ => r = (if inC x y && wiB v 0 9999 then (if n < 8 then nI n else (-3)) else (-1))) (fun _ => [(o, .inr (7, [.int 0, .long tr, .ref a_S, .ref a_K, .ref a_IK, .ref a_SV, .ref a_DR, .ref a_TX, .int td, .int nx, .int tk, .int pc, .int vl, .int fa, .int ff, .ref a_WY, .ref a_BE, .int bf, .int bm, .int bl, .ref a_MO, .ref a_DY, .ref a_PO, .ref a_HO, .ref a_WA, .int (nI (if inC x y && wiB v 0 9999 then (if n < 8 then n + 1 else n) else n)), .ref a_GA, .int nc, .ref a_CA, .int sl, .ref a_MT, .ref a_LW, .int nw, .ref a_WK, .int pe, .int pv, .int pt, .int pu])), (a_GA, .inl (cI, 16, .inl (if inC x y && wiB v 0 9999 then (if n < 8 then upd (upd GA (2 * n) (nI (plc x y))) (2 * n + 1) v else GA) else GA)))]) := by
  refine mkWi (by decide) (Nat.le_of_ble_eq_true rfl) ?_
  intro zp ze s zm args below meth zc hx hb hr hml hown hts hlocks hE hK A hA hlow H locs hP hD hS ls hl
  have hl : lv_has ls 4 [(0, .ref o), (1, .int x), (2, .int y), (3, .int v)] := hl
  refine lv_aload_n hx hb dX7_gauge_0 rfl (lv_at hl 0 rfl) ?_
  refine lv_iconst (v := 0) hx hb dX7_gauge_1 (by decide) ?_
  refine va_put (D := G) (ci := 7) (v := .int 0) (ty := .int) (C := RX7) (T := TX7) (N := 38) hx hb hts inlX7 tyX7 tyX7_ok nmX7 hown hK hP hD hS 0 rfl rfl 0 (by decide) (hts (.fieldLink RX7 75 "EarthBanksModel" "thrown" "I") k_7_19) (fun _ h9 => h9) rfl (by decide +kernel) (rfl) (rfl) (Nat.le_of_ble_eq_true rfl) dX7_gauge_2 (fun H locs hP hD hS => ?_)
  have hP : va_P G vwCl [(o, .inr (7, [.int 0, .long tr, .ref a_S, .ref a_K, .ref a_IK, .ref a_SV, .ref a_DR, .ref a_TX, .int td, .int nx, .int tk, .int pc, .int vl, .int fa, .int ff, .ref a_WY, .ref a_BE, .int bf, .int bm, .int bl, .ref a_MO, .ref a_DY, .ref a_PO, .ref a_HO, .ref a_WA, .int (nI n), .ref a_GA, .int nc, .ref a_CA, .int sl, .ref a_MT, .ref a_LW, .int nw, .ref a_WK, .int pe, .int pv, .int pt, .int pu])), (a_GA, .inl (cI, 16, .inl GA))] H := hP
  have hD : va_D A [(o, .inr (7, [.int 0, .long tr, .ref a_S, .ref a_K, .ref a_IK, .ref a_SV, .ref a_DR, .ref a_TX, .int td, .int nx, .int tk, .int pc, .int vl, .int fa, .int ff, .ref a_WY, .ref a_BE, .int bf, .int bm, .int bl, .ref a_MO, .ref a_DY, .ref a_PO, .ref a_HO, .ref a_WA, .int (nI n), .ref a_GA, .int nc, .ref a_CA, .int sl, .ref a_MT, .ref a_LW, .int nw, .ref a_WK, .int pe, .int pv, .int pt, .int pu])), (a_GA, .inl (cI, 16, .inl GA))] := hD
  refine lv_iload_n hx hb dX7_gauge_5 rfl (lv_at hl 1 rfl) ?_
  refine lv_iload_n hx hb dX7_gauge_6 rfl (lv_at hl 2 rfl) ?_
  refine cRS (As := [.int x, .int y]) (rest := []) hx hb hml hown hts (c_X7_isCell l G E cI cZ x y) k_17_4 cal_X7_isCell ⟨Nat.le_of_ble_eq_true rfl, Nat.le_of_ble_eq_true rfl⟩ hE hlow hS hK [0, 1] rfl hP [] rfl rfl hl.1 rfl (Nat.le_of_ble_eq_true rfl) dX7_gauge_7 ⟨Nat.zero_le _, Nat.zero_le _⟩ ?_
  refine lv_if_eq (tgt := 24) hx hb dX7_gauge_10 (by decide) (fun c_1 => ?_) (fun c_1 => ?_)
  · skip
    have c_1 : (inC x y) = false := bI_f c_1
    refine lv_iconst (v := (-1)) hx hb dX7_gauge_24 (by decide) ?_
    have ew_2 : (nI n : Int32) = nI (if inC x y && wiB v 0 9999 then (if n < 8 then n + 1 else n) else n) := by simp [c_1]
    have ew_3 : GA = (if inC x y && wiB v 0 9999 then (if n < 8 then upd (upd GA (2 * n) (nI (plc x y))) (2 * n + 1) v else GA) else GA) := by simp [c_1]
    have hP : va_P G vwCl [(o, .inr (7, [.int 0, .long tr, .ref a_S, .ref a_K, .ref a_IK, .ref a_SV, .ref a_DR, .ref a_TX, .int td, .int nx, .int tk, .int pc, .int vl, .int fa, .int ff, .ref a_WY, .ref a_BE, .int bf, .int bm, .int bl, .ref a_MO, .ref a_DY, .ref a_PO, .ref a_HO, .ref a_WA, .int (nI (if inC x y && wiB v 0 9999 then (if n < 8 then n + 1 else n) else n)), .ref a_GA, .int nc, .ref a_CA, .int sl, .ref a_MT, .ref a_LW, .int nw, .ref a_WK, .int pe, .int pv, .int pt, .int pu])), (a_GA, .inl (cI, 16, .inl (if inC x y && wiB v 0 9999 then (if n < 8 then upd (upd GA (2 * n) (nI (plc x y))) (2 * n + 1) v else GA) else GA)))] H := by rw [← ew_2, ← ew_3]; exact hP
    exact retWi () hx hb hr (rfl) hlocks dX7_gauge_25 hS (by simp [c_1]) hP
  · skip
    have c_1 : (inC x y) = true := bI_t c_1
    refine lv_iload_n hx hb dX7_gauge_13 rfl (lv_at hl 3 rfl) ?_
    refine lv_iconst (v := 0) hx hb dX7_gauge_14 (by decide) ?_
    refine lv_sipush (v := 9999) hx hb dX7_gauge_15 (by decide) ?_
    refine cRS (As := [.int v, .int 0, .int 9999]) (rest := []) hx hb hml hown hts (c_X7_in l G E cI cZ v 0 9999) k_7_22 cal_X7_in ⟨Nat.le_of_ble_eq_true rfl, Nat.le_of_ble_eq_true rfl⟩ hE hlow hS hK [0, 1] rfl hP [] rfl rfl hl.1 rfl (Nat.le_of_ble_eq_true rfl) dX7_gauge_18 ⟨Nat.zero_le _, Nat.zero_le _⟩ ?_
    refine lv_if_ne (tgt := 26) hx hb dX7_gauge_21 (by decide) (fun c_4 => ?_) (fun c_4 => ?_)
    · skip
      have c_4 : (wiB v 0 9999) = true := bI_t c_4
      obtain ⟨xn, yn, hxn, hyn, hex, hey, hcx, hcy⟩ := inC_n c_1
      have hl : lv_has ls 4 [(0, .ref o), (1, .int (nI xn)), (2, .int y), (3, .int v)] := by rw [hex] at hl; exact hl
      have hl : lv_has ls 4 [(0, .ref o), (1, .int (nI xn)), (2, .int (nI yn)), (3, .int v)] := by rw [hey] at hl; exact hl
      have hpl : plc x y = 8 * yn + xn := by rw [plc, hcx, hcy]
      have hdv : (8 * yn + xn) / 8 = yn := by omega
      refine lv_aload_n hx hb dX7_gauge_26 rfl (lv_at hl 0 rfl) ?_
      refine va_get (D := G) (ci := 7) (v := .int (nI n)) (C := RX7) (T := TX7) (N := 38) hx hb hts inlX7 hown hK hP 0 rfl rfl 25 (by decide) (hts (.fieldLink RX7 242 "EarthBanksModel" "gauges" "I") k_35_18) (fun _ h9 => h9) rfl dX7_gauge_27 ?_
      refine lv_bipush (v := 8) hx hb dX7_gauge_30 (by decide) ?_
      refine lv_icmp_ne (tgt := 38) hx hb dX7_gauge_32 (by decide) (fun c_5 => ?_) (fun c_5 => ?_)
      · skip
        have c_5 : ¬ n = 8 := fun h9 => c_5 ((nI_eq (a := n) (b := 8) (by omega) (by omega)).mpr h9)
        have h8 : n < 8 := by omega
        refine lv_aload_n hx hb dX7_gauge_38 rfl (lv_at hl 0 rfl) ?_
        refine va_get (D := G) (ci := 7) (v := .ref a_GA) (C := RX7) (T := TX7) (N := 38) hx hb hts inlX7 hown hK hP 0 rfl rfl 26 (by decide) (hts (.fieldLink RX7 54 "EarthBanksModel" "gauge" "[I") k_6_17) (fun _ h9 => h9) rfl dX7_gauge_39 ?_
        refine lv_iconst (v := 2) hx hb dX7_gauge_42 (by decide) ?_
        refine lv_aload_n hx hb dX7_gauge_43 rfl (lv_at hl 0 rfl) ?_
        refine va_get (D := G) (ci := 7) (v := .int (nI n)) (C := RX7) (T := TX7) (N := 38) hx hb hts inlX7 hown hK hP 0 rfl rfl 25 (by decide) (hts (.fieldLink RX7 242 "EarthBanksModel" "gauges" "I") k_35_18) (fun _ h9 => h9) rfl dX7_gauge_44 ?_
        refine lv_imul hx hb dX7_gauge_47 ?_
        refine top_eq (y := nI (2 * n)) (pk_mul _ _) ?_
        refine lv_bipush (v := 8) hx hb dX7_gauge_48 (by decide) ?_
        refine lv_iload_n hx hb dX7_gauge_50 rfl (lv_at hl 2 rfl) ?_
        refine lv_imul hx hb dX7_gauge_51 ?_
        refine top_eq (y := nI (8 * yn)) (pk_mul _ _) ?_
        refine lv_iload_n hx hb dX7_gauge_52 rfl (lv_at hl 1 rfl) ?_
        refine lv_iadd hx hb dX7_gauge_53 ?_
        refine top_eq (y := nI ((8 * yn) + xn)) (nI_add _ _) ?_
        refine iastN (j := (2 * n)) hx hb hK hP hD hS 1 0 rfl rfl (by omega) (by decide) dX7_gauge_54 (fun H locs hP hD hS => ?_)
        have hP : va_P G vwCl [(o, .inr (7, [.int 0, .long tr, .ref a_S, .ref a_K, .ref a_IK, .ref a_SV, .ref a_DR, .ref a_TX, .int td, .int nx, .int tk, .int pc, .int vl, .int fa, .int ff, .ref a_WY, .ref a_BE, .int bf, .int bm, .int bl, .ref a_MO, .ref a_DY, .ref a_PO, .ref a_HO, .ref a_WA, .int (nI n), .ref a_GA, .int nc, .ref a_CA, .int sl, .ref a_MT, .ref a_LW, .int nw, .ref a_WK, .int pe, .int pv, .int pt, .int pu])), (a_GA, .inl (cI, 16, .inl (upd GA (2 * n) (nI ((8 * yn) + xn)))))] H := hP
        have hD : va_D A [(o, .inr (7, [.int 0, .long tr, .ref a_S, .ref a_K, .ref a_IK, .ref a_SV, .ref a_DR, .ref a_TX, .int td, .int nx, .int tk, .int pc, .int vl, .int fa, .int ff, .ref a_WY, .ref a_BE, .int bf, .int bm, .int bl, .ref a_MO, .ref a_DY, .ref a_PO, .ref a_HO, .ref a_WA, .int (nI n), .ref a_GA, .int nc, .ref a_CA, .int sl, .ref a_MT, .ref a_LW, .int nw, .ref a_WK, .int pe, .int pv, .int pt, .int pu])), (a_GA, .inl (cI, 16, .inl (upd GA (2 * n) (nI ((8 * yn) + xn)))))] := hD
        refine lv_aload_n hx hb dX7_gauge_55 rfl (lv_at hl 0 rfl) ?_
        refine va_get (D := G) (ci := 7) (v := .ref a_GA) (C := RX7) (T := TX7) (N := 38) hx hb hts inlX7 hown hK hP 0 rfl rfl 26 (by decide) (hts (.fieldLink RX7 54 "EarthBanksModel" "gauge" "[I") k_6_17) (fun _ h9 => h9) rfl dX7_gauge_56 ?_
        refine lv_iconst (v := 2) hx hb dX7_gauge_59 (by decide) ?_
        refine lv_aload_n hx hb dX7_gauge_60 rfl (lv_at hl 0 rfl) ?_
        refine va_get (D := G) (ci := 7) (v := .int (nI n)) (C := RX7) (T := TX7) (N := 38) hx hb hts inlX7 hown hK hP 0 rfl rfl 25 (by decide) (hts (.fieldLink RX7 242 "EarthBanksModel" "gauges" "I") k_35_18) (fun _ h9 => h9) rfl dX7_gauge_61 ?_
        refine lv_imul hx hb dX7_gauge_64 ?_
        refine top_eq (y := nI (2 * n)) (pk_mul _ _) ?_
        refine lv_iconst (v := 1) hx hb dX7_gauge_65 (by decide) ?_
        refine lv_iadd hx hb dX7_gauge_66 ?_
        refine top_eq (y := nI ((2 * n) + 1)) (nI_add _ _) ?_
        refine lv_iload_n hx hb dX7_gauge_67 rfl (lv_at hl 3 rfl) ?_
        refine iastN (j := ((2 * n) + 1)) hx hb hK hP hD hS 1 0 rfl rfl (by omega) (by decide) dX7_gauge_68 (fun H locs hP hD hS => ?_)
        have hP : va_P G vwCl [(o, .inr (7, [.int 0, .long tr, .ref a_S, .ref a_K, .ref a_IK, .ref a_SV, .ref a_DR, .ref a_TX, .int td, .int nx, .int tk, .int pc, .int vl, .int fa, .int ff, .ref a_WY, .ref a_BE, .int bf, .int bm, .int bl, .ref a_MO, .ref a_DY, .ref a_PO, .ref a_HO, .ref a_WA, .int (nI n), .ref a_GA, .int nc, .ref a_CA, .int sl, .ref a_MT, .ref a_LW, .int nw, .ref a_WK, .int pe, .int pv, .int pt, .int pu])), (a_GA, .inl (cI, 16, .inl (upd (upd GA (2 * n) (nI ((8 * yn) + xn))) ((2 * n) + 1) v)))] H := hP
        have hD : va_D A [(o, .inr (7, [.int 0, .long tr, .ref a_S, .ref a_K, .ref a_IK, .ref a_SV, .ref a_DR, .ref a_TX, .int td, .int nx, .int tk, .int pc, .int vl, .int fa, .int ff, .ref a_WY, .ref a_BE, .int bf, .int bm, .int bl, .ref a_MO, .ref a_DY, .ref a_PO, .ref a_HO, .ref a_WA, .int (nI n), .ref a_GA, .int nc, .ref a_CA, .int sl, .ref a_MT, .ref a_LW, .int nw, .ref a_WK, .int pe, .int pv, .int pt, .int pu])), (a_GA, .inl (cI, 16, .inl (upd (upd GA (2 * n) (nI ((8 * yn) + xn))) ((2 * n) + 1) v)))] := hD
        refine lv_aload_n hx hb dX7_gauge_69 rfl (lv_at hl 0 rfl) ?_
        refine lv_dup hx hb dX7_gauge_70 rfl ?_
        refine va_get (D := G) (ci := 7) (v := .int (nI n)) (C := RX7) (T := TX7) (N := 38) hx hb hts inlX7 hown hK hP 0 rfl rfl 25 (by decide) (hts (.fieldLink RX7 242 "EarthBanksModel" "gauges" "I") k_35_18) (fun _ h9 => h9) rfl dX7_gauge_71 ?_
        refine lv_iconst (v := 1) hx hb dX7_gauge_74 (by decide) ?_
        refine lv_iadd hx hb dX7_gauge_75 ?_
        refine top_eq (y := nI (n + 1)) (nI_add _ _) ?_
        refine va_put (D := G) (ci := 7) (v := .int (nI (n + 1))) (ty := .int) (C := RX7) (T := TX7) (N := 38) hx hb hts inlX7 tyX7 tyX7_ok nmX7 hown hK hP hD hS 0 rfl rfl 25 (by decide) (hts (.fieldLink RX7 242 "EarthBanksModel" "gauges" "I") k_35_18) (fun _ h9 => h9) rfl (by decide +kernel) (rfl) (rfl) (Nat.le_of_ble_eq_true rfl) dX7_gauge_76 (fun H locs hP hD hS => ?_)
        have hP : va_P G vwCl [(o, .inr (7, [.int 0, .long tr, .ref a_S, .ref a_K, .ref a_IK, .ref a_SV, .ref a_DR, .ref a_TX, .int td, .int nx, .int tk, .int pc, .int vl, .int fa, .int ff, .ref a_WY, .ref a_BE, .int bf, .int bm, .int bl, .ref a_MO, .ref a_DY, .ref a_PO, .ref a_HO, .ref a_WA, .int (nI (n + 1)), .ref a_GA, .int nc, .ref a_CA, .int sl, .ref a_MT, .ref a_LW, .int nw, .ref a_WK, .int pe, .int pv, .int pt, .int pu])), (a_GA, .inl (cI, 16, .inl (upd (upd GA (2 * n) (nI ((8 * yn) + xn))) ((2 * n) + 1) v)))] H := hP
        have hD : va_D A [(o, .inr (7, [.int 0, .long tr, .ref a_S, .ref a_K, .ref a_IK, .ref a_SV, .ref a_DR, .ref a_TX, .int td, .int nx, .int tk, .int pc, .int vl, .int fa, .int ff, .ref a_WY, .ref a_BE, .int bf, .int bm, .int bl, .ref a_MO, .ref a_DY, .ref a_PO, .ref a_HO, .ref a_WA, .int (nI (n + 1)), .ref a_GA, .int nc, .ref a_CA, .int sl, .ref a_MT, .ref a_LW, .int nw, .ref a_WK, .int pe, .int pv, .int pt, .int pu])), (a_GA, .inl (cI, 16, .inl (upd (upd GA (2 * n) (nI ((8 * yn) + xn))) ((2 * n) + 1) v)))] := hD
        refine lv_aload_n hx hb dX7_gauge_79 rfl (lv_at hl 0 rfl) ?_
        refine va_get (D := G) (ci := 7) (v := .int (nI (n + 1))) (C := RX7) (T := TX7) (N := 38) hx hb hts inlX7 hown hK hP 0 rfl rfl 25 (by decide) (hts (.fieldLink RX7 242 "EarthBanksModel" "gauges" "I") k_35_18) (fun _ h9 => h9) rfl dX7_gauge_80 ?_
        refine lv_iconst (v := 1) hx hb dX7_gauge_83 (by decide) ?_
        refine lv_isub hx hb dX7_gauge_84 ?_
        refine top_eq (y := nI ((n + 1) - 1)) (pk_sub (a := (n + 1)) (b := 1) (by omega)) ?_
        have ew_6 : (nI (n + 1) : Int32) = nI (if inC x y && wiB v 0 9999 then (if n < 8 then n + 1 else n) else n) := by simp [h8, hpl, c_1, c_4]
        have ew_7 : (upd (upd GA (2 * n) (nI ((8 * yn) + xn))) ((2 * n) + 1) v) = (if inC x y && wiB v 0 9999 then (if n < 8 then upd (upd GA (2 * n) (nI (plc x y))) (2 * n + 1) v else GA) else GA) := by simp [h8, hpl, c_1, c_4]
        have hP : va_P G vwCl [(o, .inr (7, [.int 0, .long tr, .ref a_S, .ref a_K, .ref a_IK, .ref a_SV, .ref a_DR, .ref a_TX, .int td, .int nx, .int tk, .int pc, .int vl, .int fa, .int ff, .ref a_WY, .ref a_BE, .int bf, .int bm, .int bl, .ref a_MO, .ref a_DY, .ref a_PO, .ref a_HO, .ref a_WA, .int (nI (if inC x y && wiB v 0 9999 then (if n < 8 then n + 1 else n) else n)), .ref a_GA, .int nc, .ref a_CA, .int sl, .ref a_MT, .ref a_LW, .int nw, .ref a_WK, .int pe, .int pv, .int pt, .int pu])), (a_GA, .inl (cI, 16, .inl (if inC x y && wiB v 0 9999 then (if n < 8 then upd (upd GA (2 * n) (nI (plc x y))) (2 * n + 1) v else GA) else GA)))] H := by rw [← ew_6, ← ew_7]; exact hP
        exact retWi () hx hb hr (rfl) hlocks dX7_gauge_85 hS (by simp [h8, hpl, c_1, c_4]) hP
      · skip
        have c_5 : n = 8 := (nI_eq (a := n) (b := 8) (by omega) (by omega)).mp c_5
        have h8 : ¬ n < 8 := by omega
        refine lv_bipush (v := (-3)) hx hb dX7_gauge_35 (by decide) ?_
        have ew_8 : (nI n : Int32) = nI (if inC x y && wiB v 0 9999 then (if n < 8 then n + 1 else n) else n) := by simp [h8, hpl, c_1, c_4]
        have ew_9 : GA = (if inC x y && wiB v 0 9999 then (if n < 8 then upd (upd GA (2 * n) (nI (plc x y))) (2 * n + 1) v else GA) else GA) := by simp [h8, hpl, c_1, c_4]
        have hP : va_P G vwCl [(o, .inr (7, [.int 0, .long tr, .ref a_S, .ref a_K, .ref a_IK, .ref a_SV, .ref a_DR, .ref a_TX, .int td, .int nx, .int tk, .int pc, .int vl, .int fa, .int ff, .ref a_WY, .ref a_BE, .int bf, .int bm, .int bl, .ref a_MO, .ref a_DY, .ref a_PO, .ref a_HO, .ref a_WA, .int (nI (if inC x y && wiB v 0 9999 then (if n < 8 then n + 1 else n) else n)), .ref a_GA, .int nc, .ref a_CA, .int sl, .ref a_MT, .ref a_LW, .int nw, .ref a_WK, .int pe, .int pv, .int pt, .int pu])), (a_GA, .inl (cI, 16, .inl (if inC x y && wiB v 0 9999 then (if n < 8 then upd (upd GA (2 * n) (nI (plc x y))) (2 * n + 1) v else GA) else GA)))] H := by rw [← ew_8, ← ew_9]; exact hP
        exact retWi () hx hb hr (rfl) hlocks dX7_gauge_37 hS (by simp [h8, hpl, c_1, c_4]) hP
    · skip
      have c_4 : (wiB v 0 9999) = false := bI_f c_4
      refine lv_iconst (v := (-1)) hx hb dX7_gauge_24 (by decide) ?_
      have ew_10 : (nI n : Int32) = nI (if inC x y && wiB v 0 9999 then (if n < 8 then n + 1 else n) else n) := by simp [c_1, c_4]
      have ew_11 : GA = (if inC x y && wiB v 0 9999 then (if n < 8 then upd (upd GA (2 * n) (nI (plc x y))) (2 * n + 1) v else GA) else GA) := by simp [c_1, c_4]
      have hP : va_P G vwCl [(o, .inr (7, [.int 0, .long tr, .ref a_S, .ref a_K, .ref a_IK, .ref a_SV, .ref a_DR, .ref a_TX, .int td, .int nx, .int tk, .int pc, .int vl, .int fa, .int ff, .ref a_WY, .ref a_BE, .int bf, .int bm, .int bl, .ref a_MO, .ref a_DY, .ref a_PO, .ref a_HO, .ref a_WA, .int (nI (if inC x y && wiB v 0 9999 then (if n < 8 then n + 1 else n) else n)), .ref a_GA, .int nc, .ref a_CA, .int sl, .ref a_MT, .ref a_LW, .int nw, .ref a_WK, .int pe, .int pv, .int pt, .int pu])), (a_GA, .inl (cI, 16, .inl (if inC x y && wiB v 0 9999 then (if n < 8 then upd (upd GA (2 * n) (nI (plc x y))) (2 * n + 1) v else GA) else GA)))] H := by rw [← ew_10, ← ew_11]; exact hP
      exact retWi () hx hb hr (rfl) hlocks dX7_gauge_25 hS (by simp [c_1, c_4]) hP
theorem cal_X7_cause : calV yX7_cause cX7_cause 3 (some .int) 2 := ⟨k_36_6, k_1_5, k_36_4, k_36_5, by decide +kernel⟩
set_option maxHeartbeats 4000000 in
set_option maxRecDepth 100000 in
theorem c_X7_cause (l : Launch) (G : va_G) (E : EvT) (cI cZ : ClassId) (n : Nat) (z : Int32) (v : Int32) (o : Nat) (a_CA : Nat) (a_S : Nat) (a_K : Nat) (a_IK : Nat) (a_SV : Nat) (a_DR : Nat) (a_TX : Nat) (a_WY : Nat) (a_BE : Nat) (a_MO : Nat) (a_DY : Nat) (a_PO : Nat) (a_HO : Nat) (a_WA : Nat) (a_GA : Nat) (a_MT : Nat) (a_LW : Nat) (a_WK : Nat) (th : Int32) (tr : Int64) (td : Int32) (nx : Int32) (tk : Int32) (pc : Int32) (vl : Int32) (fa : Int32) (ff : Int32) (bf : Int32) (bm : Int32) (bl : Int32) (ng : Int32) (sl : Int32) (nw : Int32) (pe : Int32) (pv : Int32) (pt : Int32) (pu : Int32) (CA : Nat → Int32) (hn : n ≤ 8) : cWi (S := Unit) l G E yX7_cause cX7_cause 3 (some .int) 8 [(cI, .int), (cZ, .boolean)] [.ref o, .int z, .int v] [(o, .inr (7, [.int th, .long tr, .ref a_S, .ref a_K, .ref a_IK, .ref a_SV, .ref a_DR, .ref a_TX, .int td, .int nx, .int tk, .int pc, .int vl, .int fa, .int ff, .ref a_WY, .ref a_BE, .int bf, .int bm, .int bl, .ref a_MO, .ref a_DY, .ref a_PO, .ref a_HO, .ref a_WA, .int ng, .ref a_GA, .int (nI n), .ref a_CA, .int sl, .ref a_MT, .ref a_LW, .int nw, .ref a_WK, .int pe, .int pv, .int pt, .int pu])), (a_CA, .inl (cI, 16, .inl CA))] (fun r _ => r = (if wiB z 0 5 && wiB v 1 99 then (if n < 8 then nI n else (-3)) else (-1))) (fun _ => [(o, .inr (7, [.int 0, .long tr, .ref a_S, .ref a_K, .ref a_IK, .ref a_SV, .ref a_DR, .ref a_TX, .int td, .int nx, .int tk, .int pc, .int vl, .int fa, .int ff, .ref a_WY, .ref a_BE, .int bf, .int bm, .int bl, .ref a_MO, .ref a_DY, .ref a_PO, .ref a_HO, .ref a_WA, .int ng, .ref a_GA, .int (nI (if wiB z 0 5 && wiB v 1 99 then (if n < 8 then n + 1 else n) else n)), .ref a_CA, .int sl, .ref a_MT, .ref a_LW, .int nw, .ref a_WK, .int pe, .int pv, .int pt, .int pu])), (a_CA, .inl (cI, 16, .inl (if wiB z 0 5 && wiB v 1 99 then (if n < 8 then upd (upd CA (2 * n) z) (2 * n + 1) v else CA) else CA)))]) := by
  refine mkWi (by decide) (Nat.le_of_ble_eq_true rfl) ?_
  intro zp ze s zm args below meth zc hx hb hr hml hown hts hlocks hE hK A hA hlow H locs hP hD hS ls hl
  have hl : lv_has ls 3 [(0, .ref o), (1, .int z), (2, .int v)] := hl
  refine lv_aload_n hx hb dX7_cause_0 rfl (lv_at hl 0 rfl) ?_
  refine lv_iconst (v := 0) hx hb dX7_cause_1 (by decide) ?_
  refine va_put (D := G) (ci := 7) (v := .int 0) (ty := .int) (C := RX7) (T := TX7) (N := 38) hx hb hts inlX7 tyX7 tyX7_ok nmX7 hown hK hP hD hS 0 rfl rfl 0 (by decide) (hts (.fieldLink RX7 75 "EarthBanksModel" "thrown" "I") k_7_19) (fun _ h9 => h9) rfl (by decide +kernel) (rfl) (rfl) (Nat.le_of_ble_eq_true rfl) dX7_cause_2 (fun H locs hP hD hS => ?_)
  have hP : va_P G vwCl [(o, .inr (7, [.int 0, .long tr, .ref a_S, .ref a_K, .ref a_IK, .ref a_SV, .ref a_DR, .ref a_TX, .int td, .int nx, .int tk, .int pc, .int vl, .int fa, .int ff, .ref a_WY, .ref a_BE, .int bf, .int bm, .int bl, .ref a_MO, .ref a_DY, .ref a_PO, .ref a_HO, .ref a_WA, .int ng, .ref a_GA, .int (nI n), .ref a_CA, .int sl, .ref a_MT, .ref a_LW, .int nw, .ref a_WK, .int pe, .int pv, .int pt, .int pu])), (a_CA, .inl (cI, 16, .inl CA))] H := hP
  have hD : va_D A [(o, .inr (7, [.int 0, .long tr, .ref a_S, .ref a_K, .ref a_IK, .ref a_SV, .ref a_DR, .ref a_TX, .int td, .int nx, .int tk, .int pc, .int vl, .int fa, .int ff, .ref a_WY, .ref a_BE, .int bf, .int bm, .int bl, .ref a_MO, .ref a_DY, .ref a_PO, .ref a_HO, .ref a_WA, .int ng, .ref a_GA, .int (nI n), .ref a_CA, .int sl, .ref a_MT, .ref a_LW, .int nw, .ref a_WK, .int pe, .int pv, .int pt, .int pu])), (a_CA, .inl (cI, 16, .inl CA))] := hD
  refine lv_iload_n hx hb dX7_cause_5 rfl (lv_at hl 1 rfl) ?_
  refine lv_iconst (v := 0) hx hb dX7_cause_6 (by decide) ?_
  refine lv_iconst (v := 5) hx hb dX7_cause_7 (by decide) ?_
  refine cRS (As := [.int z, .int 0, .int 5]) (rest := []) hx hb hml hown hts (c_X7_in l G E cI cZ z 0 5) k_7_22 cal_X7_in ⟨Nat.le_of_ble_eq_true rfl, Nat.le_of_ble_eq_true rfl⟩ hE hlow hS hK [0, 1] rfl hP [] rfl rfl hl.1 rfl (Nat.le_of_ble_eq_true rfl) dX7_cause_8 ⟨Nat.zero_le _, Nat.zero_le _⟩ ?_
  refine lv_if_eq (tgt := 24) hx hb dX7_cause_11 (by decide) (fun c_1 => ?_) (fun c_1 => ?_)
  · skip
    have c_1 : (wiB z 0 5) = false := bI_f c_1
    refine lv_iconst (v := (-1)) hx hb dX7_cause_24 (by decide) ?_
    have ew_2 : (nI n : Int32) = nI (if wiB z 0 5 && wiB v 1 99 then (if n < 8 then n + 1 else n) else n) := by simp [c_1]
    have ew_3 : CA = (if wiB z 0 5 && wiB v 1 99 then (if n < 8 then upd (upd CA (2 * n) z) (2 * n + 1) v else CA) else CA) := by simp [c_1]
    have hP : va_P G vwCl [(o, .inr (7, [.int 0, .long tr, .ref a_S, .ref a_K, .ref a_IK, .ref a_SV, .ref a_DR, .ref a_TX, .int td, .int nx, .int tk, .int pc, .int vl, .int fa, .int ff, .ref a_WY, .ref a_BE, .int bf, .int bm, .int bl, .ref a_MO, .ref a_DY, .ref a_PO, .ref a_HO, .ref a_WA, .int ng, .ref a_GA, .int (nI (if wiB z 0 5 && wiB v 1 99 then (if n < 8 then n + 1 else n) else n)), .ref a_CA, .int sl, .ref a_MT, .ref a_LW, .int nw, .ref a_WK, .int pe, .int pv, .int pt, .int pu])), (a_CA, .inl (cI, 16, .inl (if wiB z 0 5 && wiB v 1 99 then (if n < 8 then upd (upd CA (2 * n) z) (2 * n + 1) v else CA) else CA)))] H := by rw [← ew_2, ← ew_3]; exact hP
    exact retWi () hx hb hr (rfl) hlocks dX7_cause_25 hS (by simp [c_1]) hP
  · skip
    have c_1 : (wiB z 0 5) = true := bI_t c_1
    refine lv_iload_n hx hb dX7_cause_14 rfl (lv_at hl 2 rfl) ?_
    refine lv_iconst (v := 1) hx hb dX7_cause_15 (by decide) ?_
    refine lv_bipush (v := 99) hx hb dX7_cause_16 (by decide) ?_
    refine cRS (As := [.int v, .int 1, .int 99]) (rest := []) hx hb hml hown hts (c_X7_in l G E cI cZ v 1 99) k_7_22 cal_X7_in ⟨Nat.le_of_ble_eq_true rfl, Nat.le_of_ble_eq_true rfl⟩ hE hlow hS hK [0, 1] rfl hP [] rfl rfl hl.1 rfl (Nat.le_of_ble_eq_true rfl) dX7_cause_18 ⟨Nat.zero_le _, Nat.zero_le _⟩ ?_
    refine lv_if_ne (tgt := 26) hx hb dX7_cause_21 (by decide) (fun c_4 => ?_) (fun c_4 => ?_)
    · skip
      have c_4 : (wiB v 1 99) = true := bI_t c_4
      refine lv_aload_n hx hb dX7_cause_26 rfl (lv_at hl 0 rfl) ?_
      refine va_get (D := G) (ci := 7) (v := .int (nI n)) (C := RX7) (T := TX7) (N := 38) hx hb hts inlX7 hown hK hP 0 rfl rfl 27 (by decide) (hts (.fieldLink RX7 245 "EarthBanksModel" "causes" "I") k_36_7) (fun _ h9 => h9) rfl dX7_cause_27 ?_
      refine lv_bipush (v := 8) hx hb dX7_cause_30 (by decide) ?_
      refine lv_icmp_ne (tgt := 38) hx hb dX7_cause_32 (by decide) (fun c_5 => ?_) (fun c_5 => ?_)
      · skip
        have c_5 : ¬ n = 8 := fun h9 => c_5 ((nI_eq (a := n) (b := 8) (by omega) (by omega)).mpr h9)
        have h8 : n < 8 := by omega
        refine lv_aload_n hx hb dX7_cause_38 rfl (lv_at hl 0 rfl) ?_
        refine va_get (D := G) (ci := 7) (v := .ref a_CA) (C := RX7) (T := TX7) (N := 38) hx hb hts inlX7 hown hK hP 0 rfl rfl 28 (by decide) (hts (.fieldLink RX7 57 "EarthBanksModel" "cause" "[I") k_6_18) (fun _ h9 => h9) rfl dX7_cause_39 ?_
        refine lv_iconst (v := 2) hx hb dX7_cause_42 (by decide) ?_
        refine lv_aload_n hx hb dX7_cause_43 rfl (lv_at hl 0 rfl) ?_
        refine va_get (D := G) (ci := 7) (v := .int (nI n)) (C := RX7) (T := TX7) (N := 38) hx hb hts inlX7 hown hK hP 0 rfl rfl 27 (by decide) (hts (.fieldLink RX7 245 "EarthBanksModel" "causes" "I") k_36_7) (fun _ h9 => h9) rfl dX7_cause_44 ?_
        refine lv_imul hx hb dX7_cause_47 ?_
        refine top_eq (y := nI (2 * n)) (pk_mul _ _) ?_
        refine lv_iload_n hx hb dX7_cause_48 rfl (lv_at hl 1 rfl) ?_
        refine iastN (j := (2 * n)) hx hb hK hP hD hS 1 0 rfl rfl (by omega) (by decide) dX7_cause_49 (fun H locs hP hD hS => ?_)
        have hP : va_P G vwCl [(o, .inr (7, [.int 0, .long tr, .ref a_S, .ref a_K, .ref a_IK, .ref a_SV, .ref a_DR, .ref a_TX, .int td, .int nx, .int tk, .int pc, .int vl, .int fa, .int ff, .ref a_WY, .ref a_BE, .int bf, .int bm, .int bl, .ref a_MO, .ref a_DY, .ref a_PO, .ref a_HO, .ref a_WA, .int ng, .ref a_GA, .int (nI n), .ref a_CA, .int sl, .ref a_MT, .ref a_LW, .int nw, .ref a_WK, .int pe, .int pv, .int pt, .int pu])), (a_CA, .inl (cI, 16, .inl (upd CA (2 * n) z)))] H := hP
        have hD : va_D A [(o, .inr (7, [.int 0, .long tr, .ref a_S, .ref a_K, .ref a_IK, .ref a_SV, .ref a_DR, .ref a_TX, .int td, .int nx, .int tk, .int pc, .int vl, .int fa, .int ff, .ref a_WY, .ref a_BE, .int bf, .int bm, .int bl, .ref a_MO, .ref a_DY, .ref a_PO, .ref a_HO, .ref a_WA, .int ng, .ref a_GA, .int (nI n), .ref a_CA, .int sl, .ref a_MT, .ref a_LW, .int nw, .ref a_WK, .int pe, .int pv, .int pt, .int pu])), (a_CA, .inl (cI, 16, .inl (upd CA (2 * n) z)))] := hD
        refine lv_aload_n hx hb dX7_cause_50 rfl (lv_at hl 0 rfl) ?_
        refine va_get (D := G) (ci := 7) (v := .ref a_CA) (C := RX7) (T := TX7) (N := 38) hx hb hts inlX7 hown hK hP 0 rfl rfl 28 (by decide) (hts (.fieldLink RX7 57 "EarthBanksModel" "cause" "[I") k_6_18) (fun _ h9 => h9) rfl dX7_cause_51 ?_
        refine lv_iconst (v := 2) hx hb dX7_cause_54 (by decide) ?_
        refine lv_aload_n hx hb dX7_cause_55 rfl (lv_at hl 0 rfl) ?_
        refine va_get (D := G) (ci := 7) (v := .int (nI n)) (C := RX7) (T := TX7) (N := 38) hx hb hts inlX7 hown hK hP 0 rfl rfl 27 (by decide) (hts (.fieldLink RX7 245 "EarthBanksModel" "causes" "I") k_36_7) (fun _ h9 => h9) rfl dX7_cause_56 ?_
        refine lv_imul hx hb dX7_cause_59 ?_
        refine top_eq (y := nI (2 * n)) (pk_mul _ _) ?_
        refine lv_iconst (v := 1) hx hb dX7_cause_60 (by decide) ?_
        refine lv_iadd hx hb dX7_cause_61 ?_
        refine top_eq (y := nI ((2 * n) + 1)) (nI_add _ _) ?_
        refine lv_iload_n hx hb dX7_cause_62 rfl (lv_at hl 2 rfl) ?_
        refine iastN (j := ((2 * n) + 1)) hx hb hK hP hD hS 1 0 rfl rfl (by omega) (by decide) dX7_cause_63 (fun H locs hP hD hS => ?_)
        have hP : va_P G vwCl [(o, .inr (7, [.int 0, .long tr, .ref a_S, .ref a_K, .ref a_IK, .ref a_SV, .ref a_DR, .ref a_TX, .int td, .int nx, .int tk, .int pc, .int vl, .int fa, .int ff, .ref a_WY, .ref a_BE, .int bf, .int bm, .int bl, .ref a_MO, .ref a_DY, .ref a_PO, .ref a_HO, .ref a_WA, .int ng, .ref a_GA, .int (nI n), .ref a_CA, .int sl, .ref a_MT, .ref a_LW, .int nw, .ref a_WK, .int pe, .int pv, .int pt, .int pu])), (a_CA, .inl (cI, 16, .inl (upd (upd CA (2 * n) z) ((2 * n) + 1) v)))] H := hP
        have hD : va_D A [(o, .inr (7, [.int 0, .long tr, .ref a_S, .ref a_K, .ref a_IK, .ref a_SV, .ref a_DR, .ref a_TX, .int td, .int nx, .int tk, .int pc, .int vl, .int fa, .int ff, .ref a_WY, .ref a_BE, .int bf, .int bm, .int bl, .ref a_MO, .ref a_DY, .ref a_PO, .ref a_HO, .ref a_WA, .int ng, .ref a_GA, .int (nI n), .ref a_CA, .int sl, .ref a_MT, .ref a_LW, .int nw, .ref a_WK, .int pe, .int pv, .int pt, .int pu])), (a_CA, .inl (cI, 16, .inl (upd (upd CA (2 * n) z) ((2 * n) + 1) v)))] := hD
        refine lv_aload_n hx hb dX7_cause_64 rfl (lv_at hl 0 rfl) ?_
        refine lv_dup hx hb dX7_cause_65 rfl ?_
        refine va_get (D := G) (ci := 7) (v := .int (nI n)) (C := RX7) (T := TX7) (N := 38) hx hb hts inlX7 hown hK hP 0 rfl rfl 27 (by decide) (hts (.fieldLink RX7 245 "EarthBanksModel" "causes" "I") k_36_7) (fun _ h9 => h9) rfl dX7_cause_66 ?_
        refine lv_iconst (v := 1) hx hb dX7_cause_69 (by decide) ?_
        refine lv_iadd hx hb dX7_cause_70 ?_
        refine top_eq (y := nI (n + 1)) (nI_add _ _) ?_
        refine va_put (D := G) (ci := 7) (v := .int (nI (n + 1))) (ty := .int) (C := RX7) (T := TX7) (N := 38) hx hb hts inlX7 tyX7 tyX7_ok nmX7 hown hK hP hD hS 0 rfl rfl 27 (by decide) (hts (.fieldLink RX7 245 "EarthBanksModel" "causes" "I") k_36_7) (fun _ h9 => h9) rfl (by decide +kernel) (rfl) (rfl) (Nat.le_of_ble_eq_true rfl) dX7_cause_71 (fun H locs hP hD hS => ?_)
        have hP : va_P G vwCl [(o, .inr (7, [.int 0, .long tr, .ref a_S, .ref a_K, .ref a_IK, .ref a_SV, .ref a_DR, .ref a_TX, .int td, .int nx, .int tk, .int pc, .int vl, .int fa, .int ff, .ref a_WY, .ref a_BE, .int bf, .int bm, .int bl, .ref a_MO, .ref a_DY, .ref a_PO, .ref a_HO, .ref a_WA, .int ng, .ref a_GA, .int (nI (n + 1)), .ref a_CA, .int sl, .ref a_MT, .ref a_LW, .int nw, .ref a_WK, .int pe, .int pv, .int pt, .int pu])), (a_CA, .inl (cI, 16, .inl (upd (upd CA (2 * n) z) ((2 * n) + 1) v)))] H := hP
        have hD : va_D A [(o, .inr (7, [.int 0, .long tr, .ref a_S, .ref a_K, .ref a_IK, .ref a_SV, .ref a_DR, .ref a_TX, .int td, .int nx, .int tk, .int pc, .int vl, .int fa, .int ff, .ref a_WY, .ref a_BE, .int bf, .int bm, .int bl, .ref a_MO, .ref a_DY, .ref a_PO, .ref a_HO, .ref a_WA, .int ng, .ref a_GA, .int (nI (n + 1)), .ref a_CA, .int sl, .ref a_MT, .ref a_LW, .int nw, .ref a_WK, .int pe, .int pv, .int pt, .int pu])), (a_CA, .inl (cI, 16, .inl (upd (upd CA (2 * n) z) ((2 * n) + 1) v)))] := hD
        refine lv_aload_n hx hb dX7_cause_74 rfl (lv_at hl 0 rfl) ?_
        refine va_get (D := G) (ci := 7) (v := .int (nI (n + 1))) (C := RX7) (T := TX7) (N := 38) hx hb hts inlX7 hown hK hP 0 rfl rfl 27 (by decide) (hts (.fieldLink RX7 245 "EarthBanksModel" "causes" "I") k_36_7) (fun _ h9 => h9) rfl dX7_cause_75 ?_
        refine lv_iconst (v := 1) hx hb dX7_cause_78 (by decide) ?_
        refine lv_isub hx hb dX7_cause_79 ?_
        refine top_eq (y := nI ((n + 1) - 1)) (pk_sub (a := (n + 1)) (b := 1) (by omega)) ?_
        have ew_6 : (nI (n + 1) : Int32) = nI (if wiB z 0 5 && wiB v 1 99 then (if n < 8 then n + 1 else n) else n) := by simp [h8, c_1, c_4]
        have ew_7 : (upd (upd CA (2 * n) z) ((2 * n) + 1) v) = (if wiB z 0 5 && wiB v 1 99 then (if n < 8 then upd (upd CA (2 * n) z) (2 * n + 1) v else CA) else CA) := by simp [h8, c_1, c_4]
        have hP : va_P G vwCl [(o, .inr (7, [.int 0, .long tr, .ref a_S, .ref a_K, .ref a_IK, .ref a_SV, .ref a_DR, .ref a_TX, .int td, .int nx, .int tk, .int pc, .int vl, .int fa, .int ff, .ref a_WY, .ref a_BE, .int bf, .int bm, .int bl, .ref a_MO, .ref a_DY, .ref a_PO, .ref a_HO, .ref a_WA, .int ng, .ref a_GA, .int (nI (if wiB z 0 5 && wiB v 1 99 then (if n < 8 then n + 1 else n) else n)), .ref a_CA, .int sl, .ref a_MT, .ref a_LW, .int nw, .ref a_WK, .int pe, .int pv, .int pt, .int pu])), (a_CA, .inl (cI, 16, .inl (if wiB z 0 5 && wiB v 1 99 then (if n < 8 then upd (upd CA (2 * n) z) (2 * n + 1) v else CA) else CA)))] H := by rw [← ew_6, ← ew_7]; exact hP
        exact retWi () hx hb hr (rfl) hlocks dX7_cause_80 hS (by simp [h8, c_1, c_4]) hP
      · skip
        have c_5 : n = 8 := (nI_eq (a := n) (b := 8) (by omega) (by omega)).mp c_5
        have h8 : ¬ n < 8 := by omega
        refine lv_bipush (v := (-3)) hx hb dX7_cause_35 (by decide) ?_
        have ew_8 : (nI n : Int32) = nI (if wiB z 0 5 && wiB v 1 99 then (if n < 8 then n + 1 else n) else n) := by simp [h8, c_1, c_4]
        have ew_9 : CA = (if wiB z 0 5 && wiB v 1 99 then (if n < 8 then upd (upd CA (2 * n) z) (2 * n + 1) v else CA) else CA) := by simp [h8, c_1, c_4]
        have hP : va_P G vwCl [(o, .inr (7, [.int 0, .long tr, .ref a_S, .ref a_K, .ref a_IK, .ref a_SV, .ref a_DR, .ref a_TX, .int td, .int nx, .int tk, .int pc, .int vl, .int fa, .int ff, .ref a_WY, .ref a_BE, .int bf, .int bm, .int bl, .ref a_MO, .ref a_DY, .ref a_PO, .ref a_HO, .ref a_WA, .int ng, .ref a_GA, .int (nI (if wiB z 0 5 && wiB v 1 99 then (if n < 8 then n + 1 else n) else n)), .ref a_CA, .int sl, .ref a_MT, .ref a_LW, .int nw, .ref a_WK, .int pe, .int pv, .int pt, .int pu])), (a_CA, .inl (cI, 16, .inl (if wiB z 0 5 && wiB v 1 99 then (if n < 8 then upd (upd CA (2 * n) z) (2 * n + 1) v else CA) else CA)))] H := by rw [← ew_8, ← ew_9]; exact hP
        exact retWi () hx hb hr (rfl) hlocks dX7_cause_37 hS (by simp [h8, c_1, c_4]) hP
    · skip
      have c_4 : (wiB v 1 99) = false := bI_f c_4
      refine lv_iconst (v := (-1)) hx hb dX7_cause_24 (by decide) ?_
      have ew_10 : (nI n : Int32) = nI (if wiB z 0 5 && wiB v 1 99 then (if n < 8 then n + 1 else n) else n) := by simp [c_1, c_4]
      have ew_11 : CA = (if wiB z 0 5 && wiB v 1 99 then (if n < 8 then upd (upd CA (2 * n) z) (2 * n + 1) v else CA) else CA) := by simp [c_1, c_4]
      have hP : va_P G vwCl [(o, .inr (7, [.int 0, .long tr, .ref a_S, .ref a_K, .ref a_IK, .ref a_SV, .ref a_DR, .ref a_TX, .int td, .int nx, .int tk, .int pc, .int vl, .int fa, .int ff, .ref a_WY, .ref a_BE, .int bf, .int bm, .int bl, .ref a_MO, .ref a_DY, .ref a_PO, .ref a_HO, .ref a_WA, .int ng, .ref a_GA, .int (nI (if wiB z 0 5 && wiB v 1 99 then (if n < 8 then n + 1 else n) else n)), .ref a_CA, .int sl, .ref a_MT, .ref a_LW, .int nw, .ref a_WK, .int pe, .int pv, .int pt, .int pu])), (a_CA, .inl (cI, 16, .inl (if wiB z 0 5 && wiB v 1 99 then (if n < 8 then upd (upd CA (2 * n) z) (2 * n + 1) v else CA) else CA)))] H := by rw [← ew_10, ← ew_11]; exact hP
      exact retWi () hx hb hr (rfl) hlocks dX7_cause_25 hS (by simp [c_1, c_4]) hP
