def sfM (se wa : Nat → Int32) (hN : Nat → Nat) (ru : Int32) (fl : Nat) : Bool := decide ((hmR se wa ru fl (hN fl)).2.1 = 0) && !decide (se 4 < (hmR se wa ru fl (hN fl)).2.2.1)
def bruM (se wa : Nat → Int32) (hN : Nat → Nat) : Nat → Int32 × Int32
  | 0 => (0, -1)
  | k + 1 => if cntS (sfM se wa hN (nI (100 * k))) 8 < (bruM se wa hN k).2 then bruM se wa hN k else (nI (100 * k), cntS (sfM se wa hN (nI (100 * k))) 8)
theorem bruM_s (se wa : Nat → Int32) (hN : Nat → Nat) (k : Nat) : bruM se wa hN (k + 1) = if cntS (sfM se wa hN (nI (100 * k))) 8 < (bruM se wa hN k).2 then bruM se wa hN k else (nI (100 * k), cntS (sfM se wa hN (nI (100 * k))) 8) := rfl
theorem cal_X7_isSafe : calV yX7_isSafe cX7_isSafe 3 (some .boolean) 2 := ⟨k_34_11, k_1_5, k_34_9, k_34_10, by decide +kernel⟩
set_option maxHeartbeats 4000000 in
set_option maxRecDepth 100000 in
theorem c_X7_isSafe (l : Launch) (G : va_G) (E : EvT) (cI cZ : ClassId) (hN : Nat → Nat) (fl : Nat) (ru : Int32) (o : Nat) (a_PO : Nat) (a_HO : Nat) (a_WA : Nat) (a_S : Nat) (a_K : Nat) (a_IK : Nat) (a_SV : Nat) (a_DR : Nat) (a_TX : Nat) (a_WY : Nat) (a_BE : Nat) (a_MO : Nat) (a_DY : Nat) (a_GA : Nat) (a_CA : Nat) (a_MT : Nat) (a_LW : Nat) (a_WK : Nat) (th : Int32) (tr : Int64) (td : Int32) (nx : Int32) (tk : Int32) (pc : Int32) (vl : Int32) (fa : Int32) (ff : Int32) (bf : Int32) (bm : Int32) (bl : Int32) (ng : Int32) (nc : Int32) (sl : Int32) (nw : Int32) (pe : Int32) (pv : Int32) (pt : Int32) (pu : Int32) (PO : Nat → Int32) (HO : Nat → Int32) (WA : Nat → Int32) (hfl : fl < 8) (hho : ∀ j, HO j = nI (hN j)) (hle : ∀ j, hN j ≤ 12) : cWi (S := Unit) l G E yX7_isSafe cX7_isSafe 3 (some .boolean) 2 [(cI, .int), (cZ, .boolean)] [.ref o, .int (nI fl), .int ru] [(o, .inr (7, [.int th, .long tr, .ref a_S, .ref a_K, .ref a_IK, .ref a_SV, .ref a_DR, .ref a_TX, .int td, .int nx, .int tk, .int pc, .int vl, .int fa, .int ff, .ref a_WY, .ref a_BE, .int bf, .int bm, .int bl, .ref a_MO, .ref a_DY, .ref a_PO, .ref a_HO, .ref a_WA, .int ng, .ref a_GA, .int nc, .ref a_CA, .int sl, .ref a_MT, .ref a_LW, .int nw, .ref a_WK, .int pe, .int pv, .int pt, .int pu])), (a_PO, .inl (cI, 6, .inl PO)), (a_HO, .inl (cI, 8, .inl HO)), (a_WA, .inl (cI, 96, .inl WA))] (fun r _ => r = bI (sfM PO WA hN ru fl)) (fun _ => [(o, .inr (7, [.int th, .long tr, .ref a_S, .ref a_K, .ref a_IK, .ref a_SV, .ref a_DR, .ref a_TX, .int td, .int nx, .int tk, .int pc, .int vl, .int fa, .int ff, .ref a_WY, .ref a_BE, .int bf, .int bm, .int bl, .ref a_MO, .ref a_DY, .ref a_PO, .ref a_HO, .ref a_WA, .int ng, .ref a_GA, .int nc, .ref a_CA, .int sl, .ref a_MT, .ref a_LW, .int nw, .ref a_WK, .int ((hmR PO WA ru fl (hN fl)).1), .int ((hmR PO WA ru fl (hN fl)).2.1), .int ((hmR PO WA ru fl (hN fl)).2.2.1), .int ((hmR PO WA ru fl (hN fl)).2.2.2)])), (a_PO, .inl (cI, 6, .inl PO)), (a_HO, .inl (cI, 8, .inl HO)), (a_WA, .inl (cI, 96, .inl WA))]) := by
  refine mkWi (by decide) (Nat.le_of_ble_eq_true rfl) ?_
  intro zp ze s zm args below meth zc hx hb hr hml hown hts hlocks hE hK A hA hlow H locs hP hD hS ls hl
  have hl : lv_has ls 3 [(0, .ref o), (1, .int (nI fl)), (2, .int ru)] := hl
  refine lv_aload_n hx hb dX7_isSafe_0 rfl (lv_at hl 0 rfl) ?_
  refine lv_iload_n hx hb dX7_isSafe_1 rfl (lv_at hl 1 rfl) ?_
  refine lv_iload_n hx hb dX7_isSafe_2 rfl (lv_at hl 2 rfl) ?_
  refine cWVv (As := [.int (nI fl), .int ru]) (rest := []) hx hb hml hown hts (c_X7_routes l G E cI cZ hN fl ru o a_PO a_HO a_WA a_S a_K a_IK a_SV a_DR a_TX a_WY a_BE a_MO a_DY a_GA a_CA a_MT a_LW a_WK th tr td nx tk pc vl fa ff bf bm bl ng nc sl nw pe pv pt pu PO HO WA (hfl) (hho) (hle)) k_34_12 cal_X7_routes ⟨Nat.le_of_ble_eq_true rfl, Nat.le_of_ble_eq_true rfl⟩ hE hA hlow hD hS hK [0, 1] rfl hP [0, 1, 2, 3] rfl (by decide) [o, a_PO, a_HO, a_WA] rfl (fun _ => rfl) [] [] (fun _ => [(o, .inr (7, [.int th, .long tr, .ref a_S, .ref a_K, .ref a_IK, .ref a_SV, .ref a_DR, .ref a_TX, .int td, .int nx, .int tk, .int pc, .int vl, .int fa, .int ff, .ref a_WY, .ref a_BE, .int bf, .int bm, .int bl, .ref a_MO, .ref a_DY, .ref a_PO, .ref a_HO, .ref a_WA, .int ng, .ref a_GA, .int nc, .ref a_CA, .int sl, .ref a_MT, .ref a_LW, .int nw, .ref a_WK, .int ((hmR PO WA ru fl (hN fl)).1), .int ((hmR PO WA ru fl (hN fl)).2.1), .int ((hmR PO WA ru fl (hN fl)).2.2.1), .int ((hmR PO WA ru fl (hN fl)).2.2.2)])), (a_PO, .inl (cI, 6, .inl PO)), (a_HO, .inl (cI, 8, .inl HO)), (a_WA, .inl (cI, 96, .inl WA))]) 4 rfl (fun _ => rfl) (fun _ => rfl) (fun _ => rfl) (by decide) (by decide) 0 7 rfl rfl rfl hl.1 rfl (Nat.le_of_ble_eq_true rfl) dX7_isSafe_3 ⟨Nat.zero_le _, Nat.zero_le _⟩ (fun u H locs hr_ hP hD hS => ?_)
  have hP : va_P G vwCl [(o, .inr (7, [.int th, .long tr, .ref a_S, .ref a_K, .ref a_IK, .ref a_SV, .ref a_DR, .ref a_TX, .int td, .int nx, .int tk, .int pc, .int vl, .int fa, .int ff, .ref a_WY, .ref a_BE, .int bf, .int bm, .int bl, .ref a_MO, .ref a_DY, .ref a_PO, .ref a_HO, .ref a_WA, .int ng, .ref a_GA, .int nc, .ref a_CA, .int sl, .ref a_MT, .ref a_LW, .int nw, .ref a_WK, .int ((hmR PO WA ru fl (hN fl)).1), .int ((hmR PO WA ru fl (hN fl)).2.1), .int ((hmR PO WA ru fl (hN fl)).2.2.1), .int ((hmR PO WA ru fl (hN fl)).2.2.2)])), (a_PO, .inl (cI, 6, .inl PO)), (a_HO, .inl (cI, 8, .inl HO)), (a_WA, .inl (cI, 96, .inl WA))] H := hP
  have hD : va_D A [(o, .inr (7, [.int th, .long tr, .ref a_S, .ref a_K, .ref a_IK, .ref a_SV, .ref a_DR, .ref a_TX, .int td, .int nx, .int tk, .int pc, .int vl, .int fa, .int ff, .ref a_WY, .ref a_BE, .int bf, .int bm, .int bl, .ref a_MO, .ref a_DY, .ref a_PO, .ref a_HO, .ref a_WA, .int ng, .ref a_GA, .int nc, .ref a_CA, .int sl, .ref a_MT, .ref a_LW, .int nw, .ref a_WK, .int ((hmR PO WA ru fl (hN fl)).1), .int ((hmR PO WA ru fl (hN fl)).2.1), .int ((hmR PO WA ru fl (hN fl)).2.2.1), .int ((hmR PO WA ru fl (hN fl)).2.2.2)])), (a_PO, .inl (cI, 6, .inl PO)), (a_HO, .inl (cI, 8, .inl HO)), (a_WA, .inl (cI, 96, .inl WA))] := hD
  refine lv_aload_n hx hb dX7_isSafe_6 rfl (lv_at hl 0 rfl) ?_
  refine va_get (D := G) (ci := 7) (v := .int ((hmR PO WA ru fl (hN fl)).2.1)) (C := RX7) (T := TX7) (N := 38) hx hb hts inlX7 hown hK hP 0 rfl rfl 35 (by decide) (hts (.fieldLink RX7 223 "EarthBanksModel" "poolOver" "I") k_34_5) (fun _ h9 => h9) rfl dX7_isSafe_7 ?_
  refine lv_if_ne (tgt := 30) hx hb dX7_isSafe_10 (by decide) (fun c_1 => ?_) (fun c_1 => ?_)
  · skip
    refine lv_iconst (v := 0) hx hb dX7_isSafe_30 (by decide) ?_
    exact retWi () hx hb hr (rfl) hlocks dX7_isSafe_31 hS (by simp [sfM, bI, c_1]) hP
  · skip
    refine lv_aload_n hx hb dX7_isSafe_13 rfl (lv_at hl 0 rfl) ?_
    refine va_get (D := G) (ci := 7) (v := .int ((hmR PO WA ru fl (hN fl)).2.2.1)) (C := RX7) (T := TX7) (N := 38) hx hb hts inlX7 hown hK hP 0 rfl rfl 36 (by decide) (hts (.fieldLink RX7 226 "EarthBanksModel" "poolTown" "I") k_34_6) (fun _ h9 => h9) rfl dX7_isSafe_14 ?_
    refine lv_aload_n hx hb dX7_isSafe_17 rfl (lv_at hl 0 rfl) ?_
    refine va_get (D := G) (ci := 7) (v := .ref a_PO) (C := RX7) (T := TX7) (N := 38) hx hb hts inlX7 hown hK hP 0 rfl rfl 22 (by decide) (hts (.fieldLink RX7 45 "EarthBanksModel" "pool" "[I") k_6_14) (fun _ h9 => h9) rfl dX7_isSafe_18 ?_
    refine lv_iconst (v := 4) hx hb dX7_isSafe_21 (by decide) ?_
    refine ialdN (j := 4) hx hb hK hP 1 0 rfl rfl (by omega) (by decide) dX7_isSafe_22 ?_
    refine lv_icmp_gt (tgt := 30) hx hb dX7_isSafe_23 (by decide) (fun c_2 => ?_) (fun c_2 => ?_)
    · skip
      refine lv_iconst (v := 0) hx hb dX7_isSafe_30 (by decide) ?_
      exact retWi () hx hb hr (rfl) hlocks dX7_isSafe_31 hS (by simp [sfM, bI, eq_true c_1, c_2]) hP
    · skip
      refine lv_iconst (v := 1) hx hb dX7_isSafe_26 (by decide) ?_
      refine lv_goto (tgt := 31) hx hb dX7_isSafe_27 (by decide) ?_
      exact retWi () hx hb hr (rfl) hlocks dX7_isSafe_31 hS (by simp [sfM, bI, eq_true c_1, c_2]) hP
theorem cal_X7_route : calV yX7_route cX7_route 5 (some .int) 3 := ⟨k_34_3, k_1_5, k_34_1, k_34_2, by decide +kernel⟩
set_option maxHeartbeats 4000000 in
set_option maxRecDepth 100000 in
theorem c_X7_route (l : Launch) (G : va_G) (E : EvT) (cI cZ : ClassId) (hN : Nat → Nat) (x : Int32) (v : Int32) (wh : Int32) (o : Nat) (a_PO : Nat) (a_HO : Nat) (a_WA : Nat) (a_S : Nat) (a_K : Nat) (a_IK : Nat) (a_SV : Nat) (a_DR : Nat) (a_TX : Nat) (a_WY : Nat) (a_BE : Nat) (a_MO : Nat) (a_DY : Nat) (a_GA : Nat) (a_CA : Nat) (a_MT : Nat) (a_LW : Nat) (a_WK : Nat) (th : Int32) (tr : Int64) (td : Int32) (nx : Int32) (tk : Int32) (pc : Int32) (vl : Int32) (fa : Int32) (ff : Int32) (bf : Int32) (bm : Int32) (bl : Int32) (ng : Int32) (nc : Int32) (sl : Int32) (nw : Int32) (pe : Int32) (pv : Int32) (pt : Int32) (pu : Int32) (PO : Nat → Int32) (HO : Nat → Int32) (WA : Nat → Int32) (hho : ∀ j, HO j = nI (hN j)) (hle : ∀ j, hN j ≤ 12) : cWi (S := Int32 × Int32 × Int32 × Int32) l G E yX7_route cX7_route 5 (some .int) 5 [(cI, .int), (cZ, .boolean)] [.ref o, .int x, .int v, .int wh] [(o, .inr (7, [.int th, .long tr, .ref a_S, .ref a_K, .ref a_IK, .ref a_SV, .ref a_DR, .ref a_TX, .int td, .int nx, .int tk, .int pc, .int vl, .int fa, .int ff, .ref a_WY, .ref a_BE, .int bf, .int bm, .int bl, .ref a_MO, .ref a_DY, .ref a_PO, .ref a_HO, .ref a_WA, .int ng, .ref a_GA, .int nc, .ref a_CA, .int sl, .ref a_MT, .ref a_LW, .int nw, .ref a_WK, .int pe, .int pv, .int pt, .int pu])), (a_PO, .inl (cI, 6, .inl PO)), (a_HO, .inl (cI, 8, .inl HO)), (a_WA, .inl (cI, 96, .inl WA))] (fun r _ => r = (if wiB x 0 7 && (wiB v 0 9999 && wiB wh 0 4) then (if wh = 0 then (hmR PO WA v x.toNatClampNeg (hN x.toNatClampNeg)).1 else if wh = 1 then (hmR PO WA v x.toNatClampNeg (hN x.toNatClampNeg)).2.1 else if wh = 2 then (hmR PO WA v x.toNatClampNeg (hN x.toNatClampNeg)).2.2.1 else if wh = 3 then bI (sfM PO WA hN v x.toNatClampNeg) else (hmR PO WA v x.toNatClampNeg (hN x.toNatClampNeg)).2.2.2) else (-1))) (fun u => [(o, .inr (7, [.int 0, .long tr, .ref a_S, .ref a_K, .ref a_IK, .ref a_SV, .ref a_DR, .ref a_TX, .int td, .int nx, .int tk, .int pc, .int vl, .int fa, .int ff, .ref a_WY, .ref a_BE, .int bf, .int bm, .int bl, .ref a_MO, .ref a_DY, .ref a_PO, .ref a_HO, .ref a_WA, .int ng, .ref a_GA, .int nc, .ref a_CA, .int sl, .ref a_MT, .ref a_LW, .int nw, .ref a_WK, .int u.1, .int u.2.1, .int u.2.2.1, .int u.2.2.2])), (a_PO, .inl (cI, 6, .inl PO)), (a_HO, .inl (cI, 8, .inl HO)), (a_WA, .inl (cI, 96, .inl WA))]) := by
  refine mkWi (by decide) (Nat.le_of_ble_eq_true rfl) ?_
  intro zp ze s zm args below meth zc hx hb hr hml hown hts hlocks hE hK A hA hlow H locs hP hD hS ls hl
  have hl : lv_has ls 5 [(0, .ref o), (1, .int x), (2, .int v), (3, .int wh)] := hl
  refine lv_aload_n hx hb dX7_route_0 rfl (lv_at hl 0 rfl) ?_
  refine lv_iconst (v := 0) hx hb dX7_route_1 (by decide) ?_
  refine va_put (D := G) (ci := 7) (v := .int 0) (ty := .int) (C := RX7) (T := TX7) (N := 38) hx hb hts inlX7 tyX7 tyX7_ok nmX7 hown hK hP hD hS 0 rfl rfl 0 (by decide) (hts (.fieldLink RX7 75 "EarthBanksModel" "thrown" "I") k_7_19) (fun _ h9 => h9) rfl (by decide +kernel) (rfl) (rfl) (Nat.le_of_ble_eq_true rfl) dX7_route_2 (fun H locs hP hD hS => ?_)
  have hP : va_P G vwCl [(o, .inr (7, [.int 0, .long tr, .ref a_S, .ref a_K, .ref a_IK, .ref a_SV, .ref a_DR, .ref a_TX, .int td, .int nx, .int tk, .int pc, .int vl, .int fa, .int ff, .ref a_WY, .ref a_BE, .int bf, .int bm, .int bl, .ref a_MO, .ref a_DY, .ref a_PO, .ref a_HO, .ref a_WA, .int ng, .ref a_GA, .int nc, .ref a_CA, .int sl, .ref a_MT, .ref a_LW, .int nw, .ref a_WK, .int pe, .int pv, .int pt, .int pu])), (a_PO, .inl (cI, 6, .inl PO)), (a_HO, .inl (cI, 8, .inl HO)), (a_WA, .inl (cI, 96, .inl WA))] H := hP
  have hD : va_D A [(o, .inr (7, [.int 0, .long tr, .ref a_S, .ref a_K, .ref a_IK, .ref a_SV, .ref a_DR, .ref a_TX, .int td, .int nx, .int tk, .int pc, .int vl, .int fa, .int ff, .ref a_WY, .ref a_BE, .int bf, .int bm, .int bl, .ref a_MO, .ref a_DY, .ref a_PO, .ref a_HO, .ref a_WA, .int ng, .ref a_GA, .int nc, .ref a_CA, .int sl, .ref a_MT, .ref a_LW, .int nw, .ref a_WK, .int pe, .int pv, .int pt, .int pu])), (a_PO, .inl (cI, 6, .inl PO)), (a_HO, .inl (cI, 8, .inl HO)), (a_WA, .inl (cI, 96, .inl WA))] := hD
  refine lv_iload_n hx hb dX7_route_5 rfl (lv_at hl 1 rfl) ?_
  refine lv_iconst (v := 0) hx hb dX7_route_6 (by decide) ?_
  refine lv_bipush (v := 7) hx hb dX7_route_7 (by decide) ?_
  refine cRS (As := [.int x, .int 0, .int 7]) (rest := []) hx hb hml hown hts (c_X7_in l G E cI cZ x 0 7) k_7_22 cal_X7_in ⟨Nat.le_of_ble_eq_true rfl, Nat.le_of_ble_eq_true rfl⟩ hE hlow hS hK [0, 1] rfl hP [] rfl rfl hl.1 rfl (Nat.le_of_ble_eq_true rfl) dX7_route_9 ⟨Nat.zero_le _, Nat.zero_le _⟩ ?_
  refine lv_if_eq (tgt := 35) hx hb dX7_route_12 (by decide) (fun c_1 => ?_) (fun c_1 => ?_)
  · skip
    have c_1 : (wiB x 0 7) = false := bI_f c_1
    refine lv_iconst (v := (-1)) hx hb dX7_route_35 (by decide) ?_
    exact retWi (pe, pv, pt, pu) hx hb hr (rfl) hlocks dX7_route_36 hS (by simp [bI, c_1]) hP
  · skip
    have c_1 : (wiB x 0 7) = true := bI_t c_1
    refine lv_iload_n hx hb dX7_route_15 rfl (lv_at hl 2 rfl) ?_
    refine lv_iconst (v := 0) hx hb dX7_route_16 (by decide) ?_
    refine lv_sipush (v := 9999) hx hb dX7_route_17 (by decide) ?_
    refine cRS (As := [.int v, .int 0, .int 9999]) (rest := []) hx hb hml hown hts (c_X7_in l G E cI cZ v 0 9999) k_7_22 cal_X7_in ⟨Nat.le_of_ble_eq_true rfl, Nat.le_of_ble_eq_true rfl⟩ hE hlow hS hK [0, 1] rfl hP [] rfl rfl hl.1 rfl (Nat.le_of_ble_eq_true rfl) dX7_route_20 ⟨Nat.zero_le _, Nat.zero_le _⟩ ?_
    refine lv_if_eq (tgt := 35) hx hb dX7_route_23 (by decide) (fun c_2 => ?_) (fun c_2 => ?_)
    · skip
      have c_2 : (wiB v 0 9999) = false := bI_f c_2
      refine lv_iconst (v := (-1)) hx hb dX7_route_35 (by decide) ?_
      exact retWi (pe, pv, pt, pu) hx hb hr (rfl) hlocks dX7_route_36 hS (by simp [bI, c_1, c_2]) hP
    · skip
      have c_2 : (wiB v 0 9999) = true := bI_t c_2
      refine lv_iload_n hx hb dX7_route_26 rfl (lv_at hl 3 rfl) ?_
      refine lv_iconst (v := 0) hx hb dX7_route_27 (by decide) ?_
      refine lv_iconst (v := 4) hx hb dX7_route_28 (by decide) ?_
      refine cRS (As := [.int wh, .int 0, .int 4]) (rest := []) hx hb hml hown hts (c_X7_in l G E cI cZ wh 0 4) k_7_22 cal_X7_in ⟨Nat.le_of_ble_eq_true rfl, Nat.le_of_ble_eq_true rfl⟩ hE hlow hS hK [0, 1] rfl hP [] rfl rfl hl.1 rfl (Nat.le_of_ble_eq_true rfl) dX7_route_29 ⟨Nat.zero_le _, Nat.zero_le _⟩ ?_
      refine lv_if_ne (tgt := 37) hx hb dX7_route_32 (by decide) (fun c_3 => ?_) (fun c_3 => ?_)
      · skip
        have c_3 : (wiB wh 0 4) = true := bI_t c_3
        obtain ⟨xn, hx9, hex, hcx⟩ := wiB_n (M := 7) (by omega) c_1
        have hl : lv_has ls 5 [(0, .ref o), (1, .int (nI xn)), (2, .int v), (3, .int wh)] := by rw [hex] at hl; exact hl
        refine lv_aload_n hx hb dX7_route_37 rfl (lv_at hl 0 rfl) ?_
        refine lv_iload_n hx hb dX7_route_38 rfl (lv_at hl 1 rfl) ?_
        refine lv_iload_n hx hb dX7_route_39 rfl (lv_at hl 2 rfl) ?_
        refine cWVi (As := [.int (nI xn), .int v]) (rest := []) hx hb hml hown hts (c_X7_isSafe l G E cI cZ hN xn v o a_PO a_HO a_WA a_S a_K a_IK a_SV a_DR a_TX a_WY a_BE a_MO a_DY a_GA a_CA a_MT a_LW a_WK 0 tr td nx tk pc vl fa ff bf bm bl ng nc sl nw pe pv pt pu PO HO WA (by first | assumption | omega | simp [bI, c_1, c_2, c_3]) (hho) (hle)) k_34_8 cal_X7_isSafe ⟨Nat.le_of_ble_eq_true rfl, Nat.le_of_ble_eq_true rfl⟩ hE hA hlow hD hS hK [0, 1] rfl hP [0, 1, 2, 3] rfl (by decide) [o, a_PO, a_HO, a_WA] rfl (fun _ => rfl) [] [] (fun _ => [(o, .inr (7, [.int 0, .long tr, .ref a_S, .ref a_K, .ref a_IK, .ref a_SV, .ref a_DR, .ref a_TX, .int td, .int nx, .int tk, .int pc, .int vl, .int fa, .int ff, .ref a_WY, .ref a_BE, .int bf, .int bm, .int bl, .ref a_MO, .ref a_DY, .ref a_PO, .ref a_HO, .ref a_WA, .int ng, .ref a_GA, .int nc, .ref a_CA, .int sl, .ref a_MT, .ref a_LW, .int nw, .ref a_WK, .int ((hmR PO WA v xn (hN xn)).1), .int ((hmR PO WA v xn (hN xn)).2.1), .int ((hmR PO WA v xn (hN xn)).2.2.1), .int ((hmR PO WA v xn (hN xn)).2.2.2)])), (a_PO, .inl (cI, 6, .inl PO)), (a_HO, .inl (cI, 8, .inl HO)), (a_WA, .inl (cI, 96, .inl WA))]) 4 rfl (fun _ => rfl) (fun _ => rfl) (fun _ => rfl) (by decide) (by decide) 0 7 rfl rfl rfl hl.1 rfl (Nat.le_of_ble_eq_true rfl) dX7_route_40 ⟨Nat.zero_le _, Nat.zero_le _⟩ (fun r_ u H locs hr_ hP hD hS => ?_)
        subst hr_
        have hP : va_P G vwCl [(o, .inr (7, [.int 0, .long tr, .ref a_S, .ref a_K, .ref a_IK, .ref a_SV, .ref a_DR, .ref a_TX, .int td, .int nx, .int tk, .int pc, .int vl, .int fa, .int ff, .ref a_WY, .ref a_BE, .int bf, .int bm, .int bl, .ref a_MO, .ref a_DY, .ref a_PO, .ref a_HO, .ref a_WA, .int ng, .ref a_GA, .int nc, .ref a_CA, .int sl, .ref a_MT, .ref a_LW, .int nw, .ref a_WK, .int ((hmR PO WA v xn (hN xn)).1), .int ((hmR PO WA v xn (hN xn)).2.1), .int ((hmR PO WA v xn (hN xn)).2.2.1), .int ((hmR PO WA v xn (hN xn)).2.2.2)])), (a_PO, .inl (cI, 6, .inl PO)), (a_HO, .inl (cI, 8, .inl HO)), (a_WA, .inl (cI, 96, .inl WA))] H := hP
        have hD : va_D A [(o, .inr (7, [.int 0, .long tr, .ref a_S, .ref a_K, .ref a_IK, .ref a_SV, .ref a_DR, .ref a_TX, .int td, .int nx, .int tk, .int pc, .int vl, .int fa, .int ff, .ref a_WY, .ref a_BE, .int bf, .int bm, .int bl, .ref a_MO, .ref a_DY, .ref a_PO, .ref a_HO, .ref a_WA, .int ng, .ref a_GA, .int nc, .ref a_CA, .int sl, .ref a_MT, .ref a_LW, .int nw, .ref a_WK, .int ((hmR PO WA v xn (hN xn)).1), .int ((hmR PO WA v xn (hN xn)).2.1), .int ((hmR PO WA v xn (hN xn)).2.2.1), .int ((hmR PO WA v xn (hN xn)).2.2.2)])), (a_PO, .inl (cI, 6, .inl PO)), (a_HO, .inl (cI, 8, .inl HO)), (a_WA, .inl (cI, 96, .inl WA))] := hD
        refine lv_istore (lv' := [(4, .int (bI (sfM PO WA hN v xn))), (0, .ref o), (1, .int (nI xn)), (2, .int v), (3, .int wh)]) hx hb dX7_route_43 hl (by decide) rfl (fun ls hl => ?_)
        refine lv_iload_n hx hb dX7_route_45 rfl (lv_at hl 4 rfl) ?_
        refine lv_if_ne (tgt := 56) hx hb dX7_route_46 (by decide) (fun c_4 => ?_) (fun c_4 => ?_)
        · skip
          refine lv_iload_n hx hb dX7_route_56 rfl (lv_at hl 4 rfl) ?_
          refine lv_iconst (v := 1) hx hb dX7_route_57 (by decide) ?_
          refine lv_icmp_ne (tgt := 68) hx hb dX7_route_58 (by decide) (fun c_5 => ?_) (fun c_5 => ?_)
          · skip
            refine lv_iload_n hx hb dX7_route_68 rfl (lv_at hl 4 rfl) ?_
            refine lv_iconst (v := 2) hx hb dX7_route_69 (by decide) ?_
            refine lv_icmp_ne (tgt := 80) hx hb dX7_route_70 (by decide) (fun c_6 => ?_) (fun c_6 => ?_)
            · skip
              refine lv_iload_n hx hb dX7_route_80 rfl (lv_at hl 4 rfl) ?_
              refine lv_iconst (v := 3) hx hb dX7_route_81 (by decide) ?_
              refine lv_icmp_ne (tgt := 98) hx hb dX7_route_82 (by decide) (fun c_7 => ?_) (fun c_7 => ?_)
              · skip
                refine lv_aload_n hx hb dX7_route_98 rfl (lv_at hl 1 rfl) ?_
                refine va_get (D := G) (ci := 7) (v := .int ((hmR PO WA v xn (hN xn)).2.2.2)) (C := RX7) (T := TX7) (N := 38) hx hb hts inlX7 hown hK hP 0 rfl rfl 37 (by decide) (hts (.fieldLink RX7 229 "EarthBanksModel" "poolOut" "I") k_34_7) (fun _ h9 => h9) rfl dX7_route_99 ?_
                exact retWi ((hmR PO WA v xn (hN xn)).1, (hmR PO WA v xn (hN xn)).2.1, (hmR PO WA v xn (hN xn)).2.2.1, (hmR PO WA v xn (hN xn)).2.2.2) hx hb hr (rfl) hlocks dX7_route_102 hS (by simp [bI, hcx, c_1, c_2, c_3, c_4, c_5, c_6, c_7]) hP
              · skip
                refine lv_iload hx hb dX7_route_85 (lv_at hl 0 rfl) ?_
                refine lv_if_eq (tgt := 94) hx hb dX7_route_87 (by decide) (fun c_8 => ?_) (fun c_8 => ?_)
                · skip
                  have c_8 : (sfM PO WA hN v xn) = false := bI_f c_8
                  refine lv_iconst (v := 0) hx hb dX7_route_94 (by decide) ?_
                  refine lv_goto (tgt := 102) hx hb dX7_route_95 (by decide) ?_
                  exact retWi ((hmR PO WA v xn (hN xn)).1, (hmR PO WA v xn (hN xn)).2.1, (hmR PO WA v xn (hN xn)).2.2.1, (hmR PO WA v xn (hN xn)).2.2.2) hx hb hr (rfl) hlocks dX7_route_102 hS (by simp [bI, hcx, c_1, c_2, c_3, c_4, c_5, c_6, eq_true c_7, c_8]) hP
                · skip
                  have c_8 : (sfM PO WA hN v xn) = true := bI_t c_8
                  refine lv_iconst (v := 1) hx hb dX7_route_90 (by decide) ?_
                  refine lv_goto (tgt := 102) hx hb dX7_route_91 (by decide) ?_
                  exact retWi ((hmR PO WA v xn (hN xn)).1, (hmR PO WA v xn (hN xn)).2.1, (hmR PO WA v xn (hN xn)).2.2.1, (hmR PO WA v xn (hN xn)).2.2.2) hx hb hr (rfl) hlocks dX7_route_102 hS (by simp [bI, hcx, c_1, c_2, c_3, c_4, c_5, c_6, eq_true c_7, c_8]) hP
            · skip
              refine lv_aload_n hx hb dX7_route_73 rfl (lv_at hl 1 rfl) ?_
              refine va_get (D := G) (ci := 7) (v := .int ((hmR PO WA v xn (hN xn)).2.2.1)) (C := RX7) (T := TX7) (N := 38) hx hb hts inlX7 hown hK hP 0 rfl rfl 36 (by decide) (hts (.fieldLink RX7 226 "EarthBanksModel" "poolTown" "I") k_34_6) (fun _ h9 => h9) rfl dX7_route_74 ?_
              refine lv_goto (tgt := 102) hx hb dX7_route_77 (by decide) ?_
              exact retWi ((hmR PO WA v xn (hN xn)).1, (hmR PO WA v xn (hN xn)).2.1, (hmR PO WA v xn (hN xn)).2.2.1, (hmR PO WA v xn (hN xn)).2.2.2) hx hb hr (rfl) hlocks dX7_route_102 hS (by simp [bI, hcx, c_1, c_2, c_3, c_4, c_5, eq_true c_6]) hP
          · skip
            refine lv_aload_n hx hb dX7_route_61 rfl (lv_at hl 1 rfl) ?_
            refine va_get (D := G) (ci := 7) (v := .int ((hmR PO WA v xn (hN xn)).2.1)) (C := RX7) (T := TX7) (N := 38) hx hb hts inlX7 hown hK hP 0 rfl rfl 35 (by decide) (hts (.fieldLink RX7 223 "EarthBanksModel" "poolOver" "I") k_34_5) (fun _ h9 => h9) rfl dX7_route_62 ?_
            refine lv_goto (tgt := 102) hx hb dX7_route_65 (by decide) ?_
            exact retWi ((hmR PO WA v xn (hN xn)).1, (hmR PO WA v xn (hN xn)).2.1, (hmR PO WA v xn (hN xn)).2.2.1, (hmR PO WA v xn (hN xn)).2.2.2) hx hb hr (rfl) hlocks dX7_route_102 hS (by simp [bI, hcx, c_1, c_2, c_3, c_4, eq_true c_5]) hP
        · skip
          refine lv_aload_n hx hb dX7_route_49 rfl (lv_at hl 1 rfl) ?_
          refine va_get (D := G) (ci := 7) (v := .int ((hmR PO WA v xn (hN xn)).1)) (C := RX7) (T := TX7) (N := 38) hx hb hts inlX7 hown hK hP 0 rfl rfl 34 (by decide) (hts (.fieldLink RX7 232 "EarthBanksModel" "poolEnd" "I") k_34_4) (fun _ h9 => h9) rfl dX7_route_50 ?_
          refine lv_goto (tgt := 102) hx hb dX7_route_53 (by decide) ?_
          exact retWi ((hmR PO WA v xn (hN xn)).1, (hmR PO WA v xn (hN xn)).2.1, (hmR PO WA v xn (hN xn)).2.2.1, (hmR PO WA v xn (hN xn)).2.2.2) hx hb hr (rfl) hlocks dX7_route_102 hS (by simp [bI, hcx, c_1, c_2, c_3, eq_true c_4]) hP
      · skip
        have c_3 : (wiB wh 0 4) = false := bI_f c_3
        refine lv_iconst (v := (-1)) hx hb dX7_route_35 (by decide) ?_
        exact retWi (pe, pv, pt, pu) hx hb hr (rfl) hlocks dX7_route_36 hS (by simp [bI, c_1, c_2, c_3]) hP
theorem cal_X7_best : calV yX7_best cX7_best 7 (some .int) 1 := ⟨k_35_5, k_1_5, k_35_3, k_35_4, by decide +kernel⟩
set_option maxHeartbeats 4000000 in
set_option maxRecDepth 100000 in
theorem c_X7_best (l : Launch) (G : va_G) (E : EvT) (cI cZ : ClassId) (hN : Nat → Nat) (v : Int32) (o : Nat) (a_PO : Nat) (a_HO : Nat) (a_WA : Nat) (a_S : Nat) (a_K : Nat) (a_IK : Nat) (a_SV : Nat) (a_DR : Nat) (a_TX : Nat) (a_WY : Nat) (a_BE : Nat) (a_MO : Nat) (a_DY : Nat) (a_GA : Nat) (a_CA : Nat) (a_MT : Nat) (a_LW : Nat) (a_WK : Nat) (th : Int32) (tr : Int64) (td : Int32) (nx : Int32) (tk : Int32) (pc : Int32) (vl : Int32) (fa : Int32) (ff : Int32) (bf : Int32) (bm : Int32) (bl : Int32) (ng : Int32) (nc : Int32) (sl : Int32) (nw : Int32) (pe : Int32) (pv : Int32) (pt : Int32) (pu : Int32) (PO : Nat → Int32) (HO : Nat → Int32) (WA : Nat → Int32) (hho : ∀ j, HO j = nI (hN j)) (hle : ∀ j, hN j ≤ 12) : cWi (S := Int32 × Int32 × Int32 × Int32) l G E yX7_best cX7_best 7 (some .int) 5 [(cI, .int), (cZ, .boolean)] [.ref o, .int v] [(o, .inr (7, [.int th, .long tr, .ref a_S, .ref a_K, .ref a_IK, .ref a_SV, .ref a_DR, .ref a_TX, .int td, .int nx, .int tk, .int pc, .int vl, .int fa, .int ff, .ref a_WY, .ref a_BE, .int bf, .int bm, .int bl, .ref a_MO, .ref a_DY, .ref a_PO, .ref a_HO, .ref a_WA, .int ng, .ref a_GA, .int nc, .ref a_CA, .int sl, .ref a_MT, .ref a_LW, .int nw, .ref a_WK, .int pe, .int pv, .int pt, .int pu])), (a_PO, .inl (cI, 6, .inl PO)), (a_HO, .inl (cI, 8, .inl HO)), (a_WA, .inl (cI, 96, .inl WA))] (fun r _ => r = (if wiB v 0 1 then (if v = 0 then (bruM PO WA hN 21).1 else (bruM PO WA hN 21).2) else (-1))) (fun u => [(o, .inr (7, [.int 0, .long tr, .ref a_S, .ref a_K, .ref a_IK, .ref a_SV, .ref a_DR, .ref a_TX, .int td, .int nx, .int tk, .int pc, .int vl, .int fa, .int ff, .ref a_WY, .ref a_BE, .int bf, .int bm, .int bl, .ref a_MO, .ref a_DY, .ref a_PO, .ref a_HO, .ref a_WA, .int ng, .ref a_GA, .int nc, .ref a_CA, .int sl, .ref a_MT, .ref a_LW, .int nw, .ref a_WK, .int u.1, .int u.2.1, .int u.2.2.1, .int u.2.2.2])), (a_PO, .inl (cI, 6, .inl PO)), (a_HO, .inl (cI, 8, .inl HO)), (a_WA, .inl (cI, 96, .inl WA))]) := by
  refine mkWi (by decide) (Nat.le_of_ble_eq_true rfl) ?_
  intro zp ze s zm args below meth zc hx hb hr hml hown hts hlocks hE hK A hA hlow H locs hP hD hS ls hl
  have hl : lv_has ls 7 [(0, .ref o), (1, .int v)] := hl
  refine lv_aload_n hx hb dX7_best_0 rfl (lv_at hl 0 rfl) ?_
  refine lv_iconst (v := 0) hx hb dX7_best_1 (by decide) ?_
  refine va_put (D := G) (ci := 7) (v := .int 0) (ty := .int) (C := RX7) (T := TX7) (N := 38) hx hb hts inlX7 tyX7 tyX7_ok nmX7 hown hK hP hD hS 0 rfl rfl 0 (by decide) (hts (.fieldLink RX7 75 "EarthBanksModel" "thrown" "I") k_7_19) (fun _ h9 => h9) rfl (by decide +kernel) (rfl) (rfl) (Nat.le_of_ble_eq_true rfl) dX7_best_2 (fun H locs hP hD hS => ?_)
  have hP : va_P G vwCl [(o, .inr (7, [.int 0, .long tr, .ref a_S, .ref a_K, .ref a_IK, .ref a_SV, .ref a_DR, .ref a_TX, .int td, .int nx, .int tk, .int pc, .int vl, .int fa, .int ff, .ref a_WY, .ref a_BE, .int bf, .int bm, .int bl, .ref a_MO, .ref a_DY, .ref a_PO, .ref a_HO, .ref a_WA, .int ng, .ref a_GA, .int nc, .ref a_CA, .int sl, .ref a_MT, .ref a_LW, .int nw, .ref a_WK, .int pe, .int pv, .int pt, .int pu])), (a_PO, .inl (cI, 6, .inl PO)), (a_HO, .inl (cI, 8, .inl HO)), (a_WA, .inl (cI, 96, .inl WA))] H := hP
  have hD : va_D A [(o, .inr (7, [.int 0, .long tr, .ref a_S, .ref a_K, .ref a_IK, .ref a_SV, .ref a_DR, .ref a_TX, .int td, .int nx, .int tk, .int pc, .int vl, .int fa, .int ff, .ref a_WY, .ref a_BE, .int bf, .int bm, .int bl, .ref a_MO, .ref a_DY, .ref a_PO, .ref a_HO, .ref a_WA, .int ng, .ref a_GA, .int nc, .ref a_CA, .int sl, .ref a_MT, .ref a_LW, .int nw, .ref a_WK, .int pe, .int pv, .int pt, .int pu])), (a_PO, .inl (cI, 6, .inl PO)), (a_HO, .inl (cI, 8, .inl HO)), (a_WA, .inl (cI, 96, .inl WA))] := hD
  refine lv_iload_n hx hb dX7_best_5 rfl (lv_at hl 1 rfl) ?_
  refine lv_iconst (v := 0) hx hb dX7_best_6 (by decide) ?_
  refine lv_iconst (v := 1) hx hb dX7_best_7 (by decide) ?_
  refine cRS (As := [.int v, .int 0, .int 1]) (rest := []) hx hb hml hown hts (c_X7_in l G E cI cZ v 0 1) k_7_22 cal_X7_in ⟨Nat.le_of_ble_eq_true rfl, Nat.le_of_ble_eq_true rfl⟩ hE hlow hS hK [0, 1] rfl hP [] rfl rfl hl.1 rfl (Nat.le_of_ble_eq_true rfl) dX7_best_8 ⟨Nat.zero_le _, Nat.zero_le _⟩ ?_
  refine lv_if_ne (tgt := 16) hx hb dX7_best_11 (by decide) (fun c_1 => ?_) (fun c_1 => ?_)
  · skip
    have c_1 : (wiB v 0 1) = true := bI_t c_1
    refine lv_iconst (v := 0) hx hb dX7_best_16 (by decide) ?_
    refine lv_istore_n (lv' := [(2, .int 0), (0, .ref o), (1, .int v)]) hx hb dX7_best_17 rfl hl (by decide) rfl (fun ls hl => ?_)
    refine lv_iconst (v := (-1)) hx hb dX7_best_18 (by decide) ?_
    refine lv_istore_n (lv' := [(3, .int (-1)), (2, .int 0), (0, .ref o), (1, .int v)]) hx hb dX7_best_19 rfl hl (by decide) rfl (fun ls hl => ?_)
    refine lv_iconst (v := 0) hx hb dX7_best_20 (by decide) ?_
    refine lv_istore (lv' := [(4, .int 0), (3, .int (-1)), (2, .int 0), (0, .ref o), (1, .int v)]) hx hb dX7_best_21 hl (by decide) rfl (fun ls hl => ?_)
    suffices lp23 : ∀ zn k23 : Nat, ∀ (y1 : Int32) (y2 : Int32) (y3 : Int32) (y4 : Int32) , 0 ≤ k23 → k23 ≤ 21 → 21 < k23 + zn → ∀ (H : Heap) (locs : List Loc), va_P G vwCl [(o, .inr (7, [.int 0, .long tr, .ref a_S, .ref a_K, .ref a_IK, .ref a_SV, .ref a_DR, .ref a_TX, .int td, .int nx, .int tk, .int pc, .int vl, .int fa, .int ff, .ref a_WY, .ref a_BE, .int bf, .int bm, .int bl, .ref a_MO, .ref a_DY, .ref a_PO, .ref a_HO, .ref a_WA, .int ng, .ref a_GA, .int nc, .ref a_CA, .int sl, .ref a_MT, .ref a_LW, .int nw, .ref a_WK, .int y1, .int y2, .int y3, .int y4])), (a_PO, .inl (cI, 6, .inl PO)), (a_HO, .inl (cI, 8, .inl HO)), (a_WA, .inl (cI, 96, .inl WA))] H → va_D A [(o, .inr (7, [.int 0, .long tr, .ref a_S, .ref a_K, .ref a_IK, .ref a_SV, .ref a_DR, .ref a_TX, .int td, .int nx, .int tk, .int pc, .int vl, .int fa, .int ff, .ref a_WY, .ref a_BE, .int bf, .int bm, .int bl, .ref a_MO, .ref a_DY, .ref a_PO, .ref a_HO, .ref a_WA, .int ng, .ref a_GA, .int nc, .ref a_CA, .int sl, .ref a_MT, .ref a_LW, .int nw, .ref a_WK, .int y1, .int y2, .int y3, .int y4])), (a_PO, .inl (cI, 6, .inl PO)), (a_HO, .inl (cI, 8, .inl HO)), (a_WA, .inl (cI, 96, .inl WA))] → va_S A s.heap H locs → ∀ ls : Array Slot, lv_has ls 7 [(0, .ref o), (1, .int v), (2, .int ((bruM PO WA hN k23).1)), (3, .int ((bruM PO WA hN k23).2)), (4, .int (nI (100 * k23)))] → W zp l ze (rmK 5) s zm args below meth zc H locs 0 0 (MQ below (va_Qi (S := Int32 × Int32 × Int32 × Int32) (fun r _ => r = (if wiB v 0 1 then (if v = 0 then (bruM PO WA hN 21).1 else (bruM PO WA hN 21).2) else (-1))) (fun u t => va_P G vwCl ((fun u => [(o, .inr (7, [.int 0, .long tr, .ref a_S, .ref a_K, .ref a_IK, .ref a_SV, .ref a_DR, .ref a_TX, .int td, .int nx, .int tk, .int pc, .int vl, .int fa, .int ff, .ref a_WY, .ref a_BE, .int bf, .int bm, .int bl, .ref a_MO, .ref a_DY, .ref a_PO, .ref a_HO, .ref a_WA, .int ng, .ref a_GA, .int nc, .ref a_CA, .int sl, .ref a_MT, .ref a_LW, .int nw, .ref a_WK, .int u.1, .int u.2.1, .int u.2.2.1, .int u.2.2.2])), (a_PO, .inl (cI, 6, .inl PO)), (a_HO, .inl (cI, 8, .inl HO)), (a_WA, .inl (cI, 96, .inl WA))]) u) t.heap) A) args s 0 0 A) (F0 zm 23 ls []) by
      have el_2 : (0 : Int32) = (bruM PO WA hN 0).1 := rfl
      have el_3 : ((-1) : Int32) = (bruM PO WA hN 0).2 := rfl
      have el_4 : (0 : Int32) = nI (100 * 0) := rfl
      exact lp23 (21 + 1 - 0) 0 pe pv pt pu (by omega) (by omega) (by omega)  H locs hP hD hS ls (lv_sub hl [3, 4, 2, 1, 0] (show ([(0, .ref o), (1, .int v), (2, .int 0), (3, .int (-1)), (4, .int 0)] : List (Nat × Value)) = [(0, .ref o), (1, .int v), (2, .int ((bruM PO WA hN 0).1)), (3, .int ((bruM PO WA hN 0).2)), (4, .int (nI (100 * 0)))] by rw [← el_2, ← el_3, ← el_4]))
    intro zn
    induction zn with
    | zero => exact fun k23 y1 y2 y3 y4 h1 h2 h3 => absurd h3 (by omega)
    | succ zn ih23 =>
      intro k23 y1 y2 y3 y4 hlo23 hhi23 hn23  H locs hP hD hS ls hl
      refine lv_iload hx hb dX7_best_23 (lv_at hl 4 rfl) ?_
      refine lv_sipush (v := 2000) hx hb dX7_best_25 (by decide) ?_
      refine lv_icmp_gt (tgt := 103) hx hb dX7_best_28 (by decide) (fun c_5 => ?_) (fun c_5 => ?_)
      · skip
        have c_5 : 2000 < 100 * k23 := (nI_ltI (a := 2000) (b := 100 * k23) (by omega) (by omega)).mp c_5
        have hk9 : 21 = k23 := by omega
        subst hk9
        refine lv_iload_n hx hb dX7_best_103 rfl (lv_at hl 1 rfl) ?_
        refine lv_if_ne (tgt := 111) hx hb dX7_best_104 (by decide) (fun c_6 => ?_) (fun c_6 => ?_)
        · skip
          refine lv_iload_n hx hb dX7_best_111 rfl (lv_at hl 3 rfl) ?_
          exact retWi (y1, y2, y3, y4) hx hb hr (rfl) hlocks dX7_best_112 hS (by simp [c_1, c_5, c_6]) hP
        · skip
          refine lv_iload_n hx hb dX7_best_107 rfl (lv_at hl 2 rfl) ?_
          refine lv_goto (tgt := 112) hx hb dX7_best_108 (by decide) ?_
          exact retWi (y1, y2, y3, y4) hx hb hr (rfl) hlocks dX7_best_112 hS (by simp [c_1, c_5, eq_true c_6]) hP
      · skip
        have c_5 : ¬ 2000 < 100 * k23 := fun h9 => c_5 ((nI_ltI (a := 2000) (b := 100 * k23) (by omega) (by omega)).mpr h9)
        refine lv_iconst (v := 0) hx hb dX7_best_31 (by decide) ?_
        refine lv_istore (lv' := [(5, .int 0), (0, .ref o), (1, .int v), (2, .int ((bruM PO WA hN k23).1)), (3, .int ((bruM PO WA hN k23).2)), (4, .int (nI (100 * k23)))]) hx hb dX7_best_32 hl (by decide) rfl (fun ls hl => ?_)
        refine lv_iconst (v := 0) hx hb dX7_best_34 (by decide) ?_
        refine lv_istore (lv' := [(6, .int 0), (5, .int 0), (0, .ref o), (1, .int v), (2, .int ((bruM PO WA hN k23).1)), (3, .int ((bruM PO WA hN k23).2)), (4, .int (nI (100 * k23)))]) hx hb dX7_best_35 hl (by decide) rfl (fun ls hl => ?_)
        suffices lp37 : ∀ zn k37 : Nat, ∀ (z1 : Int32) (z2 : Int32) (z3 : Int32) (z4 : Int32) , 0 ≤ k37 → k37 ≤ 8 → 8 < k37 + zn → ∀ (H : Heap) (locs : List Loc), va_P G vwCl [(o, .inr (7, [.int 0, .long tr, .ref a_S, .ref a_K, .ref a_IK, .ref a_SV, .ref a_DR, .ref a_TX, .int td, .int nx, .int tk, .int pc, .int vl, .int fa, .int ff, .ref a_WY, .ref a_BE, .int bf, .int bm, .int bl, .ref a_MO, .ref a_DY, .ref a_PO, .ref a_HO, .ref a_WA, .int ng, .ref a_GA, .int nc, .ref a_CA, .int sl, .ref a_MT, .ref a_LW, .int nw, .ref a_WK, .int z1, .int z2, .int z3, .int z4])), (a_PO, .inl (cI, 6, .inl PO)), (a_HO, .inl (cI, 8, .inl HO)), (a_WA, .inl (cI, 96, .inl WA))] H → va_D A [(o, .inr (7, [.int 0, .long tr, .ref a_S, .ref a_K, .ref a_IK, .ref a_SV, .ref a_DR, .ref a_TX, .int td, .int nx, .int tk, .int pc, .int vl, .int fa, .int ff, .ref a_WY, .ref a_BE, .int bf, .int bm, .int bl, .ref a_MO, .ref a_DY, .ref a_PO, .ref a_HO, .ref a_WA, .int ng, .ref a_GA, .int nc, .ref a_CA, .int sl, .ref a_MT, .ref a_LW, .int nw, .ref a_WK, .int z1, .int z2, .int z3, .int z4])), (a_PO, .inl (cI, 6, .inl PO)), (a_HO, .inl (cI, 8, .inl HO)), (a_WA, .inl (cI, 96, .inl WA))] → va_S A s.heap H locs → ∀ ls : Array Slot, lv_has ls 7 [(0, .ref o), (1, .int v), (2, .int ((bruM PO WA hN k23).1)), (3, .int ((bruM PO WA hN k23).2)), (4, .int (nI (100 * k23))), (5, .int (cntS (sfM PO WA hN (nI (100 * k23))) k37)), (6, .int (nI k37))] → W zp l ze (rmK 5) s zm args below meth zc H locs 0 0 (MQ below (va_Qi (S := Int32 × Int32 × Int32 × Int32) (fun r _ => r = (if wiB v 0 1 then (if v = 0 then (bruM PO WA hN 21).1 else (bruM PO WA hN 21).2) else (-1))) (fun u t => va_P G vwCl ((fun u => [(o, .inr (7, [.int 0, .long tr, .ref a_S, .ref a_K, .ref a_IK, .ref a_SV, .ref a_DR, .ref a_TX, .int td, .int nx, .int tk, .int pc, .int vl, .int fa, .int ff, .ref a_WY, .ref a_BE, .int bf, .int bm, .int bl, .ref a_MO, .ref a_DY, .ref a_PO, .ref a_HO, .ref a_WA, .int ng, .ref a_GA, .int nc, .ref a_CA, .int sl, .ref a_MT, .ref a_LW, .int nw, .ref a_WK, .int u.1, .int u.2.1, .int u.2.2.1, .int u.2.2.2])), (a_PO, .inl (cI, 6, .inl PO)), (a_HO, .inl (cI, 8, .inl HO)), (a_WA, .inl (cI, 96, .inl WA))]) u) t.heap) A) args s 0 0 A) (F0 zm 37 ls []) by
          have el_7 : (0 : Int32) = cntS (sfM PO WA hN (nI (100 * k23))) 0 := rfl
          have el_8 : (0 : Int32) = nI 0 := rfl
          exact lp37 (8 + 1 - 0) 0 y1 y2 y3 y4 (by omega) (by omega) (by omega)  H locs hP hD hS ls (lv_sub hl [2, 3, 4, 5, 6, 1, 0] (show ([(0, .ref o), (1, .int v), (2, .int ((bruM PO WA hN k23).1)), (3, .int ((bruM PO WA hN k23).2)), (4, .int (nI (100 * k23))), (5, .int 0), (6, .int 0)] : List (Nat × Value)) = [(0, .ref o), (1, .int v), (2, .int ((bruM PO WA hN k23).1)), (3, .int ((bruM PO WA hN k23).2)), (4, .int (nI (100 * k23))), (5, .int (cntS (sfM PO WA hN (nI (100 * k23))) 0)), (6, .int (nI 0))] by rw [← el_7, ← el_8]))
        intro zn
        induction zn with
        | zero => exact fun k37 z1 z2 z3 z4 h1 h2 h3 => absurd h3 (by omega)
        | succ zn ih37 =>
          intro k37 z1 z2 z3 z4 hlo37 hhi37 hn37  H locs hP hD hS ls hl
          refine lv_iload hx hb dX7_best_37 (lv_at hl 6 rfl) ?_
          refine lv_bipush (v := 8) hx hb dX7_best_39 (by decide) ?_
          refine lv_icmp_ge (tgt := 71) hx hb dX7_best_41 (by decide) (fun c_9 => ?_) (fun c_9 => ?_)
          · skip
            have c_9 : 8 ≤ k37 := (nI_leI (a := 8) (b := k37) (by omega) (by omega)).mp c_9
            have hk9 : 8 = k37 := by omega
            subst hk9
            refine lv_iload hx hb dX7_best_71 (lv_at hl 5 rfl) ?_
            refine lv_iload_n hx hb dX7_best_73 rfl (lv_at hl 3 rfl) ?_
            refine lv_icmp_lt (tgt := 82) hx hb dX7_best_74 (by decide) (fun c_10 => ?_) (fun c_10 => ?_)
            · skip
              refine lv_iload_n hx hb dX7_best_82 rfl (lv_at hl 2 rfl) ?_
              refine lv_istore_n (lv' := [(2, .int ((bruM PO WA hN k23).1)), (0, .ref o), (1, .int v), (3, .int ((bruM PO WA hN k23).2)), (4, .int (nI (100 * k23))), (5, .int (cntS (sfM PO WA hN (nI (100 * k23))) 8)), (6, .int (nI 8))]) hx hb dX7_best_83 rfl hl (by decide) rfl (fun ls hl => ?_)
              refine lv_iload hx hb dX7_best_84 (lv_at hl 5 rfl) ?_
              refine lv_iload_n hx hb dX7_best_86 rfl (lv_at hl 3 rfl) ?_
              refine lv_icmp_lt (tgt := 95) hx hb dX7_best_87 (by decide) (fun c_11 => ?_) (fun c_11 => ?_)
              · skip
                refine lv_iload_n hx hb dX7_best_95 rfl (lv_at hl 3 rfl) ?_
                refine lv_istore_n (lv' := [(3, .int ((bruM PO WA hN k23).2)), (2, .int ((bruM PO WA hN k23).1)), (0, .ref o), (1, .int v), (4, .int (nI (100 * k23))), (5, .int (cntS (sfM PO WA hN (nI (100 * k23))) 8)), (6, .int (nI 8))]) hx hb dX7_best_96 rfl hl (by decide) rfl (fun ls hl => ?_)
                refine lv_iinc (v := nI (100 * k23 + 100)) (lv' := [(4, .int (nI (100 * k23 + 100))), (3, .int ((bruM PO WA hN k23).2)), (2, .int ((bruM PO WA hN k23).1)), (0, .ref o), (1, .int v), (5, .int (cntS (sfM PO WA hN (nI (100 * k23))) 8)), (6, .int (nI 8))]) hx hb dX7_best_97 hl (k := 4) rfl (nI_add _ _) (by decide) rfl (fun ls hl => ?_)
                refine lv_goto (tgt := 23) hx hb dX7_best_100 (by decide) ?_
                have el_12 : ((bruM PO WA hN k23).1 : Int32) = (bruM PO WA hN (k23 + 1)).1 := by rw [bruM_s]; simp [c_1, c_5, c_9, c_10, c_11]
                have el_13 : ((bruM PO WA hN k23).2 : Int32) = (bruM PO WA hN (k23 + 1)).2 := by rw [bruM_s]; simp [c_1, c_5, c_9, c_10, c_11]
                have el_14 : (nI (100 * k23 + 100) : Int32) = nI (100 * (k23 + 1)) := by congr 1 <;> omega
                exact ih23 (k23 + 1) z1 z2 z3 z4 (by omega) (by omega) (by omega)  H locs hP hD hS ls (lv_sub hl [3, 4, 2, 1, 0] (show ([(0, .ref o), (1, .int v), (2, .int ((bruM PO WA hN k23).1)), (3, .int ((bruM PO WA hN k23).2)), (4, .int (nI (100 * k23 + 100)))] : List (Nat × Value)) = [(0, .ref o), (1, .int v), (2, .int ((bruM PO WA hN (k23 + 1)).1)), (3, .int ((bruM PO WA hN (k23 + 1)).2)), (4, .int (nI (100 * (k23 + 1))))] by rw [← el_12, ← el_13, ← el_14]))
              · skip
                exact absurd c_10 c_11
            · skip
              refine lv_iload hx hb dX7_best_77 (lv_at hl 4 rfl) ?_
              refine lv_goto (tgt := 83) hx hb dX7_best_79 (by decide) ?_
              refine lv_istore_n (lv' := [(2, .int (nI (100 * k23))), (0, .ref o), (1, .int v), (3, .int ((bruM PO WA hN k23).2)), (4, .int (nI (100 * k23))), (5, .int (cntS (sfM PO WA hN (nI (100 * k23))) 8)), (6, .int (nI 8))]) hx hb dX7_best_83 rfl hl (by decide) rfl (fun ls hl => ?_)
              refine lv_iload hx hb dX7_best_84 (lv_at hl 5 rfl) ?_
              refine lv_iload_n hx hb dX7_best_86 rfl (lv_at hl 3 rfl) ?_
              refine lv_icmp_lt (tgt := 95) hx hb dX7_best_87 (by decide) (fun c_15 => ?_) (fun c_15 => ?_)
              · skip
                exact absurd c_15 c_10
              · skip
                refine lv_iload hx hb dX7_best_90 (lv_at hl 5 rfl) ?_
                refine lv_goto (tgt := 96) hx hb dX7_best_92 (by decide) ?_
                refine lv_istore_n (lv' := [(3, .int (cntS (sfM PO WA hN (nI (100 * k23))) 8)), (2, .int (nI (100 * k23))), (0, .ref o), (1, .int v), (4, .int (nI (100 * k23))), (5, .int (cntS (sfM PO WA hN (nI (100 * k23))) 8)), (6, .int (nI 8))]) hx hb dX7_best_96 rfl hl (by decide) rfl (fun ls hl => ?_)
                refine lv_iinc (v := nI (100 * k23 + 100)) (lv' := [(4, .int (nI (100 * k23 + 100))), (3, .int (cntS (sfM PO WA hN (nI (100 * k23))) 8)), (2, .int (nI (100 * k23))), (0, .ref o), (1, .int v), (5, .int (cntS (sfM PO WA hN (nI (100 * k23))) 8)), (6, .int (nI 8))]) hx hb dX7_best_97 hl (k := 4) rfl (nI_add _ _) (by decide) rfl (fun ls hl => ?_)
                refine lv_goto (tgt := 23) hx hb dX7_best_100 (by decide) ?_
                have el_16 : (nI (100 * k23) : Int32) = (bruM PO WA hN (k23 + 1)).1 := by rw [bruM_s]; simp [c_1, c_5, c_9, c_10, c_15]
                have el_17 : (cntS (sfM PO WA hN (nI (100 * k23))) 8 : Int32) = (bruM PO WA hN (k23 + 1)).2 := by rw [bruM_s]; simp [c_1, c_5, c_9, c_10, c_15]
                have el_18 : (nI (100 * k23 + 100) : Int32) = nI (100 * (k23 + 1)) := by congr 1 <;> omega
                exact ih23 (k23 + 1) z1 z2 z3 z4 (by omega) (by omega) (by omega)  H locs hP hD hS ls (lv_sub hl [3, 4, 2, 1, 0] (show ([(0, .ref o), (1, .int v), (2, .int (nI (100 * k23))), (3, .int (cntS (sfM PO WA hN (nI (100 * k23))) 8)), (4, .int (nI (100 * k23 + 100)))] : List (Nat × Value)) = [(0, .ref o), (1, .int v), (2, .int ((bruM PO WA hN (k23 + 1)).1)), (3, .int ((bruM PO WA hN (k23 + 1)).2)), (4, .int (nI (100 * (k23 + 1))))] by rw [← el_16, ← el_17, ← el_18]))
          · skip
            have c_9 : ¬ 8 ≤ k37 := fun h9 => c_9 ((nI_leI (a := 8) (b := k37) (by omega) (by omega)).mpr h9)
            refine lv_iload hx hb dX7_best_44 (lv_at hl 5 rfl) ?_
            refine lv_aload_n hx hb dX7_best_46 rfl (lv_at hl 0 rfl) ?_
            refine lv_iload hx hb dX7_best_47 (lv_at hl 6 rfl) ?_
            refine lv_iload hx hb dX7_best_49 (lv_at hl 4 rfl) ?_
            refine cWVi (As := [.int (nI k37), .int (nI (100 * k23))]) (rest := [.int (cntS (sfM PO WA hN (nI (100 * k23))) k37)]) hx hb hml hown hts (c_X7_isSafe l G E cI cZ hN k37 (nI (100 * k23)) o a_PO a_HO a_WA a_S a_K a_IK a_SV a_DR a_TX a_WY a_BE a_MO a_DY a_GA a_CA a_MT a_LW a_WK 0 tr td nx tk pc vl fa ff bf bm bl ng nc sl nw z1 z2 z3 z4 PO HO WA (by first | assumption | omega | simp [bI, c_1, c_5, c_9]) (hho) (hle)) k_34_8 cal_X7_isSafe ⟨Nat.le_of_ble_eq_true rfl, Nat.le_of_ble_eq_true rfl⟩ hE hA hlow hD hS hK [0, 1] rfl hP [0, 1, 2, 3] rfl (by decide) [o, a_PO, a_HO, a_WA] rfl (fun _ => rfl) [] [] (fun _ => [(o, .inr (7, [.int 0, .long tr, .ref a_S, .ref a_K, .ref a_IK, .ref a_SV, .ref a_DR, .ref a_TX, .int td, .int nx, .int tk, .int pc, .int vl, .int fa, .int ff, .ref a_WY, .ref a_BE, .int bf, .int bm, .int bl, .ref a_MO, .ref a_DY, .ref a_PO, .ref a_HO, .ref a_WA, .int ng, .ref a_GA, .int nc, .ref a_CA, .int sl, .ref a_MT, .ref a_LW, .int nw, .ref a_WK, .int ((hmR PO WA (nI (100 * k23)) k37 (hN k37)).1), .int ((hmR PO WA (nI (100 * k23)) k37 (hN k37)).2.1), .int ((hmR PO WA (nI (100 * k23)) k37 (hN k37)).2.2.1), .int ((hmR PO WA (nI (100 * k23)) k37 (hN k37)).2.2.2)])), (a_PO, .inl (cI, 6, .inl PO)), (a_HO, .inl (cI, 8, .inl HO)), (a_WA, .inl (cI, 96, .inl WA))]) 4 rfl (fun _ => rfl) (fun _ => rfl) (fun _ => rfl) (by decide) (by decide) 0 7 rfl rfl rfl hl.1 rfl (Nat.le_of_ble_eq_true rfl) dX7_best_51 ⟨Nat.zero_le _, Nat.zero_le _⟩ (fun r_ u H locs hr_ hP hD hS => ?_)
            subst hr_
            have hP : va_P G vwCl [(o, .inr (7, [.int 0, .long tr, .ref a_S, .ref a_K, .ref a_IK, .ref a_SV, .ref a_DR, .ref a_TX, .int td, .int nx, .int tk, .int pc, .int vl, .int fa, .int ff, .ref a_WY, .ref a_BE, .int bf, .int bm, .int bl, .ref a_MO, .ref a_DY, .ref a_PO, .ref a_HO, .ref a_WA, .int ng, .ref a_GA, .int nc, .ref a_CA, .int sl, .ref a_MT, .ref a_LW, .int nw, .ref a_WK, .int ((hmR PO WA (nI (100 * k23)) k37 (hN k37)).1), .int ((hmR PO WA (nI (100 * k23)) k37 (hN k37)).2.1), .int ((hmR PO WA (nI (100 * k23)) k37 (hN k37)).2.2.1), .int ((hmR PO WA (nI (100 * k23)) k37 (hN k37)).2.2.2)])), (a_PO, .inl (cI, 6, .inl PO)), (a_HO, .inl (cI, 8, .inl HO)), (a_WA, .inl (cI, 96, .inl WA))] H := hP
            have hD : va_D A [(o, .inr (7, [.int 0, .long tr, .ref a_S, .ref a_K, .ref a_IK, .ref a_SV, .ref a_DR, .ref a_TX, .int td, .int nx, .int tk, .int pc, .int vl, .int fa, .int ff, .ref a_WY, .ref a_BE, .int bf, .int bm, .int bl, .ref a_MO, .ref a_DY, .ref a_PO, .ref a_HO, .ref a_WA, .int ng, .ref a_GA, .int nc, .ref a_CA, .int sl, .ref a_MT, .ref a_LW, .int nw, .ref a_WK, .int ((hmR PO WA (nI (100 * k23)) k37 (hN k37)).1), .int ((hmR PO WA (nI (100 * k23)) k37 (hN k37)).2.1), .int ((hmR PO WA (nI (100 * k23)) k37 (hN k37)).2.2.1), .int ((hmR PO WA (nI (100 * k23)) k37 (hN k37)).2.2.2)])), (a_PO, .inl (cI, 6, .inl PO)), (a_HO, .inl (cI, 8, .inl HO)), (a_WA, .inl (cI, 96, .inl WA))] := hD
            refine lv_if_eq (tgt := 61) hx hb dX7_best_54 (by decide) (fun c_19 => ?_) (fun c_19 => ?_)
            · skip
              have c_19 : (sfM PO WA hN (nI (100 * k23)) k37) = false := bI_f c_19
              refine lv_iconst (v := 0) hx hb dX7_best_61 (by decide) ?_
              refine lv_iadd hx hb dX7_best_62 ?_
              refine lv_istore (lv' := [(5, .int ((cntS (sfM PO WA hN (nI (100 * k23))) k37) + 0)), (0, .ref o), (1, .int v), (2, .int ((bruM PO WA hN k23).1)), (3, .int ((bruM PO WA hN k23).2)), (4, .int (nI (100 * k23))), (6, .int (nI k37))]) hx hb dX7_best_63 hl (by decide) rfl (fun ls hl => ?_)
              refine lv_iinc (v := nI (k37 + 1)) (lv' := [(6, .int (nI (k37 + 1))), (5, .int ((cntS (sfM PO WA hN (nI (100 * k23))) k37) + 0)), (0, .ref o), (1, .int v), (2, .int ((bruM PO WA hN k23).1)), (3, .int ((bruM PO WA hN k23).2)), (4, .int (nI (100 * k23)))]) hx hb dX7_best_65 hl (k := 6) rfl (nI_add _ _) (by decide) rfl (fun ls hl => ?_)
              refine lv_goto (tgt := 37) hx hb dX7_best_68 (by decide) ?_
              have el_20 : (((cntS (sfM PO WA hN (nI (100 * k23))) k37) + 0) : Int32) = cntS (sfM PO WA hN (nI (100 * k23))) (k37 + 1) := by simp [cntS, c_1, c_5, c_9, c_19]
              have er_21 : ((hmR PO WA (nI (100 * k23)) k37 (hN k37)).1 : Int32) = ((hmR PO WA (nI (100 * k23)) k37 (hN k37)).1) := by simp [bI, c_1, c_5, c_9, c_19]
              have er_22 : ((hmR PO WA (nI (100 * k23)) k37 (hN k37)).2.1 : Int32) = ((hmR PO WA (nI (100 * k23)) k37 (hN k37)).2.1) := by simp [bI, c_1, c_5, c_9, c_19]
              have er_23 : ((hmR PO WA (nI (100 * k23)) k37 (hN k37)).2.2.1 : Int32) = ((hmR PO WA (nI (100 * k23)) k37 (hN k37)).2.2.1) := by simp [bI, c_1, c_5, c_9, c_19]
              have er_24 : ((hmR PO WA (nI (100 * k23)) k37 (hN k37)).2.2.2 : Int32) = ((hmR PO WA (nI (100 * k23)) k37 (hN k37)).2.2.2) := by simp [bI, c_1, c_5, c_9, c_19]
              exact ih37 (k37 + 1) ((hmR PO WA (nI (100 * k23)) k37 (hN k37)).1) ((hmR PO WA (nI (100 * k23)) k37 (hN k37)).2.1) ((hmR PO WA (nI (100 * k23)) k37 (hN k37)).2.2.1) ((hmR PO WA (nI (100 * k23)) k37 (hN k37)).2.2.2) (by omega) (by omega) (by omega)  H locs (by rw [← er_21, ← er_22, ← er_23, ← er_24]; exact hP) (by rw [← er_21, ← er_22, ← er_23, ← er_24]; exact hD) hS ls (lv_sub hl [2, 3, 4, 5, 6, 1, 0] (show ([(0, .ref o), (1, .int v), (2, .int ((bruM PO WA hN k23).1)), (3, .int ((bruM PO WA hN k23).2)), (4, .int (nI (100 * k23))), (5, .int ((cntS (sfM PO WA hN (nI (100 * k23))) k37) + 0)), (6, .int (nI (k37 + 1)))] : List (Nat × Value)) = [(0, .ref o), (1, .int v), (2, .int ((bruM PO WA hN k23).1)), (3, .int ((bruM PO WA hN k23).2)), (4, .int (nI (100 * k23))), (5, .int (cntS (sfM PO WA hN (nI (100 * k23))) (k37 + 1))), (6, .int (nI (k37 + 1)))] by rw [← el_20]))
            · skip
              have c_19 : (sfM PO WA hN (nI (100 * k23)) k37) = true := bI_t c_19
              refine lv_iconst (v := 1) hx hb dX7_best_57 (by decide) ?_
              refine lv_goto (tgt := 62) hx hb dX7_best_58 (by decide) ?_
              refine lv_iadd hx hb dX7_best_62 ?_
              refine lv_istore (lv' := [(5, .int ((cntS (sfM PO WA hN (nI (100 * k23))) k37) + 1)), (0, .ref o), (1, .int v), (2, .int ((bruM PO WA hN k23).1)), (3, .int ((bruM PO WA hN k23).2)), (4, .int (nI (100 * k23))), (6, .int (nI k37))]) hx hb dX7_best_63 hl (by decide) rfl (fun ls hl => ?_)
              refine lv_iinc (v := nI (k37 + 1)) (lv' := [(6, .int (nI (k37 + 1))), (5, .int ((cntS (sfM PO WA hN (nI (100 * k23))) k37) + 1)), (0, .ref o), (1, .int v), (2, .int ((bruM PO WA hN k23).1)), (3, .int ((bruM PO WA hN k23).2)), (4, .int (nI (100 * k23)))]) hx hb dX7_best_65 hl (k := 6) rfl (nI_add _ _) (by decide) rfl (fun ls hl => ?_)
              refine lv_goto (tgt := 37) hx hb dX7_best_68 (by decide) ?_
              have el_25 : (((cntS (sfM PO WA hN (nI (100 * k23))) k37) + 1) : Int32) = cntS (sfM PO WA hN (nI (100 * k23))) (k37 + 1) := by simp [cntS, c_1, c_5, c_9, c_19]
              have er_26 : ((hmR PO WA (nI (100 * k23)) k37 (hN k37)).1 : Int32) = ((hmR PO WA (nI (100 * k23)) k37 (hN k37)).1) := by simp [bI, c_1, c_5, c_9, c_19]
              have er_27 : ((hmR PO WA (nI (100 * k23)) k37 (hN k37)).2.1 : Int32) = ((hmR PO WA (nI (100 * k23)) k37 (hN k37)).2.1) := by simp [bI, c_1, c_5, c_9, c_19]
              have er_28 : ((hmR PO WA (nI (100 * k23)) k37 (hN k37)).2.2.1 : Int32) = ((hmR PO WA (nI (100 * k23)) k37 (hN k37)).2.2.1) := by simp [bI, c_1, c_5, c_9, c_19]
              have er_29 : ((hmR PO WA (nI (100 * k23)) k37 (hN k37)).2.2.2 : Int32) = ((hmR PO WA (nI (100 * k23)) k37 (hN k37)).2.2.2) := by simp [bI, c_1, c_5, c_9, c_19]
              exact ih37 (k37 + 1) ((hmR PO WA (nI (100 * k23)) k37 (hN k37)).1) ((hmR PO WA (nI (100 * k23)) k37 (hN k37)).2.1) ((hmR PO WA (nI (100 * k23)) k37 (hN k37)).2.2.1) ((hmR PO WA (nI (100 * k23)) k37 (hN k37)).2.2.2) (by omega) (by omega) (by omega)  H locs (by rw [← er_26, ← er_27, ← er_28, ← er_29]; exact hP) (by rw [← er_26, ← er_27, ← er_28, ← er_29]; exact hD) hS ls (lv_sub hl [2, 3, 4, 5, 6, 1, 0] (show ([(0, .ref o), (1, .int v), (2, .int ((bruM PO WA hN k23).1)), (3, .int ((bruM PO WA hN k23).2)), (4, .int (nI (100 * k23))), (5, .int ((cntS (sfM PO WA hN (nI (100 * k23))) k37) + 1)), (6, .int (nI (k37 + 1)))] : List (Nat × Value)) = [(0, .ref o), (1, .int v), (2, .int ((bruM PO WA hN k23).1)), (3, .int ((bruM PO WA hN k23).2)), (4, .int (nI (100 * k23))), (5, .int (cntS (sfM PO WA hN (nI (100 * k23))) (k37 + 1))), (6, .int (nI (k37 + 1)))] by rw [← el_25]))
  · skip
    have c_1 : (wiB v 0 1) = false := bI_f c_1
    refine lv_iconst (v := (-1)) hx hb dX7_best_14 (by decide) ?_
    exact retWi (pe, pv, pt, pu) hx hb hr (rfl) hlocks dX7_best_15 hS (by simp [c_1]) hP
theorem cal_X7_nothing : calV yX7_nothing cX7_nothing 2 none 0 := ⟨k_26_20, k_1_5, k_26_18, k_26_19, by decide +kernel⟩
set_option maxHeartbeats 4000000 in
set_option maxRecDepth 100000 in
theorem c_X7_nothing (l : Launch) (G : va_G) (E : EvT) (cI cZ : ClassId) (o : Nat) (a_MO : Nat) (a_DY : Nat) (fs_o : List Value) (h_o_DY : fs_o[21]? = some (.ref a_DY)) (h_o_MO : fs_o[20]? = some (.ref a_MO)) (MO : Nat → Int32) (DY : Nat → Int32) : cWv (S := Unit) l G E yX7_nothing cX7_nothing 2 none 1 [(cI, .int), (cZ, .boolean)] [.ref o] [(o, .inr (7, fs_o)), (a_MO, .inl (cI, 8, .inl MO)), (a_DY, .inl (cZ, 48, .inl DY))] (fun _ => True) (fun _ => [(o, .inr (7, fs_o)), (a_MO, .inl (cI, 8, .inl (fun _ => 0))), (a_DY, .inl (cZ, 48, .inl (fun _ => 0)))]) := by
  refine mkWv (by decide) (Nat.le_of_ble_eq_true rfl) ?_
  intro zp ze s zm args below meth zc hx hb hr hml hown hts hlocks hE hK A hA hlow H locs hP hD hS ls hl
  have hl : lv_has ls 2 [(0, .ref o)] := hl
  refine lv_iconst (v := 0) hx hb dX7_nothing_0 (by decide) ?_
  refine lv_istore_n (lv' := [(1, .int 0), (0, .ref o)]) hx hb dX7_nothing_1 rfl hl (by decide) rfl (fun ls hl => ?_)
  suffices lp2 : ∀ zn k2 : Nat, 0 ≤ k2 → k2 ≤ 8 → 8 < k2 + zn → ∀ (H : Heap) (locs : List Loc), va_P G vwCl [(o, .inr (7, fs_o)), (a_MO, .inl (cI, 8, .inl (filS (fun _ => 0) MO k2))), (a_DY, .inl (cZ, 48, .inl DY))] H → va_D A [(o, .inr (7, fs_o)), (a_MO, .inl (cI, 8, .inl (filS (fun _ => 0) MO k2))), (a_DY, .inl (cZ, 48, .inl DY))] → va_S A s.heap H locs → ∀ ls : Array Slot, lv_has ls 2 [(0, .ref o), (1, .int (nI k2))] → W zp l ze (rmK 1) s zm args below meth zc H locs 0 0 (MQ below (va_Qv (S := Unit) (fun _ => True) (fun u t => va_P G vwCl ((fun _ => [(o, .inr (7, fs_o)), (a_MO, .inl (cI, 8, .inl (fun _ => 0))), (a_DY, .inl (cZ, 48, .inl (fun _ => 0)))]) u) t.heap) A) args s 0 0 A) (F0 zm 2 ls []) by
    have el_1 : (0 : Int32) = nI 0 := rfl
    have er_2 : MO = (filS (fun _ => 0) MO 0) := by rw [filS_0]
    exact lp2 (8 + 1 - 0) 0 (by omega) (by omega) (by omega)  H locs (by rw [← er_2]; exact hP) (by rw [← er_2]; exact hD) hS ls (lv_sub hl [1, 0] (show ([(0, .ref o), (1, .int 0)] : List (Nat × Value)) = [(0, .ref o), (1, .int (nI 0))] by rw [← el_1]))
  intro zn
  induction zn with
  | zero => exact fun k2 h1 h2 h3 => absurd h3 (by omega)
  | succ zn ih2 =>
    intro k2 hlo2 hhi2 hn2  H locs hP hD hS ls hl
    refine lv_iload_n hx hb dX7_nothing_2 rfl (lv_at hl 1 rfl) ?_
    refine lv_bipush (v := 8) hx hb dX7_nothing_3 (by decide) ?_
    refine lv_icmp_ge (tgt := 21) hx hb dX7_nothing_5 (by decide) (fun c_3 => ?_) (fun c_3 => ?_)
    · skip
      have c_3 : 8 ≤ k2 := (nI_leI (a := 8) (b := k2) (by omega) (by omega)).mp c_3
      have hk9 : 8 = k2 := by omega
      subst hk9
      refine lv_iconst (v := 0) hx hb dX7_nothing_21 (by decide) ?_
      refine lv_istore_n (lv' := [(1, .int 0), (0, .ref o)]) hx hb dX7_nothing_22 rfl hl (by decide) rfl (fun ls hl => ?_)
      suffices lp23 : ∀ zn k23 : Nat, 0 ≤ k23 → k23 ≤ 48 → 48 < k23 + zn → ∀ (H : Heap) (locs : List Loc), va_P G vwCl [(o, .inr (7, fs_o)), (a_MO, .inl (cI, 8, .inl (filS (fun _ => 0) MO 8))), (a_DY, .inl (cZ, 48, .inl (filS (fun _ => 0) DY k23)))] H → va_D A [(o, .inr (7, fs_o)), (a_MO, .inl (cI, 8, .inl (filS (fun _ => 0) MO 8))), (a_DY, .inl (cZ, 48, .inl (filS (fun _ => 0) DY k23)))] → va_S A s.heap H locs → ∀ ls : Array Slot, lv_has ls 2 [(0, .ref o), (1, .int (nI k23))] → W zp l ze (rmK 1) s zm args below meth zc H locs 0 0 (MQ below (va_Qv (S := Unit) (fun _ => True) (fun u t => va_P G vwCl ((fun _ => [(o, .inr (7, fs_o)), (a_MO, .inl (cI, 8, .inl (fun _ => 0))), (a_DY, .inl (cZ, 48, .inl (fun _ => 0)))]) u) t.heap) A) args s 0 0 A) (F0 zm 23 ls []) by
        have el_4 : (0 : Int32) = nI 0 := rfl
        have er_5 : DY = (filS (fun _ => 0) DY 0) := by rw [filS_0]
        exact lp23 (48 + 1 - 0) 0 (by omega) (by omega) (by omega)  H locs (by rw [← er_5]; exact hP) (by rw [← er_5]; exact hD) hS ls (lv_sub hl [1, 0] (show ([(0, .ref o), (1, .int 0)] : List (Nat × Value)) = [(0, .ref o), (1, .int (nI 0))] by rw [← el_4]))
      intro zn
      induction zn with
      | zero => exact fun k23 h1 h2 h3 => absurd h3 (by omega)
      | succ zn ih23 =>
        intro k23 hlo23 hhi23 hn23  H locs hP hD hS ls hl
        refine lv_iload_n hx hb dX7_nothing_23 rfl (lv_at hl 1 rfl) ?_
        refine lv_bipush (v := 48) hx hb dX7_nothing_24 (by decide) ?_
        refine lv_icmp_ge (tgt := 42) hx hb dX7_nothing_26 (by decide) (fun c_6 => ?_) (fun c_6 => ?_)
        · skip
          have c_6 : 48 ≤ k23 := (nI_leI (a := 48) (b := k23) (by omega) (by omega)).mp c_6
          have hk9 : 48 = k23 := by omega
          subst hk9
          have hP := P_swap hP 1 (fun _ => 0) rfl (fun k h9 => filS_in h9)
          have hP : va_P G vwCl [(o, .inr (7, fs_o)), (a_MO, .inl (cI, 8, .inl (fun _ => 0))), (a_DY, .inl (cZ, 48, .inl (filS (fun _ => 0) DY 48)))] H := hP
          have hP := P_swap hP 2 (fun _ => 0) rfl (fun k h9 => filS_in h9)
          have hP : va_P G vwCl [(o, .inr (7, fs_o)), (a_MO, .inl (cI, 8, .inl (fun _ => 0))), (a_DY, .inl (cZ, 48, .inl (fun _ => 0)))] H := hP
          exact retWv () hx hb hr hlocks dX7_nothing_42 hS (trivial) hP
        · skip
          have c_6 : ¬ 48 ≤ k23 := fun h9 => c_6 ((nI_leI (a := 48) (b := k23) (by omega) (by omega)).mpr h9)
          refine lv_aload_n hx hb dX7_nothing_29 rfl (lv_at hl 0 rfl) ?_
          refine va_get (D := G) (ci := 7) (v := .ref a_DY) (C := RX7) (T := TX7) (N := 38) hx hb hts inlX7 hown hK hP 0 rfl rfl 21 (by decide) (hts (.fieldLink RX7 42 "EarthBanksModel" "isDry" "[Z") k_6_13) (fun _ h9 => h9) h_o_DY dX7_nothing_30 ?_
          refine lv_iload_n hx hb dX7_nothing_33 rfl (lv_at hl 1 rfl) ?_
          refine lv_iconst (v := 0) hx hb dX7_nothing_34 (by decide) ?_
          refine zastN (j := k23) hx hb hK hP hD hS 2 1 rfl rfl (by omega) (by decide) (by decide) dX7_nothing_35 (fun H locs hP hD hS => ?_)
          have hP : va_P G vwCl [(o, .inr (7, fs_o)), (a_MO, .inl (cI, 8, .inl (filS (fun _ => 0) MO 8))), (a_DY, .inl (cZ, 48, .inl (upd (filS (fun _ => 0) DY k23) k23 0)))] H := hP
          have hD : va_D A [(o, .inr (7, fs_o)), (a_MO, .inl (cI, 8, .inl (filS (fun _ => 0) MO 8))), (a_DY, .inl (cZ, 48, .inl (upd (filS (fun _ => 0) DY k23) k23 0)))] := hD
          refine lv_iinc (v := nI (k23 + 1)) (lv' := [(1, .int (nI (k23 + 1))), (0, .ref o)]) hx hb dX7_nothing_36 hl (k := 1) rfl (nI_add _ _) (by decide) rfl (fun ls hl => ?_)
          refine lv_goto (tgt := 23) hx hb dX7_nothing_39 (by decide) ?_
          have er_7 : (upd (filS (fun _ => 0) DY k23) k23 0) = (filS (fun _ => 0) DY (k23 + 1)) := by rw [filS_s _ _ _ _ rfl]
          exact ih23 (k23 + 1) (by omega) (by omega) (by omega)  H locs (by rw [← er_7]; exact hP) (by rw [← er_7]; exact hD) hS ls (lv_sub hl [1, 0] rfl)
    · skip
      have c_3 : ¬ 8 ≤ k2 := fun h9 => c_3 ((nI_leI (a := 8) (b := k2) (by omega) (by omega)).mpr h9)
      refine lv_aload_n hx hb dX7_nothing_8 rfl (lv_at hl 0 rfl) ?_
      refine va_get (D := G) (ci := 7) (v := .ref a_MO) (C := RX7) (T := TX7) (N := 38) hx hb hts inlX7 hown hK hP 0 rfl rfl 20 (by decide) (hts (.fieldLink RX7 39 "EarthBanksModel" "more" "[I") k_6_12) (fun _ h9 => h9) h_o_MO dX7_nothing_9 ?_
      refine lv_iload_n hx hb dX7_nothing_12 rfl (lv_at hl 1 rfl) ?_
      refine lv_iconst (v := 0) hx hb dX7_nothing_13 (by decide) ?_
      refine iastN (j := k2) hx hb hK hP hD hS 1 0 rfl rfl (by omega) (by decide) dX7_nothing_14 (fun H locs hP hD hS => ?_)
      have hP : va_P G vwCl [(o, .inr (7, fs_o)), (a_MO, .inl (cI, 8, .inl (upd (filS (fun _ => 0) MO k2) k2 0))), (a_DY, .inl (cZ, 48, .inl DY))] H := hP
      have hD : va_D A [(o, .inr (7, fs_o)), (a_MO, .inl (cI, 8, .inl (upd (filS (fun _ => 0) MO k2) k2 0))), (a_DY, .inl (cZ, 48, .inl DY))] := hD
      refine lv_iinc (v := nI (k2 + 1)) (lv' := [(1, .int (nI (k2 + 1))), (0, .ref o)]) hx hb dX7_nothing_15 hl (k := 1) rfl (nI_add _ _) (by decide) rfl (fun ls hl => ?_)
      refine lv_goto (tgt := 2) hx hb dX7_nothing_18 (by decide) ?_
      have er_8 : (upd (filS (fun _ => 0) MO k2) k2 0) = (filS (fun _ => 0) MO (k2 + 1)) := by rw [filS_s _ _ _ _ rfl]
      exact ih2 (k2 + 1) (by omega) (by omega) (by omega)  H locs (by rw [← er_8]; exact hP) (by rw [← er_8]; exact hD) hS ls (lv_sub hl [1, 0] rfl)
