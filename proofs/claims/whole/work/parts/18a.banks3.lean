theorem nge2 {x : Int32} (h : 2 ≤ x) : ¬ x < 2 := fun q => by
  rw [Int32.le_iff_toInt_le] at h
  rw [Int32.lt_iff_toInt_lt] at q
  omega
theorem lt2_of {x : Int32} (h : ¬ 2 ≤ x) : x < 2 := by
  rw [Int32.le_iff_toInt_le] at h
  rw [Int32.lt_iff_toInt_lt]
  omega
/-- how far apart at the place -/
def apS (r : Option Nat) (lw gh : Nat → Int32) : Int32 := match r with
  | none => -9
  | some q => gh q - lw q
theorem cal_X6_imageOf : calV yX6_imageOf cX6_imageOf 2 (some (.object "EarthBanks$Slice")) 1 := ⟨k_40_22, k_1_2, k_40_20, k_40_21, by decide +kernel⟩
set_option maxHeartbeats 4000000 in
set_option maxRecDepth 100000 in
theorem c_X6_imageOf_0 (l : Launch) (G : va_G) (E : EvT) (cI cZ : ClassId) (o a_i : Nat) (fs : List Value) (h : fs[3]? = some (.ref a_i)) : cRa l G E yX6_imageOf cX6_imageOf 2 (some (.object "EarthBanks$Slice")) 1 [(cI, .int), (cZ, .boolean)] [.ref o, .int 0] [(o, .inr (6, fs))] a_i := by
  refine mkRa (by decide) (Nat.le_of_ble_eq_true rfl) ?_
  intro zp ze s zm args below meth zc hx hb hr hml hown hts hlocks hE hP hK ls hl
  have hl : lv_has ls 2 [(0, .ref o), (1, .int 0)] := hl
  refine lv_iload_n hx hb dX6_imageOf_0 rfl (lv_at hl 1 rfl) ?_
  refine lv_if_ne (tgt := 11) hx hb dX6_imageOf_1 (by decide) (fun c_1 => absurd rfl c_1) (fun c_1 => ?_)
  refine lv_aload_n hx hb dX6_imageOf_4 rfl (lv_at hl 0 rfl) ?_
  refine va_get (D := G) (ci := 6) (v := .ref a_i) (C := RX6) (T := TX6) (N := 12) hx hb hts inlX6 hown hK hP 0 rfl rfl 3 (by decide) (hts (.fieldLink RX6 26 "EarthBanks" "firstImage" "LEarthBanks$Slice;") k_1_22) (fun _ h9 => h9) h dX6_imageOf_5 ?_
  refine lv_goto (tgt := 15) hx hb dX6_imageOf_8 (by decide) ?_
  exact retRa hx hb hr (Or.inl ⟨_, rfl⟩) hlocks dX6_imageOf_15
set_option maxHeartbeats 4000000 in
set_option maxRecDepth 100000 in
theorem c_X6_imageOf_1 (l : Launch) (G : va_G) (E : EvT) (cI cZ : ClassId) (o a_j : Nat) (fs : List Value) (h : fs[4]? = some (.ref a_j)) : cRa l G E yX6_imageOf cX6_imageOf 2 (some (.object "EarthBanks$Slice")) 1 [(cI, .int), (cZ, .boolean)] [.ref o, .int 1] [(o, .inr (6, fs))] a_j := by
  refine mkRa (by decide) (Nat.le_of_ble_eq_true rfl) ?_
  intro zp ze s zm args below meth zc hx hb hr hml hown hts hlocks hE hP hK ls hl
  have hl : lv_has ls 2 [(0, .ref o), (1, .int 1)] := hl
  refine lv_iload_n hx hb dX6_imageOf_0 rfl (lv_at hl 1 rfl) ?_
  refine lv_if_ne (tgt := 11) hx hb dX6_imageOf_1 (by decide) (fun c_1 => ?_) (fun c_1 => absurd c_1 (by decide))
  refine lv_aload_n hx hb dX6_imageOf_11 rfl (lv_at hl 0 rfl) ?_
  refine va_get (D := G) (ci := 6) (v := .ref a_j) (C := RX6) (T := TX6) (N := 12) hx hb hts inlX6 hown hK hP 0 rfl rfl 4 (by decide) (hts (.fieldLink RX6 29 "EarthBanks" "secondImage" "LEarthBanks$Slice;") k_1_23) (fun _ h9 => h9) h dX6_imageOf_12 ?_
  exact retRa hx hb hr (Or.inl ⟨_, rfl⟩) hlocks dX6_imageOf_15
theorem cal_J6_bitCount_0f7a4 : calS yJ6_bitCount_0f7a4 cJ6_bitCount_0f7a4 1 (some .int) 1 := ⟨k_38_11, k_38_10, k_38_9, by decide +kernel⟩
set_option maxHeartbeats 4000000 in
set_option maxRecDepth 100000 in
theorem c_J6_bitCount_0f7a4 (l : Launch) (G : va_G) (E : EvT) (cI cZ : ClassId) (v : Int32) : cR l G E yJ6_bitCount_0f7a4 cJ6_bitCount_0f7a4 1 (some .int) 1 [(cI, .int), (cZ, .boolean)] [.int v] [] (bcS v) := by
  refine mkR (by decide) (Nat.le_of_ble_eq_true rfl) ?_
  intro zp ze s zm args below meth zc hx hb hr hml hown hts hlocks hE hP hK ls hl
  have hS : va_S (fun _ => False) s.heap s.heap [] := va_S.rf
  have hlow : ∀ q : Nat, (fun _ : Nat => False) q → E.1 ≤ q := fun _ h => h.elim
  have hl : lv_has ls 1 [(0, .int v)] := hl
  refine lv_iload_n hx hb dJ6_bitCount_0f7a4_0 rfl (lv_at hl 0 rfl) ?_
  refine lv_iload_n hx hb dJ6_bitCount_0f7a4_1 rfl (lv_at hl 0 rfl) ?_
  refine lv_iconst (v := 1) hx hb dJ6_bitCount_0f7a4_2 (by decide) ?_
  refine lv_iushr (v := (v.toUInt32 >>> ((1 : Int32).toUInt32 &&& Int32.toUInt32 31)).toInt32) hx hb dJ6_bitCount_0f7a4_3 rfl ?_
  refine lv_ldcw (own := RJ6) (index := 265) (v := 1431655765) hx hb hown (hts _ k_38_12) dJ6_bitCount_0f7a4_4 ?_
  refine lv_iand hx hb dJ6_bitCount_0f7a4_7 ?_
  refine lv_isub hx hb dJ6_bitCount_0f7a4_8 ?_
  refine top_eq (y := (bc1 v)) (rfl) ?_
  refine lv_istore_n (lv' := [(0, .int (bc1 v))]) hx hb dJ6_bitCount_0f7a4_9 rfl hl (by decide) rfl (fun ls hl => ?_)
  refine lv_iload_n hx hb dJ6_bitCount_0f7a4_10 rfl (lv_at hl 0 rfl) ?_
  refine lv_ldcw (own := RJ6) (index := 266) (v := 858993459) hx hb hown (hts _ k_38_13) dJ6_bitCount_0f7a4_11 ?_
  refine lv_iand hx hb dJ6_bitCount_0f7a4_14 ?_
  refine lv_iload_n hx hb dJ6_bitCount_0f7a4_15 rfl (lv_at hl 0 rfl) ?_
  refine lv_iconst (v := 2) hx hb dJ6_bitCount_0f7a4_16 (by decide) ?_
  refine lv_iushr (v := ((bc1 v).toUInt32 >>> ((2 : Int32).toUInt32 &&& Int32.toUInt32 31)).toInt32) hx hb dJ6_bitCount_0f7a4_17 rfl ?_
  refine lv_ldcw (own := RJ6) (index := 266) (v := 858993459) hx hb hown (hts _ k_38_13) dJ6_bitCount_0f7a4_18 ?_
  refine lv_iand hx hb dJ6_bitCount_0f7a4_21 ?_
  refine lv_iadd hx hb dJ6_bitCount_0f7a4_22 ?_
  refine top_eq (y := (bc2 (bc1 v))) (rfl) ?_
  refine lv_istore_n (lv' := [(0, .int (bc2 (bc1 v)))]) hx hb dJ6_bitCount_0f7a4_23 rfl hl (by decide) rfl (fun ls hl => ?_)
  refine lv_iload_n hx hb dJ6_bitCount_0f7a4_24 rfl (lv_at hl 0 rfl) ?_
  refine lv_iload_n hx hb dJ6_bitCount_0f7a4_25 rfl (lv_at hl 0 rfl) ?_
  refine lv_iconst (v := 4) hx hb dJ6_bitCount_0f7a4_26 (by decide) ?_
  refine lv_iushr (v := ((bc2 (bc1 v)).toUInt32 >>> ((4 : Int32).toUInt32 &&& Int32.toUInt32 31)).toInt32) hx hb dJ6_bitCount_0f7a4_27 rfl ?_
  refine lv_iadd hx hb dJ6_bitCount_0f7a4_28 ?_
  refine lv_ldcw (own := RJ6) (index := 267) (v := 252645135) hx hb hown (hts _ k_38_14) dJ6_bitCount_0f7a4_29 ?_
  refine lv_iand hx hb dJ6_bitCount_0f7a4_32 ?_
  refine top_eq (y := (bc3 (bc2 (bc1 v)))) (rfl) ?_
  refine lv_istore_n (lv' := [(0, .int (bc3 (bc2 (bc1 v))))]) hx hb dJ6_bitCount_0f7a4_33 rfl hl (by decide) rfl (fun ls hl => ?_)
  refine lv_iload_n hx hb dJ6_bitCount_0f7a4_34 rfl (lv_at hl 0 rfl) ?_
  refine lv_iload_n hx hb dJ6_bitCount_0f7a4_35 rfl (lv_at hl 0 rfl) ?_
  refine lv_bipush (v := 8) hx hb dJ6_bitCount_0f7a4_36 (by decide) ?_
  refine lv_iushr (v := ((bc3 (bc2 (bc1 v))).toUInt32 >>> ((8 : Int32).toUInt32 &&& Int32.toUInt32 31)).toInt32) hx hb dJ6_bitCount_0f7a4_38 rfl ?_
  refine lv_iadd hx hb dJ6_bitCount_0f7a4_39 ?_
  refine top_eq (y := (bc4 (bc3 (bc2 (bc1 v))))) (rfl) ?_
  refine lv_istore_n (lv' := [(0, .int (bc4 (bc3 (bc2 (bc1 v)))))]) hx hb dJ6_bitCount_0f7a4_40 rfl hl (by decide) rfl (fun ls hl => ?_)
  refine lv_iload_n hx hb dJ6_bitCount_0f7a4_41 rfl (lv_at hl 0 rfl) ?_
  refine lv_iload_n hx hb dJ6_bitCount_0f7a4_42 rfl (lv_at hl 0 rfl) ?_
  refine lv_bipush (v := 16) hx hb dJ6_bitCount_0f7a4_43 (by decide) ?_
  refine lv_iushr (v := ((bc4 (bc3 (bc2 (bc1 v)))).toUInt32 >>> ((16 : Int32).toUInt32 &&& Int32.toUInt32 31)).toInt32) hx hb dJ6_bitCount_0f7a4_45 rfl ?_
  refine lv_iadd hx hb dJ6_bitCount_0f7a4_46 ?_
  refine top_eq (y := (bc5 (bc4 (bc3 (bc2 (bc1 v)))))) (rfl) ?_
  refine lv_istore_n (lv' := [(0, .int (bc5 (bc4 (bc3 (bc2 (bc1 v))))))]) hx hb dJ6_bitCount_0f7a4_47 rfl hl (by decide) rfl (fun ls hl => ?_)
  refine lv_iload_n hx hb dJ6_bitCount_0f7a4_48 rfl (lv_at hl 0 rfl) ?_
  refine lv_bipush (v := 63) hx hb dJ6_bitCount_0f7a4_49 (by decide) ?_
  refine lv_iand hx hb dJ6_bitCount_0f7a4_51 ?_
  exact retR hx hb hr (rfl) hlocks dJ6_bitCount_0f7a4_52 (rfl)
theorem cal_X6_route : calV yX6_route cX6_route 4 (some .int) 3 := ⟨k_33_5, k_1_2, k_33_3, k_33_4, by decide +kernel⟩
set_option maxHeartbeats 4000000 in
set_option maxRecDepth 100000 in
theorem c_X6_route (l : Launch) (G : va_G) (E : EvT) (cI cZ : ClassId) (hN : Nat → Nat) (x : Int32) (v : Int32) (wh : Int32) (o : Nat) (a_r : Nat) (a_r_se : Nat) (a_r_wa : Nat) (a_r_ho : Nat) (fs_o : List Value) (h_o_r : fs_o[8]? = some (.ref a_r)) (r_wt : Int32) (r_ov : Int32) (r_tn : Int32) (r_lo : Int32) (r_se : Nat → Int32) (r_wa : Nat → Int32) (r_ho : Nat → Int32) (hho : ∀ j, r_ho j = nI (hN j)) (hle : ∀ j, hN j ≤ 12) : cWi (S := Int32 × Int32 × Int32 × Int32) l G E yX6_route cX6_route 4 (some .int) 5 [(cI, .int), (cZ, .boolean)] [.ref o, .int x, .int v, .int wh] [(o, .inr (6, fs_o)), (a_r, .inr (1, [.ref a_r_se, .ref a_r_wa, .ref a_r_ho, .int r_wt, .int r_ov, .int r_tn, .int r_lo])), (a_r_se, .inl (cI, 6, .inl r_se)), (a_r_wa, .inl (cI, 96, .inl r_wa)), (a_r_ho, .inl (cI, 8, .inl r_ho))] (fun r _ => r = (if wiB x 0 7 && (wiB v 0 9999 && wiB wh 0 4) then (if wh = 0 then (hrR r_se r_wa v x.toNatClampNeg (hN x.toNatClampNeg)).1 else if wh = 1 then (hrR r_se r_wa v x.toNatClampNeg (hN x.toNatClampNeg)).2.1 else if wh = 2 then (hrR r_se r_wa v x.toNatClampNeg (hN x.toNatClampNeg)).2.2.1 else if wh = 3 then bI (sfS r_se r_wa hN v x.toNatClampNeg) else (hrR r_se r_wa v x.toNatClampNeg (hN x.toNatClampNeg)).2.2.2) else (-1))) (fun u => [(o, .inr (6, fs_o)), (a_r, .inr (1, [.ref a_r_se, .ref a_r_wa, .ref a_r_ho, .int u.1, .int u.2.1, .int u.2.2.1, .int u.2.2.2])), (a_r_se, .inl (cI, 6, .inl r_se)), (a_r_wa, .inl (cI, 96, .inl r_wa)), (a_r_ho, .inl (cI, 8, .inl r_ho))]) := by
  refine mkWi (by decide) (Nat.le_of_ble_eq_true rfl) ?_
  intro zp ze s zm args below meth zc hx hb hr hml hown hts hlocks hE hK A hA hlow H locs hP hD hS ls hl
  have hl : lv_has ls 4 [(0, .ref o), (1, .int x), (2, .int v), (3, .int wh)] := hl
  refine lv_iload_n hx hb dX6_route_0 rfl (lv_at hl 1 rfl) ?_
  refine cRS (As := [.int x]) (rest := []) hx hb hml hown hts (c_X6_isFlood l G E cI cZ x) k_32_3 cal_X6_isFlood ⟨Nat.le_of_ble_eq_true rfl, Nat.le_of_ble_eq_true rfl⟩ hE hlow hS hK [0, 1] rfl hP [] rfl rfl hl.1 rfl (Nat.le_of_ble_eq_true rfl) dX6_route_1 ⟨Nat.zero_le _, Nat.zero_le _⟩ ?_
  refine lv_if_eq (tgt := 23) hx hb dX6_route_4 (by decide) (fun c_1 => ?_) (fun c_1 => ?_)
  · skip
    have c_1 : (wiB x 0 7) = false := bI_f c_1
    refine lv_iconst (v := (-1)) hx hb dX6_route_23 (by decide) ?_
    exact retWi (r_wt, r_ov, r_tn, r_lo) hx hb hr (rfl) hlocks dX6_route_24 hS (by simp [sfS, bI, c_1]) hP
  · skip
    have c_1 : (wiB x 0 7) = true := bI_t c_1
    refine lv_iload_n hx hb dX6_route_7 rfl (lv_at hl 2 rfl) ?_
    refine cRS (As := [.int v]) (rest := []) hx hb hml hown hts (c_X6_isPoolWater l G E cI cZ v) k_31_11 cal_X6_isPoolWater ⟨Nat.le_of_ble_eq_true rfl, Nat.le_of_ble_eq_true rfl⟩ hE hlow hS hK [0, 1] rfl hP [] rfl rfl hl.1 rfl (Nat.le_of_ble_eq_true rfl) dX6_route_8 ⟨Nat.zero_le _, Nat.zero_le _⟩ ?_
    refine lv_if_eq (tgt := 23) hx hb dX6_route_11 (by decide) (fun c_2 => ?_) (fun c_2 => ?_)
    · skip
      have c_2 : (wiB v 0 9999) = false := bI_f c_2
      refine lv_iconst (v := (-1)) hx hb dX6_route_23 (by decide) ?_
      exact retWi (r_wt, r_ov, r_tn, r_lo) hx hb hr (rfl) hlocks dX6_route_24 hS (by simp [sfS, bI, c_1, c_2]) hP
    · skip
      have c_2 : (wiB v 0 9999) = true := bI_t c_2
      refine lv_iload_n hx hb dX6_route_14 rfl (lv_at hl 3 rfl) ?_
      refine lv_iconst (v := 0) hx hb dX6_route_15 (by decide) ?_
      refine lv_iconst (v := 4) hx hb dX6_route_16 (by decide) ?_
      refine cRS (As := [.int wh, .int 0, .int 4]) (rest := []) hx hb hml hown hts (c_X6_within l G E cI cZ wh 0 4) k_7_8 cal_X6_within ⟨Nat.le_of_ble_eq_true rfl, Nat.le_of_ble_eq_true rfl⟩ hE hlow hS hK [0, 1] rfl hP [] rfl rfl hl.1 rfl (Nat.le_of_ble_eq_true rfl) dX6_route_17 ⟨Nat.zero_le _, Nat.zero_le _⟩ ?_
      refine lv_if_ne (tgt := 25) hx hb dX6_route_20 (by decide) (fun c_3 => ?_) (fun c_3 => ?_)
      · skip
        have c_3 : (wiB wh 0 4) = true := bI_t c_3
        obtain ⟨xn, hx9, hex, hcx⟩ := wiB_n (M := 7) (by omega) c_1
        have hl : lv_has ls 4 [(0, .ref o), (1, .int (nI xn)), (2, .int v), (3, .int wh)] := by rw [hex] at hl; exact hl
        refine lv_aload_n hx hb dX6_route_25 rfl (lv_at hl 0 rfl) ?_
        refine va_get (D := G) (ci := 6) (v := .ref a_r) (C := RX6) (T := TX6) (N := 12) hx hb hts inlX6 hown hK hP 0 rfl rfl 8 (by decide) (hts (.fieldLink RX6 53 "EarthBanks" "reservoir" "LEarthBanks$Reservoir;") k_2_13) (fun _ h9 => h9) h_o_r dX6_route_26 ?_
        refine lv_iload_n hx hb dX6_route_29 rfl (lv_at hl 1 rfl) ?_
        refine lv_iload_n hx hb dX6_route_30 rfl (lv_at hl 2 rfl) ?_
        refine cWVv (As := [.int (nI xn), .int v]) (rest := []) hx hb hml hown hts (c_X1_run l G E cI cZ hN xn v a_r a_r_se a_r_wa a_r_ho r_wt r_ov r_tn r_lo r_se r_wa r_ho (by first | assumption | omega | simp [bI, c_1, c_2, c_3]) (hho) (hle)) k_33_10 cal_X1_run ⟨Nat.le_of_ble_eq_true rfl, Nat.le_of_ble_eq_true rfl⟩ hE hA hlow hD hS hK [0, 1] rfl hP [1, 2, 3, 4] rfl (by decide) [a_r, a_r_se, a_r_wa, a_r_ho] rfl (fun _ => rfl) [0] [(o, .inr (6, fs_o))] (fun _ => [(o, .inr (6, fs_o)), (a_r, .inr (1, [.ref a_r_se, .ref a_r_wa, .ref a_r_ho, .int ((hrR r_se r_wa v xn (hN xn)).1), .int ((hrR r_se r_wa v xn (hN xn)).2.1), .int ((hrR r_se r_wa v xn (hN xn)).2.2.1), .int ((hrR r_se r_wa v xn (hN xn)).2.2.2)])), (a_r_se, .inl (cI, 6, .inl r_se)), (a_r_wa, .inl (cI, 96, .inl r_wa)), (a_r_ho, .inl (cI, 8, .inl r_ho))]) 5 rfl (fun _ => rfl) (fun _ => rfl) (fun _ => rfl) (by decide) (by decide) 1 1 rfl rfl rfl hl.1 rfl (Nat.le_of_ble_eq_true rfl) dX6_route_31 ⟨Nat.zero_le _, Nat.zero_le _⟩ (fun u H locs hr_ hP hD hS => ?_)
        have hP : va_P G vwCl [(o, .inr (6, fs_o)), (a_r, .inr (1, [.ref a_r_se, .ref a_r_wa, .ref a_r_ho, .int ((hrR r_se r_wa v xn (hN xn)).1), .int ((hrR r_se r_wa v xn (hN xn)).2.1), .int ((hrR r_se r_wa v xn (hN xn)).2.2.1), .int ((hrR r_se r_wa v xn (hN xn)).2.2.2)])), (a_r_se, .inl (cI, 6, .inl r_se)), (a_r_wa, .inl (cI, 96, .inl r_wa)), (a_r_ho, .inl (cI, 8, .inl r_ho))] H := hP
        have hD : va_D A [(o, .inr (6, fs_o)), (a_r, .inr (1, [.ref a_r_se, .ref a_r_wa, .ref a_r_ho, .int ((hrR r_se r_wa v xn (hN xn)).1), .int ((hrR r_se r_wa v xn (hN xn)).2.1), .int ((hrR r_se r_wa v xn (hN xn)).2.2.1), .int ((hrR r_se r_wa v xn (hN xn)).2.2.2)])), (a_r_se, .inl (cI, 6, .inl r_se)), (a_r_wa, .inl (cI, 96, .inl r_wa)), (a_r_ho, .inl (cI, 8, .inl r_ho))] := hD
        refine lv_iload_n hx hb dX6_route_34 rfl (lv_at hl 3 rfl) ?_
        by_cases c_4 : wh = 0
        · skip
          refine lv_tableIn (tgt := 64) (off := 29) hx hb dX6_route_35 (by rw [c_4]; decide) (by rw [c_4]; decide) (by rw [c_4]; decide) (by decide) ?_
          refine lv_aload_n hx hb dX6_route_64 rfl (lv_at hl 0 rfl) ?_
          refine va_get (D := G) (ci := 6) (v := .ref a_r) (C := RX6) (T := TX6) (N := 12) hx hb hts inlX6 hown hK hP 0 rfl rfl 8 (by decide) (hts (.fieldLink RX6 53 "EarthBanks" "reservoir" "LEarthBanks$Reservoir;") k_2_13) (fun _ h9 => h9) h_o_r dX6_route_65 ?_
          refine va_get (D := G) (ci := 1) (v := .int ((hrR r_se r_wa v xn (hN xn)).1)) (C := RX1) (T := TX1) (N := 7) hx hb hts inlX1 hown hK hP 1 rfl rfl 3 (by decide) (hts (.fieldLink RX6 234 "EarthBanks$Reservoir" "water" "I") k_33_6) (fun _ h9 => h9) rfl dX6_route_68 ?_
          exact retWi ((hrR r_se r_wa v xn (hN xn)).1, (hrR r_se r_wa v xn (hN xn)).2.1, (hrR r_se r_wa v xn (hN xn)).2.2.1, (hrR r_se r_wa v xn (hN xn)).2.2.2) hx hb hr (rfl) hlocks dX6_route_71 hS (by simp [sfS, bI, hcx, c_1, c_2, c_3, eq_true c_4]) hP
        by_cases c_5 : wh = 1
        · skip
          refine lv_tableIn (tgt := 72) (off := 37) hx hb dX6_route_35 (by rw [c_5]; decide) (by rw [c_5]; decide) (by rw [c_5]; decide) (by decide) ?_
          refine lv_aload_n hx hb dX6_route_72 rfl (lv_at hl 0 rfl) ?_
          refine va_get (D := G) (ci := 6) (v := .ref a_r) (C := RX6) (T := TX6) (N := 12) hx hb hts inlX6 hown hK hP 0 rfl rfl 8 (by decide) (hts (.fieldLink RX6 53 "EarthBanks" "reservoir" "LEarthBanks$Reservoir;") k_2_13) (fun _ h9 => h9) h_o_r dX6_route_73 ?_
          refine va_get (D := G) (ci := 1) (v := .int ((hrR r_se r_wa v xn (hN xn)).2.1)) (C := RX1) (T := TX1) (N := 7) hx hb hts inlX1 hown hK hP 1 rfl rfl 4 (by decide) (hts (.fieldLink RX6 237 "EarthBanks$Reservoir" "hoursOver" "I") k_33_7) (fun _ h9 => h9) rfl dX6_route_76 ?_
          exact retWi ((hrR r_se r_wa v xn (hN xn)).1, (hrR r_se r_wa v xn (hN xn)).2.1, (hrR r_se r_wa v xn (hN xn)).2.2.1, (hrR r_se r_wa v xn (hN xn)).2.2.2) hx hb hr (rfl) hlocks dX6_route_79 hS (by simp [sfS, bI, hcx, c_1, c_2, c_3, c_4, eq_true c_5]) hP
        by_cases c_6 : wh = 2
        · skip
          refine lv_tableIn (tgt := 80) (off := 45) hx hb dX6_route_35 (by rw [c_6]; decide) (by rw [c_6]; decide) (by rw [c_6]; decide) (by decide) ?_
          refine lv_aload_n hx hb dX6_route_80 rfl (lv_at hl 0 rfl) ?_
          refine va_get (D := G) (ci := 6) (v := .ref a_r) (C := RX6) (T := TX6) (N := 12) hx hb hts inlX6 hown hK hP 0 rfl rfl 8 (by decide) (hts (.fieldLink RX6 53 "EarthBanks" "reservoir" "LEarthBanks$Reservoir;") k_2_13) (fun _ h9 => h9) h_o_r dX6_route_81 ?_
          refine va_get (D := G) (ci := 1) (v := .int ((hrR r_se r_wa v xn (hN xn)).2.2.1)) (C := RX1) (T := TX1) (N := 7) hx hb hts inlX1 hown hK hP 1 rfl rfl 5 (by decide) (hts (.fieldLink RX6 240 "EarthBanks$Reservoir" "town" "I") k_33_8) (fun _ h9 => h9) rfl dX6_route_84 ?_
          exact retWi ((hrR r_se r_wa v xn (hN xn)).1, (hrR r_se r_wa v xn (hN xn)).2.1, (hrR r_se r_wa v xn (hN xn)).2.2.1, (hrR r_se r_wa v xn (hN xn)).2.2.2) hx hb hr (rfl) hlocks dX6_route_87 hS (by simp [sfS, bI, hcx, c_1, c_2, c_3, c_4, c_5, eq_true c_6]) hP
        by_cases c_7 : wh = 3
        · skip
          refine lv_tableIn (tgt := 88) (off := 53) hx hb dX6_route_35 (by rw [c_7]; decide) (by rw [c_7]; decide) (by rw [c_7]; decide) (by decide) ?_
          refine lv_aload_n hx hb dX6_route_88 rfl (lv_at hl 0 rfl) ?_
          refine va_get (D := G) (ci := 6) (v := .ref a_r) (C := RX6) (T := TX6) (N := 12) hx hb hts inlX6 hown hK hP 0 rfl rfl 8 (by decide) (hts (.fieldLink RX6 53 "EarthBanks" "reservoir" "LEarthBanks$Reservoir;") k_2_13) (fun _ h9 => h9) h_o_r dX6_route_89 ?_
          refine cRV (As := []) (rest := []) hx hb hml hown hts (c_X1_wasSafe l G E cI cZ a_r a_r_se ((hrR r_se r_wa v xn (hN xn)).2.1) ((hrR r_se r_wa v xn (hN xn)).2.2.1) [.ref a_r_se, .ref a_r_wa, .ref a_r_ho, .int ((hrR r_se r_wa v xn (hN xn)).1), .int ((hrR r_se r_wa v xn (hN xn)).2.1), .int ((hrR r_se r_wa v xn (hN xn)).2.2.1), .int ((hrR r_se r_wa v xn (hN xn)).2.2.2)] rfl rfl rfl r_se) k_33_20 cal_X1_wasSafe ⟨Nat.le_of_ble_eq_true rfl, Nat.le_of_ble_eq_true rfl⟩ hE hlow hS hK [0, 1] rfl hP [1, 2] rfl 1 1 rfl rfl rfl hl.1 rfl (Nat.le_of_ble_eq_true rfl) dX6_route_92 ⟨Nat.zero_le _, Nat.zero_le _⟩ ?_
          refine lv_if_eq (tgt := 102) hx hb dX6_route_95 (by decide) (fun c_8 => ?_) (fun c_8 => ?_)
          · skip
            have c_8 : (decide (((hrR r_se r_wa v xn (hN xn)).2.1) = 0) && !decide (r_se 4 < ((hrR r_se r_wa v xn (hN xn)).2.2.1))) = false := bI_f c_8
            refine lv_iconst (v := 0) hx hb dX6_route_102 (by decide) ?_
            exact retWi ((hrR r_se r_wa v xn (hN xn)).1, (hrR r_se r_wa v xn (hN xn)).2.1, (hrR r_se r_wa v xn (hN xn)).2.2.1, (hrR r_se r_wa v xn (hN xn)).2.2.2) hx hb hr (rfl) hlocks dX6_route_103 hS (by simp [sfS, bI, hcx, c_1, c_2, c_3, c_4, c_5, c_6, eq_true c_7, c_8]) hP
          · skip
            have c_8 : (decide (((hrR r_se r_wa v xn (hN xn)).2.1) = 0) && !decide (r_se 4 < ((hrR r_se r_wa v xn (hN xn)).2.2.1))) = true := bI_t c_8
            refine lv_iconst (v := 1) hx hb dX6_route_98 (by decide) ?_
            refine lv_goto (tgt := 103) hx hb dX6_route_99 (by decide) ?_
            exact retWi ((hrR r_se r_wa v xn (hN xn)).1, (hrR r_se r_wa v xn (hN xn)).2.1, (hrR r_se r_wa v xn (hN xn)).2.2.1, (hrR r_se r_wa v xn (hN xn)).2.2.2) hx hb hr (rfl) hlocks dX6_route_103 hS (by simp [sfS, bI, hcx, c_1, c_2, c_3, c_4, c_5, c_6, eq_true c_7, c_8]) hP
        refine lv_tableOut (tgt := 104) hx hb dX6_route_35 (tbl_out3 c_4 c_5 c_6 c_7) (by decide) ?_
        refine lv_aload_n hx hb dX6_route_104 rfl (lv_at hl 0 rfl) ?_
        refine va_get (D := G) (ci := 6) (v := .ref a_r) (C := RX6) (T := TX6) (N := 12) hx hb hts inlX6 hown hK hP 0 rfl rfl 8 (by decide) (hts (.fieldLink RX6 53 "EarthBanks" "reservoir" "LEarthBanks$Reservoir;") k_2_13) (fun _ h9 => h9) h_o_r dX6_route_105 ?_
        refine va_get (D := G) (ci := 1) (v := .int ((hrR r_se r_wa v xn (hN xn)).2.2.2)) (C := RX1) (T := TX1) (N := 7) hx hb hts inlX1 hown hK hP 1 rfl rfl 6 (by decide) (hts (.fieldLink RX6 247 "EarthBanks$Reservoir" "letOut" "I") k_33_9) (fun _ h9 => h9) rfl dX6_route_108 ?_
        exact retWi ((hrR r_se r_wa v xn (hN xn)).1, (hrR r_se r_wa v xn (hN xn)).2.1, (hrR r_se r_wa v xn (hN xn)).2.2.1, (hrR r_se r_wa v xn (hN xn)).2.2.2) hx hb hr (rfl) hlocks dX6_route_111 hS (by simp [sfS, bI, hcx, c_1, c_2, c_3, c_4, c_5, c_6, c_7]) hP
      · skip
        have c_3 : (wiB wh 0 4) = false := bI_f c_3
        refine lv_iconst (v := (-1)) hx hb dX6_route_23 (by decide) ?_
        exact retWi (r_wt, r_ov, r_tn, r_lo) hx hb hr (rfl) hlocks dX6_route_24 hS (by simp [sfS, bI, c_1, c_2, c_3]) hP
theorem cal_X6_best : calV yX6_best cX6_best 6 (some .int) 1 := ⟨k_34_19, k_1_2, k_34_17, k_34_18, by decide +kernel⟩
set_option maxHeartbeats 4000000 in
set_option maxRecDepth 100000 in
theorem c_X6_best (l : Launch) (G : va_G) (E : EvT) (cI cZ : ClassId) (hN : Nat → Nat) (v : Int32) (o : Nat) (a_r : Nat) (a_r_se : Nat) (a_r_wa : Nat) (a_r_ho : Nat) (fs_o : List Value) (h_o_r : fs_o[8]? = some (.ref a_r)) (r_wt : Int32) (r_ov : Int32) (r_tn : Int32) (r_lo : Int32) (r_se : Nat → Int32) (r_wa : Nat → Int32) (r_ho : Nat → Int32) (hho : ∀ j, r_ho j = nI (hN j)) (hle : ∀ j, hN j ≤ 12) : cWi (S := Int32 × Int32 × Int32 × Int32) l G E yX6_best cX6_best 6 (some .int) 5 [(cI, .int), (cZ, .boolean)] [.ref o, .int v] [(o, .inr (6, fs_o)), (a_r, .inr (1, [.ref a_r_se, .ref a_r_wa, .ref a_r_ho, .int r_wt, .int r_ov, .int r_tn, .int r_lo])), (a_r_se, .inl (cI, 6, .inl r_se)), (a_r_wa, .inl (cI, 96, .inl r_wa)), (a_r_ho, .inl (cI, 8, .inl r_ho))] (fun r _ => r = (if wiB v 0 1 then (if v = 0 then (bruS r_se r_wa hN 21).1 else (bruS r_se r_wa hN 21).2) else (-1))) (fun u => [(o, .inr (6, fs_o)), (a_r, .inr (1, [.ref a_r_se, .ref a_r_wa, .ref a_r_ho, .int u.1, .int u.2.1, .int u.2.2.1, .int u.2.2.2])), (a_r_se, .inl (cI, 6, .inl r_se)), (a_r_wa, .inl (cI, 96, .inl r_wa)), (a_r_ho, .inl (cI, 8, .inl r_ho))]) := by
  refine mkWi (by decide) (Nat.le_of_ble_eq_true rfl) ?_
  intro zp ze s zm args below meth zc hx hb hr hml hown hts hlocks hE hK A hA hlow H locs hP hD hS ls hl
  have hl : lv_has ls 6 [(0, .ref o), (1, .int v)] := hl
  refine lv_iload_n hx hb dX6_best_0 rfl (lv_at hl 1 rfl) ?_
  refine lv_iconst (v := 0) hx hb dX6_best_1 (by decide) ?_
  refine lv_iconst (v := 1) hx hb dX6_best_2 (by decide) ?_
  refine cRS (As := [.int v, .int 0, .int 1]) (rest := []) hx hb hml hown hts (c_X6_within l G E cI cZ v 0 1) k_7_8 cal_X6_within ⟨Nat.le_of_ble_eq_true rfl, Nat.le_of_ble_eq_true rfl⟩ hE hlow hS hK [0, 1] rfl hP [] rfl rfl hl.1 rfl (Nat.le_of_ble_eq_true rfl) dX6_best_3 ⟨Nat.zero_le _, Nat.zero_le _⟩ ?_
  refine lv_if_ne (tgt := 11) hx hb dX6_best_6 (by decide) (fun c_1 => ?_) (fun c_1 => ?_)
  · skip
    have c_1 : (wiB v 0 1) = true := bI_t c_1
    refine lv_iconst (v := 0) hx hb dX6_best_11 (by decide) ?_
    refine lv_istore_n (lv' := [(2, .int 0), (0, .ref o), (1, .int v)]) hx hb dX6_best_12 rfl hl (by decide) rfl (fun ls hl => ?_)
    refine lv_iconst (v := (-1)) hx hb dX6_best_13 (by decide) ?_
    refine lv_istore_n (lv' := [(3, .int (-1)), (2, .int 0), (0, .ref o), (1, .int v)]) hx hb dX6_best_14 rfl hl (by decide) rfl (fun ls hl => ?_)
    refine lv_iconst (v := 0) hx hb dX6_best_15 (by decide) ?_
    refine lv_istore (lv' := [(4, .int 0), (3, .int (-1)), (2, .int 0), (0, .ref o), (1, .int v)]) hx hb dX6_best_16 hl (by decide) rfl (fun ls hl => ?_)
    suffices lp18 : ∀ zn k18 : Nat, ∀ (y1 : Int32) (y2 : Int32) (y3 : Int32) (y4 : Int32) , 0 ≤ k18 → k18 ≤ 21 → 21 < k18 + zn → ∀ (H : Heap) (locs : List Loc), va_P G vwCl [(o, .inr (6, fs_o)), (a_r, .inr (1, [.ref a_r_se, .ref a_r_wa, .ref a_r_ho, .int y1, .int y2, .int y3, .int y4])), (a_r_se, .inl (cI, 6, .inl r_se)), (a_r_wa, .inl (cI, 96, .inl r_wa)), (a_r_ho, .inl (cI, 8, .inl r_ho))] H → va_D A [(o, .inr (6, fs_o)), (a_r, .inr (1, [.ref a_r_se, .ref a_r_wa, .ref a_r_ho, .int y1, .int y2, .int y3, .int y4])), (a_r_se, .inl (cI, 6, .inl r_se)), (a_r_wa, .inl (cI, 96, .inl r_wa)), (a_r_ho, .inl (cI, 8, .inl r_ho))] → va_S A s.heap H locs → ∀ ls : Array Slot, lv_has ls 6 [(0, .ref o), (1, .int v), (2, .int ((bruS r_se r_wa hN k18).1)), (3, .int ((bruS r_se r_wa hN k18).2)), (4, .int (nI (100 * k18)))] → W zp l ze (rmK 5) s zm args below meth zc H locs 0 0 (MQ below (va_Qi (S := Int32 × Int32 × Int32 × Int32) (fun r _ => r = (if wiB v 0 1 then (if v = 0 then (bruS r_se r_wa hN 21).1 else (bruS r_se r_wa hN 21).2) else (-1))) (fun u t => va_P G vwCl ((fun u => [(o, .inr (6, fs_o)), (a_r, .inr (1, [.ref a_r_se, .ref a_r_wa, .ref a_r_ho, .int u.1, .int u.2.1, .int u.2.2.1, .int u.2.2.2])), (a_r_se, .inl (cI, 6, .inl r_se)), (a_r_wa, .inl (cI, 96, .inl r_wa)), (a_r_ho, .inl (cI, 8, .inl r_ho))]) u) t.heap) A) args s 0 0 A) (F0 zm 18 ls []) by
      have el_2 : (0 : Int32) = (bruS r_se r_wa hN 0).1 := rfl
      have el_3 : ((-1) : Int32) = (bruS r_se r_wa hN 0).2 := rfl
      have el_4 : (0 : Int32) = nI (100 * 0) := rfl
      exact lp18 (21 + 1 - 0) 0 r_wt r_ov r_tn r_lo (by omega) (by omega) (by omega)  H locs hP hD hS ls (lv_sub hl [3, 4, 2, 1, 0] (show ([(0, .ref o), (1, .int v), (2, .int 0), (3, .int (-1)), (4, .int 0)] : List (Nat × Value)) = [(0, .ref o), (1, .int v), (2, .int ((bruS r_se r_wa hN 0).1)), (3, .int ((bruS r_se r_wa hN 0).2)), (4, .int (nI (100 * 0)))] by rw [← el_2, ← el_3, ← el_4]))
    intro zn
    induction zn with
    | zero => exact fun k18 y1 y2 y3 y4 h1 h2 h3 => absurd h3 (by omega)
    | succ zn ih18 =>
      intro k18 y1 y2 y3 y4 hlo18 hhi18 hn18  H locs hP hD hS ls hl
      refine lv_iload hx hb dX6_best_18 (lv_at hl 4 rfl) ?_
      refine lv_sipush (v := 2000) hx hb dX6_best_20 (by decide) ?_
      refine lv_icmp_gt (tgt := 55) hx hb dX6_best_23 (by decide) (fun c_5 => ?_) (fun c_5 => ?_)
      · skip
        have c_5 : 2000 < 100 * k18 := (nI_ltI (a := 2000) (b := 100 * k18) (by omega) (by omega)).mp c_5
        have hk9 : 21 = k18 := by omega
        subst hk9
        refine lv_iload_n hx hb dX6_best_55 rfl (lv_at hl 1 rfl) ?_
        refine lv_if_ne (tgt := 63) hx hb dX6_best_56 (by decide) (fun c_6 => ?_) (fun c_6 => ?_)
        · skip
          refine lv_iload_n hx hb dX6_best_63 rfl (lv_at hl 3 rfl) ?_
          exact retWi (y1, y2, y3, y4) hx hb hr (rfl) hlocks dX6_best_64 hS (by simp [c_1, c_5, c_6]) hP
        · skip
          refine lv_iload_n hx hb dX6_best_59 rfl (lv_at hl 2 rfl) ?_
          refine lv_goto (tgt := 64) hx hb dX6_best_60 (by decide) ?_
          exact retWi (y1, y2, y3, y4) hx hb hr (rfl) hlocks dX6_best_64 hS (by simp [c_1, c_5, eq_true c_6]) hP
      · skip
        have c_5 : ¬ 2000 < 100 * k18 := fun h9 => c_5 ((nI_ltI (a := 2000) (b := 100 * k18) (by omega) (by omega)).mpr h9)
        refine lv_aload_n hx hb dX6_best_26 rfl (lv_at hl 0 rfl) ?_
        refine va_get (D := G) (ci := 6) (v := .ref a_r) (C := RX6) (T := TX6) (N := 12) hx hb hts inlX6 hown hK hP 0 rfl rfl 8 (by decide) (hts (.fieldLink RX6 53 "EarthBanks" "reservoir" "LEarthBanks$Reservoir;") k_2_13) (fun _ h9 => h9) h_o_r dX6_best_27 ?_
        refine lv_iload hx hb dX6_best_30 (lv_at hl 4 rfl) ?_
        refine cWVi (As := [.int (nI (100 * k18))]) (rest := []) hx hb hml hown hts (c_X1_safeFloods l G E cI cZ hN (nI (100 * k18)) a_r a_r_se a_r_wa a_r_ho y1 y2 y3 y4 r_se r_wa r_ho (hho) (hle)) k_34_20 cal_X1_safeFloods ⟨Nat.le_of_ble_eq_true rfl, Nat.le_of_ble_eq_true rfl⟩ hE hA hlow hD hS hK [0, 1] rfl hP [1, 2, 3, 4] rfl (by decide) [a_r, a_r_se, a_r_wa, a_r_ho] rfl (fun _ => rfl) [0] [(o, .inr (6, fs_o))] (fun u => [(o, .inr (6, fs_o)), (a_r, .inr (1, [.ref a_r_se, .ref a_r_wa, .ref a_r_ho, .int u.1, .int u.2.1, .int u.2.2.1, .int u.2.2.2])), (a_r_se, .inl (cI, 6, .inl r_se)), (a_r_wa, .inl (cI, 96, .inl r_wa)), (a_r_ho, .inl (cI, 8, .inl r_ho))]) 5 rfl (fun _ => rfl) (fun _ => rfl) (fun _ => rfl) (by decide) (by decide) 1 1 rfl rfl rfl hl.1 rfl (Nat.le_of_ble_eq_true rfl) dX6_best_32 ⟨Nat.zero_le _, Nat.zero_le _⟩ (fun r_ u H locs hr_ hP hD hS => ?_)
        obtain ⟨w1_7, w2_8, w3_9, w4_10⟩ := u
        subst hr_
        have hP : va_P G vwCl [(o, .inr (6, fs_o)), (a_r, .inr (1, [.ref a_r_se, .ref a_r_wa, .ref a_r_ho, .int w1_7, .int w2_8, .int w3_9, .int w4_10])), (a_r_se, .inl (cI, 6, .inl r_se)), (a_r_wa, .inl (cI, 96, .inl r_wa)), (a_r_ho, .inl (cI, 8, .inl r_ho))] H := hP
        have hD : va_D A [(o, .inr (6, fs_o)), (a_r, .inr (1, [.ref a_r_se, .ref a_r_wa, .ref a_r_ho, .int w1_7, .int w2_8, .int w3_9, .int w4_10])), (a_r_se, .inl (cI, 6, .inl r_se)), (a_r_wa, .inl (cI, 96, .inl r_wa)), (a_r_ho, .inl (cI, 8, .inl r_ho))] := hD
        refine lv_istore (lv' := [(5, .int (cntS (sfS r_se r_wa hN (nI (100 * k18))) 8)), (0, .ref o), (1, .int v), (2, .int ((bruS r_se r_wa hN k18).1)), (3, .int ((bruS r_se r_wa hN k18).2)), (4, .int (nI (100 * k18)))]) hx hb dX6_best_35 hl (by decide) rfl (fun ls hl => ?_)
        refine lv_iload hx hb dX6_best_37 (lv_at hl 0 rfl) ?_
        refine lv_iload_n hx hb dX6_best_39 rfl (lv_at hl 4 rfl) ?_
        refine lv_icmp_lt (tgt := 49) hx hb dX6_best_40 (by decide) (fun c_11 => ?_) (fun c_11 => ?_)
        · skip
          refine lv_iinc (v := nI (100 * k18 + 100)) (lv' := [(4, .int (nI (100 * k18 + 100))), (5, .int (cntS (sfS r_se r_wa hN (nI (100 * k18))) 8)), (0, .ref o), (1, .int v), (2, .int ((bruS r_se r_wa hN k18).1)), (3, .int ((bruS r_se r_wa hN k18).2))]) hx hb dX6_best_49 hl (k := 5) rfl (nI_add _ _) (by decide) rfl (fun ls hl => ?_)
          refine lv_goto (tgt := 18) hx hb dX6_best_52 (by decide) ?_
          have el_12 : ((bruS r_se r_wa hN k18).1 : Int32) = (bruS r_se r_wa hN (k18 + 1)).1 := by rw [bruS_s]; simp [c_1, c_5, c_11]
          have el_13 : ((bruS r_se r_wa hN k18).2 : Int32) = (bruS r_se r_wa hN (k18 + 1)).2 := by rw [bruS_s]; simp [c_1, c_5, c_11]
          have el_14 : (nI (100 * k18 + 100) : Int32) = nI (100 * (k18 + 1)) := by congr 1 <;> omega
          exact ih18 (k18 + 1) w1_7 w2_8 w3_9 w4_10 (by omega) (by omega) (by omega)  H locs hP hD hS ls (lv_sub hl [2, 3, 4, 5, 0] (show ([(0, .ref o), (1, .int v), (2, .int ((bruS r_se r_wa hN k18).1)), (3, .int ((bruS r_se r_wa hN k18).2)), (4, .int (nI (100 * k18 + 100)))] : List (Nat × Value)) = [(0, .ref o), (1, .int v), (2, .int ((bruS r_se r_wa hN (k18 + 1)).1)), (3, .int ((bruS r_se r_wa hN (k18 + 1)).2)), (4, .int (nI (100 * (k18 + 1))))] by rw [← el_12, ← el_13, ← el_14]))
        · skip
          refine lv_iload hx hb dX6_best_43 (lv_at hl 0 rfl) ?_
          refine lv_istore_n (lv' := [(3, .int (cntS (sfS r_se r_wa hN (nI (100 * k18))) 8)), (5, .int (cntS (sfS r_se r_wa hN (nI (100 * k18))) 8)), (0, .ref o), (1, .int v), (2, .int ((bruS r_se r_wa hN k18).1)), (4, .int (nI (100 * k18)))]) hx hb dX6_best_45 rfl hl (by decide) rfl (fun ls hl => ?_)
          refine lv_iload hx hb dX6_best_46 (lv_at hl 5 rfl) ?_
          refine lv_istore_n (lv' := [(2, .int (nI (100 * k18))), (3, .int (cntS (sfS r_se r_wa hN (nI (100 * k18))) 8)), (5, .int (cntS (sfS r_se r_wa hN (nI (100 * k18))) 8)), (0, .ref o), (1, .int v), (4, .int (nI (100 * k18)))]) hx hb dX6_best_48 rfl hl (by decide) rfl (fun ls hl => ?_)
          refine lv_iinc (v := nI (100 * k18 + 100)) (lv' := [(4, .int (nI (100 * k18 + 100))), (2, .int (nI (100 * k18))), (3, .int (cntS (sfS r_se r_wa hN (nI (100 * k18))) 8)), (5, .int (cntS (sfS r_se r_wa hN (nI (100 * k18))) 8)), (0, .ref o), (1, .int v)]) hx hb dX6_best_49 hl (k := 5) rfl (nI_add _ _) (by decide) rfl (fun ls hl => ?_)
          refine lv_goto (tgt := 18) hx hb dX6_best_52 (by decide) ?_
          have el_15 : (nI (100 * k18) : Int32) = (bruS r_se r_wa hN (k18 + 1)).1 := by rw [bruS_s]; simp [c_1, c_5, c_11]
          have el_16 : (cntS (sfS r_se r_wa hN (nI (100 * k18))) 8 : Int32) = (bruS r_se r_wa hN (k18 + 1)).2 := by rw [bruS_s]; simp [c_1, c_5, c_11]
          have el_17 : (nI (100 * k18 + 100) : Int32) = nI (100 * (k18 + 1)) := by congr 1 <;> omega
          exact ih18 (k18 + 1) w1_7 w2_8 w3_9 w4_10 (by omega) (by omega) (by omega)  H locs hP hD hS ls (lv_sub hl [4, 5, 1, 2, 0] (show ([(0, .ref o), (1, .int v), (2, .int (nI (100 * k18))), (3, .int (cntS (sfS r_se r_wa hN (nI (100 * k18))) 8)), (4, .int (nI (100 * k18 + 100)))] : List (Nat × Value)) = [(0, .ref o), (1, .int v), (2, .int ((bruS r_se r_wa hN (k18 + 1)).1)), (3, .int ((bruS r_se r_wa hN (k18 + 1)).2)), (4, .int (nI (100 * (k18 + 1))))] by rw [← el_15, ← el_16, ← el_17]))
  · skip
    have c_1 : (wiB v 0 1) = false := bI_f c_1
    refine lv_iconst (v := (-1)) hx hb dX6_best_9 (by decide) ?_
    exact retWi (r_wt, r_ov, r_tn, r_lo) hx hb hr (rfl) hlocks dX6_best_10 hS (by simp [c_1]) hP
theorem cal_X6_gauge : calV yX6_gauge cX6_gauge 4 (some .int) 3 := ⟨k_35_9, k_1_2, k_35_7, k_35_8, by decide +kernel⟩
set_option maxHeartbeats 4000000 in
set_option maxRecDepth 100000 in
theorem c_X6_gauge (l : Launch) (G : va_G) (E : EvT) (cI cZ : ClassId) (n : Nat) (x : Int32) (y : Int32) (v : Int32) (o : Nat) (a_g : Nat) (a_g_gp : Nat) (a_g_gr : Nat) (a_g_cz : Nat) (a_g_cl : Nat) (a_g_lw : Nat) (a_g_gh : Nat) (fs_o : List Value) (h_o_g : fs_o[9]? = some (.ref a_g)) (g_nc : Int32) (g_sl : Int32) (g_gp : Nat → Int32) (g_gr : Nat → Int32) (hn : n ≤ 8) : cWi (S := Unit) l G E yX6_gauge cX6_gauge 4 (some .int) 3 [(cI, .int), (cZ, .boolean)] [.ref o, .int x, .int y, .int v] [(o, .inr (6, fs_o)), (a_g, .inr (4, [.ref a_g_gp, .ref a_g_gr, .ref a_g_cz, .ref a_g_cl, .ref a_g_lw, .ref a_g_gh, .int (nI n), .int g_nc, .int g_sl])), (a_g_gp, .inl (cI, 8, .inl g_gp)), (a_g_gr, .inl (cI, 8, .inl g_gr))] (fun r _ => r = (if inC x y && wiB v 0 9999 then (if n < 8 then nI n else (-3)) else (-1))) (fun _ => [(o, .inr (6, fs_o)), (a_g, .inr (4, [.ref a_g_gp, .ref a_g_gr, .ref a_g_cz, .ref a_g_cl, .ref a_g_lw, .ref a_g_gh, .int (nI (if inC x y && wiB v 0 9999 then (if n < 8 then n + 1 else n) else n)), .int g_nc, .int g_sl])), (a_g_gp, .inl (cI, 8, .inl (if inC x y && wiB v 0 9999 then (if n < 8 then upd g_gp n (nI (plc x y)) else g_gp) else g_gp))), (a_g_gr, .inl (cI, 8, .inl (if inC x y && wiB v 0 9999 then (if n < 8 then upd g_gr n v else g_gr) else g_gr)))]) := by
  refine mkWi (by decide) (Nat.le_of_ble_eq_true rfl) ?_
  intro zp ze s zm args below meth zc hx hb hr hml hown hts hlocks hE hK A hA hlow H locs hP hD hS ls hl
  have hl : lv_has ls 4 [(0, .ref o), (1, .int x), (2, .int y), (3, .int v)] := hl
  refine lv_iload_n hx hb dX6_gauge_0 rfl (lv_at hl 1 rfl) ?_
  refine lv_iload_n hx hb dX6_gauge_1 rfl (lv_at hl 2 rfl) ?_
  refine cRS (As := [.int x, .int y]) (rest := []) hx hb hml hown hts (c_X6_isCell l G E cI cZ x y) k_16_12 cal_X6_isCell ⟨Nat.le_of_ble_eq_true rfl, Nat.le_of_ble_eq_true rfl⟩ hE hlow hS hK [0, 1] rfl hP [] rfl rfl hl.1 rfl (Nat.le_of_ble_eq_true rfl) dX6_gauge_2 ⟨Nat.zero_le _, Nat.zero_le _⟩ ?_
  refine lv_if_eq (tgt := 19) hx hb dX6_gauge_5 (by decide) (fun c_1 => ?_) (fun c_1 => ?_)
  · skip
    have c_1 : (inC x y) = false := bI_f c_1
    refine lv_iconst (v := (-1)) hx hb dX6_gauge_19 (by decide) ?_
    have ew_2 : (nI n : Int32) = nI (if inC x y && wiB v 0 9999 then (if n < 8 then n + 1 else n) else n) := by simp [c_1]
    have ew_3 : g_gp = (if inC x y && wiB v 0 9999 then (if n < 8 then upd g_gp n (nI (plc x y)) else g_gp) else g_gp) := by simp [c_1]
    have ew_4 : g_gr = (if inC x y && wiB v 0 9999 then (if n < 8 then upd g_gr n v else g_gr) else g_gr) := by simp [c_1]
    have hP : va_P G vwCl [(o, .inr (6, fs_o)), (a_g, .inr (4, [.ref a_g_gp, .ref a_g_gr, .ref a_g_cz, .ref a_g_cl, .ref a_g_lw, .ref a_g_gh, .int (nI (if inC x y && wiB v 0 9999 then (if n < 8 then n + 1 else n) else n)), .int g_nc, .int g_sl])), (a_g_gp, .inl (cI, 8, .inl (if inC x y && wiB v 0 9999 then (if n < 8 then upd g_gp n (nI (plc x y)) else g_gp) else g_gp))), (a_g_gr, .inl (cI, 8, .inl (if inC x y && wiB v 0 9999 then (if n < 8 then upd g_gr n v else g_gr) else g_gr)))] H := by rw [← ew_2, ← ew_3, ← ew_4]; exact hP
    exact retWi () hx hb hr (rfl) hlocks dX6_gauge_20 hS (by simp [c_1]) hP
  · skip
    have c_1 : (inC x y) = true := bI_t c_1
    refine lv_iload_n hx hb dX6_gauge_8 rfl (lv_at hl 3 rfl) ?_
    refine lv_iconst (v := 0) hx hb dX6_gauge_9 (by decide) ?_
    refine lv_sipush (v := 9999) hx hb dX6_gauge_10 (by decide) ?_
    refine cRS (As := [.int v, .int 0, .int 9999]) (rest := []) hx hb hml hown hts (c_X6_within l G E cI cZ v 0 9999) k_7_8 cal_X6_within ⟨Nat.le_of_ble_eq_true rfl, Nat.le_of_ble_eq_true rfl⟩ hE hlow hS hK [0, 1] rfl hP [] rfl rfl hl.1 rfl (Nat.le_of_ble_eq_true rfl) dX6_gauge_13 ⟨Nat.zero_le _, Nat.zero_le _⟩ ?_
    refine lv_if_ne (tgt := 21) hx hb dX6_gauge_16 (by decide) (fun c_5 => ?_) (fun c_5 => ?_)
    · skip
      have c_5 : (wiB v 0 9999) = true := bI_t c_5
      obtain ⟨xn, yn, hxn, hyn, hex, hey, hcx, hcy⟩ := inC_n c_1
      have hl : lv_has ls 4 [(0, .ref o), (1, .int (nI xn)), (2, .int y), (3, .int v)] := by rw [hex] at hl; exact hl
      have hl : lv_has ls 4 [(0, .ref o), (1, .int (nI xn)), (2, .int (nI yn)), (3, .int v)] := by rw [hey] at hl; exact hl
      have hpl : plc x y = 8 * yn + xn := by rw [plc, hcx, hcy]
      refine lv_aload_n hx hb dX6_gauge_21 rfl (lv_at hl 0 rfl) ?_
      refine va_get (D := G) (ci := 6) (v := .ref a_g) (C := RX6) (T := TX6) (N := 12) hx hb hts inlX6 hown hK hP 0 rfl rfl 9 (by decide) (hts (.fieldLink RX6 60 "EarthBanks" "watch" "LEarthBanks$Watch;") k_2_17) (fun _ h9 => h9) h_o_g dX6_gauge_22 ?_
      refine lv_iload_n hx hb dX6_gauge_25 rfl (lv_at hl 1 rfl) ?_
      refine lv_iload_n hx hb dX6_gauge_26 rfl (lv_at hl 2 rfl) ?_
      refine cRS (As := [.int (nI xn), .int (nI yn)]) (rest := [.ref a_g]) hx hb hml hown hts (c_X6_placeOf l G E cI cZ xn yn) k_16_15 cal_X6_placeOf ⟨Nat.le_of_ble_eq_true rfl, Nat.le_of_ble_eq_true rfl⟩ hE hlow hS hK [0, 1] rfl hP [] rfl rfl hl.1 rfl (Nat.le_of_ble_eq_true rfl) dX6_gauge_27 ⟨Nat.zero_le _, Nat.zero_le _⟩ ?_
      refine lv_iload_n hx hb dX6_gauge_30 rfl (lv_at hl 3 rfl) ?_
      refine cWVi (As := [.int (nI ((8 * yn) + xn)), .int v]) (rest := []) hx hb hml hown hts (c_X4_addGauge l G E cI cZ n (nI ((8 * yn) + xn)) v a_g a_g_gp a_g_gr a_g_cz a_g_cl a_g_lw a_g_gh g_nc g_sl g_gp g_gr (hn)) k_35_10 cal_X4_addGauge ⟨Nat.le_of_ble_eq_true rfl, Nat.le_of_ble_eq_true rfl⟩ hE hA hlow hD hS hK [0, 1] rfl hP [1, 2, 3] rfl (by decide) [a_g, a_g_gp, a_g_gr] rfl (fun _ => rfl) [0] [(o, .inr (6, fs_o))] (fun _ => [(o, .inr (6, fs_o)), (a_g, .inr (4, [.ref a_g_gp, .ref a_g_gr, .ref a_g_cz, .ref a_g_cl, .ref a_g_lw, .ref a_g_gh, .int (nI (if n < 8 then n + 1 else n)), .int g_nc, .int g_sl])), (a_g_gp, .inl (cI, 8, .inl (if n < 8 then upd g_gp n (nI ((8 * yn) + xn)) else g_gp))), (a_g_gr, .inl (cI, 8, .inl (if n < 8 then upd g_gr n v else g_gr)))]) 4 rfl (fun _ => rfl) (fun _ => rfl) (fun _ => rfl) (by decide) (by decide) 1 4 rfl rfl rfl hl.1 rfl (Nat.le_of_ble_eq_true rfl) dX6_gauge_31 ⟨Nat.zero_le _, Nat.zero_le _⟩ (fun r_ u H locs hr_ hP hD hS => ?_)
      subst hr_
      have hP : va_P G vwCl [(o, .inr (6, fs_o)), (a_g, .inr (4, [.ref a_g_gp, .ref a_g_gr, .ref a_g_cz, .ref a_g_cl, .ref a_g_lw, .ref a_g_gh, .int (nI (if n < 8 then n + 1 else n)), .int g_nc, .int g_sl])), (a_g_gp, .inl (cI, 8, .inl (if n < 8 then upd g_gp n (nI ((8 * yn) + xn)) else g_gp))), (a_g_gr, .inl (cI, 8, .inl (if n < 8 then upd g_gr n v else g_gr)))] H := hP
      have hD : va_D A [(o, .inr (6, fs_o)), (a_g, .inr (4, [.ref a_g_gp, .ref a_g_gr, .ref a_g_cz, .ref a_g_cl, .ref a_g_lw, .ref a_g_gh, .int (nI (if n < 8 then n + 1 else n)), .int g_nc, .int g_sl])), (a_g_gp, .inl (cI, 8, .inl (if n < 8 then upd g_gp n (nI ((8 * yn) + xn)) else g_gp))), (a_g_gr, .inl (cI, 8, .inl (if n < 8 then upd g_gr n v else g_gr)))] := hD
      have ew_6 : (nI (if n < 8 then n + 1 else n) : Int32) = nI (if inC x y && wiB v 0 9999 then (if n < 8 then n + 1 else n) else n) := by simp [c_1, c_5]
      have ew_7 : (if n < 8 then upd g_gp n (nI ((8 * yn) + xn)) else g_gp) = (if inC x y && wiB v 0 9999 then (if n < 8 then upd g_gp n (nI (plc x y)) else g_gp) else g_gp) := by simp [hpl, c_1, c_5]
      have ew_8 : (if n < 8 then upd g_gr n v else g_gr) = (if inC x y && wiB v 0 9999 then (if n < 8 then upd g_gr n v else g_gr) else g_gr) := by simp [c_1, c_5]
      have hP : va_P G vwCl [(o, .inr (6, fs_o)), (a_g, .inr (4, [.ref a_g_gp, .ref a_g_gr, .ref a_g_cz, .ref a_g_cl, .ref a_g_lw, .ref a_g_gh, .int (nI (if inC x y && wiB v 0 9999 then (if n < 8 then n + 1 else n) else n)), .int g_nc, .int g_sl])), (a_g_gp, .inl (cI, 8, .inl (if inC x y && wiB v 0 9999 then (if n < 8 then upd g_gp n (nI (plc x y)) else g_gp) else g_gp))), (a_g_gr, .inl (cI, 8, .inl (if inC x y && wiB v 0 9999 then (if n < 8 then upd g_gr n v else g_gr) else g_gr)))] H := by rw [← ew_6, ← ew_7, ← ew_8]; exact hP
      exact retWi () hx hb hr (rfl) hlocks dX6_gauge_34 hS (by simp [c_1, c_5]) hP
    · skip
      have c_5 : (wiB v 0 9999) = false := bI_f c_5
      refine lv_iconst (v := (-1)) hx hb dX6_gauge_19 (by decide) ?_
      have ew_9 : (nI n : Int32) = nI (if inC x y && wiB v 0 9999 then (if n < 8 then n + 1 else n) else n) := by simp [c_1, c_5]
      have ew_10 : g_gp = (if inC x y && wiB v 0 9999 then (if n < 8 then upd g_gp n (nI (plc x y)) else g_gp) else g_gp) := by simp [c_1, c_5]
      have ew_11 : g_gr = (if inC x y && wiB v 0 9999 then (if n < 8 then upd g_gr n v else g_gr) else g_gr) := by simp [c_1, c_5]
      have hP : va_P G vwCl [(o, .inr (6, fs_o)), (a_g, .inr (4, [.ref a_g_gp, .ref a_g_gr, .ref a_g_cz, .ref a_g_cl, .ref a_g_lw, .ref a_g_gh, .int (nI (if inC x y && wiB v 0 9999 then (if n < 8 then n + 1 else n) else n)), .int g_nc, .int g_sl])), (a_g_gp, .inl (cI, 8, .inl (if inC x y && wiB v 0 9999 then (if n < 8 then upd g_gp n (nI (plc x y)) else g_gp) else g_gp))), (a_g_gr, .inl (cI, 8, .inl (if inC x y && wiB v 0 9999 then (if n < 8 then upd g_gr n v else g_gr) else g_gr)))] H := by rw [← ew_9, ← ew_10, ← ew_11]; exact hP
      exact retWi () hx hb hr (rfl) hlocks dX6_gauge_20 hS (by simp [c_1, c_5]) hP
theorem cal_X6_cause : calV yX6_cause cX6_cause 3 (some .int) 2 := ⟨k_35_22, k_1_2, k_35_20, k_35_21, by decide +kernel⟩
set_option maxHeartbeats 4000000 in
set_option maxRecDepth 100000 in
theorem c_X6_cause (l : Launch) (G : va_G) (E : EvT) (cI cZ : ClassId) (n : Nat) (z : Int32) (v : Int32) (o : Nat) (a_g : Nat) (a_g_cz : Nat) (a_g_cl : Nat) (a_g_gp : Nat) (a_g_gr : Nat) (a_g_lw : Nat) (a_g_gh : Nat) (fs_o : List Value) (h_o_g : fs_o[9]? = some (.ref a_g)) (g_ng : Int32) (g_sl : Int32) (g_cz : Nat → Int32) (g_cl : Nat → Int32) (hn : n ≤ 8) : cWi (S := Unit) l G E yX6_cause cX6_cause 3 (some .int) 3 [(cI, .int), (cZ, .boolean)] [.ref o, .int z, .int v] [(o, .inr (6, fs_o)), (a_g, .inr (4, [.ref a_g_gp, .ref a_g_gr, .ref a_g_cz, .ref a_g_cl, .ref a_g_lw, .ref a_g_gh, .int g_ng, .int (nI n), .int g_sl])), (a_g_cz, .inl (cI, 8, .inl g_cz)), (a_g_cl, .inl (cI, 8, .inl g_cl))] (fun r _ => r = (if wiB z 0 5 && wiB v 1 99 then (if n < 8 then nI n else (-3)) else (-1))) (fun _ => [(o, .inr (6, fs_o)), (a_g, .inr (4, [.ref a_g_gp, .ref a_g_gr, .ref a_g_cz, .ref a_g_cl, .ref a_g_lw, .ref a_g_gh, .int g_ng, .int (nI (if wiB z 0 5 && wiB v 1 99 then (if n < 8 then n + 1 else n) else n)), .int g_sl])), (a_g_cz, .inl (cI, 8, .inl (if wiB z 0 5 && wiB v 1 99 then (if n < 8 then upd g_cz n z else g_cz) else g_cz))), (a_g_cl, .inl (cI, 8, .inl (if wiB z 0 5 && wiB v 1 99 then (if n < 8 then upd g_cl n v else g_cl) else g_cl)))]) := by
  refine mkWi (by decide) (Nat.le_of_ble_eq_true rfl) ?_
  intro zp ze s zm args below meth zc hx hb hr hml hown hts hlocks hE hK A hA hlow H locs hP hD hS ls hl
  have hl : lv_has ls 3 [(0, .ref o), (1, .int z), (2, .int v)] := hl
  refine lv_iload_n hx hb dX6_cause_0 rfl (lv_at hl 1 rfl) ?_
  refine cRS (As := [.int z]) (rest := []) hx hb hml hown hts (c_X6_isZone l G E cI cZ z) k_17_18 cal_X6_isZone ⟨Nat.le_of_ble_eq_true rfl, Nat.le_of_ble_eq_true rfl⟩ hE hlow hS hK [0, 1] rfl hP [] rfl rfl hl.1 rfl (Nat.le_of_ble_eq_true rfl) dX6_cause_1 ⟨Nat.zero_le _, Nat.zero_le _⟩ ?_
  refine lv_if_eq (tgt := 14) hx hb dX6_cause_4 (by decide) (fun c_1 => ?_) (fun c_1 => ?_)
  · skip
    have c_1 : (wiB z 0 5) = false := bI_f c_1
    refine lv_iconst (v := (-1)) hx hb dX6_cause_14 (by decide) ?_
    have ew_2 : (nI n : Int32) = nI (if wiB z 0 5 && wiB v 1 99 then (if n < 8 then n + 1 else n) else n) := by simp [bI, c_1]
    have ew_3 : g_cz = (if wiB z 0 5 && wiB v 1 99 then (if n < 8 then upd g_cz n z else g_cz) else g_cz) := by simp [bI, c_1]
    have ew_4 : g_cl = (if wiB z 0 5 && wiB v 1 99 then (if n < 8 then upd g_cl n v else g_cl) else g_cl) := by simp [bI, c_1]
    have hP : va_P G vwCl [(o, .inr (6, fs_o)), (a_g, .inr (4, [.ref a_g_gp, .ref a_g_gr, .ref a_g_cz, .ref a_g_cl, .ref a_g_lw, .ref a_g_gh, .int g_ng, .int (nI (if wiB z 0 5 && wiB v 1 99 then (if n < 8 then n + 1 else n) else n)), .int g_sl])), (a_g_cz, .inl (cI, 8, .inl (if wiB z 0 5 && wiB v 1 99 then (if n < 8 then upd g_cz n z else g_cz) else g_cz))), (a_g_cl, .inl (cI, 8, .inl (if wiB z 0 5 && wiB v 1 99 then (if n < 8 then upd g_cl n v else g_cl) else g_cl)))] H := by rw [← ew_2, ← ew_3, ← ew_4]; exact hP
    exact retWi () hx hb hr (rfl) hlocks dX6_cause_15 hS (by simp [c_1]) hP
  · skip
    have c_1 : (wiB z 0 5) = true := bI_t c_1
    refine lv_iload_n hx hb dX6_cause_7 rfl (lv_at hl 2 rfl) ?_
    refine cRS (As := [.int v]) (rest := []) hx hb hml hown hts (c_X6_isTrait l G E cI cZ v) k_17_19 cal_X6_isTrait ⟨Nat.le_of_ble_eq_true rfl, Nat.le_of_ble_eq_true rfl⟩ hE hlow hS hK [0, 1] rfl hP [] rfl rfl hl.1 rfl (Nat.le_of_ble_eq_true rfl) dX6_cause_8 ⟨Nat.zero_le _, Nat.zero_le _⟩ ?_
    refine lv_if_ne (tgt := 16) hx hb dX6_cause_11 (by decide) (fun c_5 => ?_) (fun c_5 => ?_)
    · skip
      have c_5 : (wiB v 1 99) = true := bI_t c_5
      refine lv_aload_n hx hb dX6_cause_16 rfl (lv_at hl 0 rfl) ?_
      refine va_get (D := G) (ci := 6) (v := .ref a_g) (C := RX6) (T := TX6) (N := 12) hx hb hts inlX6 hown hK hP 0 rfl rfl 9 (by decide) (hts (.fieldLink RX6 60 "EarthBanks" "watch" "LEarthBanks$Watch;") k_2_17) (fun _ h9 => h9) h_o_g dX6_cause_17 ?_
      refine lv_iload_n hx hb dX6_cause_20 rfl (lv_at hl 1 rfl) ?_
      refine lv_iload_n hx hb dX6_cause_21 rfl (lv_at hl 2 rfl) ?_
      refine cWVi (As := [.int z, .int v]) (rest := []) hx hb hml hown hts (c_X4_addCause l G E cI cZ n z v a_g a_g_cz a_g_cl a_g_gp a_g_gr a_g_lw a_g_gh g_ng g_sl g_cz g_cl (hn)) k_35_23 cal_X4_addCause ⟨Nat.le_of_ble_eq_true rfl, Nat.le_of_ble_eq_true rfl⟩ hE hA hlow hD hS hK [0, 1] rfl hP [1, 2, 3] rfl (by decide) [a_g, a_g_cz, a_g_cl] rfl (fun _ => rfl) [0] [(o, .inr (6, fs_o))] (fun _ => [(o, .inr (6, fs_o)), (a_g, .inr (4, [.ref a_g_gp, .ref a_g_gr, .ref a_g_cz, .ref a_g_cl, .ref a_g_lw, .ref a_g_gh, .int g_ng, .int (nI (if n < 8 then n + 1 else n)), .int g_sl])), (a_g_cz, .inl (cI, 8, .inl (if n < 8 then upd g_cz n z else g_cz))), (a_g_cl, .inl (cI, 8, .inl (if n < 8 then upd g_cl n v else g_cl)))]) 4 rfl (fun _ => rfl) (fun _ => rfl) (fun _ => rfl) (by decide) (by decide) 1 4 rfl rfl rfl hl.1 rfl (Nat.le_of_ble_eq_true rfl) dX6_cause_22 ⟨Nat.zero_le _, Nat.zero_le _⟩ (fun r_ u H locs hr_ hP hD hS => ?_)
      subst hr_
      have hP : va_P G vwCl [(o, .inr (6, fs_o)), (a_g, .inr (4, [.ref a_g_gp, .ref a_g_gr, .ref a_g_cz, .ref a_g_cl, .ref a_g_lw, .ref a_g_gh, .int g_ng, .int (nI (if n < 8 then n + 1 else n)), .int g_sl])), (a_g_cz, .inl (cI, 8, .inl (if n < 8 then upd g_cz n z else g_cz))), (a_g_cl, .inl (cI, 8, .inl (if n < 8 then upd g_cl n v else g_cl)))] H := hP
      have hD : va_D A [(o, .inr (6, fs_o)), (a_g, .inr (4, [.ref a_g_gp, .ref a_g_gr, .ref a_g_cz, .ref a_g_cl, .ref a_g_lw, .ref a_g_gh, .int g_ng, .int (nI (if n < 8 then n + 1 else n)), .int g_sl])), (a_g_cz, .inl (cI, 8, .inl (if n < 8 then upd g_cz n z else g_cz))), (a_g_cl, .inl (cI, 8, .inl (if n < 8 then upd g_cl n v else g_cl)))] := hD
      have ew_6 : (nI (if n < 8 then n + 1 else n) : Int32) = nI (if wiB z 0 5 && wiB v 1 99 then (if n < 8 then n + 1 else n) else n) := by simp [bI, c_1, c_5]
      have ew_7 : (if n < 8 then upd g_cz n z else g_cz) = (if wiB z 0 5 && wiB v 1 99 then (if n < 8 then upd g_cz n z else g_cz) else g_cz) := by simp [bI, c_1, c_5]
      have ew_8 : (if n < 8 then upd g_cl n v else g_cl) = (if wiB z 0 5 && wiB v 1 99 then (if n < 8 then upd g_cl n v else g_cl) else g_cl) := by simp [bI, c_1, c_5]
      have hP : va_P G vwCl [(o, .inr (6, fs_o)), (a_g, .inr (4, [.ref a_g_gp, .ref a_g_gr, .ref a_g_cz, .ref a_g_cl, .ref a_g_lw, .ref a_g_gh, .int g_ng, .int (nI (if wiB z 0 5 && wiB v 1 99 then (if n < 8 then n + 1 else n) else n)), .int g_sl])), (a_g_cz, .inl (cI, 8, .inl (if wiB z 0 5 && wiB v 1 99 then (if n < 8 then upd g_cz n z else g_cz) else g_cz))), (a_g_cl, .inl (cI, 8, .inl (if wiB z 0 5 && wiB v 1 99 then (if n < 8 then upd g_cl n v else g_cl) else g_cl)))] H := by rw [← ew_6, ← ew_7, ← ew_8]; exact hP
      exact retWi () hx hb hr (rfl) hlocks dX6_cause_25 hS (by simp [c_1, c_5]) hP
    · skip
      have c_5 : (wiB v 1 99) = false := bI_f c_5
      refine lv_iconst (v := (-1)) hx hb dX6_cause_14 (by decide) ?_
      have ew_9 : (nI n : Int32) = nI (if wiB z 0 5 && wiB v 1 99 then (if n < 8 then n + 1 else n) else n) := by simp [bI, c_1, c_5]
      have ew_10 : g_cz = (if wiB z 0 5 && wiB v 1 99 then (if n < 8 then upd g_cz n z else g_cz) else g_cz) := by simp [bI, c_1, c_5]
      have ew_11 : g_cl = (if wiB z 0 5 && wiB v 1 99 then (if n < 8 then upd g_cl n v else g_cl) else g_cl) := by simp [bI, c_1, c_5]
      have hP : va_P G vwCl [(o, .inr (6, fs_o)), (a_g, .inr (4, [.ref a_g_gp, .ref a_g_gr, .ref a_g_cz, .ref a_g_cl, .ref a_g_lw, .ref a_g_gh, .int g_ng, .int (nI (if wiB z 0 5 && wiB v 1 99 then (if n < 8 then n + 1 else n) else n)), .int g_sl])), (a_g_cz, .inl (cI, 8, .inl (if wiB z 0 5 && wiB v 1 99 then (if n < 8 then upd g_cz n z else g_cz) else g_cz))), (a_g_cl, .inl (cI, 8, .inl (if wiB z 0 5 && wiB v 1 99 then (if n < 8 then upd g_cl n v else g_cl) else g_cl)))] H := by rw [← ew_9, ← ew_10, ← ew_11]; exact hP
      exact retWi () hx hb hr (rfl) hlocks dX6_cause_15 hS (by simp [c_1, c_5]) hP
theorem cal_X6_slack : calV yX6_slack cX6_slack 3 (some .int) 1 := ⟨k_36_11, k_1_2, k_36_9, k_36_10, by decide +kernel⟩
set_option maxHeartbeats 4000000 in
set_option maxRecDepth 100000 in
theorem c_X6_slack (l : Launch) (G : va_G) (E : EvT) (cI cZ : ClassId) (v : Int32) (o : Nat) (a_g : Nat) (a_g_gp : Nat) (a_g_gr : Nat) (a_g_cz : Nat) (a_g_cl : Nat) (a_g_lw : Nat) (a_g_gh : Nat) (fs_o : List Value) (h_o_g : fs_o[9]? = some (.ref a_g)) (g_ng : Int32) (g_nc : Int32) (g_sl : Int32) : cWi (S := Unit) l G E yX6_slack cX6_slack 3 (some .int) 3 [(cI, .int), (cZ, .boolean)] [.ref o, .int v] [(o, .inr (6, fs_o)), (a_g, .inr (4, [.ref a_g_gp, .ref a_g_gr, .ref a_g_cz, .ref a_g_cl, .ref a_g_lw, .ref a_g_gh, .int g_ng, .int g_nc, .int g_sl]))] (fun r _ => r = (if wiB v 0 999 then g_sl else (-1))) (fun _ => [(o, .inr (6, fs_o)), (a_g, .inr (4, [.ref a_g_gp, .ref a_g_gr, .ref a_g_cz, .ref a_g_cl, .ref a_g_lw, .ref a_g_gh, .int g_ng, .int g_nc, .int (if wiB v 0 999 then v else g_sl)]))]) := by
  refine mkWi (by decide) (Nat.le_of_ble_eq_true rfl) ?_
  intro zp ze s zm args below meth zc hx hb hr hml hown hts hlocks hE hK A hA hlow H locs hP hD hS ls hl
  have hl : lv_has ls 3 [(0, .ref o), (1, .int v)] := hl
  refine lv_iload_n hx hb dX6_slack_0 rfl (lv_at hl 1 rfl) ?_
  refine lv_iconst (v := 0) hx hb dX6_slack_1 (by decide) ?_
  refine lv_sipush (v := 999) hx hb dX6_slack_2 (by decide) ?_
  refine cRS (As := [.int v, .int 0, .int 999]) (rest := []) hx hb hml hown hts (c_X6_within l G E cI cZ v 0 999) k_7_8 cal_X6_within ⟨Nat.le_of_ble_eq_true rfl, Nat.le_of_ble_eq_true rfl⟩ hE hlow hS hK [0, 1] rfl hP [] rfl rfl hl.1 rfl (Nat.le_of_ble_eq_true rfl) dX6_slack_5 ⟨Nat.zero_le _, Nat.zero_le _⟩ ?_
  refine lv_if_ne (tgt := 13) hx hb dX6_slack_8 (by decide) (fun c_1 => ?_) (fun c_1 => ?_)
  · skip
    have c_1 : (wiB v 0 999) = true := bI_t c_1
    refine lv_aload_n hx hb dX6_slack_13 rfl (lv_at hl 0 rfl) ?_
    refine va_get (D := G) (ci := 6) (v := .ref a_g) (C := RX6) (T := TX6) (N := 12) hx hb hts inlX6 hown hK hP 0 rfl rfl 9 (by decide) (hts (.fieldLink RX6 60 "EarthBanks" "watch" "LEarthBanks$Watch;") k_2_17) (fun _ h9 => h9) h_o_g dX6_slack_14 ?_
    refine va_get (D := G) (ci := 4) (v := .int g_sl) (C := RX4) (T := TX4) (N := 9) hx hb hts inlX4 hown hK hP 1 rfl rfl 8 (by decide) (hts (.fieldLink RX6 259 "EarthBanks$Watch" "slackAllowed" "I") k_36_12) (fun _ h9 => h9) rfl dX6_slack_17 ?_
    refine lv_istore_n (lv' := [(2, .int g_sl), (0, .ref o), (1, .int v)]) hx hb dX6_slack_20 rfl hl (by decide) rfl (fun ls hl => ?_)
    refine lv_aload_n hx hb dX6_slack_21 rfl (lv_at hl 1 rfl) ?_
    refine va_get (D := G) (ci := 6) (v := .ref a_g) (C := RX6) (T := TX6) (N := 12) hx hb hts inlX6 hown hK hP 0 rfl rfl 9 (by decide) (hts (.fieldLink RX6 60 "EarthBanks" "watch" "LEarthBanks$Watch;") k_2_17) (fun _ h9 => h9) h_o_g dX6_slack_22 ?_
    refine lv_iload_n hx hb dX6_slack_25 rfl (lv_at hl 2 rfl) ?_
    refine va_put (D := G) (ci := 4) (v := .int v) (ty := .int) (C := RX4) (T := TX4) (N := 9) hx hb hts inlX4 tyX4 tyX4_ok nmX4 hown hK hP hD hS 1 rfl rfl 8 (by decide) (hts (.fieldLink RX6 259 "EarthBanks$Watch" "slackAllowed" "I") k_36_12) (fun _ h9 => h9) rfl (by decide +kernel) (rfl) (rfl) (Nat.le_of_ble_eq_true rfl) dX6_slack_26 (fun H locs hP hD hS => ?_)
    have hP : va_P G vwCl [(o, .inr (6, fs_o)), (a_g, .inr (4, [.ref a_g_gp, .ref a_g_gr, .ref a_g_cz, .ref a_g_cl, .ref a_g_lw, .ref a_g_gh, .int g_ng, .int g_nc, .int v]))] H := hP
    have hD : va_D A [(o, .inr (6, fs_o)), (a_g, .inr (4, [.ref a_g_gp, .ref a_g_gr, .ref a_g_cz, .ref a_g_cl, .ref a_g_lw, .ref a_g_gh, .int g_ng, .int g_nc, .int v]))] := hD
    refine lv_iload_n hx hb dX6_slack_29 rfl (lv_at hl 0 rfl) ?_
    have ew_2 : (v : Int32) = if wiB v 0 999 then v else g_sl := by simp [bI, c_1]
    have hP : va_P G vwCl [(o, .inr (6, fs_o)), (a_g, .inr (4, [.ref a_g_gp, .ref a_g_gr, .ref a_g_cz, .ref a_g_cl, .ref a_g_lw, .ref a_g_gh, .int g_ng, .int g_nc, .int (if wiB v 0 999 then v else g_sl)]))] H := by rw [← ew_2]; exact hP
    exact retWi () hx hb hr (rfl) hlocks dX6_slack_30 hS (by simp [bI, c_1]) hP
  · skip
    have c_1 : (wiB v 0 999) = false := bI_f c_1
    refine lv_iconst (v := (-1)) hx hb dX6_slack_11 (by decide) ?_
    have ew_3 : (g_sl : Int32) = if wiB v 0 999 then v else g_sl := by simp [bI, c_1]
    have hP : va_P G vwCl [(o, .inr (6, fs_o)), (a_g, .inr (4, [.ref a_g_gp, .ref a_g_gr, .ref a_g_cz, .ref a_g_cl, .ref a_g_lw, .ref a_g_gh, .int g_ng, .int g_nc, .int (if wiB v 0 999 then v else g_sl)]))] H := by rw [← ew_3]; exact hP
    exact retWi () hx hb hr (rfl) hlocks dX6_slack_12 hS (by simp [bI, c_1]) hP
