theorem cal_X6_isCell : calS yX6_isCell cX6_isCell 2 (some .boolean) 2 := ⟨k_16_14, k_1_2, k_16_13, by decide +kernel⟩
set_option maxHeartbeats 4000000 in
set_option maxRecDepth 100000 in
theorem c_X6_isCell (l : Launch) (G : va_G) (E : EvT) (cI cZ : ClassId) (x : Int32) (y : Int32) : cR l G E yX6_isCell cX6_isCell 2 (some .boolean) 2 [(cI, .int), (cZ, .boolean)] [.int x, .int y] [] (bI (inC x y)) := by
  refine mkR (by decide) (Nat.le_of_ble_eq_true rfl) ?_
  intro zp ze s zm args below meth zc hx hb hr hml hown hts hlocks hE hP hK ls hl
  have hS : va_S (fun _ => False) s.heap s.heap [] := va_S.rf
  have hlow : ∀ q : Nat, (fun _ : Nat => False) q → E.1 ≤ q := fun _ h => h.elim
  have hl : lv_has ls 2 [(0, .int x), (1, .int y)] := hl
  refine lv_iload_n hx hb dX6_isCell_0 rfl (lv_at hl 0 rfl) ?_
  refine lv_iconst (v := 0) hx hb dX6_isCell_1 (by decide) ?_
  refine lv_bipush (v := 7) hx hb dX6_isCell_2 (by decide) ?_
  refine cRS (As := [.int x, .int 0, .int 7]) (rest := []) hx hb hml hown hts (c_X6_within l G E cI cZ x 0 7) k_7_8 cal_X6_within ⟨Nat.le_of_ble_eq_true rfl, Nat.le_of_ble_eq_true rfl⟩ hE hlow hS hK [0, 1] rfl hP [] rfl rfl hl.1 rfl (Nat.le_of_ble_eq_true rfl) dX6_isCell_4 ⟨Nat.zero_le _, Nat.zero_le _⟩ ?_
  refine lv_if_eq (tgt := 23) hx hb dX6_isCell_7 (by decide) (fun c_1 => ?_) (fun c_1 => ?_)
  · skip
    have c_1 : (wiB x 0 7) = false := bI_f c_1
    refine lv_iconst (v := 0) hx hb dX6_isCell_23 (by decide) ?_
    exact retR hx hb hr (rfl) hlocks dX6_isCell_24 (by simp [inC, bI, c_1])
  · skip
    have c_1 : (wiB x 0 7) = true := bI_t c_1
    refine lv_iload_n hx hb dX6_isCell_10 rfl (lv_at hl 1 rfl) ?_
    refine lv_iconst (v := 0) hx hb dX6_isCell_11 (by decide) ?_
    refine lv_iconst (v := 5) hx hb dX6_isCell_12 (by decide) ?_
    refine cRS (As := [.int y, .int 0, .int 5]) (rest := []) hx hb hml hown hts (c_X6_within l G E cI cZ y 0 5) k_7_8 cal_X6_within ⟨Nat.le_of_ble_eq_true rfl, Nat.le_of_ble_eq_true rfl⟩ hE hlow hS hK [0, 1] rfl hP [] rfl rfl hl.1 rfl (Nat.le_of_ble_eq_true rfl) dX6_isCell_13 ⟨Nat.zero_le _, Nat.zero_le _⟩ ?_
    refine lv_if_eq (tgt := 23) hx hb dX6_isCell_16 (by decide) (fun c_2 => ?_) (fun c_2 => ?_)
    · skip
      have c_2 : (wiB y 0 5) = false := bI_f c_2
      refine lv_iconst (v := 0) hx hb dX6_isCell_23 (by decide) ?_
      exact retR hx hb hr (rfl) hlocks dX6_isCell_24 (by simp [inC, bI, c_1, c_2])
    · skip
      have c_2 : (wiB y 0 5) = true := bI_t c_2
      refine lv_iconst (v := 1) hx hb dX6_isCell_19 (by decide) ?_
      refine lv_goto (tgt := 24) hx hb dX6_isCell_20 (by decide) ?_
      exact retR hx hb hr (rfl) hlocks dX6_isCell_24 (by simp [inC, bI, c_1, c_2])
theorem cal_X6_isZone : calS yX6_isZone cX6_isZone 1 (some .boolean) 1 := ⟨k_12_13, k_1_2, k_12_12, by decide +kernel⟩
set_option maxHeartbeats 4000000 in
set_option maxRecDepth 100000 in
theorem c_X6_isZone (l : Launch) (G : va_G) (E : EvT) (cI cZ : ClassId) (v : Int32) : cR l G E yX6_isZone cX6_isZone 1 (some .boolean) 2 [(cI, .int), (cZ, .boolean)] [.int v] [] (bI (wiB v 0 5)) := by
  refine mkR (by decide) (Nat.le_of_ble_eq_true rfl) ?_
  intro zp ze s zm args below meth zc hx hb hr hml hown hts hlocks hE hP hK ls hl
  have hS : va_S (fun _ => False) s.heap s.heap [] := va_S.rf
  have hlow : ∀ q : Nat, (fun _ : Nat => False) q → E.1 ≤ q := fun _ h => h.elim
  have hl : lv_has ls 1 [(0, .int v)] := hl
  refine lv_iload_n hx hb dX6_isZone_0 rfl (lv_at hl 0 rfl) ?_
  refine lv_iconst (v := 0) hx hb dX6_isZone_1 (by decide) ?_
  refine lv_iconst (v := 5) hx hb dX6_isZone_2 (by decide) ?_
  refine cRS (As := [.int v, .int 0, .int 5]) (rest := []) hx hb hml hown hts (c_X6_within l G E cI cZ v 0 5) k_7_8 cal_X6_within ⟨Nat.le_of_ble_eq_true rfl, Nat.le_of_ble_eq_true rfl⟩ hE hlow hS hK [0, 1] rfl hP [] rfl rfl hl.1 rfl (Nat.le_of_ble_eq_true rfl) dX6_isZone_3 ⟨Nat.zero_le _, Nat.zero_le _⟩ ?_
  exact retR hx hb hr (bI_n _) hlocks dX6_isZone_6 (rfl)
theorem cal_X6_isTrait : calS yX6_isTrait cX6_isTrait 1 (some .boolean) 1 := ⟨k_17_21, k_1_2, k_17_20, by decide +kernel⟩
set_option maxHeartbeats 4000000 in
set_option maxRecDepth 100000 in
theorem c_X6_isTrait (l : Launch) (G : va_G) (E : EvT) (cI cZ : ClassId) (v : Int32) : cR l G E yX6_isTrait cX6_isTrait 1 (some .boolean) 2 [(cI, .int), (cZ, .boolean)] [.int v] [] (bI (wiB v 1 99)) := by
  refine mkR (by decide) (Nat.le_of_ble_eq_true rfl) ?_
  intro zp ze s zm args below meth zc hx hb hr hml hown hts hlocks hE hP hK ls hl
  have hS : va_S (fun _ => False) s.heap s.heap [] := va_S.rf
  have hlow : ∀ q : Nat, (fun _ : Nat => False) q → E.1 ≤ q := fun _ h => h.elim
  have hl : lv_has ls 1 [(0, .int v)] := hl
  refine lv_iload_n hx hb dX6_isTrait_0 rfl (lv_at hl 0 rfl) ?_
  refine lv_iconst (v := 1) hx hb dX6_isTrait_1 (by decide) ?_
  refine lv_bipush (v := 99) hx hb dX6_isTrait_2 (by decide) ?_
  refine cRS (As := [.int v, .int 1, .int 99]) (rest := []) hx hb hml hown hts (c_X6_within l G E cI cZ v 1 99) k_7_8 cal_X6_within ⟨Nat.le_of_ble_eq_true rfl, Nat.le_of_ble_eq_true rfl⟩ hE hlow hS hK [0, 1] rfl hP [] rfl rfl hl.1 rfl (Nat.le_of_ble_eq_true rfl) dX6_isTrait_4 ⟨Nat.zero_le _, Nat.zero_le _⟩ ?_
  exact retR hx hb hr (bI_n _) hlocks dX6_isTrait_7 (rfl)
theorem cal_X6_isFlood : calS yX6_isFlood cX6_isFlood 1 (some .boolean) 1 := ⟨k_32_5, k_1_2, k_32_4, by decide +kernel⟩
set_option maxHeartbeats 4000000 in
set_option maxRecDepth 100000 in
theorem c_X6_isFlood (l : Launch) (G : va_G) (E : EvT) (cI cZ : ClassId) (v : Int32) : cR l G E yX6_isFlood cX6_isFlood 1 (some .boolean) 2 [(cI, .int), (cZ, .boolean)] [.int v] [] (bI (wiB v 0 7)) := by
  refine mkR (by decide) (Nat.le_of_ble_eq_true rfl) ?_
  intro zp ze s zm args below meth zc hx hb hr hml hown hts hlocks hE hP hK ls hl
  have hS : va_S (fun _ => False) s.heap s.heap [] := va_S.rf
  have hlow : ∀ q : Nat, (fun _ : Nat => False) q → E.1 ≤ q := fun _ h => h.elim
  have hl : lv_has ls 1 [(0, .int v)] := hl
  refine lv_iload_n hx hb dX6_isFlood_0 rfl (lv_at hl 0 rfl) ?_
  refine lv_iconst (v := 0) hx hb dX6_isFlood_1 (by decide) ?_
  refine lv_bipush (v := 7) hx hb dX6_isFlood_2 (by decide) ?_
  refine cRS (As := [.int v, .int 0, .int 7]) (rest := []) hx hb hml hown hts (c_X6_within l G E cI cZ v 0 7) k_7_8 cal_X6_within ⟨Nat.le_of_ble_eq_true rfl, Nat.le_of_ble_eq_true rfl⟩ hE hlow hS hK [0, 1] rfl hP [] rfl rfl hl.1 rfl (Nat.le_of_ble_eq_true rfl) dX6_isFlood_4 ⟨Nat.zero_le _, Nat.zero_le _⟩ ?_
  exact retR hx hb hr (bI_n _) hlocks dX6_isFlood_7 (rfl)
theorem cal_X6_isPoolWater : calS yX6_isPoolWater cX6_isPoolWater 1 (some .boolean) 1 := ⟨k_31_13, k_1_2, k_31_12, by decide +kernel⟩
set_option maxHeartbeats 4000000 in
set_option maxRecDepth 100000 in
theorem c_X6_isPoolWater (l : Launch) (G : va_G) (E : EvT) (cI cZ : ClassId) (v : Int32) : cR l G E yX6_isPoolWater cX6_isPoolWater 1 (some .boolean) 2 [(cI, .int), (cZ, .boolean)] [.int v] [] (bI (wiB v 0 9999)) := by
  refine mkR (by decide) (Nat.le_of_ble_eq_true rfl) ?_
  intro zp ze s zm args below meth zc hx hb hr hml hown hts hlocks hE hP hK ls hl
  have hS : va_S (fun _ => False) s.heap s.heap [] := va_S.rf
  have hlow : ∀ q : Nat, (fun _ : Nat => False) q → E.1 ≤ q := fun _ h => h.elim
  have hl : lv_has ls 1 [(0, .int v)] := hl
  refine lv_iload_n hx hb dX6_isPoolWater_0 rfl (lv_at hl 0 rfl) ?_
  refine lv_iconst (v := 0) hx hb dX6_isPoolWater_1 (by decide) ?_
  refine lv_sipush (v := 9999) hx hb dX6_isPoolWater_2 (by decide) ?_
  refine cRS (As := [.int v, .int 0, .int 9999]) (rest := []) hx hb hml hown hts (c_X6_within l G E cI cZ v 0 9999) k_7_8 cal_X6_within ⟨Nat.le_of_ble_eq_true rfl, Nat.le_of_ble_eq_true rfl⟩ hE hlow hS hK [0, 1] rfl hP [] rfl rfl hl.1 rfl (Nat.le_of_ble_eq_true rfl) dX6_isPoolWater_5 ⟨Nat.zero_le _, Nat.zero_le _⟩ ?_
  exact retR hx hb hr (bI_n _) hlocks dX6_isPoolWater_8 (rfl)
theorem cal_X6_cell : calV yX6_cell cX6_cell 6 (some .int) 3 := ⟨k_16_8, k_1_2, k_16_6, k_16_7, by decide +kernel⟩
set_option maxHeartbeats 4000000 in
set_option maxRecDepth 100000 in
theorem c_X6_cell (l : Launch) (G : va_G) (E : EvT) (cI cZ : ClassId) (x : Int32) (y : Int32) (wh : Int32) (o : Nat) (a_s : Nat) (a_s_zo : Nat) (a_s_he : Nat) (a_s_go : Nat) (fs_o : List Value) (h_o_s : fs_o[1]? = some (.ref a_s)) (fs_s : List Value) (h_s_zo : fs_s[0]? = some (.ref a_s_zo)) (h_s_go : fs_s[2]? = some (.ref a_s_go)) (h_s_he : fs_s[1]? = some (.ref a_s_he)) (s_zo : Nat → Int32) (s_he : Nat → Int32) (s_go : Nat → Int32) : cR l G E yX6_cell cX6_cell 6 (some .int) 3 [(cI, .int), (cZ, .boolean)] [.ref o, .int x, .int y, .int wh] [(o, .inr (6, fs_o)), (a_s, .inr (2, fs_s)), (a_s_zo, .inl (cI, 48, .inl s_zo)), (a_s_he, .inl (cI, 48, .inl s_he)), (a_s_go, .inl (cI, 48, .inl s_go))] (cellS s_zo s_he s_go x y wh) := by
  refine mkR (by decide) (Nat.le_of_ble_eq_true rfl) ?_
  intro zp ze s zm args below meth zc hx hb hr hml hown hts hlocks hE hP hK ls hl
  have hS : va_S (fun _ => False) s.heap s.heap [] := va_S.rf
  have hlow : ∀ q : Nat, (fun _ : Nat => False) q → E.1 ≤ q := fun _ h => h.elim
  have hl : lv_has ls 6 [(0, .ref o), (1, .int x), (2, .int y), (3, .int wh)] := hl
  refine lv_iload_n hx hb dX6_cell_0 rfl (lv_at hl 1 rfl) ?_
  refine lv_iload_n hx hb dX6_cell_1 rfl (lv_at hl 2 rfl) ?_
  refine cRS (As := [.int x, .int y]) (rest := []) hx hb hml hown hts (c_X6_isCell l G E cI cZ x y) k_16_12 cal_X6_isCell ⟨Nat.le_of_ble_eq_true rfl, Nat.le_of_ble_eq_true rfl⟩ hE hlow hS hK [0, 1] rfl hP [] rfl rfl hl.1 rfl (Nat.le_of_ble_eq_true rfl) dX6_cell_2 ⟨Nat.zero_le _, Nat.zero_le _⟩ ?_
  refine lv_if_eq (tgt := 17) hx hb dX6_cell_5 (by decide) (fun c_1 => ?_) (fun c_1 => ?_)
  · skip
    have c_1 : (inC x y) = false := bI_f c_1
    refine lv_iconst (v := (-1)) hx hb dX6_cell_17 (by decide) ?_
    exact retR hx hb hr (rfl) hlocks dX6_cell_18 (by simp [cellS, c_1])
  · skip
    have c_1 : (inC x y) = true := bI_t c_1
    refine lv_iload_n hx hb dX6_cell_8 rfl (lv_at hl 3 rfl) ?_
    refine lv_iconst (v := 0) hx hb dX6_cell_9 (by decide) ?_
    refine lv_iconst (v := 3) hx hb dX6_cell_10 (by decide) ?_
    refine cRS (As := [.int wh, .int 0, .int 3]) (rest := []) hx hb hml hown hts (c_X6_within l G E cI cZ wh 0 3) k_7_8 cal_X6_within ⟨Nat.le_of_ble_eq_true rfl, Nat.le_of_ble_eq_true rfl⟩ hE hlow hS hK [0, 1] rfl hP [] rfl rfl hl.1 rfl (Nat.le_of_ble_eq_true rfl) dX6_cell_11 ⟨Nat.zero_le _, Nat.zero_le _⟩ ?_
    refine lv_if_ne (tgt := 19) hx hb dX6_cell_14 (by decide) (fun c_2 => ?_) (fun c_2 => ?_)
    · skip
      have c_2 : (wiB wh 0 3) = true := bI_t c_2
      obtain ⟨xn, yn, hxn, hyn, hex, hey, hcx, hcy⟩ := inC_n c_1
      have hl : lv_has ls 6 [(0, .ref o), (1, .int (nI xn)), (2, .int y), (3, .int wh)] := by rw [hex] at hl; exact hl
      have hl : lv_has ls 6 [(0, .ref o), (1, .int (nI xn)), (2, .int (nI yn)), (3, .int wh)] := by rw [hey] at hl; exact hl
      have hpl : plc x y = 8 * yn + xn := by rw [plc, hcx, hcy]
      refine lv_iload_n hx hb dX6_cell_19 rfl (lv_at hl 1 rfl) ?_
      refine lv_iload_n hx hb dX6_cell_20 rfl (lv_at hl 2 rfl) ?_
      refine cRS (As := [.int (nI xn), .int (nI yn)]) (rest := []) hx hb hml hown hts (c_X6_placeOf l G E cI cZ xn yn) k_16_15 cal_X6_placeOf ⟨Nat.le_of_ble_eq_true rfl, Nat.le_of_ble_eq_true rfl⟩ hE hlow hS hK [0, 1] rfl hP [] rfl rfl hl.1 rfl (Nat.le_of_ble_eq_true rfl) dX6_cell_21 ⟨Nat.zero_le _, Nat.zero_le _⟩ ?_
      refine lv_istore (lv' := [(4, .int (nI ((8 * yn) + xn))), (0, .ref o), (1, .int (nI xn)), (2, .int (nI yn)), (3, .int wh)]) hx hb dX6_cell_24 hl (by decide) rfl (fun ls hl => ?_)
      refine lv_aload_n hx hb dX6_cell_26 rfl (lv_at hl 1 rfl) ?_
      refine va_get (D := G) (ci := 6) (v := .ref a_s) (C := RX6) (T := TX6) (N := 12) hx hb hts inlX6 hown hK hP 0 rfl rfl 1 (by decide) (hts (.fieldLink RX6 19 "EarthBanks" "slice" "LEarthBanks$Slice;") k_1_20) (fun _ h9 => h9) h_o_s dX6_cell_27 ?_
      refine lv_iload hx hb dX6_cell_30 (lv_at hl 0 rfl) ?_
      refine cRV (As := [.int (nI ((8 * yn) + xn))]) (rest := []) hx hb hml hown hts (c_X2_isAir l G E cI cZ ((8 * yn) + xn) a_s a_s_zo fs_s h_s_zo s_zo (by first | assumption | omega | simp [bI, c_1, c_2])) k_16_16 cal_X2_isAir ⟨Nat.le_of_ble_eq_true rfl, Nat.le_of_ble_eq_true rfl⟩ hE hlow hS hK [0, 1] rfl hP [1, 2] rfl 1 2 rfl rfl rfl hl.1 rfl (Nat.le_of_ble_eq_true rfl) dX6_cell_32 ⟨Nat.zero_le _, Nat.zero_le _⟩ ?_
      refine lv_istore (lv' := [(5, .int (bI (isAirS s_zo ((8 * yn) + xn)))), (4, .int (nI ((8 * yn) + xn))), (0, .ref o), (1, .int (nI xn)), (2, .int (nI yn)), (3, .int wh)]) hx hb dX6_cell_35 hl (by decide) rfl (fun ls hl => ?_)
      refine lv_iload_n hx hb dX6_cell_37 rfl (lv_at hl 5 rfl) ?_
      refine lv_if_ne (tgt := 62) hx hb dX6_cell_38 (by decide) (fun c_3 => ?_) (fun c_3 => ?_)
      · skip
        refine lv_iload hx hb dX6_cell_62 (lv_at hl 0 rfl) ?_
        refine lv_if_eq (tgt := 70) hx hb dX6_cell_64 (by decide) (fun c_4 => ?_) (fun c_4 => ?_)
        · skip
          have c_4 : (isAirS s_zo ((8 * yn) + xn)) = false := bI_f c_4
          refine lv_iload_n hx hb dX6_cell_70 rfl (lv_at hl 5 rfl) ?_
          refine lv_iconst (v := 1) hx hb dX6_cell_71 (by decide) ?_
          refine lv_icmp_ne (tgt := 86) hx hb dX6_cell_72 (by decide) (fun c_5 => ?_) (fun c_5 => ?_)
          · skip
            refine lv_iload_n hx hb dX6_cell_86 rfl (lv_at hl 5 rfl) ?_
            refine lv_iconst (v := 2) hx hb dX6_cell_87 (by decide) ?_
            refine lv_icmp_ne (tgt := 103) hx hb dX6_cell_88 (by decide) (fun c_6 => ?_) (fun c_6 => ?_)
            · skip
              refine lv_aload_n hx hb dX6_cell_103 rfl (lv_at hl 2 rfl) ?_
              refine va_get (D := G) (ci := 6) (v := .ref a_s) (C := RX6) (T := TX6) (N := 12) hx hb hts inlX6 hown hK hP 0 rfl rfl 1 (by decide) (hts (.fieldLink RX6 19 "EarthBanks" "slice" "LEarthBanks$Slice;") k_1_20) (fun _ h9 => h9) h_o_s dX6_cell_104 ?_
              refine va_get (D := G) (ci := 2) (v := .ref a_s_go) (C := RX2) (T := TX2) (N := 9) hx hb hts inlX2 hown hK hP 1 rfl rfl 2 (by decide) (hts (.fieldLink RX6 123 "EarthBanks$Slice" "gone" "[I") k_16_11) (fun _ h9 => h9) h_s_go dX6_cell_107 ?_
              refine lv_iload hx hb dX6_cell_110 (lv_at hl 1 rfl) ?_
              refine ialdN (j := ((8 * yn) + xn)) hx hb hK hP 4 0 rfl rfl (by omega) (by decide) dX6_cell_112 ?_
              exact retR hx hb hr (rfl) hlocks dX6_cell_113 (by simp [cellS, hpl, c_1, c_2, c_3, c_4, c_5, c_6])
            · skip
              refine lv_aload_n hx hb dX6_cell_91 rfl (lv_at hl 2 rfl) ?_
              refine va_get (D := G) (ci := 6) (v := .ref a_s) (C := RX6) (T := TX6) (N := 12) hx hb hts inlX6 hown hK hP 0 rfl rfl 1 (by decide) (hts (.fieldLink RX6 19 "EarthBanks" "slice" "LEarthBanks$Slice;") k_1_20) (fun _ h9 => h9) h_o_s dX6_cell_92 ?_
              refine lv_iload hx hb dX6_cell_95 (lv_at hl 1 rfl) ?_
              refine cRV (As := [.int (nI ((8 * yn) + xn))]) (rest := []) hx hb hml hown hts (c_X2_pushAt l G E cI cZ ((8 * yn) + xn) a_s a_s_he fs_s h_s_he s_he (by first | assumption | omega | simp [bI, c_1, c_2, c_3, c_4, c_5, c_6])) k_16_17 cal_X2_pushAt ⟨Nat.le_of_ble_eq_true rfl, Nat.le_of_ble_eq_true rfl⟩ hE hlow hS hK [0, 1] rfl hP [1, 3] rfl 1 2 rfl rfl rfl hl.1 rfl (Nat.le_of_ble_eq_true rfl) dX6_cell_97 ⟨Nat.zero_le _, Nat.zero_le _⟩ ?_
              refine lv_goto (tgt := 113) hx hb dX6_cell_100 (by decide) ?_
              exact retR hx hb hr (rfl) hlocks dX6_cell_113 (by simp [cellS, hpl, c_1, c_2, c_3, c_4, c_5, eq_true c_6])
          · skip
            refine lv_aload_n hx hb dX6_cell_75 rfl (lv_at hl 2 rfl) ?_
            refine va_get (D := G) (ci := 6) (v := .ref a_s) (C := RX6) (T := TX6) (N := 12) hx hb hts inlX6 hown hK hP 0 rfl rfl 1 (by decide) (hts (.fieldLink RX6 19 "EarthBanks" "slice" "LEarthBanks$Slice;") k_1_20) (fun _ h9 => h9) h_o_s dX6_cell_76 ?_
            refine va_get (D := G) (ci := 2) (v := .ref a_s_he) (C := RX2) (T := TX2) (N := 9) hx hb hts inlX2 hown hK hP 1 rfl rfl 1 (by decide) (hts (.fieldLink RX6 116 "EarthBanks$Slice" "heads" "[I") k_16_10) (fun _ h9 => h9) h_s_he dX6_cell_79 ?_
            refine lv_iload hx hb dX6_cell_82 (lv_at hl 1 rfl) ?_
            refine ialdN (j := ((8 * yn) + xn)) hx hb hK hP 3 0 rfl rfl (by omega) (by decide) dX6_cell_84 ?_
            exact retR hx hb hr (rfl) hlocks dX6_cell_85 (by simp [cellS, hpl, c_1, c_2, c_3, c_4, eq_true c_5])
        · skip
          have c_4 : (isAirS s_zo ((8 * yn) + xn)) = true := bI_t c_4
          refine lv_bipush (v := (-2)) hx hb dX6_cell_67 (by decide) ?_
          exact retR hx hb hr (rfl) hlocks dX6_cell_69 (by simp [cellS, hpl, c_1, c_2, c_3, c_4])
      · skip
        refine lv_iload hx hb dX6_cell_41 (lv_at hl 0 rfl) ?_
        refine lv_if_eq (tgt := 51) hx hb dX6_cell_43 (by decide) (fun c_7 => ?_) (fun c_7 => ?_)
        · skip
          have c_7 : (isAirS s_zo ((8 * yn) + xn)) = false := bI_f c_7
          refine lv_aload_n hx hb dX6_cell_51 rfl (lv_at hl 2 rfl) ?_
          refine va_get (D := G) (ci := 6) (v := .ref a_s) (C := RX6) (T := TX6) (N := 12) hx hb hts inlX6 hown hK hP 0 rfl rfl 1 (by decide) (hts (.fieldLink RX6 19 "EarthBanks" "slice" "LEarthBanks$Slice;") k_1_20) (fun _ h9 => h9) h_o_s dX6_cell_52 ?_
          refine va_get (D := G) (ci := 2) (v := .ref a_s_zo) (C := RX2) (T := TX2) (N := 9) hx hb hts inlX2 hown hK hP 1 rfl rfl 0 (by decide) (hts (.fieldLink RX6 113 "EarthBanks$Slice" "zones" "[I") k_16_9) (fun _ h9 => h9) h_s_zo dX6_cell_55 ?_
          refine lv_iload hx hb dX6_cell_58 (lv_at hl 1 rfl) ?_
          refine ialdN (j := ((8 * yn) + xn)) hx hb hK hP 2 0 rfl rfl (by omega) (by decide) dX6_cell_60 ?_
          exact retR hx hb hr (rfl) hlocks dX6_cell_61 (by simp [cellS, hpl, c_1, c_2, eq_true c_3, c_7])
        · skip
          have c_7 : (isAirS s_zo ((8 * yn) + xn)) = true := bI_t c_7
          refine lv_bipush (v := (-9)) hx hb dX6_cell_46 (by decide) ?_
          refine lv_goto (tgt := 61) hx hb dX6_cell_48 (by decide) ?_
          exact retR hx hb hr (rfl) hlocks dX6_cell_61 (by simp [cellS, hpl, c_1, c_2, eq_true c_3, c_7])
    · skip
      have c_2 : (wiB wh 0 3) = false := bI_f c_2
      refine lv_iconst (v := (-1)) hx hb dX6_cell_17 (by decide) ?_
      exact retR hx hb hr (rfl) hlocks dX6_cell_18 (by simp [cellS, c_1, c_2])
theorem cal_X6_zone : calV yX6_zone cX6_zone 6 (some .int) 3 := ⟨k_17_14, k_1_2, k_17_12, k_17_13, by decide +kernel⟩
set_option maxHeartbeats 4000000 in
set_option maxRecDepth 100000 in
theorem c_X6_zone (l : Launch) (G : va_G) (E : EvT) (cI cZ : ClassId) (z : Int32) (wh : Int32) (v : Int32) (o : Nat) (a_s : Nat) (a_s_le : Nat) (a_s_hd : Nat) (a_s_gn : Nat) (fs_o : List Value) (h_o_s : fs_o[1]? = some (.ref a_s)) (fs_s : List Value) (h_s_gn : fs_s[5]? = some (.ref a_s_gn)) (h_s_hd : fs_s[4]? = some (.ref a_s_hd)) (h_s_le : fs_s[3]? = some (.ref a_s_le)) (s_le : Nat → Int32) (s_hd : Nat → Int32) (s_gn : Nat → Int32) : cWi (S := Unit) l G E yX6_zone cX6_zone 6 (some .int) 3 [(cI, .int), (cZ, .boolean)] [.ref o, .int z, .int wh, .int v] [(o, .inr (6, fs_o)), (a_s, .inr (2, fs_s)), (a_s_le, .inl (cI, 6, .inl s_le)), (a_s_hd, .inl (cI, 6, .inl s_hd)), (a_s_gn, .inl (cI, 6, .inl s_gn))] (fun r _ => r = zoneS s_le s_hd s_gn z wh v) (fun _ => [(o, .inr (6, fs_o)), (a_s, .inr (2, fs_s)), (a_s_le, .inl (cI, 6, .inl (zupS s_le z wh v 0 (decide (wh = 0))))), (a_s_hd, .inl (cI, 6, .inl (zupS s_hd z wh v 0 (!decide (wh = 0) && decide (wh = 1))))), (a_s_gn, .inl (cI, 6, .inl (zupS s_gn z wh v 0 (!decide (wh = 0) && !decide (wh = 1)))))]) := by
  refine mkWi (by decide) (Nat.le_of_ble_eq_true rfl) ?_
  intro zp ze s zm args below meth zc hx hb hr hml hown hts hlocks hE hK A hA hlow H locs hP hD hS ls hl
  have hl : lv_has ls 6 [(0, .ref o), (1, .int z), (2, .int wh), (3, .int v)] := hl
  refine lv_iload_n hx hb dX6_zone_0 rfl (lv_at hl 1 rfl) ?_
  refine cRS (As := [.int z]) (rest := []) hx hb hml hown hts (c_X6_isZone l G E cI cZ z) k_17_18 cal_X6_isZone ⟨Nat.le_of_ble_eq_true rfl, Nat.le_of_ble_eq_true rfl⟩ hE hlow hS hK [0, 1] rfl hP [] rfl rfl hl.1 rfl (Nat.le_of_ble_eq_true rfl) dX6_zone_1 ⟨Nat.zero_le _, Nat.zero_le _⟩ ?_
  refine lv_if_eq (tgt := 23) hx hb dX6_zone_4 (by decide) (fun c_1 => ?_) (fun c_1 => ?_)
  · skip
    have c_1 : (wiB z 0 5) = false := bI_f c_1
    refine lv_iconst (v := (-1)) hx hb dX6_zone_23 (by decide) ?_
    have ew_2 : s_le = (zupS s_le z wh v 0 (decide (wh = 0))) := by simp [zupS, zvB, c_1]
    have ew_3 : s_hd = (zupS s_hd z wh v 0 (!decide (wh = 0) && decide (wh = 1))) := by simp [zupS, zvB, c_1]
    have ew_4 : s_gn = (zupS s_gn z wh v 0 (!decide (wh = 0) && !decide (wh = 1))) := by simp [zupS, zvB, c_1]
    have hP : va_P G vwCl [(o, .inr (6, fs_o)), (a_s, .inr (2, fs_s)), (a_s_le, .inl (cI, 6, .inl (zupS s_le z wh v 0 (decide (wh = 0))))), (a_s_hd, .inl (cI, 6, .inl (zupS s_hd z wh v 0 (!decide (wh = 0) && decide (wh = 1))))), (a_s_gn, .inl (cI, 6, .inl (zupS s_gn z wh v 0 (!decide (wh = 0) && !decide (wh = 1)))))] H := by rw [← ew_2, ← ew_3, ← ew_4]; exact hP
    exact retWi () hx hb hr (rfl) hlocks dX6_zone_24 hS (by simp [zoneS, zvB, c_1]) hP
  · skip
    have c_1 : (wiB z 0 5) = true := bI_t c_1
    refine lv_iload_n hx hb dX6_zone_7 rfl (lv_at hl 2 rfl) ?_
    refine lv_iconst (v := 0) hx hb dX6_zone_8 (by decide) ?_
    refine lv_iconst (v := 2) hx hb dX6_zone_9 (by decide) ?_
    refine cRS (As := [.int wh, .int 0, .int 2]) (rest := []) hx hb hml hown hts (c_X6_within l G E cI cZ wh 0 2) k_7_8 cal_X6_within ⟨Nat.le_of_ble_eq_true rfl, Nat.le_of_ble_eq_true rfl⟩ hE hlow hS hK [0, 1] rfl hP [] rfl rfl hl.1 rfl (Nat.le_of_ble_eq_true rfl) dX6_zone_10 ⟨Nat.zero_le _, Nat.zero_le _⟩ ?_
    refine lv_if_eq (tgt := 23) hx hb dX6_zone_13 (by decide) (fun c_5 => ?_) (fun c_5 => ?_)
    · skip
      have c_5 : (wiB wh 0 2) = false := bI_f c_5
      refine lv_iconst (v := (-1)) hx hb dX6_zone_23 (by decide) ?_
      have ew_6 : s_le = (zupS s_le z wh v 0 (decide (wh = 0))) := by simp [zupS, zvB, c_1, c_5]
      have ew_7 : s_hd = (zupS s_hd z wh v 0 (!decide (wh = 0) && decide (wh = 1))) := by simp [zupS, zvB, c_1, c_5]
      have ew_8 : s_gn = (zupS s_gn z wh v 0 (!decide (wh = 0) && !decide (wh = 1))) := by simp [zupS, zvB, c_1, c_5]
      have hP : va_P G vwCl [(o, .inr (6, fs_o)), (a_s, .inr (2, fs_s)), (a_s_le, .inl (cI, 6, .inl (zupS s_le z wh v 0 (decide (wh = 0))))), (a_s_hd, .inl (cI, 6, .inl (zupS s_hd z wh v 0 (!decide (wh = 0) && decide (wh = 1))))), (a_s_gn, .inl (cI, 6, .inl (zupS s_gn z wh v 0 (!decide (wh = 0) && !decide (wh = 1)))))] H := by rw [← ew_6, ← ew_7, ← ew_8]; exact hP
      exact retWi () hx hb hr (rfl) hlocks dX6_zone_24 hS (by simp [zoneS, zvB, c_1, c_5]) hP
    · skip
      have c_5 : (wiB wh 0 2) = true := bI_t c_5
      refine lv_iload_n hx hb dX6_zone_16 rfl (lv_at hl 3 rfl) ?_
      refine cRS (As := [.int v]) (rest := []) hx hb hml hown hts (c_X6_isTrait l G E cI cZ v) k_17_19 cal_X6_isTrait ⟨Nat.le_of_ble_eq_true rfl, Nat.le_of_ble_eq_true rfl⟩ hE hlow hS hK [0, 1] rfl hP [] rfl rfl hl.1 rfl (Nat.le_of_ble_eq_true rfl) dX6_zone_17 ⟨Nat.zero_le _, Nat.zero_le _⟩ ?_
      refine lv_if_ne (tgt := 25) hx hb dX6_zone_20 (by decide) (fun c_9 => ?_) (fun c_9 => ?_)
      · skip
        have c_9 : (wiB v 1 99) = true := bI_t c_9
        obtain ⟨zn, hz9, hez, hcz⟩ := wiB_n (M := 5) (by omega) c_1
        have hl : lv_has ls 6 [(0, .ref o), (1, .int (nI zn)), (2, .int wh), (3, .int v)] := by rw [hez] at hl; exact hl
        refine lv_iload_n hx hb dX6_zone_25 rfl (lv_at hl 2 rfl) ?_
        refine lv_if_ne (tgt := 39) hx hb dX6_zone_26 (by decide) (fun c_10 => ?_) (fun c_10 => ?_)
        · skip
          refine lv_iload_n hx hb dX6_zone_39 rfl (lv_at hl 2 rfl) ?_
          refine lv_iconst (v := 1) hx hb dX6_zone_40 (by decide) ?_
          refine lv_icmp_ne (tgt := 54) hx hb dX6_zone_41 (by decide) (fun c_11 => ?_) (fun c_11 => ?_)
          · skip
            refine lv_aload_n hx hb dX6_zone_54 rfl (lv_at hl 0 rfl) ?_
            refine va_get (D := G) (ci := 6) (v := .ref a_s) (C := RX6) (T := TX6) (N := 12) hx hb hts inlX6 hown hK hP 0 rfl rfl 1 (by decide) (hts (.fieldLink RX6 19 "EarthBanks" "slice" "LEarthBanks$Slice;") k_1_20) (fun _ h9 => h9) h_o_s dX6_zone_55 ?_
            refine va_get (D := G) (ci := 2) (v := .ref a_s_gn) (C := RX2) (T := TX2) (N := 9) hx hb hts inlX2 hown hK hP 1 rfl rfl 5 (by decide) (hts (.fieldLink RX6 138 "EarthBanks$Slice" "grains" "[I") k_17_17) (fun _ h9 => h9) h_s_gn dX6_zone_58 ?_
            refine lv_astore (lv' := [(4, .ref a_s_gn), (0, .ref o), (1, .int (nI zn)), (2, .int wh), (3, .int v)]) hx hb dX6_zone_61 hl (by decide) rfl (fun ls hl => ?_)
            refine lv_aload hx hb dX6_zone_63 (lv_at hl 0 rfl) ?_
            refine lv_iload_n hx hb dX6_zone_65 rfl (lv_at hl 2 rfl) ?_
            refine ialdN (j := zn) hx hb hK hP 4 0 rfl rfl (by omega) (by decide) dX6_zone_66 ?_
            refine lv_istore (lv' := [(5, .int (s_gn zn)), (4, .ref a_s_gn), (0, .ref o), (1, .int (nI zn)), (2, .int wh), (3, .int v)]) hx hb dX6_zone_67 hl (by decide) rfl (fun ls hl => ?_)
            refine lv_aload hx hb dX6_zone_69 (lv_at hl 1 rfl) ?_
            refine lv_iload_n hx hb dX6_zone_71 rfl (lv_at hl 3 rfl) ?_
            refine lv_iload_n hx hb dX6_zone_72 rfl (lv_at hl 5 rfl) ?_
            refine iastN (j := zn) hx hb hK hP hD hS 4 0 rfl rfl (by omega) (by decide) dX6_zone_73 (fun H locs hP hD hS => ?_)
            have hP : va_P G vwCl [(o, .inr (6, fs_o)), (a_s, .inr (2, fs_s)), (a_s_le, .inl (cI, 6, .inl s_le)), (a_s_hd, .inl (cI, 6, .inl s_hd)), (a_s_gn, .inl (cI, 6, .inl (upd s_gn zn v)))] H := hP
            have hD : va_D A [(o, .inr (6, fs_o)), (a_s, .inr (2, fs_s)), (a_s_le, .inl (cI, 6, .inl s_le)), (a_s_hd, .inl (cI, 6, .inl s_hd)), (a_s_gn, .inl (cI, 6, .inl (upd s_gn zn v)))] := hD
            refine lv_iload hx hb dX6_zone_74 (lv_at hl 0 rfl) ?_
            have ew_12 : s_le = (zupS s_le z wh v 0 (decide (wh = 0))) := by simp [zupS, zvB, hcz, c_1, c_5, c_9, c_10, c_11]
            have ew_13 : s_hd = (zupS s_hd z wh v 0 (!decide (wh = 0) && decide (wh = 1))) := by simp [zupS, zvB, hcz, c_1, c_5, c_9, c_10, c_11]
            have ew_14 : (upd s_gn zn v) = (zupS s_gn z wh v 0 (!decide (wh = 0) && !decide (wh = 1))) := by simp [zupS, zvB, hcz, c_1, c_5, c_9, c_10, c_11]
            have hP : va_P G vwCl [(o, .inr (6, fs_o)), (a_s, .inr (2, fs_s)), (a_s_le, .inl (cI, 6, .inl (zupS s_le z wh v 0 (decide (wh = 0))))), (a_s_hd, .inl (cI, 6, .inl (zupS s_hd z wh v 0 (!decide (wh = 0) && decide (wh = 1))))), (a_s_gn, .inl (cI, 6, .inl (zupS s_gn z wh v 0 (!decide (wh = 0) && !decide (wh = 1)))))] H := by rw [← ew_12, ← ew_13, ← ew_14]; exact hP
            exact retWi () hx hb hr (rfl) hlocks dX6_zone_76 hS (by simp [zoneS, zvB, hcz, c_1, c_5, c_9, c_10, c_11]) hP
          · skip
            refine lv_aload_n hx hb dX6_zone_44 rfl (lv_at hl 0 rfl) ?_
            refine va_get (D := G) (ci := 6) (v := .ref a_s) (C := RX6) (T := TX6) (N := 12) hx hb hts inlX6 hown hK hP 0 rfl rfl 1 (by decide) (hts (.fieldLink RX6 19 "EarthBanks" "slice" "LEarthBanks$Slice;") k_1_20) (fun _ h9 => h9) h_o_s dX6_zone_45 ?_
            refine va_get (D := G) (ci := 2) (v := .ref a_s_hd) (C := RX2) (T := TX2) (N := 9) hx hb hts inlX2 hown hK hP 1 rfl rfl 4 (by decide) (hts (.fieldLink RX6 135 "EarthBanks$Slice" "holds" "[I") k_17_16) (fun _ h9 => h9) h_s_hd dX6_zone_48 ?_
            refine lv_goto (tgt := 61) hx hb dX6_zone_51 (by decide) ?_
            refine lv_astore (lv' := [(4, .ref a_s_hd), (0, .ref o), (1, .int (nI zn)), (2, .int wh), (3, .int v)]) hx hb dX6_zone_61 hl (by decide) rfl (fun ls hl => ?_)
            refine lv_aload hx hb dX6_zone_63 (lv_at hl 0 rfl) ?_
            refine lv_iload_n hx hb dX6_zone_65 rfl (lv_at hl 2 rfl) ?_
            refine ialdN (j := zn) hx hb hK hP 3 0 rfl rfl (by omega) (by decide) dX6_zone_66 ?_
            refine lv_istore (lv' := [(5, .int (s_hd zn)), (4, .ref a_s_hd), (0, .ref o), (1, .int (nI zn)), (2, .int wh), (3, .int v)]) hx hb dX6_zone_67 hl (by decide) rfl (fun ls hl => ?_)
            refine lv_aload hx hb dX6_zone_69 (lv_at hl 1 rfl) ?_
            refine lv_iload_n hx hb dX6_zone_71 rfl (lv_at hl 3 rfl) ?_
            refine lv_iload_n hx hb dX6_zone_72 rfl (lv_at hl 5 rfl) ?_
            refine iastN (j := zn) hx hb hK hP hD hS 3 0 rfl rfl (by omega) (by decide) dX6_zone_73 (fun H locs hP hD hS => ?_)
            have hP : va_P G vwCl [(o, .inr (6, fs_o)), (a_s, .inr (2, fs_s)), (a_s_le, .inl (cI, 6, .inl s_le)), (a_s_hd, .inl (cI, 6, .inl (upd s_hd zn v))), (a_s_gn, .inl (cI, 6, .inl s_gn))] H := hP
            have hD : va_D A [(o, .inr (6, fs_o)), (a_s, .inr (2, fs_s)), (a_s_le, .inl (cI, 6, .inl s_le)), (a_s_hd, .inl (cI, 6, .inl (upd s_hd zn v))), (a_s_gn, .inl (cI, 6, .inl s_gn))] := hD
            refine lv_iload hx hb dX6_zone_74 (lv_at hl 0 rfl) ?_
            have ew_15 : s_le = (zupS s_le z wh v 0 (decide (wh = 0))) := by simp [zupS, zvB, hcz, c_1, c_5, c_9, c_10, eq_true c_11]
            have ew_16 : (upd s_hd zn v) = (zupS s_hd z wh v 0 (!decide (wh = 0) && decide (wh = 1))) := by simp [zupS, zvB, hcz, c_1, c_5, c_9, c_10, eq_true c_11]
            have ew_17 : s_gn = (zupS s_gn z wh v 0 (!decide (wh = 0) && !decide (wh = 1))) := by simp [zupS, zvB, hcz, c_1, c_5, c_9, c_10, eq_true c_11]
            have hP : va_P G vwCl [(o, .inr (6, fs_o)), (a_s, .inr (2, fs_s)), (a_s_le, .inl (cI, 6, .inl (zupS s_le z wh v 0 (decide (wh = 0))))), (a_s_hd, .inl (cI, 6, .inl (zupS s_hd z wh v 0 (!decide (wh = 0) && decide (wh = 1))))), (a_s_gn, .inl (cI, 6, .inl (zupS s_gn z wh v 0 (!decide (wh = 0) && !decide (wh = 1)))))] H := by rw [← ew_15, ← ew_16, ← ew_17]; exact hP
            exact retWi () hx hb hr (rfl) hlocks dX6_zone_76 hS (by simp [zoneS, zvB, hcz, c_1, c_5, c_9, c_10, eq_true c_11]) hP
        · skip
          refine lv_aload_n hx hb dX6_zone_29 rfl (lv_at hl 0 rfl) ?_
          refine va_get (D := G) (ci := 6) (v := .ref a_s) (C := RX6) (T := TX6) (N := 12) hx hb hts inlX6 hown hK hP 0 rfl rfl 1 (by decide) (hts (.fieldLink RX6 19 "EarthBanks" "slice" "LEarthBanks$Slice;") k_1_20) (fun _ h9 => h9) h_o_s dX6_zone_30 ?_
          refine va_get (D := G) (ci := 2) (v := .ref a_s_le) (C := RX2) (T := TX2) (N := 9) hx hb hts inlX2 hown hK hP 1 rfl rfl 3 (by decide) (hts (.fieldLink RX6 132 "EarthBanks$Slice" "leads" "[I") k_17_15) (fun _ h9 => h9) h_s_le dX6_zone_33 ?_
          refine lv_goto (tgt := 61) hx hb dX6_zone_36 (by decide) ?_
          refine lv_astore (lv' := [(4, .ref a_s_le), (0, .ref o), (1, .int (nI zn)), (2, .int wh), (3, .int v)]) hx hb dX6_zone_61 hl (by decide) rfl (fun ls hl => ?_)
          refine lv_aload hx hb dX6_zone_63 (lv_at hl 0 rfl) ?_
          refine lv_iload_n hx hb dX6_zone_65 rfl (lv_at hl 2 rfl) ?_
          refine ialdN (j := zn) hx hb hK hP 2 0 rfl rfl (by omega) (by decide) dX6_zone_66 ?_
          refine lv_istore (lv' := [(5, .int (s_le zn)), (4, .ref a_s_le), (0, .ref o), (1, .int (nI zn)), (2, .int wh), (3, .int v)]) hx hb dX6_zone_67 hl (by decide) rfl (fun ls hl => ?_)
          refine lv_aload hx hb dX6_zone_69 (lv_at hl 1 rfl) ?_
          refine lv_iload_n hx hb dX6_zone_71 rfl (lv_at hl 3 rfl) ?_
          refine lv_iload_n hx hb dX6_zone_72 rfl (lv_at hl 5 rfl) ?_
          refine iastN (j := zn) hx hb hK hP hD hS 2 0 rfl rfl (by omega) (by decide) dX6_zone_73 (fun H locs hP hD hS => ?_)
          have hP : va_P G vwCl [(o, .inr (6, fs_o)), (a_s, .inr (2, fs_s)), (a_s_le, .inl (cI, 6, .inl (upd s_le zn v))), (a_s_hd, .inl (cI, 6, .inl s_hd)), (a_s_gn, .inl (cI, 6, .inl s_gn))] H := hP
          have hD : va_D A [(o, .inr (6, fs_o)), (a_s, .inr (2, fs_s)), (a_s_le, .inl (cI, 6, .inl (upd s_le zn v))), (a_s_hd, .inl (cI, 6, .inl s_hd)), (a_s_gn, .inl (cI, 6, .inl s_gn))] := hD
          refine lv_iload hx hb dX6_zone_74 (lv_at hl 0 rfl) ?_
          have ew_18 : (upd s_le zn v) = (zupS s_le z wh v 0 (decide (wh = 0))) := by simp [zupS, zvB, hcz, c_1, c_5, c_9, eq_true c_10]
          have ew_19 : s_hd = (zupS s_hd z wh v 0 (!decide (wh = 0) && decide (wh = 1))) := by simp [zupS, zvB, hcz, c_1, c_5, c_9, eq_true c_10]
          have ew_20 : s_gn = (zupS s_gn z wh v 0 (!decide (wh = 0) && !decide (wh = 1))) := by simp [zupS, zvB, hcz, c_1, c_5, c_9, eq_true c_10]
          have hP : va_P G vwCl [(o, .inr (6, fs_o)), (a_s, .inr (2, fs_s)), (a_s_le, .inl (cI, 6, .inl (zupS s_le z wh v 0 (decide (wh = 0))))), (a_s_hd, .inl (cI, 6, .inl (zupS s_hd z wh v 0 (!decide (wh = 0) && decide (wh = 1))))), (a_s_gn, .inl (cI, 6, .inl (zupS s_gn z wh v 0 (!decide (wh = 0) && !decide (wh = 1)))))] H := by rw [← ew_18, ← ew_19, ← ew_20]; exact hP
          exact retWi () hx hb hr (rfl) hlocks dX6_zone_76 hS (by simp [zoneS, zvB, hcz, c_1, c_5, c_9, eq_true c_10]) hP
      · skip
        have c_9 : (wiB v 1 99) = false := bI_f c_9
        refine lv_iconst (v := (-1)) hx hb dX6_zone_23 (by decide) ?_
        have ew_21 : s_le = (zupS s_le z wh v 0 (decide (wh = 0))) := by simp [zupS, zvB, c_1, c_5, c_9]
        have ew_22 : s_hd = (zupS s_hd z wh v 0 (!decide (wh = 0) && decide (wh = 1))) := by simp [zupS, zvB, c_1, c_5, c_9]
        have ew_23 : s_gn = (zupS s_gn z wh v 0 (!decide (wh = 0) && !decide (wh = 1))) := by simp [zupS, zvB, c_1, c_5, c_9]
        have hP : va_P G vwCl [(o, .inr (6, fs_o)), (a_s, .inr (2, fs_s)), (a_s_le, .inl (cI, 6, .inl (zupS s_le z wh v 0 (decide (wh = 0))))), (a_s_hd, .inl (cI, 6, .inl (zupS s_hd z wh v 0 (!decide (wh = 0) && decide (wh = 1))))), (a_s_gn, .inl (cI, 6, .inl (zupS s_gn z wh v 0 (!decide (wh = 0) && !decide (wh = 1)))))] H := by rw [← ew_21, ← ew_22, ← ew_23]; exact hP
        exact retWi () hx hb hr (rfl) hlocks dX6_zone_24 hS (by simp [zoneS, zvB, c_1, c_5, c_9]) hP
