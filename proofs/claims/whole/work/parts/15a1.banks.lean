theorem cal_X6_isCell : calS yX6_isCell cX6_isCell 2 (some .boolean) 2 := ⟨k_16_14, k_1_2, k_16_13, by decide +kernel⟩
set_option maxHeartbeats 4000000 in
set_option maxRecDepth 100000 in
theorem c_X6_isCell (l : Launch) (G : va_G) (E : EvT) (cI cZ : ClassId) (x : Int32) (y : Int32) : cR l G E yX6_isCell cX6_isCell 2 (some .boolean) 2 [(cI, .int), (cZ, .boolean)] [.int x, .int y] [] (bI (inC x y)) := by
  refine mkR (by decide) (Nat.le_of_ble_eq_true rfl) ?_
  intro zp ze s zm args below meth zc hx hb hr hml hown hts hlocks hE hP hK ls hl
  have hS : va_S (fun _ => False) s.heap s.heap [] := va_S.rf
  have hlow : ∀ q : Nat, (fun _ : Nat => False) q → E.1 ≤ q := fun _ h => h.elim
  have hl : lv_has ls 2 [(0, .int x), (1, .int y)] := hl
  refine lv_iload_n hx hb dX6_isCell_0 rfl (lv_at hl 0 rfl) ?_
  refine lv_iconst (v := 0) hx hb dX6_isCell_1 (by decide) ?_
  refine lv_bipush (v := 7) hx hb dX6_isCell_2 (by decide) ?_
  refine cRS (As := [.int x, .int 0, .int 7]) (rest := []) hx hb hml hown hts (c_X6_within l G E cI cZ x 0 7) k_7_8 cal_X6_within ⟨Nat.le_of_ble_eq_true rfl, Nat.le_of_ble_eq_true rfl⟩ hE hlow hS hK [0, 1] rfl hP [] rfl rfl hl.1 rfl (Nat.le_of_ble_eq_true rfl) dX6_isCell_4 ⟨Nat.zero_le _, Nat.zero_le _⟩ ?_
  refine lv_if_eq (tgt := 23) hx hb dX6_isCell_7 (by decide) (fun c_1 => ?_) (fun c_1 => ?_)
  · skip
    have c_1 : (wiB x 0 7) = false := bI_f c_1
    refine lv_iconst (v := 0) hx hb dX6_isCell_23 (by decide) ?_
    exact retR hx hb hr (rfl) hlocks dX6_isCell_24 (by simp [inC, bI, c_1])
  · skip
    have c_1 : (wiB x 0 7) = true := bI_t c_1
    refine lv_iload_n hx hb dX6_isCell_10 rfl (lv_at hl 1 rfl) ?_
    refine lv_iconst (v := 0) hx hb dX6_isCell_11 (by decide) ?_
    refine lv_iconst (v := 5) hx hb dX6_isCell_12 (by decide) ?_
    refine cRS (As := [.int y, .int 0, .int 5]) (rest := []) hx hb hml hown hts (c_X6_within l G E cI cZ y 0 5) k_7_8 cal_X6_within ⟨Nat.le_of_ble_eq_true rfl, Nat.le_of_ble_eq_true rfl⟩ hE hlow hS hK [0, 1] rfl hP [] rfl rfl hl.1 rfl (Nat.le_of_ble_eq_true rfl) dX6_isCell_13 ⟨Nat.zero_le _, Nat.zero_le _⟩ ?_
    refine lv_if_eq (tgt := 23) hx hb dX6_isCell_16 (by decide) (fun c_2 => ?_) (fun c_2 => ?_)
    · skip
      have c_2 : (wiB y 0 5) = false := bI_f c_2
      refine lv_iconst (v := 0) hx hb dX6_isCell_23 (by decide) ?_
      exact retR hx hb hr (rfl) hlocks dX6_isCell_24 (by simp [inC, bI, c_1, c_2])
    · skip
      have c_2 : (wiB y 0 5) = true := bI_t c_2
      refine lv_iconst (v := 1) hx hb dX6_isCell_19 (by decide) ?_
      refine lv_goto (tgt := 24) hx hb dX6_isCell_20 (by decide) ?_
      exact retR hx hb hr (rfl) hlocks dX6_isCell_24 (by simp [inC, bI, c_1, c_2])
theorem cal_X6_isZone : calS yX6_isZone cX6_isZone 1 (some .boolean) 1 := ⟨k_12_13, k_1_2, k_12_12, by decide +kernel⟩
set_option maxHeartbeats 4000000 in
set_option maxRecDepth 100000 in
theorem c_X6_isZone (l : Launch) (G : va_G) (E : EvT) (cI cZ : ClassId) (v : Int32) : cR l G E yX6_isZone cX6_isZone 1 (some .boolean) 2 [(cI, .int), (cZ, .boolean)] [.int v] [] (bI (wiB v 0 5)) := by
  refine mkR (by decide) (Nat.le_of_ble_eq_true rfl) ?_
  intro zp ze s zm args below meth zc hx hb hr hml hown hts hlocks hE hP hK ls hl
  have hS : va_S (fun _ => False) s.heap s.heap [] := va_S.rf
  have hlow : ∀ q : Nat, (fun _ : Nat => False) q → E.1 ≤ q := fun _ h => h.elim
  have hl : lv_has ls 1 [(0, .int v)] := hl
  refine lv_iload_n hx hb dX6_isZone_0 rfl (lv_at hl 0 rfl) ?_
  refine lv_iconst (v := 0) hx hb dX6_isZone_1 (by decide) ?_
  refine lv_iconst (v := 5) hx hb dX6_isZone_2 (by decide) ?_
  refine cRS (As := [.int v, .int 0, .int 5]) (rest := []) hx hb hml hown hts (c_X6_within l G E cI cZ v 0 5) k_7_8 cal_X6_within ⟨Nat.le_of_ble_eq_true rfl, Nat.le_of_ble_eq_true rfl⟩ hE hlow hS hK [0, 1] rfl hP [] rfl rfl hl.1 rfl (Nat.le_of_ble_eq_true rfl) dX6_isZone_3 ⟨Nat.zero_le _, Nat.zero_le _⟩ ?_
  exact retR hx hb hr (bI_n _) hlocks dX6_isZone_6 (rfl)
theorem cal_X6_isTrait : calS yX6_isTrait cX6_isTrait 1 (some .boolean) 1 := ⟨k_17_21, k_1_2, k_17_20, by decide +kernel⟩
set_option maxHeartbeats 4000000 in
set_option maxRecDepth 100000 in
theorem c_X6_isTrait (l : Launch) (G : va_G) (E : EvT) (cI cZ : ClassId) (v : Int32) : cR l G E yX6_isTrait cX6_isTrait 1 (some .boolean) 2 [(cI, .int), (cZ, .boolean)] [.int v] [] (bI (wiB v 1 99)) := by
  refine mkR (by decide) (Nat.le_of_ble_eq_true rfl) ?_
  intro zp ze s zm args below meth zc hx hb hr hml hown hts hlocks hE hP hK ls hl
  have hS : va_S (fun _ => False) s.heap s.heap [] := va_S.rf
  have hlow : ∀ q : Nat, (fun _ : Nat => False) q → E.1 ≤ q := fun _ h => h.elim
  have hl : lv_has ls 1 [(0, .int v)] := hl
  refine lv_iload_n hx hb dX6_isTrait_0 rfl (lv_at hl 0 rfl) ?_
  refine lv_iconst (v := 1) hx hb dX6_isTrait_1 (by decide) ?_
  refine lv_bipush (v := 99) hx hb dX6_isTrait_2 (by decide) ?_
  refine cRS (As := [.int v, .int 1, .int 99]) (rest := []) hx hb hml hown hts (c_X6_within l G E cI cZ v 1 99) k_7_8 cal_X6_within ⟨Nat.le_of_ble_eq_true rfl, Nat.le_of_ble_eq_true rfl⟩ hE hlow hS hK [0, 1] rfl hP [] rfl rfl hl.1 rfl (Nat.le_of_ble_eq_true rfl) dX6_isTrait_4 ⟨Nat.zero_le _, Nat.zero_le _⟩ ?_
  exact retR hx hb hr (bI_n _) hlocks dX6_isTrait_7 (rfl)
theorem cal_X6_isFlood : calS yX6_isFlood cX6_isFlood 1 (some .boolean) 1 := ⟨k_32_5, k_1_2, k_32_4, by decide +kernel⟩
set_option maxHeartbeats 4000000 in
set_option maxRecDepth 100000 in
theorem c_X6_isFlood (l : Launch) (G : va_G) (E : EvT) (cI cZ : ClassId) (v : Int32) : cR l G E yX6_isFlood cX6_isFlood 1 (some .boolean) 2 [(cI, .int), (cZ, .boolean)] [.int v] [] (bI (wiB v 0 7)) := by
  refine mkR (by decide) (Nat.le_of_ble_eq_true rfl) ?_
  intro zp ze s zm args below meth zc hx hb hr hml hown hts hlocks hE hP hK ls hl
  have hS : va_S (fun _ => False) s.heap s.heap [] := va_S.rf
  have hlow : ∀ q : Nat, (fun _ : Nat => False) q → E.1 ≤ q := fun _ h => h.elim
  have hl : lv_has ls 1 [(0, .int v)] := hl
  refine lv_iload_n hx hb dX6_isFlood_0 rfl (lv_at hl 0 rfl) ?_
  refine lv_iconst (v := 0) hx hb dX6_isFlood_1 (by decide) ?_
  refine lv_bipush (v := 7) hx hb dX6_isFlood_2 (by decide) ?_
  refine cRS (As := [.int v, .int 0, .int 7]) (rest := []) hx hb hml hown hts (c_X6_within l G E cI cZ v 0 7) k_7_8 cal_X6_within ⟨Nat.le_of_ble_eq_true rfl, Nat.le_of_ble_eq_true rfl⟩ hE hlow hS hK [0, 1] rfl hP [] rfl rfl hl.1 rfl (Nat.le_of_ble_eq_true rfl) dX6_isFlood_4 ⟨Nat.zero_le _, Nat.zero_le _⟩ ?_
  exact retR hx hb hr (bI_n _) hlocks dX6_isFlood_7 (rfl)
theorem cal_X6_isPoolWater : calS yX6_isPoolWater cX6_isPoolWater 1 (some .boolean) 1 := ⟨k_31_13, k_1_2, k_31_12, by decide +kernel⟩
set_option maxHeartbeats 4000000 in
set_option maxRecDepth 100000 in
theorem c_X6_isPoolWater (l : Launch) (G : va_G) (E : EvT) (cI cZ : ClassId) (v : Int32) : cR l G E yX6_isPoolWater cX6_isPoolWater 1 (some .boolean) 2 [(cI, .int), (cZ, .boolean)] [.int v] [] (bI (wiB v 0 9999)) := by
  refine mkR (by decide) (Nat.le_of_ble_eq_true rfl) ?_
  intro zp ze s zm args below meth zc hx hb hr hml hown hts hlocks hE hP hK ls hl
  have hS : va_S (fun _ => False) s.heap s.heap [] := va_S.rf
  have hlow : ∀ q : Nat, (fun _ : Nat => False) q → E.1 ≤ q := fun _ h => h.elim
  have hl : lv_has ls 1 [(0, .int v)] := hl
  refine lv_iload_n hx hb dX6_isPoolWater_0 rfl (lv_at hl 0 rfl) ?_
  refine lv_iconst (v := 0) hx hb dX6_isPoolWater_1 (by decide) ?_
  refine lv_sipush (v := 9999) hx hb dX6_isPoolWater_2 (by decide) ?_
  refine cRS (As := [.int v, .int 0, .int 9999]) (rest := []) hx hb hml hown hts (c_X6_within l G E cI cZ v 0 9999) k_7_8 cal_X6_within ⟨Nat.le_of_ble_eq_true rfl, Nat.le_of_ble_eq_true rfl⟩ hE hlow hS hK [0, 1] rfl hP [] rfl rfl hl.1 rfl (Nat.le_of_ble_eq_true rfl) dX6_isPoolWater_5 ⟨Nat.zero_le _, Nat.zero_le _⟩ ?_
  exact retR hx hb hr (bI_n _) hlocks dX6_isPoolWater_8 (rfl)
