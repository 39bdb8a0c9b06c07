def wkB (kd x y mr pz : Int32) : Bool := wiB kd 0 1 && (inC x y && wiB pz 0 999) && (if kd = 0 then decide (y = 0) && wiB mr 1 99 else decide (mr = 0))
theorem wiB_01f {v : Int32} (h : wiB v 0 1 = false) : ¬ v = 0 ∧ ¬ v = 1 := ⟨fun e => by rw [e] at h; exact absurd h (by decide), fun e => by rw [e] at h; exact absurd h (by decide)⟩
def bkS {α : Type} (v : Int32) (ke : Nat → Int32) (a i j : α) : α := if v = 0 then (if ke 0 = 0 then a else i) else if v = 1 then (if ke 1 = 0 then a else j) else a
def bkZ (v : Int32) (ke : Nat → Int32) : Bool := (decide (v = 0) && decide (ke 0 = 0)) || (decide (v = 1) && decide (ke 1 = 0))
def cntX (zo he go : Nat → Int32) (la ng nc nw ln v : Int32) : Int32 := if v = 0 then cntS (isES zo go) 48 else if v = 1 then sumS go 48 else if v = 2 then cntS (wetS zo he go) 48 else if v = 3 then ng else if v = 4 then nc else if v = 5 then nw else if v = 6 then la else if v = 7 then ln else -1
theorem cal_X6_work : calV yX6_work cX6_work 7 (some .int) 5 := ⟨k_39_7, k_1_2, k_39_5, k_39_6, by decide +kernel⟩
set_option maxHeartbeats 4000000 in
set_option maxRecDepth 100000 in
theorem c_X6_work (l : Launch) (G : va_G) (E : EvT) (cI cZ : ClassId) (n : Nat) (kd : Int32) (x : Int32) (y : Int32) (mr : Int32) (pz : Int32) (o : Nat) (a_w : Nat) (a_w_ki : Nat) (a_w_pl : Nat) (a_w_mo : Nat) (a_w_pr : Nat) (fs_o : List Value) (h_o_w : fs_o[6]? = some (.ref a_w)) (w_ki : Nat → Int32) (w_pl : Nat → Int32) (w_mo : Nat → Int32) (w_pr : Nat → Int32) (hn : n ≤ 8) : cWi (S := Unit) l G E yX6_work cX6_work 7 (some .int) 3 [(cI, .int), (cZ, .boolean)] [.ref o, .int kd, .int x, .int y, .int mr, .int pz] [(o, .inr (6, fs_o)), (a_w, .inr (5, [.ref a_w_ki, .ref a_w_pl, .ref a_w_mo, .ref a_w_pr, .int (nI n)])), (a_w_ki, .inl (cI, 8, .inl w_ki)), (a_w_pl, .inl (cI, 8, .inl w_pl)), (a_w_mo, .inl (cI, 8, .inl w_mo)), (a_w_pr, .inl (cI, 8, .inl w_pr))] (fun r _ => r = (if wkB kd x y mr pz then (if n < 8 then nI n else (-3)) else (-1))) (fun _ => [(o, .inr (6, fs_o)), (a_w, .inr (5, [.ref a_w_ki, .ref a_w_pl, .ref a_w_mo, .ref a_w_pr, .int (nI (if wkB kd x y mr pz then (if n < 8 then n + 1 else n) else n))])), (a_w_ki, .inl (cI, 8, .inl (if wkB kd x y mr pz then (if n < 8 then upd w_ki n kd else w_ki) else w_ki))), (a_w_pl, .inl (cI, 8, .inl (if wkB kd x y mr pz then (if n < 8 then upd w_pl n (nI (plc x y)) else w_pl) else w_pl))), (a_w_mo, .inl (cI, 8, .inl (if wkB kd x y mr pz then (if n < 8 then upd w_mo n mr else w_mo) else w_mo))), (a_w_pr, .inl (cI, 8, .inl (if wkB kd x y mr pz then (if n < 8 then upd w_pr n pz else w_pr) else w_pr)))]) := by
  refine mkWi (by decide) (Nat.le_of_ble_eq_true rfl) ?_
  intro zp ze s zm args below meth zc hx hb hr hml hown hts hlocks hE hK A hA hlow H locs hP hD hS ls hl
  have hl : lv_has ls 7 [(0, .ref o), (1, .int kd), (2, .int x), (3, .int y), (4, .int mr), (5, .int pz)] := hl
  refine lv_iload_n hx hb dX6_work_0 rfl (lv_at hl 1 rfl) ?_
  refine lv_iconst (v := 0) hx hb dX6_work_1 (by decide) ?_
  refine lv_iconst (v := 1) hx hb dX6_work_2 (by decide) ?_
  refine cRS (As := [.int kd, .int 0, .int 1]) (rest := []) hx hb hml hown hts (c_X6_within l G E cI cZ kd 0 1) k_7_8 cal_X6_within ⟨Nat.le_of_ble_eq_true rfl, Nat.le_of_ble_eq_true rfl⟩ hE hlow hS hK [0, 1] rfl hP [] rfl rfl hl.1 rfl (Nat.le_of_ble_eq_true rfl) dX6_work_3 ⟨Nat.zero_le _, Nat.zero_le _⟩ ?_
  refine lv_if_eq (tgt := 29) hx hb dX6_work_6 (by decide) (fun c_1 => ?_) (fun c_1 => ?_)
  · skip
    have c_1 : (wiB kd 0 1) = false := bI_f c_1
    refine lv_iconst (v := (-1)) hx hb dX6_work_29 (by decide) ?_
    have ew_2 : (nI n : Int32) = nI (if wkB kd x y mr pz then (if n < 8 then n + 1 else n) else n) := by simp [wkB, c_1]
    have ew_3 : w_ki = (if wkB kd x y mr pz then (if n < 8 then upd w_ki n kd else w_ki) else w_ki) := by simp [wkB, c_1]
    have ew_4 : w_pl = (if wkB kd x y mr pz then (if n < 8 then upd w_pl n (nI (plc x y)) else w_pl) else w_pl) := by simp [wkB, c_1]
    have ew_5 : w_mo = (if wkB kd x y mr pz then (if n < 8 then upd w_mo n mr else w_mo) else w_mo) := by simp [wkB, c_1]
    have ew_6 : w_pr = (if wkB kd x y mr pz then (if n < 8 then upd w_pr n pz else w_pr) else w_pr) := by simp [wkB, c_1]
    have hP : va_P G vwCl [(o, .inr (6, fs_o)), (a_w, .inr (5, [.ref a_w_ki, .ref a_w_pl, .ref a_w_mo, .ref a_w_pr, .int (nI (if wkB kd x y mr pz then (if n < 8 then n + 1 else n) else n))])), (a_w_ki, .inl (cI, 8, .inl (if wkB kd x y mr pz then (if n < 8 then upd w_ki n kd else w_ki) else w_ki))), (a_w_pl, .inl (cI, 8, .inl (if wkB kd x y mr pz then (if n < 8 then upd w_pl n (nI (plc x y)) else w_pl) else w_pl))), (a_w_mo, .inl (cI, 8, .inl (if wkB kd x y mr pz then (if n < 8 then upd w_mo n mr else w_mo) else w_mo))), (a_w_pr, .inl (cI, 8, .inl (if wkB kd x y mr pz then (if n < 8 then upd w_pr n pz else w_pr) else w_pr)))] H := by rw [← ew_2, ← ew_3, ← ew_4, ← ew_5, ← ew_6]; exact hP
    exact retWi () hx hb hr (rfl) hlocks dX6_work_30 hS (by simp [wkB, c_1]) hP
  · skip
    have c_1 : (wiB kd 0 1) = true := bI_t c_1
    refine lv_iload_n hx hb dX6_work_9 rfl (lv_at hl 2 rfl) ?_
    refine lv_iload_n hx hb dX6_work_10 rfl (lv_at hl 3 rfl) ?_
    refine cRS (As := [.int x, .int y]) (rest := []) hx hb hml hown hts (c_X6_isCell l G E cI cZ x y) k_16_12 cal_X6_isCell ⟨Nat.le_of_ble_eq_true rfl, Nat.le_of_ble_eq_true rfl⟩ hE hlow hS hK [0, 1] rfl hP [] rfl rfl hl.1 rfl (Nat.le_of_ble_eq_true rfl) dX6_work_11 ⟨Nat.zero_le _, Nat.zero_le _⟩ ?_
    refine lv_if_eq (tgt := 29) hx hb dX6_work_14 (by decide) (fun c_7 => ?_) (fun c_7 => ?_)
    · skip
      have c_7 : (inC x y) = false := bI_f c_7
      refine lv_iconst (v := (-1)) hx hb dX6_work_29 (by decide) ?_
      have ew_8 : (nI n : Int32) = nI (if wkB kd x y mr pz then (if n < 8 then n + 1 else n) else n) := by simp [wkB, c_1, c_7]
      have ew_9 : w_ki = (if wkB kd x y mr pz then (if n < 8 then upd w_ki n kd else w_ki) else w_ki) := by simp [wkB, c_1, c_7]
      have ew_10 : w_pl = (if wkB kd x y mr pz then (if n < 8 then upd w_pl n (nI (plc x y)) else w_pl) else w_pl) := by simp [wkB, c_1, c_7]
      have ew_11 : w_mo = (if wkB kd x y mr pz then (if n < 8 then upd w_mo n mr else w_mo) else w_mo) := by simp [wkB, c_1, c_7]
      have ew_12 : w_pr = (if wkB kd x y mr pz then (if n < 8 then upd w_pr n pz else w_pr) else w_pr) := by simp [wkB, c_1, c_7]
      have hP : va_P G vwCl [(o, .inr (6, fs_o)), (a_w, .inr (5, [.ref a_w_ki, .ref a_w_pl, .ref a_w_mo, .ref a_w_pr, .int (nI (if wkB kd x y mr pz then (if n < 8 then n + 1 else n) else n))])), (a_w_ki, .inl (cI, 8, .inl (if wkB kd x y mr pz then (if n < 8 then upd w_ki n kd else w_ki) else w_ki))), (a_w_pl, .inl (cI, 8, .inl (if wkB kd x y mr pz then (if n < 8 then upd w_pl n (nI (plc x y)) else w_pl) else w_pl))), (a_w_mo, .inl (cI, 8, .inl (if wkB kd x y mr pz then (if n < 8 then upd w_mo n mr else w_mo) else w_mo))), (a_w_pr, .inl (cI, 8, .inl (if wkB kd x y mr pz then (if n < 8 then upd w_pr n pz else w_pr) else w_pr)))] H := by rw [← ew_8, ← ew_9, ← ew_10, ← ew_11, ← ew_12]; exact hP
      exact retWi () hx hb hr (rfl) hlocks dX6_work_30 hS (by simp [wkB, c_1, c_7]) hP
    · skip
      have c_7 : (inC x y) = true := bI_t c_7
      refine lv_iload hx hb dX6_work_17 (lv_at hl 5 rfl) ?_
      refine lv_iconst (v := 0) hx hb dX6_work_19 (by decide) ?_
      refine lv_sipush (v := 999) hx hb dX6_work_20 (by decide) ?_
      refine cRS (As := [.int pz, .int 0, .int 999]) (rest := []) hx hb hml hown hts (c_X6_within l G E cI cZ pz 0 999) k_7_8 cal_X6_within ⟨Nat.le_of_ble_eq_true rfl, Nat.le_of_ble_eq_true rfl⟩ hE hlow hS hK [0, 1] rfl hP [] rfl rfl hl.1 rfl (Nat.le_of_ble_eq_true rfl) dX6_work_23 ⟨Nat.zero_le _, Nat.zero_le _⟩ ?_
      refine lv_if_ne (tgt := 31) hx hb dX6_work_26 (by decide) (fun c_13 => ?_) (fun c_13 => ?_)
      · skip
        have c_13 : (wiB pz 0 999) = true := bI_t c_13
        refine lv_iload_n hx hb dX6_work_31 rfl (lv_at hl 1 rfl) ?_
        refine lv_if_ne (tgt := 58) hx hb dX6_work_32 (by decide) (fun c_14 => ?_) (fun c_14 => ?_)
        · skip
          refine lv_iload hx hb dX6_work_58 (lv_at hl 4 rfl) ?_
          refine lv_if_ne (tgt := 67) hx hb dX6_work_60 (by decide) (fun c_15 => ?_) (fun c_15 => ?_)
          · skip
            refine lv_iconst (v := 0) hx hb dX6_work_67 (by decide) ?_
            refine lv_istore (lv' := [(6, .int 0), (0, .ref o), (1, .int kd), (2, .int x), (3, .int y), (4, .int mr), (5, .int pz)]) hx hb dX6_work_68 hl (by decide) rfl (fun ls hl => ?_)
            refine lv_iload hx hb dX6_work_70 (lv_at hl 0 rfl) ?_
            refine lv_if_ne (tgt := 77) hx hb dX6_work_72 (by decide) (fun c_16 => ?_) (fun c_16 => ?_)
            · skip
              exact absurd (by decide) c_16
            · skip
              refine lv_iconst (v := (-1)) hx hb dX6_work_75 (by decide) ?_
              have ew_17 : (nI n : Int32) = nI (if wkB kd x y mr pz then (if n < 8 then n + 1 else n) else n) := by simp [wkB, c_1, c_7, c_13, c_14, c_15, eq_true c_16]
              have ew_18 : w_ki = (if wkB kd x y mr pz then (if n < 8 then upd w_ki n kd else w_ki) else w_ki) := by simp [wkB, c_1, c_7, c_13, c_14, c_15, eq_true c_16]
              have ew_19 : w_pl = (if wkB kd x y mr pz then (if n < 8 then upd w_pl n (nI (plc x y)) else w_pl) else w_pl) := by simp [wkB, c_1, c_7, c_13, c_14, c_15, eq_true c_16]
              have ew_20 : w_mo = (if wkB kd x y mr pz then (if n < 8 then upd w_mo n mr else w_mo) else w_mo) := by simp [wkB, c_1, c_7, c_13, c_14, c_15, eq_true c_16]
              have ew_21 : w_pr = (if wkB kd x y mr pz then (if n < 8 then upd w_pr n pz else w_pr) else w_pr) := by simp [wkB, c_1, c_7, c_13, c_14, c_15, eq_true c_16]
              have hP : va_P G vwCl [(o, .inr (6, fs_o)), (a_w, .inr (5, [.ref a_w_ki, .ref a_w_pl, .ref a_w_mo, .ref a_w_pr, .int (nI (if wkB kd x y mr pz then (if n < 8 then n + 1 else n) else n))])), (a_w_ki, .inl (cI, 8, .inl (if wkB kd x y mr pz then (if n < 8 then upd w_ki n kd else w_ki) else w_ki))), (a_w_pl, .inl (cI, 8, .inl (if wkB kd x y mr pz then (if n < 8 then upd w_pl n (nI (plc x y)) else w_pl) else w_pl))), (a_w_mo, .inl (cI, 8, .inl (if wkB kd x y mr pz then (if n < 8 then upd w_mo n mr else w_mo) else w_mo))), (a_w_pr, .inl (cI, 8, .inl (if wkB kd x y mr pz then (if n < 8 then upd w_pr n pz else w_pr) else w_pr)))] H := by rw [← ew_17, ← ew_18, ← ew_19, ← ew_20, ← ew_21]; exact hP
              exact retWi () hx hb hr (rfl) hlocks dX6_work_76 hS (by simp [wkB, c_1, c_7, c_13, c_14, c_15, eq_true c_16]) hP
          · skip
            refine lv_iconst (v := 1) hx hb dX6_work_63 (by decide) ?_
            refine lv_goto (tgt := 68) hx hb dX6_work_64 (by decide) ?_
            refine lv_istore (lv' := [(6, .int 1), (0, .ref o), (1, .int kd), (2, .int x), (3, .int y), (4, .int mr), (5, .int pz)]) hx hb dX6_work_68 hl (by decide) rfl (fun ls hl => ?_)
            refine lv_iload hx hb dX6_work_70 (lv_at hl 0 rfl) ?_
            refine lv_if_ne (tgt := 77) hx hb dX6_work_72 (by decide) (fun c_22 => ?_) (fun c_22 => ?_)
            · skip
              obtain ⟨xn, yn, hxn, hyn, hex, hey, hcx, hcy⟩ := inC_n c_7
              have hl : lv_has ls 7 [(6, .int 1), (0, .ref o), (1, .int kd), (2, .int (nI xn)), (3, .int y), (4, .int mr), (5, .int pz)] := by rw [hex] at hl; exact hl
              have hl : lv_has ls 7 [(6, .int 1), (0, .ref o), (1, .int kd), (2, .int (nI xn)), (3, .int (nI yn)), (4, .int mr), (5, .int pz)] := by rw [hey] at hl; exact hl
              have hpl : plc x y = 8 * yn + xn := by rw [plc, hcx, hcy]
              refine lv_aload_n hx hb dX6_work_77 rfl (lv_at hl 1 rfl) ?_
              refine va_get (D := G) (ci := 6) (v := .ref a_w) (C := RX6) (T := TX6) (N := 12) hx hb hts inlX6 hown hK hP 0 rfl rfl 6 (by decide) (hts (.fieldLink RX6 39 "EarthBanks" "works" "LEarthBanks$Works;") k_2_5) (fun _ h9 => h9) h_o_w dX6_work_78 ?_
              refine lv_iload_n hx hb dX6_work_81 rfl (lv_at hl 2 rfl) ?_
              refine lv_iload_n hx hb dX6_work_82 rfl (lv_at hl 3 rfl) ?_
              refine lv_iload_n hx hb dX6_work_83 rfl (lv_at hl 4 rfl) ?_
              refine cRS (As := [.int (nI xn), .int (nI yn)]) (rest := [.int kd, .ref a_w]) hx hb hml hown hts (c_X6_placeOf l G E cI cZ xn yn) k_16_15 cal_X6_placeOf ⟨Nat.le_of_ble_eq_true rfl, Nat.le_of_ble_eq_true rfl⟩ hE hlow hS hK [0, 1] rfl hP [] rfl rfl hl.1 rfl (Nat.le_of_ble_eq_true rfl) dX6_work_84 ⟨Nat.zero_le _, Nat.zero_le _⟩ ?_
              refine lv_iload hx hb dX6_work_87 (lv_at hl 5 rfl) ?_
              refine lv_iload hx hb dX6_work_89 (lv_at hl 6 rfl) ?_
              refine cWVi (As := [.int kd, .int (nI ((8 * yn) + xn)), .int mr, .int pz]) (rest := []) hx hb hml hown hts (c_X5_add l G E cI cZ n kd (nI ((8 * yn) + xn)) mr pz a_w a_w_ki a_w_pl a_w_mo a_w_pr w_ki w_pl w_mo w_pr (hn)) k_39_8 cal_X5_add ⟨Nat.le_of_ble_eq_true rfl, Nat.le_of_ble_eq_true rfl⟩ hE hA hlow hD hS hK [0, 1] rfl hP [1, 2, 3, 4, 5] rfl (by decide) [a_w, a_w_ki, a_w_pl, a_w_mo, a_w_pr] rfl (fun _ => rfl) [0] [(o, .inr (6, fs_o))] (fun _ => [(o, .inr (6, fs_o)), (a_w, .inr (5, [.ref a_w_ki, .ref a_w_pl, .ref a_w_mo, .ref a_w_pr, .int (nI (if n < 8 then n + 1 else n))])), (a_w_ki, .inl (cI, 8, .inl (if n < 8 then upd w_ki n kd else w_ki))), (a_w_pl, .inl (cI, 8, .inl (if n < 8 then upd w_pl n (nI ((8 * yn) + xn)) else w_pl))), (a_w_mo, .inl (cI, 8, .inl (if n < 8 then upd w_mo n mr else w_mo))), (a_w_pr, .inl (cI, 8, .inl (if n < 8 then upd w_pr n pz else w_pr)))]) 6 rfl (fun _ => rfl) (fun _ => rfl) (fun _ => rfl) (by decide) (by decide) 1 5 rfl rfl rfl hl.1 rfl (Nat.le_of_ble_eq_true rfl) dX6_work_91 ⟨Nat.zero_le _, Nat.zero_le _⟩ (fun r_ u H locs hr_ hP hD hS => ?_)
              subst hr_
              have hP : va_P G vwCl [(o, .inr (6, fs_o)), (a_w, .inr (5, [.ref a_w_ki, .ref a_w_pl, .ref a_w_mo, .ref a_w_pr, .int (nI (if n < 8 then n + 1 else n))])), (a_w_ki, .inl (cI, 8, .inl (if n < 8 then upd w_ki n kd else w_ki))), (a_w_pl, .inl (cI, 8, .inl (if n < 8 then upd w_pl n (nI ((8 * yn) + xn)) else w_pl))), (a_w_mo, .inl (cI, 8, .inl (if n < 8 then upd w_mo n mr else w_mo))), (a_w_pr, .inl (cI, 8, .inl (if n < 8 then upd w_pr n pz else w_pr)))] H := hP
              have hD : va_D A [(o, .inr (6, fs_o)), (a_w, .inr (5, [.ref a_w_ki, .ref a_w_pl, .ref a_w_mo, .ref a_w_pr, .int (nI (if n < 8 then n + 1 else n))])), (a_w_ki, .inl (cI, 8, .inl (if n < 8 then upd w_ki n kd else w_ki))), (a_w_pl, .inl (cI, 8, .inl (if n < 8 then upd w_pl n (nI ((8 * yn) + xn)) else w_pl))), (a_w_mo, .inl (cI, 8, .inl (if n < 8 then upd w_mo n mr else w_mo))), (a_w_pr, .inl (cI, 8, .inl (if n < 8 then upd w_pr n pz else w_pr)))] := hD
              have ew_23 : (nI (if n < 8 then n + 1 else n) : Int32) = nI (if wkB kd x y mr pz then (if n < 8 then n + 1 else n) else n) := by simp [wkB, c_1, c_7, c_13, c_14, eq_true c_15, c_22]
              have ew_24 : (if n < 8 then upd w_ki n kd else w_ki) = (if wkB kd x y mr pz then (if n < 8 then upd w_ki n kd else w_ki) else w_ki) := by simp [wkB, c_1, c_7, c_13, c_14, eq_true c_15, c_22]
              have ew_25 : (if n < 8 then upd w_pl n (nI ((8 * yn) + xn)) else w_pl) = (if wkB kd x y mr pz then (if n < 8 then upd w_pl n (nI (plc x y)) else w_pl) else w_pl) := by simp [wkB, hpl, c_1, c_7, c_13, c_14, eq_true c_15, c_22]
              have ew_26 : (if n < 8 then upd w_mo n mr else w_mo) = (if wkB kd x y mr pz then (if n < 8 then upd w_mo n mr else w_mo) else w_mo) := by simp [wkB, c_1, c_7, c_13, c_14, eq_true c_15, c_22]
              have ew_27 : (if n < 8 then upd w_pr n pz else w_pr) = (if wkB kd x y mr pz then (if n < 8 then upd w_pr n pz else w_pr) else w_pr) := by simp [wkB, c_1, c_7, c_13, c_14, eq_true c_15, c_22]
              have hP : va_P G vwCl [(o, .inr (6, fs_o)), (a_w, .inr (5, [.ref a_w_ki, .ref a_w_pl, .ref a_w_mo, .ref a_w_pr, .int (nI (if wkB kd x y mr pz then (if n < 8 then n + 1 else n) else n))])), (a_w_ki, .inl (cI, 8, .inl (if wkB kd x y mr pz then (if n < 8 then upd w_ki n kd else w_ki) else w_ki))), (a_w_pl, .inl (cI, 8, .inl (if wkB kd x y mr pz then (if n < 8 then upd w_pl n (nI (plc x y)) else w_pl) else w_pl))), (a_w_mo, .inl (cI, 8, .inl (if wkB kd x y mr pz then (if n < 8 then upd w_mo n mr else w_mo) else w_mo))), (a_w_pr, .inl (cI, 8, .inl (if wkB kd x y mr pz then (if n < 8 then upd w_pr n pz else w_pr) else w_pr)))] H := by rw [← ew_23, ← ew_24, ← ew_25, ← ew_26, ← ew_27]; exact hP
              exact retWi () hx hb hr (rfl) hlocks dX6_work_94 hS (by simp [wkB, c_1, c_7, c_13, c_14, eq_true c_15, c_22]) hP
            · skip
              exact absurd c_22 (by decide)
        · skip
          refine lv_iload_n hx hb dX6_work_35 rfl (lv_at hl 3 rfl) ?_
          refine lv_if_ne (tgt := 54) hx hb dX6_work_36 (by decide) (fun c_28 => ?_) (fun c_28 => ?_)
          · skip
            refine lv_iconst (v := 0) hx hb dX6_work_54 (by decide) ?_
            refine lv_goto (tgt := 68) hx hb dX6_work_55 (by decide) ?_
            refine lv_istore (lv' := [(6, .int 0), (0, .ref o), (1, .int kd), (2, .int x), (3, .int y), (4, .int mr), (5, .int pz)]) hx hb dX6_work_68 hl (by decide) rfl (fun ls hl => ?_)
            refine lv_iload hx hb dX6_work_70 (lv_at hl 0 rfl) ?_
            refine lv_if_ne (tgt := 77) hx hb dX6_work_72 (by decide) (fun c_29 => ?_) (fun c_29 => ?_)
            · skip
              exact absurd (by decide) c_29
            · skip
              refine lv_iconst (v := (-1)) hx hb dX6_work_75 (by decide) ?_
              have ew_30 : (nI n : Int32) = nI (if wkB kd x y mr pz then (if n < 8 then n + 1 else n) else n) := by simp [wkB, c_1, c_7, c_13, eq_true c_14, c_28, eq_true c_29]
              have ew_31 : w_ki = (if wkB kd x y mr pz then (if n < 8 then upd w_ki n kd else w_ki) else w_ki) := by simp [wkB, c_1, c_7, c_13, eq_true c_14, c_28, eq_true c_29]
              have ew_32 : w_pl = (if wkB kd x y mr pz then (if n < 8 then upd w_pl n (nI (plc x y)) else w_pl) else w_pl) := by simp [wkB, c_1, c_7, c_13, eq_true c_14, c_28, eq_true c_29]
              have ew_33 : w_mo = (if wkB kd x y mr pz then (if n < 8 then upd w_mo n mr else w_mo) else w_mo) := by simp [wkB, c_1, c_7, c_13, eq_true c_14, c_28, eq_true c_29]
              have ew_34 : w_pr = (if wkB kd x y mr pz then (if n < 8 then upd w_pr n pz else w_pr) else w_pr) := by simp [wkB, c_1, c_7, c_13, eq_true c_14, c_28, eq_true c_29]
              have hP : va_P G vwCl [(o, .inr (6, fs_o)), (a_w, .inr (5, [.ref a_w_ki, .ref a_w_pl, .ref a_w_mo, .ref a_w_pr, .int (nI (if wkB kd x y mr pz then (if n < 8 then n + 1 else n) else n))])), (a_w_ki, .inl (cI, 8, .inl (if wkB kd x y mr pz then (if n < 8 then upd w_ki n kd else w_ki) else w_ki))), (a_w_pl, .inl (cI, 8, .inl (if wkB kd x y mr pz then (if n < 8 then upd w_pl n (nI (plc x y)) else w_pl) else w_pl))), (a_w_mo, .inl (cI, 8, .inl (if wkB kd x y mr pz then (if n < 8 then upd w_mo n mr else w_mo) else w_mo))), (a_w_pr, .inl (cI, 8, .inl (if wkB kd x y mr pz then (if n < 8 then upd w_pr n pz else w_pr) else w_pr)))] H := by rw [← ew_30, ← ew_31, ← ew_32, ← ew_33, ← ew_34]; exact hP
              exact retWi () hx hb hr (rfl) hlocks dX6_work_76 hS (by simp [wkB, c_1, c_7, c_13, eq_true c_14, c_28, eq_true c_29]) hP
          · skip
            refine lv_iload hx hb dX6_work_39 (lv_at hl 4 rfl) ?_
            refine lv_iconst (v := 1) hx hb dX6_work_41 (by decide) ?_
            refine lv_bipush (v := 99) hx hb dX6_work_42 (by decide) ?_
            refine cRS (As := [.int mr, .int 1, .int 99]) (rest := []) hx hb hml hown hts (c_X6_within l G E cI cZ mr 1 99) k_7_8 cal_X6_within ⟨Nat.le_of_ble_eq_true rfl, Nat.le_of_ble_eq_true rfl⟩ hE hlow hS hK [0, 1] rfl hP [] rfl rfl hl.1 rfl (Nat.le_of_ble_eq_true rfl) dX6_work_44 ⟨Nat.zero_le _, Nat.zero_le _⟩ ?_
            refine lv_if_eq (tgt := 54) hx hb dX6_work_47 (by decide) (fun c_35 => ?_) (fun c_35 => ?_)
            · skip
              have c_35 : (wiB mr 1 99) = false := bI_f c_35
              refine lv_iconst (v := 0) hx hb dX6_work_54 (by decide) ?_
              refine lv_goto (tgt := 68) hx hb dX6_work_55 (by decide) ?_
              refine lv_istore (lv' := [(6, .int 0), (0, .ref o), (1, .int kd), (2, .int x), (3, .int y), (4, .int mr), (5, .int pz)]) hx hb dX6_work_68 hl (by decide) rfl (fun ls hl => ?_)
              refine lv_iload hx hb dX6_work_70 (lv_at hl 0 rfl) ?_
              refine lv_if_ne (tgt := 77) hx hb dX6_work_72 (by decide) (fun c_36 => ?_) (fun c_36 => ?_)
              · skip
                exact absurd (by decide) c_36
              · skip
                refine lv_iconst (v := (-1)) hx hb dX6_work_75 (by decide) ?_
                have ew_37 : (nI n : Int32) = nI (if wkB kd x y mr pz then (if n < 8 then n + 1 else n) else n) := by simp [wkB, c_1, c_7, c_13, eq_true c_14, eq_true c_28, c_35, eq_true c_36]
                have ew_38 : w_ki = (if wkB kd x y mr pz then (if n < 8 then upd w_ki n kd else w_ki) else w_ki) := by simp [wkB, c_1, c_7, c_13, eq_true c_14, eq_true c_28, c_35, eq_true c_36]
                have ew_39 : w_pl = (if wkB kd x y mr pz then (if n < 8 then upd w_pl n (nI (plc x y)) else w_pl) else w_pl) := by simp [wkB, c_1, c_7, c_13, eq_true c_14, eq_true c_28, c_35, eq_true c_36]
                have ew_40 : w_mo = (if wkB kd x y mr pz then (if n < 8 then upd w_mo n mr else w_mo) else w_mo) := by simp [wkB, c_1, c_7, c_13, eq_true c_14, eq_true c_28, c_35, eq_true c_36]
                have ew_41 : w_pr = (if wkB kd x y mr pz then (if n < 8 then upd w_pr n pz else w_pr) else w_pr) := by simp [wkB, c_1, c_7, c_13, eq_true c_14, eq_true c_28, c_35, eq_true c_36]
                have hP : va_P G vwCl [(o, .inr (6, fs_o)), (a_w, .inr (5, [.ref a_w_ki, .ref a_w_pl, .ref a_w_mo, .ref a_w_pr, .int (nI (if wkB kd x y mr pz then (if n < 8 then n + 1 else n) else n))])), (a_w_ki, .inl (cI, 8, .inl (if wkB kd x y mr pz then (if n < 8 then upd w_ki n kd else w_ki) else w_ki))), (a_w_pl, .inl (cI, 8, .inl (if wkB kd x y mr pz then (if n < 8 then upd w_pl n (nI (plc x y)) else w_pl) else w_pl))), (a_w_mo, .inl (cI, 8, .inl (if wkB kd x y mr pz then (if n < 8 then upd w_mo n mr else w_mo) else w_mo))), (a_w_pr, .inl (cI, 8, .inl (if wkB kd x y mr pz then (if n < 8 then upd w_pr n pz else w_pr) else w_pr)))] H := by rw [← ew_37, ← ew_38, ← ew_39, ← ew_40, ← ew_41]; exact hP
                exact retWi () hx hb hr (rfl) hlocks dX6_work_76 hS (by simp [wkB, c_1, c_7, c_13, eq_true c_14, eq_true c_28, c_35, eq_true c_36]) hP
            · skip
              have c_35 : (wiB mr 1 99) = true := bI_t c_35
              refine lv_iconst (v := 1) hx hb dX6_work_50 (by decide) ?_
              refine lv_goto (tgt := 68) hx hb dX6_work_51 (by decide) ?_
              refine lv_istore (lv' := [(6, .int 1), (0, .ref o), (1, .int kd), (2, .int x), (3, .int y), (4, .int mr), (5, .int pz)]) hx hb dX6_work_68 hl (by decide) rfl (fun ls hl => ?_)
              refine lv_iload hx hb dX6_work_70 (lv_at hl 0 rfl) ?_
              refine lv_if_ne (tgt := 77) hx hb dX6_work_72 (by decide) (fun c_42 => ?_) (fun c_42 => ?_)
              · skip
                obtain ⟨xn, yn, hxn, hyn, hex, hey, hcx, hcy⟩ := inC_n c_7
                have hl : lv_has ls 7 [(6, .int 1), (0, .ref o), (1, .int kd), (2, .int (nI xn)), (3, .int y), (4, .int mr), (5, .int pz)] := by rw [hex] at hl; exact hl
                have hl : lv_has ls 7 [(6, .int 1), (0, .ref o), (1, .int kd), (2, .int (nI xn)), (3, .int (nI yn)), (4, .int mr), (5, .int pz)] := by rw [hey] at hl; exact hl
                have hpl : plc x y = 8 * yn + xn := by rw [plc, hcx, hcy]
                refine lv_aload_n hx hb dX6_work_77 rfl (lv_at hl 1 rfl) ?_
                refine va_get (D := G) (ci := 6) (v := .ref a_w) (C := RX6) (T := TX6) (N := 12) hx hb hts inlX6 hown hK hP 0 rfl rfl 6 (by decide) (hts (.fieldLink RX6 39 "EarthBanks" "works" "LEarthBanks$Works;") k_2_5) (fun _ h9 => h9) h_o_w dX6_work_78 ?_
                refine lv_iload_n hx hb dX6_work_81 rfl (lv_at hl 2 rfl) ?_
                refine lv_iload_n hx hb dX6_work_82 rfl (lv_at hl 3 rfl) ?_
                refine lv_iload_n hx hb dX6_work_83 rfl (lv_at hl 4 rfl) ?_
                refine cRS (As := [.int (nI xn), .int (nI yn)]) (rest := [.int kd, .ref a_w]) hx hb hml hown hts (c_X6_placeOf l G E cI cZ xn yn) k_16_15 cal_X6_placeOf ⟨Nat.le_of_ble_eq_true rfl, Nat.le_of_ble_eq_true rfl⟩ hE hlow hS hK [0, 1] rfl hP [] rfl rfl hl.1 rfl (Nat.le_of_ble_eq_true rfl) dX6_work_84 ⟨Nat.zero_le _, Nat.zero_le _⟩ ?_
                refine lv_iload hx hb dX6_work_87 (lv_at hl 5 rfl) ?_
                refine lv_iload hx hb dX6_work_89 (lv_at hl 6 rfl) ?_
                refine cWVi (As := [.int kd, .int (nI ((8 * yn) + xn)), .int mr, .int pz]) (rest := []) hx hb hml hown hts (c_X5_add l G E cI cZ n kd (nI ((8 * yn) + xn)) mr pz a_w a_w_ki a_w_pl a_w_mo a_w_pr w_ki w_pl w_mo w_pr (hn)) k_39_8 cal_X5_add ⟨Nat.le_of_ble_eq_true rfl, Nat.le_of_ble_eq_true rfl⟩ hE hA hlow hD hS hK [0, 1] rfl hP [1, 2, 3, 4, 5] rfl (by decide) [a_w, a_w_ki, a_w_pl, a_w_mo, a_w_pr] rfl (fun _ => rfl) [0] [(o, .inr (6, fs_o))] (fun _ => [(o, .inr (6, fs_o)), (a_w, .inr (5, [.ref a_w_ki, .ref a_w_pl, .ref a_w_mo, .ref a_w_pr, .int (nI (if n < 8 then n + 1 else n))])), (a_w_ki, .inl (cI, 8, .inl (if n < 8 then upd w_ki n kd else w_ki))), (a_w_pl, .inl (cI, 8, .inl (if n < 8 then upd w_pl n (nI ((8 * yn) + xn)) else w_pl))), (a_w_mo, .inl (cI, 8, .inl (if n < 8 then upd w_mo n mr else w_mo))), (a_w_pr, .inl (cI, 8, .inl (if n < 8 then upd w_pr n pz else w_pr)))]) 6 rfl (fun _ => rfl) (fun _ => rfl) (fun _ => rfl) (by decide) (by decide) 1 5 rfl rfl rfl hl.1 rfl (Nat.le_of_ble_eq_true rfl) dX6_work_91 ⟨Nat.zero_le _, Nat.zero_le _⟩ (fun r_ u H locs hr_ hP hD hS => ?_)
                subst hr_
                have hP : va_P G vwCl [(o, .inr (6, fs_o)), (a_w, .inr (5, [.ref a_w_ki, .ref a_w_pl, .ref a_w_mo, .ref a_w_pr, .int (nI (if n < 8 then n + 1 else n))])), (a_w_ki, .inl (cI, 8, .inl (if n < 8 then upd w_ki n kd else w_ki))), (a_w_pl, .inl (cI, 8, .inl (if n < 8 then upd w_pl n (nI ((8 * yn) + xn)) else w_pl))), (a_w_mo, .inl (cI, 8, .inl (if n < 8 then upd w_mo n mr else w_mo))), (a_w_pr, .inl (cI, 8, .inl (if n < 8 then upd w_pr n pz else w_pr)))] H := hP
                have hD : va_D A [(o, .inr (6, fs_o)), (a_w, .inr (5, [.ref a_w_ki, .ref a_w_pl, .ref a_w_mo, .ref a_w_pr, .int (nI (if n < 8 then n + 1 else n))])), (a_w_ki, .inl (cI, 8, .inl (if n < 8 then upd w_ki n kd else w_ki))), (a_w_pl, .inl (cI, 8, .inl (if n < 8 then upd w_pl n (nI ((8 * yn) + xn)) else w_pl))), (a_w_mo, .inl (cI, 8, .inl (if n < 8 then upd w_mo n mr else w_mo))), (a_w_pr, .inl (cI, 8, .inl (if n < 8 then upd w_pr n pz else w_pr)))] := hD
                have ew_43 : (nI (if n < 8 then n + 1 else n) : Int32) = nI (if wkB kd x y mr pz then (if n < 8 then n + 1 else n) else n) := by simp [wkB, c_1, c_7, c_13, eq_true c_14, eq_true c_28, c_35, c_42]
                have ew_44 : (if n < 8 then upd w_ki n kd else w_ki) = (if wkB kd x y mr pz then (if n < 8 then upd w_ki n kd else w_ki) else w_ki) := by simp [wkB, c_1, c_7, c_13, eq_true c_14, eq_true c_28, c_35, c_42]
                have ew_45 : (if n < 8 then upd w_pl n (nI ((8 * yn) + xn)) else w_pl) = (if wkB kd x y mr pz then (if n < 8 then upd w_pl n (nI (plc x y)) else w_pl) else w_pl) := by simp [wkB, hpl, c_1, c_7, c_13, eq_true c_14, eq_true c_28, c_35, c_42]
                have ew_46 : (if n < 8 then upd w_mo n mr else w_mo) = (if wkB kd x y mr pz then (if n < 8 then upd w_mo n mr else w_mo) else w_mo) := by simp [wkB, c_1, c_7, c_13, eq_true c_14, eq_true c_28, c_35, c_42]
                have ew_47 : (if n < 8 then upd w_pr n pz else w_pr) = (if wkB kd x y mr pz then (if n < 8 then upd w_pr n pz else w_pr) else w_pr) := by simp [wkB, c_1, c_7, c_13, eq_true c_14, eq_true c_28, c_35, c_42]
                have hP : va_P G vwCl [(o, .inr (6, fs_o)), (a_w, .inr (5, [.ref a_w_ki, .ref a_w_pl, .ref a_w_mo, .ref a_w_pr, .int (nI (if wkB kd x y mr pz then (if n < 8 then n + 1 else n) else n))])), (a_w_ki, .inl (cI, 8, .inl (if wkB kd x y mr pz then (if n < 8 then upd w_ki n kd else w_ki) else w_ki))), (a_w_pl, .inl (cI, 8, .inl (if wkB kd x y mr pz then (if n < 8 then upd w_pl n (nI (plc x y)) else w_pl) else w_pl))), (a_w_mo, .inl (cI, 8, .inl (if wkB kd x y mr pz then (if n < 8 then upd w_mo n mr else w_mo) else w_mo))), (a_w_pr, .inl (cI, 8, .inl (if wkB kd x y mr pz then (if n < 8 then upd w_pr n pz else w_pr) else w_pr)))] H := by rw [← ew_43, ← ew_44, ← ew_45, ← ew_46, ← ew_47]; exact hP
                exact retWi () hx hb hr (rfl) hlocks dX6_work_94 hS (by simp [wkB, c_1, c_7, c_13, eq_true c_14, eq_true c_28, c_35, c_42]) hP
              · skip
                exact absurd c_42 (by decide)
      · skip
        have c_13 : (wiB pz 0 999) = false := bI_f c_13
        refine lv_iconst (v := (-1)) hx hb dX6_work_29 (by decide) ?_
        have ew_48 : (nI n : Int32) = nI (if wkB kd x y mr pz then (if n < 8 then n + 1 else n) else n) := by simp [wkB, c_1, c_7, c_13]
        have ew_49 : w_ki = (if wkB kd x y mr pz then (if n < 8 then upd w_ki n kd else w_ki) else w_ki) := by simp [wkB, c_1, c_7, c_13]
        have ew_50 : w_pl = (if wkB kd x y mr pz then (if n < 8 then upd w_pl n (nI (plc x y)) else w_pl) else w_pl) := by simp [wkB, c_1, c_7, c_13]
        have ew_51 : w_mo = (if wkB kd x y mr pz then (if n < 8 then upd w_mo n mr else w_mo) else w_mo) := by simp [wkB, c_1, c_7, c_13]
        have ew_52 : w_pr = (if wkB kd x y mr pz then (if n < 8 then upd w_pr n pz else w_pr) else w_pr) := by simp [wkB, c_1, c_7, c_13]
        have hP : va_P G vwCl [(o, .inr (6, fs_o)), (a_w, .inr (5, [.ref a_w_ki, .ref a_w_pl, .ref a_w_mo, .ref a_w_pr, .int (nI (if wkB kd x y mr pz then (if n < 8 then n + 1 else n) else n))])), (a_w_ki, .inl (cI, 8, .inl (if wkB kd x y mr pz then (if n < 8 then upd w_ki n kd else w_ki) else w_ki))), (a_w_pl, .inl (cI, 8, .inl (if wkB kd x y mr pz then (if n < 8 then upd w_pl n (nI (plc x y)) else w_pl) else w_pl))), (a_w_mo, .inl (cI, 8, .inl (if wkB kd x y mr pz then (if n < 8 then upd w_mo n mr else w_mo) else w_mo))), (a_w_pr, .inl (cI, 8, .inl (if wkB kd x y mr pz then (if n < 8 then upd w_pr n pz else w_pr) else w_pr)))] H := by rw [← ew_48, ← ew_49, ← ew_50, ← ew_51, ← ew_52]; exact hP
        exact retWi () hx hb hr (rfl) hlocks dX6_work_30 hS (by simp [wkB, c_1, c_7, c_13]) hP
theorem cal_X6_cheapest : calV yX6_cheapest cX6_cheapest 8 (some .int) 2 := ⟨k_39_20, k_1_2, k_39_18, k_39_19, by decide +kernel⟩
set_option maxHeartbeats 4000000 in
set_option maxRecDepth 100000 in
theorem c_X6_cheapest (l : Launch) (G : va_G) (E : EvT) (cI cZ : ClassId) (n : Nat) (v : Int32) (x : Int32) (o : Nat) (a_s : Nat) (a_s_zo : Nat) (a_s_he : Nat) (a_s_go : Nat) (a_s_hd : Nat) (a_w : Nat) (a_w_ki : Nat) (a_w_pl : Nat) (a_w_mo : Nat) (a_w_pr : Nat) (a_d : Nat) (a_d_re : Nat) (a_d_bu : Nat) (a_d_ba : Nat) (fs_o : List Value) (h_o_w : fs_o[6]? = some (.ref a_w)) (h_o_d : fs_o[7]? = some (.ref a_d)) (h_o_s : fs_o[1]? = some (.ref a_s)) (fs_s : List Value) (h_s_zo : fs_s[0]? = some (.ref a_s_zo)) (h_s_go : fs_s[2]? = some (.ref a_s_go)) (h_s_he : fs_s[1]? = some (.ref a_s_he)) (h_s_hd : fs_s[4]? = some (.ref a_s_hd)) (fs_w : List Value) (h_w_nw : fs_w[4]? = some (.int (nI n))) (h_w_pr : fs_w[3]? = some (.ref a_w_pr)) (h_w_ki : fs_w[0]? = some (.ref a_w_ki)) (h_w_pl : fs_w[1]? = some (.ref a_w_pl)) (h_w_mo : fs_w[2]? = some (.ref a_w_mo)) (fs_d : List Value) (h_d_bu : fs_d[1]? = some (.ref a_d_bu)) (h_d_re : fs_d[0]? = some (.ref a_d_re)) (h_d_ba : fs_d[5]? = some (.ref a_d_ba)) (s_zo : Nat → Int32) (s_he : Nat → Int32) (s_go : Nat → Int32) (s_hd : Nat → Int32) (w_ki : Nat → Int32) (w_pl : Nat → Int32) (w_mo : Nat → Int32) (w_pr : Nat → Int32) (d_re : Nat → Int32) (d_bu : Nat → Int32) (d_ba : Nat → Int32) (hn : n ≤ 8) : cWi (S := (Nat → Int32) × (Nat → Int32) × (Nat → Int32)) l G E yX6_cheapest cX6_cheapest 8 (some .int) 6 [(cI, .int), (cZ, .boolean)] [.ref o, .int v, .int x] [(o, .inr (6, fs_o)), (a_s, .inr (2, fs_s)), (a_s_zo, .inl (cI, 48, .inl s_zo)), (a_s_he, .inl (cI, 48, .inl s_he)), (a_s_go, .inl (cI, 48, .inl s_go)), (a_s_hd, .inl (cI, 6, .inl s_hd)), (a_w, .inr (5, fs_w)), (a_w_ki, .inl (cI, 8, .inl w_ki)), (a_w_pl, .inl (cI, 8, .inl w_pl)), (a_w_mo, .inl (cI, 8, .inl w_mo)), (a_w_pr, .inl (cI, 8, .inl w_pr)), (a_d, .inr (3, fs_d)), (a_d_re, .inl (cI, 48, .inl d_re)), (a_d_bu, .inl (cI, 48, .inl d_bu)), (a_d_ba, .inl (cI, 6, .inl d_ba))] (fun r _ => r = (if wiB v 0 9999 && wiB x 0 1 then (if x = 0 then (chpS (okS s_zo s_he s_go s_hd w_ki w_pl w_mo n v) (fun st => sumS (priT w_pr st) n) (2 ^ n)).2 else (chpS (okS s_zo s_he s_go s_hd w_ki w_pl w_mo n v) (fun st => sumS (priT w_pr st) n) (2 ^ n)).1) else (-1))) (fun u => [(o, .inr (6, fs_o)), (a_s, .inr (2, fs_s)), (a_s_zo, .inl (cI, 48, .inl s_zo)), (a_s_he, .inl (cI, 48, .inl s_he)), (a_s_go, .inl (cI, 48, .inl s_go)), (a_s_hd, .inl (cI, 6, .inl s_hd)), (a_w, .inr (5, fs_w)), (a_w_ki, .inl (cI, 8, .inl w_ki)), (a_w_pl, .inl (cI, 8, .inl w_pl)), (a_w_mo, .inl (cI, 8, .inl w_mo)), (a_w_pr, .inl (cI, 8, .inl w_pr)), (a_d, .inr (3, fs_d)), (a_d_re, .inl (cI, 48, .inl u.1)), (a_d_bu, .inl (cI, 48, .inl u.2.1)), (a_d_ba, .inl (cI, 6, .inl u.2.2))]) := by
  refine mkWi (by decide) (Nat.le_of_ble_eq_true rfl) ?_
  intro zp ze s zm args below meth zc hx hb hr hml hown hts hlocks hE hK A hA hlow H locs hP hD hS ls hl
  have hl : lv_has ls 8 [(0, .ref o), (1, .int v), (2, .int x)] := hl
  obtain ⟨m9, hm9⟩ : ∃ z, z = 2 ^ n := ⟨_, rfl⟩
  have hm8 : m9 ≤ 256 := by rw [hm9]; exact pow8 n hn
  refine lv_iload_n hx hb dX6_cheapest_0 rfl (lv_at hl 1 rfl) ?_
  refine lv_iconst (v := 0) hx hb dX6_cheapest_1 (by decide) ?_
  refine lv_sipush (v := 9999) hx hb dX6_cheapest_2 (by decide) ?_
  refine cRS (As := [.int v, .int 0, .int 9999]) (rest := []) hx hb hml hown hts (c_X6_within l G E cI cZ v 0 9999) k_7_8 cal_X6_within ⟨Nat.le_of_ble_eq_true rfl, Nat.le_of_ble_eq_true rfl⟩ hE hlow hS hK [0, 1] rfl hP [] rfl rfl hl.1 rfl (Nat.le_of_ble_eq_true rfl) dX6_cheapest_5 ⟨Nat.zero_le _, Nat.zero_le _⟩ ?_
  refine lv_if_eq (tgt := 20) hx hb dX6_cheapest_8 (by decide) (fun c_1 => ?_) (fun c_1 => ?_)
  · skip
    have c_1 : (wiB v 0 9999) = false := bI_f c_1
    refine lv_iconst (v := (-1)) hx hb dX6_cheapest_20 (by decide) ?_
    exact retWi (d_re, d_bu, d_ba) hx hb hr (rfl) hlocks dX6_cheapest_21 hS (by simp [c_1]) hP
  · skip
    have c_1 : (wiB v 0 9999) = true := bI_t c_1
    refine lv_iload_n hx hb dX6_cheapest_11 rfl (lv_at hl 2 rfl) ?_
    refine lv_iconst (v := 0) hx hb dX6_cheapest_12 (by decide) ?_
    refine lv_iconst (v := 1) hx hb dX6_cheapest_13 (by decide) ?_
    refine cRS (As := [.int x, .int 0, .int 1]) (rest := []) hx hb hml hown hts (c_X6_within l G E cI cZ x 0 1) k_7_8 cal_X6_within ⟨Nat.le_of_ble_eq_true rfl, Nat.le_of_ble_eq_true rfl⟩ hE hlow hS hK [0, 1] rfl hP [] rfl rfl hl.1 rfl (Nat.le_of_ble_eq_true rfl) dX6_cheapest_14 ⟨Nat.zero_le _, Nat.zero_le _⟩ ?_
    refine lv_if_ne (tgt := 22) hx hb dX6_cheapest_17 (by decide) (fun c_2 => ?_) (fun c_2 => ?_)
    · skip
      have c_2 : (wiB x 0 1) = true := bI_t c_2
      refine lv_bipush (v := (-9)) hx hb dX6_cheapest_22 (by decide) ?_
      refine lv_istore_n (lv' := [(3, .int (-9)), (0, .ref o), (1, .int v), (2, .int x)]) hx hb dX6_cheapest_24 rfl hl (by decide) rfl (fun ls hl => ?_)
      refine lv_bipush (v := (-9)) hx hb dX6_cheapest_25 (by decide) ?_
      refine lv_istore (lv' := [(4, .int (-9)), (3, .int (-9)), (0, .ref o), (1, .int v), (2, .int x)]) hx hb dX6_cheapest_27 hl (by decide) rfl (fun ls hl => ?_)
      refine lv_iconst (v := 1) hx hb dX6_cheapest_29 (by decide) ?_
      refine lv_aload_n hx hb dX6_cheapest_30 rfl (lv_at hl 2 rfl) ?_
      refine va_get (D := G) (ci := 6) (v := .ref a_w) (C := RX6) (T := TX6) (N := 12) hx hb hts inlX6 hown hK hP 0 rfl rfl 6 (by decide) (hts (.fieldLink RX6 39 "EarthBanks" "works" "LEarthBanks$Works;") k_2_5) (fun _ h9 => h9) h_o_w dX6_cheapest_31 ?_
      refine va_get (D := G) (ci := 5) (v := .int (nI n)) (C := RX5) (T := TX5) (N := 5) hx hb hts inlX5 hown hK hP 6 rfl rfl 4 (by decide) (hts (.fieldLink RX6 281 "EarthBanks$Works" "size" "I") k_39_21) (fun _ h9 => h9) h_w_nw dX6_cheapest_34 ?_
      refine lv_ishl hx hb dX6_cheapest_37 ?_
      refine top_eq (y := nI m9) (by rw [hm9]; exact shl_n n hn) ?_
      refine lv_istore (lv' := [(5, .int (nI m9)), (4, .int (-9)), (3, .int (-9)), (0, .ref o), (1, .int v), (2, .int x)]) hx hb dX6_cheapest_38 hl (by decide) rfl (fun ls hl => ?_)
      refine lv_iconst (v := 0) hx hb dX6_cheapest_40 (by decide) ?_
      refine lv_istore (lv' := [(6, .int 0), (5, .int (nI m9)), (4, .int (-9)), (3, .int (-9)), (0, .ref o), (1, .int v), (2, .int x)]) hx hb dX6_cheapest_41 hl (by decide) rfl (fun ls hl => ?_)
      suffices lp43 : ∀ zn k43 : Nat, ∀ (z0 : Nat → Int32) (z1 : Nat → Int32) (z2 : Nat → Int32) , 0 ≤ k43 → k43 ≤ m9 → m9 < k43 + zn → ∀ (H : Heap) (locs : List Loc), va_P G vwCl [(o, .inr (6, fs_o)), (a_s, .inr (2, fs_s)), (a_s_zo, .inl (cI, 48, .inl s_zo)), (a_s_he, .inl (cI, 48, .inl s_he)), (a_s_go, .inl (cI, 48, .inl s_go)), (a_s_hd, .inl (cI, 6, .inl s_hd)), (a_w, .inr (5, fs_w)), (a_w_ki, .inl (cI, 8, .inl w_ki)), (a_w_pl, .inl (cI, 8, .inl w_pl)), (a_w_mo, .inl (cI, 8, .inl w_mo)), (a_w_pr, .inl (cI, 8, .inl w_pr)), (a_d, .inr (3, fs_d)), (a_d_re, .inl (cI, 48, .inl z0)), (a_d_bu, .inl (cI, 48, .inl z1)), (a_d_ba, .inl (cI, 6, .inl z2))] H → va_D A [(o, .inr (6, fs_o)), (a_s, .inr (2, fs_s)), (a_s_zo, .inl (cI, 48, .inl s_zo)), (a_s_he, .inl (cI, 48, .inl s_he)), (a_s_go, .inl (cI, 48, .inl s_go)), (a_s_hd, .inl (cI, 6, .inl s_hd)), (a_w, .inr (5, fs_w)), (a_w_ki, .inl (cI, 8, .inl w_ki)), (a_w_pl, .inl (cI, 8, .inl w_pl)), (a_w_mo, .inl (cI, 8, .inl w_mo)), (a_w_pr, .inl (cI, 8, .inl w_pr)), (a_d, .inr (3, fs_d)), (a_d_re, .inl (cI, 48, .inl z0)), (a_d_bu, .inl (cI, 48, .inl z1)), (a_d_ba, .inl (cI, 6, .inl z2))] → va_S A s.heap H locs → ∀ ls : Array Slot, lv_has ls 8 [(0, .ref o), (1, .int v), (2, .int x), (3, .int ((chpS (okS s_zo s_he s_go s_hd w_ki w_pl w_mo n v) (fun st => sumS (priT w_pr st) n) k43).1)), (4, .int ((chpS (okS s_zo s_he s_go s_hd w_ki w_pl w_mo n v) (fun st => sumS (priT w_pr st) n) k43).2)), (5, .int (nI m9)), (6, .int (nI k43))] → W zp l ze (rmK 6) s zm args below meth zc H locs 0 0 (MQ below (va_Qi (S := (Nat → Int32) × (Nat → Int32) × (Nat → Int32)) (fun r _ => r = (if wiB v 0 9999 && wiB x 0 1 then (if x = 0 then (chpS (okS s_zo s_he s_go s_hd w_ki w_pl w_mo n v) (fun st => sumS (priT w_pr st) n) (2 ^ n)).2 else (chpS (okS s_zo s_he s_go s_hd w_ki w_pl w_mo n v) (fun st => sumS (priT w_pr st) n) (2 ^ n)).1) else (-1))) (fun u t => va_P G vwCl ((fun u => [(o, .inr (6, fs_o)), (a_s, .inr (2, fs_s)), (a_s_zo, .inl (cI, 48, .inl s_zo)), (a_s_he, .inl (cI, 48, .inl s_he)), (a_s_go, .inl (cI, 48, .inl s_go)), (a_s_hd, .inl (cI, 6, .inl s_hd)), (a_w, .inr (5, fs_w)), (a_w_ki, .inl (cI, 8, .inl w_ki)), (a_w_pl, .inl (cI, 8, .inl w_pl)), (a_w_mo, .inl (cI, 8, .inl w_mo)), (a_w_pr, .inl (cI, 8, .inl w_pr)), (a_d, .inr (3, fs_d)), (a_d_re, .inl (cI, 48, .inl u.1)), (a_d_bu, .inl (cI, 48, .inl u.2.1)), (a_d_ba, .inl (cI, 6, .inl u.2.2))]) u) t.heap) A) args s 0 0 A) (F0 zm 43 ls []) by
        have el_3 : ((-9) : Int32) = (chpS (okS s_zo s_he s_go s_hd w_ki w_pl w_mo n v) (fun st => sumS (priT w_pr st) n) 0).1 := rfl
        have el_4 : ((-9) : Int32) = (chpS (okS s_zo s_he s_go s_hd w_ki w_pl w_mo n v) (fun st => sumS (priT w_pr st) n) 0).2 := rfl
        have el_5 : (0 : Int32) = nI 0 := rfl
        exact lp43 (m9 + 1 - 0) 0 d_re d_bu d_ba (by omega) (by omega) (by omega)  H locs hP hD hS ls (lv_sub hl [4, 5, 6, 3, 2, 1, 0] (show ([(0, .ref o), (1, .int v), (2, .int x), (3, .int (-9)), (4, .int (-9)), (5, .int (nI m9)), (6, .int 0)] : List (Nat × Value)) = [(0, .ref o), (1, .int v), (2, .int x), (3, .int ((chpS (okS s_zo s_he s_go s_hd w_ki w_pl w_mo n v) (fun st => sumS (priT w_pr st) n) 0).1)), (4, .int ((chpS (okS s_zo s_he s_go s_hd w_ki w_pl w_mo n v) (fun st => sumS (priT w_pr st) n) 0).2)), (5, .int (nI m9)), (6, .int (nI 0))] by rw [← el_3, ← el_4, ← el_5]))
      intro zn
      induction zn with
      | zero => exact fun k43 z0 z1 z2 h1 h2 h3 => absurd h3 (by omega)
      | succ zn ih43 =>
        intro k43 z0 z1 z2 hlo43 hhi43 hn43  H locs hP hD hS ls hl
        refine lv_iload hx hb dX6_cheapest_43 (lv_at hl 6 rfl) ?_
        refine lv_iload hx hb dX6_cheapest_45 (lv_at hl 5 rfl) ?_
        refine lv_icmp_ge (tgt := 121) hx hb dX6_cheapest_47 (by decide) (fun c_6 => ?_) (fun c_6 => ?_)
        · skip
          have c_6 : m9 ≤ k43 := (nI_leI (a := m9) (b := k43) (by omega) (by omega)).mp c_6
          have hk9 : m9 = k43 := by omega
          subst hk9
          refine lv_iload_n hx hb dX6_cheapest_121 rfl (lv_at hl 2 rfl) ?_
          refine lv_if_ne (tgt := 130) hx hb dX6_cheapest_122 (by decide) (fun c_7 => ?_) (fun c_7 => ?_)
          · skip
            refine lv_iload_n hx hb dX6_cheapest_130 rfl (lv_at hl 3 rfl) ?_
            exact retWi (z0, z1, z2) hx hb hr (rfl) hlocks dX6_cheapest_131 hS (by rw [← hm9]; simp [c_1, c_2, c_6, c_7]) hP
          · skip
            refine lv_iload hx hb dX6_cheapest_125 (lv_at hl 4 rfl) ?_
            refine lv_goto (tgt := 131) hx hb dX6_cheapest_127 (by decide) ?_
            exact retWi (z0, z1, z2) hx hb hr (rfl) hlocks dX6_cheapest_131 hS (by rw [← hm9]; simp [c_1, c_2, c_6, eq_true c_7]) hP
        · skip
          have c_6 : ¬ m9 ≤ k43 := fun h9 => c_6 ((nI_leI (a := m9) (b := k43) (by omega) (by omega)).mpr h9)
          refine lv_aload_n hx hb dX6_cheapest_50 rfl (lv_at hl 0 rfl) ?_
          refine va_get (D := G) (ci := 6) (v := .ref a_w) (C := RX6) (T := TX6) (N := 12) hx hb hts inlX6 hown hK hP 0 rfl rfl 6 (by decide) (hts (.fieldLink RX6 39 "EarthBanks" "works" "LEarthBanks$Works;") k_2_5) (fun _ h9 => h9) h_o_w dX6_cheapest_51 ?_
          refine lv_iload hx hb dX6_cheapest_54 (lv_at hl 6 rfl) ?_
          refine cRV (As := [.int (nI k43)]) (rest := []) hx hb hml hown hts (c_X5_priceOf l G E cI cZ n (nI k43) a_w a_w_pr fs_w h_w_nw h_w_pr w_pr (hn)) k_39_22 cal_X5_priceOf ⟨Nat.le_of_ble_eq_true rfl, Nat.le_of_ble_eq_true rfl⟩ hE hlow hS hK [0, 1] rfl hP [6, 10] rfl 6 5 rfl rfl rfl hl.1 rfl (Nat.le_of_ble_eq_true rfl) dX6_cheapest_56 ⟨Nat.zero_le _, Nat.zero_le _⟩ ?_
          refine lv_istore (lv' := [(7, .int (sumS (priT w_pr (nI k43)) n)), (0, .ref o), (1, .int v), (2, .int x), (3, .int ((chpS (okS s_zo s_he s_go s_hd w_ki w_pl w_mo n v) (fun st => sumS (priT w_pr st) n) k43).1)), (4, .int ((chpS (okS s_zo s_he s_go s_hd w_ki w_pl w_mo n v) (fun st => sumS (priT w_pr st) n) k43).2)), (5, .int (nI m9)), (6, .int (nI k43))]) hx hb dX6_cheapest_59 hl (by decide) rfl (fun ls hl => ?_)
          refine lv_iload_n hx hb dX6_cheapest_61 rfl (lv_at hl 4 rfl) ?_
          refine lv_bipush (v := (-9)) hx hb dX6_cheapest_62 (by decide) ?_
          refine lv_icmp_eq (tgt := 77) hx hb dX6_cheapest_64 (by decide) (fun c_8 => ?_) (fun c_8 => ?_)
          · skip
            refine lv_aload_n hx hb dX6_cheapest_77 rfl (lv_at hl 1 rfl) ?_
            refine va_get (D := G) (ci := 6) (v := .ref a_d) (C := RX6) (T := TX6) (N := 12) hx hb hts inlX6 hown hK hP 0 rfl rfl 7 (by decide) (hts (.fieldLink RX6 46 "EarthBanks" "slides" "LEarthBanks$Slides;") k_2_9) (fun _ h9 => h9) h_o_d dX6_cheapest_78 ?_
            refine lv_aload_n hx hb dX6_cheapest_81 rfl (lv_at hl 1 rfl) ?_
            refine va_get (D := G) (ci := 6) (v := .ref a_s) (C := RX6) (T := TX6) (N := 12) hx hb hts inlX6 hown hK hP 0 rfl rfl 1 (by decide) (hts (.fieldLink RX6 19 "EarthBanks" "slice" "LEarthBanks$Slice;") k_1_20) (fun _ h9 => h9) h_o_s dX6_cheapest_82 ?_
            refine lv_aload_n hx hb dX6_cheapest_85 rfl (lv_at hl 1 rfl) ?_
            refine va_get (D := G) (ci := 6) (v := .ref a_w) (C := RX6) (T := TX6) (N := 12) hx hb hts inlX6 hown hK hP 0 rfl rfl 6 (by decide) (hts (.fieldLink RX6 39 "EarthBanks" "works" "LEarthBanks$Works;") k_2_5) (fun _ h9 => h9) h_o_w dX6_cheapest_86 ?_
            refine lv_iload hx hb dX6_cheapest_89 (lv_at hl 7 rfl) ?_
            refine cWVv (As := [.ref a_s, .ref a_w, .int (nI k43)]) (rest := []) hx hb hml hown hts (c_X3_survey l G E cI cZ n (nI k43) a_d a_d_re a_d_bu a_s a_s_zo a_s_he a_s_go a_s_hd a_w a_w_ki a_w_pl a_w_mo fs_d h_d_bu h_d_re fs_s h_s_zo h_s_go h_s_he h_s_hd fs_w h_w_nw h_w_ki h_w_pl h_w_mo z0 z1 s_zo s_he s_go s_hd w_ki w_pl w_mo (hn)) k_24_23 cal_X3_survey ⟨Nat.le_of_ble_eq_true rfl, Nat.le_of_ble_eq_true rfl⟩ hE hA hlow hD hS hK [0, 1] rfl hP [11, 12, 13, 1, 2, 3, 4, 5, 6, 7, 8, 9] rfl (by decide) [a_d, a_d_re, a_d_bu, a_s, a_s_zo, a_s_he, a_s_go, a_s_hd, a_w, a_w_ki, a_w_pl, a_w_mo] rfl (fun _ => rfl) [0, 10, 14] [(o, .inr (6, fs_o)), (a_w_pr, .inl (cI, 8, .inl w_pr)), (a_d_ba, .inl (cI, 6, .inl z2))] (fun _ => [(o, .inr (6, fs_o)), (a_s, .inr (2, fs_s)), (a_s_zo, .inl (cI, 48, .inl s_zo)), (a_s_he, .inl (cI, 48, .inl s_he)), (a_s_go, .inl (cI, 48, .inl s_go)), (a_s_hd, .inl (cI, 6, .inl s_hd)), (a_w, .inr (5, fs_w)), (a_w_ki, .inl (cI, 8, .inl w_ki)), (a_w_pl, .inl (cI, 8, .inl w_pl)), (a_w_mo, .inl (cI, 8, .inl w_mo)), (a_w_pr, .inl (cI, 8, .inl w_pr)), (a_d, .inr (3, fs_d)), (a_d_re, .inl (cI, 48, .inl (reG (isES s_zo s_go) (wtD s_zo s_he s_go w_ki w_pl (nI k43) n) (hwD s_zo s_hd w_ki w_pl w_mo (nI k43) n)))), (a_d_bu, .inl (cI, 48, .inl (buG (isES s_zo s_go) (wtD s_zo s_he s_go w_ki w_pl (nI k43) n)))), (a_d_ba, .inl (cI, 6, .inl z2))]) 15 rfl (fun _ => rfl) (fun _ => rfl) (fun _ => rfl) (by decide) (by decide) 11 3 rfl rfl rfl hl.1 rfl (Nat.le_of_ble_eq_true rfl) dX6_cheapest_91 ⟨Nat.zero_le _, Nat.zero_le _⟩ (fun u H locs hr_ hP hD hS => ?_)
            have hP : va_P G vwCl [(o, .inr (6, fs_o)), (a_s, .inr (2, fs_s)), (a_s_zo, .inl (cI, 48, .inl s_zo)), (a_s_he, .inl (cI, 48, .inl s_he)), (a_s_go, .inl (cI, 48, .inl s_go)), (a_s_hd, .inl (cI, 6, .inl s_hd)), (a_w, .inr (5, fs_w)), (a_w_ki, .inl (cI, 8, .inl w_ki)), (a_w_pl, .inl (cI, 8, .inl w_pl)), (a_w_mo, .inl (cI, 8, .inl w_mo)), (a_w_pr, .inl (cI, 8, .inl w_pr)), (a_d, .inr (3, fs_d)), (a_d_re, .inl (cI, 48, .inl (reG (isES s_zo s_go) (wtD s_zo s_he s_go w_ki w_pl (nI k43) n) (hwD s_zo s_hd w_ki w_pl w_mo (nI k43) n)))), (a_d_bu, .inl (cI, 48, .inl (buG (isES s_zo s_go) (wtD s_zo s_he s_go w_ki w_pl (nI k43) n)))), (a_d_ba, .inl (cI, 6, .inl z2))] H := hP
            have hD : va_D A [(o, .inr (6, fs_o)), (a_s, .inr (2, fs_s)), (a_s_zo, .inl (cI, 48, .inl s_zo)), (a_s_he, .inl (cI, 48, .inl s_he)), (a_s_go, .inl (cI, 48, .inl s_go)), (a_s_hd, .inl (cI, 6, .inl s_hd)), (a_w, .inr (5, fs_w)), (a_w_ki, .inl (cI, 8, .inl w_ki)), (a_w_pl, .inl (cI, 8, .inl w_pl)), (a_w_mo, .inl (cI, 8, .inl w_mo)), (a_w_pr, .inl (cI, 8, .inl w_pr)), (a_d, .inr (3, fs_d)), (a_d_re, .inl (cI, 48, .inl (reG (isES s_zo s_go) (wtD s_zo s_he s_go w_ki w_pl (nI k43) n) (hwD s_zo s_hd w_ki w_pl w_mo (nI k43) n)))), (a_d_bu, .inl (cI, 48, .inl (buG (isES s_zo s_go) (wtD s_zo s_he s_go w_ki w_pl (nI k43) n)))), (a_d_ba, .inl (cI, 6, .inl z2))] := hD
            refine lv_aload_n hx hb dX6_cheapest_94 rfl (lv_at hl 1 rfl) ?_
            refine va_get (D := G) (ci := 6) (v := .ref a_d) (C := RX6) (T := TX6) (N := 12) hx hb hts inlX6 hown hK hP 0 rfl rfl 7 (by decide) (hts (.fieldLink RX6 46 "EarthBanks" "slides" "LEarthBanks$Slides;") k_2_9) (fun _ h9 => h9) h_o_d dX6_cheapest_95 ?_
            refine lv_iload_n hx hb dX6_cheapest_98 rfl (lv_at hl 2 rfl) ?_
            refine cWVi (As := [.int v]) (rest := []) hx hb hml hown hts (c_X3_allReach l G E cI cZ v a_d a_d_re a_d_bu a_d_ba fs_d h_d_ba h_d_bu h_d_re (reG (isES s_zo s_go) (wtD s_zo s_he s_go w_ki w_pl (nI k43) n) (hwD s_zo s_hd w_ki w_pl w_mo (nI k43) n)) (buG (isES s_zo s_go) (wtD s_zo s_he s_go w_ki w_pl (nI k43) n)) z2) k_40_2 cal_X3_allReach ⟨Nat.le_of_ble_eq_true rfl, Nat.le_of_ble_eq_true rfl⟩ hE hA hlow hD hS hK [0, 1] rfl hP [11, 12, 13, 14] rfl (by decide) [a_d, a_d_re, a_d_bu, a_d_ba] rfl (fun _ => rfl) [0, 1, 2, 3, 4, 5, 6, 7, 8, 9, 10] [(o, .inr (6, fs_o)), (a_s, .inr (2, fs_s)), (a_s_zo, .inl (cI, 48, .inl s_zo)), (a_s_he, .inl (cI, 48, .inl s_he)), (a_s_go, .inl (cI, 48, .inl s_go)), (a_s_hd, .inl (cI, 6, .inl s_hd)), (a_w, .inr (5, fs_w)), (a_w_ki, .inl (cI, 8, .inl w_ki)), (a_w_pl, .inl (cI, 8, .inl w_pl)), (a_w_mo, .inl (cI, 8, .inl w_mo)), (a_w_pr, .inl (cI, 8, .inl w_pr))] (fun u => [(o, .inr (6, fs_o)), (a_s, .inr (2, fs_s)), (a_s_zo, .inl (cI, 48, .inl s_zo)), (a_s_he, .inl (cI, 48, .inl s_he)), (a_s_go, .inl (cI, 48, .inl s_go)), (a_s_hd, .inl (cI, 6, .inl s_hd)), (a_w, .inr (5, fs_w)), (a_w_ki, .inl (cI, 8, .inl w_ki)), (a_w_pl, .inl (cI, 8, .inl w_pl)), (a_w_mo, .inl (cI, 8, .inl w_mo)), (a_w_pr, .inl (cI, 8, .inl w_pr)), (a_d, .inr (3, fs_d)), (a_d_re, .inl (cI, 48, .inl (reG (isES s_zo s_go) (wtD s_zo s_he s_go w_ki w_pl (nI k43) n) (hwD s_zo s_hd w_ki w_pl w_mo (nI k43) n)))), (a_d_bu, .inl (cI, 48, .inl (buG (isES s_zo s_go) (wtD s_zo s_he s_go w_ki w_pl (nI k43) n)))), (a_d_ba, .inl (cI, 6, .inl u))]) 15 rfl (fun _ => rfl) (fun _ => rfl) (fun _ => rfl) (by decide) (by decide) 11 3 rfl rfl rfl hl.1 rfl (Nat.le_of_ble_eq_true rfl) dX6_cheapest_99 ⟨Nat.zero_le _, Nat.zero_le _⟩ (fun r_ u H locs hr_ hP hD hS => ?_)
            obtain ⟨b2_9, rfl⟩ : ∃ z, z = u := ⟨_, rfl⟩
            subst hr_
            have hP : va_P G vwCl [(o, .inr (6, fs_o)), (a_s, .inr (2, fs_s)), (a_s_zo, .inl (cI, 48, .inl s_zo)), (a_s_he, .inl (cI, 48, .inl s_he)), (a_s_go, .inl (cI, 48, .inl s_go)), (a_s_hd, .inl (cI, 6, .inl s_hd)), (a_w, .inr (5, fs_w)), (a_w_ki, .inl (cI, 8, .inl w_ki)), (a_w_pl, .inl (cI, 8, .inl w_pl)), (a_w_mo, .inl (cI, 8, .inl w_mo)), (a_w_pr, .inl (cI, 8, .inl w_pr)), (a_d, .inr (3, fs_d)), (a_d_re, .inl (cI, 48, .inl (reG (isES s_zo s_go) (wtD s_zo s_he s_go w_ki w_pl (nI k43) n) (hwD s_zo s_hd w_ki w_pl w_mo (nI k43) n)))), (a_d_bu, .inl (cI, 48, .inl (buG (isES s_zo s_go) (wtD s_zo s_he s_go w_ki w_pl (nI k43) n)))), (a_d_ba, .inl (cI, 6, .inl b2_9))] H := hP
            have hD : va_D A [(o, .inr (6, fs_o)), (a_s, .inr (2, fs_s)), (a_s_zo, .inl (cI, 48, .inl s_zo)), (a_s_he, .inl (cI, 48, .inl s_he)), (a_s_go, .inl (cI, 48, .inl s_go)), (a_s_hd, .inl (cI, 6, .inl s_hd)), (a_w, .inr (5, fs_w)), (a_w_ki, .inl (cI, 8, .inl w_ki)), (a_w_pl, .inl (cI, 8, .inl w_pl)), (a_w_mo, .inl (cI, 8, .inl w_mo)), (a_w_pr, .inl (cI, 8, .inl w_pr)), (a_d, .inr (3, fs_d)), (a_d_re, .inl (cI, 48, .inl (reG (isES s_zo s_go) (wtD s_zo s_he s_go w_ki w_pl (nI k43) n) (hwD s_zo s_hd w_ki w_pl w_mo (nI k43) n)))), (a_d_bu, .inl (cI, 48, .inl (buG (isES s_zo s_go) (wtD s_zo s_he s_go w_ki w_pl (nI k43) n)))), (a_d_ba, .inl (cI, 6, .inl b2_9))] := hD
            refine top_eq (y := bI (okS s_zo s_he s_go s_hd w_ki w_pl w_mo n v (nI k43))) (rfl) ?_
            refine lv_if_ne (tgt := 108) hx hb dX6_cheapest_102 (by decide) (fun c_10 => ?_) (fun c_10 => ?_)
            · skip
              have c_10 : (okS s_zo s_he s_go s_hd w_ki w_pl w_mo n v (nI k43)) = true := bI_t c_10
              refine lv_iload hx hb dX6_cheapest_108 (lv_at hl 7 rfl) ?_
              refine lv_istore_n (lv' := [(3, .int (nI k43)), (7, .int (sumS (priT w_pr (nI k43)) n)), (0, .ref o), (1, .int v), (2, .int x), (4, .int ((chpS (okS s_zo s_he s_go s_hd w_ki w_pl w_mo n v) (fun st => sumS (priT w_pr st) n) k43).2)), (5, .int (nI m9)), (6, .int (nI k43))]) hx hb dX6_cheapest_110 rfl hl (by decide) rfl (fun ls hl => ?_)
              refine lv_iload hx hb dX6_cheapest_111 (lv_at hl 1 rfl) ?_
              refine lv_istore (lv' := [(4, .int (sumS (priT w_pr (nI k43)) n)), (3, .int (nI k43)), (7, .int (sumS (priT w_pr (nI k43)) n)), (0, .ref o), (1, .int v), (2, .int x), (5, .int (nI m9)), (6, .int (nI k43))]) hx hb dX6_cheapest_113 hl (by decide) rfl (fun ls hl => ?_)
              refine lv_iinc (v := nI (k43 + 1)) (lv' := [(6, .int (nI (k43 + 1))), (4, .int (sumS (priT w_pr (nI k43)) n)), (3, .int (nI k43)), (7, .int (sumS (priT w_pr (nI k43)) n)), (0, .ref o), (1, .int v), (2, .int x), (5, .int (nI m9))]) hx hb dX6_cheapest_115 hl (k := 7) rfl (nI_add _ _) (by decide) rfl (fun ls hl => ?_)
              refine lv_goto (tgt := 43) hx hb dX6_cheapest_118 (by decide) ?_
              have el_11 : (nI k43 : Int32) = (chpS (okS s_zo s_he s_go s_hd w_ki w_pl w_mo n v) (fun st => sumS (priT w_pr st) n) (k43 + 1)).1 := by rw [chpS_s]; simp [c_1, c_2, c_6, eq_true c_8, c_10]
              have el_12 : (sumS (priT w_pr (nI k43)) n : Int32) = (chpS (okS s_zo s_he s_go s_hd w_ki w_pl w_mo n v) (fun st => sumS (priT w_pr st) n) (k43 + 1)).2 := by rw [chpS_s]; simp [c_1, c_2, c_6, eq_true c_8, c_10]
              exact ih43 (k43 + 1) (reG (isES s_zo s_go) (wtD s_zo s_he s_go w_ki w_pl (nI k43) n) (hwD s_zo s_hd w_ki w_pl w_mo (nI k43) n)) (buG (isES s_zo s_go) (wtD s_zo s_he s_go w_ki w_pl (nI k43) n)) b2_9 (by omega) (by omega) (by omega)  H locs hP hD hS ls (lv_sub hl [4, 5, 6, 2, 1, 7, 0] (show ([(0, .ref o), (1, .int v), (2, .int x), (3, .int (nI k43)), (4, .int (sumS (priT w_pr (nI k43)) n)), (5, .int (nI m9)), (6, .int (nI (k43 + 1)))] : List (Nat × Value)) = [(0, .ref o), (1, .int v), (2, .int x), (3, .int ((chpS (okS s_zo s_he s_go s_hd w_ki w_pl w_mo n v) (fun st => sumS (priT w_pr st) n) (k43 + 1)).1)), (4, .int ((chpS (okS s_zo s_he s_go s_hd w_ki w_pl w_mo n v) (fun st => sumS (priT w_pr st) n) (k43 + 1)).2)), (5, .int (nI m9)), (6, .int (nI (k43 + 1)))] by rw [← el_11, ← el_12]))
            · skip
              have c_10 : (okS s_zo s_he s_go s_hd w_ki w_pl w_mo n v (nI k43)) = false := bI_f c_10
              refine lv_goto (tgt := 115) hx hb dX6_cheapest_105 (by decide) ?_
              refine lv_iinc (v := nI (k43 + 1)) (lv' := [(6, .int (nI (k43 + 1))), (7, .int (sumS (priT w_pr (nI k43)) n)), (0, .ref o), (1, .int v), (2, .int x), (3, .int ((chpS (okS s_zo s_he s_go s_hd w_ki w_pl w_mo n v) (fun st => sumS (priT w_pr st) n) k43).1)), (4, .int ((chpS (okS s_zo s_he s_go s_hd w_ki w_pl w_mo n v) (fun st => sumS (priT w_pr st) n) k43).2)), (5, .int (nI m9))]) hx hb dX6_cheapest_115 hl (k := 7) rfl (nI_add _ _) (by decide) rfl (fun ls hl => ?_)
              refine lv_goto (tgt := 43) hx hb dX6_cheapest_118 (by decide) ?_
              have el_13 : ((chpS (okS s_zo s_he s_go s_hd w_ki w_pl w_mo n v) (fun st => sumS (priT w_pr st) n) k43).1 : Int32) = (chpS (okS s_zo s_he s_go s_hd w_ki w_pl w_mo n v) (fun st => sumS (priT w_pr st) n) (k43 + 1)).1 := by rw [chpS_s]; simp [c_1, c_2, c_6, eq_true c_8, c_10]
              have el_14 : ((chpS (okS s_zo s_he s_go s_hd w_ki w_pl w_mo n v) (fun st => sumS (priT w_pr st) n) k43).2 : Int32) = (chpS (okS s_zo s_he s_go s_hd w_ki w_pl w_mo n v) (fun st => sumS (priT w_pr st) n) (k43 + 1)).2 := by rw [chpS_s]; simp [c_1, c_2, c_6, eq_true c_8, c_10]
              exact ih43 (k43 + 1) (reG (isES s_zo s_go) (wtD s_zo s_he s_go w_ki w_pl (nI k43) n) (hwD s_zo s_hd w_ki w_pl w_mo (nI k43) n)) (buG (isES s_zo s_go) (wtD s_zo s_he s_go w_ki w_pl (nI k43) n)) b2_9 (by omega) (by omega) (by omega)  H locs hP hD hS ls (lv_sub hl [2, 3, 4, 5, 6, 7, 0] (show ([(0, .ref o), (1, .int v), (2, .int x), (3, .int ((chpS (okS s_zo s_he s_go s_hd w_ki w_pl w_mo n v) (fun st => sumS (priT w_pr st) n) k43).1)), (4, .int ((chpS (okS s_zo s_he s_go s_hd w_ki w_pl w_mo n v) (fun st => sumS (priT w_pr st) n) k43).2)), (5, .int (nI m9)), (6, .int (nI (k43 + 1)))] : List (Nat × Value)) = [(0, .ref o), (1, .int v), (2, .int x), (3, .int ((chpS (okS s_zo s_he s_go s_hd w_ki w_pl w_mo n v) (fun st => sumS (priT w_pr st) n) (k43 + 1)).1)), (4, .int ((chpS (okS s_zo s_he s_go s_hd w_ki w_pl w_mo n v) (fun st => sumS (priT w_pr st) n) (k43 + 1)).2)), (5, .int (nI m9)), (6, .int (nI (k43 + 1)))] by rw [← el_13, ← el_14]))
          · skip
            refine lv_iload hx hb dX6_cheapest_67 (lv_at hl 0 rfl) ?_
            refine lv_iload hx hb dX6_cheapest_69 (lv_at hl 5 rfl) ?_
            refine lv_icmp_lt (tgt := 77) hx hb dX6_cheapest_71 (by decide) (fun c_15 => ?_) (fun c_15 => ?_)
            · skip
              refine lv_aload_n hx hb dX6_cheapest_77 rfl (lv_at hl 1 rfl) ?_
              refine va_get (D := G) (ci := 6) (v := .ref a_d) (C := RX6) (T := TX6) (N := 12) hx hb hts inlX6 hown hK hP 0 rfl rfl 7 (by decide) (hts (.fieldLink RX6 46 "EarthBanks" "slides" "LEarthBanks$Slides;") k_2_9) (fun _ h9 => h9) h_o_d dX6_cheapest_78 ?_
              refine lv_aload_n hx hb dX6_cheapest_81 rfl (lv_at hl 1 rfl) ?_
              refine va_get (D := G) (ci := 6) (v := .ref a_s) (C := RX6) (T := TX6) (N := 12) hx hb hts inlX6 hown hK hP 0 rfl rfl 1 (by decide) (hts (.fieldLink RX6 19 "EarthBanks" "slice" "LEarthBanks$Slice;") k_1_20) (fun _ h9 => h9) h_o_s dX6_cheapest_82 ?_
              refine lv_aload_n hx hb dX6_cheapest_85 rfl (lv_at hl 1 rfl) ?_
              refine va_get (D := G) (ci := 6) (v := .ref a_w) (C := RX6) (T := TX6) (N := 12) hx hb hts inlX6 hown hK hP 0 rfl rfl 6 (by decide) (hts (.fieldLink RX6 39 "EarthBanks" "works" "LEarthBanks$Works;") k_2_5) (fun _ h9 => h9) h_o_w dX6_cheapest_86 ?_
              refine lv_iload hx hb dX6_cheapest_89 (lv_at hl 7 rfl) ?_
              refine cWVv (As := [.ref a_s, .ref a_w, .int (nI k43)]) (rest := []) hx hb hml hown hts (c_X3_survey l G E cI cZ n (nI k43) a_d a_d_re a_d_bu a_s a_s_zo a_s_he a_s_go a_s_hd a_w a_w_ki a_w_pl a_w_mo fs_d h_d_bu h_d_re fs_s h_s_zo h_s_go h_s_he h_s_hd fs_w h_w_nw h_w_ki h_w_pl h_w_mo z0 z1 s_zo s_he s_go s_hd w_ki w_pl w_mo (hn)) k_24_23 cal_X3_survey ⟨Nat.le_of_ble_eq_true rfl, Nat.le_of_ble_eq_true rfl⟩ hE hA hlow hD hS hK [0, 1] rfl hP [11, 12, 13, 1, 2, 3, 4, 5, 6, 7, 8, 9] rfl (by decide) [a_d, a_d_re, a_d_bu, a_s, a_s_zo, a_s_he, a_s_go, a_s_hd, a_w, a_w_ki, a_w_pl, a_w_mo] rfl (fun _ => rfl) [0, 10, 14] [(o, .inr (6, fs_o)), (a_w_pr, .inl (cI, 8, .inl w_pr)), (a_d_ba, .inl (cI, 6, .inl z2))] (fun _ => [(o, .inr (6, fs_o)), (a_s, .inr (2, fs_s)), (a_s_zo, .inl (cI, 48, .inl s_zo)), (a_s_he, .inl (cI, 48, .inl s_he)), (a_s_go, .inl (cI, 48, .inl s_go)), (a_s_hd, .inl (cI, 6, .inl s_hd)), (a_w, .inr (5, fs_w)), (a_w_ki, .inl (cI, 8, .inl w_ki)), (a_w_pl, .inl (cI, 8, .inl w_pl)), (a_w_mo, .inl (cI, 8, .inl w_mo)), (a_w_pr, .inl (cI, 8, .inl w_pr)), (a_d, .inr (3, fs_d)), (a_d_re, .inl (cI, 48, .inl (reG (isES s_zo s_go) (wtD s_zo s_he s_go w_ki w_pl (nI k43) n) (hwD s_zo s_hd w_ki w_pl w_mo (nI k43) n)))), (a_d_bu, .inl (cI, 48, .inl (buG (isES s_zo s_go) (wtD s_zo s_he s_go w_ki w_pl (nI k43) n)))), (a_d_ba, .inl (cI, 6, .inl z2))]) 15 rfl (fun _ => rfl) (fun _ => rfl) (fun _ => rfl) (by decide) (by decide) 11 3 rfl rfl rfl hl.1 rfl (Nat.le_of_ble_eq_true rfl) dX6_cheapest_91 ⟨Nat.zero_le _, Nat.zero_le _⟩ (fun u H locs hr_ hP hD hS => ?_)
              have hP : va_P G vwCl [(o, .inr (6, fs_o)), (a_s, .inr (2, fs_s)), (a_s_zo, .inl (cI, 48, .inl s_zo)), (a_s_he, .inl (cI, 48, .inl s_he)), (a_s_go, .inl (cI, 48, .inl s_go)), (a_s_hd, .inl (cI, 6, .inl s_hd)), (a_w, .inr (5, fs_w)), (a_w_ki, .inl (cI, 8, .inl w_ki)), (a_w_pl, .inl (cI, 8, .inl w_pl)), (a_w_mo, .inl (cI, 8, .inl w_mo)), (a_w_pr, .inl (cI, 8, .inl w_pr)), (a_d, .inr (3, fs_d)), (a_d_re, .inl (cI, 48, .inl (reG (isES s_zo s_go) (wtD s_zo s_he s_go w_ki w_pl (nI k43) n) (hwD s_zo s_hd w_ki w_pl w_mo (nI k43) n)))), (a_d_bu, .inl (cI, 48, .inl (buG (isES s_zo s_go) (wtD s_zo s_he s_go w_ki w_pl (nI k43) n)))), (a_d_ba, .inl (cI, 6, .inl z2))] H := hP
              have hD : va_D A [(o, .inr (6, fs_o)), (a_s, .inr (2, fs_s)), (a_s_zo, .inl (cI, 48, .inl s_zo)), (a_s_he, .inl (cI, 48, .inl s_he)), (a_s_go, .inl (cI, 48, .inl s_go)), (a_s_hd, .inl (cI, 6, .inl s_hd)), (a_w, .inr (5, fs_w)), (a_w_ki, .inl (cI, 8, .inl w_ki)), (a_w_pl, .inl (cI, 8, .inl w_pl)), (a_w_mo, .inl (cI, 8, .inl w_mo)), (a_w_pr, .inl (cI, 8, .inl w_pr)), (a_d, .inr (3, fs_d)), (a_d_re, .inl (cI, 48, .inl (reG (isES s_zo s_go) (wtD s_zo s_he s_go w_ki w_pl (nI k43) n) (hwD s_zo s_hd w_ki w_pl w_mo (nI k43) n)))), (a_d_bu, .inl (cI, 48, .inl (buG (isES s_zo s_go) (wtD s_zo s_he s_go w_ki w_pl (nI k43) n)))), (a_d_ba, .inl (cI, 6, .inl z2))] := hD
              refine lv_aload_n hx hb dX6_cheapest_94 rfl (lv_at hl 1 rfl) ?_
              refine va_get (D := G) (ci := 6) (v := .ref a_d) (C := RX6) (T := TX6) (N := 12) hx hb hts inlX6 hown hK hP 0 rfl rfl 7 (by decide) (hts (.fieldLink RX6 46 "EarthBanks" "slides" "LEarthBanks$Slides;") k_2_9) (fun _ h9 => h9) h_o_d dX6_cheapest_95 ?_
              refine lv_iload_n hx hb dX6_cheapest_98 rfl (lv_at hl 2 rfl) ?_
              refine cWVi (As := [.int v]) (rest := []) hx hb hml hown hts (c_X3_allReach l G E cI cZ v a_d a_d_re a_d_bu a_d_ba fs_d h_d_ba h_d_bu h_d_re (reG (isES s_zo s_go) (wtD s_zo s_he s_go w_ki w_pl (nI k43) n) (hwD s_zo s_hd w_ki w_pl w_mo (nI k43) n)) (buG (isES s_zo s_go) (wtD s_zo s_he s_go w_ki w_pl (nI k43) n)) z2) k_40_2 cal_X3_allReach ⟨Nat.le_of_ble_eq_true rfl, Nat.le_of_ble_eq_true rfl⟩ hE hA hlow hD hS hK [0, 1] rfl hP [11, 12, 13, 14] rfl (by decide) [a_d, a_d_re, a_d_bu, a_d_ba] rfl (fun _ => rfl) [0, 1, 2, 3, 4, 5, 6, 7, 8, 9, 10] [(o, .inr (6, fs_o)), (a_s, .inr (2, fs_s)), (a_s_zo, .inl (cI, 48, .inl s_zo)), (a_s_he, .inl (cI, 48, .inl s_he)), (a_s_go, .inl (cI, 48, .inl s_go)), (a_s_hd, .inl (cI, 6, .inl s_hd)), (a_w, .inr (5, fs_w)), (a_w_ki, .inl (cI, 8, .inl w_ki)), (a_w_pl, .inl (cI, 8, .inl w_pl)), (a_w_mo, .inl (cI, 8, .inl w_mo)), (a_w_pr, .inl (cI, 8, .inl w_pr))] (fun u => [(o, .inr (6, fs_o)), (a_s, .inr (2, fs_s)), (a_s_zo, .inl (cI, 48, .inl s_zo)), (a_s_he, .inl (cI, 48, .inl s_he)), (a_s_go, .inl (cI, 48, .inl s_go)), (a_s_hd, .inl (cI, 6, .inl s_hd)), (a_w, .inr (5, fs_w)), (a_w_ki, .inl (cI, 8, .inl w_ki)), (a_w_pl, .inl (cI, 8, .inl w_pl)), (a_w_mo, .inl (cI, 8, .inl w_mo)), (a_w_pr, .inl (cI, 8, .inl w_pr)), (a_d, .inr (3, fs_d)), (a_d_re, .inl (cI, 48, .inl (reG (isES s_zo s_go) (wtD s_zo s_he s_go w_ki w_pl (nI k43) n) (hwD s_zo s_hd w_ki w_pl w_mo (nI k43) n)))), (a_d_bu, .inl (cI, 48, .inl (buG (isES s_zo s_go) (wtD s_zo s_he s_go w_ki w_pl (nI k43) n)))), (a_d_ba, .inl (cI, 6, .inl u))]) 15 rfl (fun _ => rfl) (fun _ => rfl) (fun _ => rfl) (by decide) (by decide) 11 3 rfl rfl rfl hl.1 rfl (Nat.le_of_ble_eq_true rfl) dX6_cheapest_99 ⟨Nat.zero_le _, Nat.zero_le _⟩ (fun r_ u H locs hr_ hP hD hS => ?_)
              obtain ⟨b2_16, rfl⟩ : ∃ z, z = u := ⟨_, rfl⟩
              subst hr_
              have hP : va_P G vwCl [(o, .inr (6, fs_o)), (a_s, .inr (2, fs_s)), (a_s_zo, .inl (cI, 48, .inl s_zo)), (a_s_he, .inl (cI, 48, .inl s_he)), (a_s_go, .inl (cI, 48, .inl s_go)), (a_s_hd, .inl (cI, 6, .inl s_hd)), (a_w, .inr (5, fs_w)), (a_w_ki, .inl (cI, 8, .inl w_ki)), (a_w_pl, .inl (cI, 8, .inl w_pl)), (a_w_mo, .inl (cI, 8, .inl w_mo)), (a_w_pr, .inl (cI, 8, .inl w_pr)), (a_d, .inr (3, fs_d)), (a_d_re, .inl (cI, 48, .inl (reG (isES s_zo s_go) (wtD s_zo s_he s_go w_ki w_pl (nI k43) n) (hwD s_zo s_hd w_ki w_pl w_mo (nI k43) n)))), (a_d_bu, .inl (cI, 48, .inl (buG (isES s_zo s_go) (wtD s_zo s_he s_go w_ki w_pl (nI k43) n)))), (a_d_ba, .inl (cI, 6, .inl b2_16))] H := hP
              have hD : va_D A [(o, .inr (6, fs_o)), (a_s, .inr (2, fs_s)), (a_s_zo, .inl (cI, 48, .inl s_zo)), (a_s_he, .inl (cI, 48, .inl s_he)), (a_s_go, .inl (cI, 48, .inl s_go)), (a_s_hd, .inl (cI, 6, .inl s_hd)), (a_w, .inr (5, fs_w)), (a_w_ki, .inl (cI, 8, .inl w_ki)), (a_w_pl, .inl (cI, 8, .inl w_pl)), (a_w_mo, .inl (cI, 8, .inl w_mo)), (a_w_pr, .inl (cI, 8, .inl w_pr)), (a_d, .inr (3, fs_d)), (a_d_re, .inl (cI, 48, .inl (reG (isES s_zo s_go) (wtD s_zo s_he s_go w_ki w_pl (nI k43) n) (hwD s_zo s_hd w_ki w_pl w_mo (nI k43) n)))), (a_d_bu, .inl (cI, 48, .inl (buG (isES s_zo s_go) (wtD s_zo s_he s_go w_ki w_pl (nI k43) n)))), (a_d_ba, .inl (cI, 6, .inl b2_16))] := hD
              refine top_eq (y := bI (okS s_zo s_he s_go s_hd w_ki w_pl w_mo n v (nI k43))) (rfl) ?_
              refine lv_if_ne (tgt := 108) hx hb dX6_cheapest_102 (by decide) (fun c_17 => ?_) (fun c_17 => ?_)
              · skip
                have c_17 : (okS s_zo s_he s_go s_hd w_ki w_pl w_mo n v (nI k43)) = true := bI_t c_17
                refine lv_iload hx hb dX6_cheapest_108 (lv_at hl 7 rfl) ?_
                refine lv_istore_n (lv' := [(3, .int (nI k43)), (7, .int (sumS (priT w_pr (nI k43)) n)), (0, .ref o), (1, .int v), (2, .int x), (4, .int ((chpS (okS s_zo s_he s_go s_hd w_ki w_pl w_mo n v) (fun st => sumS (priT w_pr st) n) k43).2)), (5, .int (nI m9)), (6, .int (nI k43))]) hx hb dX6_cheapest_110 rfl hl (by decide) rfl (fun ls hl => ?_)
                refine lv_iload hx hb dX6_cheapest_111 (lv_at hl 1 rfl) ?_
                refine lv_istore (lv' := [(4, .int (sumS (priT w_pr (nI k43)) n)), (3, .int (nI k43)), (7, .int (sumS (priT w_pr (nI k43)) n)), (0, .ref o), (1, .int v), (2, .int x), (5, .int (nI m9)), (6, .int (nI k43))]) hx hb dX6_cheapest_113 hl (by decide) rfl (fun ls hl => ?_)
                refine lv_iinc (v := nI (k43 + 1)) (lv' := [(6, .int (nI (k43 + 1))), (4, .int (sumS (priT w_pr (nI k43)) n)), (3, .int (nI k43)), (7, .int (sumS (priT w_pr (nI k43)) n)), (0, .ref o), (1, .int v), (2, .int x), (5, .int (nI m9))]) hx hb dX6_cheapest_115 hl (k := 7) rfl (nI_add _ _) (by decide) rfl (fun ls hl => ?_)
                refine lv_goto (tgt := 43) hx hb dX6_cheapest_118 (by decide) ?_
                have el_18 : (nI k43 : Int32) = (chpS (okS s_zo s_he s_go s_hd w_ki w_pl w_mo n v) (fun st => sumS (priT w_pr st) n) (k43 + 1)).1 := by rw [chpS_s]; simp [c_1, c_2, c_6, c_8, c_15, c_17]
                have el_19 : (sumS (priT w_pr (nI k43)) n : Int32) = (chpS (okS s_zo s_he s_go s_hd w_ki w_pl w_mo n v) (fun st => sumS (priT w_pr st) n) (k43 + 1)).2 := by rw [chpS_s]; simp [c_1, c_2, c_6, c_8, c_15, c_17]
                exact ih43 (k43 + 1) (reG (isES s_zo s_go) (wtD s_zo s_he s_go w_ki w_pl (nI k43) n) (hwD s_zo s_hd w_ki w_pl w_mo (nI k43) n)) (buG (isES s_zo s_go) (wtD s_zo s_he s_go w_ki w_pl (nI k43) n)) b2_16 (by omega) (by omega) (by omega)  H locs hP hD hS ls (lv_sub hl [4, 5, 6, 2, 1, 7, 0] (show ([(0, .ref o), (1, .int v), (2, .int x), (3, .int (nI k43)), (4, .int (sumS (priT w_pr (nI k43)) n)), (5, .int (nI m9)), (6, .int (nI (k43 + 1)))] : List (Nat × Value)) = [(0, .ref o), (1, .int v), (2, .int x), (3, .int ((chpS (okS s_zo s_he s_go s_hd w_ki w_pl w_mo n v) (fun st => sumS (priT w_pr st) n) (k43 + 1)).1)), (4, .int ((chpS (okS s_zo s_he s_go s_hd w_ki w_pl w_mo n v) (fun st => sumS (priT w_pr st) n) (k43 + 1)).2)), (5, .int (nI m9)), (6, .int (nI (k43 + 1)))] by rw [← el_18, ← el_19]))
              · skip
                have c_17 : (okS s_zo s_he s_go s_hd w_ki w_pl w_mo n v (nI k43)) = false := bI_f c_17
                refine lv_goto (tgt := 115) hx hb dX6_cheapest_105 (by decide) ?_
                refine lv_iinc (v := nI (k43 + 1)) (lv' := [(6, .int (nI (k43 + 1))), (7, .int (sumS (priT w_pr (nI k43)) n)), (0, .ref o), (1, .int v), (2, .int x), (3, .int ((chpS (okS s_zo s_he s_go s_hd w_ki w_pl w_mo n v) (fun st => sumS (priT w_pr st) n) k43).1)), (4, .int ((chpS (okS s_zo s_he s_go s_hd w_ki w_pl w_mo n v) (fun st => sumS (priT w_pr st) n) k43).2)), (5, .int (nI m9))]) hx hb dX6_cheapest_115 hl (k := 7) rfl (nI_add _ _) (by decide) rfl (fun ls hl => ?_)
                refine lv_goto (tgt := 43) hx hb dX6_cheapest_118 (by decide) ?_
                have el_20 : ((chpS (okS s_zo s_he s_go s_hd w_ki w_pl w_mo n v) (fun st => sumS (priT w_pr st) n) k43).1 : Int32) = (chpS (okS s_zo s_he s_go s_hd w_ki w_pl w_mo n v) (fun st => sumS (priT w_pr st) n) (k43 + 1)).1 := by rw [chpS_s]; simp [c_1, c_2, c_6, c_8, c_15, c_17]
                have el_21 : ((chpS (okS s_zo s_he s_go s_hd w_ki w_pl w_mo n v) (fun st => sumS (priT w_pr st) n) k43).2 : Int32) = (chpS (okS s_zo s_he s_go s_hd w_ki w_pl w_mo n v) (fun st => sumS (priT w_pr st) n) (k43 + 1)).2 := by rw [chpS_s]; simp [c_1, c_2, c_6, c_8, c_15, c_17]
                exact ih43 (k43 + 1) (reG (isES s_zo s_go) (wtD s_zo s_he s_go w_ki w_pl (nI k43) n) (hwD s_zo s_hd w_ki w_pl w_mo (nI k43) n)) (buG (isES s_zo s_go) (wtD s_zo s_he s_go w_ki w_pl (nI k43) n)) b2_16 (by omega) (by omega) (by omega)  H locs hP hD hS ls (lv_sub hl [2, 3, 4, 5, 6, 7, 0] (show ([(0, .ref o), (1, .int v), (2, .int x), (3, .int ((chpS (okS s_zo s_he s_go s_hd w_ki w_pl w_mo n v) (fun st => sumS (priT w_pr st) n) k43).1)), (4, .int ((chpS (okS s_zo s_he s_go s_hd w_ki w_pl w_mo n v) (fun st => sumS (priT w_pr st) n) k43).2)), (5, .int (nI m9)), (6, .int (nI (k43 + 1)))] : List (Nat × Value)) = [(0, .ref o), (1, .int v), (2, .int x), (3, .int ((chpS (okS s_zo s_he s_go s_hd w_ki w_pl w_mo n v) (fun st => sumS (priT w_pr st) n) (k43 + 1)).1)), (4, .int ((chpS (okS s_zo s_he s_go s_hd w_ki w_pl w_mo n v) (fun st => sumS (priT w_pr st) n) (k43 + 1)).2)), (5, .int (nI m9)), (6, .int (nI (k43 + 1)))] by rw [← el_20, ← el_21]))
            · skip
              refine lv_goto (tgt := 115) hx hb dX6_cheapest_74 (by decide) ?_
              refine lv_iinc (v := nI (k43 + 1)) (lv' := [(6, .int (nI (k43 + 1))), (7, .int (sumS (priT w_pr (nI k43)) n)), (0, .ref o), (1, .int v), (2, .int x), (3, .int ((chpS (okS s_zo s_he s_go s_hd w_ki w_pl w_mo n v) (fun st => sumS (priT w_pr st) n) k43).1)), (4, .int ((chpS (okS s_zo s_he s_go s_hd w_ki w_pl w_mo n v) (fun st => sumS (priT w_pr st) n) k43).2)), (5, .int (nI m9))]) hx hb dX6_cheapest_115 hl (k := 7) rfl (nI_add _ _) (by decide) rfl (fun ls hl => ?_)
              refine lv_goto (tgt := 43) hx hb dX6_cheapest_118 (by decide) ?_
              have el_22 : ((chpS (okS s_zo s_he s_go s_hd w_ki w_pl w_mo n v) (fun st => sumS (priT w_pr st) n) k43).1 : Int32) = (chpS (okS s_zo s_he s_go s_hd w_ki w_pl w_mo n v) (fun st => sumS (priT w_pr st) n) (k43 + 1)).1 := by rw [chpS_s]; simp [c_1, c_2, c_6, c_8, c_15]
              have el_23 : ((chpS (okS s_zo s_he s_go s_hd w_ki w_pl w_mo n v) (fun st => sumS (priT w_pr st) n) k43).2 : Int32) = (chpS (okS s_zo s_he s_go s_hd w_ki w_pl w_mo n v) (fun st => sumS (priT w_pr st) n) (k43 + 1)).2 := by rw [chpS_s]; simp [c_1, c_2, c_6, c_8, c_15]
              exact ih43 (k43 + 1) z0 z1 z2 (by omega) (by omega) (by omega)  H locs hP hD hS ls (lv_sub hl [2, 3, 4, 5, 6, 7, 0] (show ([(0, .ref o), (1, .int v), (2, .int x), (3, .int ((chpS (okS s_zo s_he s_go s_hd w_ki w_pl w_mo n v) (fun st => sumS (priT w_pr st) n) k43).1)), (4, .int ((chpS (okS s_zo s_he s_go s_hd w_ki w_pl w_mo n v) (fun st => sumS (priT w_pr st) n) k43).2)), (5, .int (nI m9)), (6, .int (nI (k43 + 1)))] : List (Nat × Value)) = [(0, .ref o), (1, .int v), (2, .int x), (3, .int ((chpS (okS s_zo s_he s_go s_hd w_ki w_pl w_mo n v) (fun st => sumS (priT w_pr st) n) (k43 + 1)).1)), (4, .int ((chpS (okS s_zo s_he s_go s_hd w_ki w_pl w_mo n v) (fun st => sumS (priT w_pr st) n) (k43 + 1)).2)), (5, .int (nI m9)), (6, .int (nI (k43 + 1)))] by rw [← el_22, ← el_23]))
    · skip
      have c_2 : (wiB x 0 1) = false := bI_f c_2
      refine lv_iconst (v := (-1)) hx hb dX6_cheapest_20 (by decide) ?_
      exact retWi (d_re, d_bu, d_ba) hx hb hr (rfl) hlocks dX6_cheapest_21 hS (by simp [c_1, c_2]) hP
