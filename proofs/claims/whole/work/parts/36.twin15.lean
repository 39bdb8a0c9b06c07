/-- the twin's text -/
def byM (TX : Nat → Int32) (n i : Nat) : Int32 := if n ≤ i then -1 else TX i
def ltM (v : Int32) : Bool := wiB v 97 122 || decide (v = 46)
def bg1 (S : Nat → Int32) (k : Nat) : Nat → Int32 := fun i => if i < 48 then (if i < k then -9 else S i) else if i < 96 then (if i - 48 < k then 0 else S i) else if i < 144 then (if i - 96 < k then 0 else S i) else S i
theorem bg1_0 (S : Nat → Int32) : bg1 S 0 = S := by
  funext i
  simp [bg1]
theorem bg1_s {S : Nat → Int32} {k : Nat} (h : k < 48) : upd (upd (upd (bg1 S k) (0 + k) (-9)) (48 + k) 0) (96 + k) 0 = bg1 S (k + 1) := by
  funext i
  simp only [bg1, upd]
  repeat' split
  all_goals first | rfl | omega
def bg2 (S : Nat → Int32) (k : Nat) : Nat → Int32 := fun i => if 144 ≤ i ∧ i < 144 + k then 10 else bg1 S 48 i
theorem bg2_0 (S : Nat → Int32) : bg2 S 0 = bg1 S 48 := by
  funext i
  exact if_neg (by omega)
theorem bg2_s {S : Nat → Int32} {k : Nat} (h : k < 18) : upd (bg2 S k) (144 + k) 10 = bg2 S (k + 1) := by
  funext i
  simp only [bg2, upd]
  repeat' split
  all_goals first | rfl | omega
theorem cal_X7_clear : calV yX7_clear cX7_clear 2 (some .int) 0 := ⟨k_8_12, k_1_5, k_8_10, k_8_11, by decide +kernel⟩
set_option maxHeartbeats 4000000 in
set_option maxRecDepth 100000 in
theorem c_X7_clear (l : Launch) (G : va_G) (E : EvT) (cI cZ : ClassId) (o : Nat) (a_S : Nat) (a_K : Nat) (a_IK : Nat) (a_SV : Nat) (a_DR : Nat) (a_TX : Nat) (a_WY : Nat) (a_BE : Nat) (a_MO : Nat) (a_DY : Nat) (a_PO : Nat) (a_HO : Nat) (a_WA : Nat) (a_GA : Nat) (a_CA : Nat) (a_MT : Nat) (a_LW : Nat) (a_WK : Nat) (th : Int32) (tr : Int64) (td : Int32) (nx : Int32) (tk : Int32) (pc : Int32) (vl : Int32) (fa : Int32) (ff : Int32) (bf : Int32) (bm : Int32) (bl : Int32) (ng : Int32) (nc : Int32) (sl : Int32) (nw : Int32) (pe : Int32) (pv : Int32) (pt : Int32) (pu : Int32) : cWi (S := Unit) l G E yX7_clear cX7_clear 2 (some .int) 8 [(cI, .int), (cZ, .boolean)] [.ref o] [(o, .inr (7, [.int th, .long tr, .ref a_S, .ref a_K, .ref a_IK, .ref a_SV, .ref a_DR, .ref a_TX, .int td, .int nx, .int tk, .int pc, .int vl, .int fa, .int ff, .ref a_WY, .ref a_BE, .int bf, .int bm, .int bl, .ref a_MO, .ref a_DY, .ref a_PO, .ref a_HO, .ref a_WA, .int ng, .ref a_GA, .int nc, .ref a_CA, .int sl, .ref a_MT, .ref a_LW, .int nw, .ref a_WK, .int pe, .int pv, .int pt, .int pu]))] (fun r _ => r = td) (fun _ => [(o, .inr (7, [.int 0, .long tr, .ref a_S, .ref a_K, .ref a_IK, .ref a_SV, .ref a_DR, .ref a_TX, .int 0, .int nx, .int tk, .int pc, .int vl, .int fa, .int ff, .ref a_WY, .ref a_BE, .int bf, .int bm, .int bl, .ref a_MO, .ref a_DY, .ref a_PO, .ref a_HO, .ref a_WA, .int ng, .ref a_GA, .int nc, .ref a_CA, .int sl, .ref a_MT, .ref a_LW, .int nw, .ref a_WK, .int pe, .int pv, .int pt, .int pu]))]) := by
  refine mkWi (by decide) (Nat.le_of_ble_eq_true rfl) ?_
  intro zp ze s zm args below meth zc hx hb hr hml hown hts hlocks hE hK A hA hlow H locs hP hD hS ls hl
  have hl : lv_has ls 2 [(0, .ref o)] := hl
  refine lv_aload_n hx hb dX7_clear_0 rfl (lv_at hl 0 rfl) ?_
  refine lv_iconst (v := 0) hx hb dX7_clear_1 (by decide) ?_
  refine va_put (D := G) (ci := 7) (v := .int 0) (ty := .int) (C := RX7) (T := TX7) (N := 38) hx hb hts inlX7 tyX7 tyX7_ok nmX7 hown hK hP hD hS 0 rfl rfl 0 (by decide) (hts (.fieldLink RX7 75 "EarthBanksModel" "thrown" "I") k_7_19) (fun _ h9 => h9) rfl (by decide +kernel) (rfl) (rfl) (Nat.le_of_ble_eq_true rfl) dX7_clear_2 (fun H locs hP hD hS => ?_)
  have hP : va_P G vwCl [(o, .inr (7, [.int 0, .long tr, .ref a_S, .ref a_K, .ref a_IK, .ref a_SV, .ref a_DR, .ref a_TX, .int td, .int nx, .int tk, .int pc, .int vl, .int fa, .int ff, .ref a_WY, .ref a_BE, .int bf, .int bm, .int bl, .ref a_MO, .ref a_DY, .ref a_PO, .ref a_HO, .ref a_WA, .int ng, .ref a_GA, .int nc, .ref a_CA, .int sl, .ref a_MT, .ref a_LW, .int nw, .ref a_WK, .int pe, .int pv, .int pt, .int pu]))] H := hP
  have hD : va_D A [(o, .inr (7, [.int 0, .long tr, .ref a_S, .ref a_K, .ref a_IK, .ref a_SV, .ref a_DR, .ref a_TX, .int td, .int nx, .int tk, .int pc, .int vl, .int fa, .int ff, .ref a_WY, .ref a_BE, .int bf, .int bm, .int bl, .ref a_MO, .ref a_DY, .ref a_PO, .ref a_HO, .ref a_WA, .int ng, .ref a_GA, .int nc, .ref a_CA, .int sl, .ref a_MT, .ref a_LW, .int nw, .ref a_WK, .int pe, .int pv, .int pt, .int pu]))] := hD
  refine lv_aload_n hx hb dX7_clear_5 rfl (lv_at hl 0 rfl) ?_
  refine va_get (D := G) (ci := 7) (v := .int td) (C := RX7) (T := TX7) (N := 38) hx hb hts inlX7 hown hK hP 0 rfl rfl 8 (by decide) (hts (.fieldLink RX7 90 "EarthBanksModel" "typed" "I") k_7_20) (fun _ h9 => h9) rfl dX7_clear_6 ?_
  refine lv_istore_n (lv' := [(1, .int td), (0, .ref o)]) hx hb dX7_clear_9 rfl hl (by decide) rfl (fun ls hl => ?_)
  refine lv_aload_n hx hb dX7_clear_10 rfl (lv_at hl 1 rfl) ?_
  refine lv_iconst (v := 0) hx hb dX7_clear_11 (by decide) ?_
  refine va_put (D := G) (ci := 7) (v := .int 0) (ty := .int) (C := RX7) (T := TX7) (N := 38) hx hb hts inlX7 tyX7 tyX7_ok nmX7 hown hK hP hD hS 0 rfl rfl 8 (by decide) (hts (.fieldLink RX7 90 "EarthBanksModel" "typed" "I") k_7_20) (fun _ h9 => h9) rfl (by decide +kernel) (rfl) (rfl) (Nat.le_of_ble_eq_true rfl) dX7_clear_12 (fun H locs hP hD hS => ?_)
  have hP : va_P G vwCl [(o, .inr (7, [.int 0, .long tr, .ref a_S, .ref a_K, .ref a_IK, .ref a_SV, .ref a_DR, .ref a_TX, .int 0, .int nx, .int tk, .int pc, .int vl, .int fa, .int ff, .ref a_WY, .ref a_BE, .int bf, .int bm, .int bl, .ref a_MO, .ref a_DY, .ref a_PO, .ref a_HO, .ref a_WA, .int ng, .ref a_GA, .int nc, .ref a_CA, .int sl, .ref a_MT, .ref a_LW, .int nw, .ref a_WK, .int pe, .int pv, .int pt, .int pu]))] H := hP
  have hD : va_D A [(o, .inr (7, [.int 0, .long tr, .ref a_S, .ref a_K, .ref a_IK, .ref a_SV, .ref a_DR, .ref a_TX, .int 0, .int nx, .int tk, .int pc, .int vl, .int fa, .int ff, .ref a_WY, .ref a_BE, .int bf, .int bm, .int bl, .ref a_MO, .ref a_DY, .ref a_PO, .ref a_HO, .ref a_WA, .int ng, .ref a_GA, .int nc, .ref a_CA, .int sl, .ref a_MT, .ref a_LW, .int nw, .ref a_WK, .int pe, .int pv, .int pt, .int pu]))] := hD
  refine lv_iload_n hx hb dX7_clear_15 rfl (lv_at hl 0 rfl) ?_
  exact retWi () hx hb hr (rfl) hlocks dX7_clear_16 hS (rfl) hP
theorem cal_X7_byteAt : calV yX7_byteAt cX7_byteAt 2 (some .int) 1 := ⟨k_14_17, k_1_5, k_14_15, k_14_16, by decide +kernel⟩
set_option maxHeartbeats 4000000 in
set_option maxRecDepth 100000 in
theorem c_X7_byteAt (l : Launch) (G : va_G) (E : EvT) (cI cZ : ClassId) (n : Nat) (i : Nat) (o : Nat) (a_TX : Nat) (fs_o : List Value) (h_o_td : fs_o[8]? = some (.int (nI n))) (h_o_TX : fs_o[7]? = some (.ref a_TX)) (TX : Nat → Int32) (hn : n ≤ 400) (hi9 : i ≤ 400) : cR l G E yX7_byteAt cX7_byteAt 2 (some .int) 1 [(cI, .int), (cZ, .boolean)] [.ref o, .int (nI i)] [(o, .inr (7, fs_o)), (a_TX, .inl (cI, 400, .inl TX))] (byM TX n i) := by
  refine mkR (by decide) (Nat.le_of_ble_eq_true rfl) ?_
  intro zp ze s zm args below meth zc hx hb hr hml hown hts hlocks hE hP hK ls hl
  have hS : va_S (fun _ => False) s.heap s.heap [] := va_S.rf
  have hlow : ∀ q : Nat, (fun _ : Nat => False) q → E.1 ≤ q := fun _ h => h.elim
  have hl : lv_has ls 2 [(0, .ref o), (1, .int (nI i))] := hl
  refine lv_iload_n hx hb dX7_byteAt_0 rfl (lv_at hl 1 rfl) ?_
  refine lv_aload_n hx hb dX7_byteAt_1 rfl (lv_at hl 0 rfl) ?_
  refine va_get (D := G) (ci := 7) (v := .int (nI n)) (C := RX7) (T := TX7) (N := 38) hx hb hts inlX7 hown hK hP 0 rfl rfl 8 (by decide) (hts (.fieldLink RX7 90 "EarthBanksModel" "typed" "I") k_7_20) (fun _ h9 => h9) h_o_td dX7_byteAt_2 ?_
  refine lv_icmp_ge (tgt := 17) hx hb dX7_byteAt_5 (by decide) (fun c_1 => ?_) (fun c_1 => ?_)
  · skip
    have c_1 : n ≤ i := (nI_leI (a := n) (b := i) (by omega) (by omega)).mp c_1
    refine lv_iconst (v := (-1)) hx hb dX7_byteAt_17 (by decide) ?_
    exact retR hx hb hr (rfl) hlocks dX7_byteAt_18 (by simp [byM, c_1])
  · skip
    have c_1 : ¬ n ≤ i := fun h9 => c_1 ((nI_leI (a := n) (b := i) (by omega) (by omega)).mpr h9)
    refine lv_aload_n hx hb dX7_byteAt_8 rfl (lv_at hl 0 rfl) ?_
    refine va_get (D := G) (ci := 7) (v := .ref a_TX) (C := RX7) (T := TX7) (N := 38) hx hb hts inlX7 hown hK hP 0 rfl rfl 7 (by decide) (hts (.fieldLink RX7 26 "EarthBanksModel" "text" "[I") k_6_8) (fun _ h9 => h9) h_o_TX dX7_byteAt_9 ?_
    refine lv_iload_n hx hb dX7_byteAt_12 rfl (lv_at hl 1 rfl) ?_
    refine ialdN (j := i) hx hb hK hP 1 0 rfl rfl (by omega) (by decide) dX7_byteAt_13 ?_
    refine lv_goto (tgt := 18) hx hb dX7_byteAt_14 (by decide) ?_
    exact retR hx hb hr (rfl) hlocks dX7_byteAt_18 (by simp [byM, c_1])
theorem cal_X7_isLetter : calS yX7_isLetter cX7_isLetter 1 (some .boolean) 1 := ⟨k_14_20, k_1_5, k_14_19, by decide +kernel⟩
set_option maxHeartbeats 4000000 in
set_option maxRecDepth 100000 in
theorem c_X7_isLetter (l : Launch) (G : va_G) (E : EvT) (cI cZ : ClassId) (v : Int32) : cR l G E yX7_isLetter cX7_isLetter 1 (some .boolean) 2 [(cI, .int), (cZ, .boolean)] [.int v] [] (bI (ltM v)) := by
  refine mkR (by decide) (Nat.le_of_ble_eq_true rfl) ?_
  intro zp ze s zm args below meth zc hx hb hr hml hown hts hlocks hE hP hK ls hl
  have hS : va_S (fun _ => False) s.heap s.heap [] := va_S.rf
  have hlow : ∀ q : Nat, (fun _ : Nat => False) q → E.1 ≤ q := fun _ h => h.elim
  have hl : lv_has ls 1 [(0, .int v)] := hl
  refine lv_iload_n hx hb dX7_isLetter_0 rfl (lv_at hl 0 rfl) ?_
  refine lv_bipush (v := 97) hx hb dX7_isLetter_1 (by decide) ?_
  refine lv_bipush (v := 122) hx hb dX7_isLetter_3 (by decide) ?_
  refine cRS (As := [.int v, .int 97, .int 122]) (rest := []) hx hb hml hown hts (c_X7_in l G E cI cZ v 97 122) k_7_22 cal_X7_in ⟨Nat.le_of_ble_eq_true rfl, Nat.le_of_ble_eq_true rfl⟩ hE hlow hS hK [0, 1] rfl hP [] rfl rfl hl.1 rfl (Nat.le_of_ble_eq_true rfl) dX7_isLetter_5 ⟨Nat.zero_le _, Nat.zero_le _⟩ ?_
  refine lv_if_ne (tgt := 17) hx hb dX7_isLetter_8 (by decide) (fun c_1 => ?_) (fun c_1 => ?_)
  · skip
    have c_1 : (wiB v 97 122) = true := bI_t c_1
    refine lv_iconst (v := 1) hx hb dX7_isLetter_17 (by decide) ?_
    refine lv_goto (tgt := 22) hx hb dX7_isLetter_18 (by decide) ?_
    exact retR hx hb hr (rfl) hlocks dX7_isLetter_22 (by simp [ltM, bI, c_1])
  · skip
    have c_1 : (wiB v 97 122) = false := bI_f c_1
    refine lv_iload_n hx hb dX7_isLetter_11 rfl (lv_at hl 0 rfl) ?_
    refine lv_bipush (v := 46) hx hb dX7_isLetter_12 (by decide) ?_
    refine lv_icmp_ne (tgt := 21) hx hb dX7_isLetter_14 (by decide) (fun c_2 => ?_) (fun c_2 => ?_)
    · skip
      refine lv_iconst (v := 0) hx hb dX7_isLetter_21 (by decide) ?_
      exact retR hx hb hr (rfl) hlocks dX7_isLetter_22 (by simp [ltM, bI, c_1, c_2])
    · skip
      refine lv_iconst (v := 1) hx hb dX7_isLetter_17 (by decide) ?_
      refine lv_goto (tgt := 22) hx hb dX7_isLetter_18 (by decide) ?_
      exact retR hx hb hr (rfl) hlocks dX7_isLetter_22 (by simp [ltM, bI, c_1, eq_true c_2])
theorem cal_X7_isWell : calV yX7_isWell cX7_isWell 1 (some .boolean) 0 := ⟨k_15_0, k_1_5, k_14_22, k_14_23, by decide +kernel⟩
set_option maxHeartbeats 4000000 in
set_option maxRecDepth 100000 in
theorem c_X7_isWell (l : Launch) (G : va_G) (E : EvT) (cI cZ : ClassId) (o : Nat) (fa : Int32) (fs_o : List Value) (h_o_fa : fs_o[13]? = some (.int fa)) : cR l G E yX7_isWell cX7_isWell 1 (some .boolean) 1 [(cI, .int), (cZ, .boolean)] [.ref o] [(o, .inr (7, fs_o))] (bI (!decide (0 ≤ fa))) := by
  refine mkR (by decide) (Nat.le_of_ble_eq_true rfl) ?_
  intro zp ze s zm args below meth zc hx hb hr hml hown hts hlocks hE hP hK ls hl
  have hS : va_S (fun _ => False) s.heap s.heap [] := va_S.rf
  have hlow : ∀ q : Nat, (fun _ : Nat => False) q → E.1 ≤ q := fun _ h => h.elim
  have hl : lv_has ls 1 [(0, .ref o)] := hl
  refine lv_aload_n hx hb dX7_isWell_0 rfl (lv_at hl 0 rfl) ?_
  refine va_get (D := G) (ci := 7) (v := .int fa) (C := RX7) (T := TX7) (N := 38) hx hb hts inlX7 hown hK hP 0 rfl rfl 13 (by decide) (hts (.fieldLink RX7 113 "EarthBanksModel" "fault" "I") k_14_5) (fun _ h9 => h9) h_o_fa dX7_isWell_1 ?_
  refine lv_if_ge (tgt := 11) hx hb dX7_isWell_4 (by decide) (fun c_1 => ?_) (fun c_1 => ?_)
  · skip
    refine lv_iconst (v := 0) hx hb dX7_isWell_11 (by decide) ?_
    exact retR hx hb hr (rfl) hlocks dX7_isWell_12 (by simp [bI, eq_true c_1])
  · skip
    refine lv_iconst (v := 1) hx hb dX7_isWell_7 (by decide) ?_
    refine lv_goto (tgt := 12) hx hb dX7_isWell_8 (by decide) ?_
    exact retR hx hb hr (rfl) hlocks dX7_isWell_12 (by simp [bI, eq_false c_1])
theorem cal_X7_fails : calV yX7_fails cX7_fails 1 none 0 := ⟨k_15_8, k_1_5, k_15_6, k_15_7, by decide +kernel⟩
set_option maxHeartbeats 4000000 in
set_option maxRecDepth 100000 in
theorem c_X7_fails (l : Launch) (G : va_G) (E : EvT) (cI cZ : ClassId) (o : Nat) (a_S : Nat) (a_K : Nat) (a_IK : Nat) (a_SV : Nat) (a_DR : Nat) (a_TX : Nat) (a_WY : Nat) (a_BE : Nat) (a_MO : Nat) (a_DY : Nat) (a_PO : Nat) (a_HO : Nat) (a_WA : Nat) (a_GA : Nat) (a_CA : Nat) (a_MT : Nat) (a_LW : Nat) (a_WK : Nat) (th : Int32) (tr : Int64) (td : Int32) (nx : Int32) (tk : Int32) (pc : Int32) (vl : Int32) (fa : Int32) (ff : Int32) (bf : Int32) (bm : Int32) (bl : Int32) (ng : Int32) (nc : Int32) (sl : Int32) (nw : Int32) (pe : Int32) (pv : Int32) (pt : Int32) (pu : Int32) : cWv (S := Unit) l G E yX7_fails cX7_fails 1 none 1 [(cI, .int), (cZ, .boolean)] [.ref o] [(o, .inr (7, [.int th, .long tr, .ref a_S, .ref a_K, .ref a_IK, .ref a_SV, .ref a_DR, .ref a_TX, .int td, .int nx, .int tk, .int pc, .int vl, .int fa, .int ff, .ref a_WY, .ref a_BE, .int bf, .int bm, .int bl, .ref a_MO, .ref a_DY, .ref a_PO, .ref a_HO, .ref a_WA, .int ng, .ref a_GA, .int nc, .ref a_CA, .int sl, .ref a_MT, .ref a_LW, .int nw, .ref a_WK, .int pe, .int pv, .int pt, .int pu]))] (fun _ => True) (fun _ => [(o, .inr (7, [.int th, .long tr, .ref a_S, .ref a_K, .ref a_IK, .ref a_SV, .ref a_DR, .ref a_TX, .int td, .int nx, .int tk, .int pc, .int vl, .int (if 0 ≤ fa then fa else pc), .int ff, .ref a_WY, .ref a_BE, .int bf, .int bm, .int bl, .ref a_MO, .ref a_DY, .ref a_PO, .ref a_HO, .ref a_WA, .int ng, .ref a_GA, .int nc, .ref a_CA, .int sl, .ref a_MT, .ref a_LW, .int nw, .ref a_WK, .int pe, .int pv, .int pt, .int pu]))]) := by
  refine mkWv (by decide) (Nat.le_of_ble_eq_true rfl) ?_
  intro zp ze s zm args below meth zc hx hb hr hml hown hts hlocks hE hK A hA hlow H locs hP hD hS ls hl
  have hl : lv_has ls 1 [(0, .ref o)] := hl
  refine lv_aload_n hx hb dX7_fails_0 rfl (lv_at hl 0 rfl) ?_
  refine lv_aload_n hx hb dX7_fails_1 rfl (lv_at hl 0 rfl) ?_
  refine va_get (D := G) (ci := 7) (v := .int fa) (C := RX7) (T := TX7) (N := 38) hx hb hts inlX7 hown hK hP 0 rfl rfl 13 (by decide) (hts (.fieldLink RX7 113 "EarthBanksModel" "fault" "I") k_14_5) (fun _ h9 => h9) rfl dX7_fails_2 ?_
  refine lv_if_ge (tgt := 15) hx hb dX7_fails_5 (by decide) (fun c_1 => ?_) (fun c_1 => ?_)
  · skip
    refine lv_aload_n hx hb dX7_fails_15 rfl (lv_at hl 0 rfl) ?_
    refine va_get (D := G) (ci := 7) (v := .int fa) (C := RX7) (T := TX7) (N := 38) hx hb hts inlX7 hown hK hP 0 rfl rfl 13 (by decide) (hts (.fieldLink RX7 113 "EarthBanksModel" "fault" "I") k_14_5) (fun _ h9 => h9) rfl dX7_fails_16 ?_
    refine va_put (D := G) (ci := 7) (v := .int fa) (ty := .int) (C := RX7) (T := TX7) (N := 38) hx hb hts inlX7 tyX7 tyX7_ok nmX7 hown hK hP hD hS 0 rfl rfl 13 (by decide) (hts (.fieldLink RX7 113 "EarthBanksModel" "fault" "I") k_14_5) (fun _ h9 => h9) rfl (by decide +kernel) (rfl) (rfl) (Nat.le_of_ble_eq_true rfl) dX7_fails_19 (fun H locs hP hD hS => ?_)
    have hP : va_P G vwCl [(o, .inr (7, [.int th, .long tr, .ref a_S, .ref a_K, .ref a_IK, .ref a_SV, .ref a_DR, .ref a_TX, .int td, .int nx, .int tk, .int pc, .int vl, .int fa, .int ff, .ref a_WY, .ref a_BE, .int bf, .int bm, .int bl, .ref a_MO, .ref a_DY, .ref a_PO, .ref a_HO, .ref a_WA, .int ng, .ref a_GA, .int nc, .ref a_CA, .int sl, .ref a_MT, .ref a_LW, .int nw, .ref a_WK, .int pe, .int pv, .int pt, .int pu]))] H := hP
    have hD : va_D A [(o, .inr (7, [.int th, .long tr, .ref a_S, .ref a_K, .ref a_IK, .ref a_SV, .ref a_DR, .ref a_TX, .int td, .int nx, .int tk, .int pc, .int vl, .int fa, .int ff, .ref a_WY, .ref a_BE, .int bf, .int bm, .int bl, .ref a_MO, .ref a_DY, .ref a_PO, .ref a_HO, .ref a_WA, .int ng, .ref a_GA, .int nc, .ref a_CA, .int sl, .ref a_MT, .ref a_LW, .int nw, .ref a_WK, .int pe, .int pv, .int pt, .int pu]))] := hD
    have ew_2 : (fa : Int32) = (if 0 ≤ fa then fa else pc) := by simp [c_1]
    have hP : va_P G vwCl [(o, .inr (7, [.int th, .long tr, .ref a_S, .ref a_K, .ref a_IK, .ref a_SV, .ref a_DR, .ref a_TX, .int td, .int nx, .int tk, .int pc, .int vl, .int (if 0 ≤ fa then fa else pc), .int ff, .ref a_WY, .ref a_BE, .int bf, .int bm, .int bl, .ref a_MO, .ref a_DY, .ref a_PO, .ref a_HO, .ref a_WA, .int ng, .ref a_GA, .int nc, .ref a_CA, .int sl, .ref a_MT, .ref a_LW, .int nw, .ref a_WK, .int pe, .int pv, .int pt, .int pu]))] H := by rw [← ew_2]; exact hP
    exact retWv () hx hb hr hlocks dX7_fails_22 hS (trivial) hP
  · skip
    refine lv_aload_n hx hb dX7_fails_8 rfl (lv_at hl 0 rfl) ?_
    refine va_get (D := G) (ci := 7) (v := .int pc) (C := RX7) (T := TX7) (N := 38) hx hb hts inlX7 hown hK hP 0 rfl rfl 11 (by decide) (hts (.fieldLink RX7 101 "EarthBanksModel" "place" "I") k_14_12) (fun _ h9 => h9) rfl dX7_fails_9 ?_
    refine lv_goto (tgt := 19) hx hb dX7_fails_12 (by decide) ?_
    refine va_put (D := G) (ci := 7) (v := .int pc) (ty := .int) (C := RX7) (T := TX7) (N := 38) hx hb hts inlX7 tyX7 tyX7_ok nmX7 hown hK hP hD hS 0 rfl rfl 13 (by decide) (hts (.fieldLink RX7 113 "EarthBanksModel" "fault" "I") k_14_5) (fun _ h9 => h9) rfl (by decide +kernel) (rfl) (rfl) (Nat.le_of_ble_eq_true rfl) dX7_fails_19 (fun H locs hP hD hS => ?_)
    have hP : va_P G vwCl [(o, .inr (7, [.int th, .long tr, .ref a_S, .ref a_K, .ref a_IK, .ref a_SV, .ref a_DR, .ref a_TX, .int td, .int nx, .int tk, .int pc, .int vl, .int pc, .int ff, .ref a_WY, .ref a_BE, .int bf, .int bm, .int bl, .ref a_MO, .ref a_DY, .ref a_PO, .ref a_HO, .ref a_WA, .int ng, .ref a_GA, .int nc, .ref a_CA, .int sl, .ref a_MT, .ref a_LW, .int nw, .ref a_WK, .int pe, .int pv, .int pt, .int pu]))] H := hP
    have hD : va_D A [(o, .inr (7, [.int th, .long tr, .ref a_S, .ref a_K, .ref a_IK, .ref a_SV, .ref a_DR, .ref a_TX, .int td, .int nx, .int tk, .int pc, .int vl, .int pc, .int ff, .ref a_WY, .ref a_BE, .int bf, .int bm, .int bl, .ref a_MO, .ref a_DY, .ref a_PO, .ref a_HO, .ref a_WA, .int ng, .ref a_GA, .int nc, .ref a_CA, .int sl, .ref a_MT, .ref a_LW, .int nw, .ref a_WK, .int pe, .int pv, .int pt, .int pu]))] := hD
    have ew_3 : (pc : Int32) = (if 0 ≤ fa then fa else pc) := by simp [c_1]
    have hP : va_P G vwCl [(o, .inr (7, [.int th, .long tr, .ref a_S, .ref a_K, .ref a_IK, .ref a_SV, .ref a_DR, .ref a_TX, .int td, .int nx, .int tk, .int pc, .int vl, .int (if 0 ≤ fa then fa else pc), .int ff, .ref a_WY, .ref a_BE, .int bf, .int bm, .int bl, .ref a_MO, .ref a_DY, .ref a_PO, .ref a_HO, .ref a_WA, .int ng, .ref a_GA, .int nc, .ref a_CA, .int sl, .ref a_MT, .ref a_LW, .int nw, .ref a_WK, .int pe, .int pv, .int pt, .int pu]))] H := by rw [← ew_3]; exact hP
    exact retWv () hx hb hr hlocks dX7_fails_22 hS (trivial) hP
theorem cal_X7_begins : calV yX7_begins cX7_begins 2 none 0 := ⟨k_7_2, k_1_5, k_7_0, k_7_1, by decide +kernel⟩
set_option maxHeartbeats 4000000 in
set_option maxRecDepth 100000 in
theorem c_X7_begins (l : Launch) (G : va_G) (E : EvT) (cI cZ : ClassId) (o : Nat) (a_S : Nat) (fs_o : List Value) (h_o_S : fs_o[2]? = some (.ref a_S)) (S : Nat → Int32) : cWv (S := Unit) l G E yX7_begins cX7_begins 2 none 1 [(cI, .int), (cZ, .boolean)] [.ref o] [(o, .inr (7, fs_o)), (a_S, .inl (cI, 163, .inl S))] (fun _ => True) (fun _ => [(o, .inr (7, fs_o)), (a_S, .inl (cI, 163, .inl (bg2 S 18)))]) := by
  refine mkWv (by decide) (Nat.le_of_ble_eq_true rfl) ?_
  intro zp ze s zm args below meth zc hx hb hr hml hown hts hlocks hE hK A hA hlow H locs hP hD hS ls hl
  have hl : lv_has ls 2 [(0, .ref o)] := hl
  refine lv_iconst (v := 0) hx hb dX7_begins_0 (by decide) ?_
  refine lv_istore_n (lv' := [(1, .int 0), (0, .ref o)]) hx hb dX7_begins_1 rfl hl (by decide) rfl (fun ls hl => ?_)
  suffices lp2 : ∀ zn k2 : Nat, 0 ≤ k2 → k2 ≤ 48 → 48 < k2 + zn → ∀ (H : Heap) (locs : List Loc), va_P G vwCl [(o, .inr (7, fs_o)), (a_S, .inl (cI, 163, .inl (bg1 S k2)))] H → va_D A [(o, .inr (7, fs_o)), (a_S, .inl (cI, 163, .inl (bg1 S k2)))] → va_S A s.heap H locs → ∀ ls : Array Slot, lv_has ls 2 [(0, .ref o), (1, .int (nI k2))] → W zp l ze (rmK 1) s zm args below meth zc H locs 0 0 (MQ below (va_Qv (S := Unit) (fun _ => True) (fun u t => va_P G vwCl ((fun _ => [(o, .inr (7, fs_o)), (a_S, .inl (cI, 163, .inl (bg2 S 18)))]) u) t.heap) A) args s 0 0 A) (F0 zm 2 ls []) by
    have el_1 : (0 : Int32) = nI 0 := rfl
    have er_2 : S = (bg1 S 0) := (bg1_0 S).symm
    exact lp2 (48 + 1 - 0) 0 (by omega) (by omega) (by omega)  H locs (by rw [← er_2]; exact hP) (by rw [← er_2]; exact hD) hS ls (lv_sub hl [1, 0] (show ([(0, .ref o), (1, .int 0)] : List (Nat × Value)) = [(0, .ref o), (1, .int (nI 0))] by rw [← el_1]))
  intro zn
  induction zn with
  | zero => exact fun k2 h1 h2 h3 => absurd h3 (by omega)
  | succ zn ih2 =>
    intro k2 hlo2 hhi2 hn2  H locs hP hD hS ls hl
    refine lv_iload_n hx hb dX7_begins_2 rfl (lv_at hl 1 rfl) ?_
    refine lv_bipush (v := 48) hx hb dX7_begins_3 (by decide) ?_
    refine lv_icmp_ge (tgt := 44) hx hb dX7_begins_5 (by decide) (fun c_3 => ?_) (fun c_3 => ?_)
    · skip
      have c_3 : 48 ≤ k2 := (nI_leI (a := 48) (b := k2) (by omega) (by omega)).mp c_3
      have hk9 : 48 = k2 := by omega
      subst hk9
      refine lv_iconst (v := 0) hx hb dX7_begins_44 (by decide) ?_
      refine lv_istore_n (lv' := [(1, .int 0), (0, .ref o)]) hx hb dX7_begins_45 rfl hl (by decide) rfl (fun ls hl => ?_)
      suffices lp46 : ∀ zn k46 : Nat, 0 ≤ k46 → k46 ≤ 18 → 18 < k46 + zn → ∀ (H : Heap) (locs : List Loc), va_P G vwCl [(o, .inr (7, fs_o)), (a_S, .inl (cI, 163, .inl (bg2 S k46)))] H → va_D A [(o, .inr (7, fs_o)), (a_S, .inl (cI, 163, .inl (bg2 S k46)))] → va_S A s.heap H locs → ∀ ls : Array Slot, lv_has ls 2 [(0, .ref o), (1, .int (nI k46))] → W zp l ze (rmK 1) s zm args below meth zc H locs 0 0 (MQ below (va_Qv (S := Unit) (fun _ => True) (fun u t => va_P G vwCl ((fun _ => [(o, .inr (7, fs_o)), (a_S, .inl (cI, 163, .inl (bg2 S 18)))]) u) t.heap) A) args s 0 0 A) (F0 zm 46 ls []) by
        have el_4 : (0 : Int32) = nI 0 := rfl
        have er_5 : (bg1 S 48) = (bg2 S 0) := (bg2_0 S).symm
        exact lp46 (18 + 1 - 0) 0 (by omega) (by omega) (by omega)  H locs (by rw [← er_5]; exact hP) (by rw [← er_5]; exact hD) hS ls (lv_sub hl [1, 0] (show ([(0, .ref o), (1, .int 0)] : List (Nat × Value)) = [(0, .ref o), (1, .int (nI 0))] by rw [← el_4]))
      intro zn
      induction zn with
      | zero => exact fun k46 h1 h2 h3 => absurd h3 (by omega)
      | succ zn ih46 =>
        intro k46 hlo46 hhi46 hn46  H locs hP hD hS ls hl
        refine lv_iload_n hx hb dX7_begins_46 rfl (lv_at hl 1 rfl) ?_
        refine lv_bipush (v := 18) hx hb dX7_begins_47 (by decide) ?_
        refine lv_icmp_ge (tgt := 70) hx hb dX7_begins_49 (by decide) (fun c_6 => ?_) (fun c_6 => ?_)
        · skip
          have c_6 : 18 ≤ k46 := (nI_leI (a := 18) (b := k46) (by omega) (by omega)).mp c_6
          have hk9 : 18 = k46 := by omega
          subst hk9
          exact retWv () hx hb hr hlocks dX7_begins_70 hS (trivial) hP
        · skip
          have c_6 : ¬ 18 ≤ k46 := fun h9 => c_6 ((nI_leI (a := 18) (b := k46) (by omega) (by omega)).mpr h9)
          refine lv_aload_n hx hb dX7_begins_52 rfl (lv_at hl 0 rfl) ?_
          refine va_get (D := G) (ci := 7) (v := .ref a_S) (C := RX7) (T := TX7) (N := 38) hx hb hts inlX7 hown hK hP 0 rfl rfl 2 (by decide) (hts (.fieldLink RX7 7 "EarthBanksModel" "s" "[I") k_6_2) (fun _ h9 => h9) h_o_S dX7_begins_53 ?_
          refine lv_sipush (v := 144) hx hb dX7_begins_56 (by decide) ?_
          refine lv_iload_n hx hb dX7_begins_59 rfl (lv_at hl 1 rfl) ?_
          refine lv_iadd hx hb dX7_begins_60 ?_
          refine top_eq (y := nI (144 + k46)) (nI_add _ _) ?_
          refine lv_bipush (v := 10) hx hb dX7_begins_61 (by decide) ?_
          refine iastN (j := (144 + k46)) hx hb hK hP hD hS 1 0 rfl rfl (by omega) (by decide) dX7_begins_63 (fun H locs hP hD hS => ?_)
          have hP : va_P G vwCl [(o, .inr (7, fs_o)), (a_S, .inl (cI, 163, .inl (upd (bg2 S k46) (144 + k46) 10)))] H := hP
          have hD : va_D A [(o, .inr (7, fs_o)), (a_S, .inl (cI, 163, .inl (upd (bg2 S k46) (144 + k46) 10)))] := hD
          refine lv_iinc (v := nI (k46 + 1)) (lv' := [(1, .int (nI (k46 + 1))), (0, .ref o)]) hx hb dX7_begins_64 hl (k := 1) rfl (nI_add _ _) (by decide) rfl (fun ls hl => ?_)
          refine lv_goto (tgt := 46) hx hb dX7_begins_67 (by decide) ?_
          have er_7 : (upd (bg2 S k46) (144 + k46) 10) = (bg2 S (k46 + 1)) := bg2_s (by omega)
          exact ih46 (k46 + 1) (by omega) (by omega) (by omega)  H locs (by rw [← er_7]; exact hP) (by rw [← er_7]; exact hD) hS ls (lv_sub hl [1, 0] rfl)
    · skip
      have c_3 : ¬ 48 ≤ k2 := fun h9 => c_3 ((nI_leI (a := 48) (b := k2) (by omega) (by omega)).mpr h9)
      refine lv_aload_n hx hb dX7_begins_8 rfl (lv_at hl 0 rfl) ?_
      refine va_get (D := G) (ci := 7) (v := .ref a_S) (C := RX7) (T := TX7) (N := 38) hx hb hts inlX7 hown hK hP 0 rfl rfl 2 (by decide) (hts (.fieldLink RX7 7 "EarthBanksModel" "s" "[I") k_6_2) (fun _ h9 => h9) h_o_S dX7_begins_9 ?_
      refine lv_iconst (v := 0) hx hb dX7_begins_12 (by decide) ?_
      refine lv_iload_n hx hb dX7_begins_13 rfl (lv_at hl 1 rfl) ?_
      refine lv_iadd hx hb dX7_begins_14 ?_
      refine top_eq (y := nI (0 + k2)) (nI_add _ _) ?_
      refine lv_bipush (v := (-9)) hx hb dX7_begins_15 (by decide) ?_
      refine iastN (j := (0 + k2)) hx hb hK hP hD hS 1 0 rfl rfl (by omega) (by decide) dX7_begins_17 (fun H locs hP hD hS => ?_)
      have hP : va_P G vwCl [(o, .inr (7, fs_o)), (a_S, .inl (cI, 163, .inl (upd (bg1 S k2) (0 + k2) (-9))))] H := hP
      have hD : va_D A [(o, .inr (7, fs_o)), (a_S, .inl (cI, 163, .inl (upd (bg1 S k2) (0 + k2) (-9))))] := hD
      refine lv_aload_n hx hb dX7_begins_18 rfl (lv_at hl 0 rfl) ?_
      refine va_get (D := G) (ci := 7) (v := .ref a_S) (C := RX7) (T := TX7) (N := 38) hx hb hts inlX7 hown hK hP 0 rfl rfl 2 (by decide) (hts (.fieldLink RX7 7 "EarthBanksModel" "s" "[I") k_6_2) (fun _ h9 => h9) h_o_S dX7_begins_19 ?_
      refine lv_bipush (v := 48) hx hb dX7_begins_22 (by decide) ?_
      refine lv_iload_n hx hb dX7_begins_24 rfl (lv_at hl 1 rfl) ?_
      refine lv_iadd hx hb dX7_begins_25 ?_
      refine top_eq (y := nI (48 + k2)) (nI_add _ _) ?_
      refine lv_iconst (v := 0) hx hb dX7_begins_26 (by decide) ?_
      refine iastN (j := (48 + k2)) hx hb hK hP hD hS 1 0 rfl rfl (by omega) (by decide) dX7_begins_27 (fun H locs hP hD hS => ?_)
      have hP : va_P G vwCl [(o, .inr (7, fs_o)), (a_S, .inl (cI, 163, .inl (upd (upd (bg1 S k2) (0 + k2) (-9)) (48 + k2) 0)))] H := hP
      have hD : va_D A [(o, .inr (7, fs_o)), (a_S, .inl (cI, 163, .inl (upd (upd (bg1 S k2) (0 + k2) (-9)) (48 + k2) 0)))] := hD
      refine lv_aload_n hx hb dX7_begins_28 rfl (lv_at hl 0 rfl) ?_
      refine va_get (D := G) (ci := 7) (v := .ref a_S) (C := RX7) (T := TX7) (N := 38) hx hb hts inlX7 hown hK hP 0 rfl rfl 2 (by decide) (hts (.fieldLink RX7 7 "EarthBanksModel" "s" "[I") k_6_2) (fun _ h9 => h9) h_o_S dX7_begins_29 ?_
      refine lv_bipush (v := 96) hx hb dX7_begins_32 (by decide) ?_
      refine lv_iload_n hx hb dX7_begins_34 rfl (lv_at hl 1 rfl) ?_
      refine lv_iadd hx hb dX7_begins_35 ?_
      refine top_eq (y := nI (96 + k2)) (nI_add _ _) ?_
      refine lv_iconst (v := 0) hx hb dX7_begins_36 (by decide) ?_
      refine iastN (j := (96 + k2)) hx hb hK hP hD hS 1 0 rfl rfl (by omega) (by decide) dX7_begins_37 (fun H locs hP hD hS => ?_)
      have hP : va_P G vwCl [(o, .inr (7, fs_o)), (a_S, .inl (cI, 163, .inl (upd (upd (upd (bg1 S k2) (0 + k2) (-9)) (48 + k2) 0) (96 + k2) 0)))] H := hP
      have hD : va_D A [(o, .inr (7, fs_o)), (a_S, .inl (cI, 163, .inl (upd (upd (upd (bg1 S k2) (0 + k2) (-9)) (48 + k2) 0) (96 + k2) 0)))] := hD
      refine lv_iinc (v := nI (k2 + 1)) (lv' := [(1, .int (nI (k2 + 1))), (0, .ref o)]) hx hb dX7_begins_38 hl (k := 1) rfl (nI_add _ _) (by decide) rfl (fun ls hl => ?_)
      refine lv_goto (tgt := 2) hx hb dX7_begins_41 (by decide) ?_
      have er_8 : (upd (upd (upd (bg1 S k2) (0 + k2) (-9)) (48 + k2) 0) (96 + k2) 0) = (bg1 S (k2 + 1)) := bg1_s (by omega)
      exact ih2 (k2 + 1) (by omega) (by omega) (by omega)  H locs (by rw [← er_8]; exact hP) (by rw [← er_8]; exact hD) hS ls (lv_sub hl [1, 0] rfl)
