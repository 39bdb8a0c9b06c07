/-- where the reader stands: (fault, next, place, token, value) -/
abbrev RdT : Type := Int32 × Nat × Nat × Int32 × Int32
def adR (TX : Nat → Int32) (n : Nat) (r : RdT) : RdT := (r.1, adN TX n (skB TX n f32 r.2.1), skB TX n f32 r.2.1, adT TX n (skB TX n f32 r.2.1), adV TX n (skB TX n f32 r.2.1) r.2.2.2.2)
def flR (r : RdT) : RdT := (if 0 ≤ r.1 then r.1 else nI r.2.2.1, r.2)
def tnB (lo hi : Int32) (r : RdT) : Bool := !decide (0 ≤ r.1) && (decide (r.2.2.2.1 = 2) && wiB r.2.2.2.2 lo hi)
def tnR (TX : Nat → Int32) (n : Nat) (lo hi : Int32) (r : RdT) : RdT := if tnB lo hi r then adR TX n r else flR r
def tnV (lo hi : Int32) (r : RdT) : Int32 := if tnB lo hi r then r.2.2.2.2 else 0
theorem skM_b (f : Nat → Bool) : ∀ k i, i ≤ skM f k i ∧ skM f k i ≤ i + k
  | 0, i => ⟨Nat.le_refl _, Nat.le_refl _⟩
  | k + 1, i => by
    rw [skM]
    split
    · have := skM_b f k (i + 1)
      omega
    · omega
theorem skB_b {TX : Nat → Int32} {n : Nat} {f : Int32 → Bool} {i : Nat} (h : i ≤ n) : i ≤ skB TX n f i ∧ skB TX n f i ≤ n := by
  have := skM_b (fun j => f (byM TX n j)) (n - i) i
  rw [skB]
  omega
theorem adN_b {TX : Nat → Int32} {n P : Nat} (h : P ≤ n) : P ≤ adN TX n P ∧ adN TX n P ≤ n := by
  rw [adN]
  split
  · rename_i h0
    have hl := by_lt (f := fun v => decide (0 ≤ v)) (TX := TX) (n := n) (i := P) (decide_eq_true h0) (by decide)
    split
    · exact skB_b h
    · split
      · exact skB_b h
      · omega
  · omega
theorem adR_b {TX : Nat → Int32} {n : Nat} {r : RdT} (h : r.2.1 ≤ n) : (adR TX n r).2.2.1 ≤ (adR TX n r).2.1 ∧ (adR TX n r).2.1 ≤ n := adN_b (skB_b h).2
theorem tnR_b {TX : Nat → Int32} {n : Nat} {lo hi : Int32} {r : RdT} (h0 : r.2.2.1 ≤ r.2.1) (h : r.2.1 ≤ n) : (tnR TX n lo hi r).2.2.1 ≤ (tnR TX n lo hi r).2.1 ∧ (tnR TX n lo hi r).2.1 ≤ n := by
  rw [tnR]
  split
  · exact adR_b h
  · exact ⟨h0, h⟩
theorem cal_X7_takesNumber : calV yX7_takesNumber cX7_takesNumber 4 (some .int) 2 := ⟨k_15_16, k_1_5, k_15_14, k_15_15, by decide +kernel⟩
set_option maxHeartbeats 4000000 in
set_option maxRecDepth 100000 in
theorem c_X7_takesNumber (l : Launch) (G : va_G) (E : EvT) (cI cZ : ClassId) (n : Nat) (nx : Nat) (pl : Nat) (lw : Int32) (hg : Int32) (o : Nat) (a_TX : Nat) (a_S : Nat) (a_K : Nat) (a_IK : Nat) (a_SV : Nat) (a_DR : Nat) (a_WY : Nat) (a_BE : Nat) (a_MO : Nat) (a_DY : Nat) (a_PO : Nat) (a_HO : Nat) (a_WA : Nat) (a_GA : Nat) (a_CA : Nat) (a_MT : Nat) (a_LW : Nat) (a_WK : Nat) (th : Int32) (tr : Int64) (tk : Int32) (vl : Int32) (fa : Int32) (ff : Int32) (bf : Int32) (bm : Int32) (bl : Int32) (ng : Int32) (nc : Int32) (sl : Int32) (nw : Int32) (pe : Int32) (pv : Int32) (pt : Int32) (pu : Int32) (TX : Nat → Int32) (hn : n ≤ 400) (hnx : nx ≤ n) : cWi (S := Unit) l G E yX7_takesNumber cX7_takesNumber 4 (some .int) 4 [(cI, .int), (cZ, .boolean)] [.ref o, .int lw, .int hg] [(o, .inr (7, [.int th, .long tr, .ref a_S, .ref a_K, .ref a_IK, .ref a_SV, .ref a_DR, .ref a_TX, .int (nI n), .int (nI nx), .int tk, .int (nI pl), .int vl, .int fa, .int ff, .ref a_WY, .ref a_BE, .int bf, .int bm, .int bl, .ref a_MO, .ref a_DY, .ref a_PO, .ref a_HO, .ref a_WA, .int ng, .ref a_GA, .int nc, .ref a_CA, .int sl, .ref a_MT, .ref a_LW, .int nw, .ref a_WK, .int pe, .int pv, .int pt, .int pu])), (a_TX, .inl (cI, 400, .inl TX))] (fun r _ => r = tnV lw hg (fa, nx, pl, tk, vl)) (fun _ => [(o, .inr (7, [.int th, .long tr, .ref a_S, .ref a_K, .ref a_IK, .ref a_SV, .ref a_DR, .ref a_TX, .int (nI n), .int (nI (tnR TX n lw hg (fa, nx, pl, tk, vl)).2.1), .int ((tnR TX n lw hg (fa, nx, pl, tk, vl)).2.2.2.1), .int (nI (tnR TX n lw hg (fa, nx, pl, tk, vl)).2.2.1), .int ((tnR TX n lw hg (fa, nx, pl, tk, vl)).2.2.2.2), .int ((tnR TX n lw hg (fa, nx, pl, tk, vl)).1), .int ff, .ref a_WY, .ref a_BE, .int bf, .int bm, .int bl, .ref a_MO, .ref a_DY, .ref a_PO, .ref a_HO, .ref a_WA, .int ng, .ref a_GA, .int nc, .ref a_CA, .int sl, .ref a_MT, .ref a_LW, .int nw, .ref a_WK, .int pe, .int pv, .int pt, .int pu])), (a_TX, .inl (cI, 400, .inl TX))]) := by
  refine mkWi (by decide) (Nat.le_of_ble_eq_true rfl) ?_
  intro zp ze s zm args below meth zc hx hb hr hml hown hts hlocks hE hK A hA hlow H locs hP hD hS ls hl
  have hl : lv_has ls 4 [(0, .ref o), (1, .int lw), (2, .int hg)] := hl
  refine lv_aload_n hx hb dX7_takesNumber_0 rfl (lv_at hl 0 rfl) ?_
  refine cRV (As := []) (rest := []) hx hb hml hown hts (c_X7_isWell l G E cI cZ o fa [.int th, .long tr, .ref a_S, .ref a_K, .ref a_IK, .ref a_SV, .ref a_DR, .ref a_TX, .int (nI n), .int (nI nx), .int tk, .int (nI pl), .int vl, .int fa, .int ff, .ref a_WY, .ref a_BE, .int bf, .int bm, .int bl, .ref a_MO, .ref a_DY, .ref a_PO, .ref a_HO, .ref a_WA, .int ng, .ref a_GA, .int nc, .ref a_CA, .int sl, .ref a_MT, .ref a_LW, .int nw, .ref a_WK, .int pe, .int pv, .int pt, .int pu] rfl) k_14_21 cal_X7_isWell ⟨Nat.le_of_ble_eq_true rfl, Nat.le_of_ble_eq_true rfl⟩ hE hlow hS hK [0, 1] rfl hP [0] rfl 0 7 rfl rfl rfl hl.1 rfl (Nat.le_of_ble_eq_true rfl) dX7_takesNumber_1 ⟨Nat.zero_le _, Nat.zero_le _⟩ ?_
  refine lv_if_eq (tgt := 27) hx hb dX7_takesNumber_4 (by decide) (fun c_1 => ?_) (fun c_1 => ?_)
  · skip
    have c_1 : (!decide (0 ≤ fa)) = false := bI_f c_1
    refine lv_aload_n hx hb dX7_takesNumber_27 rfl (lv_at hl 0 rfl) ?_
    refine cWVv (As := []) (rest := []) hx hb hml hown hts (c_X7_fails l G E cI cZ o a_S a_K a_IK a_SV a_DR a_TX a_WY a_BE a_MO a_DY a_PO a_HO a_WA a_GA a_CA a_MT a_LW a_WK th tr (nI n) (nI nx) tk (nI pl) vl fa ff bf bm bl ng nc sl nw pe pv pt pu) k_15_5 cal_X7_fails ⟨Nat.le_of_ble_eq_true rfl, Nat.le_of_ble_eq_true rfl⟩ hE hA hlow hD hS hK [0, 1] rfl hP [0] rfl (by decide) [o] rfl (fun _ => rfl) [1] [(a_TX, .inl (cI, 400, .inl TX))] (fun _ => [(o, .inr (7, [.int th, .long tr, .ref a_S, .ref a_K, .ref a_IK, .ref a_SV, .ref a_DR, .ref a_TX, .int (nI n), .int (nI nx), .int tk, .int (nI pl), .int vl, .int (if 0 ≤ fa then fa else (nI pl)), .int ff, .ref a_WY, .ref a_BE, .int bf, .int bm, .int bl, .ref a_MO, .ref a_DY, .ref a_PO, .ref a_HO, .ref a_WA, .int ng, .ref a_GA, .int nc, .ref a_CA, .int sl, .ref a_MT, .ref a_LW, .int nw, .ref a_WK, .int pe, .int pv, .int pt, .int pu])), (a_TX, .inl (cI, 400, .inl TX))]) 2 rfl (fun _ => rfl) (fun _ => rfl) (fun _ => rfl) (by decide) (by decide) 0 7 rfl rfl rfl hl.1 rfl (Nat.le_of_ble_eq_true rfl) dX7_takesNumber_28 ⟨Nat.zero_le _, Nat.zero_le _⟩ (fun u H locs hr_ hP hD hS => ?_)
    have hP : va_P G vwCl [(o, .inr (7, [.int th, .long tr, .ref a_S, .ref a_K, .ref a_IK, .ref a_SV, .ref a_DR, .ref a_TX, .int (nI n), .int (nI nx), .int tk, .int (nI pl), .int vl, .int (if 0 ≤ fa then fa else (nI pl)), .int ff, .ref a_WY, .ref a_BE, .int bf, .int bm, .int bl, .ref a_MO, .ref a_DY, .ref a_PO, .ref a_HO, .ref a_WA, .int ng, .ref a_GA, .int nc, .ref a_CA, .int sl, .ref a_MT, .ref a_LW, .int nw, .ref a_WK, .int pe, .int pv, .int pt, .int pu])), (a_TX, .inl (cI, 400, .inl TX))] H := hP
    have hD : va_D A [(o, .inr (7, [.int th, .long tr, .ref a_S, .ref a_K, .ref a_IK, .ref a_SV, .ref a_DR, .ref a_TX, .int (nI n), .int (nI nx), .int tk, .int (nI pl), .int vl, .int (if 0 ≤ fa then fa else (nI pl)), .int ff, .ref a_WY, .ref a_BE, .int bf, .int bm, .int bl, .ref a_MO, .ref a_DY, .ref a_PO, .ref a_HO, .ref a_WA, .int ng, .ref a_GA, .int nc, .ref a_CA, .int sl, .ref a_MT, .ref a_LW, .int nw, .ref a_WK, .int pe, .int pv, .int pt, .int pu])), (a_TX, .inl (cI, 400, .inl TX))] := hD
    refine lv_iconst (v := 0) hx hb dX7_takesNumber_31 (by decide) ?_
    have ew_2 : (nI nx : Int32) = nI (tnR TX n lw hg (fa, nx, pl, tk, vl)).2.1 := by simp [tnR, tnB, tnV, adR, flR, c_1]
    have ew_3 : (tk : Int32) = (tnR TX n lw hg (fa, nx, pl, tk, vl)).2.2.2.1 := by simp [tnR, tnB, tnV, adR, flR, c_1]
    have ew_4 : (nI pl : Int32) = nI (tnR TX n lw hg (fa, nx, pl, tk, vl)).2.2.1 := by simp [tnR, tnB, tnV, adR, flR, c_1]
    have ew_5 : (vl : Int32) = (tnR TX n lw hg (fa, nx, pl, tk, vl)).2.2.2.2 := by simp [tnR, tnB, tnV, adR, flR, c_1]
    have ew_6 : ((if 0 ≤ fa then fa else (nI pl)) : Int32) = (tnR TX n lw hg (fa, nx, pl, tk, vl)).1 := by simp [tnR, tnB, tnV, adR, flR, c_1]
    have hP : va_P G vwCl [(o, .inr (7, [.int th, .long tr, .ref a_S, .ref a_K, .ref a_IK, .ref a_SV, .ref a_DR, .ref a_TX, .int (nI n), .int (nI (tnR TX n lw hg (fa, nx, pl, tk, vl)).2.1), .int ((tnR TX n lw hg (fa, nx, pl, tk, vl)).2.2.2.1), .int (nI (tnR TX n lw hg (fa, nx, pl, tk, vl)).2.2.1), .int ((tnR TX n lw hg (fa, nx, pl, tk, vl)).2.2.2.2), .int ((tnR TX n lw hg (fa, nx, pl, tk, vl)).1), .int ff, .ref a_WY, .ref a_BE, .int bf, .int bm, .int bl, .ref a_MO, .ref a_DY, .ref a_PO, .ref a_HO, .ref a_WA, .int ng, .ref a_GA, .int nc, .ref a_CA, .int sl, .ref a_MT, .ref a_LW, .int nw, .ref a_WK, .int pe, .int pv, .int pt, .int pu])), (a_TX, .inl (cI, 400, .inl TX))] H := by rw [← ew_2, ← ew_3, ← ew_4, ← ew_5, ← ew_6]; exact hP
    exact retWi () hx hb hr (rfl) hlocks dX7_takesNumber_32 hS (by simp [tnR, tnB, tnV, adR, flR, c_1]) hP
  · skip
    have c_1 : (!decide (0 ≤ fa)) = true := bI_t c_1
    refine lv_aload_n hx hb dX7_takesNumber_7 rfl (lv_at hl 0 rfl) ?_
    refine va_get (D := G) (ci := 7) (v := .int tk) (C := RX7) (T := TX7) (N := 38) hx hb hts inlX7 hown hK hP 0 rfl rfl 10 (by decide) (hts (.fieldLink RX7 104 "EarthBanksModel" "token" "I") k_14_7) (fun _ h9 => h9) rfl dX7_takesNumber_8 ?_
    refine lv_iconst (v := 2) hx hb dX7_takesNumber_11 (by decide) ?_
    refine lv_icmp_ne (tgt := 27) hx hb dX7_takesNumber_12 (by decide) (fun c_7 => ?_) (fun c_7 => ?_)
    · skip
      refine lv_aload_n hx hb dX7_takesNumber_27 rfl (lv_at hl 0 rfl) ?_
      refine cWVv (As := []) (rest := []) hx hb hml hown hts (c_X7_fails l G E cI cZ o a_S a_K a_IK a_SV a_DR a_TX a_WY a_BE a_MO a_DY a_PO a_HO a_WA a_GA a_CA a_MT a_LW a_WK th tr (nI n) (nI nx) tk (nI pl) vl fa ff bf bm bl ng nc sl nw pe pv pt pu) k_15_5 cal_X7_fails ⟨Nat.le_of_ble_eq_true rfl, Nat.le_of_ble_eq_true rfl⟩ hE hA hlow hD hS hK [0, 1] rfl hP [0] rfl (by decide) [o] rfl (fun _ => rfl) [1] [(a_TX, .inl (cI, 400, .inl TX))] (fun _ => [(o, .inr (7, [.int th, .long tr, .ref a_S, .ref a_K, .ref a_IK, .ref a_SV, .ref a_DR, .ref a_TX, .int (nI n), .int (nI nx), .int tk, .int (nI pl), .int vl, .int (if 0 ≤ fa then fa else (nI pl)), .int ff, .ref a_WY, .ref a_BE, .int bf, .int bm, .int bl, .ref a_MO, .ref a_DY, .ref a_PO, .ref a_HO, .ref a_WA, .int ng, .ref a_GA, .int nc, .ref a_CA, .int sl, .ref a_MT, .ref a_LW, .int nw, .ref a_WK, .int pe, .int pv, .int pt, .int pu])), (a_TX, .inl (cI, 400, .inl TX))]) 2 rfl (fun _ => rfl) (fun _ => rfl) (fun _ => rfl) (by decide) (by decide) 0 7 rfl rfl rfl hl.1 rfl (Nat.le_of_ble_eq_true rfl) dX7_takesNumber_28 ⟨Nat.zero_le _, Nat.zero_le _⟩ (fun u H locs hr_ hP hD hS => ?_)
      have hP : va_P G vwCl [(o, .inr (7, [.int th, .long tr, .ref a_S, .ref a_K, .ref a_IK, .ref a_SV, .ref a_DR, .ref a_TX, .int (nI n), .int (nI nx), .int tk, .int (nI pl), .int vl, .int (if 0 ≤ fa then fa else (nI pl)), .int ff, .ref a_WY, .ref a_BE, .int bf, .int bm, .int bl, .ref a_MO, .ref a_DY, .ref a_PO, .ref a_HO, .ref a_WA, .int ng, .ref a_GA, .int nc, .ref a_CA, .int sl, .ref a_MT, .ref a_LW, .int nw, .ref a_WK, .int pe, .int pv, .int pt, .int pu])), (a_TX, .inl (cI, 400, .inl TX))] H := hP
      have hD : va_D A [(o, .inr (7, [.int th, .long tr, .ref a_S, .ref a_K, .ref a_IK, .ref a_SV, .ref a_DR, .ref a_TX, .int (nI n), .int (nI nx), .int tk, .int (nI pl), .int vl, .int (if 0 ≤ fa then fa else (nI pl)), .int ff, .ref a_WY, .ref a_BE, .int bf, .int bm, .int bl, .ref a_MO, .ref a_DY, .ref a_PO, .ref a_HO, .ref a_WA, .int ng, .ref a_GA, .int nc, .ref a_CA, .int sl, .ref a_MT, .ref a_LW, .int nw, .ref a_WK, .int pe, .int pv, .int pt, .int pu])), (a_TX, .inl (cI, 400, .inl TX))] := hD
      refine lv_iconst (v := 0) hx hb dX7_takesNumber_31 (by decide) ?_
      have ew_8 : (nI nx : Int32) = nI (tnR TX n lw hg (fa, nx, pl, tk, vl)).2.1 := by simp [tnR, tnB, tnV, adR, flR, c_1, c_7]
      have ew_9 : (tk : Int32) = (tnR TX n lw hg (fa, nx, pl, tk, vl)).2.2.2.1 := by simp [tnR, tnB, tnV, adR, flR, c_1, c_7]
      have ew_10 : (nI pl : Int32) = nI (tnR TX n lw hg (fa, nx, pl, tk, vl)).2.2.1 := by simp [tnR, tnB, tnV, adR, flR, c_1, c_7]
      have ew_11 : (vl : Int32) = (tnR TX n lw hg (fa, nx, pl, tk, vl)).2.2.2.2 := by simp [tnR, tnB, tnV, adR, flR, c_1, c_7]
      have ew_12 : ((if 0 ≤ fa then fa else (nI pl)) : Int32) = (tnR TX n lw hg (fa, nx, pl, tk, vl)).1 := by simp [tnR, tnB, tnV, adR, flR, c_1, c_7]
      have hP : va_P G vwCl [(o, .inr (7, [.int th, .long tr, .ref a_S, .ref a_K, .ref a_IK, .ref a_SV, .ref a_DR, .ref a_TX, .int (nI n), .int (nI (tnR TX n lw hg (fa, nx, pl, tk, vl)).2.1), .int ((tnR TX n lw hg (fa, nx, pl, tk, vl)).2.2.2.1), .int (nI (tnR TX n lw hg (fa, nx, pl, tk, vl)).2.2.1), .int ((tnR TX n lw hg (fa, nx, pl, tk, vl)).2.2.2.2), .int ((tnR TX n lw hg (fa, nx, pl, tk, vl)).1), .int ff, .ref a_WY, .ref a_BE, .int bf, .int bm, .int bl, .ref a_MO, .ref a_DY, .ref a_PO, .ref a_HO, .ref a_WA, .int ng, .ref a_GA, .int nc, .ref a_CA, .int sl, .ref a_MT, .ref a_LW, .int nw, .ref a_WK, .int pe, .int pv, .int pt, .int pu])), (a_TX, .inl (cI, 400, .inl TX))] H := by rw [← ew_8, ← ew_9, ← ew_10, ← ew_11, ← ew_12]; exact hP
      exact retWi () hx hb hr (rfl) hlocks dX7_takesNumber_32 hS (by simp [tnR, tnB, tnV, adR, flR, c_1, c_7]) hP
    · skip
      refine lv_aload_n hx hb dX7_takesNumber_15 rfl (lv_at hl 0 rfl) ?_
      refine va_get (D := G) (ci := 7) (v := .int vl) (C := RX7) (T := TX7) (N := 38) hx hb hts inlX7 hown hK hP 0 rfl rfl 12 (by decide) (hts (.fieldLink RX7 110 "EarthBanksModel" "value" "I") k_14_13) (fun _ h9 => h9) rfl dX7_takesNumber_16 ?_
      refine lv_iload_n hx hb dX7_takesNumber_19 rfl (lv_at hl 1 rfl) ?_
      refine lv_iload_n hx hb dX7_takesNumber_20 rfl (lv_at hl 2 rfl) ?_
      refine cRS (As := [.int vl, .int lw, .int hg]) (rest := []) hx hb hml hown hts (c_X7_in l G E cI cZ vl lw hg) k_7_22 cal_X7_in ⟨Nat.le_of_ble_eq_true rfl, Nat.le_of_ble_eq_true rfl⟩ hE hlow hS hK [0, 1] rfl hP [] rfl rfl hl.1 rfl (Nat.le_of_ble_eq_true rfl) dX7_takesNumber_21 ⟨Nat.zero_le _, Nat.zero_le _⟩ ?_
      refine lv_if_ne (tgt := 33) hx hb dX7_takesNumber_24 (by decide) (fun c_13 => ?_) (fun c_13 => ?_)
      · skip
        have c_13 : (wiB vl lw hg) = true := bI_t c_13
        refine lv_aload_n hx hb dX7_takesNumber_33 rfl (lv_at hl 0 rfl) ?_
        refine va_get (D := G) (ci := 7) (v := .int vl) (C := RX7) (T := TX7) (N := 38) hx hb hts inlX7 hown hK hP 0 rfl rfl 12 (by decide) (hts (.fieldLink RX7 110 "EarthBanksModel" "value" "I") k_14_13) (fun _ h9 => h9) rfl dX7_takesNumber_34 ?_
        refine lv_istore_n (lv' := [(3, .int vl), (0, .ref o), (1, .int lw), (2, .int hg)]) hx hb dX7_takesNumber_37 rfl hl (by decide) rfl (fun ls hl => ?_)
        refine lv_aload_n hx hb dX7_takesNumber_38 rfl (lv_at hl 1 rfl) ?_
        refine cWVv (As := []) (rest := []) hx hb hml hown hts (c_X7_advances l G E cI cZ n nx o a_TX a_S a_K a_IK a_SV a_DR a_WY a_BE a_MO a_DY a_PO a_HO a_WA a_GA a_CA a_MT a_LW a_WK th tr tk (nI pl) vl fa ff bf bm bl ng nc sl nw pe pv pt pu TX (hn) (hnx)) k_14_8 cal_X7_advances ⟨Nat.le_of_ble_eq_true rfl, Nat.le_of_ble_eq_true rfl⟩ hE hA hlow hD hS hK [0, 1] rfl hP [0, 1] rfl (by decide) [o, a_TX] rfl (fun _ => rfl) [] [] (fun _ => [(o, .inr (7, [.int th, .long tr, .ref a_S, .ref a_K, .ref a_IK, .ref a_SV, .ref a_DR, .ref a_TX, .int (nI n), .int (nI (adN TX n (skB TX n f32 nx))), .int (adT TX n (skB TX n f32 nx)), .int (nI (skB TX n f32 nx)), .int (adV TX n (skB TX n f32 nx) vl), .int fa, .int ff, .ref a_WY, .ref a_BE, .int bf, .int bm, .int bl, .ref a_MO, .ref a_DY, .ref a_PO, .ref a_HO, .ref a_WA, .int ng, .ref a_GA, .int nc, .ref a_CA, .int sl, .ref a_MT, .ref a_LW, .int nw, .ref a_WK, .int pe, .int pv, .int pt, .int pu])), (a_TX, .inl (cI, 400, .inl TX))]) 2 rfl (fun _ => rfl) (fun _ => rfl) (fun _ => rfl) (by decide) (by decide) 0 7 rfl rfl rfl hl.1 rfl (Nat.le_of_ble_eq_true rfl) dX7_takesNumber_39 ⟨Nat.zero_le _, Nat.zero_le _⟩ (fun u H locs hr_ hP hD hS => ?_)
        have hP : va_P G vwCl [(o, .inr (7, [.int th, .long tr, .ref a_S, .ref a_K, .ref a_IK, .ref a_SV, .ref a_DR, .ref a_TX, .int (nI n), .int (nI (adN TX n (skB TX n f32 nx))), .int (adT TX n (skB TX n f32 nx)), .int (nI (skB TX n f32 nx)), .int (adV TX n (skB TX n f32 nx) vl), .int fa, .int ff, .ref a_WY, .ref a_BE, .int bf, .int bm, .int bl, .ref a_MO, .ref a_DY, .ref a_PO, .ref a_HO, .ref a_WA, .int ng, .ref a_GA, .int nc, .ref a_CA, .int sl, .ref a_MT, .ref a_LW, .int nw, .ref a_WK, .int pe, .int pv, .int pt, .int pu])), (a_TX, .inl (cI, 400, .inl TX))] H := hP
        have hD : va_D A [(o, .inr (7, [.int th, .long tr, .ref a_S, .ref a_K, .ref a_IK, .ref a_SV, .ref a_DR, .ref a_TX, .int (nI n), .int (nI (adN TX n (skB TX n f32 nx))), .int (adT TX n (skB TX n f32 nx)), .int (nI (skB TX n f32 nx)), .int (adV TX n (skB TX n f32 nx) vl), .int fa, .int ff, .ref a_WY, .ref a_BE, .int bf, .int bm, .int bl, .ref a_MO, .ref a_DY, .ref a_PO, .ref a_HO, .ref a_WA, .int ng, .ref a_GA, .int nc, .ref a_CA, .int sl, .ref a_MT, .ref a_LW, .int nw, .ref a_WK, .int pe, .int pv, .int pt, .int pu])), (a_TX, .inl (cI, 400, .inl TX))] := hD
        refine lv_iload_n hx hb dX7_takesNumber_42 rfl (lv_at hl 0 rfl) ?_
        have ew_14 : (nI (adN TX n (skB TX n f32 nx)) : Int32) = nI (tnR TX n lw hg (fa, nx, pl, tk, vl)).2.1 := by simp [tnR, tnB, tnV, adR, flR, c_1, eq_true c_7, c_13]
        have ew_15 : (adT TX n (skB TX n f32 nx) : Int32) = (tnR TX n lw hg (fa, nx, pl, tk, vl)).2.2.2.1 := by simp [tnR, tnB, tnV, adR, flR, c_1, eq_true c_7, c_13]
        have ew_16 : (nI (skB TX n f32 nx) : Int32) = nI (tnR TX n lw hg (fa, nx, pl, tk, vl)).2.2.1 := by simp [tnR, tnB, tnV, adR, flR, c_1, eq_true c_7, c_13]
        have ew_17 : (adV TX n (skB TX n f32 nx) vl : Int32) = (tnR TX n lw hg (fa, nx, pl, tk, vl)).2.2.2.2 := by simp [tnR, tnB, tnV, adR, flR, c_1, eq_true c_7, c_13]
        have ew_18 : (fa : Int32) = (tnR TX n lw hg (fa, nx, pl, tk, vl)).1 := by simp [tnR, tnB, tnV, adR, flR, c_1, eq_true c_7, c_13]
        have hP : va_P G vwCl [(o, .inr (7, [.int th, .long tr, .ref a_S, .ref a_K, .ref a_IK, .ref a_SV, .ref a_DR, .ref a_TX, .int (nI n), .int (nI (tnR TX n lw hg (fa, nx, pl, tk, vl)).2.1), .int ((tnR TX n lw hg (fa, nx, pl, tk, vl)).2.2.2.1), .int (nI (tnR TX n lw hg (fa, nx, pl, tk, vl)).2.2.1), .int ((tnR TX n lw hg (fa, nx, pl, tk, vl)).2.2.2.2), .int ((tnR TX n lw hg (fa, nx, pl, tk, vl)).1), .int ff, .ref a_WY, .ref a_BE, .int bf, .int bm, .int bl, .ref a_MO, .ref a_DY, .ref a_PO, .ref a_HO, .ref a_WA, .int ng, .ref a_GA, .int nc, .ref a_CA, .int sl, .ref a_MT, .ref a_LW, .int nw, .ref a_WK, .int pe, .int pv, .int pt, .int pu])), (a_TX, .inl (cI, 400, .inl TX))] H := by rw [← ew_14, ← ew_15, ← ew_16, ← ew_17, ← ew_18]; exact hP
        exact retWi () hx hb hr (rfl) hlocks dX7_takesNumber_43 hS (by simp [tnR, tnB, tnV, adR, flR, c_1, eq_true c_7, c_13]) hP
      · skip
        have c_13 : (wiB vl lw hg) = false := bI_f c_13
        refine lv_aload_n hx hb dX7_takesNumber_27 rfl (lv_at hl 0 rfl) ?_
        refine cWVv (As := []) (rest := []) hx hb hml hown hts (c_X7_fails l G E cI cZ o a_S a_K a_IK a_SV a_DR a_TX a_WY a_BE a_MO a_DY a_PO a_HO a_WA a_GA a_CA a_MT a_LW a_WK th tr (nI n) (nI nx) tk (nI pl) vl fa ff bf bm bl ng nc sl nw pe pv pt pu) k_15_5 cal_X7_fails ⟨Nat.le_of_ble_eq_true rfl, Nat.le_of_ble_eq_true rfl⟩ hE hA hlow hD hS hK [0, 1] rfl hP [0] rfl (by decide) [o] rfl (fun _ => rfl) [1] [(a_TX, .inl (cI, 400, .inl TX))] (fun _ => [(o, .inr (7, [.int th, .long tr, .ref a_S, .ref a_K, .ref a_IK, .ref a_SV, .ref a_DR, .ref a_TX, .int (nI n), .int (nI nx), .int tk, .int (nI pl), .int vl, .int (if 0 ≤ fa then fa else (nI pl)), .int ff, .ref a_WY, .ref a_BE, .int bf, .int bm, .int bl, .ref a_MO, .ref a_DY, .ref a_PO, .ref a_HO, .ref a_WA, .int ng, .ref a_GA, .int nc, .ref a_CA, .int sl, .ref a_MT, .ref a_LW, .int nw, .ref a_WK, .int pe, .int pv, .int pt, .int pu])), (a_TX, .inl (cI, 400, .inl TX))]) 2 rfl (fun _ => rfl) (fun _ => rfl) (fun _ => rfl) (by decide) (by decide) 0 7 rfl rfl rfl hl.1 rfl (Nat.le_of_ble_eq_true rfl) dX7_takesNumber_28 ⟨Nat.zero_le _, Nat.zero_le _⟩ (fun u H locs hr_ hP hD hS => ?_)
        have hP : va_P G vwCl [(o, .inr (7, [.int th, .long tr, .ref a_S, .ref a_K, .ref a_IK, .ref a_SV, .ref a_DR, .ref a_TX, .int (nI n), .int (nI nx), .int tk, .int (nI pl), .int vl, .int (if 0 ≤ fa then fa else (nI pl)), .int ff, .ref a_WY, .ref a_BE, .int bf, .int bm, .int bl, .ref a_MO, .ref a_DY, .ref a_PO, .ref a_HO, .ref a_WA, .int ng, .ref a_GA, .int nc, .ref a_CA, .int sl, .ref a_MT, .ref a_LW, .int nw, .ref a_WK, .int pe, .int pv, .int pt, .int pu])), (a_TX, .inl (cI, 400, .inl TX))] H := hP
        have hD : va_D A [(o, .inr (7, [.int th, .long tr, .ref a_S, .ref a_K, .ref a_IK, .ref a_SV, .ref a_DR, .ref a_TX, .int (nI n), .int (nI nx), .int tk, .int (nI pl), .int vl, .int (if 0 ≤ fa then fa else (nI pl)), .int ff, .ref a_WY, .ref a_BE, .int bf, .int bm, .int bl, .ref a_MO, .ref a_DY, .ref a_PO, .ref a_HO, .ref a_WA, .int ng, .ref a_GA, .int nc, .ref a_CA, .int sl, .ref a_MT, .ref a_LW, .int nw, .ref a_WK, .int pe, .int pv, .int pt, .int pu])), (a_TX, .inl (cI, 400, .inl TX))] := hD
        refine lv_iconst (v := 0) hx hb dX7_takesNumber_31 (by decide) ?_
        have ew_19 : (nI nx : Int32) = nI (tnR TX n lw hg (fa, nx, pl, tk, vl)).2.1 := by simp [tnR, tnB, tnV, adR, flR, c_1, eq_true c_7, c_13]
        have ew_20 : (tk : Int32) = (tnR TX n lw hg (fa, nx, pl, tk, vl)).2.2.2.1 := by simp [tnR, tnB, tnV, adR, flR, c_1, eq_true c_7, c_13]
        have ew_21 : (nI pl : Int32) = nI (tnR TX n lw hg (fa, nx, pl, tk, vl)).2.2.1 := by simp [tnR, tnB, tnV, adR, flR, c_1, eq_true c_7, c_13]
        have ew_22 : (vl : Int32) = (tnR TX n lw hg (fa, nx, pl, tk, vl)).2.2.2.2 := by simp [tnR, tnB, tnV, adR, flR, c_1, eq_true c_7, c_13]
        have ew_23 : ((if 0 ≤ fa then fa else (nI pl)) : Int32) = (tnR TX n lw hg (fa, nx, pl, tk, vl)).1 := by simp [tnR, tnB, tnV, adR, flR, c_1, eq_true c_7, c_13]
        have hP : va_P G vwCl [(o, .inr (7, [.int th, .long tr, .ref a_S, .ref a_K, .ref a_IK, .ref a_SV, .ref a_DR, .ref a_TX, .int (nI n), .int (nI (tnR TX n lw hg (fa, nx, pl, tk, vl)).2.1), .int ((tnR TX n lw hg (fa, nx, pl, tk, vl)).2.2.2.1), .int (nI (tnR TX n lw hg (fa, nx, pl, tk, vl)).2.2.1), .int ((tnR TX n lw hg (fa, nx, pl, tk, vl)).2.2.2.2), .int ((tnR TX n lw hg (fa, nx, pl, tk, vl)).1), .int ff, .ref a_WY, .ref a_BE, .int bf, .int bm, .int bl, .ref a_MO, .ref a_DY, .ref a_PO, .ref a_HO, .ref a_WA, .int ng, .ref a_GA, .int nc, .ref a_CA, .int sl, .ref a_MT, .ref a_LW, .int nw, .ref a_WK, .int pe, .int pv, .int pt, .int pu])), (a_TX, .inl (cI, 400, .inl TX))] H := by rw [← ew_19, ← ew_20, ← ew_21, ← ew_22, ← ew_23]; exact hP
        exact retWi () hx hb hr (rfl) hlocks dX7_takesNumber_32 hS (by simp [tnR, tnB, tnV, adR, flR, c_1, eq_true c_7, c_13]) hP
