def cpK (K S : Nat → Int32) (b n : Nat) : Nat → Int32 := fun i => if b ≤ i ∧ i < b + n then S (i - b) else K i
theorem cpK_0 (K S : Nat → Int32) (b : Nat) : cpK K S b 0 = K := by
  funext i
  exact if_neg (by omega)
theorem cpK_s (K S : Nat → Int32) (b n : Nat) : cpK K S b (n + 1) = upd (cpK K S b n) (b + n) (S n) := by
  funext i
  simp only [cpK, upd]
  by_cases h : i = b + n
  · rw [if_pos (by omega), if_pos h, h, Nat.add_sub_cancel_left]
  · rw [if_neg h]
    by_cases h2 : b ≤ i ∧ i < b + n
    · rw [if_pos h2, if_pos (by omega)]
    · rw [if_neg h2, if_neg (by omega)]
theorem cal_X7_counts : calV yX7_counts cX7_counts 2 (some .boolean) 1 := ⟨k_27_9, k_1_5, k_27_7, k_27_8, by decide +kernel⟩
set_option maxHeartbeats 4000000 in
set_option maxRecDepth 100000 in
theorem c_X7_counts (l : Launch) (G : va_G) (E : EvT) (cI cZ : ClassId) (zo : Nat → Int32) (he : Nat → Int32) (go : Nat → Int32) (le : Nat → Int32) (hd : Nat → Int32) (gn : Nat → Int32) (la : Int32) (c : Nat) (o : Nat) (a_S : Nat) (a_DY : Nat) (fs_o : List Value) (h_o_S : fs_o[2]? = some (.ref a_S)) (h_o_DY : fs_o[21]? = some (.ref a_DY)) (DY : Nat → Int32) (hc : c < 48) : cR l G E yX7_counts cX7_counts 2 (some .boolean) 3 [(cI, .int), (cZ, .boolean)] [.ref o, .int (nI c)] [(o, .inr (7, fs_o)), (a_S, .inl (cI, 163, .inl (ms zo he go le hd gn la))), (a_DY, .inl (cZ, 48, .inl DY))] (bI (wetS zo he go c && decide (DY c = 0))) := by
  refine mkR (by decide) (Nat.le_of_ble_eq_true rfl) ?_
  intro zp ze s zm args below meth zc hx hb hr hml hown hts hlocks hE hP hK ls hl
  have hS : va_S (fun _ => False) s.heap s.heap [] := va_S.rf
  have hlow : ∀ q : Nat, (fun _ : Nat => False) q → E.1 ≤ q := fun _ h => h.elim
  have hl : lv_has ls 2 [(0, .ref o), (1, .int (nI c))] := hl
  refine lv_aload_n hx hb dX7_counts_0 rfl (lv_at hl 0 rfl) ?_
  refine lv_iload_n hx hb dX7_counts_1 rfl (lv_at hl 1 rfl) ?_
  refine cRV (As := [.int (nI c)]) (rest := []) hx hb hml hown hts (c_X7_isWet l G E cI cZ zo he go le hd gn la c o a_S fs_o h_o_S (hc)) k_23_7 cal_X7_isWet ⟨Nat.le_of_ble_eq_true rfl, Nat.le_of_ble_eq_true rfl⟩ hE hlow hS hK [0, 1] rfl hP [0, 1] rfl 0 7 rfl rfl rfl hl.1 rfl (Nat.le_of_ble_eq_true rfl) dX7_counts_2 ⟨Nat.zero_le _, Nat.zero_le _⟩ ?_
  refine lv_if_eq (tgt := 21) hx hb dX7_counts_5 (by decide) (fun c_1 => ?_) (fun c_1 => ?_)
  · skip
    have c_1 : (wetS zo he go c) = false := bI_f c_1
    refine lv_iconst (v := 0) hx hb dX7_counts_21 (by decide) ?_
    exact retR hx hb hr (rfl) hlocks dX7_counts_22 (by simp [bI, c_1])
  · skip
    have c_1 : (wetS zo he go c) = true := bI_t c_1
    refine lv_aload_n hx hb dX7_counts_8 rfl (lv_at hl 0 rfl) ?_
    refine va_get (D := G) (ci := 7) (v := .ref a_DY) (C := RX7) (T := TX7) (N := 38) hx hb hts inlX7 hown hK hP 0 rfl rfl 21 (by decide) (hts (.fieldLink RX7 42 "EarthBanksModel" "isDry" "[Z") k_6_13) (fun _ h9 => h9) h_o_DY dX7_counts_9 ?_
    refine lv_iload_n hx hb dX7_counts_12 rfl (lv_at hl 1 rfl) ?_
    refine zaldN (j := c) hx hb hK hP 2 1 rfl rfl (by omega) (by decide) dX7_counts_13 ?_
    refine lv_if_ne (tgt := 21) hx hb dX7_counts_14 (by decide) (fun c_2 => ?_) (fun c_2 => ?_)
    · skip
      refine lv_iconst (v := 0) hx hb dX7_counts_21 (by decide) ?_
      exact retR hx hb hr (rfl) hlocks dX7_counts_22 (by simp [bI, c_1, c_2])
    · skip
      refine lv_iconst (v := 1) hx hb dX7_counts_17 (by decide) ?_
      refine lv_goto (tgt := 22) hx hb dX7_counts_18 (by decide) ?_
      exact retR hx hb hr (rfl) hlocks dX7_counts_22 (by simp [bI, c_1, eq_true c_2])
theorem cal_X7_keep : calV yX7_keep cX7_keep 3 (some .int) 1 := ⟨k_41_2, k_1_5, k_41_0, k_41_1, by decide +kernel⟩
set_option maxHeartbeats 4000000 in
set_option maxRecDepth 100000 in
theorem c_X7_keep (l : Launch) (G : va_G) (E : EvT) (cI cZ : ClassId) (zo : Nat → Int32) (he : Nat → Int32) (go : Nat → Int32) (le : Nat → Int32) (hd : Nat → Int32) (gn : Nat → Int32) (la : Int32) (v : Int32) (o : Nat) (a_S : Nat) (a_K : Nat) (a_IK : Nat) (a_SV : Nat) (a_DR : Nat) (a_TX : Nat) (a_WY : Nat) (a_BE : Nat) (a_MO : Nat) (a_DY : Nat) (a_PO : Nat) (a_HO : Nat) (a_WA : Nat) (a_GA : Nat) (a_CA : Nat) (a_MT : Nat) (a_LW : Nat) (a_WK : Nat) (th : Int32) (tr : Int64) (td : Int32) (nx : Int32) (tk : Int32) (pc : Int32) (vl : Int32) (fa : Int32) (ff : Int32) (bf : Int32) (bm : Int32) (bl : Int32) (ng : Int32) (nc : Int32) (sl : Int32) (nw : Int32) (pe : Int32) (pv : Int32) (pt : Int32) (pu : Int32) (K : Nat → Int32) (IK : Nat → Int32) : cWi (S := Unit) l G E yX7_keep cX7_keep 3 (some .int) 4 [(cI, .int), (cZ, .boolean)] [.ref o, .int v] [(o, .inr (7, [.int th, .long tr, .ref a_S, .ref a_K, .ref a_IK, .ref a_SV, .ref a_DR, .ref a_TX, .int td, .int nx, .int tk, .int pc, .int vl, .int fa, .int ff, .ref a_WY, .ref a_BE, .int bf, .int bm, .int bl, .ref a_MO, .ref a_DY, .ref a_PO, .ref a_HO, .ref a_WA, .int ng, .ref a_GA, .int nc, .ref a_CA, .int sl, .ref a_MT, .ref a_LW, .int nw, .ref a_WK, .int pe, .int pv, .int pt, .int pu])), (a_S, .inl (cI, 163, .inl (ms zo he go le hd gn la))), (a_K, .inl (cI, 326, .inl K)), (a_IK, .inl (cZ, 2, .inl IK))] (fun r _ => r = (if wiB v 0 1 then cntS (isES zo go) 48 else (-1))) (fun _ => [(o, .inr (7, [.int 0, .long tr, .ref a_S, .ref a_K, .ref a_IK, .ref a_SV, .ref a_DR, .ref a_TX, .int td, .int nx, .int tk, .int pc, .int vl, .int fa, .int ff, .ref a_WY, .ref a_BE, .int bf, .int bm, .int bl, .ref a_MO, .ref a_DY, .ref a_PO, .ref a_HO, .ref a_WA, .int ng, .ref a_GA, .int nc, .ref a_CA, .int sl, .ref a_MT, .ref a_LW, .int nw, .ref a_WK, .int pe, .int pv, .int pt, .int pu])), (a_S, .inl (cI, 163, .inl (ms zo he go le hd gn la))), (a_K, .inl (cI, 326, .inl (if v = 0 then cpK K (ms zo he go le hd gn la) 0 163 else if v = 1 then cpK K (ms zo he go le hd gn la) 163 163 else K))), (a_IK, .inl (cZ, 2, .inl (if v = 0 then upd IK 0 1 else if v = 1 then upd IK 1 1 else IK)))]) := by
  refine mkWi (by decide) (Nat.le_of_ble_eq_true rfl) ?_
  intro zp ze s zm args below meth zc hx hb hr hml hown hts hlocks hE hK A hA hlow H locs hP hD hS ls hl
  have hl : lv_has ls 3 [(0, .ref o), (1, .int v)] := hl
  refine lv_aload_n hx hb dX7_keep_0 rfl (lv_at hl 0 rfl) ?_
  refine lv_iconst (v := 0) hx hb dX7_keep_1 (by decide) ?_
  refine va_put (D := G) (ci := 7) (v := .int 0) (ty := .int) (C := RX7) (T := TX7) (N := 38) hx hb hts inlX7 tyX7 tyX7_ok nmX7 hown hK hP hD hS 0 rfl rfl 0 (by decide) (hts (.fieldLink RX7 75 "EarthBanksModel" "thrown" "I") k_7_19) (fun _ h9 => h9) rfl (by decide +kernel) (rfl) (rfl) (Nat.le_of_ble_eq_true rfl) dX7_keep_2 (fun H locs hP hD hS => ?_)
  have hP : va_P G vwCl [(o, .inr (7, [.int 0, .long tr, .ref a_S, .ref a_K, .ref a_IK, .ref a_SV, .ref a_DR, .ref a_TX, .int td, .int nx, .int tk, .int pc, .int vl, .int fa, .int ff, .ref a_WY, .ref a_BE, .int bf, .int bm, .int bl, .ref a_MO, .ref a_DY, .ref a_PO, .ref a_HO, .ref a_WA, .int ng, .ref a_GA, .int nc, .ref a_CA, .int sl, .ref a_MT, .ref a_LW, .int nw, .ref a_WK, .int pe, .int pv, .int pt, .int pu])), (a_S, .inl (cI, 163, .inl (ms zo he go le hd gn la))), (a_K, .inl (cI, 326, .inl K)), (a_IK, .inl (cZ, 2, .inl IK))] H := hP
  have hD : va_D A [(o, .inr (7, [.int 0, .long tr, .ref a_S, .ref a_K, .ref a_IK, .ref a_SV, .ref a_DR, .ref a_TX, .int td, .int nx, .int tk, .int pc, .int vl, .int fa, .int ff, .ref a_WY, .ref a_BE, .int bf, .int bm, .int bl, .ref a_MO, .ref a_DY, .ref a_PO, .ref a_HO, .ref a_WA, .int ng, .ref a_GA, .int nc, .ref a_CA, .int sl, .ref a_MT, .ref a_LW, .int nw, .ref a_WK, .int pe, .int pv, .int pt, .int pu])), (a_S, .inl (cI, 163, .inl (ms zo he go le hd gn la))), (a_K, .inl (cI, 326, .inl K)), (a_IK, .inl (cZ, 2, .inl IK))] := hD
  refine lv_iload_n hx hb dX7_keep_5 rfl (lv_at hl 1 rfl) ?_
  refine lv_iconst (v := 0) hx hb dX7_keep_6 (by decide) ?_
  refine lv_iconst (v := 1) hx hb dX7_keep_7 (by decide) ?_
  refine cRS (As := [.int v, .int 0, .int 1]) (rest := []) hx hb hml hown hts (c_X7_in l G E cI cZ v 0 1) k_7_22 cal_X7_in ⟨Nat.le_of_ble_eq_true rfl, Nat.le_of_ble_eq_true rfl⟩ hE hlow hS hK [0, 1] rfl hP [] rfl rfl hl.1 rfl (Nat.le_of_ble_eq_true rfl) dX7_keep_8 ⟨Nat.zero_le _, Nat.zero_le _⟩ ?_
  refine lv_if_ne (tgt := 16) hx hb dX7_keep_11 (by decide) (fun c_1 => ?_) (fun c_1 => ?_)
  · skip
    have c_1 : (wiB v 0 1) = true := bI_t c_1
    rcases wiB_01 c_1 with hv | hv
    · skip
      have hv1 : ¬ v = 1 := by rw [hv]; decide
      have hl : lv_has ls 3 [(0, .ref o), (1, .int 0)] := by rw [hv] at hl; exact hl
      refine lv_iconst (v := 0) hx hb dX7_keep_16 (by decide) ?_
      refine lv_istore_n (lv' := [(2, .int 0), (0, .ref o), (1, .int 0)]) hx hb dX7_keep_17 rfl hl (by decide) rfl (fun ls hl => ?_)
      suffices lp18 : ∀ zn k18 : Nat, 0 ≤ k18 → k18 ≤ 163 → 163 < k18 + zn → ∀ (H : Heap) (locs : List Loc), va_P G vwCl [(o, .inr (7, [.int 0, .long tr, .ref a_S, .ref a_K, .ref a_IK, .ref a_SV, .ref a_DR, .ref a_TX, .int td, .int nx, .int tk, .int pc, .int vl, .int fa, .int ff, .ref a_WY, .ref a_BE, .int bf, .int bm, .int bl, .ref a_MO, .ref a_DY, .ref a_PO, .ref a_HO, .ref a_WA, .int ng, .ref a_GA, .int nc, .ref a_CA, .int sl, .ref a_MT, .ref a_LW, .int nw, .ref a_WK, .int pe, .int pv, .int pt, .int pu])), (a_S, .inl (cI, 163, .inl (ms zo he go le hd gn la))), (a_K, .inl (cI, 326, .inl (cpK K (ms zo he go le hd gn la) 0 k18))), (a_IK, .inl (cZ, 2, .inl IK))] H → va_D A [(o, .inr (7, [.int 0, .long tr, .ref a_S, .ref a_K, .ref a_IK, .ref a_SV, .ref a_DR, .ref a_TX, .int td, .int nx, .int tk, .int pc, .int vl, .int fa, .int ff, .ref a_WY, .ref a_BE, .int bf, .int bm, .int bl, .ref a_MO, .ref a_DY, .ref a_PO, .ref a_HO, .ref a_WA, .int ng, .ref a_GA, .int nc, .ref a_CA, .int sl, .ref a_MT, .ref a_LW, .int nw, .ref a_WK, .int pe, .int pv, .int pt, .int pu])), (a_S, .inl (cI, 163, .inl (ms zo he go le hd gn la))), (a_K, .inl (cI, 326, .inl (cpK K (ms zo he go le hd gn la) 0 k18))), (a_IK, .inl (cZ, 2, .inl IK))] → va_S A s.heap H locs → ∀ ls : Array Slot, lv_has ls 3 [(0, .ref o), (1, .int 0), (2, .int (nI k18))] → W zp l ze (rmK 4) s zm args below meth zc H locs 0 0 (MQ below (va_Qi (S := Unit) (fun r _ => r = (if wiB v 0 1 then cntS (isES zo go) 48 else (-1))) (fun u t => va_P G vwCl ((fun _ => [(o, .inr (7, [.int 0, .long tr, .ref a_S, .ref a_K, .ref a_IK, .ref a_SV, .ref a_DR, .ref a_TX, .int td, .int nx, .int tk, .int pc, .int vl, .int fa, .int ff, .ref a_WY, .ref a_BE, .int bf, .int bm, .int bl, .ref a_MO, .ref a_DY, .ref a_PO, .ref a_HO, .ref a_WA, .int ng, .ref a_GA, .int nc, .ref a_CA, .int sl, .ref a_MT, .ref a_LW, .int nw, .ref a_WK, .int pe, .int pv, .int pt, .int pu])), (a_S, .inl (cI, 163, .inl (ms zo he go le hd gn la))), (a_K, .inl (cI, 326, .inl (if v = 0 then cpK K (ms zo he go le hd gn la) 0 163 else if v = 1 then cpK K (ms zo he go le hd gn la) 163 163 else K))), (a_IK, .inl (cZ, 2, .inl (if v = 0 then upd IK 0 1 else if v = 1 then upd IK 1 1 else IK)))]) u) t.heap) A) args s 0 0 A) (F0 zm 18 ls []) by
        have el_2 : (0 : Int32) = nI 0 := rfl
        have er_3 : K = (cpK K (ms zo he go le hd gn la) 0 0) := (cpK_0 _ _ _).symm
        exact lp18 (163 + 1 - 0) 0 (by omega) (by omega) (by omega)  H locs (by rw [← er_3]; exact hP) (by rw [← er_3]; exact hD) hS ls (lv_sub hl [1, 2, 0] (show ([(0, .ref o), (1, .int 0), (2, .int 0)] : List (Nat × Value)) = [(0, .ref o), (1, .int 0), (2, .int (nI 0))] by rw [← el_2]))
      intro zn
      induction zn with
      | zero => exact fun k18 h1 h2 h3 => absurd h3 (by omega)
      | succ zn ih18 =>
        intro k18 hlo18 hhi18 hn18  H locs hP hD hS ls hl
        refine lv_iload_n hx hb dX7_keep_18 rfl (lv_at hl 2 rfl) ?_
        refine lv_sipush (v := 163) hx hb dX7_keep_19 (by decide) ?_
        refine lv_icmp_ge (tgt := 49) hx hb dX7_keep_22 (by decide) (fun c_4 => ?_) (fun c_4 => ?_)
        · skip
          have c_4 : 163 ≤ k18 := (nI_leI (a := 163) (b := k18) (by omega) (by omega)).mp c_4
          have hk9 : 163 = k18 := by omega
          subst hk9
          refine lv_aload_n hx hb dX7_keep_49 rfl (lv_at hl 0 rfl) ?_
          refine va_get (D := G) (ci := 7) (v := .ref a_IK) (C := RX7) (T := TX7) (N := 38) hx hb hts inlX7 hown hK hP 0 rfl rfl 4 (by decide) (hts (.fieldLink RX7 16 "EarthBanksModel" "isKept" "[Z") k_6_5) (fun _ h9 => h9) rfl dX7_keep_50 ?_
          refine lv_iload_n hx hb dX7_keep_53 rfl (lv_at hl 1 rfl) ?_
          refine lv_iconst (v := 1) hx hb dX7_keep_54 (by decide) ?_
          refine zastN (j := 0) hx hb hK hP hD hS 3 1 rfl rfl (by omega) (by decide) (by decide) dX7_keep_55 (fun H locs hP hD hS => ?_)
          have hP : va_P G vwCl [(o, .inr (7, [.int 0, .long tr, .ref a_S, .ref a_K, .ref a_IK, .ref a_SV, .ref a_DR, .ref a_TX, .int td, .int nx, .int tk, .int pc, .int vl, .int fa, .int ff, .ref a_WY, .ref a_BE, .int bf, .int bm, .int bl, .ref a_MO, .ref a_DY, .ref a_PO, .ref a_HO, .ref a_WA, .int ng, .ref a_GA, .int nc, .ref a_CA, .int sl, .ref a_MT, .ref a_LW, .int nw, .ref a_WK, .int pe, .int pv, .int pt, .int pu])), (a_S, .inl (cI, 163, .inl (ms zo he go le hd gn la))), (a_K, .inl (cI, 326, .inl (cpK K (ms zo he go le hd gn la) 0 163))), (a_IK, .inl (cZ, 2, .inl (upd IK 0 1)))] H := hP
          have hD : va_D A [(o, .inr (7, [.int 0, .long tr, .ref a_S, .ref a_K, .ref a_IK, .ref a_SV, .ref a_DR, .ref a_TX, .int td, .int nx, .int tk, .int pc, .int vl, .int fa, .int ff, .ref a_WY, .ref a_BE, .int bf, .int bm, .int bl, .ref a_MO, .ref a_DY, .ref a_PO, .ref a_HO, .ref a_WA, .int ng, .ref a_GA, .int nc, .ref a_CA, .int sl, .ref a_MT, .ref a_LW, .int nw, .ref a_WK, .int pe, .int pv, .int pt, .int pu])), (a_S, .inl (cI, 163, .inl (ms zo he go le hd gn la))), (a_K, .inl (cI, 326, .inl (cpK K (ms zo he go le hd gn la) 0 163))), (a_IK, .inl (cZ, 2, .inl (upd IK 0 1)))] := hD
          refine lv_aload_n hx hb dX7_keep_56 rfl (lv_at hl 0 rfl) ?_
          refine cRV (As := []) (rest := []) hx hb hml hown hts (c_X7_earth l G E cI cZ zo he go le hd gn la o a_S [.int 0, .long tr, .ref a_S, .ref a_K, .ref a_IK, .ref a_SV, .ref a_DR, .ref a_TX, .int td, .int nx, .int tk, .int pc, .int vl, .int fa, .int ff, .ref a_WY, .ref a_BE, .int bf, .int bm, .int bl, .ref a_MO, .ref a_DY, .ref a_PO, .ref a_HO, .ref a_WA, .int ng, .ref a_GA, .int nc, .ref a_CA, .int sl, .ref a_MT, .ref a_LW, .int nw, .ref a_WK, .int pe, .int pv, .int pt, .int pu] rfl) k_15_21 cal_X7_earth ⟨Nat.le_of_ble_eq_true rfl, Nat.le_of_ble_eq_true rfl⟩ hE hlow hS hK [0, 1] rfl hP [0, 1] rfl 0 7 rfl rfl rfl hl.1 rfl (Nat.le_of_ble_eq_true rfl) dX7_keep_57 ⟨Nat.zero_le _, Nat.zero_le _⟩ ?_
          have ew_5 : (cpK K (ms zo he go le hd gn la) 0 163) = (if v = 0 then cpK K (ms zo he go le hd gn la) 0 163 else if v = 1 then cpK K (ms zo he go le hd gn la) 163 163 else K) := by simp [c_1, (eq_true hv), hv1, c_4]
          have ew_6 : (upd IK 0 1) = (if v = 0 then upd IK 0 1 else if v = 1 then upd IK 1 1 else IK) := by simp [c_1, (eq_true hv), hv1, c_4]
          have hP : va_P G vwCl [(o, .inr (7, [.int 0, .long tr, .ref a_S, .ref a_K, .ref a_IK, .ref a_SV, .ref a_DR, .ref a_TX, .int td, .int nx, .int tk, .int pc, .int vl, .int fa, .int ff, .ref a_WY, .ref a_BE, .int bf, .int bm, .int bl, .ref a_MO, .ref a_DY, .ref a_PO, .ref a_HO, .ref a_WA, .int ng, .ref a_GA, .int nc, .ref a_CA, .int sl, .ref a_MT, .ref a_LW, .int nw, .ref a_WK, .int pe, .int pv, .int pt, .int pu])), (a_S, .inl (cI, 163, .inl (ms zo he go le hd gn la))), (a_K, .inl (cI, 326, .inl (if v = 0 then cpK K (ms zo he go le hd gn la) 0 163 else if v = 1 then cpK K (ms zo he go le hd gn la) 163 163 else K))), (a_IK, .inl (cZ, 2, .inl (if v = 0 then upd IK 0 1 else if v = 1 then upd IK 1 1 else IK)))] H := by rw [← ew_5, ← ew_6]; exact hP
          exact retWi () hx hb hr (rfl) hlocks dX7_keep_60 hS (by simp [c_1, (eq_true hv), hv1, c_4]) hP
        · skip
          have c_4 : ¬ 163 ≤ k18 := fun h9 => c_4 ((nI_leI (a := 163) (b := k18) (by omega) (by omega)).mpr h9)
          refine lv_aload_n hx hb dX7_keep_25 rfl (lv_at hl 0 rfl) ?_
          refine va_get (D := G) (ci := 7) (v := .ref a_K) (C := RX7) (T := TX7) (N := 38) hx hb hts inlX7 hown hK hP 0 rfl rfl 3 (by decide) (hts (.fieldLink RX7 13 "EarthBanksModel" "kept" "[I") k_6_3) (fun _ h9 => h9) rfl dX7_keep_26 ?_
          refine lv_sipush (v := 163) hx hb dX7_keep_29 (by decide) ?_
          refine lv_iload_n hx hb dX7_keep_32 rfl (lv_at hl 1 rfl) ?_
          refine lv_imul hx hb dX7_keep_33 ?_
          refine top_eq (y := nI (163 * 0)) (pk_mul _ _) ?_
          refine lv_iload_n hx hb dX7_keep_34 rfl (lv_at hl 2 rfl) ?_
          refine lv_iadd hx hb dX7_keep_35 ?_
          refine top_eq (y := nI ((163 * 0) + k18)) (nI_add _ _) ?_
          refine lv_aload_n hx hb dX7_keep_36 rfl (lv_at hl 0 rfl) ?_
          refine va_get (D := G) (ci := 7) (v := .ref a_S) (C := RX7) (T := TX7) (N := 38) hx hb hts inlX7 hown hK hP 0 rfl rfl 2 (by decide) (hts (.fieldLink RX7 7 "EarthBanksModel" "s" "[I") k_6_2) (fun _ h9 => h9) rfl dX7_keep_37 ?_
          refine lv_iload_n hx hb dX7_keep_40 rfl (lv_at hl 2 rfl) ?_
          refine ialdN (j := k18) hx hb hK hP 1 0 rfl rfl (by omega) (by decide) dX7_keep_41 ?_
          refine top_eq (y := ((ms zo he go le hd gn la) k18)) (rfl) ?_
          refine iastN (j := ((163 * 0) + k18)) hx hb hK hP hD hS 2 0 rfl rfl (by omega) (by decide) dX7_keep_42 (fun H locs hP hD hS => ?_)
          have hP : va_P G vwCl [(o, .inr (7, [.int 0, .long tr, .ref a_S, .ref a_K, .ref a_IK, .ref a_SV, .ref a_DR, .ref a_TX, .int td, .int nx, .int tk, .int pc, .int vl, .int fa, .int ff, .ref a_WY, .ref a_BE, .int bf, .int bm, .int bl, .ref a_MO, .ref a_DY, .ref a_PO, .ref a_HO, .ref a_WA, .int ng, .ref a_GA, .int nc, .ref a_CA, .int sl, .ref a_MT, .ref a_LW, .int nw, .ref a_WK, .int pe, .int pv, .int pt, .int pu])), (a_S, .inl (cI, 163, .inl (ms zo he go le hd gn la))), (a_K, .inl (cI, 326, .inl (upd (cpK K (ms zo he go le hd gn la) 0 k18) ((163 * 0) + k18) ((ms zo he go le hd gn la) k18)))), (a_IK, .inl (cZ, 2, .inl IK))] H := hP
          have hD : va_D A [(o, .inr (7, [.int 0, .long tr, .ref a_S, .ref a_K, .ref a_IK, .ref a_SV, .ref a_DR, .ref a_TX, .int td, .int nx, .int tk, .int pc, .int vl, .int fa, .int ff, .ref a_WY, .ref a_BE, .int bf, .int bm, .int bl, .ref a_MO, .ref a_DY, .ref a_PO, .ref a_HO, .ref a_WA, .int ng, .ref a_GA, .int nc, .ref a_CA, .int sl, .ref a_MT, .ref a_LW, .int nw, .ref a_WK, .int pe, .int pv, .int pt, .int pu])), (a_S, .inl (cI, 163, .inl (ms zo he go le hd gn la))), (a_K, .inl (cI, 326, .inl (upd (cpK K (ms zo he go le hd gn la) 0 k18) ((163 * 0) + k18) ((ms zo he go le hd gn la) k18)))), (a_IK, .inl (cZ, 2, .inl IK))] := hD
          refine lv_iinc (v := nI (k18 + 1)) (lv' := [(2, .int (nI (k18 + 1))), (0, .ref o), (1, .int 0)]) hx hb dX7_keep_43 hl (k := 2) rfl (nI_add _ _) (by decide) rfl (fun ls hl => ?_)
          refine lv_goto (tgt := 18) hx hb dX7_keep_46 (by decide) ?_
          have er_7 : (upd (cpK K (ms zo he go le hd gn la) 0 k18) ((163 * 0) + k18) ((ms zo he go le hd gn la) k18)) = (cpK K (ms zo he go le hd gn la) 0 (k18 + 1)) := by rw [cpK_s]; try rfl
          exact ih18 (k18 + 1) (by omega) (by omega) (by omega)  H locs (by rw [← er_7]; exact hP) (by rw [← er_7]; exact hD) hS ls (lv_sub hl [1, 2, 0] rfl)
    · skip
      have hv0 : ¬ v = 0 := by rw [hv]; decide
      have hl : lv_has ls 3 [(0, .ref o), (1, .int 1)] := by rw [hv] at hl; exact hl
      refine lv_iconst (v := 0) hx hb dX7_keep_16 (by decide) ?_
      refine lv_istore_n (lv' := [(2, .int 0), (0, .ref o), (1, .int 1)]) hx hb dX7_keep_17 rfl hl (by decide) rfl (fun ls hl => ?_)
      suffices lp18 : ∀ zn k18 : Nat, 0 ≤ k18 → k18 ≤ 163 → 163 < k18 + zn → ∀ (H : Heap) (locs : List Loc), va_P G vwCl [(o, .inr (7, [.int 0, .long tr, .ref a_S, .ref a_K, .ref a_IK, .ref a_SV, .ref a_DR, .ref a_TX, .int td, .int nx, .int tk, .int pc, .int vl, .int fa, .int ff, .ref a_WY, .ref a_BE, .int bf, .int bm, .int bl, .ref a_MO, .ref a_DY, .ref a_PO, .ref a_HO, .ref a_WA, .int ng, .ref a_GA, .int nc, .ref a_CA, .int sl, .ref a_MT, .ref a_LW, .int nw, .ref a_WK, .int pe, .int pv, .int pt, .int pu])), (a_S, .inl (cI, 163, .inl (ms zo he go le hd gn la))), (a_K, .inl (cI, 326, .inl (cpK K (ms zo he go le hd gn la) 163 k18))), (a_IK, .inl (cZ, 2, .inl IK))] H → va_D A [(o, .inr (7, [.int 0, .long tr, .ref a_S, .ref a_K, .ref a_IK, .ref a_SV, .ref a_DR, .ref a_TX, .int td, .int nx, .int tk, .int pc, .int vl, .int fa, .int ff, .ref a_WY, .ref a_BE, .int bf, .int bm, .int bl, .ref a_MO, .ref a_DY, .ref a_PO, .ref a_HO, .ref a_WA, .int ng, .ref a_GA, .int nc, .ref a_CA, .int sl, .ref a_MT, .ref a_LW, .int nw, .ref a_WK, .int pe, .int pv, .int pt, .int pu])), (a_S, .inl (cI, 163, .inl (ms zo he go le hd gn la))), (a_K, .inl (cI, 326, .inl (cpK K (ms zo he go le hd gn la) 163 k18))), (a_IK, .inl (cZ, 2, .inl IK))] → va_S A s.heap H locs → ∀ ls : Array Slot, lv_has ls 3 [(0, .ref o), (1, .int 1), (2, .int (nI k18))] → W zp l ze (rmK 4) s zm args below meth zc H locs 0 0 (MQ below (va_Qi (S := Unit) (fun r _ => r = (if wiB v 0 1 then cntS (isES zo go) 48 else (-1))) (fun u t => va_P G vwCl ((fun _ => [(o, .inr (7, [.int 0, .long tr, .ref a_S, .ref a_K, .ref a_IK, .ref a_SV, .ref a_DR, .ref a_TX, .int td, .int nx, .int tk, .int pc, .int vl, .int fa, .int ff, .ref a_WY, .ref a_BE, .int bf, .int bm, .int bl, .ref a_MO, .ref a_DY, .ref a_PO, .ref a_HO, .ref a_WA, .int ng, .ref a_GA, .int nc, .ref a_CA, .int sl, .ref a_MT, .ref a_LW, .int nw, .ref a_WK, .int pe, .int pv, .int pt, .int pu])), (a_S, .inl (cI, 163, .inl (ms zo he go le hd gn la))), (a_K, .inl (cI, 326, .inl (if v = 0 then cpK K (ms zo he go le hd gn la) 0 163 else if v = 1 then cpK K (ms zo he go le hd gn la) 163 163 else K))), (a_IK, .inl (cZ, 2, .inl (if v = 0 then upd IK 0 1 else if v = 1 then upd IK 1 1 else IK)))]) u) t.heap) A) args s 0 0 A) (F0 zm 18 ls []) by
        have el_8 : (0 : Int32) = nI 0 := rfl
        have er_9 : K = (cpK K (ms zo he go le hd gn la) 163 0) := (cpK_0 _ _ _).symm
        exact lp18 (163 + 1 - 0) 0 (by omega) (by omega) (by omega)  H locs (by rw [← er_9]; exact hP) (by rw [← er_9]; exact hD) hS ls (lv_sub hl [1, 2, 0] (show ([(0, .ref o), (1, .int 1), (2, .int 0)] : List (Nat × Value)) = [(0, .ref o), (1, .int 1), (2, .int (nI 0))] by rw [← el_8]))
      intro zn
      induction zn with
      | zero => exact fun k18 h1 h2 h3 => absurd h3 (by omega)
      | succ zn ih18 =>
        intro k18 hlo18 hhi18 hn18  H locs hP hD hS ls hl
        refine lv_iload_n hx hb dX7_keep_18 rfl (lv_at hl 2 rfl) ?_
        refine lv_sipush (v := 163) hx hb dX7_keep_19 (by decide) ?_
        refine lv_icmp_ge (tgt := 49) hx hb dX7_keep_22 (by decide) (fun c_10 => ?_) (fun c_10 => ?_)
        · skip
          have c_10 : 163 ≤ k18 := (nI_leI (a := 163) (b := k18) (by omega) (by omega)).mp c_10
          have hk9 : 163 = k18 := by omega
          subst hk9
          refine lv_aload_n hx hb dX7_keep_49 rfl (lv_at hl 0 rfl) ?_
          refine va_get (D := G) (ci := 7) (v := .ref a_IK) (C := RX7) (T := TX7) (N := 38) hx hb hts inlX7 hown hK hP 0 rfl rfl 4 (by decide) (hts (.fieldLink RX7 16 "EarthBanksModel" "isKept" "[Z") k_6_5) (fun _ h9 => h9) rfl dX7_keep_50 ?_
          refine lv_iload_n hx hb dX7_keep_53 rfl (lv_at hl 1 rfl) ?_
          refine lv_iconst (v := 1) hx hb dX7_keep_54 (by decide) ?_
          refine zastN (j := 1) hx hb hK hP hD hS 3 1 rfl rfl (by omega) (by decide) (by decide) dX7_keep_55 (fun H locs hP hD hS => ?_)
          have hP : va_P G vwCl [(o, .inr (7, [.int 0, .long tr, .ref a_S, .ref a_K, .ref a_IK, .ref a_SV, .ref a_DR, .ref a_TX, .int td, .int nx, .int tk, .int pc, .int vl, .int fa, .int ff, .ref a_WY, .ref a_BE, .int bf, .int bm, .int bl, .ref a_MO, .ref a_DY, .ref a_PO, .ref a_HO, .ref a_WA, .int ng, .ref a_GA, .int nc, .ref a_CA, .int sl, .ref a_MT, .ref a_LW, .int nw, .ref a_WK, .int pe, .int pv, .int pt, .int pu])), (a_S, .inl (cI, 163, .inl (ms zo he go le hd gn la))), (a_K, .inl (cI, 326, .inl (cpK K (ms zo he go le hd gn la) 163 163))), (a_IK, .inl (cZ, 2, .inl (upd IK 1 1)))] H := hP
          have hD : va_D A [(o, .inr (7, [.int 0, .long tr, .ref a_S, .ref a_K, .ref a_IK, .ref a_SV, .ref a_DR, .ref a_TX, .int td, .int nx, .int tk, .int pc, .int vl, .int fa, .int ff, .ref a_WY, .ref a_BE, .int bf, .int bm, .int bl, .ref a_MO, .ref a_DY, .ref a_PO, .ref a_HO, .ref a_WA, .int ng, .ref a_GA, .int nc, .ref a_CA, .int sl, .ref a_MT, .ref a_LW, .int nw, .ref a_WK, .int pe, .int pv, .int pt, .int pu])), (a_S, .inl (cI, 163, .inl (ms zo he go le hd gn la))), (a_K, .inl (cI, 326, .inl (cpK K (ms zo he go le hd gn la) 163 163))), (a_IK, .inl (cZ, 2, .inl (upd IK 1 1)))] := hD
          refine lv_aload_n hx hb dX7_keep_56 rfl (lv_at hl 0 rfl) ?_
          refine cRV (As := []) (rest := []) hx hb hml hown hts (c_X7_earth l G E cI cZ zo he go le hd gn la o a_S [.int 0, .long tr, .ref a_S, .ref a_K, .ref a_IK, .ref a_SV, .ref a_DR, .ref a_TX, .int td, .int nx, .int tk, .int pc, .int vl, .int fa, .int ff, .ref a_WY, .ref a_BE, .int bf, .int bm, .int bl, .ref a_MO, .ref a_DY, .ref a_PO, .ref a_HO, .ref a_WA, .int ng, .ref a_GA, .int nc, .ref a_CA, .int sl, .ref a_MT, .ref a_LW, .int nw, .ref a_WK, .int pe, .int pv, .int pt, .int pu] rfl) k_15_21 cal_X7_earth ⟨Nat.le_of_ble_eq_true rfl, Nat.le_of_ble_eq_true rfl⟩ hE hlow hS hK [0, 1] rfl hP [0, 1] rfl 0 7 rfl rfl rfl hl.1 rfl (Nat.le_of_ble_eq_true rfl) dX7_keep_57 ⟨Nat.zero_le _, Nat.zero_le _⟩ ?_
          have ew_11 : (cpK K (ms zo he go le hd gn la) 163 163) = (if v = 0 then cpK K (ms zo he go le hd gn la) 0 163 else if v = 1 then cpK K (ms zo he go le hd gn la) 163 163 else K) := by simp [c_1, (eq_true hv), hv0, c_10]
          have ew_12 : (upd IK 1 1) = (if v = 0 then upd IK 0 1 else if v = 1 then upd IK 1 1 else IK) := by simp [c_1, (eq_true hv), hv0, c_10]
          have hP : va_P G vwCl [(o, .inr (7, [.int 0, .long tr, .ref a_S, .ref a_K, .ref a_IK, .ref a_SV, .ref a_DR, .ref a_TX, .int td, .int nx, .int tk, .int pc, .int vl, .int fa, .int ff, .ref a_WY, .ref a_BE, .int bf, .int bm, .int bl, .ref a_MO, .ref a_DY, .ref a_PO, .ref a_HO, .ref a_WA, .int ng, .ref a_GA, .int nc, .ref a_CA, .int sl, .ref a_MT, .ref a_LW, .int nw, .ref a_WK, .int pe, .int pv, .int pt, .int pu])), (a_S, .inl (cI, 163, .inl (ms zo he go le hd gn la))), (a_K, .inl (cI, 326, .inl (if v = 0 then cpK K (ms zo he go le hd gn la) 0 163 else if v = 1 then cpK K (ms zo he go le hd gn la) 163 163 else K))), (a_IK, .inl (cZ, 2, .inl (if v = 0 then upd IK 0 1 else if v = 1 then upd IK 1 1 else IK)))] H := by rw [← ew_11, ← ew_12]; exact hP
          exact retWi () hx hb hr (rfl) hlocks dX7_keep_60 hS (by simp [c_1, (eq_true hv), hv0, c_10]) hP
        · skip
          have c_10 : ¬ 163 ≤ k18 := fun h9 => c_10 ((nI_leI (a := 163) (b := k18) (by omega) (by omega)).mpr h9)
          refine lv_aload_n hx hb dX7_keep_25 rfl (lv_at hl 0 rfl) ?_
          refine va_get (D := G) (ci := 7) (v := .ref a_K) (C := RX7) (T := TX7) (N := 38) hx hb hts inlX7 hown hK hP 0 rfl rfl 3 (by decide) (hts (.fieldLink RX7 13 "EarthBanksModel" "kept" "[I") k_6_3) (fun _ h9 => h9) rfl dX7_keep_26 ?_
          refine lv_sipush (v := 163) hx hb dX7_keep_29 (by decide) ?_
          refine lv_iload_n hx hb dX7_keep_32 rfl (lv_at hl 1 rfl) ?_
          refine lv_imul hx hb dX7_keep_33 ?_
          refine top_eq (y := nI (163 * 1)) (pk_mul _ _) ?_
          refine lv_iload_n hx hb dX7_keep_34 rfl (lv_at hl 2 rfl) ?_
          refine lv_iadd hx hb dX7_keep_35 ?_
          refine top_eq (y := nI ((163 * 1) + k18)) (nI_add _ _) ?_
          refine lv_aload_n hx hb dX7_keep_36 rfl (lv_at hl 0 rfl) ?_
          refine va_get (D := G) (ci := 7) (v := .ref a_S) (C := RX7) (T := TX7) (N := 38) hx hb hts inlX7 hown hK hP 0 rfl rfl 2 (by decide) (hts (.fieldLink RX7 7 "EarthBanksModel" "s" "[I") k_6_2) (fun _ h9 => h9) rfl dX7_keep_37 ?_
          refine lv_iload_n hx hb dX7_keep_40 rfl (lv_at hl 2 rfl) ?_
          refine ialdN (j := k18) hx hb hK hP 1 0 rfl rfl (by omega) (by decide) dX7_keep_41 ?_
          refine top_eq (y := ((ms zo he go le hd gn la) k18)) (rfl) ?_
          refine iastN (j := ((163 * 1) + k18)) hx hb hK hP hD hS 2 0 rfl rfl (by omega) (by decide) dX7_keep_42 (fun H locs hP hD hS => ?_)
          have hP : va_P G vwCl [(o, .inr (7, [.int 0, .long tr, .ref a_S, .ref a_K, .ref a_IK, .ref a_SV, .ref a_DR, .ref a_TX, .int td, .int nx, .int tk, .int pc, .int vl, .int fa, .int ff, .ref a_WY, .ref a_BE, .int bf, .int bm, .int bl, .ref a_MO, .ref a_DY, .ref a_PO, .ref a_HO, .ref a_WA, .int ng, .ref a_GA, .int nc, .ref a_CA, .int sl, .ref a_MT, .ref a_LW, .int nw, .ref a_WK, .int pe, .int pv, .int pt, .int pu])), (a_S, .inl (cI, 163, .inl (ms zo he go le hd gn la))), (a_K, .inl (cI, 326, .inl (upd (cpK K (ms zo he go le hd gn la) 163 k18) ((163 * 1) + k18) ((ms zo he go le hd gn la) k18)))), (a_IK, .inl (cZ, 2, .inl IK))] H := hP
          have hD : va_D A [(o, .inr (7, [.int 0, .long tr, .ref a_S, .ref a_K, .ref a_IK, .ref a_SV, .ref a_DR, .ref a_TX, .int td, .int nx, .int tk, .int pc, .int vl, .int fa, .int ff, .ref a_WY, .ref a_BE, .int bf, .int bm, .int bl, .ref a_MO, .ref a_DY, .ref a_PO, .ref a_HO, .ref a_WA, .int ng, .ref a_GA, .int nc, .ref a_CA, .int sl, .ref a_MT, .ref a_LW, .int nw, .ref a_WK, .int pe, .int pv, .int pt, .int pu])), (a_S, .inl (cI, 163, .inl (ms zo he go le hd gn la))), (a_K, .inl (cI, 326, .inl (upd (cpK K (ms zo he go le hd gn la) 163 k18) ((163 * 1) + k18) ((ms zo he go le hd gn la) k18)))), (a_IK, .inl (cZ, 2, .inl IK))] := hD
          refine lv_iinc (v := nI (k18 + 1)) (lv' := [(2, .int (nI (k18 + 1))), (0, .ref o), (1, .int 1)]) hx hb dX7_keep_43 hl (k := 2) rfl (nI_add _ _) (by decide) rfl (fun ls hl => ?_)
          refine lv_goto (tgt := 18) hx hb dX7_keep_46 (by decide) ?_
          have er_13 : (upd (cpK K (ms zo he go le hd gn la) 163 k18) ((163 * 1) + k18) ((ms zo he go le hd gn la) k18)) = (cpK K (ms zo he go le hd gn la) 163 (k18 + 1)) := by rw [cpK_s]; try rfl
          exact ih18 (k18 + 1) (by omega) (by omega) (by omega)  H locs (by rw [← er_13]; exact hP) (by rw [← er_13]; exact hD) hS ls (lv_sub hl [1, 2, 0] rfl)
  · skip
    have c_1 : (wiB v 0 1) = false := bI_f c_1
    obtain ⟨hv0, hv1⟩ := wiB_01f c_1
    refine lv_iconst (v := (-1)) hx hb dX7_keep_14 (by decide) ?_
    have ew_14 : K = (if v = 0 then cpK K (ms zo he go le hd gn la) 0 163 else if v = 1 then cpK K (ms zo he go le hd gn la) 163 163 else K) := by simp [c_1, hv0, hv1]
    have ew_15 : IK = (if v = 0 then upd IK 0 1 else if v = 1 then upd IK 1 1 else IK) := by simp [c_1, hv0, hv1]
    have hP : va_P G vwCl [(o, .inr (7, [.int 0, .long tr, .ref a_S, .ref a_K, .ref a_IK, .ref a_SV, .ref a_DR, .ref a_TX, .int td, .int nx, .int tk, .int pc, .int vl, .int fa, .int ff, .ref a_WY, .ref a_BE, .int bf, .int bm, .int bl, .ref a_MO, .ref a_DY, .ref a_PO, .ref a_HO, .ref a_WA, .int ng, .ref a_GA, .int nc, .ref a_CA, .int sl, .ref a_MT, .ref a_LW, .int nw, .ref a_WK, .int pe, .int pv, .int pt, .int pu])), (a_S, .inl (cI, 163, .inl (ms zo he go le hd gn la))), (a_K, .inl (cI, 326, .inl (if v = 0 then cpK K (ms zo he go le hd gn la) 0 163 else if v = 1 then cpK K (ms zo he go le hd gn la) 163 163 else K))), (a_IK, .inl (cZ, 2, .inl (if v = 0 then upd IK 0 1 else if v = 1 then upd IK 1 1 else IK)))] H := by rw [← ew_14, ← ew_15]; exact hP
    exact retWi () hx hb hr (rfl) hlocks dX7_keep_15 hS (by simp [c_1, hv0, hv1]) hP
theorem cal_X7_back : calV yX7_back cX7_back 3 (some .int) 1 := ⟨k_41_10, k_1_5, k_41_8, k_41_9, by decide +kernel⟩
set_option maxHeartbeats 4000000 in
set_option maxRecDepth 100000 in
theorem c_X7_back (l : Launch) (G : va_G) (E : EvT) (cI cZ : ClassId) (zo : Nat → Int32) (he : Nat → Int32) (go : Nat → Int32) (le : Nat → Int32) (hd : Nat → Int32) (gn : Nat → Int32) (la : Int32) (izo : Nat → Int32) (ihe : Nat → Int32) (igo : Nat → Int32) (ile : Nat → Int32) (ihd : Nat → Int32) (ign : Nat → Int32) (jzo : Nat → Int32) (jhe : Nat → Int32) (jgo : Nat → Int32) (jle : Nat → Int32) (jhd : Nat → Int32) (jgn : Nat → Int32) (ila : Int32) (jla : Int32) (v : Int32) (o : Nat) (a_S : Nat) (a_K : Nat) (a_IK : Nat) (a_SV : Nat) (a_DR : Nat) (a_TX : Nat) (a_WY : Nat) (a_BE : Nat) (a_MO : Nat) (a_DY : Nat) (a_PO : Nat) (a_HO : Nat) (a_WA : Nat) (a_GA : Nat) (a_CA : Nat) (a_MT : Nat) (a_LW : Nat) (a_WK : Nat) (th : Int32) (tr : Int64) (td : Int32) (nx : Int32) (tk : Int32) (pc : Int32) (vl : Int32) (fa : Int32) (ff : Int32) (bf : Int32) (bm : Int32) (bl : Int32) (ng : Int32) (nc : Int32) (sl : Int32) (nw : Int32) (pe : Int32) (pv : Int32) (pt : Int32) (pu : Int32) (K : Nat → Int32) (IK : Nat → Int32) (hK0 : ∀ k, k < 163 → K k = ms izo ihe igo ile ihd ign ila k) (hK1 : ∀ k, k < 163 → K (163 + k) = ms jzo jhe jgo jle jhd jgn jla k) : cWi (S := Unit) l G E yX7_back cX7_back 3 (some .int) 4 [(cI, .int), (cZ, .boolean)] [.ref o, .int v] [(o, .inr (7, [.int th, .long tr, .ref a_S, .ref a_K, .ref a_IK, .ref a_SV, .ref a_DR, .ref a_TX, .int td, .int nx, .int tk, .int pc, .int vl, .int fa, .int ff, .ref a_WY, .ref a_BE, .int bf, .int bm, .int bl, .ref a_MO, .ref a_DY, .ref a_PO, .ref a_HO, .ref a_WA, .int ng, .ref a_GA, .int nc, .ref a_CA, .int sl, .ref a_MT, .ref a_LW, .int nw, .ref a_WK, .int pe, .int pv, .int pt, .int pu])), (a_S, .inl (cI, 163, .inl (ms zo he go le hd gn la))), (a_K, .inl (cI, 326, .inl K)), (a_IK, .inl (cZ, 2, .inl IK))] (fun r _ => r = (if wiB v 0 1 then (if bkZ v IK then (-2) else bkS v IK 0 (cntS (isES izo igo) 48) (cntS (isES jzo jgo) 48)) else (-1))) (fun _ => [(o, .inr (7, [.int 0, .long tr, .ref a_S, .ref a_K, .ref a_IK, .ref a_SV, .ref a_DR, .ref a_TX, .int td, .int nx, .int tk, .int pc, .int vl, .int fa, .int ff, .ref a_WY, .ref a_BE, .int bf, .int bm, .int bl, .ref a_MO, .ref a_DY, .ref a_PO, .ref a_HO, .ref a_WA, .int ng, .ref a_GA, .int nc, .ref a_CA, .int sl, .ref a_MT, .ref a_LW, .int nw, .ref a_WK, .int pe, .int pv, .int pt, .int pu])), (a_S, .inl (cI, 163, .inl (bkS v IK (ms zo he go le hd gn la) (ms izo ihe igo ile ihd ign ila) (ms jzo jhe jgo jle jhd jgn jla)))), (a_K, .inl (cI, 326, .inl K)), (a_IK, .inl (cZ, 2, .inl IK))]) := by
  refine mkWi (by decide) (Nat.le_of_ble_eq_true rfl) ?_
  intro zp ze s zm args below meth zc hx hb hr hml hown hts hlocks hE hK A hA hlow H locs hP hD hS ls hl
  have hl : lv_has ls 3 [(0, .ref o), (1, .int v)] := hl
  refine lv_aload_n hx hb dX7_back_0 rfl (lv_at hl 0 rfl) ?_
  refine lv_iconst (v := 0) hx hb dX7_back_1 (by decide) ?_
  refine va_put (D := G) (ci := 7) (v := .int 0) (ty := .int) (C := RX7) (T := TX7) (N := 38) hx hb hts inlX7 tyX7 tyX7_ok nmX7 hown hK hP hD hS 0 rfl rfl 0 (by decide) (hts (.fieldLink RX7 75 "EarthBanksModel" "thrown" "I") k_7_19) (fun _ h9 => h9) rfl (by decide +kernel) (rfl) (rfl) (Nat.le_of_ble_eq_true rfl) dX7_back_2 (fun H locs hP hD hS => ?_)
  have hP : va_P G vwCl [(o, .inr (7, [.int 0, .long tr, .ref a_S, .ref a_K, .ref a_IK, .ref a_SV, .ref a_DR, .ref a_TX, .int td, .int nx, .int tk, .int pc, .int vl, .int fa, .int ff, .ref a_WY, .ref a_BE, .int bf, .int bm, .int bl, .ref a_MO, .ref a_DY, .ref a_PO, .ref a_HO, .ref a_WA, .int ng, .ref a_GA, .int nc, .ref a_CA, .int sl, .ref a_MT, .ref a_LW, .int nw, .ref a_WK, .int pe, .int pv, .int pt, .int pu])), (a_S, .inl (cI, 163, .inl (ms zo he go le hd gn la))), (a_K, .inl (cI, 326, .inl K)), (a_IK, .inl (cZ, 2, .inl IK))] H := hP
  have hD : va_D A [(o, .inr (7, [.int 0, .long tr, .ref a_S, .ref a_K, .ref a_IK, .ref a_SV, .ref a_DR, .ref a_TX, .int td, .int nx, .int tk, .int pc, .int vl, .int fa, .int ff, .ref a_WY, .ref a_BE, .int bf, .int bm, .int bl, .ref a_MO, .ref a_DY, .ref a_PO, .ref a_HO, .ref a_WA, .int ng, .ref a_GA, .int nc, .ref a_CA, .int sl, .ref a_MT, .ref a_LW, .int nw, .ref a_WK, .int pe, .int pv, .int pt, .int pu])), (a_S, .inl (cI, 163, .inl (ms zo he go le hd gn la))), (a_K, .inl (cI, 326, .inl K)), (a_IK, .inl (cZ, 2, .inl IK))] := hD
  refine lv_iload_n hx hb dX7_back_5 rfl (lv_at hl 1 rfl) ?_
  refine lv_iconst (v := 0) hx hb dX7_back_6 (by decide) ?_
  refine lv_iconst (v := 1) hx hb dX7_back_7 (by decide) ?_
  refine cRS (As := [.int v, .int 0, .int 1]) (rest := []) hx hb hml hown hts (c_X7_in l G E cI cZ v 0 1) k_7_22 cal_X7_in ⟨Nat.le_of_ble_eq_true rfl, Nat.le_of_ble_eq_true rfl⟩ hE hlow hS hK [0, 1] rfl hP [] rfl rfl hl.1 rfl (Nat.le_of_ble_eq_true rfl) dX7_back_8 ⟨Nat.zero_le _, Nat.zero_le _⟩ ?_
  refine lv_if_ne (tgt := 16) hx hb dX7_back_11 (by decide) (fun c_1 => ?_) (fun c_1 => ?_)
  · skip
    have c_1 : (wiB v 0 1) = true := bI_t c_1
    rcases wiB_01 c_1 with hv | hv
    · skip
      have hv1 : ¬ v = 1 := by rw [hv]; decide
      have hl : lv_has ls 3 [(0, .ref o), (1, .int 0)] := by rw [hv] at hl; exact hl
      refine lv_aload_n hx hb dX7_back_16 rfl (lv_at hl 0 rfl) ?_
      refine va_get (D := G) (ci := 7) (v := .ref a_IK) (C := RX7) (T := TX7) (N := 38) hx hb hts inlX7 hown hK hP 0 rfl rfl 4 (by decide) (hts (.fieldLink RX7 16 "EarthBanksModel" "isKept" "[Z") k_6_5) (fun _ h9 => h9) rfl dX7_back_17 ?_
      refine lv_iload_n hx hb dX7_back_20 rfl (lv_at hl 1 rfl) ?_
      refine zaldN (j := 0) hx hb hK hP 3 1 rfl rfl (by omega) (by decide) dX7_back_21 ?_
      refine lv_if_ne (tgt := 28) hx hb dX7_back_22 (by decide) (fun c_2 => ?_) (fun c_2 => ?_)
      · skip
        refine lv_iconst (v := 0) hx hb dX7_back_28 (by decide) ?_
        refine lv_istore_n (lv' := [(2, .int 0), (0, .ref o), (1, .int 0)]) hx hb dX7_back_29 rfl hl (by decide) rfl (fun ls hl => ?_)
        suffices lp30 : ∀ zn k30 : Nat, 0 ≤ k30 → k30 ≤ 163 → 163 < k30 + zn → ∀ (H : Heap) (locs : List Loc), va_P G vwCl [(o, .inr (7, [.int 0, .long tr, .ref a_S, .ref a_K, .ref a_IK, .ref a_SV, .ref a_DR, .ref a_TX, .int td, .int nx, .int tk, .int pc, .int vl, .int fa, .int ff, .ref a_WY, .ref a_BE, .int bf, .int bm, .int bl, .ref a_MO, .ref a_DY, .ref a_PO, .ref a_HO, .ref a_WA, .int ng, .ref a_GA, .int nc, .ref a_CA, .int sl, .ref a_MT, .ref a_LW, .int nw, .ref a_WK, .int pe, .int pv, .int pt, .int pu])), (a_S, .inl (cI, 163, .inl (filS (K) (ms zo he go le hd gn la) k30))), (a_K, .inl (cI, 326, .inl K)), (a_IK, .inl (cZ, 2, .inl IK))] H → va_D A [(o, .inr (7, [.int 0, .long tr, .ref a_S, .ref a_K, .ref a_IK, .ref a_SV, .ref a_DR, .ref a_TX, .int td, .int nx, .int tk, .int pc, .int vl, .int fa, .int ff, .ref a_WY, .ref a_BE, .int bf, .int bm, .int bl, .ref a_MO, .ref a_DY, .ref a_PO, .ref a_HO, .ref a_WA, .int ng, .ref a_GA, .int nc, .ref a_CA, .int sl, .ref a_MT, .ref a_LW, .int nw, .ref a_WK, .int pe, .int pv, .int pt, .int pu])), (a_S, .inl (cI, 163, .inl (filS (K) (ms zo he go le hd gn la) k30))), (a_K, .inl (cI, 326, .inl K)), (a_IK, .inl (cZ, 2, .inl IK))] → va_S A s.heap H locs → ∀ ls : Array Slot, lv_has ls 3 [(0, .ref o), (1, .int 0), (2, .int (nI k30))] → W zp l ze (rmK 4) s zm args below meth zc H locs 0 0 (MQ below (va_Qi (S := Unit) (fun r _ => r = (if wiB v 0 1 then (if bkZ v IK then (-2) else bkS v IK 0 (cntS (isES izo igo) 48) (cntS (isES jzo jgo) 48)) else (-1))) (fun u t => va_P G vwCl ((fun _ => [(o, .inr (7, [.int 0, .long tr, .ref a_S, .ref a_K, .ref a_IK, .ref a_SV, .ref a_DR, .ref a_TX, .int td, .int nx, .int tk, .int pc, .int vl, .int fa, .int ff, .ref a_WY, .ref a_BE, .int bf, .int bm, .int bl, .ref a_MO, .ref a_DY, .ref a_PO, .ref a_HO, .ref a_WA, .int ng, .ref a_GA, .int nc, .ref a_CA, .int sl, .ref a_MT, .ref a_LW, .int nw, .ref a_WK, .int pe, .int pv, .int pt, .int pu])), (a_S, .inl (cI, 163, .inl (bkS v IK (ms zo he go le hd gn la) (ms izo ihe igo ile ihd ign ila) (ms jzo jhe jgo jle jhd jgn jla)))), (a_K, .inl (cI, 326, .inl K)), (a_IK, .inl (cZ, 2, .inl IK))]) u) t.heap) A) args s 0 0 A) (F0 zm 30 ls []) by
          have el_3 : (0 : Int32) = nI 0 := rfl
          have er_4 : (ms zo he go le hd gn la) = (filS (K) (ms zo he go le hd gn la) 0) := by rw [filS_0]
          exact lp30 (163 + 1 - 0) 0 (by omega) (by omega) (by omega)  H locs (by rw [← er_4]; exact hP) (by rw [← er_4]; exact hD) hS ls (lv_sub hl [1, 2, 0] (show ([(0, .ref o), (1, .int 0), (2, .int 0)] : List (Nat × Value)) = [(0, .ref o), (1, .int 0), (2, .int (nI 0))] by rw [← el_3]))
        intro zn
        induction zn with
        | zero => exact fun k30 h1 h2 h3 => absurd h3 (by omega)
        | succ zn ih30 =>
          intro k30 hlo30 hhi30 hn30  H locs hP hD hS ls hl
          refine lv_iload_n hx hb dX7_back_30 rfl (lv_at hl 2 rfl) ?_
          refine lv_sipush (v := 163) hx hb dX7_back_31 (by decide) ?_
          refine lv_icmp_ge (tgt := 61) hx hb dX7_back_34 (by decide) (fun c_5 => ?_) (fun c_5 => ?_)
          · skip
            have c_5 : 163 ≤ k30 := (nI_leI (a := 163) (b := k30) (by omega) (by omega)).mp c_5
            have hk9 : 163 = k30 := by omega
            subst hk9
            have hP := P_swap hP 1 (ms izo ihe igo ile ihd ign ila) rfl (fun k h9 => (filS_in h9).trans (hK0 k h9))
            have hD := D_swap hD 1 (.inl (cI, 163, .inl (ms izo ihe igo ile ihd ign ila))) rfl
            have hP : va_P G vwCl [(o, .inr (7, [.int 0, .long tr, .ref a_S, .ref a_K, .ref a_IK, .ref a_SV, .ref a_DR, .ref a_TX, .int td, .int nx, .int tk, .int pc, .int vl, .int fa, .int ff, .ref a_WY, .ref a_BE, .int bf, .int bm, .int bl, .ref a_MO, .ref a_DY, .ref a_PO, .ref a_HO, .ref a_WA, .int ng, .ref a_GA, .int nc, .ref a_CA, .int sl, .ref a_MT, .ref a_LW, .int nw, .ref a_WK, .int pe, .int pv, .int pt, .int pu])), (a_S, .inl (cI, 163, .inl (ms izo ihe igo ile ihd ign ila))), (a_K, .inl (cI, 326, .inl K)), (a_IK, .inl (cZ, 2, .inl IK))] H := hP
            have hD : va_D A [(o, .inr (7, [.int 0, .long tr, .ref a_S, .ref a_K, .ref a_IK, .ref a_SV, .ref a_DR, .ref a_TX, .int td, .int nx, .int tk, .int pc, .int vl, .int fa, .int ff, .ref a_WY, .ref a_BE, .int bf, .int bm, .int bl, .ref a_MO, .ref a_DY, .ref a_PO, .ref a_HO, .ref a_WA, .int ng, .ref a_GA, .int nc, .ref a_CA, .int sl, .ref a_MT, .ref a_LW, .int nw, .ref a_WK, .int pe, .int pv, .int pt, .int pu])), (a_S, .inl (cI, 163, .inl (ms izo ihe igo ile ihd ign ila))), (a_K, .inl (cI, 326, .inl K)), (a_IK, .inl (cZ, 2, .inl IK))] := hD
            refine lv_aload_n hx hb dX7_back_61 rfl (lv_at hl 0 rfl) ?_
            refine cRV (As := []) (rest := []) hx hb hml hown hts (c_X7_earth l G E cI cZ izo ihe igo ile ihd ign ila o a_S [.int 0, .long tr, .ref a_S, .ref a_K, .ref a_IK, .ref a_SV, .ref a_DR, .ref a_TX, .int td, .int nx, .int tk, .int pc, .int vl, .int fa, .int ff, .ref a_WY, .ref a_BE, .int bf, .int bm, .int bl, .ref a_MO, .ref a_DY, .ref a_PO, .ref a_HO, .ref a_WA, .int ng, .ref a_GA, .int nc, .ref a_CA, .int sl, .ref a_MT, .ref a_LW, .int nw, .ref a_WK, .int pe, .int pv, .int pt, .int pu] rfl) k_15_21 cal_X7_earth ⟨Nat.le_of_ble_eq_true rfl, Nat.le_of_ble_eq_true rfl⟩ hE hlow hS hK [0, 1] rfl hP [0, 1] rfl 0 7 rfl rfl rfl hl.1 rfl (Nat.le_of_ble_eq_true rfl) dX7_back_62 ⟨Nat.zero_le _, Nat.zero_le _⟩ ?_
            have ew_6 : (ms izo ihe igo ile ihd ign ila) = (bkS v IK (ms zo he go le hd gn la) (ms izo ihe igo ile ihd ign ila) (ms jzo jhe jgo jle jhd jgn jla)) := by simp [bkS, bkZ, c_1, (eq_true hv), hv1, c_2, c_5]
            have hP : va_P G vwCl [(o, .inr (7, [.int 0, .long tr, .ref a_S, .ref a_K, .ref a_IK, .ref a_SV, .ref a_DR, .ref a_TX, .int td, .int nx, .int tk, .int pc, .int vl, .int fa, .int ff, .ref a_WY, .ref a_BE, .int bf, .int bm, .int bl, .ref a_MO, .ref a_DY, .ref a_PO, .ref a_HO, .ref a_WA, .int ng, .ref a_GA, .int nc, .ref a_CA, .int sl, .ref a_MT, .ref a_LW, .int nw, .ref a_WK, .int pe, .int pv, .int pt, .int pu])), (a_S, .inl (cI, 163, .inl (bkS v IK (ms zo he go le hd gn la) (ms izo ihe igo ile ihd ign ila) (ms jzo jhe jgo jle jhd jgn jla)))), (a_K, .inl (cI, 326, .inl K)), (a_IK, .inl (cZ, 2, .inl IK))] H := by rw [← ew_6]; exact hP
            exact retWi () hx hb hr (rfl) hlocks dX7_back_65 hS (by simp [bkS, bkZ, c_1, (eq_true hv), hv1, c_2, c_5]) hP
          · skip
            have c_5 : ¬ 163 ≤ k30 := fun h9 => c_5 ((nI_leI (a := 163) (b := k30) (by omega) (by omega)).mpr h9)
            refine lv_aload_n hx hb dX7_back_37 rfl (lv_at hl 0 rfl) ?_
            refine va_get (D := G) (ci := 7) (v := .ref a_S) (C := RX7) (T := TX7) (N := 38) hx hb hts inlX7 hown hK hP 0 rfl rfl 2 (by decide) (hts (.fieldLink RX7 7 "EarthBanksModel" "s" "[I") k_6_2) (fun _ h9 => h9) rfl dX7_back_38 ?_
            refine lv_iload_n hx hb dX7_back_41 rfl (lv_at hl 2 rfl) ?_
            refine lv_aload_n hx hb dX7_back_42 rfl (lv_at hl 0 rfl) ?_
            refine va_get (D := G) (ci := 7) (v := .ref a_K) (C := RX7) (T := TX7) (N := 38) hx hb hts inlX7 hown hK hP 0 rfl rfl 3 (by decide) (hts (.fieldLink RX7 13 "EarthBanksModel" "kept" "[I") k_6_3) (fun _ h9 => h9) rfl dX7_back_43 ?_
            refine lv_sipush (v := 163) hx hb dX7_back_46 (by decide) ?_
            refine lv_iload_n hx hb dX7_back_49 rfl (lv_at hl 1 rfl) ?_
            refine lv_imul hx hb dX7_back_50 ?_
            refine top_eq (y := nI (163 * 0)) (pk_mul _ _) ?_
            refine lv_iload_n hx hb dX7_back_51 rfl (lv_at hl 2 rfl) ?_
            refine lv_iadd hx hb dX7_back_52 ?_
            refine top_eq (y := nI ((163 * 0) + k30)) (nI_add _ _) ?_
            refine ialdN (j := ((163 * 0) + k30)) hx hb hK hP 2 0 rfl rfl (by omega) (by decide) dX7_back_53 ?_
            refine top_eq (y := (K k30)) (by simp) ?_
            refine iastN (j := k30) hx hb hK hP hD hS 1 0 rfl rfl (by omega) (by decide) dX7_back_54 (fun H locs hP hD hS => ?_)
            have hP : va_P G vwCl [(o, .inr (7, [.int 0, .long tr, .ref a_S, .ref a_K, .ref a_IK, .ref a_SV, .ref a_DR, .ref a_TX, .int td, .int nx, .int tk, .int pc, .int vl, .int fa, .int ff, .ref a_WY, .ref a_BE, .int bf, .int bm, .int bl, .ref a_MO, .ref a_DY, .ref a_PO, .ref a_HO, .ref a_WA, .int ng, .ref a_GA, .int nc, .ref a_CA, .int sl, .ref a_MT, .ref a_LW, .int nw, .ref a_WK, .int pe, .int pv, .int pt, .int pu])), (a_S, .inl (cI, 163, .inl (upd (filS (K) (ms zo he go le hd gn la) k30) k30 (K k30)))), (a_K, .inl (cI, 326, .inl K)), (a_IK, .inl (cZ, 2, .inl IK))] H := hP
            have hD : va_D A [(o, .inr (7, [.int 0, .long tr, .ref a_S, .ref a_K, .ref a_IK, .ref a_SV, .ref a_DR, .ref a_TX, .int td, .int nx, .int tk, .int pc, .int vl, .int fa, .int ff, .ref a_WY, .ref a_BE, .int bf, .int bm, .int bl, .ref a_MO, .ref a_DY, .ref a_PO, .ref a_HO, .ref a_WA, .int ng, .ref a_GA, .int nc, .ref a_CA, .int sl, .ref a_MT, .ref a_LW, .int nw, .ref a_WK, .int pe, .int pv, .int pt, .int pu])), (a_S, .inl (cI, 163, .inl (upd (filS (K) (ms zo he go le hd gn la) k30) k30 (K k30)))), (a_K, .inl (cI, 326, .inl K)), (a_IK, .inl (cZ, 2, .inl IK))] := hD
            refine lv_iinc (v := nI (k30 + 1)) (lv' := [(2, .int (nI (k30 + 1))), (0, .ref o), (1, .int 0)]) hx hb dX7_back_55 hl (k := 2) rfl (nI_add _ _) (by decide) rfl (fun ls hl => ?_)
            refine lv_goto (tgt := 30) hx hb dX7_back_58 (by decide) ?_
            have er_7 : (upd (filS (K) (ms zo he go le hd gn la) k30) k30 (K k30)) = (filS (K) (ms zo he go le hd gn la) (k30 + 1)) := by rw [filS_s _ _ _ _ rfl]
            exact ih30 (k30 + 1) (by omega) (by omega) (by omega)  H locs (by rw [← er_7]; exact hP) (by rw [← er_7]; exact hD) hS ls (lv_sub hl [1, 2, 0] rfl)
      · skip
        refine lv_bipush (v := (-2)) hx hb dX7_back_25 (by decide) ?_
        have ew_8 : (ms zo he go le hd gn la) = (bkS v IK (ms zo he go le hd gn la) (ms izo ihe igo ile ihd ign ila) (ms jzo jhe jgo jle jhd jgn jla)) := by simp [bkS, bkZ, c_1, (eq_true hv), hv1, eq_true c_2]
        have hP : va_P G vwCl [(o, .inr (7, [.int 0, .long tr, .ref a_S, .ref a_K, .ref a_IK, .ref a_SV, .ref a_DR, .ref a_TX, .int td, .int nx, .int tk, .int pc, .int vl, .int fa, .int ff, .ref a_WY, .ref a_BE, .int bf, .int bm, .int bl, .ref a_MO, .ref a_DY, .ref a_PO, .ref a_HO, .ref a_WA, .int ng, .ref a_GA, .int nc, .ref a_CA, .int sl, .ref a_MT, .ref a_LW, .int nw, .ref a_WK, .int pe, .int pv, .int pt, .int pu])), (a_S, .inl (cI, 163, .inl (bkS v IK (ms zo he go le hd gn la) (ms izo ihe igo ile ihd ign ila) (ms jzo jhe jgo jle jhd jgn jla)))), (a_K, .inl (cI, 326, .inl K)), (a_IK, .inl (cZ, 2, .inl IK))] H := by rw [← ew_8]; exact hP
        exact retWi () hx hb hr (rfl) hlocks dX7_back_27 hS (by simp [bkS, bkZ, c_1, (eq_true hv), hv1, eq_true c_2]) hP
    · skip
      have hv0 : ¬ v = 0 := by rw [hv]; decide
      have hl : lv_has ls 3 [(0, .ref o), (1, .int 1)] := by rw [hv] at hl; exact hl
      refine lv_aload_n hx hb dX7_back_16 rfl (lv_at hl 0 rfl) ?_
      refine va_get (D := G) (ci := 7) (v := .ref a_IK) (C := RX7) (T := TX7) (N := 38) hx hb hts inlX7 hown hK hP 0 rfl rfl 4 (by decide) (hts (.fieldLink RX7 16 "EarthBanksModel" "isKept" "[Z") k_6_5) (fun _ h9 => h9) rfl dX7_back_17 ?_
      refine lv_iload_n hx hb dX7_back_20 rfl (lv_at hl 1 rfl) ?_
      refine zaldN (j := 1) hx hb hK hP 3 1 rfl rfl (by omega) (by decide) dX7_back_21 ?_
      refine lv_if_ne (tgt := 28) hx hb dX7_back_22 (by decide) (fun c_9 => ?_) (fun c_9 => ?_)
      · skip
        refine lv_iconst (v := 0) hx hb dX7_back_28 (by decide) ?_
        refine lv_istore_n (lv' := [(2, .int 0), (0, .ref o), (1, .int 1)]) hx hb dX7_back_29 rfl hl (by decide) rfl (fun ls hl => ?_)
        suffices lp30 : ∀ zn k30 : Nat, 0 ≤ k30 → k30 ≤ 163 → 163 < k30 + zn → ∀ (H : Heap) (locs : List Loc), va_P G vwCl [(o, .inr (7, [.int 0, .long tr, .ref a_S, .ref a_K, .ref a_IK, .ref a_SV, .ref a_DR, .ref a_TX, .int td, .int nx, .int tk, .int pc, .int vl, .int fa, .int ff, .ref a_WY, .ref a_BE, .int bf, .int bm, .int bl, .ref a_MO, .ref a_DY, .ref a_PO, .ref a_HO, .ref a_WA, .int ng, .ref a_GA, .int nc, .ref a_CA, .int sl, .ref a_MT, .ref a_LW, .int nw, .ref a_WK, .int pe, .int pv, .int pt, .int pu])), (a_S, .inl (cI, 163, .inl (filS (fun k => K (163 + k)) (ms zo he go le hd gn la) k30))), (a_K, .inl (cI, 326, .inl K)), (a_IK, .inl (cZ, 2, .inl IK))] H → va_D A [(o, .inr (7, [.int 0, .long tr, .ref a_S, .ref a_K, .ref a_IK, .ref a_SV, .ref a_DR, .ref a_TX, .int td, .int nx, .int tk, .int pc, .int vl, .int fa, .int ff, .ref a_WY, .ref a_BE, .int bf, .int bm, .int bl, .ref a_MO, .ref a_DY, .ref a_PO, .ref a_HO, .ref a_WA, .int ng, .ref a_GA, .int nc, .ref a_CA, .int sl, .ref a_MT, .ref a_LW, .int nw, .ref a_WK, .int pe, .int pv, .int pt, .int pu])), (a_S, .inl (cI, 163, .inl (filS (fun k => K (163 + k)) (ms zo he go le hd gn la) k30))), (a_K, .inl (cI, 326, .inl K)), (a_IK, .inl (cZ, 2, .inl IK))] → va_S A s.heap H locs → ∀ ls : Array Slot, lv_has ls 3 [(0, .ref o), (1, .int 1), (2, .int (nI k30))] → W zp l ze (rmK 4) s zm args below meth zc H locs 0 0 (MQ below (va_Qi (S := Unit) (fun r _ => r = (if wiB v 0 1 then (if bkZ v IK then (-2) else bkS v IK 0 (cntS (isES izo igo) 48) (cntS (isES jzo jgo) 48)) else (-1))) (fun u t => va_P G vwCl ((fun _ => [(o, .inr (7, [.int 0, .long tr, .ref a_S, .ref a_K, .ref a_IK, .ref a_SV, .ref a_DR, .ref a_TX, .int td, .int nx, .int tk, .int pc, .int vl, .int fa, .int ff, .ref a_WY, .ref a_BE, .int bf, .int bm, .int bl, .ref a_MO, .ref a_DY, .ref a_PO, .ref a_HO, .ref a_WA, .int ng, .ref a_GA, .int nc, .ref a_CA, .int sl, .ref a_MT, .ref a_LW, .int nw, .ref a_WK, .int pe, .int pv, .int pt, .int pu])), (a_S, .inl (cI, 163, .inl (bkS v IK (ms zo he go le hd gn la) (ms izo ihe igo ile ihd ign ila) (ms jzo jhe jgo jle jhd jgn jla)))), (a_K, .inl (cI, 326, .inl K)), (a_IK, .inl (cZ, 2, .inl IK))]) u) t.heap) A) args s 0 0 A) (F0 zm 30 ls []) by
          have el_10 : (0 : Int32) = nI 0 := rfl
          have er_11 : (ms zo he go le hd gn la) = (filS (fun k => K (163 + k)) (ms zo he go le hd gn la) 0) := by rw [filS_0]
          exact lp30 (163 + 1 - 0) 0 (by omega) (by omega) (by omega)  H locs (by rw [← er_11]; exact hP) (by rw [← er_11]; exact hD) hS ls (lv_sub hl [1, 2, 0] (show ([(0, .ref o), (1, .int 1), (2, .int 0)] : List (Nat × Value)) = [(0, .ref o), (1, .int 1), (2, .int (nI 0))] by rw [← el_10]))
        intro zn
        induction zn with
        | zero => exact fun k30 h1 h2 h3 => absurd h3 (by omega)
        | succ zn ih30 =>
          intro k30 hlo30 hhi30 hn30  H locs hP hD hS ls hl
          refine lv_iload_n hx hb dX7_back_30 rfl (lv_at hl 2 rfl) ?_
          refine lv_sipush (v := 163) hx hb dX7_back_31 (by decide) ?_
          refine lv_icmp_ge (tgt := 61) hx hb dX7_back_34 (by decide) (fun c_12 => ?_) (fun c_12 => ?_)
          · skip
            have c_12 : 163 ≤ k30 := (nI_leI (a := 163) (b := k30) (by omega) (by omega)).mp c_12
            have hk9 : 163 = k30 := by omega
            subst hk9
            have hP := P_swap hP 1 (ms jzo jhe jgo jle jhd jgn jla) rfl (fun k h9 => (filS_in h9).trans (hK1 k h9))
            have hD := D_swap hD 1 (.inl (cI, 163, .inl (ms jzo jhe jgo jle jhd jgn jla))) rfl
            have hP : va_P G vwCl [(o, .inr (7, [.int 0, .long tr, .ref a_S, .ref a_K, .ref a_IK, .ref a_SV, .ref a_DR, .ref a_TX, .int td, .int nx, .int tk, .int pc, .int vl, .int fa, .int ff, .ref a_WY, .ref a_BE, .int bf, .int bm, .int bl, .ref a_MO, .ref a_DY, .ref a_PO, .ref a_HO, .ref a_WA, .int ng, .ref a_GA, .int nc, .ref a_CA, .int sl, .ref a_MT, .ref a_LW, .int nw, .ref a_WK, .int pe, .int pv, .int pt, .int pu])), (a_S, .inl (cI, 163, .inl (ms jzo jhe jgo jle jhd jgn jla))), (a_K, .inl (cI, 326, .inl K)), (a_IK, .inl (cZ, 2, .inl IK))] H := hP
            have hD : va_D A [(o, .inr (7, [.int 0, .long tr, .ref a_S, .ref a_K, .ref a_IK, .ref a_SV, .ref a_DR, .ref a_TX, .int td, .int nx, .int tk, .int pc, .int vl, .int fa, .int ff, .ref a_WY, .ref a_BE, .int bf, .int bm, .int bl, .ref a_MO, .ref a_DY, .ref a_PO, .ref a_HO, .ref a_WA, .int ng, .ref a_GA, .int nc, .ref a_CA, .int sl, .ref a_MT, .ref a_LW, .int nw, .ref a_WK, .int pe, .int pv, .int pt, .int pu])), (a_S, .inl (cI, 163, .inl (ms jzo jhe jgo jle jhd jgn jla))), (a_K, .inl (cI, 326, .inl K)), (a_IK, .inl (cZ, 2, .inl IK))] := hD
            refine lv_aload_n hx hb dX7_back_61 rfl (lv_at hl 0 rfl) ?_
            refine cRV (As := []) (rest := []) hx hb hml hown hts (c_X7_earth l G E cI cZ jzo jhe jgo jle jhd jgn jla o a_S [.int 0, .long tr, .ref a_S, .ref a_K, .ref a_IK, .ref a_SV, .ref a_DR, .ref a_TX, .int td, .int nx, .int tk, .int pc, .int vl, .int fa, .int ff, .ref a_WY, .ref a_BE, .int bf, .int bm, .int bl, .ref a_MO, .ref a_DY, .ref a_PO, .ref a_HO, .ref a_WA, .int ng, .ref a_GA, .int nc, .ref a_CA, .int sl, .ref a_MT, .ref a_LW, .int nw, .ref a_WK, .int pe, .int pv, .int pt, .int pu] rfl) k_15_21 cal_X7_earth ⟨Nat.le_of_ble_eq_true rfl, Nat.le_of_ble_eq_true rfl⟩ hE hlow hS hK [0, 1] rfl hP [0, 1] rfl 0 7 rfl rfl rfl hl.1 rfl (Nat.le_of_ble_eq_true rfl) dX7_back_62 ⟨Nat.zero_le _, Nat.zero_le _⟩ ?_
            have ew_13 : (ms jzo jhe jgo jle jhd jgn jla) = (bkS v IK (ms zo he go le hd gn la) (ms izo ihe igo ile ihd ign ila) (ms jzo jhe jgo jle jhd jgn jla)) := by simp [bkS, bkZ, c_1, (eq_true hv), hv0, c_9, c_12]
            have hP : va_P G vwCl [(o, .inr (7, [.int 0, .long tr, .ref a_S, .ref a_K, .ref a_IK, .ref a_SV, .ref a_DR, .ref a_TX, .int td, .int nx, .int tk, .int pc, .int vl, .int fa, .int ff, .ref a_WY, .ref a_BE, .int bf, .int bm, .int bl, .ref a_MO, .ref a_DY, .ref a_PO, .ref a_HO, .ref a_WA, .int ng, .ref a_GA, .int nc, .ref a_CA, .int sl, .ref a_MT, .ref a_LW, .int nw, .ref a_WK, .int pe, .int pv, .int pt, .int pu])), (a_S, .inl (cI, 163, .inl (bkS v IK (ms zo he go le hd gn la) (ms izo ihe igo ile ihd ign ila) (ms jzo jhe jgo jle jhd jgn jla)))), (a_K, .inl (cI, 326, .inl K)), (a_IK, .inl (cZ, 2, .inl IK))] H := by rw [← ew_13]; exact hP
            exact retWi () hx hb hr (rfl) hlocks dX7_back_65 hS (by simp [bkS, bkZ, c_1, (eq_true hv), hv0, c_9, c_12]) hP
          · skip
            have c_12 : ¬ 163 ≤ k30 := fun h9 => c_12 ((nI_leI (a := 163) (b := k30) (by omega) (by omega)).mpr h9)
            refine lv_aload_n hx hb dX7_back_37 rfl (lv_at hl 0 rfl) ?_
            refine va_get (D := G) (ci := 7) (v := .ref a_S) (C := RX7) (T := TX7) (N := 38) hx hb hts inlX7 hown hK hP 0 rfl rfl 2 (by decide) (hts (.fieldLink RX7 7 "EarthBanksModel" "s" "[I") k_6_2) (fun _ h9 => h9) rfl dX7_back_38 ?_
            refine lv_iload_n hx hb dX7_back_41 rfl (lv_at hl 2 rfl) ?_
            refine lv_aload_n hx hb dX7_back_42 rfl (lv_at hl 0 rfl) ?_
            refine va_get (D := G) (ci := 7) (v := .ref a_K) (C := RX7) (T := TX7) (N := 38) hx hb hts inlX7 hown hK hP 0 rfl rfl 3 (by decide) (hts (.fieldLink RX7 13 "EarthBanksModel" "kept" "[I") k_6_3) (fun _ h9 => h9) rfl dX7_back_43 ?_
            refine lv_sipush (v := 163) hx hb dX7_back_46 (by decide) ?_
            refine lv_iload_n hx hb dX7_back_49 rfl (lv_at hl 1 rfl) ?_
            refine lv_imul hx hb dX7_back_50 ?_
            refine top_eq (y := nI (163 * 1)) (pk_mul _ _) ?_
            refine lv_iload_n hx hb dX7_back_51 rfl (lv_at hl 2 rfl) ?_
            refine lv_iadd hx hb dX7_back_52 ?_
            refine top_eq (y := nI ((163 * 1) + k30)) (nI_add _ _) ?_
            refine ialdN (j := ((163 * 1) + k30)) hx hb hK hP 2 0 rfl rfl (by omega) (by decide) dX7_back_53 ?_
            refine top_eq (y := (K (163 + k30))) (by simp) ?_
            refine iastN (j := k30) hx hb hK hP hD hS 1 0 rfl rfl (by omega) (by decide) dX7_back_54 (fun H locs hP hD hS => ?_)
            have hP : va_P G vwCl [(o, .inr (7, [.int 0, .long tr, .ref a_S, .ref a_K, .ref a_IK, .ref a_SV, .ref a_DR, .ref a_TX, .int td, .int nx, .int tk, .int pc, .int vl, .int fa, .int ff, .ref a_WY, .ref a_BE, .int bf, .int bm, .int bl, .ref a_MO, .ref a_DY, .ref a_PO, .ref a_HO, .ref a_WA, .int ng, .ref a_GA, .int nc, .ref a_CA, .int sl, .ref a_MT, .ref a_LW, .int nw, .ref a_WK, .int pe, .int pv, .int pt, .int pu])), (a_S, .inl (cI, 163, .inl (upd (filS (fun k => K (163 + k)) (ms zo he go le hd gn la) k30) k30 (K (163 + k30))))), (a_K, .inl (cI, 326, .inl K)), (a_IK, .inl (cZ, 2, .inl IK))] H := hP
            have hD : va_D A [(o, .inr (7, [.int 0, .long tr, .ref a_S, .ref a_K, .ref a_IK, .ref a_SV, .ref a_DR, .ref a_TX, .int td, .int nx, .int tk, .int pc, .int vl, .int fa, .int ff, .ref a_WY, .ref a_BE, .int bf, .int bm, .int bl, .ref a_MO, .ref a_DY, .ref a_PO, .ref a_HO, .ref a_WA, .int ng, .ref a_GA, .int nc, .ref a_CA, .int sl, .ref a_MT, .ref a_LW, .int nw, .ref a_WK, .int pe, .int pv, .int pt, .int pu])), (a_S, .inl (cI, 163, .inl (upd (filS (fun k => K (163 + k)) (ms zo he go le hd gn la) k30) k30 (K (163 + k30))))), (a_K, .inl (cI, 326, .inl K)), (a_IK, .inl (cZ, 2, .inl IK))] := hD
            refine lv_iinc (v := nI (k30 + 1)) (lv' := [(2, .int (nI (k30 + 1))), (0, .ref o), (1, .int 1)]) hx hb dX7_back_55 hl (k := 2) rfl (nI_add _ _) (by decide) rfl (fun ls hl => ?_)
            refine lv_goto (tgt := 30) hx hb dX7_back_58 (by decide) ?_
            have er_14 : (upd (filS (fun k => K (163 + k)) (ms zo he go le hd gn la) k30) k30 (K (163 + k30))) = (filS (fun k => K (163 + k)) (ms zo he go le hd gn la) (k30 + 1)) := by rw [filS_s _ _ _ _ rfl]
            exact ih30 (k30 + 1) (by omega) (by omega) (by omega)  H locs (by rw [← er_14]; exact hP) (by rw [← er_14]; exact hD) hS ls (lv_sub hl [1, 2, 0] rfl)
      · skip
        refine lv_bipush (v := (-2)) hx hb dX7_back_25 (by decide) ?_
        have ew_15 : (ms zo he go le hd gn la) = (bkS v IK (ms zo he go le hd gn la) (ms izo ihe igo ile ihd ign ila) (ms jzo jhe jgo jle jhd jgn jla)) := by simp [bkS, bkZ, c_1, (eq_true hv), hv0, eq_true c_9]
        have hP : va_P G vwCl [(o, .inr (7, [.int 0, .long tr, .ref a_S, .ref a_K, .ref a_IK, .ref a_SV, .ref a_DR, .ref a_TX, .int td, .int nx, .int tk, .int pc, .int vl, .int fa, .int ff, .ref a_WY, .ref a_BE, .int bf, .int bm, .int bl, .ref a_MO, .ref a_DY, .ref a_PO, .ref a_HO, .ref a_WA, .int ng, .ref a_GA, .int nc, .ref a_CA, .int sl, .ref a_MT, .ref a_LW, .int nw, .ref a_WK, .int pe, .int pv, .int pt, .int pu])), (a_S, .inl (cI, 163, .inl (bkS v IK (ms zo he go le hd gn la) (ms izo ihe igo ile ihd ign ila) (ms jzo jhe jgo jle jhd jgn jla)))), (a_K, .inl (cI, 326, .inl K)), (a_IK, .inl (cZ, 2, .inl IK))] H := by rw [← ew_15]; exact hP
        exact retWi () hx hb hr (rfl) hlocks dX7_back_27 hS (by simp [bkS, bkZ, c_1, (eq_true hv), hv0, eq_true c_9]) hP
  · skip
    have c_1 : (wiB v 0 1) = false := bI_f c_1
    obtain ⟨hv0, hv1⟩ := wiB_01f c_1
    refine lv_iconst (v := (-1)) hx hb dX7_back_14 (by decide) ?_
    have ew_16 : (ms zo he go le hd gn la) = (bkS v IK (ms zo he go le hd gn la) (ms izo ihe igo ile ihd ign ila) (ms jzo jhe jgo jle jhd jgn jla)) := by simp [bkS, bkZ, c_1, hv0, hv1]
    have hP : va_P G vwCl [(o, .inr (7, [.int 0, .long tr, .ref a_S, .ref a_K, .ref a_IK, .ref a_SV, .ref a_DR, .ref a_TX, .int td, .int nx, .int tk, .int pc, .int vl, .int fa, .int ff, .ref a_WY, .ref a_BE, .int bf, .int bm, .int bl, .ref a_MO, .ref a_DY, .ref a_PO, .ref a_HO, .ref a_WA, .int ng, .ref a_GA, .int nc, .ref a_CA, .int sl, .ref a_MT, .ref a_LW, .int nw, .ref a_WK, .int pe, .int pv, .int pt, .int pu])), (a_S, .inl (cI, 163, .inl (bkS v IK (ms zo he go le hd gn la) (ms izo ihe igo ile ihd ign ila) (ms jzo jhe jgo jle jhd jgn jla)))), (a_K, .inl (cI, 326, .inl K)), (a_IK, .inl (cZ, 2, .inl IK))] H := by rw [← ew_16]; exact hP
    exact retWi () hx hb hr (rfl) hlocks dX7_back_15 hS (by simp [bkS, bkZ, c_1, hv0, hv1]) hP
