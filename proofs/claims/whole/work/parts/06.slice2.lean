theorem cal_J7_fill_53178 : calS yJ7_fill_53178 cJ7_fill_53178 4 none 2 := ⟨k_4_1, k_4_0, k_3_23, by decide +kernel⟩
set_option maxHeartbeats 4000000 in
set_option maxRecDepth 100000 in
theorem c_J7_fill_53178 (l : Launch) (G : va_G) (E : EvT) (cI cZ : ClassId) (v : Int32) (p1 : Nat) (N : Nat) (f_p1 : Nat → Int32) (hN : N < 2147483648) : cWv (S := Unit) l G E yJ7_fill_53178 cJ7_fill_53178 4 none 1 [(cI, .int), (cZ, .boolean)] [.ref p1, .int v] [(p1, .inl (cI, N, .inl f_p1))] (fun _ => True) (fun _ => [(p1, .inl (cI, N, .inl (fun _ => v)))]) := by
  refine mkWv (by decide) (Nat.le_of_ble_eq_true rfl) ?_
  intro zp ze s zm args below meth zc hx hb hr hml hown hts hlocks hE hK A hA hlow H locs hP hD hS ls hl
  have hl : lv_has ls 4 [(0, .ref p1), (1, .int v)] := hl
  refine lv_iconst (v := 0) hx hb dJ7_fill_53178_0 (by decide) ?_
  refine lv_istore_n (lv' := [(2, .int 0), (0, .ref p1), (1, .int v)]) hx hb dJ7_fill_53178_1 rfl hl (by decide) rfl (fun ls hl => ?_)
  refine lv_aload_n hx hb dJ7_fill_53178_2 rfl (lv_at hl 1 rfl) ?_
  refine va_alen (v := nI N) hx hb hK hP 0 0 rfl rfl rfl dJ7_fill_53178_3 ?_
  refine lv_istore_n (lv' := [(3, .int (nI N)), (2, .int 0), (0, .ref p1), (1, .int v)]) hx hb dJ7_fill_53178_4 rfl hl (by decide) rfl (fun ls hl => ?_)
  suffices lp5 : ∀ zn k5 : Nat, 0 ≤ k5 → k5 ≤ N → N < k5 + zn → ∀ (H : Heap) (locs : List Loc), va_P G vwCl [(p1, .inl (cI, N, .inl (filS (fun _ => v) f_p1 k5)))] H → va_D A [(p1, .inl (cI, N, .inl (filS (fun _ => v) f_p1 k5)))] → va_S A s.heap H locs → ∀ ls : Array Slot, lv_has ls 4 [(0, .ref p1), (1, .int v), (2, .int (nI k5)), (3, .int (nI N))] → W zp l ze (rmK 1) s zm args below meth zc H locs 0 0 (MQ below (va_Qv (S := Unit) (fun _ => True) (fun u t => va_P G vwCl ((fun _ => [(p1, .inl (cI, N, .inl (fun _ => v)))]) u) t.heap) A) args s 0 0 A) (F0 zm 5 ls []) by
    have el_1 : (0 : Int32) = nI 0 := rfl
    have er_2 : f_p1 = (filS (fun _ => v) f_p1 0) := (filS_0 _ _).symm
    exact lp5 (N + 1 - 0) 0 (by omega) (by omega) (by omega)  H locs (by rw [← er_2]; exact hP) (by rw [← er_2]; exact hD) hS ls (lv_sub hl [2, 3, 1, 0] (show ([(0, .ref p1), (1, .int v), (2, .int 0), (3, .int (nI N))] : List (Nat × Value)) = [(0, .ref p1), (1, .int v), (2, .int (nI 0)), (3, .int (nI N))] by rw [← el_1]))
  intro zn
  induction zn with
  | zero => exact fun k5 h1 h2 h3 => absurd h3 (by omega)
  | succ zn ih5 =>
    intro k5 hlo5 hhi5 hn5  H locs hP hD hS ls hl
    refine lv_iload_n hx hb dJ7_fill_53178_5 rfl (lv_at hl 2 rfl) ?_
    refine lv_iload_n hx hb dJ7_fill_53178_6 rfl (lv_at hl 3 rfl) ?_
    refine lv_icmp_ge (tgt := 20) hx hb dJ7_fill_53178_7 (by decide) (fun c_3 => ?_) (fun c_3 => ?_)
    · skip
      have c_3 : N ≤ k5 := (nI_leI (a := N) (b := k5) (by omega) (by omega)).mp c_3
      have hk9 : N = k5 := by omega
      subst hk9
      have hP := P_swap hP 0 (fun _ => v) rfl (fun k h9 => filS_in h9)
      have hP : va_P G vwCl [(p1, .inl (cI, N, .inl (fun _ => v)))] H := hP
      exact retWv () hx hb hr hlocks dJ7_fill_53178_20 hS (trivial) hP
    · skip
      have c_3 : ¬ N ≤ k5 := fun h9 => c_3 ((nI_leI (a := N) (b := k5) (by omega) (by omega)).mpr h9)
      refine lv_aload_n hx hb dJ7_fill_53178_10 rfl (lv_at hl 0 rfl) ?_
      refine lv_iload_n hx hb dJ7_fill_53178_11 rfl (lv_at hl 2 rfl) ?_
      refine lv_iload_n hx hb dJ7_fill_53178_12 rfl (lv_at hl 1 rfl) ?_
      refine iastN (j := k5) hx hb hK hP hD hS 0 0 rfl rfl (by omega) (by omega) dJ7_fill_53178_13 (fun H locs hP hD hS => ?_)
      have hP : va_P G vwCl [(p1, .inl (cI, N, .inl (upd (filS (fun _ => v) f_p1 k5) k5 v)))] H := hP
      have hD : va_D A [(p1, .inl (cI, N, .inl (upd (filS (fun _ => v) f_p1 k5) k5 v)))] := hD
      refine lv_iinc (v := nI (k5 + 1)) (lv' := [(2, .int (nI (k5 + 1))), (0, .ref p1), (1, .int v), (3, .int (nI N))]) hx hb dJ7_fill_53178_14 hl (k := 2) rfl (nI_add _ _) (by decide) rfl (fun ls hl => ?_)
      refine lv_goto (tgt := 5) hx hb dJ7_fill_53178_17 (by decide) ?_
      have er_4 : (upd (filS (fun _ => v) f_p1 k5) k5 v) = (filS (fun _ => v) f_p1 (k5 + 1)) := filS_s _ _ _ _ rfl
      exact ih5 (k5 + 1) (by omega) (by omega) (by omega)  H locs (by rw [← er_4]; exact hP) (by rw [← er_4]; exact hD) hS ls (lv_sub hl [1, 2, 0, 3] rfl)
theorem cal_X2_goneCells : calV yX2_goneCells cX2_goneCells 3 (some .int) 0 := ⟨k_41_20, k_1_19, k_41_18, k_41_19, by decide +kernel⟩
set_option maxHeartbeats 4000000 in
set_option maxRecDepth 100000 in
theorem c_X2_goneCells (l : Launch) (G : va_G) (E : EvT) (cI cZ : ClassId) (o : Nat) (a_go : Nat) (fs_o : List Value) (h_o_go : fs_o[2]? = some (.ref a_go)) (go : Nat → Int32) : cR l G E yX2_goneCells cX2_goneCells 3 (some .int) 1 [(cI, .int), (cZ, .boolean)] [.ref o] [(o, .inr (2, fs_o)), (a_go, .inl (cI, 48, .inl go))] (sumS go 48) := by
  refine mkR (by decide) (Nat.le_of_ble_eq_true rfl) ?_
  intro zp ze s zm args below meth zc hx hb hr hml hown hts hlocks hE hP hK ls hl
  have hS : va_S (fun _ => False) s.heap s.heap [] := va_S.rf
  have hlow : ∀ q : Nat, (fun _ : Nat => False) q → E.1 ≤ q := fun _ h => h.elim
  have hl : lv_has ls 3 [(0, .ref o)] := hl
  refine lv_iconst (v := 0) hx hb dX2_goneCells_0 (by decide) ?_
  refine lv_istore_n (lv' := [(1, .int 0), (0, .ref o)]) hx hb dX2_goneCells_1 rfl hl (by decide) rfl (fun ls hl => ?_)
  refine lv_iconst (v := 0) hx hb dX2_goneCells_2 (by decide) ?_
  refine lv_istore_n (lv' := [(2, .int 0), (1, .int 0), (0, .ref o)]) hx hb dX2_goneCells_3 rfl hl (by decide) rfl (fun ls hl => ?_)
  suffices lp4 : ∀ zn k4 : Nat, 0 ≤ k4 → k4 ≤ 48 → 48 < k4 + zn → ∀ ls : Array Slot, lv_has ls 3 [(0, .ref o), (1, .int (sumS go k4)), (2, .int (nI k4))] → W zp l ze (rmK 1) s zm args below meth zc s.heap [] 0 0 (MQ below (vp_Si (fun zx => zx = sumS go 48)) args s 0 0 (fun _ => False)) (F0 zm 4 ls []) by
    have el_1 : (0 : Int32) = sumS go 0 := by simp [sumS, sumS, bI]
    have el_2 : (0 : Int32) = nI 0 := rfl
    exact lp4 (48 + 1 - 0) 0 (by omega) (by omega) (by omega)  ls (lv_sub hl [2, 1, 0] (show ([(0, .ref o), (1, .int 0), (2, .int 0)] : List (Nat × Value)) = [(0, .ref o), (1, .int (sumS go 0)), (2, .int (nI 0))] by rw [← el_1, ← el_2]))
  intro zn
  induction zn with
  | zero => exact fun k4 h1 h2 h3 => absurd h3 (by omega)
  | succ zn ih4 =>
    intro k4 hlo4 hhi4 hn4  ls hl
    refine lv_iload_n hx hb dX2_goneCells_4 rfl (lv_at hl 2 rfl) ?_
    refine lv_bipush (v := 48) hx hb dX2_goneCells_5 (by decide) ?_
    refine lv_icmp_ge (tgt := 25) hx hb dX2_goneCells_7 (by decide) (fun c_3 => ?_) (fun c_3 => ?_)
    · skip
      have c_3 : 48 ≤ k4 := (nI_leI (a := 48) (b := k4) (by omega) (by omega)).mp c_3
      have hk9 : 48 = k4 := by omega
      subst hk9
      refine lv_iload_n hx hb dX2_goneCells_25 rfl (lv_at hl 1 rfl) ?_
      exact retR hx hb hr (rfl) hlocks dX2_goneCells_26 (rfl)
    · skip
      have c_3 : ¬ 48 ≤ k4 := fun h9 => c_3 ((nI_leI (a := 48) (b := k4) (by omega) (by omega)).mpr h9)
      refine lv_iload_n hx hb dX2_goneCells_10 rfl (lv_at hl 1 rfl) ?_
      refine lv_aload_n hx hb dX2_goneCells_11 rfl (lv_at hl 0 rfl) ?_
      refine va_get (D := G) (ci := 2) (v := .ref a_go) (C := RX2) (T := TX2) (N := 9) hx hb hts inlX2 hown hK hP 0 rfl rfl 2 (by decide) (hts (.fieldLink RX2 18 "EarthBanks$Slice" "gone" "[I") k_3_11) (fun _ h9 => h9) h_o_go dX2_goneCells_12 ?_
      refine lv_iload_n hx hb dX2_goneCells_15 rfl (lv_at hl 2 rfl) ?_
      refine ialdN (j := k4) hx hb hK hP 1 0 rfl rfl (by omega) (by decide) dX2_goneCells_16 ?_
      refine lv_iadd hx hb dX2_goneCells_17 ?_
      refine lv_istore_n (lv' := [(1, .int ((sumS go k4) + (go k4))), (0, .ref o), (2, .int (nI k4))]) hx hb dX2_goneCells_18 rfl hl (by decide) rfl (fun ls hl => ?_)
      refine lv_iinc (v := nI (k4 + 1)) (lv' := [(2, .int (nI (k4 + 1))), (1, .int ((sumS go k4) + (go k4))), (0, .ref o)]) hx hb dX2_goneCells_19 hl (k := 2) rfl (nI_add _ _) (by decide) rfl (fun ls hl => ?_)
      refine lv_goto (tgt := 4) hx hb dX2_goneCells_22 (by decide) ?_
      have el_4 : (((sumS go k4) + (go k4)) : Int32) = sumS go (k4 + 1) := by simp [sumS, sumS, bI, c_3]
      exact ih4 (k4 + 1) (by omega) (by omega) (by omega)  ls (lv_sub hl [2, 1, 0] (show ([(0, .ref o), (1, .int ((sumS go k4) + (go k4))), (2, .int (nI (k4 + 1)))] : List (Nat × Value)) = [(0, .ref o), (1, .int (sumS go (k4 + 1))), (2, .int (nI (k4 + 1)))] by rw [← el_4]))
theorem cal_X2_dropHeads : calV yX2_dropHeads cX2_dropHeads 3 (some .int) 0 := ⟨k_24_6, k_1_19, k_24_4, k_24_5, by decide +kernel⟩
set_option maxHeartbeats 4000000 in
set_option maxRecDepth 100000 in
theorem c_X2_dropHeads (l : Launch) (G : va_G) (E : EvT) (cI cZ : ClassId) (o : Nat) (a_he : Nat) (fs_o : List Value) (h_o_he : fs_o[1]? = some (.ref a_he)) (he : Nat → Int32) : cWi (S := Unit) l G E yX2_dropHeads cX2_dropHeads 3 (some .int) 1 [(cI, .int), (cZ, .boolean)] [.ref o] [(o, .inr (2, fs_o)), (a_he, .inl (cI, 48, .inl he))] (fun r _ => r = cntS (fun p => !decide (he p ≤ 0)) 48) (fun _ => [(o, .inr (2, fs_o)), (a_he, .inl (cI, 48, .inl (fun _ => 0)))]) := by
  refine mkWi (by decide) (Nat.le_of_ble_eq_true rfl) ?_
  intro zp ze s zm args below meth zc hx hb hr hml hown hts hlocks hE hK A hA hlow H locs hP hD hS ls hl
  have hl : lv_has ls 3 [(0, .ref o)] := hl
  refine lv_iconst (v := 0) hx hb dX2_dropHeads_0 (by decide) ?_
  refine lv_istore_n (lv' := [(1, .int 0), (0, .ref o)]) hx hb dX2_dropHeads_1 rfl hl (by decide) rfl (fun ls hl => ?_)
  refine lv_iconst (v := 0) hx hb dX2_dropHeads_2 (by decide) ?_
  refine lv_istore_n (lv' := [(2, .int 0), (1, .int 0), (0, .ref o)]) hx hb dX2_dropHeads_3 rfl hl (by decide) rfl (fun ls hl => ?_)
  suffices lp4 : ∀ zn k4 : Nat, 0 ≤ k4 → k4 ≤ 48 → 48 < k4 + zn → ∀ (H : Heap) (locs : List Loc), va_P G vwCl [(o, .inr (2, fs_o)), (a_he, .inl (cI, 48, .inl (filS (fun _ => 0) he k4)))] H → va_D A [(o, .inr (2, fs_o)), (a_he, .inl (cI, 48, .inl (filS (fun _ => 0) he k4)))] → va_S A s.heap H locs → ∀ ls : Array Slot, lv_has ls 3 [(0, .ref o), (1, .int (cntS (fun p => !decide (he p ≤ 0)) k4)), (2, .int (nI k4))] → W zp l ze (rmK 1) s zm args below meth zc H locs 0 0 (MQ below (va_Qi (S := Unit) (fun r _ => r = cntS (fun p => !decide (he p ≤ 0)) 48) (fun u t => va_P G vwCl ((fun _ => [(o, .inr (2, fs_o)), (a_he, .inl (cI, 48, .inl (fun _ => 0)))]) u) t.heap) A) args s 0 0 A) (F0 zm 4 ls []) by
    have el_1 : (0 : Int32) = cntS (fun p => !decide (he p ≤ 0)) 0 := by simp [cntS, cntS, bI]
    have el_2 : (0 : Int32) = nI 0 := rfl
    have er_3 : he = (filS (fun _ => 0) he 0) := (filS_0 _ _).symm
    exact lp4 (48 + 1 - 0) 0 (by omega) (by omega) (by omega)  H locs (by rw [← er_3]; exact hP) (by rw [← er_3]; exact hD) hS ls (lv_sub hl [2, 1, 0] (show ([(0, .ref o), (1, .int 0), (2, .int 0)] : List (Nat × Value)) = [(0, .ref o), (1, .int (cntS (fun p => !decide (he p ≤ 0)) 0)), (2, .int (nI 0))] by rw [← el_1, ← el_2]))
  intro zn
  induction zn with
  | zero => exact fun k4 h1 h2 h3 => absurd h3 (by omega)
  | succ zn ih4 =>
    intro k4 hlo4 hhi4 hn4  H locs hP hD hS ls hl
    refine lv_iload_n hx hb dX2_dropHeads_4 rfl (lv_at hl 2 rfl) ?_
    refine lv_bipush (v := 48) hx hb dX2_dropHeads_5 (by decide) ?_
    refine lv_icmp_ge (tgt := 35) hx hb dX2_dropHeads_7 (by decide) (fun c_4 => ?_) (fun c_4 => ?_)
    · skip
      have c_4 : 48 ≤ k4 := (nI_leI (a := 48) (b := k4) (by omega) (by omega)).mp c_4
      have hk9 : 48 = k4 := by omega
      subst hk9
      refine lv_iload_n hx hb dX2_dropHeads_35 rfl (lv_at hl 1 rfl) ?_
      have hP := P_swap hP 1 (fun _ => 0) rfl (fun k h9 => filS_in h9)
      have hP : va_P G vwCl [(o, .inr (2, fs_o)), (a_he, .inl (cI, 48, .inl (fun _ => 0)))] H := hP
      exact retWi () hx hb hr (rfl) hlocks dX2_dropHeads_36 hS (rfl) hP
    · skip
      have c_4 : ¬ 48 ≤ k4 := fun h9 => c_4 ((nI_leI (a := 48) (b := k4) (by omega) (by omega)).mpr h9)
      refine lv_aload_n hx hb dX2_dropHeads_10 rfl (lv_at hl 0 rfl) ?_
      refine va_get (D := G) (ci := 2) (v := .ref a_he) (C := RX2) (T := TX2) (N := 9) hx hb hts inlX2 hown hK hP 0 rfl rfl 1 (by decide) (hts (.fieldLink RX2 15 "EarthBanks$Slice" "heads" "[I") k_3_10) (fun _ h9 => h9) h_o_he dX2_dropHeads_11 ?_
      refine lv_iload_n hx hb dX2_dropHeads_14 rfl (lv_at hl 2 rfl) ?_
      refine ialdN (j := k4) hx hb hK hP 1 0 rfl rfl (by omega) (by decide) dX2_dropHeads_15 ?_
      refine top_eq (y := (he k4)) (filS_out (Nat.le_refl _)) ?_
      refine lv_if_le (tgt := 22) hx hb dX2_dropHeads_16 (by decide) (fun c_5 => ?_) (fun c_5 => ?_)
      · skip
        refine lv_aload_n hx hb dX2_dropHeads_22 rfl (lv_at hl 0 rfl) ?_
        refine va_get (D := G) (ci := 2) (v := .ref a_he) (C := RX2) (T := TX2) (N := 9) hx hb hts inlX2 hown hK hP 0 rfl rfl 1 (by decide) (hts (.fieldLink RX2 15 "EarthBanks$Slice" "heads" "[I") k_3_10) (fun _ h9 => h9) h_o_he dX2_dropHeads_23 ?_
        refine lv_iload_n hx hb dX2_dropHeads_26 rfl (lv_at hl 2 rfl) ?_
        refine lv_iconst (v := 0) hx hb dX2_dropHeads_27 (by decide) ?_
        refine iastN (j := k4) hx hb hK hP hD hS 1 0 rfl rfl (by omega) (by decide) dX2_dropHeads_28 (fun H locs hP hD hS => ?_)
        have hP : va_P G vwCl [(o, .inr (2, fs_o)), (a_he, .inl (cI, 48, .inl (upd (filS (fun _ => 0) he k4) k4 0)))] H := hP
        have hD : va_D A [(o, .inr (2, fs_o)), (a_he, .inl (cI, 48, .inl (upd (filS (fun _ => 0) he k4) k4 0)))] := hD
        refine lv_iinc (v := nI (k4 + 1)) (lv' := [(2, .int (nI (k4 + 1))), (0, .ref o), (1, .int (cntS (fun p => !decide (he p ≤ 0)) k4))]) hx hb dX2_dropHeads_29 hl (k := 2) rfl (nI_add _ _) (by decide) rfl (fun ls hl => ?_)
        refine lv_goto (tgt := 4) hx hb dX2_dropHeads_32 (by decide) ?_
        have el_6 : (cntS (fun p => !decide (he p ≤ 0)) k4 : Int32) = cntS (fun p => !decide (he p ≤ 0)) (k4 + 1) := by simp [cntS, cntS, bI, c_4, c_5]
        have er_7 : (upd (filS (fun _ => 0) he k4) k4 0) = (filS (fun _ => 0) he (k4 + 1)) := filS_s _ _ _ _ rfl
        exact ih4 (k4 + 1) (by omega) (by omega) (by omega)  H locs (by rw [← er_7]; exact hP) (by rw [← er_7]; exact hD) hS ls (lv_sub hl [1, 2, 0] (show ([(0, .ref o), (1, .int (cntS (fun p => !decide (he p ≤ 0)) k4)), (2, .int (nI (k4 + 1)))] : List (Nat × Value)) = [(0, .ref o), (1, .int (cntS (fun p => !decide (he p ≤ 0)) (k4 + 1))), (2, .int (nI (k4 + 1)))] by rw [← el_6]))
      · skip
        refine lv_iinc (v := (cntS (fun p => !decide (he p ≤ 0)) k4 + 1)) (lv' := [(1, .int (cntS (fun p => !decide (he p ≤ 0)) k4 + 1)), (0, .ref o), (2, .int (nI k4))]) hx hb dX2_dropHeads_19 hl (k := 1) rfl (rfl) (by decide) rfl (fun ls hl => ?_)
        refine lv_aload_n hx hb dX2_dropHeads_22 rfl (lv_at hl 1 rfl) ?_
        refine va_get (D := G) (ci := 2) (v := .ref a_he) (C := RX2) (T := TX2) (N := 9) hx hb hts inlX2 hown hK hP 0 rfl rfl 1 (by decide) (hts (.fieldLink RX2 15 "EarthBanks$Slice" "heads" "[I") k_3_10) (fun _ h9 => h9) h_o_he dX2_dropHeads_23 ?_
        refine lv_iload_n hx hb dX2_dropHeads_26 rfl (lv_at hl 2 rfl) ?_
        refine lv_iconst (v := 0) hx hb dX2_dropHeads_27 (by decide) ?_
        refine iastN (j := k4) hx hb hK hP hD hS 1 0 rfl rfl (by omega) (by decide) dX2_dropHeads_28 (fun H locs hP hD hS => ?_)
        have hP : va_P G vwCl [(o, .inr (2, fs_o)), (a_he, .inl (cI, 48, .inl (upd (filS (fun _ => 0) he k4) k4 0)))] H := hP
        have hD : va_D A [(o, .inr (2, fs_o)), (a_he, .inl (cI, 48, .inl (upd (filS (fun _ => 0) he k4) k4 0)))] := hD
        refine lv_iinc (v := nI (k4 + 1)) (lv' := [(2, .int (nI (k4 + 1))), (1, .int (cntS (fun p => !decide (he p ≤ 0)) k4 + 1)), (0, .ref o)]) hx hb dX2_dropHeads_29 hl (k := 2) rfl (nI_add _ _) (by decide) rfl (fun ls hl => ?_)
        refine lv_goto (tgt := 4) hx hb dX2_dropHeads_32 (by decide) ?_
        have el_8 : ((cntS (fun p => !decide (he p ≤ 0)) k4 + 1) : Int32) = cntS (fun p => !decide (he p ≤ 0)) (k4 + 1) := by simp [cntS, cntS, bI, c_4, c_5]
        have er_9 : (upd (filS (fun _ => 0) he k4) k4 0) = (filS (fun _ => 0) he (k4 + 1)) := filS_s _ _ _ _ rfl
        exact ih4 (k4 + 1) (by omega) (by omega) (by omega)  H locs (by rw [← er_9]; exact hP) (by rw [← er_9]; exact hD) hS ls (lv_sub hl [2, 1, 0] (show ([(0, .ref o), (1, .int (cntS (fun p => !decide (he p ≤ 0)) k4 + 1)), (2, .int (nI (k4 + 1)))] : List (Nat × Value)) = [(0, .ref o), (1, .int (cntS (fun p => !decide (he p ≤ 0)) (k4 + 1))), (2, .int (nI (k4 + 1)))] by rw [← el_8]))
theorem cal_X2_makeBlank : calV yX2_makeBlank cX2_makeBlank 1 none 0 := ⟨k_3_21, k_1_19, k_3_19, k_3_20, by decide +kernel⟩
set_option maxHeartbeats 4000000 in
set_option maxRecDepth 100000 in
theorem c_X2_makeBlank (l : Launch) (G : va_G) (E : EvT) (cI cZ : ClassId) (o : Nat) (a_zo : Nat) (a_he : Nat) (a_go : Nat) (a_le : Nat) (a_hd : Nat) (a_gn : Nat) (fs_o : List Value) (h_o_zo : fs_o[0]? = some (.ref a_zo)) (h_o_he : fs_o[1]? = some (.ref a_he)) (h_o_go : fs_o[2]? = some (.ref a_go)) (h_o_le : fs_o[3]? = some (.ref a_le)) (h_o_hd : fs_o[4]? = some (.ref a_hd)) (h_o_gn : fs_o[5]? = some (.ref a_gn)) (zo : Nat → Int32) (he : Nat → Int32) (go : Nat → Int32) (le : Nat → Int32) (hd : Nat → Int32) (gn : Nat → Int32) : cWv (S := Unit) l G E yX2_makeBlank cX2_makeBlank 1 none 2 [(cI, .int), (cZ, .boolean)] [.ref o] [(o, .inr (2, fs_o)), (a_zo, .inl (cI, 48, .inl zo)), (a_he, .inl (cI, 48, .inl he)), (a_go, .inl (cI, 48, .inl go)), (a_le, .inl (cI, 6, .inl le)), (a_hd, .inl (cI, 6, .inl hd)), (a_gn, .inl (cI, 6, .inl gn))] (fun _ => True) (fun _ => [(o, .inr (2, fs_o)), (a_zo, .inl (cI, 48, .inl (fun _ => (-1)))), (a_he, .inl (cI, 48, .inl (fun _ => 0))), (a_go, .inl (cI, 48, .inl (fun _ => 0))), (a_le, .inl (cI, 6, .inl (fun _ => 10))), (a_hd, .inl (cI, 6, .inl (fun _ => 10))), (a_gn, .inl (cI, 6, .inl (fun _ => 10)))]) := by
  refine mkWv (by decide) (Nat.le_of_ble_eq_true rfl) ?_
  intro zp ze s zm args below meth zc hx hb hr hml hown hts hlocks hE hK A hA hlow H locs hP hD hS ls hl
  have hl : lv_has ls 1 [(0, .ref o)] := hl
  refine lv_aload_n hx hb dX2_makeBlank_0 rfl (lv_at hl 0 rfl) ?_
  refine va_get (D := G) (ci := 2) (v := .ref a_zo) (C := RX2) (T := TX2) (N := 9) hx hb hts inlX2 hown hK hP 0 rfl rfl 0 (by decide) (hts (.fieldLink RX2 9 "EarthBanks$Slice" "zones" "[I") k_3_9) (fun _ h9 => h9) h_o_zo dX2_makeBlank_1 ?_
  refine lv_iconst (v := (-1)) hx hb dX2_makeBlank_4 (by decide) ?_
  refine cWSv (As := [.ref a_zo, .int (-1)]) (rest := []) hx hb hml hown hts (c_J7_fill_53178 l G E cI cZ (-1) a_zo 48 zo (by first | assumption | omega | simp [bI])) k_3_22 cal_J7_fill_53178 ⟨Nat.le_of_ble_eq_true rfl, Nat.le_of_ble_eq_true rfl⟩ hE hA hlow hD hS hK [0, 1] rfl hP [1] rfl (by decide) [a_zo] rfl (fun _ => rfl) [0, 2, 3, 4, 5, 6] [(o, .inr (2, fs_o)), (a_he, .inl (cI, 48, .inl he)), (a_go, .inl (cI, 48, .inl go)), (a_le, .inl (cI, 6, .inl le)), (a_hd, .inl (cI, 6, .inl hd)), (a_gn, .inl (cI, 6, .inl gn))] (fun _ => [(o, .inr (2, fs_o)), (a_zo, .inl (cI, 48, .inl (fun _ => (-1)))), (a_he, .inl (cI, 48, .inl he)), (a_go, .inl (cI, 48, .inl go)), (a_le, .inl (cI, 6, .inl le)), (a_hd, .inl (cI, 6, .inl hd)), (a_gn, .inl (cI, 6, .inl gn))]) 7 rfl (fun _ => rfl) (fun _ => rfl) (fun _ => rfl) (by decide) (by decide) rfl hl.1 rfl (Nat.le_of_ble_eq_true rfl) dX2_makeBlank_5 ⟨Nat.zero_le _, Nat.zero_le _⟩ (fun u H locs hr_ hP hD hS => ?_)
  have hP : va_P G vwCl [(o, .inr (2, fs_o)), (a_zo, .inl (cI, 48, .inl (fun _ => (-1)))), (a_he, .inl (cI, 48, .inl he)), (a_go, .inl (cI, 48, .inl go)), (a_le, .inl (cI, 6, .inl le)), (a_hd, .inl (cI, 6, .inl hd)), (a_gn, .inl (cI, 6, .inl gn))] H := hP
  have hD : va_D A [(o, .inr (2, fs_o)), (a_zo, .inl (cI, 48, .inl (fun _ => (-1)))), (a_he, .inl (cI, 48, .inl he)), (a_go, .inl (cI, 48, .inl go)), (a_le, .inl (cI, 6, .inl le)), (a_hd, .inl (cI, 6, .inl hd)), (a_gn, .inl (cI, 6, .inl gn))] := hD
  refine lv_aload_n hx hb dX2_makeBlank_8 rfl (lv_at hl 0 rfl) ?_
  refine va_get (D := G) (ci := 2) (v := .ref a_he) (C := RX2) (T := TX2) (N := 9) hx hb hts inlX2 hown hK hP 0 rfl rfl 1 (by decide) (hts (.fieldLink RX2 15 "EarthBanks$Slice" "heads" "[I") k_3_10) (fun _ h9 => h9) h_o_he dX2_makeBlank_9 ?_
  refine lv_iconst (v := 0) hx hb dX2_makeBlank_12 (by decide) ?_
  refine cWSv (As := [.ref a_he, .int 0]) (rest := []) hx hb hml hown hts (c_J7_fill_53178 l G E cI cZ 0 a_he 48 he (by first | assumption | omega | simp [bI])) k_3_22 cal_J7_fill_53178 ⟨Nat.le_of_ble_eq_true rfl, Nat.le_of_ble_eq_true rfl⟩ hE hA hlow hD hS hK [0, 1] rfl hP [2] rfl (by decide) [a_he] rfl (fun _ => rfl) [0, 1, 3, 4, 5, 6] [(o, .inr (2, fs_o)), (a_zo, .inl (cI, 48, .inl (fun _ => (-1)))), (a_go, .inl (cI, 48, .inl go)), (a_le, .inl (cI, 6, .inl le)), (a_hd, .inl (cI, 6, .inl hd)), (a_gn, .inl (cI, 6, .inl gn))] (fun _ => [(o, .inr (2, fs_o)), (a_zo, .inl (cI, 48, .inl (fun _ => (-1)))), (a_he, .inl (cI, 48, .inl (fun _ => 0))), (a_go, .inl (cI, 48, .inl go)), (a_le, .inl (cI, 6, .inl le)), (a_hd, .inl (cI, 6, .inl hd)), (a_gn, .inl (cI, 6, .inl gn))]) 7 rfl (fun _ => rfl) (fun _ => rfl) (fun _ => rfl) (by decide) (by decide) rfl hl.1 rfl (Nat.le_of_ble_eq_true rfl) dX2_makeBlank_13 ⟨Nat.zero_le _, Nat.zero_le _⟩ (fun u H locs hr_ hP hD hS => ?_)
  have hP : va_P G vwCl [(o, .inr (2, fs_o)), (a_zo, .inl (cI, 48, .inl (fun _ => (-1)))), (a_he, .inl (cI, 48, .inl (fun _ => 0))), (a_go, .inl (cI, 48, .inl go)), (a_le, .inl (cI, 6, .inl le)), (a_hd, .inl (cI, 6, .inl hd)), (a_gn, .inl (cI, 6, .inl gn))] H := hP
  have hD : va_D A [(o, .inr (2, fs_o)), (a_zo, .inl (cI, 48, .inl (fun _ => (-1)))), (a_he, .inl (cI, 48, .inl (fun _ => 0))), (a_go, .inl (cI, 48, .inl go)), (a_le, .inl (cI, 6, .inl le)), (a_hd, .inl (cI, 6, .inl hd)), (a_gn, .inl (cI, 6, .inl gn))] := hD
  refine lv_aload_n hx hb dX2_makeBlank_16 rfl (lv_at hl 0 rfl) ?_
  refine va_get (D := G) (ci := 2) (v := .ref a_go) (C := RX2) (T := TX2) (N := 9) hx hb hts inlX2 hown hK hP 0 rfl rfl 2 (by decide) (hts (.fieldLink RX2 18 "EarthBanks$Slice" "gone" "[I") k_3_11) (fun _ h9 => h9) h_o_go dX2_makeBlank_17 ?_
  refine lv_iconst (v := 0) hx hb dX2_makeBlank_20 (by decide) ?_
  refine cWSv (As := [.ref a_go, .int 0]) (rest := []) hx hb hml hown hts (c_J7_fill_53178 l G E cI cZ 0 a_go 48 go (by first | assumption | omega | simp [bI])) k_3_22 cal_J7_fill_53178 ⟨Nat.le_of_ble_eq_true rfl, Nat.le_of_ble_eq_true rfl⟩ hE hA hlow hD hS hK [0, 1] rfl hP [3] rfl (by decide) [a_go] rfl (fun _ => rfl) [0, 1, 2, 4, 5, 6] [(o, .inr (2, fs_o)), (a_zo, .inl (cI, 48, .inl (fun _ => (-1)))), (a_he, .inl (cI, 48, .inl (fun _ => 0))), (a_le, .inl (cI, 6, .inl le)), (a_hd, .inl (cI, 6, .inl hd)), (a_gn, .inl (cI, 6, .inl gn))] (fun _ => [(o, .inr (2, fs_o)), (a_zo, .inl (cI, 48, .inl (fun _ => (-1)))), (a_he, .inl (cI, 48, .inl (fun _ => 0))), (a_go, .inl (cI, 48, .inl (fun _ => 0))), (a_le, .inl (cI, 6, .inl le)), (a_hd, .inl (cI, 6, .inl hd)), (a_gn, .inl (cI, 6, .inl gn))]) 7 rfl (fun _ => rfl) (fun _ => rfl) (fun _ => rfl) (by decide) (by decide) rfl hl.1 rfl (Nat.le_of_ble_eq_true rfl) dX2_makeBlank_21 ⟨Nat.zero_le _, Nat.zero_le _⟩ (fun u H locs hr_ hP hD hS => ?_)
  have hP : va_P G vwCl [(o, .inr (2, fs_o)), (a_zo, .inl (cI, 48, .inl (fun _ => (-1)))), (a_he, .inl (cI, 48, .inl (fun _ => 0))), (a_go, .inl (cI, 48, .inl (fun _ => 0))), (a_le, .inl (cI, 6, .inl le)), (a_hd, .inl (cI, 6, .inl hd)), (a_gn, .inl (cI, 6, .inl gn))] H := hP
  have hD : va_D A [(o, .inr (2, fs_o)), (a_zo, .inl (cI, 48, .inl (fun _ => (-1)))), (a_he, .inl (cI, 48, .inl (fun _ => 0))), (a_go, .inl (cI, 48, .inl (fun _ => 0))), (a_le, .inl (cI, 6, .inl le)), (a_hd, .inl (cI, 6, .inl hd)), (a_gn, .inl (cI, 6, .inl gn))] := hD
  refine lv_aload_n hx hb dX2_makeBlank_24 rfl (lv_at hl 0 rfl) ?_
  refine va_get (D := G) (ci := 2) (v := .ref a_le) (C := RX2) (T := TX2) (N := 9) hx hb hts inlX2 hown hK hP 0 rfl rfl 3 (by decide) (hts (.fieldLink RX2 21 "EarthBanks$Slice" "leads" "[I") k_3_12) (fun _ h9 => h9) h_o_le dX2_makeBlank_25 ?_
  refine lv_bipush (v := 10) hx hb dX2_makeBlank_28 (by decide) ?_
  refine cWSv (As := [.ref a_le, .int 10]) (rest := []) hx hb hml hown hts (c_J7_fill_53178 l G E cI cZ 10 a_le 6 le (by first | assumption | omega | simp [bI])) k_3_22 cal_J7_fill_53178 ⟨Nat.le_of_ble_eq_true rfl, Nat.le_of_ble_eq_true rfl⟩ hE hA hlow hD hS hK [0, 1] rfl hP [4] rfl (by decide) [a_le] rfl (fun _ => rfl) [0, 1, 2, 3, 5, 6] [(o, .inr (2, fs_o)), (a_zo, .inl (cI, 48, .inl (fun _ => (-1)))), (a_he, .inl (cI, 48, .inl (fun _ => 0))), (a_go, .inl (cI, 48, .inl (fun _ => 0))), (a_hd, .inl (cI, 6, .inl hd)), (a_gn, .inl (cI, 6, .inl gn))] (fun _ => [(o, .inr (2, fs_o)), (a_zo, .inl (cI, 48, .inl (fun _ => (-1)))), (a_he, .inl (cI, 48, .inl (fun _ => 0))), (a_go, .inl (cI, 48, .inl (fun _ => 0))), (a_le, .inl (cI, 6, .inl (fun _ => 10))), (a_hd, .inl (cI, 6, .inl hd)), (a_gn, .inl (cI, 6, .inl gn))]) 7 rfl (fun _ => rfl) (fun _ => rfl) (fun _ => rfl) (by decide) (by decide) rfl hl.1 rfl (Nat.le_of_ble_eq_true rfl) dX2_makeBlank_30 ⟨Nat.zero_le _, Nat.zero_le _⟩ (fun u H locs hr_ hP hD hS => ?_)
  have hP : va_P G vwCl [(o, .inr (2, fs_o)), (a_zo, .inl (cI, 48, .inl (fun _ => (-1)))), (a_he, .inl (cI, 48, .inl (fun _ => 0))), (a_go, .inl (cI, 48, .inl (fun _ => 0))), (a_le, .inl (cI, 6, .inl (fun _ => 10))), (a_hd, .inl (cI, 6, .inl hd)), (a_gn, .inl (cI, 6, .inl gn))] H := hP
  have hD : va_D A [(o, .inr (2, fs_o)), (a_zo, .inl (cI, 48, .inl (fun _ => (-1)))), (a_he, .inl (cI, 48, .inl (fun _ => 0))), (a_go, .inl (cI, 48, .inl (fun _ => 0))), (a_le, .inl (cI, 6, .inl (fun _ => 10))), (a_hd, .inl (cI, 6, .inl hd)), (a_gn, .inl (cI, 6, .inl gn))] := hD
  refine lv_aload_n hx hb dX2_makeBlank_33 rfl (lv_at hl 0 rfl) ?_
  refine va_get (D := G) (ci := 2) (v := .ref a_hd) (C := RX2) (T := TX2) (N := 9) hx hb hts inlX2 hown hK hP 0 rfl rfl 4 (by decide) (hts (.fieldLink RX2 24 "EarthBanks$Slice" "holds" "[I") k_3_13) (fun _ h9 => h9) h_o_hd dX2_makeBlank_34 ?_
  refine lv_bipush (v := 10) hx hb dX2_makeBlank_37 (by decide) ?_
  refine cWSv (As := [.ref a_hd, .int 10]) (rest := []) hx hb hml hown hts (c_J7_fill_53178 l G E cI cZ 10 a_hd 6 hd (by first | assumption | omega | simp [bI])) k_3_22 cal_J7_fill_53178 ⟨Nat.le_of_ble_eq_true rfl, Nat.le_of_ble_eq_true rfl⟩ hE hA hlow hD hS hK [0, 1] rfl hP [5] rfl (by decide) [a_hd] rfl (fun _ => rfl) [0, 1, 2, 3, 4, 6] [(o, .inr (2, fs_o)), (a_zo, .inl (cI, 48, .inl (fun _ => (-1)))), (a_he, .inl (cI, 48, .inl (fun _ => 0))), (a_go, .inl (cI, 48, .inl (fun _ => 0))), (a_le, .inl (cI, 6, .inl (fun _ => 10))), (a_gn, .inl (cI, 6, .inl gn))] (fun _ => [(o, .inr (2, fs_o)), (a_zo, .inl (cI, 48, .inl (fun _ => (-1)))), (a_he, .inl (cI, 48, .inl (fun _ => 0))), (a_go, .inl (cI, 48, .inl (fun _ => 0))), (a_le, .inl (cI, 6, .inl (fun _ => 10))), (a_hd, .inl (cI, 6, .inl (fun _ => 10))), (a_gn, .inl (cI, 6, .inl gn))]) 7 rfl (fun _ => rfl) (fun _ => rfl) (fun _ => rfl) (by decide) (by decide) rfl hl.1 rfl (Nat.le_of_ble_eq_true rfl) dX2_makeBlank_39 ⟨Nat.zero_le _, Nat.zero_le _⟩ (fun u H locs hr_ hP hD hS => ?_)
  have hP : va_P G vwCl [(o, .inr (2, fs_o)), (a_zo, .inl (cI, 48, .inl (fun _ => (-1)))), (a_he, .inl (cI, 48, .inl (fun _ => 0))), (a_go, .inl (cI, 48, .inl (fun _ => 0))), (a_le, .inl (cI, 6, .inl (fun _ => 10))), (a_hd, .inl (cI, 6, .inl (fun _ => 10))), (a_gn, .inl (cI, 6, .inl gn))] H := hP
  have hD : va_D A [(o, .inr (2, fs_o)), (a_zo, .inl (cI, 48, .inl (fun _ => (-1)))), (a_he, .inl (cI, 48, .inl (fun _ => 0))), (a_go, .inl (cI, 48, .inl (fun _ => 0))), (a_le, .inl (cI, 6, .inl (fun _ => 10))), (a_hd, .inl (cI, 6, .inl (fun _ => 10))), (a_gn, .inl (cI, 6, .inl gn))] := hD
  refine lv_aload_n hx hb dX2_makeBlank_42 rfl (lv_at hl 0 rfl) ?_
  refine va_get (D := G) (ci := 2) (v := .ref a_gn) (C := RX2) (T := TX2) (N := 9) hx hb hts inlX2 hown hK hP 0 rfl rfl 5 (by decide) (hts (.fieldLink RX2 27 "EarthBanks$Slice" "grains" "[I") k_3_14) (fun _ h9 => h9) h_o_gn dX2_makeBlank_43 ?_
  refine lv_bipush (v := 10) hx hb dX2_makeBlank_46 (by decide) ?_
  refine cWSv (As := [.ref a_gn, .int 10]) (rest := []) hx hb hml hown hts (c_J7_fill_53178 l G E cI cZ 10 a_gn 6 gn (by first | assumption | omega | simp [bI])) k_3_22 cal_J7_fill_53178 ⟨Nat.le_of_ble_eq_true rfl, Nat.le_of_ble_eq_true rfl⟩ hE hA hlow hD hS hK [0, 1] rfl hP [6] rfl (by decide) [a_gn] rfl (fun _ => rfl) [0, 1, 2, 3, 4, 5] [(o, .inr (2, fs_o)), (a_zo, .inl (cI, 48, .inl (fun _ => (-1)))), (a_he, .inl (cI, 48, .inl (fun _ => 0))), (a_go, .inl (cI, 48, .inl (fun _ => 0))), (a_le, .inl (cI, 6, .inl (fun _ => 10))), (a_hd, .inl (cI, 6, .inl (fun _ => 10)))] (fun _ => [(o, .inr (2, fs_o)), (a_zo, .inl (cI, 48, .inl (fun _ => (-1)))), (a_he, .inl (cI, 48, .inl (fun _ => 0))), (a_go, .inl (cI, 48, .inl (fun _ => 0))), (a_le, .inl (cI, 6, .inl (fun _ => 10))), (a_hd, .inl (cI, 6, .inl (fun _ => 10))), (a_gn, .inl (cI, 6, .inl (fun _ => 10)))]) 7 rfl (fun _ => rfl) (fun _ => rfl) (fun _ => rfl) (by decide) (by decide) rfl hl.1 rfl (Nat.le_of_ble_eq_true rfl) dX2_makeBlank_48 ⟨Nat.zero_le _, Nat.zero_le _⟩ (fun u H locs hr_ hP hD hS => ?_)
  have hP : va_P G vwCl [(o, .inr (2, fs_o)), (a_zo, .inl (cI, 48, .inl (fun _ => (-1)))), (a_he, .inl (cI, 48, .inl (fun _ => 0))), (a_go, .inl (cI, 48, .inl (fun _ => 0))), (a_le, .inl (cI, 6, .inl (fun _ => 10))), (a_hd, .inl (cI, 6, .inl (fun _ => 10))), (a_gn, .inl (cI, 6, .inl (fun _ => 10)))] H := hP
  have hD : va_D A [(o, .inr (2, fs_o)), (a_zo, .inl (cI, 48, .inl (fun _ => (-1)))), (a_he, .inl (cI, 48, .inl (fun _ => 0))), (a_go, .inl (cI, 48, .inl (fun _ => 0))), (a_le, .inl (cI, 6, .inl (fun _ => 10))), (a_hd, .inl (cI, 6, .inl (fun _ => 10))), (a_gn, .inl (cI, 6, .inl (fun _ => 10)))] := hD
  exact retWv () hx hb hr hlocks dX2_makeBlank_51 hS (trivial) hP
theorem cal_X2_copy : calV yX2_copy cX2_copy 2 none 1 := ⟨k_13_8, k_1_19, k_13_6, k_13_7, by decide +kernel⟩
set_option maxHeartbeats 4000000 in
set_option maxRecDepth 100000 in
theorem c_X2_copy (l : Launch) (G : va_G) (E : EvT) (cI cZ : ClassId) (o : Nat) (a_zo : Nat) (a_he : Nat) (a_go : Nat) (a_le : Nat) (a_hd : Nat) (a_gn : Nat) (p1 : Nat) (a_p1_zo : Nat) (a_p1_he : Nat) (a_p1_go : Nat) (a_p1_le : Nat) (a_p1_hd : Nat) (a_p1_gn : Nat) (a_lv : Nat) (a_pa : Nat) (la : Int32) (p1_la : Int32) (fs_p1 : List Value) (h_p1_zo : fs_p1[0]? = some (.ref a_p1_zo)) (h_p1_he : fs_p1[1]? = some (.ref a_p1_he)) (h_p1_go : fs_p1[2]? = some (.ref a_p1_go)) (h_p1_le : fs_p1[3]? = some (.ref a_p1_le)) (h_p1_hd : fs_p1[4]? = some (.ref a_p1_hd)) (h_p1_gn : fs_p1[5]? = some (.ref a_p1_gn)) (h_p1_la : fs_p1[6]? = some (.int p1_la)) (zo : Nat → Int32) (he : Nat → Int32) (go : Nat → Int32) (le : Nat → Int32) (hd : Nat → Int32) (gn : Nat → Int32) (p1_zo : Nat → Int32) (p1_he : Nat → Int32) (p1_go : Nat → Int32) (p1_le : Nat → Int32) (p1_hd : Nat → Int32) (p1_gn : Nat → Int32) : cWv (S := Unit) l G E yX2_copy cX2_copy 2 none 1 [(cI, .int), (cZ, .boolean)] [.ref o, .ref p1] [(o, .inr (2, [.ref a_zo, .ref a_he, .ref a_go, .ref a_le, .ref a_hd, .ref a_gn, .int la, .ref a_lv, .ref a_pa])), (a_zo, .inl (cI, 48, .inl zo)), (a_he, .inl (cI, 48, .inl he)), (a_go, .inl (cI, 48, .inl go)), (a_le, .inl (cI, 6, .inl le)), (a_hd, .inl (cI, 6, .inl hd)), (a_gn, .inl (cI, 6, .inl gn)), (p1, .inr (2, fs_p1)), (a_p1_zo, .inl (cI, 48, .inl p1_zo)), (a_p1_he, .inl (cI, 48, .inl p1_he)), (a_p1_go, .inl (cI, 48, .inl p1_go)), (a_p1_le, .inl (cI, 6, .inl p1_le)), (a_p1_hd, .inl (cI, 6, .inl p1_hd)), (a_p1_gn, .inl (cI, 6, .inl p1_gn))] (fun _ => True) (fun _ => [(o, .inr (2, [.ref a_zo, .ref a_he, .ref a_go, .ref a_le, .ref a_hd, .ref a_gn, .int p1_la, .ref a_lv, .ref a_pa])), (a_zo, .inl (cI, 48, .inl p1_zo)), (a_he, .inl (cI, 48, .inl p1_he)), (a_go, .inl (cI, 48, .inl p1_go)), (a_le, .inl (cI, 6, .inl p1_le)), (a_hd, .inl (cI, 6, .inl p1_hd)), (a_gn, .inl (cI, 6, .inl p1_gn)), (p1, .inr (2, fs_p1)), (a_p1_zo, .inl (cI, 48, .inl p1_zo)), (a_p1_he, .inl (cI, 48, .inl p1_he)), (a_p1_go, .inl (cI, 48, .inl p1_go)), (a_p1_le, .inl (cI, 6, .inl p1_le)), (a_p1_hd, .inl (cI, 6, .inl p1_hd)), (a_p1_gn, .inl (cI, 6, .inl p1_gn))]) := by
  refine mkWv (by decide) (Nat.le_of_ble_eq_true rfl) ?_
  intro zp ze s zm args below meth zc hx hb hr hml hown hts hlocks hE hK A hA hlow H locs hP hD hS ls hl
  have hl : lv_has ls 2 [(0, .ref o), (1, .ref p1)] := hl
  refine lv_aload_n hx hb dX2_copy_0 rfl (lv_at hl 1 rfl) ?_
  refine va_get (D := G) (ci := 2) (v := .ref a_p1_zo) (C := RX2) (T := TX2) (N := 9) hx hb hts inlX2 hown hK hP 7 rfl rfl 0 (by decide) (hts (.fieldLink RX2 9 "EarthBanks$Slice" "zones" "[I") k_3_9) (fun _ h9 => h9) h_p1_zo dX2_copy_1 ?_
  refine lv_iconst (v := 0) hx hb dX2_copy_4 (by decide) ?_
  refine lv_aload_n hx hb dX2_copy_5 rfl (lv_at hl 0 rfl) ?_
  refine va_get (D := G) (ci := 2) (v := .ref a_zo) (C := RX2) (T := TX2) (N := 9) hx hb hts inlX2 hown hK hP 0 rfl rfl 0 (by decide) (hts (.fieldLink RX2 9 "EarthBanks$Slice" "zones" "[I") k_3_9) (fun _ h9 => h9) rfl dX2_copy_6 ?_
  refine lv_iconst (v := 0) hx hb dX2_copy_9 (by decide) ?_
  refine lv_bipush (v := 48) hx hb dX2_copy_10 (by decide) ?_
  refine va_copyi (ty := .int) hx hb (hml.trans hl.1.symm) hown (hts (.methodLink RX2 49 arraycopyName) k_13_9) (hts (.native arraycopyName) k_13_10) (hts (.static arraycopyName) k_13_11) (hts (.initialized "java/lang/System") k_13_12) hK hP hD hS 8 1 0 0 rfl rfl rfl rfl rfl (by decide) (by decide) (by decide) (by decide) (by decide) (fun _ _ => rfl) (Nat.le_of_ble_eq_true rfl) (by decide) dX2_copy_12 (fun H locs hP hD hS => ?_)
  have hP : va_P G vwCl [(o, .inr (2, [.ref a_zo, .ref a_he, .ref a_go, .ref a_le, .ref a_hd, .ref a_gn, .int la, .ref a_lv, .ref a_pa])), (a_zo, .inl (cI, 48, .inl (va_cpy p1_zo zo (0 : Int32).toNatClampNeg (0 : Int32).toNatClampNeg (48 : Int32).toNatClampNeg))), (a_he, .inl (cI, 48, .inl he)), (a_go, .inl (cI, 48, .inl go)), (a_le, .inl (cI, 6, .inl le)), (a_hd, .inl (cI, 6, .inl hd)), (a_gn, .inl (cI, 6, .inl gn)), (p1, .inr (2, fs_p1)), (a_p1_zo, .inl (cI, 48, .inl p1_zo)), (a_p1_he, .inl (cI, 48, .inl p1_he)), (a_p1_go, .inl (cI, 48, .inl p1_go)), (a_p1_le, .inl (cI, 6, .inl p1_le)), (a_p1_hd, .inl (cI, 6, .inl p1_hd)), (a_p1_gn, .inl (cI, 6, .inl p1_gn))] H := hP
  have hD : va_D A [(o, .inr (2, [.ref a_zo, .ref a_he, .ref a_go, .ref a_le, .ref a_hd, .ref a_gn, .int la, .ref a_lv, .ref a_pa])), (a_zo, .inl (cI, 48, .inl (va_cpy p1_zo zo (0 : Int32).toNatClampNeg (0 : Int32).toNatClampNeg (48 : Int32).toNatClampNeg))), (a_he, .inl (cI, 48, .inl he)), (a_go, .inl (cI, 48, .inl go)), (a_le, .inl (cI, 6, .inl le)), (a_hd, .inl (cI, 6, .inl hd)), (a_gn, .inl (cI, 6, .inl gn)), (p1, .inr (2, fs_p1)), (a_p1_zo, .inl (cI, 48, .inl p1_zo)), (a_p1_he, .inl (cI, 48, .inl p1_he)), (a_p1_go, .inl (cI, 48, .inl p1_go)), (a_p1_le, .inl (cI, 6, .inl p1_le)), (a_p1_hd, .inl (cI, 6, .inl p1_hd)), (a_p1_gn, .inl (cI, 6, .inl p1_gn))] := hD
  have hP := P_swap hP 1 p1_zo rfl (fun k h9 => cpy_all h9)
  have hD := D_swap hD 1 (.inl (cI, 48, .inl p1_zo)) rfl
  have hP : va_P G vwCl [(o, .inr (2, [.ref a_zo, .ref a_he, .ref a_go, .ref a_le, .ref a_hd, .ref a_gn, .int la, .ref a_lv, .ref a_pa])), (a_zo, .inl (cI, 48, .inl p1_zo)), (a_he, .inl (cI, 48, .inl he)), (a_go, .inl (cI, 48, .inl go)), (a_le, .inl (cI, 6, .inl le)), (a_hd, .inl (cI, 6, .inl hd)), (a_gn, .inl (cI, 6, .inl gn)), (p1, .inr (2, fs_p1)), (a_p1_zo, .inl (cI, 48, .inl p1_zo)), (a_p1_he, .inl (cI, 48, .inl p1_he)), (a_p1_go, .inl (cI, 48, .inl p1_go)), (a_p1_le, .inl (cI, 6, .inl p1_le)), (a_p1_hd, .inl (cI, 6, .inl p1_hd)), (a_p1_gn, .inl (cI, 6, .inl p1_gn))] H := hP
  have hD : va_D A [(o, .inr (2, [.ref a_zo, .ref a_he, .ref a_go, .ref a_le, .ref a_hd, .ref a_gn, .int la, .ref a_lv, .ref a_pa])), (a_zo, .inl (cI, 48, .inl p1_zo)), (a_he, .inl (cI, 48, .inl he)), (a_go, .inl (cI, 48, .inl go)), (a_le, .inl (cI, 6, .inl le)), (a_hd, .inl (cI, 6, .inl hd)), (a_gn, .inl (cI, 6, .inl gn)), (p1, .inr (2, fs_p1)), (a_p1_zo, .inl (cI, 48, .inl p1_zo)), (a_p1_he, .inl (cI, 48, .inl p1_he)), (a_p1_go, .inl (cI, 48, .inl p1_go)), (a_p1_le, .inl (cI, 6, .inl p1_le)), (a_p1_hd, .inl (cI, 6, .inl p1_hd)), (a_p1_gn, .inl (cI, 6, .inl p1_gn))] := hD
  refine lv_aload_n hx hb dX2_copy_15 rfl (lv_at hl 1 rfl) ?_
  refine va_get (D := G) (ci := 2) (v := .ref a_p1_he) (C := RX2) (T := TX2) (N := 9) hx hb hts inlX2 hown hK hP 7 rfl rfl 1 (by decide) (hts (.fieldLink RX2 15 "EarthBanks$Slice" "heads" "[I") k_3_10) (fun _ h9 => h9) h_p1_he dX2_copy_16 ?_
  refine lv_iconst (v := 0) hx hb dX2_copy_19 (by decide) ?_
  refine lv_aload_n hx hb dX2_copy_20 rfl (lv_at hl 0 rfl) ?_
  refine va_get (D := G) (ci := 2) (v := .ref a_he) (C := RX2) (T := TX2) (N := 9) hx hb hts inlX2 hown hK hP 0 rfl rfl 1 (by decide) (hts (.fieldLink RX2 15 "EarthBanks$Slice" "heads" "[I") k_3_10) (fun _ h9 => h9) rfl dX2_copy_21 ?_
  refine lv_iconst (v := 0) hx hb dX2_copy_24 (by decide) ?_
  refine lv_bipush (v := 48) hx hb dX2_copy_25 (by decide) ?_
  refine va_copyi (ty := .int) hx hb (hml.trans hl.1.symm) hown (hts (.methodLink RX2 49 arraycopyName) k_13_9) (hts (.native arraycopyName) k_13_10) (hts (.static arraycopyName) k_13_11) (hts (.initialized "java/lang/System") k_13_12) hK hP hD hS 9 2 0 0 rfl rfl rfl rfl rfl (by decide) (by decide) (by decide) (by decide) (by decide) (fun _ _ => rfl) (Nat.le_of_ble_eq_true rfl) (by decide) dX2_copy_27 (fun H locs hP hD hS => ?_)
  have hP : va_P G vwCl [(o, .inr (2, [.ref a_zo, .ref a_he, .ref a_go, .ref a_le, .ref a_hd, .ref a_gn, .int la, .ref a_lv, .ref a_pa])), (a_zo, .inl (cI, 48, .inl p1_zo)), (a_he, .inl (cI, 48, .inl (va_cpy p1_he he (0 : Int32).toNatClampNeg (0 : Int32).toNatClampNeg (48 : Int32).toNatClampNeg))), (a_go, .inl (cI, 48, .inl go)), (a_le, .inl (cI, 6, .inl le)), (a_hd, .inl (cI, 6, .inl hd)), (a_gn, .inl (cI, 6, .inl gn)), (p1, .inr (2, fs_p1)), (a_p1_zo, .inl (cI, 48, .inl p1_zo)), (a_p1_he, .inl (cI, 48, .inl p1_he)), (a_p1_go, .inl (cI, 48, .inl p1_go)), (a_p1_le, .inl (cI, 6, .inl p1_le)), (a_p1_hd, .inl (cI, 6, .inl p1_hd)), (a_p1_gn, .inl (cI, 6, .inl p1_gn))] H := hP
  have hD : va_D A [(o, .inr (2, [.ref a_zo, .ref a_he, .ref a_go, .ref a_le, .ref a_hd, .ref a_gn, .int la, .ref a_lv, .ref a_pa])), (a_zo, .inl (cI, 48, .inl p1_zo)), (a_he, .inl (cI, 48, .inl (va_cpy p1_he he (0 : Int32).toNatClampNeg (0 : Int32).toNatClampNeg (48 : Int32).toNatClampNeg))), (a_go, .inl (cI, 48, .inl go)), (a_le, .inl (cI, 6, .inl le)), (a_hd, .inl (cI, 6, .inl hd)), (a_gn, .inl (cI, 6, .inl gn)), (p1, .inr (2, fs_p1)), (a_p1_zo, .inl (cI, 48, .inl p1_zo)), (a_p1_he, .inl (cI, 48, .inl p1_he)), (a_p1_go, .inl (cI, 48, .inl p1_go)), (a_p1_le, .inl (cI, 6, .inl p1_le)), (a_p1_hd, .inl (cI, 6, .inl p1_hd)), (a_p1_gn, .inl (cI, 6, .inl p1_gn))] := hD
  have hP := P_swap hP 2 p1_he rfl (fun k h9 => cpy_all h9)
  have hD := D_swap hD 2 (.inl (cI, 48, .inl p1_he)) rfl
  have hP : va_P G vwCl [(o, .inr (2, [.ref a_zo, .ref a_he, .ref a_go, .ref a_le, .ref a_hd, .ref a_gn, .int la, .ref a_lv, .ref a_pa])), (a_zo, .inl (cI, 48, .inl p1_zo)), (a_he, .inl (cI, 48, .inl p1_he)), (a_go, .inl (cI, 48, .inl go)), (a_le, .inl (cI, 6, .inl le)), (a_hd, .inl (cI, 6, .inl hd)), (a_gn, .inl (cI, 6, .inl gn)), (p1, .inr (2, fs_p1)), (a_p1_zo, .inl (cI, 48, .inl p1_zo)), (a_p1_he, .inl (cI, 48, .inl p1_he)), (a_p1_go, .inl (cI, 48, .inl p1_go)), (a_p1_le, .inl (cI, 6, .inl p1_le)), (a_p1_hd, .inl (cI, 6, .inl p1_hd)), (a_p1_gn, .inl (cI, 6, .inl p1_gn))] H := hP
  have hD : va_D A [(o, .inr (2, [.ref a_zo, .ref a_he, .ref a_go, .ref a_le, .ref a_hd, .ref a_gn, .int la, .ref a_lv, .ref a_pa])), (a_zo, .inl (cI, 48, .inl p1_zo)), (a_he, .inl (cI, 48, .inl p1_he)), (a_go, .inl (cI, 48, .inl go)), (a_le, .inl (cI, 6, .inl le)), (a_hd, .inl (cI, 6, .inl hd)), (a_gn, .inl (cI, 6, .inl gn)), (p1, .inr (2, fs_p1)), (a_p1_zo, .inl (cI, 48, .inl p1_zo)), (a_p1_he, .inl (cI, 48, .inl p1_he)), (a_p1_go, .inl (cI, 48, .inl p1_go)), (a_p1_le, .inl (cI, 6, .inl p1_le)), (a_p1_hd, .inl (cI, 6, .inl p1_hd)), (a_p1_gn, .inl (cI, 6, .inl p1_gn))] := hD
  refine lv_aload_n hx hb dX2_copy_30 rfl (lv_at hl 1 rfl) ?_
  refine va_get (D := G) (ci := 2) (v := .ref a_p1_go) (C := RX2) (T := TX2) (N := 9) hx hb hts inlX2 hown hK hP 7 rfl rfl 2 (by decide) (hts (.fieldLink RX2 18 "EarthBanks$Slice" "gone" "[I") k_3_11) (fun _ h9 => h9) h_p1_go dX2_copy_31 ?_
  refine lv_iconst (v := 0) hx hb dX2_copy_34 (by decide) ?_
  refine lv_aload_n hx hb dX2_copy_35 rfl (lv_at hl 0 rfl) ?_
  refine va_get (D := G) (ci := 2) (v := .ref a_go) (C := RX2) (T := TX2) (N := 9) hx hb hts inlX2 hown hK hP 0 rfl rfl 2 (by decide) (hts (.fieldLink RX2 18 "EarthBanks$Slice" "gone" "[I") k_3_11) (fun _ h9 => h9) rfl dX2_copy_36 ?_
  refine lv_iconst (v := 0) hx hb dX2_copy_39 (by decide) ?_
  refine lv_bipush (v := 48) hx hb dX2_copy_40 (by decide) ?_
  refine va_copyi (ty := .int) hx hb (hml.trans hl.1.symm) hown (hts (.methodLink RX2 49 arraycopyName) k_13_9) (hts (.native arraycopyName) k_13_10) (hts (.static arraycopyName) k_13_11) (hts (.initialized "java/lang/System") k_13_12) hK hP hD hS 10 3 0 0 rfl rfl rfl rfl rfl (by decide) (by decide) (by decide) (by decide) (by decide) (fun _ _ => rfl) (Nat.le_of_ble_eq_true rfl) (by decide) dX2_copy_42 (fun H locs hP hD hS => ?_)
  have hP : va_P G vwCl [(o, .inr (2, [.ref a_zo, .ref a_he, .ref a_go, .ref a_le, .ref a_hd, .ref a_gn, .int la, .ref a_lv, .ref a_pa])), (a_zo, .inl (cI, 48, .inl p1_zo)), (a_he, .inl (cI, 48, .inl p1_he)), (a_go, .inl (cI, 48, .inl (va_cpy p1_go go (0 : Int32).toNatClampNeg (0 : Int32).toNatClampNeg (48 : Int32).toNatClampNeg))), (a_le, .inl (cI, 6, .inl le)), (a_hd, .inl (cI, 6, .inl hd)), (a_gn, .inl (cI, 6, .inl gn)), (p1, .inr (2, fs_p1)), (a_p1_zo, .inl (cI, 48, .inl p1_zo)), (a_p1_he, .inl (cI, 48, .inl p1_he)), (a_p1_go, .inl (cI, 48, .inl p1_go)), (a_p1_le, .inl (cI, 6, .inl p1_le)), (a_p1_hd, .inl (cI, 6, .inl p1_hd)), (a_p1_gn, .inl (cI, 6, .inl p1_gn))] H := hP
  have hD : va_D A [(o, .inr (2, [.ref a_zo, .ref a_he, .ref a_go, .ref a_le, .ref a_hd, .ref a_gn, .int la, .ref a_lv, .ref a_pa])), (a_zo, .inl (cI, 48, .inl p1_zo)), (a_he, .inl (cI, 48, .inl p1_he)), (a_go, .inl (cI, 48, .inl (va_cpy p1_go go (0 : Int32).toNatClampNeg (0 : Int32).toNatClampNeg (48 : Int32).toNatClampNeg))), (a_le, .inl (cI, 6, .inl le)), (a_hd, .inl (cI, 6, .inl hd)), (a_gn, .inl (cI, 6, .inl gn)), (p1, .inr (2, fs_p1)), (a_p1_zo, .inl (cI, 48, .inl p1_zo)), (a_p1_he, .inl (cI, 48, .inl p1_he)), (a_p1_go, .inl (cI, 48, .inl p1_go)), (a_p1_le, .inl (cI, 6, .inl p1_le)), (a_p1_hd, .inl (cI, 6, .inl p1_hd)), (a_p1_gn, .inl (cI, 6, .inl p1_gn))] := hD
  have hP := P_swap hP 3 p1_go rfl (fun k h9 => cpy_all h9)
  have hD := D_swap hD 3 (.inl (cI, 48, .inl p1_go)) rfl
  have hP : va_P G vwCl [(o, .inr (2, [.ref a_zo, .ref a_he, .ref a_go, .ref a_le, .ref a_hd, .ref a_gn, .int la, .ref a_lv, .ref a_pa])), (a_zo, .inl (cI, 48, .inl p1_zo)), (a_he, .inl (cI, 48, .inl p1_he)), (a_go, .inl (cI, 48, .inl p1_go)), (a_le, .inl (cI, 6, .inl le)), (a_hd, .inl (cI, 6, .inl hd)), (a_gn, .inl (cI, 6, .inl gn)), (p1, .inr (2, fs_p1)), (a_p1_zo, .inl (cI, 48, .inl p1_zo)), (a_p1_he, .inl (cI, 48, .inl p1_he)), (a_p1_go, .inl (cI, 48, .inl p1_go)), (a_p1_le, .inl (cI, 6, .inl p1_le)), (a_p1_hd, .inl (cI, 6, .inl p1_hd)), (a_p1_gn, .inl (cI, 6, .inl p1_gn))] H := hP
  have hD : va_D A [(o, .inr (2, [.ref a_zo, .ref a_he, .ref a_go, .ref a_le, .ref a_hd, .ref a_gn, .int la, .ref a_lv, .ref a_pa])), (a_zo, .inl (cI, 48, .inl p1_zo)), (a_he, .inl (cI, 48, .inl p1_he)), (a_go, .inl (cI, 48, .inl p1_go)), (a_le, .inl (cI, 6, .inl le)), (a_hd, .inl (cI, 6, .inl hd)), (a_gn, .inl (cI, 6, .inl gn)), (p1, .inr (2, fs_p1)), (a_p1_zo, .inl (cI, 48, .inl p1_zo)), (a_p1_he, .inl (cI, 48, .inl p1_he)), (a_p1_go, .inl (cI, 48, .inl p1_go)), (a_p1_le, .inl (cI, 6, .inl p1_le)), (a_p1_hd, .inl (cI, 6, .inl p1_hd)), (a_p1_gn, .inl (cI, 6, .inl p1_gn))] := hD
  refine lv_aload_n hx hb dX2_copy_45 rfl (lv_at hl 1 rfl) ?_
  refine va_get (D := G) (ci := 2) (v := .ref a_p1_le) (C := RX2) (T := TX2) (N := 9) hx hb hts inlX2 hown hK hP 7 rfl rfl 3 (by decide) (hts (.fieldLink RX2 21 "EarthBanks$Slice" "leads" "[I") k_3_12) (fun _ h9 => h9) h_p1_le dX2_copy_46 ?_
  refine lv_iconst (v := 0) hx hb dX2_copy_49 (by decide) ?_
  refine lv_aload_n hx hb dX2_copy_50 rfl (lv_at hl 0 rfl) ?_
  refine va_get (D := G) (ci := 2) (v := .ref a_le) (C := RX2) (T := TX2) (N := 9) hx hb hts inlX2 hown hK hP 0 rfl rfl 3 (by decide) (hts (.fieldLink RX2 21 "EarthBanks$Slice" "leads" "[I") k_3_12) (fun _ h9 => h9) rfl dX2_copy_51 ?_
  refine lv_iconst (v := 0) hx hb dX2_copy_54 (by decide) ?_
  refine lv_bipush (v := 6) hx hb dX2_copy_55 (by decide) ?_
  refine va_copyi (ty := .int) hx hb (hml.trans hl.1.symm) hown (hts (.methodLink RX2 49 arraycopyName) k_13_9) (hts (.native arraycopyName) k_13_10) (hts (.static arraycopyName) k_13_11) (hts (.initialized "java/lang/System") k_13_12) hK hP hD hS 11 4 0 0 rfl rfl rfl rfl rfl (by decide) (by decide) (by decide) (by decide) (by decide) (fun _ _ => rfl) (Nat.le_of_ble_eq_true rfl) (by decide) dX2_copy_57 (fun H locs hP hD hS => ?_)
  have hP : va_P G vwCl [(o, .inr (2, [.ref a_zo, .ref a_he, .ref a_go, .ref a_le, .ref a_hd, .ref a_gn, .int la, .ref a_lv, .ref a_pa])), (a_zo, .inl (cI, 48, .inl p1_zo)), (a_he, .inl (cI, 48, .inl p1_he)), (a_go, .inl (cI, 48, .inl p1_go)), (a_le, .inl (cI, 6, .inl (va_cpy p1_le le (0 : Int32).toNatClampNeg (0 : Int32).toNatClampNeg (6 : Int32).toNatClampNeg))), (a_hd, .inl (cI, 6, .inl hd)), (a_gn, .inl (cI, 6, .inl gn)), (p1, .inr (2, fs_p1)), (a_p1_zo, .inl (cI, 48, .inl p1_zo)), (a_p1_he, .inl (cI, 48, .inl p1_he)), (a_p1_go, .inl (cI, 48, .inl p1_go)), (a_p1_le, .inl (cI, 6, .inl p1_le)), (a_p1_hd, .inl (cI, 6, .inl p1_hd)), (a_p1_gn, .inl (cI, 6, .inl p1_gn))] H := hP
  have hD : va_D A [(o, .inr (2, [.ref a_zo, .ref a_he, .ref a_go, .ref a_le, .ref a_hd, .ref a_gn, .int la, .ref a_lv, .ref a_pa])), (a_zo, .inl (cI, 48, .inl p1_zo)), (a_he, .inl (cI, 48, .inl p1_he)), (a_go, .inl (cI, 48, .inl p1_go)), (a_le, .inl (cI, 6, .inl (va_cpy p1_le le (0 : Int32).toNatClampNeg (0 : Int32).toNatClampNeg (6 : Int32).toNatClampNeg))), (a_hd, .inl (cI, 6, .inl hd)), (a_gn, .inl (cI, 6, .inl gn)), (p1, .inr (2, fs_p1)), (a_p1_zo, .inl (cI, 48, .inl p1_zo)), (a_p1_he, .inl (cI, 48, .inl p1_he)), (a_p1_go, .inl (cI, 48, .inl p1_go)), (a_p1_le, .inl (cI, 6, .inl p1_le)), (a_p1_hd, .inl (cI, 6, .inl p1_hd)), (a_p1_gn, .inl (cI, 6, .inl p1_gn))] := hD
  have hP := P_swap hP 4 p1_le rfl (fun k h9 => cpy_all h9)
  have hD := D_swap hD 4 (.inl (cI, 6, .inl p1_le)) rfl
  have hP : va_P G vwCl [(o, .inr (2, [.ref a_zo, .ref a_he, .ref a_go, .ref a_le, .ref a_hd, .ref a_gn, .int la, .ref a_lv, .ref a_pa])), (a_zo, .inl (cI, 48, .inl p1_zo)), (a_he, .inl (cI, 48, .inl p1_he)), (a_go, .inl (cI, 48, .inl p1_go)), (a_le, .inl (cI, 6, .inl p1_le)), (a_hd, .inl (cI, 6, .inl hd)), (a_gn, .inl (cI, 6, .inl gn)), (p1, .inr (2, fs_p1)), (a_p1_zo, .inl (cI, 48, .inl p1_zo)), (a_p1_he, .inl (cI, 48, .inl p1_he)), (a_p1_go, .inl (cI, 48, .inl p1_go)), (a_p1_le, .inl (cI, 6, .inl p1_le)), (a_p1_hd, .inl (cI, 6, .inl p1_hd)), (a_p1_gn, .inl (cI, 6, .inl p1_gn))] H := hP
  have hD : va_D A [(o, .inr (2, [.ref a_zo, .ref a_he, .ref a_go, .ref a_le, .ref a_hd, .ref a_gn, .int la, .ref a_lv, .ref a_pa])), (a_zo, .inl (cI, 48, .inl p1_zo)), (a_he, .inl (cI, 48, .inl p1_he)), (a_go, .inl (cI, 48, .inl p1_go)), (a_le, .inl (cI, 6, .inl p1_le)), (a_hd, .inl (cI, 6, .inl hd)), (a_gn, .inl (cI, 6, .inl gn)), (p1, .inr (2, fs_p1)), (a_p1_zo, .inl (cI, 48, .inl p1_zo)), (a_p1_he, .inl (cI, 48, .inl p1_he)), (a_p1_go, .inl (cI, 48, .inl p1_go)), (a_p1_le, .inl (cI, 6, .inl p1_le)), (a_p1_hd, .inl (cI, 6, .inl p1_hd)), (a_p1_gn, .inl (cI, 6, .inl p1_gn))] := hD
  refine lv_aload_n hx hb dX2_copy_60 rfl (lv_at hl 1 rfl) ?_
  refine va_get (D := G) (ci := 2) (v := .ref a_p1_hd) (C := RX2) (T := TX2) (N := 9) hx hb hts inlX2 hown hK hP 7 rfl rfl 4 (by decide) (hts (.fieldLink RX2 24 "EarthBanks$Slice" "holds" "[I") k_3_13) (fun _ h9 => h9) h_p1_hd dX2_copy_61 ?_
  refine lv_iconst (v := 0) hx hb dX2_copy_64 (by decide) ?_
  refine lv_aload_n hx hb dX2_copy_65 rfl (lv_at hl 0 rfl) ?_
  refine va_get (D := G) (ci := 2) (v := .ref a_hd) (C := RX2) (T := TX2) (N := 9) hx hb hts inlX2 hown hK hP 0 rfl rfl 4 (by decide) (hts (.fieldLink RX2 24 "EarthBanks$Slice" "holds" "[I") k_3_13) (fun _ h9 => h9) rfl dX2_copy_66 ?_
  refine lv_iconst (v := 0) hx hb dX2_copy_69 (by decide) ?_
  refine lv_bipush (v := 6) hx hb dX2_copy_70 (by decide) ?_
  refine va_copyi (ty := .int) hx hb (hml.trans hl.1.symm) hown (hts (.methodLink RX2 49 arraycopyName) k_13_9) (hts (.native arraycopyName) k_13_10) (hts (.static arraycopyName) k_13_11) (hts (.initialized "java/lang/System") k_13_12) hK hP hD hS 12 5 0 0 rfl rfl rfl rfl rfl (by decide) (by decide) (by decide) (by decide) (by decide) (fun _ _ => rfl) (Nat.le_of_ble_eq_true rfl) (by decide) dX2_copy_72 (fun H locs hP hD hS => ?_)
  have hP : va_P G vwCl [(o, .inr (2, [.ref a_zo, .ref a_he, .ref a_go, .ref a_le, .ref a_hd, .ref a_gn, .int la, .ref a_lv, .ref a_pa])), (a_zo, .inl (cI, 48, .inl p1_zo)), (a_he, .inl (cI, 48, .inl p1_he)), (a_go, .inl (cI, 48, .inl p1_go)), (a_le, .inl (cI, 6, .inl p1_le)), (a_hd, .inl (cI, 6, .inl (va_cpy p1_hd hd (0 : Int32).toNatClampNeg (0 : Int32).toNatClampNeg (6 : Int32).toNatClampNeg))), (a_gn, .inl (cI, 6, .inl gn)), (p1, .inr (2, fs_p1)), (a_p1_zo, .inl (cI, 48, .inl p1_zo)), (a_p1_he, .inl (cI, 48, .inl p1_he)), (a_p1_go, .inl (cI, 48, .inl p1_go)), (a_p1_le, .inl (cI, 6, .inl p1_le)), (a_p1_hd, .inl (cI, 6, .inl p1_hd)), (a_p1_gn, .inl (cI, 6, .inl p1_gn))] H := hP
  have hD : va_D A [(o, .inr (2, [.ref a_zo, .ref a_he, .ref a_go, .ref a_le, .ref a_hd, .ref a_gn, .int la, .ref a_lv, .ref a_pa])), (a_zo, .inl (cI, 48, .inl p1_zo)), (a_he, .inl (cI, 48, .inl p1_he)), (a_go, .inl (cI, 48, .inl p1_go)), (a_le, .inl (cI, 6, .inl p1_le)), (a_hd, .inl (cI, 6, .inl (va_cpy p1_hd hd (0 : Int32).toNatClampNeg (0 : Int32).toNatClampNeg (6 : Int32).toNatClampNeg))), (a_gn, .inl (cI, 6, .inl gn)), (p1, .inr (2, fs_p1)), (a_p1_zo, .inl (cI, 48, .inl p1_zo)), (a_p1_he, .inl (cI, 48, .inl p1_he)), (a_p1_go, .inl (cI, 48, .inl p1_go)), (a_p1_le, .inl (cI, 6, .inl p1_le)), (a_p1_hd, .inl (cI, 6, .inl p1_hd)), (a_p1_gn, .inl (cI, 6, .inl p1_gn))] := hD
  have hP := P_swap hP 5 p1_hd rfl (fun k h9 => cpy_all h9)
  have hD := D_swap hD 5 (.inl (cI, 6, .inl p1_hd)) rfl
  have hP : va_P G vwCl [(o, .inr (2, [.ref a_zo, .ref a_he, .ref a_go, .ref a_le, .ref a_hd, .ref a_gn, .int la, .ref a_lv, .ref a_pa])), (a_zo, .inl (cI, 48, .inl p1_zo)), (a_he, .inl (cI, 48, .inl p1_he)), (a_go, .inl (cI, 48, .inl p1_go)), (a_le, .inl (cI, 6, .inl p1_le)), (a_hd, .inl (cI, 6, .inl p1_hd)), (a_gn, .inl (cI, 6, .inl gn)), (p1, .inr (2, fs_p1)), (a_p1_zo, .inl (cI, 48, .inl p1_zo)), (a_p1_he, .inl (cI, 48, .inl p1_he)), (a_p1_go, .inl (cI, 48, .inl p1_go)), (a_p1_le, .inl (cI, 6, .inl p1_le)), (a_p1_hd, .inl (cI, 6, .inl p1_hd)), (a_p1_gn, .inl (cI, 6, .inl p1_gn))] H := hP
  have hD : va_D A [(o, .inr (2, [.ref a_zo, .ref a_he, .ref a_go, .ref a_le, .ref a_hd, .ref a_gn, .int la, .ref a_lv, .ref a_pa])), (a_zo, .inl (cI, 48, .inl p1_zo)), (a_he, .inl (cI, 48, .inl p1_he)), (a_go, .inl (cI, 48, .inl p1_go)), (a_le, .inl (cI, 6, .inl p1_le)), (a_hd, .inl (cI, 6, .inl p1_hd)), (a_gn, .inl (cI, 6, .inl gn)), (p1, .inr (2, fs_p1)), (a_p1_zo, .inl (cI, 48, .inl p1_zo)), (a_p1_he, .inl (cI, 48, .inl p1_he)), (a_p1_go, .inl (cI, 48, .inl p1_go)), (a_p1_le, .inl (cI, 6, .inl p1_le)), (a_p1_hd, .inl (cI, 6, .inl p1_hd)), (a_p1_gn, .inl (cI, 6, .inl p1_gn))] := hD
  refine lv_aload_n hx hb dX2_copy_75 rfl (lv_at hl 1 rfl) ?_
  refine va_get (D := G) (ci := 2) (v := .ref a_p1_gn) (C := RX2) (T := TX2) (N := 9) hx hb hts inlX2 hown hK hP 7 rfl rfl 5 (by decide) (hts (.fieldLink RX2 27 "EarthBanks$Slice" "grains" "[I") k_3_14) (fun _ h9 => h9) h_p1_gn dX2_copy_76 ?_
  refine lv_iconst (v := 0) hx hb dX2_copy_79 (by decide) ?_
  refine lv_aload_n hx hb dX2_copy_80 rfl (lv_at hl 0 rfl) ?_
  refine va_get (D := G) (ci := 2) (v := .ref a_gn) (C := RX2) (T := TX2) (N := 9) hx hb hts inlX2 hown hK hP 0 rfl rfl 5 (by decide) (hts (.fieldLink RX2 27 "EarthBanks$Slice" "grains" "[I") k_3_14) (fun _ h9 => h9) rfl dX2_copy_81 ?_
  refine lv_iconst (v := 0) hx hb dX2_copy_84 (by decide) ?_
  refine lv_bipush (v := 6) hx hb dX2_copy_85 (by decide) ?_
  refine va_copyi (ty := .int) hx hb (hml.trans hl.1.symm) hown (hts (.methodLink RX2 49 arraycopyName) k_13_9) (hts (.native arraycopyName) k_13_10) (hts (.static arraycopyName) k_13_11) (hts (.initialized "java/lang/System") k_13_12) hK hP hD hS 13 6 0 0 rfl rfl rfl rfl rfl (by decide) (by decide) (by decide) (by decide) (by decide) (fun _ _ => rfl) (Nat.le_of_ble_eq_true rfl) (by decide) dX2_copy_87 (fun H locs hP hD hS => ?_)
  have hP : va_P G vwCl [(o, .inr (2, [.ref a_zo, .ref a_he, .ref a_go, .ref a_le, .ref a_hd, .ref a_gn, .int la, .ref a_lv, .ref a_pa])), (a_zo, .inl (cI, 48, .inl p1_zo)), (a_he, .inl (cI, 48, .inl p1_he)), (a_go, .inl (cI, 48, .inl p1_go)), (a_le, .inl (cI, 6, .inl p1_le)), (a_hd, .inl (cI, 6, .inl p1_hd)), (a_gn, .inl (cI, 6, .inl (va_cpy p1_gn gn (0 : Int32).toNatClampNeg (0 : Int32).toNatClampNeg (6 : Int32).toNatClampNeg))), (p1, .inr (2, fs_p1)), (a_p1_zo, .inl (cI, 48, .inl p1_zo)), (a_p1_he, .inl (cI, 48, .inl p1_he)), (a_p1_go, .inl (cI, 48, .inl p1_go)), (a_p1_le, .inl (cI, 6, .inl p1_le)), (a_p1_hd, .inl (cI, 6, .inl p1_hd)), (a_p1_gn, .inl (cI, 6, .inl p1_gn))] H := hP
  have hD : va_D A [(o, .inr (2, [.ref a_zo, .ref a_he, .ref a_go, .ref a_le, .ref a_hd, .ref a_gn, .int la, .ref a_lv, .ref a_pa])), (a_zo, .inl (cI, 48, .inl p1_zo)), (a_he, .inl (cI, 48, .inl p1_he)), (a_go, .inl (cI, 48, .inl p1_go)), (a_le, .inl (cI, 6, .inl p1_le)), (a_hd, .inl (cI, 6, .inl p1_hd)), (a_gn, .inl (cI, 6, .inl (va_cpy p1_gn gn (0 : Int32).toNatClampNeg (0 : Int32).toNatClampNeg (6 : Int32).toNatClampNeg))), (p1, .inr (2, fs_p1)), (a_p1_zo, .inl (cI, 48, .inl p1_zo)), (a_p1_he, .inl (cI, 48, .inl p1_he)), (a_p1_go, .inl (cI, 48, .inl p1_go)), (a_p1_le, .inl (cI, 6, .inl p1_le)), (a_p1_hd, .inl (cI, 6, .inl p1_hd)), (a_p1_gn, .inl (cI, 6, .inl p1_gn))] := hD
  have hP := P_swap hP 6 p1_gn rfl (fun k h9 => cpy_all h9)
  have hD := D_swap hD 6 (.inl (cI, 6, .inl p1_gn)) rfl
  have hP : va_P G vwCl [(o, .inr (2, [.ref a_zo, .ref a_he, .ref a_go, .ref a_le, .ref a_hd, .ref a_gn, .int la, .ref a_lv, .ref a_pa])), (a_zo, .inl (cI, 48, .inl p1_zo)), (a_he, .inl (cI, 48, .inl p1_he)), (a_go, .inl (cI, 48, .inl p1_go)), (a_le, .inl (cI, 6, .inl p1_le)), (a_hd, .inl (cI, 6, .inl p1_hd)), (a_gn, .inl (cI, 6, .inl p1_gn)), (p1, .inr (2, fs_p1)), (a_p1_zo, .inl (cI, 48, .inl p1_zo)), (a_p1_he, .inl (cI, 48, .inl p1_he)), (a_p1_go, .inl (cI, 48, .inl p1_go)), (a_p1_le, .inl (cI, 6, .inl p1_le)), (a_p1_hd, .inl (cI, 6, .inl p1_hd)), (a_p1_gn, .inl (cI, 6, .inl p1_gn))] H := hP
  have hD : va_D A [(o, .inr (2, [.ref a_zo, .ref a_he, .ref a_go, .ref a_le, .ref a_hd, .ref a_gn, .int la, .ref a_lv, .ref a_pa])), (a_zo, .inl (cI, 48, .inl p1_zo)), (a_he, .inl (cI, 48, .inl p1_he)), (a_go, .inl (cI, 48, .inl p1_go)), (a_le, .inl (cI, 6, .inl p1_le)), (a_hd, .inl (cI, 6, .inl p1_hd)), (a_gn, .inl (cI, 6, .inl p1_gn)), (p1, .inr (2, fs_p1)), (a_p1_zo, .inl (cI, 48, .inl p1_zo)), (a_p1_he, .inl (cI, 48, .inl p1_he)), (a_p1_go, .inl (cI, 48, .inl p1_go)), (a_p1_le, .inl (cI, 6, .inl p1_le)), (a_p1_hd, .inl (cI, 6, .inl p1_hd)), (a_p1_gn, .inl (cI, 6, .inl p1_gn))] := hD
  refine lv_aload_n hx hb dX2_copy_90 rfl (lv_at hl 0 rfl) ?_
  refine lv_aload_n hx hb dX2_copy_91 rfl (lv_at hl 1 rfl) ?_
  refine va_get (D := G) (ci := 2) (v := .int p1_la) (C := RX2) (T := TX2) (N := 9) hx hb hts inlX2 hown hK hP 7 rfl rfl 6 (by decide) (hts (.fieldLink RX2 30 "EarthBanks$Slice" "lakeLevel" "I") k_3_15) (fun _ h9 => h9) h_p1_la dX2_copy_92 ?_
  refine va_put (D := G) (ci := 2) (v := .int p1_la) (ty := .int) (C := RX2) (T := TX2) (N := 9) hx hb hts inlX2 tyX2 tyX2_ok nmX2 hown hK hP hD hS 0 rfl rfl 6 (by decide) (hts (.fieldLink RX2 30 "EarthBanks$Slice" "lakeLevel" "I") k_3_15) (fun _ h9 => h9) rfl (by decide +kernel) (rfl) (rfl) (Nat.le_of_ble_eq_true rfl) dX2_copy_95 (fun H locs hP hD hS => ?_)
  have hP : va_P G vwCl [(o, .inr (2, [.ref a_zo, .ref a_he, .ref a_go, .ref a_le, .ref a_hd, .ref a_gn, .int p1_la, .ref a_lv, .ref a_pa])), (a_zo, .inl (cI, 48, .inl p1_zo)), (a_he, .inl (cI, 48, .inl p1_he)), (a_go, .inl (cI, 48, .inl p1_go)), (a_le, .inl (cI, 6, .inl p1_le)), (a_hd, .inl (cI, 6, .inl p1_hd)), (a_gn, .inl (cI, 6, .inl p1_gn)), (p1, .inr (2, fs_p1)), (a_p1_zo, .inl (cI, 48, .inl p1_zo)), (a_p1_he, .inl (cI, 48, .inl p1_he)), (a_p1_go, .inl (cI, 48, .inl p1_go)), (a_p1_le, .inl (cI, 6, .inl p1_le)), (a_p1_hd, .inl (cI, 6, .inl p1_hd)), (a_p1_gn, .inl (cI, 6, .inl p1_gn))] H := hP
  have hD : va_D A [(o, .inr (2, [.ref a_zo, .ref a_he, .ref a_go, .ref a_le, .ref a_hd, .ref a_gn, .int p1_la, .ref a_lv, .ref a_pa])), (a_zo, .inl (cI, 48, .inl p1_zo)), (a_he, .inl (cI, 48, .inl p1_he)), (a_go, .inl (cI, 48, .inl p1_go)), (a_le, .inl (cI, 6, .inl p1_le)), (a_hd, .inl (cI, 6, .inl p1_hd)), (a_gn, .inl (cI, 6, .inl p1_gn)), (p1, .inr (2, fs_p1)), (a_p1_zo, .inl (cI, 48, .inl p1_zo)), (a_p1_he, .inl (cI, 48, .inl p1_he)), (a_p1_go, .inl (cI, 48, .inl p1_go)), (a_p1_le, .inl (cI, 6, .inl p1_le)), (a_p1_hd, .inl (cI, 6, .inl p1_hd)), (a_p1_gn, .inl (cI, 6, .inl p1_gn))] := hD
  exact retWv () hx hb hr hlocks dX2_copy_98 hS (trivial) hP
theorem cal_X2_isAtLake : calV yX2_isAtLake cX2_isAtLake 2 (some .boolean) 1 := ⟨k_21_2, k_1_19, k_21_0, k_21_1, by decide +kernel⟩
set_option maxHeartbeats 4000000 in
set_option maxRecDepth 100000 in
theorem c_X2_isAtLake (l : Launch) (G : va_G) (E : EvT) (cI cZ : ClassId) (p : Nat) (o : Nat) (la : Int32) (fs_o : List Value) (h_o_la : fs_o[6]? = some (.int la)) (hp : p < 48) : cR l G E yX2_isAtLake cX2_isAtLake 2 (some .boolean) 1 [(cI, .int), (cZ, .boolean)] [.ref o, .int (nI p)] [(o, .inr (2, fs_o))] (bI (lkS la p)) := by
  refine mkR (by decide) (Nat.le_of_ble_eq_true rfl) ?_
  intro zp ze s zm args below meth zc hx hb hr hml hown hts hlocks hE hP hK ls hl
  have hS : va_S (fun _ => False) s.heap s.heap [] := va_S.rf
  have hlow : ∀ q : Nat, (fun _ : Nat => False) q → E.1 ≤ q := fun _ h => h.elim
  have hl : lv_has ls 2 [(0, .ref o), (1, .int (nI p))] := hl
  refine lv_iload_n hx hb dX2_isAtLake_0 rfl (lv_at hl 1 rfl) ?_
  refine lv_bipush (v := 8) hx hb dX2_isAtLake_1 (by decide) ?_
  refine lv_irem hx hb dX2_isAtLake_3 (by decide) ?_
  refine top_eq (y := nI (p % 8)) (pk_rem (a := p) (d := 8) (by omega) (by omega) (by omega)) ?_
  refine lv_if_ne (tgt := 22) hx hb dX2_isAtLake_4 (by decide) (fun c_1 => ?_) (fun c_1 => ?_)
  · skip
    have c_1 : ¬ (p % 8) = 0 := fun h9 => c_1 ((nI_eq (a := (p % 8)) (b := 0) (by omega) (by omega)).mpr h9)
    refine lv_iconst (v := 0) hx hb dX2_isAtLake_22 (by decide) ?_
    exact retR hx hb hr (rfl) hlocks dX2_isAtLake_23 (by simp [lkS, bI, c_1])
  · skip
    have c_1 : (p % 8) = 0 := (nI_eq (a := (p % 8)) (b := 0) (by omega) (by omega)).mp c_1
    refine lv_iload_n hx hb dX2_isAtLake_7 rfl (lv_at hl 1 rfl) ?_
    refine lv_bipush (v := 8) hx hb dX2_isAtLake_8 (by decide) ?_
    refine lv_idiv hx hb dX2_isAtLake_10 (by decide) ?_
    refine top_eq (y := nI (p / 8)) (pk_div (a := p) (d := 8) (by omega) (by omega) (by omega)) ?_
    refine lv_aload_n hx hb dX2_isAtLake_11 rfl (lv_at hl 0 rfl) ?_
    refine va_get (D := G) (ci := 2) (v := .int la) (C := RX2) (T := TX2) (N := 9) hx hb hts inlX2 hown hK hP 0 rfl rfl 6 (by decide) (hts (.fieldLink RX2 30 "EarthBanks$Slice" "lakeLevel" "I") k_3_15) (fun _ h9 => h9) h_o_la dX2_isAtLake_12 ?_
    refine lv_icmp_ge (tgt := 22) hx hb dX2_isAtLake_15 (by decide) (fun c_2 => ?_) (fun c_2 => ?_)
    · skip
      refine lv_iconst (v := 0) hx hb dX2_isAtLake_22 (by decide) ?_
      exact retR hx hb hr (rfl) hlocks dX2_isAtLake_23 (by simp [lkS, bI, c_1, c_2])
    · skip
      refine lv_iconst (v := 1) hx hb dX2_isAtLake_18 (by decide) ?_
      refine lv_goto (tgt := 23) hx hb dX2_isAtLake_19 (by decide) ?_
      exact retR hx hb hr (rfl) hlocks dX2_isAtLake_23 (by simp [lkS, bI, c_1, c_2])
theorem cal_X2_isAtFoot : calV yX2_isAtFoot cX2_isAtFoot 2 (some .boolean) 1 := ⟨k_21_6, k_1_19, k_21_4, k_21_5, by decide +kernel⟩
set_option maxHeartbeats 4000000 in
set_option maxRecDepth 100000 in
theorem c_X2_isAtFoot (l : Launch) (G : va_G) (E : EvT) (cI cZ : ClassId) (p : Nat) (o : Nat) (fs_o : List Value) (hp : p < 48) : cR l G E yX2_isAtFoot cX2_isAtFoot 2 (some .boolean) 1 [(cI, .int), (cZ, .boolean)] [.ref o, .int (nI p)] [(o, .inr (2, fs_o))] (bI (decide (p = 7))) := by
  refine mkR (by decide) (Nat.le_of_ble_eq_true rfl) ?_
  intro zp ze s zm args below meth zc hx hb hr hml hown hts hlocks hE hP hK ls hl
  have hS : va_S (fun _ => False) s.heap s.heap [] := va_S.rf
  have hlow : ∀ q : Nat, (fun _ : Nat => False) q → E.1 ≤ q := fun _ h => h.elim
  have hl : lv_has ls 2 [(0, .ref o), (1, .int (nI p))] := hl
  refine lv_iload_n hx hb dX2_isAtFoot_0 rfl (lv_at hl 1 rfl) ?_
  refine lv_bipush (v := 7) hx hb dX2_isAtFoot_1 (by decide) ?_
  refine lv_icmp_ne (tgt := 10) hx hb dX2_isAtFoot_3 (by decide) (fun c_1 => ?_) (fun c_1 => ?_)
  · skip
    have c_1 : ¬ p = 7 := fun h9 => c_1 ((nI_eq (a := p) (b := 7) (by omega) (by omega)).mpr h9)
    refine lv_iconst (v := 0) hx hb dX2_isAtFoot_10 (by decide) ?_
    exact retR hx hb hr (rfl) hlocks dX2_isAtFoot_11 (by simp [bI, c_1])
  · skip
    have c_1 : p = 7 := (nI_eq (a := p) (b := 7) (by omega) (by omega)).mp c_1
    refine lv_iconst (v := 1) hx hb dX2_isAtFoot_6 (by decide) ?_
    refine lv_goto (tgt := 11) hx hb dX2_isAtFoot_7 (by decide) ?_
    exact retR hx hb hr (rfl) hlocks dX2_isAtFoot_11 (by simp [bI, c_1])
theorem cal_X2_neighbour : calS yX2_neighbour cX2_neighbour 4 (some .int) 2 := ⟨k_21_18, k_1_19, k_21_17, by decide +kernel⟩
set_option maxHeartbeats 4000000 in
set_option maxRecDepth 100000 in
theorem c_X2_neighbour (l : Launch) (G : va_G) (E : EvT) (cI cZ : ClassId) (p : Nat) (d : Nat) (hp : p < 48) (hd : d < 4) : cR l G E yX2_neighbour cX2_neighbour 4 (some .int) 1 [(cI, .int), (cZ, .boolean)] [.int (nI p), .int (nI d)] [] (ooI (nb p d)) := by
  refine mkR (by decide) (Nat.le_of_ble_eq_true rfl) ?_
  intro zp ze s zm args below meth zc hx hb hr hml hown hts hlocks hE hP hK ls hl
  have hS : va_S (fun _ => False) s.heap s.heap [] := va_S.rf
  have hlow : ∀ q : Nat, (fun _ : Nat => False) q → E.1 ≤ q := fun _ h => h.elim
  have hl : lv_has ls 4 [(0, .int (nI p)), (1, .int (nI d))] := hl
  refine lv_iload_n hx hb dX2_neighbour_0 rfl (lv_at hl 0 rfl) ?_
  refine lv_bipush (v := 8) hx hb dX2_neighbour_1 (by decide) ?_
  refine lv_irem hx hb dX2_neighbour_3 (by decide) ?_
  refine top_eq (y := nI (p % 8)) (pk_rem (a := p) (d := 8) (by omega) (by omega) (by omega)) ?_
  refine va_getsN (C := "EarthBanks") (n := "STEP_X") (d := "[I") (own := RX2) (ref := "EarthBanks") (host := "EarthBanks") (v := .ref E.2.2.2.1) (index := 104) hx hb (hE.2.2.1.narrow hlow) hS hown (va_Nw.use rfl (hE.2.1.1 ("EarthBanks$Slice", 104, "EarthBanks", "STEP_X", "[I", "EarthBanks") (by decide +kernel))) (fun _ h9 => h9) dX2_neighbour_4 ?_
  refine lv_iload_n hx hb dX2_neighbour_7 rfl (lv_at hl 1 rfl) ?_
  refine va_ti (v := .int (sxI d)) hx hb (hE.2.2.2.1.narrow hlow) hS (vp_in_nI (by omega) (by omega)) (by rw [nI_clamp (by omega)]) dX2_neighbour_8 ?_
  refine lv_iadd hx hb dX2_neighbour_9 ?_
  refine lv_istore_n (lv' := [(2, .int ((nI (p % 8)) + (sxI d))), (0, .int (nI p)), (1, .int (nI d))]) hx hb dX2_neighbour_10 rfl hl (by decide) rfl (fun ls hl => ?_)
  refine lv_iload_n hx hb dX2_neighbour_11 rfl (lv_at hl 1 rfl) ?_
  refine lv_bipush (v := 8) hx hb dX2_neighbour_12 (by decide) ?_
  refine lv_idiv hx hb dX2_neighbour_14 (by decide) ?_
  refine top_eq (y := nI (p / 8)) (pk_div (a := p) (d := 8) (by omega) (by omega) (by omega)) ?_
  refine va_getsN (C := "EarthBanks") (n := "STEP_Y") (d := "[I") (own := RX2) (ref := "EarthBanks") (host := "EarthBanks") (v := .ref E.2.2.2.2) (index := 113) hx hb (hE.2.2.2.2.1.narrow hlow) hS hown (va_Nw.use rfl (hE.2.1.1 ("EarthBanks$Slice", 113, "EarthBanks", "STEP_Y", "[I", "EarthBanks") (by decide +kernel))) (fun _ h9 => h9) dX2_neighbour_15 ?_
  refine lv_iload_n hx hb dX2_neighbour_18 rfl (lv_at hl 2 rfl) ?_
  refine va_ti (v := .int (syI d)) hx hb (hE.2.2.2.2.2.1.narrow hlow) hS (vp_in_nI (by omega) (by omega)) (by rw [nI_clamp (by omega)]) dX2_neighbour_19 ?_
  refine lv_iadd hx hb dX2_neighbour_20 ?_
  refine lv_istore_n (lv' := [(3, .int ((nI (p / 8)) + (syI d))), (2, .int ((nI (p % 8)) + (sxI d))), (0, .int (nI p)), (1, .int (nI d))]) hx hb dX2_neighbour_21 rfl hl (by decide) rfl (fun ls hl => ?_)
  refine lv_iload_n hx hb dX2_neighbour_22 rfl (lv_at hl 1 rfl) ?_
  refine lv_if_lt (tgt := 42) hx hb dX2_neighbour_23 (by decide) (fun c_1 => ?_) (fun c_1 => ?_)
  · skip
    refine lv_bipush (v := (-9)) hx hb dX2_neighbour_42 (by decide) ?_
    exact retR hx hb hr (rfl) hlocks dX2_neighbour_44 (by rw [nb_eq hp hd]; simp [nbX, nbY, c_1])
  · skip
    refine lv_iload_n hx hb dX2_neighbour_26 rfl (lv_at hl 1 rfl) ?_
    refine lv_bipush (v := 8) hx hb dX2_neighbour_27 (by decide) ?_
    refine lv_icmp_ge (tgt := 42) hx hb dX2_neighbour_29 (by decide) (fun c_2 => ?_) (fun c_2 => ?_)
    · skip
      refine lv_bipush (v := (-9)) hx hb dX2_neighbour_42 (by decide) ?_
      exact retR hx hb hr (rfl) hlocks dX2_neighbour_44 (by rw [nb_eq hp hd]; simp [nbX, nbY, c_1, c_2])
    · skip
      refine lv_iload_n hx hb dX2_neighbour_32 rfl (lv_at hl 0 rfl) ?_
      refine lv_if_lt (tgt := 42) hx hb dX2_neighbour_33 (by decide) (fun c_3 => ?_) (fun c_3 => ?_)
      · skip
        refine lv_bipush (v := (-9)) hx hb dX2_neighbour_42 (by decide) ?_
        exact retR hx hb hr (rfl) hlocks dX2_neighbour_44 (by rw [nb_eq hp hd]; simp [nbX, nbY, c_1, c_2, c_3])
      · skip
        refine lv_iload_n hx hb dX2_neighbour_36 rfl (lv_at hl 0 rfl) ?_
        refine lv_bipush (v := 6) hx hb dX2_neighbour_37 (by decide) ?_
        refine lv_icmp_lt (tgt := 45) hx hb dX2_neighbour_39 (by decide) (fun c_4 => ?_) (fun c_4 => ?_)
        · skip
          refine lv_bipush (v := 8) hx hb dX2_neighbour_45 (by decide) ?_
          refine lv_iload_n hx hb dX2_neighbour_47 rfl (lv_at hl 0 rfl) ?_
          refine lv_imul hx hb dX2_neighbour_48 ?_
          refine lv_iload_n hx hb dX2_neighbour_49 rfl (lv_at hl 1 rfl) ?_
          refine lv_iadd hx hb dX2_neighbour_50 ?_
          exact retR hx hb hr (rfl) hlocks dX2_neighbour_51 (by rw [nb_eq hp hd]; simp [nbX, nbY, c_1, c_2, c_3, c_4])
        · skip
          refine lv_bipush (v := (-9)) hx hb dX2_neighbour_42 (by decide) ?_
          exact retR hx hb hr (rfl) hlocks dX2_neighbour_44 (by rw [nb_eq hp hd]; simp [nbX, nbY, c_1, c_2, c_3, c_4])
theorem cal_X2_notePassing : calV yX2_notePassing cX2_notePassing 2 none 0 := ⟨k_20_18, k_1_19, k_20_16, k_20_17, by decide +kernel⟩
set_option maxHeartbeats 4000000 in
set_option maxRecDepth 100000 in
theorem c_X2_notePassing (l : Launch) (G : va_G) (E : EvT) (cI cZ : ClassId) (o : Nat) (a_zo : Nat) (a_go : Nat) (a_le : Nat) (a_pa : Nat) (fs_o : List Value) (h_o_pa : fs_o[8]? = some (.ref a_pa)) (h_o_zo : fs_o[0]? = some (.ref a_zo)) (h_o_go : fs_o[2]? = some (.ref a_go)) (h_o_le : fs_o[3]? = some (.ref a_le)) (zo : Nat → Int32) (go : Nat → Int32) (le : Nat → Int32) (pa : Nat → Int32) : cWv (S := Unit) l G E yX2_notePassing cX2_notePassing 2 none 3 [(cI, .int), (cZ, .boolean)] [.ref o] [(o, .inr (2, fs_o)), (a_zo, .inl (cI, 48, .inl zo)), (a_go, .inl (cI, 48, .inl go)), (a_le, .inl (cI, 6, .inl le)), (a_pa, .inl (cI, 48, .inl pa))] (fun _ => True) (fun _ => [(o, .inr (2, fs_o)), (a_zo, .inl (cI, 48, .inl zo)), (a_go, .inl (cI, 48, .inl go)), (a_le, .inl (cI, 6, .inl le)), (a_pa, .inl (cI, 48, .inl (paS zo go le)))]) := by
  refine mkWv (by decide) (Nat.le_of_ble_eq_true rfl) ?_
  intro zp ze s zm args below meth zc hx hb hr hml hown hts hlocks hE hK A hA hlow H locs hP hD hS ls hl
  have hl : lv_has ls 2 [(0, .ref o)] := hl
  refine lv_iconst (v := 0) hx hb dX2_notePassing_0 (by decide) ?_
  refine lv_istore_n (lv' := [(1, .int 0), (0, .ref o)]) hx hb dX2_notePassing_1 rfl hl (by decide) rfl (fun ls hl => ?_)
  suffices lp2 : ∀ zn k2 : Nat, 0 ≤ k2 → k2 ≤ 48 → 48 < k2 + zn → ∀ (H : Heap) (locs : List Loc), va_P G vwCl [(o, .inr (2, fs_o)), (a_zo, .inl (cI, 48, .inl zo)), (a_go, .inl (cI, 48, .inl go)), (a_le, .inl (cI, 6, .inl le)), (a_pa, .inl (cI, 48, .inl (filS (paS zo go le) pa k2)))] H → va_D A [(o, .inr (2, fs_o)), (a_zo, .inl (cI, 48, .inl zo)), (a_go, .inl (cI, 48, .inl go)), (a_le, .inl (cI, 6, .inl le)), (a_pa, .inl (cI, 48, .inl (filS (paS zo go le) pa k2)))] → va_S A s.heap H locs → ∀ ls : Array Slot, lv_has ls 2 [(0, .ref o), (1, .int (nI k2))] → W zp l ze (rmK 3) s zm args below meth zc H locs 0 0 (MQ below (va_Qv (S := Unit) (fun _ => True) (fun u t => va_P G vwCl ((fun _ => [(o, .inr (2, fs_o)), (a_zo, .inl (cI, 48, .inl zo)), (a_go, .inl (cI, 48, .inl go)), (a_le, .inl (cI, 6, .inl le)), (a_pa, .inl (cI, 48, .inl (paS zo go le)))]) u) t.heap) A) args s 0 0 A) (F0 zm 2 ls []) by
    have el_1 : (0 : Int32) = nI 0 := rfl
    have er_2 : pa = (filS (paS zo go le) pa 0) := (filS_0 _ _).symm
    exact lp2 (48 + 1 - 0) 0 (by omega) (by omega) (by omega)  H locs (by rw [← er_2]; exact hP) (by rw [← er_2]; exact hD) hS ls (lv_sub hl [1, 0] (show ([(0, .ref o), (1, .int 0)] : List (Nat × Value)) = [(0, .ref o), (1, .int (nI 0))] by rw [← el_1]))
  intro zn
  induction zn with
  | zero => exact fun k2 h1 h2 h3 => absurd h3 (by omega)
  | succ zn ih2 =>
    intro k2 hlo2 hhi2 hn2  H locs hP hD hS ls hl
    refine lv_iload_n hx hb dX2_notePassing_2 rfl (lv_at hl 1 rfl) ?_
    refine lv_bipush (v := 48) hx hb dX2_notePassing_3 (by decide) ?_
    refine lv_icmp_ge (tgt := 43) hx hb dX2_notePassing_5 (by decide) (fun c_3 => ?_) (fun c_3 => ?_)
    · skip
      have c_3 : 48 ≤ k2 := (nI_leI (a := 48) (b := k2) (by omega) (by omega)).mp c_3
      have hk9 : 48 = k2 := by omega
      subst hk9
      have hP := P_swap hP 4 (paS zo go le) rfl (fun k h9 => filS_in h9)
      have hP : va_P G vwCl [(o, .inr (2, fs_o)), (a_zo, .inl (cI, 48, .inl zo)), (a_go, .inl (cI, 48, .inl go)), (a_le, .inl (cI, 6, .inl le)), (a_pa, .inl (cI, 48, .inl (paS zo go le)))] H := hP
      exact retWv () hx hb hr hlocks dX2_notePassing_43 hS (trivial) hP
    · skip
      have c_3 : ¬ 48 ≤ k2 := fun h9 => c_3 ((nI_leI (a := 48) (b := k2) (by omega) (by omega)).mpr h9)
      refine lv_aload_n hx hb dX2_notePassing_8 rfl (lv_at hl 0 rfl) ?_
      refine va_get (D := G) (ci := 2) (v := .ref a_pa) (C := RX2) (T := TX2) (N := 9) hx hb hts inlX2 hown hK hP 0 rfl rfl 8 (by decide) (hts (.fieldLink RX2 37 "EarthBanks$Slice" "passing" "[I") k_3_17) (fun _ h9 => h9) h_o_pa dX2_notePassing_9 ?_
      refine lv_iload_n hx hb dX2_notePassing_12 rfl (lv_at hl 1 rfl) ?_
      refine lv_aload_n hx hb dX2_notePassing_13 rfl (lv_at hl 0 rfl) ?_
      refine lv_iload_n hx hb dX2_notePassing_14 rfl (lv_at hl 1 rfl) ?_
      refine cRV (As := [.int (nI k2)]) (rest := [.int (nI k2), .ref a_pa]) hx hb hml hown hts (c_X2_isEarth l G E cI cZ k2 o a_zo a_go fs_o h_o_zo h_o_go zo go (by first | assumption | omega | simp [paS, atZ, bI, c_3])) k_13_17 cal_X2_isEarth ⟨Nat.le_of_ble_eq_true rfl, Nat.le_of_ble_eq_true rfl⟩ hE hlow hS hK [0, 1] rfl hP [0, 1, 2] rfl 0 2 rfl rfl rfl hl.1 rfl (Nat.le_of_ble_eq_true rfl) dX2_notePassing_15 ⟨Nat.zero_le _, Nat.zero_le _⟩ ?_
      refine lv_if_eq (tgt := 35) hx hb dX2_notePassing_18 (by decide) (fun c_4 => ?_) (fun c_4 => ?_)
      · skip
        have c_4 : (isES zo go k2) = false := bI_f c_4
        refine lv_iconst (v := 0) hx hb dX2_notePassing_35 (by decide) ?_
        refine iastN (j := k2) hx hb hK hP hD hS 4 0 rfl rfl (by omega) (by decide) dX2_notePassing_36 (fun H locs hP hD hS => ?_)
        have hP : va_P G vwCl [(o, .inr (2, fs_o)), (a_zo, .inl (cI, 48, .inl zo)), (a_go, .inl (cI, 48, .inl go)), (a_le, .inl (cI, 6, .inl le)), (a_pa, .inl (cI, 48, .inl (upd (filS (paS zo go le) pa k2) k2 0)))] H := hP
        have hD : va_D A [(o, .inr (2, fs_o)), (a_zo, .inl (cI, 48, .inl zo)), (a_go, .inl (cI, 48, .inl go)), (a_le, .inl (cI, 6, .inl le)), (a_pa, .inl (cI, 48, .inl (upd (filS (paS zo go le) pa k2) k2 0)))] := hD
        refine lv_iinc (v := nI (k2 + 1)) (lv' := [(1, .int (nI (k2 + 1))), (0, .ref o)]) hx hb dX2_notePassing_37 hl (k := 1) rfl (nI_add _ _) (by decide) rfl (fun ls hl => ?_)
        refine lv_goto (tgt := 2) hx hb dX2_notePassing_40 (by decide) ?_
        have er_5 : (upd (filS (paS zo go le) pa k2) k2 0) = (filS (paS zo go le) pa (k2 + 1)) := filS_s _ _ _ _ (by simp [paS, atZ, bI, c_3, c_4])
        exact ih2 (k2 + 1) (by omega) (by omega) (by omega)  H locs (by rw [← er_5]; exact hP) (by rw [← er_5]; exact hD) hS ls (lv_sub hl [1, 0] rfl)
      · skip
        have c_4 : (isES zo go k2) = true := bI_t c_4
        refine lv_aload_n hx hb dX2_notePassing_21 rfl (lv_at hl 0 rfl) ?_
        refine va_get (D := G) (ci := 2) (v := .ref a_le) (C := RX2) (T := TX2) (N := 9) hx hb hts inlX2 hown hK hP 0 rfl rfl 3 (by decide) (hts (.fieldLink RX2 21 "EarthBanks$Slice" "leads" "[I") k_3_12) (fun _ h9 => h9) h_o_le dX2_notePassing_22 ?_
        refine lv_aload_n hx hb dX2_notePassing_25 rfl (lv_at hl 0 rfl) ?_
        refine va_get (D := G) (ci := 2) (v := .ref a_zo) (C := RX2) (T := TX2) (N := 9) hx hb hts inlX2 hown hK hP 0 rfl rfl 0 (by decide) (hts (.fieldLink RX2 9 "EarthBanks$Slice" "zones" "[I") k_3_9) (fun _ h9 => h9) h_o_zo dX2_notePassing_26 ?_
        refine lv_iload_n hx hb dX2_notePassing_29 rfl (lv_at hl 1 rfl) ?_
        refine ialdN (j := k2) hx hb hK hP 1 0 rfl rfl (by omega) (by decide) dX2_notePassing_30 ?_
        refine va_iald hx hb hK hP 3 0 rfl rfl (zo_isE c_4) dX2_notePassing_31 ?_
        refine lv_goto (tgt := 36) hx hb dX2_notePassing_32 (by decide) ?_
        refine iastN (j := k2) hx hb hK hP hD hS 4 0 rfl rfl (by omega) (by decide) dX2_notePassing_36 (fun H locs hP hD hS => ?_)
        have hP : va_P G vwCl [(o, .inr (2, fs_o)), (a_zo, .inl (cI, 48, .inl zo)), (a_go, .inl (cI, 48, .inl go)), (a_le, .inl (cI, 6, .inl le)), (a_pa, .inl (cI, 48, .inl (upd (filS (paS zo go le) pa k2) k2 (le (zo k2).toNatClampNeg))))] H := hP
        have hD : va_D A [(o, .inr (2, fs_o)), (a_zo, .inl (cI, 48, .inl zo)), (a_go, .inl (cI, 48, .inl go)), (a_le, .inl (cI, 6, .inl le)), (a_pa, .inl (cI, 48, .inl (upd (filS (paS zo go le) pa k2) k2 (le (zo k2).toNatClampNeg))))] := hD
        refine lv_iinc (v := nI (k2 + 1)) (lv' := [(1, .int (nI (k2 + 1))), (0, .ref o)]) hx hb dX2_notePassing_37 hl (k := 1) rfl (nI_add _ _) (by decide) rfl (fun ls hl => ?_)
        refine lv_goto (tgt := 2) hx hb dX2_notePassing_40 (by decide) ?_
        have er_6 : (upd (filS (paS zo go le) pa k2) k2 (le (zo k2).toNatClampNeg)) = (filS (paS zo go le) pa (k2 + 1)) := filS_s _ _ _ _ (by simp [paS, atZ, bI, c_3, c_4])
        exact ih2 (k2 + 1) (by omega) (by omega) (by omega)  H locs (by rw [← er_6]; exact hP) (by rw [← er_6]; exact hD) hS ls (lv_sub hl [1, 0] rfl)
theorem cal_X2_leadsAround : calV yX2_leadsAround cX2_leadsAround 5 (some .int) 1 := ⟨k_21_14, k_1_19, k_21_12, k_21_13, by decide +kernel⟩
set_option maxHeartbeats 4000000 in
set_option maxRecDepth 100000 in
theorem c_X2_leadsAround (l : Launch) (G : va_G) (E : EvT) (cI cZ : ClassId) (p : Nat) (o : Nat) (a_pa : Nat) (fs_o : List Value) (h_o_pa : fs_o[8]? = some (.ref a_pa)) (pa : Nat → Int32) (hp : p < 48) : cR l G E yX2_leadsAround cX2_leadsAround 5 (some .int) 2 [(cI, .int), (cZ, .boolean)] [.ref o, .int (nI p)] [(o, .inr (2, fs_o)), (a_pa, .inl (cI, 48, .inl pa))] (sumS (ldT pa p) 4) := by
  refine mkR (by decide) (Nat.le_of_ble_eq_true rfl) ?_
  intro zp ze s zm args below meth zc hx hb hr hml hown hts hlocks hE hP hK ls hl
  have hS : va_S (fun _ => False) s.heap s.heap [] := va_S.rf
  have hlow : ∀ q : Nat, (fun _ : Nat => False) q → E.1 ≤ q := fun _ h => h.elim
  have hl : lv_has ls 5 [(0, .ref o), (1, .int (nI p))] := hl
  refine lv_iconst (v := 0) hx hb dX2_leadsAround_0 (by decide) ?_
  refine lv_istore_n (lv' := [(2, .int 0), (0, .ref o), (1, .int (nI p))]) hx hb dX2_leadsAround_1 rfl hl (by decide) rfl (fun ls hl => ?_)
  refine lv_iconst (v := 0) hx hb dX2_leadsAround_2 (by decide) ?_
  refine lv_istore_n (lv' := [(3, .int 0), (2, .int 0), (0, .ref o), (1, .int (nI p))]) hx hb dX2_leadsAround_3 rfl hl (by decide) rfl (fun ls hl => ?_)
  suffices lp4 : ∀ zn k4 : Nat, 0 ≤ k4 → k4 ≤ 4 → 4 < k4 + zn → ∀ ls : Array Slot, lv_has ls 5 [(0, .ref o), (1, .int (nI p)), (2, .int (sumS (ldT pa p) k4)), (3, .int (nI k4))] → W zp l ze (rmK 2) s zm args below meth zc s.heap [] 0 0 (MQ below (vp_Si (fun zx => zx = sumS (ldT pa p) 4)) args s 0 0 (fun _ => False)) (F0 zm 4 ls []) by
    have el_1 : (0 : Int32) = sumS (ldT pa p) 0 := by simp [sumS, ldT, fwT, mnI, sumS, bI]
    have el_2 : (0 : Int32) = nI 0 := rfl
    exact lp4 (4 + 1 - 0) 0 (by omega) (by omega) (by omega)  ls (lv_sub hl [2, 3, 1, 0] (show ([(0, .ref o), (1, .int (nI p)), (2, .int 0), (3, .int 0)] : List (Nat × Value)) = [(0, .ref o), (1, .int (nI p)), (2, .int (sumS (ldT pa p) 0)), (3, .int (nI 0))] by rw [← el_1, ← el_2]))
  intro zn
  induction zn with
  | zero => exact fun k4 h1 h2 h3 => absurd h3 (by omega)
  | succ zn ih4 =>
    intro k4 hlo4 hhi4 hn4  ls hl
    refine lv_iload_n hx hb dX2_leadsAround_4 rfl (lv_at hl 3 rfl) ?_
    refine va_getsN (C := "EarthBanks") (n := "STEP_X") (d := "[I") (own := RX2) (ref := "EarthBanks") (host := "EarthBanks") (v := .ref E.2.2.2.1) (index := 104) hx hb (hE.2.2.1.narrow hlow) hS hown (va_Nw.use rfl (hE.2.1.1 ("EarthBanks$Slice", 104, "EarthBanks", "STEP_X", "[I", "EarthBanks") (by decide +kernel))) (fun _ h9 => h9) dX2_leadsAround_5 ?_
    refine va_tlen (v := 4) hx hb (hE.2.2.2.1.narrow hlow) hS (by decide) dX2_leadsAround_8 ?_
    refine lv_icmp_ge (tgt := 51) hx hb dX2_leadsAround_9 (by decide) (fun c_3 => ?_) (fun c_3 => ?_)
    · skip
      have c_3 : 4 ≤ k4 := (nI_leI (a := 4) (b := k4) (by omega) (by omega)).mp c_3
      have hk9 : 4 = k4 := by omega
      subst hk9
      refine lv_iload_n hx hb dX2_leadsAround_51 rfl (lv_at hl 2 rfl) ?_
      exact retR hx hb hr (rfl) hlocks dX2_leadsAround_52 (rfl)
    · skip
      have c_3 : ¬ 4 ≤ k4 := fun h9 => c_3 ((nI_leI (a := 4) (b := k4) (by omega) (by omega)).mpr h9)
      refine lv_iload_n hx hb dX2_leadsAround_12 rfl (lv_at hl 1 rfl) ?_
      refine lv_iload_n hx hb dX2_leadsAround_13 rfl (lv_at hl 3 rfl) ?_
      refine cRS (As := [.int (nI p), .int (nI k4)]) (rest := []) hx hb hml hown hts (c_X2_neighbour l G E cI cZ p k4 (hp) (by first | assumption | omega | simp [sumS, ldT, fwT, mnI, bI, c_3])) k_21_16 cal_X2_neighbour ⟨Nat.le_of_ble_eq_true rfl, Nat.le_of_ble_eq_true rfl⟩ hE hlow hS hK [0, 1] rfl hP [] rfl rfl hl.1 rfl (Nat.le_of_ble_eq_true rfl) dX2_leadsAround_14 ⟨Nat.zero_le _, Nat.zero_le _⟩ ?_
      rcases nb_cases (p := p) (d := k4) (by omega) with ⟨hn_4, e_7⟩ | ⟨q_5, hq_6, hn_4, e_7⟩
      · skip
        refine top_eq (y := (-9)) (e_7) ?_
        refine lv_istore (lv' := [(4, .int (-9)), (0, .ref o), (1, .int (nI p)), (2, .int (sumS (ldT pa p) k4)), (3, .int (nI k4))]) hx hb dX2_leadsAround_17 hl (by decide) rfl (fun ls hl => ?_)
        refine lv_iload hx hb dX2_leadsAround_19 (lv_at hl 0 rfl) ?_
        refine lv_bipush (v := (-9)) hx hb dX2_leadsAround_21 (by decide) ?_
        refine lv_icmp_eq (tgt := 45) hx hb dX2_leadsAround_23 (by decide) (fun c_8 => ?_) (fun c_8 => ?_)
        · skip
          refine lv_iinc (v := nI (k4 + 1)) (lv' := [(3, .int (nI (k4 + 1))), (4, .int (-9)), (0, .ref o), (1, .int (nI p)), (2, .int (sumS (ldT pa p) k4))]) hx hb dX2_leadsAround_45 hl (k := 4) rfl (nI_add _ _) (by decide) rfl (fun ls hl => ?_)
          refine lv_goto (tgt := 4) hx hb dX2_leadsAround_48 (by decide) ?_
          have el_9 : (sumS (ldT pa p) k4 : Int32) = sumS (ldT pa p) (k4 + 1) := by simp [sumS, ldT, fwT, mnI, sumS, bI, c_3, hn_4, c_8]
          exact ih4 (k4 + 1) (by omega) (by omega) (by omega)  ls (lv_sub hl [2, 3, 4, 0] (show ([(0, .ref o), (1, .int (nI p)), (2, .int (sumS (ldT pa p) k4)), (3, .int (nI (k4 + 1)))] : List (Nat × Value)) = [(0, .ref o), (1, .int (nI p)), (2, .int (sumS (ldT pa p) (k4 + 1))), (3, .int (nI (k4 + 1)))] by rw [← el_9]))
        · skip
          exact absurd rfl c_8
      · skip
        refine top_eq (y := nI q_5) (e_7) ?_
        refine lv_istore (lv' := [(4, .int (nI q_5)), (0, .ref o), (1, .int (nI p)), (2, .int (sumS (ldT pa p) k4)), (3, .int (nI k4))]) hx hb dX2_leadsAround_17 hl (by decide) rfl (fun ls hl => ?_)
        refine lv_iload hx hb dX2_leadsAround_19 (lv_at hl 0 rfl) ?_
        refine lv_bipush (v := (-9)) hx hb dX2_leadsAround_21 (by decide) ?_
        refine lv_icmp_eq (tgt := 45) hx hb dX2_leadsAround_23 (by decide) (fun c_10 => ?_) (fun c_10 => ?_)
        · skip
          exact absurd c_10 (nI_ne9 (by omega))
        · skip
          refine lv_iload_n hx hb dX2_leadsAround_26 rfl (lv_at hl 3 rfl) ?_
          refine lv_aload_n hx hb dX2_leadsAround_27 rfl (lv_at hl 1 rfl) ?_
          refine va_get (D := G) (ci := 2) (v := .ref a_pa) (C := RX2) (T := TX2) (N := 9) hx hb hts inlX2 hown hK hP 0 rfl rfl 8 (by decide) (hts (.fieldLink RX2 37 "EarthBanks$Slice" "passing" "[I") k_3_17) (fun _ h9 => h9) h_o_pa dX2_leadsAround_28 ?_
          refine lv_iload_n hx hb dX2_leadsAround_31 rfl (lv_at hl 2 rfl) ?_
          refine ialdN (j := p) hx hb hK hP 1 0 rfl rfl (by omega) (by decide) dX2_leadsAround_32 ?_
          refine lv_aload_n hx hb dX2_leadsAround_33 rfl (lv_at hl 1 rfl) ?_
          refine va_get (D := G) (ci := 2) (v := .ref a_pa) (C := RX2) (T := TX2) (N := 9) hx hb hts inlX2 hown hK hP 0 rfl rfl 8 (by decide) (hts (.fieldLink RX2 37 "EarthBanks$Slice" "passing" "[I") k_3_17) (fun _ h9 => h9) h_o_pa dX2_leadsAround_34 ?_
          refine lv_iload hx hb dX2_leadsAround_37 (lv_at hl 0 rfl) ?_
          refine ialdN (j := q_5) hx hb hK hP 1 0 rfl rfl (by omega) (by decide) dX2_leadsAround_39 ?_
          refine va_mmin hx hb (hml.trans hl.1.symm) hown (hts (.methodLink RX2 110 Lib.Math.min.name) k_21_15) (hts (.static Lib.Math.min.name) k_9_18) (hts (.initialized "java/lang/Math") k_9_19) (hts (.code Lib.Math.min.name Lib.Math.min.code 2 (some .int)) k_9_20) (Nat.le_of_ble_eq_true rfl) (Nat.le_of_ble_eq_true rfl) (Nat.zero_le _) (Nat.zero_le _) dX2_leadsAround_40 ?_
          refine lv_iadd hx hb dX2_leadsAround_43 ?_
          refine lv_istore_n (lv' := [(2, .int ((sumS (ldT pa p) k4) + (if (pa q_5) < (pa p) then (pa q_5) else (pa p)))), (4, .int (nI q_5)), (0, .ref o), (1, .int (nI p)), (3, .int (nI k4))]) hx hb dX2_leadsAround_44 rfl hl (by decide) rfl (fun ls hl => ?_)
          refine lv_iinc (v := nI (k4 + 1)) (lv' := [(3, .int (nI (k4 + 1))), (2, .int ((sumS (ldT pa p) k4) + (if (pa q_5) < (pa p) then (pa q_5) else (pa p)))), (4, .int (nI q_5)), (0, .ref o), (1, .int (nI p))]) hx hb dX2_leadsAround_45 hl (k := 4) rfl (nI_add _ _) (by decide) rfl (fun ls hl => ?_)
          refine lv_goto (tgt := 4) hx hb dX2_leadsAround_48 (by decide) ?_
          have el_11 : (((sumS (ldT pa p) k4) + (if (pa q_5) < (pa p) then (pa q_5) else (pa p))) : Int32) = sumS (ldT pa p) (k4 + 1) := by simp [sumS, ldT, fwT, mnI, sumS, bI, c_3, hn_4, c_10]
          exact ih4 (k4 + 1) (by omega) (by omega) (by omega)  ls (lv_sub hl [3, 4, 1, 0] (show ([(0, .ref o), (1, .int (nI p)), (2, .int ((sumS (ldT pa p) k4) + (if (pa q_5) < (pa p) then (pa q_5) else (pa p)))), (3, .int (nI (k4 + 1)))] : List (Nat × Value)) = [(0, .ref o), (1, .int (nI p)), (2, .int (sumS (ldT pa p) (k4 + 1))), (3, .int (nI (k4 + 1)))] by rw [← el_11]))
theorem cal_X2_flowInto : calV yX2_flowInto cX2_flowInto 5 (some .int) 1 := ⟨k_21_22, k_1_19, k_21_20, k_21_21, by decide +kernel⟩
set_option maxHeartbeats 4000000 in
set_option maxRecDepth 100000 in
theorem c_X2_flowInto (l : Launch) (G : va_G) (E : EvT) (cI cZ : ClassId) (p : Nat) (o : Nat) (a_he : Nat) (a_pa : Nat) (fs_o : List Value) (h_o_pa : fs_o[8]? = some (.ref a_pa)) (h_o_he : fs_o[1]? = some (.ref a_he)) (he : Nat → Int32) (pa : Nat → Int32) (hp : p < 48) : cR l G E yX2_flowInto cX2_flowInto 5 (some .int) 2 [(cI, .int), (cZ, .boolean)] [.ref o, .int (nI p)] [(o, .inr (2, fs_o)), (a_he, .inl (cI, 48, .inl he)), (a_pa, .inl (cI, 48, .inl pa))] (sumS (fwT pa he p) 4) := by
  refine mkR (by decide) (Nat.le_of_ble_eq_true rfl) ?_
  intro zp ze s zm args below meth zc hx hb hr hml hown hts hlocks hE hP hK ls hl
  have hS : va_S (fun _ => False) s.heap s.heap [] := va_S.rf
  have hlow : ∀ q : Nat, (fun _ : Nat => False) q → E.1 ≤ q := fun _ h => h.elim
  have hl : lv_has ls 5 [(0, .ref o), (1, .int (nI p))] := hl
  refine lv_iconst (v := 0) hx hb dX2_flowInto_0 (by decide) ?_
  refine lv_istore_n (lv' := [(2, .int 0), (0, .ref o), (1, .int (nI p))]) hx hb dX2_flowInto_1 rfl hl (by decide) rfl (fun ls hl => ?_)
  refine lv_iconst (v := 0) hx hb dX2_flowInto_2 (by decide) ?_
  refine lv_istore_n (lv' := [(3, .int 0), (2, .int 0), (0, .ref o), (1, .int (nI p))]) hx hb dX2_flowInto_3 rfl hl (by decide) rfl (fun ls hl => ?_)
  suffices lp4 : ∀ zn k4 : Nat, 0 ≤ k4 → k4 ≤ 4 → 4 < k4 + zn → ∀ ls : Array Slot, lv_has ls 5 [(0, .ref o), (1, .int (nI p)), (2, .int (sumS (fwT pa he p) k4)), (3, .int (nI k4))] → W zp l ze (rmK 2) s zm args below meth zc s.heap [] 0 0 (MQ below (vp_Si (fun zx => zx = sumS (fwT pa he p) 4)) args s 0 0 (fun _ => False)) (F0 zm 4 ls []) by
    have el_1 : (0 : Int32) = sumS (fwT pa he p) 0 := by simp [sumS, ldT, fwT, mnI, sumS, bI]
    have el_2 : (0 : Int32) = nI 0 := rfl
    exact lp4 (4 + 1 - 0) 0 (by omega) (by omega) (by omega)  ls (lv_sub hl [2, 3, 1, 0] (show ([(0, .ref o), (1, .int (nI p)), (2, .int 0), (3, .int 0)] : List (Nat × Value)) = [(0, .ref o), (1, .int (nI p)), (2, .int (sumS (fwT pa he p) 0)), (3, .int (nI 0))] by rw [← el_1, ← el_2]))
  intro zn
  induction zn with
  | zero => exact fun k4 h1 h2 h3 => absurd h3 (by omega)
  | succ zn ih4 =>
    intro k4 hlo4 hhi4 hn4  ls hl
    refine lv_iload_n hx hb dX2_flowInto_4 rfl (lv_at hl 3 rfl) ?_
    refine va_getsN (C := "EarthBanks") (n := "STEP_X") (d := "[I") (own := RX2) (ref := "EarthBanks") (host := "EarthBanks") (v := .ref E.2.2.2.1) (index := 104) hx hb (hE.2.2.1.narrow hlow) hS hown (va_Nw.use rfl (hE.2.1.1 ("EarthBanks$Slice", 104, "EarthBanks", "STEP_X", "[I", "EarthBanks") (by decide +kernel))) (fun _ h9 => h9) dX2_flowInto_5 ?_
    refine va_tlen (v := 4) hx hb (hE.2.2.2.1.narrow hlow) hS (by decide) dX2_flowInto_8 ?_
    refine lv_icmp_ge (tgt := 59) hx hb dX2_flowInto_9 (by decide) (fun c_3 => ?_) (fun c_3 => ?_)
    · skip
      have c_3 : 4 ≤ k4 := (nI_leI (a := 4) (b := k4) (by omega) (by omega)).mp c_3
      have hk9 : 4 = k4 := by omega
      subst hk9
      refine lv_iload_n hx hb dX2_flowInto_59 rfl (lv_at hl 2 rfl) ?_
      exact retR hx hb hr (rfl) hlocks dX2_flowInto_60 (rfl)
    · skip
      have c_3 : ¬ 4 ≤ k4 := fun h9 => c_3 ((nI_leI (a := 4) (b := k4) (by omega) (by omega)).mpr h9)
      refine lv_iload_n hx hb dX2_flowInto_12 rfl (lv_at hl 1 rfl) ?_
      refine lv_iload_n hx hb dX2_flowInto_13 rfl (lv_at hl 3 rfl) ?_
      refine cRS (As := [.int (nI p), .int (nI k4)]) (rest := []) hx hb hml hown hts (c_X2_neighbour l G E cI cZ p k4 (hp) (by first | assumption | omega | simp [sumS, ldT, fwT, mnI, bI, c_3])) k_21_16 cal_X2_neighbour ⟨Nat.le_of_ble_eq_true rfl, Nat.le_of_ble_eq_true rfl⟩ hE hlow hS hK [0, 1] rfl hP [] rfl rfl hl.1 rfl (Nat.le_of_ble_eq_true rfl) dX2_flowInto_14 ⟨Nat.zero_le _, Nat.zero_le _⟩ ?_
      rcases nb_cases (p := p) (d := k4) (by omega) with ⟨hn_4, e_7⟩ | ⟨q_5, hq_6, hn_4, e_7⟩
      · skip
        refine top_eq (y := (-9)) (e_7) ?_
        refine lv_istore (lv' := [(4, .int (-9)), (0, .ref o), (1, .int (nI p)), (2, .int (sumS (fwT pa he p) k4)), (3, .int (nI k4))]) hx hb dX2_flowInto_17 hl (by decide) rfl (fun ls hl => ?_)
        refine lv_iload hx hb dX2_flowInto_19 (lv_at hl 0 rfl) ?_
        refine lv_bipush (v := (-9)) hx hb dX2_flowInto_21 (by decide) ?_
        refine lv_icmp_eq (tgt := 53) hx hb dX2_flowInto_23 (by decide) (fun c_8 => ?_) (fun c_8 => ?_)
        · skip
          refine lv_iinc (v := nI (k4 + 1)) (lv' := [(3, .int (nI (k4 + 1))), (4, .int (-9)), (0, .ref o), (1, .int (nI p)), (2, .int (sumS (fwT pa he p) k4))]) hx hb dX2_flowInto_53 hl (k := 4) rfl (nI_add _ _) (by decide) rfl (fun ls hl => ?_)
          refine lv_goto (tgt := 4) hx hb dX2_flowInto_56 (by decide) ?_
          have el_9 : (sumS (fwT pa he p) k4 : Int32) = sumS (fwT pa he p) (k4 + 1) := by simp [sumS, ldT, fwT, mnI, sumS, bI, c_3, hn_4, c_8]
          exact ih4 (k4 + 1) (by omega) (by omega) (by omega)  ls (lv_sub hl [2, 3, 4, 0] (show ([(0, .ref o), (1, .int (nI p)), (2, .int (sumS (fwT pa he p) k4)), (3, .int (nI (k4 + 1)))] : List (Nat × Value)) = [(0, .ref o), (1, .int (nI p)), (2, .int (sumS (fwT pa he p) (k4 + 1))), (3, .int (nI (k4 + 1)))] by rw [← el_9]))
        · skip
          exact absurd rfl c_8
      · skip
        refine top_eq (y := nI q_5) (e_7) ?_
        refine lv_istore (lv' := [(4, .int (nI q_5)), (0, .ref o), (1, .int (nI p)), (2, .int (sumS (fwT pa he p) k4)), (3, .int (nI k4))]) hx hb dX2_flowInto_17 hl (by decide) rfl (fun ls hl => ?_)
        refine lv_iload hx hb dX2_flowInto_19 (lv_at hl 0 rfl) ?_
        refine lv_bipush (v := (-9)) hx hb dX2_flowInto_21 (by decide) ?_
        refine lv_icmp_eq (tgt := 53) hx hb dX2_flowInto_23 (by decide) (fun c_10 => ?_) (fun c_10 => ?_)
        · skip
          exact absurd c_10 (nI_ne9 (by omega))
        · skip
          refine lv_iload_n hx hb dX2_flowInto_26 rfl (lv_at hl 3 rfl) ?_
          refine lv_aload_n hx hb dX2_flowInto_27 rfl (lv_at hl 1 rfl) ?_
          refine va_get (D := G) (ci := 2) (v := .ref a_pa) (C := RX2) (T := TX2) (N := 9) hx hb hts inlX2 hown hK hP 0 rfl rfl 8 (by decide) (hts (.fieldLink RX2 37 "EarthBanks$Slice" "passing" "[I") k_3_17) (fun _ h9 => h9) h_o_pa dX2_flowInto_28 ?_
          refine lv_iload_n hx hb dX2_flowInto_31 rfl (lv_at hl 2 rfl) ?_
          refine ialdN (j := p) hx hb hK hP 2 0 rfl rfl (by omega) (by decide) dX2_flowInto_32 ?_
          refine lv_aload_n hx hb dX2_flowInto_33 rfl (lv_at hl 1 rfl) ?_
          refine va_get (D := G) (ci := 2) (v := .ref a_pa) (C := RX2) (T := TX2) (N := 9) hx hb hts inlX2 hown hK hP 0 rfl rfl 8 (by decide) (hts (.fieldLink RX2 37 "EarthBanks$Slice" "passing" "[I") k_3_17) (fun _ h9 => h9) h_o_pa dX2_flowInto_34 ?_
          refine lv_iload hx hb dX2_flowInto_37 (lv_at hl 0 rfl) ?_
          refine ialdN (j := q_5) hx hb hK hP 2 0 rfl rfl (by omega) (by decide) dX2_flowInto_39 ?_
          refine va_mmin hx hb (hml.trans hl.1.symm) hown (hts (.methodLink RX2 110 Lib.Math.min.name) k_21_15) (hts (.static Lib.Math.min.name) k_9_18) (hts (.initialized "java/lang/Math") k_9_19) (hts (.code Lib.Math.min.name Lib.Math.min.code 2 (some .int)) k_9_20) (Nat.le_of_ble_eq_true rfl) (Nat.le_of_ble_eq_true rfl) (Nat.zero_le _) (Nat.zero_le _) dX2_flowInto_40 ?_
          refine lv_aload_n hx hb dX2_flowInto_43 rfl (lv_at hl 1 rfl) ?_
          refine va_get (D := G) (ci := 2) (v := .ref a_he) (C := RX2) (T := TX2) (N := 9) hx hb hts inlX2 hown hK hP 0 rfl rfl 1 (by decide) (hts (.fieldLink RX2 15 "EarthBanks$Slice" "heads" "[I") k_3_10) (fun _ h9 => h9) h_o_he dX2_flowInto_44 ?_
          refine lv_iload hx hb dX2_flowInto_47 (lv_at hl 0 rfl) ?_
          refine ialdN (j := q_5) hx hb hK hP 1 0 rfl rfl (by omega) (by decide) dX2_flowInto_49 ?_
          refine lv_imul hx hb dX2_flowInto_50 ?_
          refine lv_iadd hx hb dX2_flowInto_51 ?_
          refine lv_istore_n (lv' := [(2, .int ((sumS (fwT pa he p) k4) + ((if (pa q_5) < (pa p) then (pa q_5) else (pa p)) * (he q_5)))), (4, .int (nI q_5)), (0, .ref o), (1, .int (nI p)), (3, .int (nI k4))]) hx hb dX2_flowInto_52 rfl hl (by decide) rfl (fun ls hl => ?_)
          refine lv_iinc (v := nI (k4 + 1)) (lv' := [(3, .int (nI (k4 + 1))), (2, .int ((sumS (fwT pa he p) k4) + ((if (pa q_5) < (pa p) then (pa q_5) else (pa p)) * (he q_5)))), (4, .int (nI q_5)), (0, .ref o), (1, .int (nI p))]) hx hb dX2_flowInto_53 hl (k := 4) rfl (nI_add _ _) (by decide) rfl (fun ls hl => ?_)
          refine lv_goto (tgt := 4) hx hb dX2_flowInto_56 (by decide) ?_
          have el_11 : (((sumS (fwT pa he p) k4) + ((if (pa q_5) < (pa p) then (pa q_5) else (pa p)) * (he q_5))) : Int32) = sumS (fwT pa he p) (k4 + 1) := by simp [sumS, ldT, fwT, mnI, sumS, bI, c_3, hn_4, c_10]
          exact ih4 (k4 + 1) (by omega) (by omega) (by omega)  ls (lv_sub hl [3, 4, 1, 0] (show ([(0, .ref o), (1, .int (nI p)), (2, .int ((sumS (fwT pa he p) k4) + ((if (pa q_5) < (pa p) then (pa q_5) else (pa p)) * (he q_5)))), (3, .int (nI (k4 + 1)))] : List (Nat × Value)) = [(0, .ref o), (1, .int (nI p)), (2, .int (sumS (fwT pa he p) (k4 + 1))), (3, .int (nI (k4 + 1)))] by rw [← el_11]))
