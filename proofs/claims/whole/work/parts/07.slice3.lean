theorem cal_X2_fixEnds : calV yX2_fixEnds cX2_fixEnds 2 none 0 := ⟨k_20_22, k_1_19, k_20_20, k_20_21, by decide +kernel⟩
set_option maxHeartbeats 4000000 in
set_option maxRecDepth 100000 in
theorem c_X2_fixEnds (l : Launch) (G : va_G) (E : EvT) (cI cZ : ClassId) (o : Nat) (a_he : Nat) (a_pa : Nat) (la : Int32) (fs_o : List Value) (h_o_pa : fs_o[8]? = some (.ref a_pa)) (h_o_la : fs_o[6]? = some (.int la)) (h_o_he : fs_o[1]? = some (.ref a_he)) (he : Nat → Int32) (pa : Nat → Int32) : cWv (S := Unit) l G E yX2_fixEnds cX2_fixEnds 2 none 2 [(cI, .int), (cZ, .boolean)] [.ref o] [(o, .inr (2, fs_o)), (a_he, .inl (cI, 48, .inl he)), (a_pa, .inl (cI, 48, .inl pa))] (fun _ => True) (fun _ => [(o, .inr (2, fs_o)), (a_he, .inl (cI, 48, .inl (feS pa la he 48))), (a_pa, .inl (cI, 48, .inl pa))]) := by
  refine mkWv (by decide) (Nat.le_of_ble_eq_true rfl) ?_
  intro zp ze s zm args below meth zc hx hb hr hml hown hts hlocks hE hK A hA hlow H locs hP hD hS ls hl
  have hl : lv_has ls 2 [(0, .ref o)] := hl
  refine lv_iconst (v := 0) hx hb dX2_fixEnds_0 (by decide) ?_
  refine lv_istore_n (lv' := [(1, .int 0), (0, .ref o)]) hx hb dX2_fixEnds_1 rfl hl (by decide) rfl (fun ls hl => ?_)
  suffices lp2 : ∀ zn k2 : Nat, 0 ≤ k2 → k2 ≤ 48 → 48 < k2 + zn → ∀ (H : Heap) (locs : List Loc), va_P G vwCl [(o, .inr (2, fs_o)), (a_he, .inl (cI, 48, .inl (feS pa la he k2))), (a_pa, .inl (cI, 48, .inl pa))] H → va_D A [(o, .inr (2, fs_o)), (a_he, .inl (cI, 48, .inl (feS pa la he k2))), (a_pa, .inl (cI, 48, .inl pa))] → va_S A s.heap H locs → ∀ ls : Array Slot, lv_has ls 2 [(0, .ref o), (1, .int (nI k2))] → W zp l ze (rmK 2) s zm args below meth zc H locs 0 0 (MQ below (va_Qv (S := Unit) (fun _ => True) (fun u t => va_P G vwCl ((fun _ => [(o, .inr (2, fs_o)), (a_he, .inl (cI, 48, .inl (feS pa la he 48))), (a_pa, .inl (cI, 48, .inl pa))]) u) t.heap) A) args s 0 0 A) (F0 zm 2 ls []) by
    have el_1 : (0 : Int32) = nI 0 := rfl
    have er_2 : he = (feS pa la he 0) := rfl
    exact lp2 (48 + 1 - 0) 0 (by omega) (by omega) (by omega)  H locs (by rw [← er_2]; exact hP) (by rw [← er_2]; exact hD) hS ls (lv_sub hl [1, 0] (show ([(0, .ref o), (1, .int 0)] : List (Nat × Value)) = [(0, .ref o), (1, .int (nI 0))] by rw [← el_1]))
  intro zn
  induction zn with
  | zero => exact fun k2 h1 h2 h3 => absurd h3 (by omega)
  | succ zn ih2 =>
    intro k2 hlo2 hhi2 hn2  H locs hP hD hS ls hl
    refine lv_iload_n hx hb dX2_fixEnds_2 rfl (lv_at hl 1 rfl) ?_
    refine lv_bipush (v := 48) hx hb dX2_fixEnds_3 (by decide) ?_
    refine lv_icmp_ge (tgt := 63) hx hb dX2_fixEnds_5 (by decide) (fun c_3 => ?_) (fun c_3 => ?_)
    · skip
      have c_3 : 48 ≤ k2 := (nI_leI (a := 48) (b := k2) (by omega) (by omega)).mp c_3
      have hk9 : 48 = k2 := by omega
      subst hk9
      exact retWv () hx hb hr hlocks dX2_fixEnds_63 hS (trivial) hP
    · skip
      have c_3 : ¬ 48 ≤ k2 := fun h9 => c_3 ((nI_leI (a := 48) (b := k2) (by omega) (by omega)).mpr h9)
      refine lv_aload_n hx hb dX2_fixEnds_8 rfl (lv_at hl 0 rfl) ?_
      refine va_get (D := G) (ci := 2) (v := .ref a_pa) (C := RX2) (T := TX2) (N := 9) hx hb hts inlX2 hown hK hP 0 rfl rfl 8 (by decide) (hts (.fieldLink RX2 37 "EarthBanks$Slice" "passing" "[I") k_3_17) (fun _ h9 => h9) h_o_pa dX2_fixEnds_9 ?_
      refine lv_iload_n hx hb dX2_fixEnds_12 rfl (lv_at hl 1 rfl) ?_
      refine ialdN (j := k2) hx hb hK hP 2 0 rfl rfl (by omega) (by decide) dX2_fixEnds_13 ?_
      refine lv_if_ne (tgt := 20) hx hb dX2_fixEnds_14 (by decide) (fun c_4 => ?_) (fun c_4 => ?_)
      · skip
        refine lv_aload_n hx hb dX2_fixEnds_20 rfl (lv_at hl 0 rfl) ?_
        refine lv_iload_n hx hb dX2_fixEnds_21 rfl (lv_at hl 1 rfl) ?_
        refine cRV (As := [.int (nI k2)]) (rest := []) hx hb hml hown hts (c_X2_isAtLake l G E cI cZ k2 o la fs_o h_o_la (by first | assumption | omega | simp [feS, fe1, bI, c_3, c_4])) k_20_23 cal_X2_isAtLake ⟨Nat.le_of_ble_eq_true rfl, Nat.le_of_ble_eq_true rfl⟩ hE hlow hS hK [0, 1] rfl hP [0] rfl 0 2 rfl rfl rfl hl.1 rfl (Nat.le_of_ble_eq_true rfl) dX2_fixEnds_22 ⟨Nat.zero_le _, Nat.zero_le _⟩ ?_
        refine lv_if_eq (tgt := 42) hx hb dX2_fixEnds_25 (by decide) (fun c_5 => ?_) (fun c_5 => ?_)
        · skip
          have c_5 : (lkS la k2) = false := bI_f c_5
          refine lv_aload_n hx hb dX2_fixEnds_42 rfl (lv_at hl 0 rfl) ?_
          refine lv_iload_n hx hb dX2_fixEnds_43 rfl (lv_at hl 1 rfl) ?_
          refine cRV (As := [.int (nI k2)]) (rest := []) hx hb hml hown hts (c_X2_isAtFoot l G E cI cZ k2 o fs_o (by first | assumption | omega | simp [feS, fe1, bI, c_3, c_4, c_5])) k_21_3 cal_X2_isAtFoot ⟨Nat.le_of_ble_eq_true rfl, Nat.le_of_ble_eq_true rfl⟩ hE hlow hS hK [0, 1] rfl hP [0] rfl 0 2 rfl rfl rfl hl.1 rfl (Nat.le_of_ble_eq_true rfl) dX2_fixEnds_44 ⟨Nat.zero_le _, Nat.zero_le _⟩ ?_
          refine lv_if_eq (tgt := 57) hx hb dX2_fixEnds_47 (by decide) (fun c_6 => ?_) (fun c_6 => ?_)
          · skip
            have c_6 : ¬ (k2 = 7) := of_decide_eq_false (bI_f c_6)
            refine lv_iinc (v := nI (k2 + 1)) (lv' := [(1, .int (nI (k2 + 1))), (0, .ref o)]) hx hb dX2_fixEnds_57 hl (k := 1) rfl (nI_add _ _) (by decide) rfl (fun ls hl => ?_)
            refine lv_goto (tgt := 2) hx hb dX2_fixEnds_60 (by decide) ?_
            have er_7 : (feS pa la he k2) = (feS pa la he (k2 + 1)) := by rw [feS_s, if_neg c_4]; (first | rw [if_pos c_6] | rw [if_neg c_6]); simp [fe1, c_5]
            exact ih2 (k2 + 1) (by omega) (by omega) (by omega)  H locs (by rw [← er_7]; exact hP) (by rw [← er_7]; exact hD) hS ls (lv_sub hl [1, 0] rfl)
          · skip
            have c_6 : (k2 = 7) := of_decide_eq_true (bI_t c_6)
            refine lv_aload_n hx hb dX2_fixEnds_50 rfl (lv_at hl 0 rfl) ?_
            refine va_get (D := G) (ci := 2) (v := .ref a_he) (C := RX2) (T := TX2) (N := 9) hx hb hts inlX2 hown hK hP 0 rfl rfl 1 (by decide) (hts (.fieldLink RX2 15 "EarthBanks$Slice" "heads" "[I") k_3_10) (fun _ h9 => h9) h_o_he dX2_fixEnds_51 ?_
            refine lv_iload_n hx hb dX2_fixEnds_54 rfl (lv_at hl 1 rfl) ?_
            refine lv_iconst (v := 0) hx hb dX2_fixEnds_55 (by decide) ?_
            refine iastN (j := k2) hx hb hK hP hD hS 1 0 rfl rfl (by omega) (by decide) dX2_fixEnds_56 (fun H locs hP hD hS => ?_)
            have hP : va_P G vwCl [(o, .inr (2, fs_o)), (a_he, .inl (cI, 48, .inl (upd (feS pa la he k2) k2 0))), (a_pa, .inl (cI, 48, .inl pa))] H := hP
            have hD : va_D A [(o, .inr (2, fs_o)), (a_he, .inl (cI, 48, .inl (upd (feS pa la he k2) k2 0))), (a_pa, .inl (cI, 48, .inl pa))] := hD
            refine lv_iinc (v := nI (k2 + 1)) (lv' := [(1, .int (nI (k2 + 1))), (0, .ref o)]) hx hb dX2_fixEnds_57 hl (k := 1) rfl (nI_add _ _) (by decide) rfl (fun ls hl => ?_)
            refine lv_goto (tgt := 2) hx hb dX2_fixEnds_60 (by decide) ?_
            have er_8 : (upd (feS pa la he k2) k2 0) = (feS pa la he (k2 + 1)) := by rw [feS_s, if_neg c_4]; (first | rw [if_pos c_6] | rw [if_neg c_6]); simp [fe1, c_5]
            exact ih2 (k2 + 1) (by omega) (by omega) (by omega)  H locs (by rw [← er_8]; exact hP) (by rw [← er_8]; exact hD) hS ls (lv_sub hl [1, 0] rfl)
        · skip
          have c_5 : (lkS la k2) = true := bI_t c_5
          refine lv_aload_n hx hb dX2_fixEnds_28 rfl (lv_at hl 0 rfl) ?_
          refine va_get (D := G) (ci := 2) (v := .ref a_he) (C := RX2) (T := TX2) (N := 9) hx hb hts inlX2 hown hK hP 0 rfl rfl 1 (by decide) (hts (.fieldLink RX2 15 "EarthBanks$Slice" "heads" "[I") k_3_10) (fun _ h9 => h9) h_o_he dX2_fixEnds_29 ?_
          refine lv_iload_n hx hb dX2_fixEnds_32 rfl (lv_at hl 1 rfl) ?_
          refine lv_sipush (v := 1000) hx hb dX2_fixEnds_33 (by decide) ?_
          refine lv_aload_n hx hb dX2_fixEnds_36 rfl (lv_at hl 0 rfl) ?_
          refine va_get (D := G) (ci := 2) (v := .int la) (C := RX2) (T := TX2) (N := 9) hx hb hts inlX2 hown hK hP 0 rfl rfl 6 (by decide) (hts (.fieldLink RX2 30 "EarthBanks$Slice" "lakeLevel" "I") k_3_15) (fun _ h9 => h9) h_o_la dX2_fixEnds_37 ?_
          refine lv_imul hx hb dX2_fixEnds_40 ?_
          refine iastN (j := k2) hx hb hK hP hD hS 1 0 rfl rfl (by omega) (by decide) dX2_fixEnds_41 (fun H locs hP hD hS => ?_)
          have hP : va_P G vwCl [(o, .inr (2, fs_o)), (a_he, .inl (cI, 48, .inl (upd (feS pa la he k2) k2 (1000 * la)))), (a_pa, .inl (cI, 48, .inl pa))] H := hP
          have hD : va_D A [(o, .inr (2, fs_o)), (a_he, .inl (cI, 48, .inl (upd (feS pa la he k2) k2 (1000 * la)))), (a_pa, .inl (cI, 48, .inl pa))] := hD
          refine lv_aload_n hx hb dX2_fixEnds_42 rfl (lv_at hl 0 rfl) ?_
          refine lv_iload_n hx hb dX2_fixEnds_43 rfl (lv_at hl 1 rfl) ?_
          refine cRV (As := [.int (nI k2)]) (rest := []) hx hb hml hown hts (c_X2_isAtFoot l G E cI cZ k2 o fs_o (by first | assumption | omega | simp [feS, fe1, bI, c_3, c_4, c_5])) k_21_3 cal_X2_isAtFoot ⟨Nat.le_of_ble_eq_true rfl, Nat.le_of_ble_eq_true rfl⟩ hE hlow hS hK [0, 1] rfl hP [0] rfl 0 2 rfl rfl rfl hl.1 rfl (Nat.le_of_ble_eq_true rfl) dX2_fixEnds_44 ⟨Nat.zero_le _, Nat.zero_le _⟩ ?_
          refine lv_if_eq (tgt := 57) hx hb dX2_fixEnds_47 (by decide) (fun c_9 => ?_) (fun c_9 => ?_)
          · skip
            have c_9 : ¬ (k2 = 7) := of_decide_eq_false (bI_f c_9)
            refine lv_iinc (v := nI (k2 + 1)) (lv' := [(1, .int (nI (k2 + 1))), (0, .ref o)]) hx hb dX2_fixEnds_57 hl (k := 1) rfl (nI_add _ _) (by decide) rfl (fun ls hl => ?_)
            refine lv_goto (tgt := 2) hx hb dX2_fixEnds_60 (by decide) ?_
            have er_10 : (upd (feS pa la he k2) k2 (1000 * la)) = (feS pa la he (k2 + 1)) := by rw [feS_s, if_neg c_4]; (first | rw [if_pos c_9] | rw [if_neg c_9]); simp [fe1, c_5]
            exact ih2 (k2 + 1) (by omega) (by omega) (by omega)  H locs (by rw [← er_10]; exact hP) (by rw [← er_10]; exact hD) hS ls (lv_sub hl [1, 0] rfl)
          · skip
            have c_9 : (k2 = 7) := of_decide_eq_true (bI_t c_9)
            refine lv_aload_n hx hb dX2_fixEnds_50 rfl (lv_at hl 0 rfl) ?_
            refine va_get (D := G) (ci := 2) (v := .ref a_he) (C := RX2) (T := TX2) (N := 9) hx hb hts inlX2 hown hK hP 0 rfl rfl 1 (by decide) (hts (.fieldLink RX2 15 "EarthBanks$Slice" "heads" "[I") k_3_10) (fun _ h9 => h9) h_o_he dX2_fixEnds_51 ?_
            refine lv_iload_n hx hb dX2_fixEnds_54 rfl (lv_at hl 1 rfl) ?_
            refine lv_iconst (v := 0) hx hb dX2_fixEnds_55 (by decide) ?_
            refine iastN (j := k2) hx hb hK hP hD hS 1 0 rfl rfl (by omega) (by decide) dX2_fixEnds_56 (fun H locs hP hD hS => ?_)
            have hP : va_P G vwCl [(o, .inr (2, fs_o)), (a_he, .inl (cI, 48, .inl (upd (upd (feS pa la he k2) k2 (1000 * la)) k2 0))), (a_pa, .inl (cI, 48, .inl pa))] H := hP
            have hD : va_D A [(o, .inr (2, fs_o)), (a_he, .inl (cI, 48, .inl (upd (upd (feS pa la he k2) k2 (1000 * la)) k2 0))), (a_pa, .inl (cI, 48, .inl pa))] := hD
            refine lv_iinc (v := nI (k2 + 1)) (lv' := [(1, .int (nI (k2 + 1))), (0, .ref o)]) hx hb dX2_fixEnds_57 hl (k := 1) rfl (nI_add _ _) (by decide) rfl (fun ls hl => ?_)
            refine lv_goto (tgt := 2) hx hb dX2_fixEnds_60 (by decide) ?_
            have er_11 : (upd (upd (feS pa la he k2) k2 (1000 * la)) k2 0) = (feS pa la he (k2 + 1)) := by rw [feS_s, if_neg c_4]; (first | rw [if_pos c_9] | rw [if_neg c_9]); simp [fe1, c_5]
            exact ih2 (k2 + 1) (by omega) (by omega) (by omega)  H locs (by rw [← er_11]; exact hP) (by rw [← er_11]; exact hD) hS ls (lv_sub hl [1, 0] rfl)
      · skip
        refine lv_goto (tgt := 57) hx hb dX2_fixEnds_17 (by decide) ?_
        refine lv_iinc (v := nI (k2 + 1)) (lv' := [(1, .int (nI (k2 + 1))), (0, .ref o)]) hx hb dX2_fixEnds_57 hl (k := 1) rfl (nI_add _ _) (by decide) rfl (fun ls hl => ?_)
        refine lv_goto (tgt := 2) hx hb dX2_fixEnds_60 (by decide) ?_
        have er_12 : (feS pa la he k2) = (feS pa la he (k2 + 1)) := by rw [feS_s, if_pos c_4]
        exact ih2 (k2 + 1) (by omega) (by omega) (by omega)  H locs (by rw [← er_12]; exact hP) (by rw [← er_12]; exact hD) hS ls (lv_sub hl [1, 0] rfl)
theorem cal_X2_levelOthers : calV yX2_levelOthers cX2_levelOthers 3 none 0 := ⟨k_21_10, k_1_19, k_21_8, k_21_9, by decide +kernel⟩
set_option maxHeartbeats 4000000 in
set_option maxRecDepth 100000 in
theorem c_X2_levelOthers (l : Launch) (G : va_G) (E : EvT) (cI cZ : ClassId) (o : Nat) (a_he : Nat) (a_pa : Nat) (la : Int32) (fs_o : List Value) (h_o_pa : fs_o[8]? = some (.ref a_pa)) (h_o_la : fs_o[6]? = some (.int la)) (h_o_he : fs_o[1]? = some (.ref a_he)) (he : Nat → Int32) (pa : Nat → Int32) : cWv (S := Unit) l G E yX2_levelOthers cX2_levelOthers 3 none 3 [(cI, .int), (cZ, .boolean)] [.ref o] [(o, .inr (2, fs_o)), (a_he, .inl (cI, 48, .inl he)), (a_pa, .inl (cI, 48, .inl pa))] (fun _ => True) (fun _ => [(o, .inr (2, fs_o)), (a_he, .inl (cI, 48, .inl (lvS pa la he 48))), (a_pa, .inl (cI, 48, .inl pa))]) := by
  refine mkWv (by decide) (Nat.le_of_ble_eq_true rfl) ?_
  intro zp ze s zm args below meth zc hx hb hr hml hown hts hlocks hE hK A hA hlow H locs hP hD hS ls hl
  have hl : lv_has ls 3 [(0, .ref o)] := hl
  refine lv_iconst (v := 0) hx hb dX2_levelOthers_0 (by decide) ?_
  refine lv_istore_n (lv' := [(1, .int 0), (0, .ref o)]) hx hb dX2_levelOthers_1 rfl hl (by decide) rfl (fun ls hl => ?_)
  suffices lp2 : ∀ zn k2 : Nat, 0 ≤ k2 → k2 ≤ 48 → 48 < k2 + zn → ∀ (H : Heap) (locs : List Loc), va_P G vwCl [(o, .inr (2, fs_o)), (a_he, .inl (cI, 48, .inl (lvS pa la he k2))), (a_pa, .inl (cI, 48, .inl pa))] H → va_D A [(o, .inr (2, fs_o)), (a_he, .inl (cI, 48, .inl (lvS pa la he k2))), (a_pa, .inl (cI, 48, .inl pa))] → va_S A s.heap H locs → ∀ ls : Array Slot, lv_has ls 3 [(0, .ref o), (1, .int (nI k2))] → W zp l ze (rmK 3) s zm args below meth zc H locs 0 0 (MQ below (va_Qv (S := Unit) (fun _ => True) (fun u t => va_P G vwCl ((fun _ => [(o, .inr (2, fs_o)), (a_he, .inl (cI, 48, .inl (lvS pa la he 48))), (a_pa, .inl (cI, 48, .inl pa))]) u) t.heap) A) args s 0 0 A) (F0 zm 2 ls []) by
    have el_1 : (0 : Int32) = nI 0 := rfl
    have er_2 : he = (lvS pa la he 0) := rfl
    exact lp2 (48 + 1 - 0) 0 (by omega) (by omega) (by omega)  H locs (by rw [← er_2]; exact hP) (by rw [← er_2]; exact hD) hS ls (lv_sub hl [1, 0] (show ([(0, .ref o), (1, .int 0)] : List (Nat × Value)) = [(0, .ref o), (1, .int (nI 0))] by rw [← el_1]))
  intro zn
  induction zn with
  | zero => exact fun k2 h1 h2 h3 => absurd h3 (by omega)
  | succ zn ih2 =>
    intro k2 hlo2 hhi2 hn2  H locs hP hD hS ls hl
    refine lv_iload_n hx hb dX2_levelOthers_2 rfl (lv_at hl 1 rfl) ?_
    refine lv_bipush (v := 48) hx hb dX2_levelOthers_3 (by decide) ?_
    refine lv_icmp_ge (tgt := 65) hx hb dX2_levelOthers_5 (by decide) (fun c_3 => ?_) (fun c_3 => ?_)
    · skip
      have c_3 : 48 ≤ k2 := (nI_leI (a := 48) (b := k2) (by omega) (by omega)).mp c_3
      have hk9 : 48 = k2 := by omega
      subst hk9
      exact retWv () hx hb hr hlocks dX2_levelOthers_65 hS (trivial) hP
    · skip
      have c_3 : ¬ 48 ≤ k2 := fun h9 => c_3 ((nI_leI (a := 48) (b := k2) (by omega) (by omega)).mpr h9)
      refine lv_aload_n hx hb dX2_levelOthers_8 rfl (lv_at hl 0 rfl) ?_
      refine va_get (D := G) (ci := 2) (v := .ref a_pa) (C := RX2) (T := TX2) (N := 9) hx hb hts inlX2 hown hK hP 0 rfl rfl 8 (by decide) (hts (.fieldLink RX2 37 "EarthBanks$Slice" "passing" "[I") k_3_17) (fun _ h9 => h9) h_o_pa dX2_levelOthers_9 ?_
      refine lv_iload_n hx hb dX2_levelOthers_12 rfl (lv_at hl 1 rfl) ?_
      refine ialdN (j := k2) hx hb hK hP 2 0 rfl rfl (by omega) (by decide) dX2_levelOthers_13 ?_
      refine lv_if_eq (tgt := 59) hx hb dX2_levelOthers_14 (by decide) (fun c_4 => ?_) (fun c_4 => ?_)
      · skip
        refine lv_iinc (v := nI (k2 + 1)) (lv' := [(1, .int (nI (k2 + 1))), (0, .ref o)]) hx hb dX2_levelOthers_59 hl (k := 1) rfl (nI_add _ _) (by decide) rfl (fun ls hl => ?_)
        refine lv_goto (tgt := 2) hx hb dX2_levelOthers_62 (by decide) ?_
        have er_5 : (lvS pa la he k2) = (lvS pa la he (k2 + 1)) := by rw [lvS_s]; simp [c_3, c_4]
        exact ih2 (k2 + 1) (by omega) (by omega) (by omega)  H locs (by rw [← er_5]; exact hP) (by rw [← er_5]; exact hD) hS ls (lv_sub hl [1, 0] rfl)
      · skip
        refine lv_aload_n hx hb dX2_levelOthers_17 rfl (lv_at hl 0 rfl) ?_
        refine lv_iload_n hx hb dX2_levelOthers_18 rfl (lv_at hl 1 rfl) ?_
        refine cRV (As := [.int (nI k2)]) (rest := []) hx hb hml hown hts (c_X2_isAtLake l G E cI cZ k2 o la fs_o h_o_la (by first | assumption | omega | simp [lvS, bI, c_3, c_4])) k_20_23 cal_X2_isAtLake ⟨Nat.le_of_ble_eq_true rfl, Nat.le_of_ble_eq_true rfl⟩ hE hlow hS hK [0, 1] rfl hP [0] rfl 0 2 rfl rfl rfl hl.1 rfl (Nat.le_of_ble_eq_true rfl) dX2_levelOthers_19 ⟨Nat.zero_le _, Nat.zero_le _⟩ ?_
        refine lv_if_ne (tgt := 59) hx hb dX2_levelOthers_22 (by decide) (fun c_6 => ?_) (fun c_6 => ?_)
        · skip
          have c_6 : (lkS la k2) = true := bI_t c_6
          refine lv_iinc (v := nI (k2 + 1)) (lv' := [(1, .int (nI (k2 + 1))), (0, .ref o)]) hx hb dX2_levelOthers_59 hl (k := 1) rfl (nI_add _ _) (by decide) rfl (fun ls hl => ?_)
          refine lv_goto (tgt := 2) hx hb dX2_levelOthers_62 (by decide) ?_
          have er_7 : (lvS pa la he k2) = (lvS pa la he (k2 + 1)) := by rw [lvS_s]; simp [c_3, c_4, c_6]
          exact ih2 (k2 + 1) (by omega) (by omega) (by omega)  H locs (by rw [← er_7]; exact hP) (by rw [← er_7]; exact hD) hS ls (lv_sub hl [1, 0] rfl)
        · skip
          have c_6 : (lkS la k2) = false := bI_f c_6
          refine lv_aload_n hx hb dX2_levelOthers_25 rfl (lv_at hl 0 rfl) ?_
          refine lv_iload_n hx hb dX2_levelOthers_26 rfl (lv_at hl 1 rfl) ?_
          refine cRV (As := [.int (nI k2)]) (rest := []) hx hb hml hown hts (c_X2_isAtFoot l G E cI cZ k2 o fs_o (by first | assumption | omega | simp [lvS, bI, c_3, c_4, c_6])) k_21_3 cal_X2_isAtFoot ⟨Nat.le_of_ble_eq_true rfl, Nat.le_of_ble_eq_true rfl⟩ hE hlow hS hK [0, 1] rfl hP [0] rfl 0 2 rfl rfl rfl hl.1 rfl (Nat.le_of_ble_eq_true rfl) dX2_levelOthers_27 ⟨Nat.zero_le _, Nat.zero_le _⟩ ?_
          refine lv_if_eq (tgt := 36) hx hb dX2_levelOthers_30 (by decide) (fun c_8 => ?_) (fun c_8 => ?_)
          · skip
            have c_8 : ¬ (k2 = 7) := of_decide_eq_false (bI_f c_8)
            refine lv_aload_n hx hb dX2_levelOthers_36 rfl (lv_at hl 0 rfl) ?_
            refine lv_iload_n hx hb dX2_levelOthers_37 rfl (lv_at hl 1 rfl) ?_
            refine cRV (As := [.int (nI k2)]) (rest := []) hx hb hml hown hts (c_X2_leadsAround l G E cI cZ k2 o a_pa fs_o h_o_pa pa (by first | assumption | omega | simp [lvS, bI, c_3, c_4, c_6, c_8])) k_21_11 cal_X2_leadsAround ⟨Nat.le_of_ble_eq_true rfl, Nat.le_of_ble_eq_true rfl⟩ hE hlow hS hK [0, 1] rfl hP [0, 2] rfl 0 2 rfl rfl rfl hl.1 rfl (Nat.le_of_ble_eq_true rfl) dX2_levelOthers_38 ⟨Nat.zero_le _, Nat.zero_le _⟩ ?_
            refine lv_istore_n (lv' := [(2, .int (sumS (ldT pa k2) 4)), (0, .ref o), (1, .int (nI k2))]) hx hb dX2_levelOthers_41 rfl hl (by decide) rfl (fun ls hl => ?_)
            refine lv_iload_n hx hb dX2_levelOthers_42 rfl (lv_at hl 0 rfl) ?_
            refine lv_if_le (tgt := 59) hx hb dX2_levelOthers_43 (by decide) (fun c_9 => ?_) (fun c_9 => ?_)
            · skip
              refine lv_iinc (v := nI (k2 + 1)) (lv' := [(1, .int (nI (k2 + 1))), (2, .int (sumS (ldT pa k2) 4)), (0, .ref o)]) hx hb dX2_levelOthers_59 hl (k := 2) rfl (nI_add _ _) (by decide) rfl (fun ls hl => ?_)
              refine lv_goto (tgt := 2) hx hb dX2_levelOthers_62 (by decide) ?_
              have er_10 : (lvS pa la he k2) = (lvS pa la he (k2 + 1)) := by rw [lvS_s]; simp [c_3, c_4, c_6, c_8, c_9]
              exact ih2 (k2 + 1) (by omega) (by omega) (by omega)  H locs (by rw [← er_10]; exact hP) (by rw [← er_10]; exact hD) hS ls (lv_sub hl [2, 0] rfl)
            · skip
              refine lv_aload_n hx hb dX2_levelOthers_46 rfl (lv_at hl 1 rfl) ?_
              refine va_get (D := G) (ci := 2) (v := .ref a_he) (C := RX2) (T := TX2) (N := 9) hx hb hts inlX2 hown hK hP 0 rfl rfl 1 (by decide) (hts (.fieldLink RX2 15 "EarthBanks$Slice" "heads" "[I") k_3_10) (fun _ h9 => h9) h_o_he dX2_levelOthers_47 ?_
              refine lv_iload_n hx hb dX2_levelOthers_50 rfl (lv_at hl 2 rfl) ?_
              refine lv_aload_n hx hb dX2_levelOthers_51 rfl (lv_at hl 1 rfl) ?_
              refine lv_iload_n hx hb dX2_levelOthers_52 rfl (lv_at hl 2 rfl) ?_
              refine cRV (As := [.int (nI k2)]) (rest := [.int (nI k2), .ref a_he]) hx hb hml hown hts (c_X2_flowInto l G E cI cZ k2 o a_he a_pa fs_o h_o_pa h_o_he (lvS pa la he k2) pa (by first | assumption | omega | simp [lvS, bI, c_3, c_4, c_6, c_8, c_9])) k_21_19 cal_X2_flowInto ⟨Nat.le_of_ble_eq_true rfl, Nat.le_of_ble_eq_true rfl⟩ hE hlow hS hK [0, 1] rfl hP [0, 1, 2] rfl 0 2 rfl rfl rfl hl.1 rfl (Nat.le_of_ble_eq_true rfl) dX2_levelOthers_53 ⟨Nat.zero_le _, Nat.zero_le _⟩ ?_
              refine lv_iload_n hx hb dX2_levelOthers_56 rfl (lv_at hl 0 rfl) ?_
              refine lv_idiv hx hb dX2_levelOthers_57 (nz_nle c_9) ?_
              refine iastN (j := k2) hx hb hK hP hD hS 1 0 rfl rfl (by omega) (by decide) dX2_levelOthers_58 (fun H locs hP hD hS => ?_)
              have hP : va_P G vwCl [(o, .inr (2, fs_o)), (a_he, .inl (cI, 48, .inl (upd (lvS pa la he k2) k2 ((sumS (fwT pa (lvS pa la he k2) k2) 4) / (sumS (ldT pa k2) 4))))), (a_pa, .inl (cI, 48, .inl pa))] H := hP
              have hD : va_D A [(o, .inr (2, fs_o)), (a_he, .inl (cI, 48, .inl (upd (lvS pa la he k2) k2 ((sumS (fwT pa (lvS pa la he k2) k2) 4) / (sumS (ldT pa k2) 4))))), (a_pa, .inl (cI, 48, .inl pa))] := hD
              refine lv_iinc (v := nI (k2 + 1)) (lv' := [(1, .int (nI (k2 + 1))), (2, .int (sumS (ldT pa k2) 4)), (0, .ref o)]) hx hb dX2_levelOthers_59 hl (k := 2) rfl (nI_add _ _) (by decide) rfl (fun ls hl => ?_)
              refine lv_goto (tgt := 2) hx hb dX2_levelOthers_62 (by decide) ?_
              have er_11 : (upd (lvS pa la he k2) k2 ((sumS (fwT pa (lvS pa la he k2) k2) 4) / (sumS (ldT pa k2) 4))) = (lvS pa la he (k2 + 1)) := by rw [lvS_s]; simp [c_3, c_4, c_6, c_8, c_9]
              exact ih2 (k2 + 1) (by omega) (by omega) (by omega)  H locs (by rw [← er_11]; exact hP) (by rw [← er_11]; exact hD) hS ls (lv_sub hl [2, 0] rfl)
          · skip
            have c_8 : (k2 = 7) := of_decide_eq_true (bI_t c_8)
            refine lv_goto (tgt := 59) hx hb dX2_levelOthers_33 (by decide) ?_
            refine lv_iinc (v := nI (k2 + 1)) (lv' := [(1, .int (nI (k2 + 1))), (0, .ref o)]) hx hb dX2_levelOthers_59 hl (k := 1) rfl (nI_add _ _) (by decide) rfl (fun ls hl => ?_)
            refine lv_goto (tgt := 2) hx hb dX2_levelOthers_62 (by decide) ?_
            have er_12 : (lvS pa la he k2) = (lvS pa la he (k2 + 1)) := by rw [lvS_s]; simp [c_3, c_4, c_6, c_8]
            exact ih2 (k2 + 1) (by omega) (by omega) (by omega)  H locs (by rw [← er_12]; exact hP) (by rw [← er_12]; exact hD) hS ls (lv_sub hl [1, 0] rfl)
theorem cal_X2_runSweeps : calV yX2_runSweeps cX2_runSweeps 3 none 1 := ⟨k_20_14, k_1_19, k_20_12, k_20_13, by decide +kernel⟩
set_option maxHeartbeats 4000000 in
set_option maxRecDepth 100000 in
theorem c_X2_runSweeps (l : Launch) (G : va_G) (E : EvT) (cI cZ : ClassId) (sn : Nat) (o : Nat) (a_zo : Nat) (a_he : Nat) (a_go : Nat) (a_le : Nat) (a_pa : Nat) (la : Int32) (fs_o : List Value) (h_o_pa : fs_o[8]? = some (.ref a_pa)) (h_o_zo : fs_o[0]? = some (.ref a_zo)) (h_o_go : fs_o[2]? = some (.ref a_go)) (h_o_le : fs_o[3]? = some (.ref a_le)) (h_o_la : fs_o[6]? = some (.int la)) (h_o_he : fs_o[1]? = some (.ref a_he)) (zo : Nat → Int32) (he : Nat → Int32) (go : Nat → Int32) (le : Nat → Int32) (pa : Nat → Int32) (hsn : sn < 2147483648) : cWv (S := Unit) l G E yX2_runSweeps cX2_runSweeps 3 none 4 [(cI, .int), (cZ, .boolean)] [.ref o, .int (nI sn)] [(o, .inr (2, fs_o)), (a_zo, .inl (cI, 48, .inl zo)), (a_he, .inl (cI, 48, .inl he)), (a_go, .inl (cI, 48, .inl go)), (a_le, .inl (cI, 6, .inl le)), (a_pa, .inl (cI, 48, .inl pa))] (fun _ => True) (fun _ => [(o, .inr (2, fs_o)), (a_zo, .inl (cI, 48, .inl zo)), (a_he, .inl (cI, 48, .inl (swS (paS zo go le) la he sn))), (a_go, .inl (cI, 48, .inl go)), (a_le, .inl (cI, 6, .inl le)), (a_pa, .inl (cI, 48, .inl (paS zo go le)))]) := by
  refine mkWv (by decide) (Nat.le_of_ble_eq_true rfl) ?_
  intro zp ze s zm args below meth zc hx hb hr hml hown hts hlocks hE hK A hA hlow H locs hP hD hS ls hl
  have hl : lv_has ls 3 [(0, .ref o), (1, .int (nI sn))] := hl
  refine lv_aload_n hx hb dX2_runSweeps_0 rfl (lv_at hl 0 rfl) ?_
  refine cWVv (As := []) (rest := []) hx hb hml hown hts (c_X2_notePassing l G E cI cZ o a_zo a_go a_le a_pa fs_o h_o_pa h_o_zo h_o_go h_o_le zo go le pa) k_20_15 cal_X2_notePassing ⟨Nat.le_of_ble_eq_true rfl, Nat.le_of_ble_eq_true rfl⟩ hE hA hlow hD hS hK [0, 1] rfl hP [0, 1, 3, 4, 5] rfl (by decide) [o, a_zo, a_go, a_le, a_pa] rfl (fun _ => rfl) [2] [(a_he, .inl (cI, 48, .inl he))] (fun _ => [(o, .inr (2, fs_o)), (a_zo, .inl (cI, 48, .inl zo)), (a_he, .inl (cI, 48, .inl he)), (a_go, .inl (cI, 48, .inl go)), (a_le, .inl (cI, 6, .inl le)), (a_pa, .inl (cI, 48, .inl (paS zo go le)))]) 6 rfl (fun _ => rfl) (fun _ => rfl) (fun _ => rfl) (by decide) (by decide) 0 2 rfl rfl rfl hl.1 rfl (Nat.le_of_ble_eq_true rfl) dX2_runSweeps_1 ⟨Nat.zero_le _, Nat.zero_le _⟩ (fun u H locs hr_ hP hD hS => ?_)
  have hP : va_P G vwCl [(o, .inr (2, fs_o)), (a_zo, .inl (cI, 48, .inl zo)), (a_he, .inl (cI, 48, .inl he)), (a_go, .inl (cI, 48, .inl go)), (a_le, .inl (cI, 6, .inl le)), (a_pa, .inl (cI, 48, .inl (paS zo go le)))] H := hP
  have hD : va_D A [(o, .inr (2, fs_o)), (a_zo, .inl (cI, 48, .inl zo)), (a_he, .inl (cI, 48, .inl he)), (a_go, .inl (cI, 48, .inl go)), (a_le, .inl (cI, 6, .inl le)), (a_pa, .inl (cI, 48, .inl (paS zo go le)))] := hD
  refine lv_iconst (v := 0) hx hb dX2_runSweeps_4 (by decide) ?_
  refine lv_istore_n (lv' := [(2, .int 0), (0, .ref o), (1, .int (nI sn))]) hx hb dX2_runSweeps_5 rfl hl (by decide) rfl (fun ls hl => ?_)
  suffices lp6 : ∀ zn k6 : Nat, 0 ≤ k6 → k6 ≤ sn → sn < k6 + zn → ∀ (H : Heap) (locs : List Loc), va_P G vwCl [(o, .inr (2, fs_o)), (a_zo, .inl (cI, 48, .inl zo)), (a_he, .inl (cI, 48, .inl (swS (paS zo go le) la he k6))), (a_go, .inl (cI, 48, .inl go)), (a_le, .inl (cI, 6, .inl le)), (a_pa, .inl (cI, 48, .inl (paS zo go le)))] H → va_D A [(o, .inr (2, fs_o)), (a_zo, .inl (cI, 48, .inl zo)), (a_he, .inl (cI, 48, .inl (swS (paS zo go le) la he k6))), (a_go, .inl (cI, 48, .inl go)), (a_le, .inl (cI, 6, .inl le)), (a_pa, .inl (cI, 48, .inl (paS zo go le)))] → va_S A s.heap H locs → ∀ ls : Array Slot, lv_has ls 3 [(0, .ref o), (1, .int (nI sn)), (2, .int (nI k6))] → W zp l ze (rmK 4) s zm args below meth zc H locs 0 0 (MQ below (va_Qv (S := Unit) (fun _ => True) (fun u t => va_P G vwCl ((fun _ => [(o, .inr (2, fs_o)), (a_zo, .inl (cI, 48, .inl zo)), (a_he, .inl (cI, 48, .inl (swS (paS zo go le) la he sn))), (a_go, .inl (cI, 48, .inl go)), (a_le, .inl (cI, 6, .inl le)), (a_pa, .inl (cI, 48, .inl (paS zo go le)))]) u) t.heap) A) args s 0 0 A) (F0 zm 6 ls []) by
    have el_1 : (0 : Int32) = nI 0 := rfl
    have er_2 : he = (swS (paS zo go le) la he 0) := rfl
    exact lp6 (sn + 1 - 0) 0 (by omega) (by omega) (by omega)  H locs (by rw [← er_2]; exact hP) (by rw [← er_2]; exact hD) hS ls (lv_sub hl [1, 2, 0] (show ([(0, .ref o), (1, .int (nI sn)), (2, .int 0)] : List (Nat × Value)) = [(0, .ref o), (1, .int (nI sn)), (2, .int (nI 0))] by rw [← el_1]))
  intro zn
  induction zn with
  | zero => exact fun k6 h1 h2 h3 => absurd h3 (by omega)
  | succ zn ih6 =>
    intro k6 hlo6 hhi6 hn6  H locs hP hD hS ls hl
    refine lv_iload_n hx hb dX2_runSweeps_6 rfl (lv_at hl 2 rfl) ?_
    refine lv_iload_n hx hb dX2_runSweeps_7 rfl (lv_at hl 1 rfl) ?_
    refine lv_icmp_ge (tgt := 25) hx hb dX2_runSweeps_8 (by decide) (fun c_3 => ?_) (fun c_3 => ?_)
    · skip
      have c_3 : sn ≤ k6 := (nI_leI (a := sn) (b := k6) (by omega) (by omega)).mp c_3
      have hk9 : sn = k6 := by omega
      subst hk9
      exact retWv () hx hb hr hlocks dX2_runSweeps_25 hS (trivial) hP
    · skip
      have c_3 : ¬ sn ≤ k6 := fun h9 => c_3 ((nI_leI (a := sn) (b := k6) (by omega) (by omega)).mpr h9)
      refine lv_aload_n hx hb dX2_runSweeps_11 rfl (lv_at hl 0 rfl) ?_
      refine cWVv (As := []) (rest := []) hx hb hml hown hts (c_X2_fixEnds l G E cI cZ o a_he a_pa la fs_o h_o_pa h_o_la h_o_he (swS (paS zo go le) la he k6) (paS zo go le)) k_20_19 cal_X2_fixEnds ⟨Nat.le_of_ble_eq_true rfl, Nat.le_of_ble_eq_true rfl⟩ hE hA hlow hD hS hK [0, 1] rfl hP [0, 2, 5] rfl (by decide) [o, a_he, a_pa] rfl (fun _ => rfl) [1, 3, 4] [(a_zo, .inl (cI, 48, .inl zo)), (a_go, .inl (cI, 48, .inl go)), (a_le, .inl (cI, 6, .inl le))] (fun _ => [(o, .inr (2, fs_o)), (a_zo, .inl (cI, 48, .inl zo)), (a_he, .inl (cI, 48, .inl (feS (paS zo go le) la (swS (paS zo go le) la he k6) 48))), (a_go, .inl (cI, 48, .inl go)), (a_le, .inl (cI, 6, .inl le)), (a_pa, .inl (cI, 48, .inl (paS zo go le)))]) 6 rfl (fun _ => rfl) (fun _ => rfl) (fun _ => rfl) (by decide) (by decide) 0 2 rfl rfl rfl hl.1 rfl (Nat.le_of_ble_eq_true rfl) dX2_runSweeps_12 ⟨Nat.zero_le _, Nat.zero_le _⟩ (fun u H locs hr_ hP hD hS => ?_)
      have hP : va_P G vwCl [(o, .inr (2, fs_o)), (a_zo, .inl (cI, 48, .inl zo)), (a_he, .inl (cI, 48, .inl (feS (paS zo go le) la (swS (paS zo go le) la he k6) 48))), (a_go, .inl (cI, 48, .inl go)), (a_le, .inl (cI, 6, .inl le)), (a_pa, .inl (cI, 48, .inl (paS zo go le)))] H := hP
      have hD : va_D A [(o, .inr (2, fs_o)), (a_zo, .inl (cI, 48, .inl zo)), (a_he, .inl (cI, 48, .inl (feS (paS zo go le) la (swS (paS zo go le) la he k6) 48))), (a_go, .inl (cI, 48, .inl go)), (a_le, .inl (cI, 6, .inl le)), (a_pa, .inl (cI, 48, .inl (paS zo go le)))] := hD
      refine lv_aload_n hx hb dX2_runSweeps_15 rfl (lv_at hl 0 rfl) ?_
      refine cWVv (As := []) (rest := []) hx hb hml hown hts (c_X2_levelOthers l G E cI cZ o a_he a_pa la fs_o h_o_pa h_o_la h_o_he (feS (paS zo go le) la (swS (paS zo go le) la he k6) 48) (paS zo go le)) k_21_7 cal_X2_levelOthers ⟨Nat.le_of_ble_eq_true rfl, Nat.le_of_ble_eq_true rfl⟩ hE hA hlow hD hS hK [0, 1] rfl hP [0, 2, 5] rfl (by decide) [o, a_he, a_pa] rfl (fun _ => rfl) [1, 3, 4] [(a_zo, .inl (cI, 48, .inl zo)), (a_go, .inl (cI, 48, .inl go)), (a_le, .inl (cI, 6, .inl le))] (fun _ => [(o, .inr (2, fs_o)), (a_zo, .inl (cI, 48, .inl zo)), (a_he, .inl (cI, 48, .inl (lvS (paS zo go le) la (feS (paS zo go le) la (swS (paS zo go le) la he k6) 48) 48))), (a_go, .inl (cI, 48, .inl go)), (a_le, .inl (cI, 6, .inl le)), (a_pa, .inl (cI, 48, .inl (paS zo go le)))]) 6 rfl (fun _ => rfl) (fun _ => rfl) (fun _ => rfl) (by decide) (by decide) 0 2 rfl rfl rfl hl.1 rfl (Nat.le_of_ble_eq_true rfl) dX2_runSweeps_16 ⟨Nat.zero_le _, Nat.zero_le _⟩ (fun u H locs hr_ hP hD hS => ?_)
      have hP : va_P G vwCl [(o, .inr (2, fs_o)), (a_zo, .inl (cI, 48, .inl zo)), (a_he, .inl (cI, 48, .inl (lvS (paS zo go le) la (feS (paS zo go le) la (swS (paS zo go le) la he k6) 48) 48))), (a_go, .inl (cI, 48, .inl go)), (a_le, .inl (cI, 6, .inl le)), (a_pa, .inl (cI, 48, .inl (paS zo go le)))] H := hP
      have hD : va_D A [(o, .inr (2, fs_o)), (a_zo, .inl (cI, 48, .inl zo)), (a_he, .inl (cI, 48, .inl (lvS (paS zo go le) la (feS (paS zo go le) la (swS (paS zo go le) la he k6) 48) 48))), (a_go, .inl (cI, 48, .inl go)), (a_le, .inl (cI, 6, .inl le)), (a_pa, .inl (cI, 48, .inl (paS zo go le)))] := hD
      refine lv_iinc (v := nI (k6 + 1)) (lv' := [(2, .int (nI (k6 + 1))), (0, .ref o), (1, .int (nI sn))]) hx hb dX2_runSweeps_19 hl (k := 2) rfl (nI_add _ _) (by decide) rfl (fun ls hl => ?_)
      refine lv_goto (tgt := 6) hx hb dX2_runSweeps_22 (by decide) ?_
      have er_4 : (lvS (paS zo go le) la (feS (paS zo go le) la (swS (paS zo go le) la he k6) 48) 48) = (swS (paS zo go le) la he (k6 + 1)) := rfl
      exact ih6 (k6 + 1) (by omega) (by omega) (by omega)  H locs (by rw [← er_4]; exact hP) (by rw [← er_4]; exact hD) hS ls (lv_sub hl [1, 2, 0] rfl)
theorem cal_X2_soakAnew : calV yX2_soakAnew cX2_soakAnew 1 none 0 := ⟨k_30_20, k_1_19, k_30_18, k_30_19, by decide +kernel⟩
set_option maxHeartbeats 4000000 in
set_option maxRecDepth 100000 in
theorem c_X2_soakAnew (l : Launch) (G : va_G) (E : EvT) (cI cZ : ClassId) (o : Nat) (a_zo : Nat) (a_he : Nat) (a_go : Nat) (a_le : Nat) (a_pa : Nat) (la : Int32) (fs_o : List Value) (h_o_he : fs_o[1]? = some (.ref a_he)) (h_o_pa : fs_o[8]? = some (.ref a_pa)) (h_o_zo : fs_o[0]? = some (.ref a_zo)) (h_o_go : fs_o[2]? = some (.ref a_go)) (h_o_le : fs_o[3]? = some (.ref a_le)) (h_o_la : fs_o[6]? = some (.int la)) (zo : Nat → Int32) (he : Nat → Int32) (go : Nat → Int32) (le : Nat → Int32) (pa : Nat → Int32) : cWv (S := Unit) l G E yX2_soakAnew cX2_soakAnew 1 none 5 [(cI, .int), (cZ, .boolean)] [.ref o] [(o, .inr (2, fs_o)), (a_zo, .inl (cI, 48, .inl zo)), (a_he, .inl (cI, 48, .inl he)), (a_go, .inl (cI, 48, .inl go)), (a_le, .inl (cI, 6, .inl le)), (a_pa, .inl (cI, 48, .inl pa))] (fun _ => True) (fun _ => [(o, .inr (2, fs_o)), (a_zo, .inl (cI, 48, .inl zo)), (a_he, .inl (cI, 48, .inl (swS (paS zo go le) la (fun _ => 0) 40))), (a_go, .inl (cI, 48, .inl go)), (a_le, .inl (cI, 6, .inl le)), (a_pa, .inl (cI, 48, .inl (paS zo go le)))]) := by
  refine mkWv (by decide) (Nat.le_of_ble_eq_true rfl) ?_
  intro zp ze s zm args below meth zc hx hb hr hml hown hts hlocks hE hK A hA hlow H locs hP hD hS ls hl
  have hl : lv_has ls 1 [(0, .ref o)] := hl
  refine lv_aload_n hx hb dX2_soakAnew_0 rfl (lv_at hl 0 rfl) ?_
  refine cWVi (As := []) (rest := []) hx hb hml hown hts (c_X2_dropHeads l G E cI cZ o a_he fs_o h_o_he he) k_30_21 cal_X2_dropHeads ⟨Nat.le_of_ble_eq_true rfl, Nat.le_of_ble_eq_true rfl⟩ hE hA hlow hD hS hK [0, 1] rfl hP [0, 2] rfl (by decide) [o, a_he] rfl (fun _ => rfl) [1, 3, 4, 5] [(a_zo, .inl (cI, 48, .inl zo)), (a_go, .inl (cI, 48, .inl go)), (a_le, .inl (cI, 6, .inl le)), (a_pa, .inl (cI, 48, .inl pa))] (fun _ => [(o, .inr (2, fs_o)), (a_zo, .inl (cI, 48, .inl zo)), (a_he, .inl (cI, 48, .inl (fun _ => 0))), (a_go, .inl (cI, 48, .inl go)), (a_le, .inl (cI, 6, .inl le)), (a_pa, .inl (cI, 48, .inl pa))]) 6 rfl (fun _ => rfl) (fun _ => rfl) (fun _ => rfl) (by decide) (by decide) 0 2 rfl rfl rfl hl.1 rfl (Nat.le_of_ble_eq_true rfl) dX2_soakAnew_1 ⟨Nat.zero_le _, Nat.zero_le _⟩ (fun r_ u H locs hr_ hP hD hS => ?_)
  subst hr_
  have hP : va_P G vwCl [(o, .inr (2, fs_o)), (a_zo, .inl (cI, 48, .inl zo)), (a_he, .inl (cI, 48, .inl (fun _ => 0))), (a_go, .inl (cI, 48, .inl go)), (a_le, .inl (cI, 6, .inl le)), (a_pa, .inl (cI, 48, .inl pa))] H := hP
  have hD : va_D A [(o, .inr (2, fs_o)), (a_zo, .inl (cI, 48, .inl zo)), (a_he, .inl (cI, 48, .inl (fun _ => 0))), (a_go, .inl (cI, 48, .inl go)), (a_le, .inl (cI, 6, .inl le)), (a_pa, .inl (cI, 48, .inl pa))] := hD
  refine lv_pop hx hb dX2_soakAnew_4 rfl ?_
  refine lv_aload_n hx hb dX2_soakAnew_5 rfl (lv_at hl 0 rfl) ?_
  refine lv_bipush (v := 40) hx hb dX2_soakAnew_6 (by decide) ?_
  refine cWVv (As := [.int 40]) (rest := []) hx hb hml hown hts (c_X2_runSweeps l G E cI cZ 40 o a_zo a_he a_go a_le a_pa la fs_o h_o_pa h_o_zo h_o_go h_o_le h_o_la h_o_he zo (fun _ => 0) go le pa (by first | assumption | omega | simp [bI])) k_30_22 cal_X2_runSweeps ⟨Nat.le_of_ble_eq_true rfl, Nat.le_of_ble_eq_true rfl⟩ hE hA hlow hD hS hK [0, 1] rfl hP [0, 1, 2, 3, 4, 5] rfl (by decide) [o, a_zo, a_he, a_go, a_le, a_pa] rfl (fun _ => rfl) [] [] (fun _ => [(o, .inr (2, fs_o)), (a_zo, .inl (cI, 48, .inl zo)), (a_he, .inl (cI, 48, .inl (swS (paS zo go le) la (fun _ => 0) 40))), (a_go, .inl (cI, 48, .inl go)), (a_le, .inl (cI, 6, .inl le)), (a_pa, .inl (cI, 48, .inl (paS zo go le)))]) 6 rfl (fun _ => rfl) (fun _ => rfl) (fun _ => rfl) (by decide) (by decide) 0 2 rfl rfl rfl hl.1 rfl (Nat.le_of_ble_eq_true rfl) dX2_soakAnew_8 ⟨Nat.zero_le _, Nat.zero_le _⟩ (fun u H locs hr_ hP hD hS => ?_)
  have hP : va_P G vwCl [(o, .inr (2, fs_o)), (a_zo, .inl (cI, 48, .inl zo)), (a_he, .inl (cI, 48, .inl (swS (paS zo go le) la (fun _ => 0) 40))), (a_go, .inl (cI, 48, .inl go)), (a_le, .inl (cI, 6, .inl le)), (a_pa, .inl (cI, 48, .inl (paS zo go le)))] H := hP
  have hD : va_D A [(o, .inr (2, fs_o)), (a_zo, .inl (cI, 48, .inl zo)), (a_he, .inl (cI, 48, .inl (swS (paS zo go le) la (fun _ => 0) 40))), (a_go, .inl (cI, 48, .inl go)), (a_le, .inl (cI, 6, .inl le)), (a_pa, .inl (cI, 48, .inl (paS zo go le)))] := hD
  exact retWv () hx hb hr hlocks dX2_soakAnew_11 hS (trivial) hP
theorem cal_X2_seepage : calV yX2_seepage cX2_seepage 1 (some .int) 0 := ⟨k_23_18, k_1_19, k_23_16, k_23_17, by decide +kernel⟩
set_option maxHeartbeats 4000000 in
set_option maxRecDepth 100000 in
theorem c_X2_seepage (l : Launch) (G : va_G) (E : EvT) (cI cZ : ClassId) (o : Nat) (a_zo : Nat) (a_he : Nat) (a_go : Nat) (a_le : Nat) (a_pa : Nat) (fs_o : List Value) (h_o_pa : fs_o[8]? = some (.ref a_pa)) (h_o_zo : fs_o[0]? = some (.ref a_zo)) (h_o_go : fs_o[2]? = some (.ref a_go)) (h_o_le : fs_o[3]? = some (.ref a_le)) (h_o_he : fs_o[1]? = some (.ref a_he)) (zo : Nat → Int32) (he : Nat → Int32) (go : Nat → Int32) (le : Nat → Int32) (pa : Nat → Int32) : cWi (S := Unit) l G E yX2_seepage cX2_seepage 1 (some .int) 4 [(cI, .int), (cZ, .boolean)] [.ref o] [(o, .inr (2, fs_o)), (a_zo, .inl (cI, 48, .inl zo)), (a_he, .inl (cI, 48, .inl he)), (a_go, .inl (cI, 48, .inl go)), (a_le, .inl (cI, 6, .inl le)), (a_pa, .inl (cI, 48, .inl pa))] (fun r _ => r = (sumS (fwT (paS zo go le) he 7) 4 / 1000)) (fun _ => [(o, .inr (2, fs_o)), (a_zo, .inl (cI, 48, .inl zo)), (a_he, .inl (cI, 48, .inl he)), (a_go, .inl (cI, 48, .inl go)), (a_le, .inl (cI, 6, .inl le)), (a_pa, .inl (cI, 48, .inl (paS zo go le)))]) := by
  refine mkWi (by decide) (Nat.le_of_ble_eq_true rfl) ?_
  intro zp ze s zm args below meth zc hx hb hr hml hown hts hlocks hE hK A hA hlow H locs hP hD hS ls hl
  have hl : lv_has ls 1 [(0, .ref o)] := hl
  refine lv_aload_n hx hb dX2_seepage_0 rfl (lv_at hl 0 rfl) ?_
  refine cWVv (As := []) (rest := []) hx hb hml hown hts (c_X2_notePassing l G E cI cZ o a_zo a_go a_le a_pa fs_o h_o_pa h_o_zo h_o_go h_o_le zo go le pa) k_20_15 cal_X2_notePassing ⟨Nat.le_of_ble_eq_true rfl, Nat.le_of_ble_eq_true rfl⟩ hE hA hlow hD hS hK [0, 1] rfl hP [0, 1, 3, 4, 5] rfl (by decide) [o, a_zo, a_go, a_le, a_pa] rfl (fun _ => rfl) [2] [(a_he, .inl (cI, 48, .inl he))] (fun _ => [(o, .inr (2, fs_o)), (a_zo, .inl (cI, 48, .inl zo)), (a_he, .inl (cI, 48, .inl he)), (a_go, .inl (cI, 48, .inl go)), (a_le, .inl (cI, 6, .inl le)), (a_pa, .inl (cI, 48, .inl (paS zo go le)))]) 6 rfl (fun _ => rfl) (fun _ => rfl) (fun _ => rfl) (by decide) (by decide) 0 2 rfl rfl rfl hl.1 rfl (Nat.le_of_ble_eq_true rfl) dX2_seepage_1 ⟨Nat.zero_le _, Nat.zero_le _⟩ (fun u H locs hr_ hP hD hS => ?_)
  have hP : va_P G vwCl [(o, .inr (2, fs_o)), (a_zo, .inl (cI, 48, .inl zo)), (a_he, .inl (cI, 48, .inl he)), (a_go, .inl (cI, 48, .inl go)), (a_le, .inl (cI, 6, .inl le)), (a_pa, .inl (cI, 48, .inl (paS zo go le)))] H := hP
  have hD : va_D A [(o, .inr (2, fs_o)), (a_zo, .inl (cI, 48, .inl zo)), (a_he, .inl (cI, 48, .inl he)), (a_go, .inl (cI, 48, .inl go)), (a_le, .inl (cI, 6, .inl le)), (a_pa, .inl (cI, 48, .inl (paS zo go le)))] := hD
  refine lv_aload_n hx hb dX2_seepage_4 rfl (lv_at hl 0 rfl) ?_
  refine lv_bipush (v := 7) hx hb dX2_seepage_5 (by decide) ?_
  refine cRV (As := [.int 7]) (rest := []) hx hb hml hown hts (c_X2_flowInto l G E cI cZ 7 o a_he a_pa fs_o h_o_pa h_o_he he (paS zo go le) (by first | assumption | omega | simp [bI])) k_21_19 cal_X2_flowInto ⟨Nat.le_of_ble_eq_true rfl, Nat.le_of_ble_eq_true rfl⟩ hE hlow hS hK [0, 1] rfl hP [0, 2, 5] rfl 0 2 rfl rfl rfl hl.1 rfl (Nat.le_of_ble_eq_true rfl) dX2_seepage_7 ⟨Nat.zero_le _, Nat.zero_le _⟩ ?_
  refine lv_sipush (v := 1000) hx hb dX2_seepage_10 (by decide) ?_
  refine lv_idiv hx hb dX2_seepage_13 (by decide) ?_
  exact retWi () hx hb hr (rfl) hlocks dX2_seepage_14 hS (by simp [bI]) hP
theorem cal_X2_isOpen : calV yX2_isOpen cX2_isOpen 6 (some .boolean) 2 := ⟨k_28_19, k_1_19, k_28_17, k_28_18, by decide +kernel⟩
set_option maxHeartbeats 4000000 in
set_option maxRecDepth 100000 in
theorem c_X2_isOpen (l : Launch) (G : va_G) (E : EvT) (cI cZ : ClassId) (p : Nat) (ff : Int32) (o : Nat) (a_zo : Nat) (a_go : Nat) (a_gn : Nat) (fs_o : List Value) (h_o_zo : fs_o[0]? = some (.ref a_zo)) (h_o_gn : fs_o[5]? = some (.ref a_gn)) (h_o_go : fs_o[2]? = some (.ref a_go)) (zo : Nat → Int32) (go : Nat → Int32) (gn : Nat → Int32) (hp : p < 48) : cR l G E yX2_isOpen cX2_isOpen 6 (some .boolean) 3 [(cI, .int), (cZ, .boolean)] [.ref o, .int (nI p), .int ff] [(o, .inr (2, fs_o)), (a_zo, .inl (cI, 48, .inl zo)), (a_go, .inl (cI, 48, .inl go)), (a_gn, .inl (cI, 6, .inl gn))] (bI (opS zo go gn ff p)) := by
  refine mkR (by decide) (Nat.le_of_ble_eq_true rfl) ?_
  intro zp ze s zm args below meth zc hx hb hr hml hown hts hlocks hE hP hK ls hl
  have hS : va_S (fun _ => False) s.heap s.heap [] := va_S.rf
  have hlow : ∀ q : Nat, (fun _ : Nat => False) q → E.1 ≤ q := fun _ h => h.elim
  have hl : lv_has ls 6 [(0, .ref o), (1, .int (nI p)), (2, .int ff)] := hl
  refine lv_iload_n hx hb dX2_isOpen_0 rfl (lv_at hl 1 rfl) ?_
  refine lv_bipush (v := 8) hx hb dX2_isOpen_1 (by decide) ?_
  refine lv_irem hx hb dX2_isOpen_3 (by decide) ?_
  refine top_eq (y := nI (p % 8)) (pk_rem (a := p) (d := 8) (by omega) (by omega) (by omega)) ?_
  refine lv_bipush (v := 7) hx hb dX2_isOpen_4 (by decide) ?_
  refine lv_icmp_eq (tgt := 19) hx hb dX2_isOpen_6 (by decide) (fun c_1 => ?_) (fun c_1 => ?_)
  · skip
    have c_1 : (p % 8) = 7 := (nI_eq (a := (p % 8)) (b := 7) (by omega) (by omega)).mp c_1
    refine lv_iconst (v := 1) hx hb dX2_isOpen_19 (by decide) ?_
    exact retR hx hb hr (rfl) hlocks dX2_isOpen_20 (by simp [opS, bI, c_1])
  · skip
    have c_1 : ¬ (p % 8) = 7 := fun h9 => c_1 ((nI_eq (a := (p % 8)) (b := 7) (by omega) (by omega)).mpr h9)
    refine lv_aload_n hx hb dX2_isOpen_9 rfl (lv_at hl 0 rfl) ?_
    refine lv_iload_n hx hb dX2_isOpen_10 rfl (lv_at hl 1 rfl) ?_
    refine lv_iconst (v := 1) hx hb dX2_isOpen_11 (by decide) ?_
    refine lv_iadd hx hb dX2_isOpen_12 ?_
    refine top_eq (y := nI (p + 1)) (nI_add _ _) ?_
    refine cRV (As := [.int (nI (p + 1))]) (rest := []) hx hb hml hown hts (c_X2_isAir l G E cI cZ (p + 1) o a_zo fs_o h_o_zo zo (by first | assumption | omega | simp [opS, bI, c_1])) k_13_21 cal_X2_isAir ⟨Nat.le_of_ble_eq_true rfl, Nat.le_of_ble_eq_true rfl⟩ hE hlow hS hK [0, 1] rfl hP [0, 1] rfl 0 2 rfl rfl rfl hl.1 rfl (Nat.le_of_ble_eq_true rfl) dX2_isOpen_13 ⟨Nat.zero_le _, Nat.zero_le _⟩ ?_
    refine lv_if_eq (tgt := 21) hx hb dX2_isOpen_16 (by decide) (fun c_2 => ?_) (fun c_2 => ?_)
    · skip
      have c_2 : (isAirS zo (p + 1)) = false := bI_f c_2
      refine lv_iload_n hx hb dX2_isOpen_21 rfl (lv_at hl 2 rfl) ?_
      refine lv_aload_n hx hb dX2_isOpen_22 rfl (lv_at hl 0 rfl) ?_
      refine lv_iload_n hx hb dX2_isOpen_23 rfl (lv_at hl 1 rfl) ?_
      refine cRV (As := [.int (nI p)]) (rest := [.int ff]) hx hb hml hown hts (c_X2_grainAt l G E cI cZ p o a_zo a_gn fs_o h_o_zo h_o_gn zo gn (hp)) k_28_20 cal_X2_grainAt ⟨Nat.le_of_ble_eq_true rfl, Nat.le_of_ble_eq_true rfl⟩ hE hlow hS hK [0, 1] rfl hP [0, 1, 3] rfl 0 2 rfl rfl rfl hl.1 rfl (Nat.le_of_ble_eq_true rfl) dX2_isOpen_24 ⟨Nat.zero_le _, Nat.zero_le _⟩ ?_
      refine lv_imul hx hb dX2_isOpen_27 ?_
      refine lv_istore_n (lv' := [(3, .int (ff * (holdS zo gn p))), (0, .ref o), (1, .int (nI p)), (2, .int ff)]) hx hb dX2_isOpen_28 rfl hl (by decide) rfl (fun ls hl => ?_)
      refine lv_iconst (v := 0) hx hb dX2_isOpen_29 (by decide) ?_
      refine lv_istore (lv' := [(4, .int 0), (3, .int (ff * (holdS zo gn p))), (0, .ref o), (1, .int (nI p)), (2, .int ff)]) hx hb dX2_isOpen_30 hl (by decide) rfl (fun ls hl => ?_)
      suffices lp32 : ∀ zn k32 : Nat, 0 ≤ k32 → k32 ≤ 4 → 4 < k32 + zn → (anyS (opT zo go gn ff p) k32 = false) → ∀ ls : Array Slot, lv_has ls 6 [(0, .ref o), (1, .int (nI p)), (2, .int ff), (3, .int (ff * (holdS zo gn p))), (4, .int (nI k32))] → W zp l ze (rmK 3) s zm args below meth zc s.heap [] 0 0 (MQ below (vp_Si (fun zx => zx = bI (opS zo go gn ff p))) args s 0 0 (fun _ => False)) (F0 zm 32 ls []) by
        have el_3 : (0 : Int32) = nI 0 := rfl
        exact lp32 (4 + 1 - 0) 0 (by omega) (by omega) (by omega) (rfl) ls (lv_sub hl [2, 3, 4, 1, 0] (show ([(0, .ref o), (1, .int (nI p)), (2, .int ff), (3, .int (ff * (holdS zo gn p))), (4, .int 0)] : List (Nat × Value)) = [(0, .ref o), (1, .int (nI p)), (2, .int ff), (3, .int (ff * (holdS zo gn p))), (4, .int (nI 0))] by rw [← el_3]))
      intro zn
      induction zn with
      | zero => exact fun k32 h1 h2 h3 => absurd h3 (by omega)
      | succ zn ih32 =>
        intro k32 hlo32 hhi32 hn32 hany ls hl
        refine lv_iload hx hb dX2_isOpen_32 (lv_at hl 4 rfl) ?_
        refine va_getsN (C := "EarthBanks") (n := "STEP_X") (d := "[I") (own := RX2) (ref := "EarthBanks") (host := "EarthBanks") (v := .ref E.2.2.2.1) (index := 104) hx hb (hE.2.2.1.narrow hlow) hS hown (va_Nw.use rfl (hE.2.1.1 ("EarthBanks$Slice", 104, "EarthBanks", "STEP_X", "[I", "EarthBanks") (by decide +kernel))) (fun _ h9 => h9) dX2_isOpen_34 ?_
        refine va_tlen (v := 4) hx hb (hE.2.2.2.1.narrow hlow) hS (by decide) dX2_isOpen_37 ?_
        refine lv_icmp_ge (tgt := 99) hx hb dX2_isOpen_38 (by decide) (fun c_4 => ?_) (fun c_4 => ?_)
        · skip
          have c_4 : 4 ≤ k32 := (nI_leI (a := 4) (b := k32) (by omega) (by omega)).mp c_4
          have hk9 : 4 = k32 := by omega
          subst hk9
          refine lv_iconst (v := 0) hx hb dX2_isOpen_99 (by decide) ?_
          exact retR hx hb hr (rfl) hlocks dX2_isOpen_100 (by simp [opS, bI, hany, c_1, c_2, c_4])
        · skip
          have c_4 : ¬ 4 ≤ k32 := fun h9 => c_4 ((nI_leI (a := 4) (b := k32) (by omega) (by omega)).mpr h9)
          refine lv_iload_n hx hb dX2_isOpen_41 rfl (lv_at hl 1 rfl) ?_
          refine lv_iload hx hb dX2_isOpen_42 (lv_at hl 4 rfl) ?_
          refine cRS (As := [.int (nI p), .int (nI k32)]) (rest := []) hx hb hml hown hts (c_X2_neighbour l G E cI cZ p k32 (hp) (by first | assumption | omega | simp [opS, bI, c_1, c_2, c_4])) k_21_16 cal_X2_neighbour ⟨Nat.le_of_ble_eq_true rfl, Nat.le_of_ble_eq_true rfl⟩ hE hlow hS hK [0, 1] rfl hP [] rfl rfl hl.1 rfl (Nat.le_of_ble_eq_true rfl) dX2_isOpen_44 ⟨Nat.zero_le _, Nat.zero_le _⟩ ?_
          rcases nb_cases (p := p) (d := k32) (by omega) with ⟨hn_5, e_8⟩ | ⟨q_6, hq_7, hn_5, e_8⟩
          · skip
            refine top_eq (y := (-9)) (e_8) ?_
            refine lv_istore (lv' := [(5, .int (-9)), (0, .ref o), (1, .int (nI p)), (2, .int ff), (3, .int (ff * (holdS zo gn p))), (4, .int (nI k32))]) hx hb dX2_isOpen_47 hl (by decide) rfl (fun ls hl => ?_)
            refine lv_iload hx hb dX2_isOpen_49 (lv_at hl 0 rfl) ?_
            refine lv_bipush (v := (-9)) hx hb dX2_isOpen_51 (by decide) ?_
            refine lv_icmp_ne (tgt := 59) hx hb dX2_isOpen_53 (by decide) (fun c_9 => ?_) (fun c_9 => ?_)
            · skip
              exact absurd rfl c_9
            · skip
              refine lv_goto (tgt := 93) hx hb dX2_isOpen_56 (by decide) ?_
              refine lv_iinc (v := nI (k32 + 1)) (lv' := [(4, .int (nI (k32 + 1))), (5, .int (-9)), (0, .ref o), (1, .int (nI p)), (2, .int ff), (3, .int (ff * (holdS zo gn p)))]) hx hb dX2_isOpen_93 hl (k := 5) rfl (nI_add _ _) (by decide) rfl (fun ls hl => ?_)
              refine lv_goto (tgt := 32) hx hb dX2_isOpen_96 (by decide) ?_
              exact ih32 (k32 + 1) (by omega) (by omega) (by omega) (by simp [anyS, hany, opT, c_1, c_2, c_4, hn_5, c_9]) ls (lv_sub hl [2, 3, 4, 5, 0] rfl)
          · skip
            refine top_eq (y := nI q_6) (e_8) ?_
            refine lv_istore (lv' := [(5, .int (nI q_6)), (0, .ref o), (1, .int (nI p)), (2, .int ff), (3, .int (ff * (holdS zo gn p))), (4, .int (nI k32))]) hx hb dX2_isOpen_47 hl (by decide) rfl (fun ls hl => ?_)
            refine lv_iload hx hb dX2_isOpen_49 (lv_at hl 0 rfl) ?_
            refine lv_bipush (v := (-9)) hx hb dX2_isOpen_51 (by decide) ?_
            refine lv_icmp_ne (tgt := 59) hx hb dX2_isOpen_53 (by decide) (fun c_10 => ?_) (fun c_10 => ?_)
            · skip
              refine lv_aload_n hx hb dX2_isOpen_59 rfl (lv_at hl 1 rfl) ?_
              refine va_get (D := G) (ci := 2) (v := .ref a_go) (C := RX2) (T := TX2) (N := 9) hx hb hts inlX2 hown hK hP 0 rfl rfl 2 (by decide) (hts (.fieldLink RX2 18 "EarthBanks$Slice" "gone" "[I") k_3_11) (fun _ h9 => h9) h_o_go dX2_isOpen_60 ?_
              refine lv_iload hx hb dX2_isOpen_63 (lv_at hl 0 rfl) ?_
              refine ialdN (j := q_6) hx hb hK hP 2 0 rfl rfl (by omega) (by decide) dX2_isOpen_65 ?_
              refine lv_iconst (v := 1) hx hb dX2_isOpen_66 (by decide) ?_
              refine lv_icmp_ne (tgt := 72) hx hb dX2_isOpen_67 (by decide) (fun c_11 => ?_) (fun c_11 => ?_)
              · skip
                refine lv_aload_n hx hb dX2_isOpen_72 rfl (lv_at hl 1 rfl) ?_
                refine lv_iload hx hb dX2_isOpen_73 (lv_at hl 0 rfl) ?_
                refine cRV (As := [.int (nI q_6)]) (rest := []) hx hb hml hown hts (c_X2_isEarth l G E cI cZ q_6 o a_zo a_go fs_o h_o_zo h_o_go zo go (by first | assumption | omega | simp [opS, bI, c_1, c_2, c_4, hn_5, c_10, c_11])) k_13_17 cal_X2_isEarth ⟨Nat.le_of_ble_eq_true rfl, Nat.le_of_ble_eq_true rfl⟩ hE hlow hS hK [0, 1] rfl hP [0, 1, 2] rfl 0 2 rfl rfl rfl hl.1 rfl (Nat.le_of_ble_eq_true rfl) dX2_isOpen_75 ⟨Nat.zero_le _, Nat.zero_le _⟩ ?_
                refine lv_if_eq (tgt := 93) hx hb dX2_isOpen_78 (by decide) (fun c_12 => ?_) (fun c_12 => ?_)
                · skip
                  have c_12 : (isES zo go q_6) = false := bI_f c_12
                  refine lv_iinc (v := nI (k32 + 1)) (lv' := [(4, .int (nI (k32 + 1))), (5, .int (nI q_6)), (0, .ref o), (1, .int (nI p)), (2, .int ff), (3, .int (ff * (holdS zo gn p)))]) hx hb dX2_isOpen_93 hl (k := 5) rfl (nI_add _ _) (by decide) rfl (fun ls hl => ?_)
                  refine lv_goto (tgt := 32) hx hb dX2_isOpen_96 (by decide) ?_
                  exact ih32 (k32 + 1) (by omega) (by omega) (by omega) (by simp [anyS, hany, opT, c_1, c_2, c_4, hn_5, c_10, c_11, c_12]) ls (lv_sub hl [2, 3, 4, 5, 0] rfl)
                · skip
                  have c_12 : (isES zo go q_6) = true := bI_t c_12
                  refine lv_aload_n hx hb dX2_isOpen_81 rfl (lv_at hl 1 rfl) ?_
                  refine lv_iload hx hb dX2_isOpen_82 (lv_at hl 0 rfl) ?_
                  refine cRV (As := [.int (nI q_6)]) (rest := []) hx hb hml hown hts (c_X2_grainAt l G E cI cZ q_6 o a_zo a_gn fs_o h_o_zo h_o_gn zo gn (by first | assumption | omega | simp [opS, bI, c_1, c_2, c_4, hn_5, c_10, c_11, c_12])) k_28_20 cal_X2_grainAt ⟨Nat.le_of_ble_eq_true rfl, Nat.le_of_ble_eq_true rfl⟩ hE hlow hS hK [0, 1] rfl hP [0, 1, 3] rfl 0 2 rfl rfl rfl hl.1 rfl (Nat.le_of_ble_eq_true rfl) dX2_isOpen_84 ⟨Nat.zero_le _, Nat.zero_le _⟩ ?_
                  refine lv_iload_n hx hb dX2_isOpen_87 rfl (lv_at hl 4 rfl) ?_
                  refine lv_icmp_le (tgt := 93) hx hb dX2_isOpen_88 (by decide) (fun c_13 => ?_) (fun c_13 => ?_)
                  · skip
                    refine lv_iinc (v := nI (k32 + 1)) (lv' := [(4, .int (nI (k32 + 1))), (5, .int (nI q_6)), (0, .ref o), (1, .int (nI p)), (2, .int ff), (3, .int (ff * (holdS zo gn p)))]) hx hb dX2_isOpen_93 hl (k := 5) rfl (nI_add _ _) (by decide) rfl (fun ls hl => ?_)
                    refine lv_goto (tgt := 32) hx hb dX2_isOpen_96 (by decide) ?_
                    exact ih32 (k32 + 1) (by omega) (by omega) (by omega) (by simp [anyS, hany, opT, c_1, c_2, c_4, hn_5, c_10, c_11, c_12, c_13]) ls (lv_sub hl [2, 3, 4, 5, 0] rfl)
                  · skip
                    refine lv_iconst (v := 1) hx hb dX2_isOpen_91 (by decide) ?_
                    exact retR hx hb hr (rfl) hlocks dX2_isOpen_92 (by rw [opS_t (anyS_t (k := k32) (by simp [opT, c_1, c_2, c_4, hn_5, c_10, c_11, c_12, c_13]) (by omega))]; rfl)
              · skip
                refine lv_iconst (v := 1) hx hb dX2_isOpen_70 (by decide) ?_
                exact retR hx hb hr (rfl) hlocks dX2_isOpen_71 (by rw [opS_t (anyS_t (k := k32) (by simp [opT, c_1, c_2, c_4, hn_5, c_10, c_11]) (by omega))]; rfl)
            · skip
              exact absurd c_10 (nI_ne9 (by omega))
    · skip
      have c_2 : (isAirS zo (p + 1)) = true := bI_t c_2
      refine lv_iconst (v := 1) hx hb dX2_isOpen_19 (by decide) ?_
      exact retR hx hb hr (rfl) hlocks dX2_isOpen_20 (by simp [opS, bI, c_1, c_2])
theorem cal_X2_isLoose : calV yX2_isLoose cX2_isLoose 3 (some .boolean) 2 := ⟨k_28_14, k_1_19, k_28_12, k_28_13, by decide +kernel⟩
set_option maxHeartbeats 4000000 in
set_option maxRecDepth 100000 in
theorem c_X2_isLoose (l : Launch) (G : va_G) (E : EvT) (cI cZ : ClassId) (p : Nat) (ff : Int32) (o : Nat) (a_zo : Nat) (a_he : Nat) (a_go : Nat) (a_hd : Nat) (a_gn : Nat) (fs_o : List Value) (h_o_zo : fs_o[0]? = some (.ref a_zo)) (h_o_go : fs_o[2]? = some (.ref a_go)) (h_o_he : fs_o[1]? = some (.ref a_he)) (h_o_hd : fs_o[4]? = some (.ref a_hd)) (h_o_gn : fs_o[5]? = some (.ref a_gn)) (zo : Nat → Int32) (he : Nat → Int32) (go : Nat → Int32) (hd : Nat → Int32) (gn : Nat → Int32) (hp : p < 48) : cR l G E yX2_isLoose cX2_isLoose 3 (some .boolean) 4 [(cI, .int), (cZ, .boolean)] [.ref o, .int (nI p), .int ff] [(o, .inr (2, fs_o)), (a_zo, .inl (cI, 48, .inl zo)), (a_he, .inl (cI, 48, .inl he)), (a_go, .inl (cI, 48, .inl go)), (a_hd, .inl (cI, 6, .inl hd)), (a_gn, .inl (cI, 6, .inl gn))] (bI (loS zo he go hd gn ff p)) := by
  refine mkR (by decide) (Nat.le_of_ble_eq_true rfl) ?_
  intro zp ze s zm args below meth zc hx hb hr hml hown hts hlocks hE hP hK ls hl
  have hS : va_S (fun _ => False) s.heap s.heap [] := va_S.rf
  have hlow : ∀ q : Nat, (fun _ : Nat => False) q → E.1 ≤ q := fun _ h => h.elim
  have hl : lv_has ls 3 [(0, .ref o), (1, .int (nI p)), (2, .int ff)] := hl
  refine lv_aload_n hx hb dX2_isLoose_0 rfl (lv_at hl 0 rfl) ?_
  refine lv_iload_n hx hb dX2_isLoose_1 rfl (lv_at hl 1 rfl) ?_
  refine cRV (As := [.int (nI p)]) (rest := []) hx hb hml hown hts (c_X2_isEarth l G E cI cZ p o a_zo a_go fs_o h_o_zo h_o_go zo go (hp)) k_13_17 cal_X2_isEarth ⟨Nat.le_of_ble_eq_true rfl, Nat.le_of_ble_eq_true rfl⟩ hE hlow hS hK [0, 1] rfl hP [0, 1, 3] rfl 0 2 rfl rfl rfl hl.1 rfl (Nat.le_of_ble_eq_true rfl) dX2_isLoose_2 ⟨Nat.zero_le _, Nat.zero_le _⟩ ?_
  refine lv_if_eq (tgt := 37) hx hb dX2_isLoose_5 (by decide) (fun c_1 => ?_) (fun c_1 => ?_)
  · skip
    have c_1 : (isES zo go p) = false := bI_f c_1
    refine lv_iconst (v := 0) hx hb dX2_isLoose_37 (by decide) ?_
    exact retR hx hb hr (rfl) hlocks dX2_isLoose_38 (by simp [loS, bI, c_1])
  · skip
    have c_1 : (isES zo go p) = true := bI_t c_1
    refine lv_aload_n hx hb dX2_isLoose_8 rfl (lv_at hl 0 rfl) ?_
    refine lv_iload_n hx hb dX2_isLoose_9 rfl (lv_at hl 1 rfl) ?_
    refine cRV (As := [.int (nI p)]) (rest := []) hx hb hml hown hts (c_X2_pushAt l G E cI cZ p o a_he fs_o h_o_he he (hp)) k_22_7 cal_X2_pushAt ⟨Nat.le_of_ble_eq_true rfl, Nat.le_of_ble_eq_true rfl⟩ hE hlow hS hK [0, 1] rfl hP [0, 2] rfl 0 2 rfl rfl rfl hl.1 rfl (Nat.le_of_ble_eq_true rfl) dX2_isLoose_10 ⟨Nat.zero_le _, Nat.zero_le _⟩ ?_
    refine lv_bipush (v := 20) hx hb dX2_isLoose_13 (by decide) ?_
    refine lv_aload_n hx hb dX2_isLoose_15 rfl (lv_at hl 0 rfl) ?_
    refine lv_iload_n hx hb dX2_isLoose_16 rfl (lv_at hl 1 rfl) ?_
    refine cRV (As := [.int (nI p)]) (rest := [.int 20, .int (pushS he p)]) hx hb hml hown hts (c_X2_holdAt l G E cI cZ p o a_zo a_hd fs_o h_o_zo h_o_hd zo hd (hp)) k_28_15 cal_X2_holdAt ⟨Nat.le_of_ble_eq_true rfl, Nat.le_of_ble_eq_true rfl⟩ hE hlow hS hK [0, 1] rfl hP [0, 1, 4] rfl 0 2 rfl rfl rfl hl.1 rfl (Nat.le_of_ble_eq_true rfl) dX2_isLoose_17 ⟨Nat.zero_le _, Nat.zero_le _⟩ ?_
    refine lv_imul hx hb dX2_isLoose_20 ?_
    refine lv_icmp_lt (tgt := 37) hx hb dX2_isLoose_21 (by decide) (fun c_2 => ?_) (fun c_2 => ?_)
    · skip
      refine lv_iconst (v := 0) hx hb dX2_isLoose_37 (by decide) ?_
      exact retR hx hb hr (rfl) hlocks dX2_isLoose_38 (by simp [loS, bI, c_1, c_2])
    · skip
      refine lv_aload_n hx hb dX2_isLoose_24 rfl (lv_at hl 0 rfl) ?_
      refine lv_iload_n hx hb dX2_isLoose_25 rfl (lv_at hl 1 rfl) ?_
      refine lv_iload_n hx hb dX2_isLoose_26 rfl (lv_at hl 2 rfl) ?_
      refine cRV (As := [.int (nI p), .int ff]) (rest := []) hx hb hml hown hts (c_X2_isOpen l G E cI cZ p ff o a_zo a_go a_gn fs_o h_o_zo h_o_gn h_o_go zo go gn (hp)) k_28_16 cal_X2_isOpen ⟨Nat.le_of_ble_eq_true rfl, Nat.le_of_ble_eq_true rfl⟩ hE hlow hS hK [0, 1] rfl hP [0, 1, 3, 5] rfl 0 2 rfl rfl rfl hl.1 rfl (Nat.le_of_ble_eq_true rfl) dX2_isLoose_27 ⟨Nat.zero_le _, Nat.zero_le _⟩ ?_
      refine lv_if_eq (tgt := 37) hx hb dX2_isLoose_30 (by decide) (fun c_3 => ?_) (fun c_3 => ?_)
      · skip
        have c_3 : (opS zo go gn ff p) = false := bI_f c_3
        refine lv_iconst (v := 0) hx hb dX2_isLoose_37 (by decide) ?_
        exact retR hx hb hr (rfl) hlocks dX2_isLoose_38 (by simp [loS, bI, c_1, c_2, c_3])
      · skip
        have c_3 : (opS zo go gn ff p) = true := bI_t c_3
        refine lv_iconst (v := 1) hx hb dX2_isLoose_33 (by decide) ?_
        refine lv_goto (tgt := 38) hx hb dX2_isLoose_34 (by decide) ?_
        exact retR hx hb hr (rfl) hlocks dX2_isLoose_38 (by simp [loS, bI, c_1, c_2, c_3])
theorem cal_X2_passDay : calV yX2_passDay cX2_passDay 4 (some .int) 1 := ⟨k_28_10, k_1_19, k_28_8, k_28_9, by decide +kernel⟩
set_option maxHeartbeats 4000000 in
set_option maxRecDepth 100000 in
theorem c_X2_passDay (l : Launch) (G : va_G) (E : EvT) (cI cZ : ClassId) (ff : Int32) (o : Nat) (a_zo : Nat) (a_he : Nat) (a_go : Nat) (a_hd : Nat) (a_gn : Nat) (a_lv : Nat) (fs_o : List Value) (h_o_lv : fs_o[7]? = some (.ref a_lv)) (h_o_go : fs_o[2]? = some (.ref a_go)) (h_o_zo : fs_o[0]? = some (.ref a_zo)) (h_o_he : fs_o[1]? = some (.ref a_he)) (h_o_hd : fs_o[4]? = some (.ref a_hd)) (h_o_gn : fs_o[5]? = some (.ref a_gn)) (zo : Nat → Int32) (he : Nat → Int32) (go : Nat → Int32) (hd : Nat → Int32) (gn : Nat → Int32) (lv : Nat → Int32) : cWi (S := Unit) l G E yX2_passDay cX2_passDay 4 (some .int) 5 [(cI, .int), (cZ, .boolean)] [.ref o, .int ff] [(o, .inr (2, fs_o)), (a_zo, .inl (cI, 48, .inl zo)), (a_he, .inl (cI, 48, .inl he)), (a_go, .inl (cI, 48, .inl go)), (a_hd, .inl (cI, 6, .inl hd)), (a_gn, .inl (cI, 6, .inl gn)), (a_lv, .inl (cI, 48, .inl lv))] (fun r _ => r = cntS (loS zo he go hd gn ff) 48) (fun _ => [(o, .inr (2, fs_o)), (a_zo, .inl (cI, 48, .inl zo)), (a_he, .inl (cI, 48, .inl he)), (a_go, .inl (cI, 48, .inl (dyS zo he hd gn ff go))), (a_hd, .inl (cI, 6, .inl hd)), (a_gn, .inl (cI, 6, .inl gn)), (a_lv, .inl (cI, 48, .inl (lgS zo he go hd gn ff)))]) := by
  refine mkWi (by decide) (Nat.le_of_ble_eq_true rfl) ?_
  intro zp ze s zm args below meth zc hx hb hr hml hown hts hlocks hE hK A hA hlow H locs hP hD hS ls hl
  have hl : lv_has ls 4 [(0, .ref o), (1, .int ff)] := hl
  refine lv_iconst (v := 0) hx hb dX2_passDay_0 (by decide) ?_
  refine lv_istore_n (lv' := [(2, .int 0), (0, .ref o), (1, .int ff)]) hx hb dX2_passDay_1 rfl hl (by decide) rfl (fun ls hl => ?_)
  refine lv_iconst (v := 0) hx hb dX2_passDay_2 (by decide) ?_
  refine lv_istore_n (lv' := [(3, .int 0), (2, .int 0), (0, .ref o), (1, .int ff)]) hx hb dX2_passDay_3 rfl hl (by decide) rfl (fun ls hl => ?_)
  suffices lp4 : ∀ zn k4 : Nat, 0 ≤ k4 → k4 ≤ 48 → 48 < k4 + zn → ∀ (H : Heap) (locs : List Loc), va_P G vwCl [(o, .inr (2, fs_o)), (a_zo, .inl (cI, 48, .inl zo)), (a_he, .inl (cI, 48, .inl he)), (a_go, .inl (cI, 48, .inl go)), (a_hd, .inl (cI, 6, .inl hd)), (a_gn, .inl (cI, 6, .inl gn)), (a_lv, .inl (cI, 48, .inl (filS (lgS zo he go hd gn ff) lv k4)))] H → va_D A [(o, .inr (2, fs_o)), (a_zo, .inl (cI, 48, .inl zo)), (a_he, .inl (cI, 48, .inl he)), (a_go, .inl (cI, 48, .inl go)), (a_hd, .inl (cI, 6, .inl hd)), (a_gn, .inl (cI, 6, .inl gn)), (a_lv, .inl (cI, 48, .inl (filS (lgS zo he go hd gn ff) lv k4)))] → va_S A s.heap H locs → ∀ ls : Array Slot, lv_has ls 4 [(0, .ref o), (1, .int ff), (2, .int 0), (3, .int (nI k4))] → W zp l ze (rmK 5) s zm args below meth zc H locs 0 0 (MQ below (va_Qi (S := Unit) (fun r _ => r = cntS (loS zo he go hd gn ff) 48) (fun u t => va_P G vwCl ((fun _ => [(o, .inr (2, fs_o)), (a_zo, .inl (cI, 48, .inl zo)), (a_he, .inl (cI, 48, .inl he)), (a_go, .inl (cI, 48, .inl (dyS zo he hd gn ff go))), (a_hd, .inl (cI, 6, .inl hd)), (a_gn, .inl (cI, 6, .inl gn)), (a_lv, .inl (cI, 48, .inl (lgS zo he go hd gn ff)))]) u) t.heap) A) args s 0 0 A) (F0 zm 4 ls []) by
    have el_1 : (0 : Int32) = nI 0 := rfl
    have er_2 : lv = (filS (lgS zo he go hd gn ff) lv 0) := (filS_0 _ _).symm
    exact lp4 (48 + 1 - 0) 0 (by omega) (by omega) (by omega)  H locs (by rw [← er_2]; exact hP) (by rw [← er_2]; exact hD) hS ls (lv_sub hl [2, 3, 1, 0] (show ([(0, .ref o), (1, .int ff), (2, .int 0), (3, .int 0)] : List (Nat × Value)) = [(0, .ref o), (1, .int ff), (2, .int 0), (3, .int (nI 0))] by rw [← el_1]))
  intro zn
  induction zn with
  | zero => exact fun k4 h1 h2 h3 => absurd h3 (by omega)
  | succ zn ih4 =>
    intro k4 hlo4 hhi4 hn4  H locs hP hD hS ls hl
    refine lv_iload_n hx hb dX2_passDay_4 rfl (lv_at hl 3 rfl) ?_
    refine lv_bipush (v := 48) hx hb dX2_passDay_5 (by decide) ?_
    refine lv_icmp_ge (tgt := 36) hx hb dX2_passDay_7 (by decide) (fun c_3 => ?_) (fun c_3 => ?_)
    · skip
      have c_3 : 48 ≤ k4 := (nI_leI (a := 48) (b := k4) (by omega) (by omega)).mp c_3
      have hk9 : 48 = k4 := by omega
      subst hk9
      have hP := P_swap hP 6 (lgS zo he go hd gn ff) rfl (fun k h9 => filS_in h9)
      have hD := D_swap hD 6 (.inl (cI, 48, .inl (lgS zo he go hd gn ff))) rfl
      have hP : va_P G vwCl [(o, .inr (2, fs_o)), (a_zo, .inl (cI, 48, .inl zo)), (a_he, .inl (cI, 48, .inl he)), (a_go, .inl (cI, 48, .inl go)), (a_hd, .inl (cI, 6, .inl hd)), (a_gn, .inl (cI, 6, .inl gn)), (a_lv, .inl (cI, 48, .inl (lgS zo he go hd gn ff)))] H := hP
      have hD : va_D A [(o, .inr (2, fs_o)), (a_zo, .inl (cI, 48, .inl zo)), (a_he, .inl (cI, 48, .inl he)), (a_go, .inl (cI, 48, .inl go)), (a_hd, .inl (cI, 6, .inl hd)), (a_gn, .inl (cI, 6, .inl gn)), (a_lv, .inl (cI, 48, .inl (lgS zo he go hd gn ff)))] := hD
      refine lv_iconst (v := 0) hx hb dX2_passDay_36 (by decide) ?_
      refine lv_istore_n (lv' := [(3, .int 0), (0, .ref o), (1, .int ff), (2, .int 0)]) hx hb dX2_passDay_37 rfl hl (by decide) rfl (fun ls hl => ?_)
      suffices lp38 : ∀ zn k38 : Nat, 0 ≤ k38 → k38 ≤ 48 → 48 < k38 + zn → ∀ (H : Heap) (locs : List Loc), va_P G vwCl [(o, .inr (2, fs_o)), (a_zo, .inl (cI, 48, .inl zo)), (a_he, .inl (cI, 48, .inl he)), (a_go, .inl (cI, 48, .inl (filS (dyS zo he hd gn ff go) go k38))), (a_hd, .inl (cI, 6, .inl hd)), (a_gn, .inl (cI, 6, .inl gn)), (a_lv, .inl (cI, 48, .inl (lgS zo he go hd gn ff)))] H → va_D A [(o, .inr (2, fs_o)), (a_zo, .inl (cI, 48, .inl zo)), (a_he, .inl (cI, 48, .inl he)), (a_go, .inl (cI, 48, .inl (filS (dyS zo he hd gn ff go) go k38))), (a_hd, .inl (cI, 6, .inl hd)), (a_gn, .inl (cI, 6, .inl gn)), (a_lv, .inl (cI, 48, .inl (lgS zo he go hd gn ff)))] → va_S A s.heap H locs → ∀ ls : Array Slot, lv_has ls 4 [(0, .ref o), (1, .int ff), (2, .int (cntS (loS zo he go hd gn ff) k38)), (3, .int (nI k38))] → W zp l ze (rmK 5) s zm args below meth zc H locs 0 0 (MQ below (va_Qi (S := Unit) (fun r _ => r = cntS (loS zo he go hd gn ff) 48) (fun u t => va_P G vwCl ((fun _ => [(o, .inr (2, fs_o)), (a_zo, .inl (cI, 48, .inl zo)), (a_he, .inl (cI, 48, .inl he)), (a_go, .inl (cI, 48, .inl (dyS zo he hd gn ff go))), (a_hd, .inl (cI, 6, .inl hd)), (a_gn, .inl (cI, 6, .inl gn)), (a_lv, .inl (cI, 48, .inl (lgS zo he go hd gn ff)))]) u) t.heap) A) args s 0 0 A) (F0 zm 38 ls []) by
        have el_4 : (0 : Int32) = cntS (loS zo he go hd gn ff) 0 := by simp [cntS, cntS, bI, c_3]
        have el_5 : (0 : Int32) = nI 0 := rfl
        have er_6 : go = (filS (dyS zo he hd gn ff go) go 0) := (filS_0 _ _).symm
        exact lp38 (48 + 1 - 0) 0 (by omega) (by omega) (by omega)  H locs (by rw [← er_6]; exact hP) (by rw [← er_6]; exact hD) hS ls (lv_sub hl [1, 2, 3, 0] (show ([(0, .ref o), (1, .int ff), (2, .int 0), (3, .int 0)] : List (Nat × Value)) = [(0, .ref o), (1, .int ff), (2, .int (cntS (loS zo he go hd gn ff) 0)), (3, .int (nI 0))] by rw [← el_4, ← el_5]))
      intro zn
      induction zn with
      | zero => exact fun k38 h1 h2 h3 => absurd h3 (by omega)
      | succ zn ih38 =>
        intro k38 hlo38 hhi38 hn38  H locs hP hD hS ls hl
        refine lv_iload_n hx hb dX2_passDay_38 rfl (lv_at hl 3 rfl) ?_
        refine lv_bipush (v := 48) hx hb dX2_passDay_39 (by decide) ?_
        refine lv_icmp_ge (tgt := 72) hx hb dX2_passDay_41 (by decide) (fun c_7 => ?_) (fun c_7 => ?_)
        · skip
          have c_7 : 48 ≤ k38 := (nI_leI (a := 48) (b := k38) (by omega) (by omega)).mp c_7
          have hk9 : 48 = k38 := by omega
          subst hk9
          refine lv_iload_n hx hb dX2_passDay_72 rfl (lv_at hl 2 rfl) ?_
          have hP := P_swap hP 3 (dyS zo he hd gn ff go) rfl (fun k h9 => filS_in h9)
          have hP : va_P G vwCl [(o, .inr (2, fs_o)), (a_zo, .inl (cI, 48, .inl zo)), (a_he, .inl (cI, 48, .inl he)), (a_go, .inl (cI, 48, .inl (dyS zo he hd gn ff go))), (a_hd, .inl (cI, 6, .inl hd)), (a_gn, .inl (cI, 6, .inl gn)), (a_lv, .inl (cI, 48, .inl (lgS zo he go hd gn ff)))] H := hP
          exact retWi () hx hb hr (rfl) hlocks dX2_passDay_73 hS (rfl) hP
        · skip
          have c_7 : ¬ 48 ≤ k38 := fun h9 => c_7 ((nI_leI (a := 48) (b := k38) (by omega) (by omega)).mpr h9)
          refine lv_aload_n hx hb dX2_passDay_44 rfl (lv_at hl 0 rfl) ?_
          refine va_get (D := G) (ci := 2) (v := .ref a_lv) (C := RX2) (T := TX2) (N := 9) hx hb hts inlX2 hown hK hP 0 rfl rfl 7 (by decide) (hts (.fieldLink RX2 34 "EarthBanks$Slice" "leaving" "[I") k_3_16) (fun _ h9 => h9) h_o_lv dX2_passDay_45 ?_
          refine lv_iload_n hx hb dX2_passDay_48 rfl (lv_at hl 3 rfl) ?_
          refine ialdN (j := k38) hx hb hK hP 6 0 rfl rfl (by omega) (by decide) dX2_passDay_49 ?_
          refine top_eq (y := bI (loS zo he go hd gn ff k38)) (rfl) ?_
          refine lv_if_ne (tgt := 56) hx hb dX2_passDay_50 (by decide) (fun c_8 => ?_) (fun c_8 => ?_)
          · skip
            have c_8 : (loS zo he go hd gn ff k38) = true := bI_t c_8
            refine lv_aload_n hx hb dX2_passDay_56 rfl (lv_at hl 0 rfl) ?_
            refine va_get (D := G) (ci := 2) (v := .ref a_go) (C := RX2) (T := TX2) (N := 9) hx hb hts inlX2 hown hK hP 0 rfl rfl 2 (by decide) (hts (.fieldLink RX2 18 "EarthBanks$Slice" "gone" "[I") k_3_11) (fun _ h9 => h9) h_o_go dX2_passDay_57 ?_
            refine lv_iload_n hx hb dX2_passDay_60 rfl (lv_at hl 3 rfl) ?_
            refine lv_iconst (v := 1) hx hb dX2_passDay_61 (by decide) ?_
            refine iastN (j := k38) hx hb hK hP hD hS 3 0 rfl rfl (by omega) (by decide) dX2_passDay_62 (fun H locs hP hD hS => ?_)
            have hP : va_P G vwCl [(o, .inr (2, fs_o)), (a_zo, .inl (cI, 48, .inl zo)), (a_he, .inl (cI, 48, .inl he)), (a_go, .inl (cI, 48, .inl (upd (filS (dyS zo he hd gn ff go) go k38) k38 1))), (a_hd, .inl (cI, 6, .inl hd)), (a_gn, .inl (cI, 6, .inl gn)), (a_lv, .inl (cI, 48, .inl (lgS zo he go hd gn ff)))] H := hP
            have hD : va_D A [(o, .inr (2, fs_o)), (a_zo, .inl (cI, 48, .inl zo)), (a_he, .inl (cI, 48, .inl he)), (a_go, .inl (cI, 48, .inl (upd (filS (dyS zo he hd gn ff go) go k38) k38 1))), (a_hd, .inl (cI, 6, .inl hd)), (a_gn, .inl (cI, 6, .inl gn)), (a_lv, .inl (cI, 48, .inl (lgS zo he go hd gn ff)))] := hD
            refine lv_iinc (v := (cntS (loS zo he go hd gn ff) k38 + 1)) (lv' := [(2, .int (cntS (loS zo he go hd gn ff) k38 + 1)), (0, .ref o), (1, .int ff), (3, .int (nI k38))]) hx hb dX2_passDay_63 hl (k := 2) rfl (rfl) (by decide) rfl (fun ls hl => ?_)
            refine lv_iinc (v := nI (k38 + 1)) (lv' := [(3, .int (nI (k38 + 1))), (2, .int (cntS (loS zo he go hd gn ff) k38 + 1)), (0, .ref o), (1, .int ff)]) hx hb dX2_passDay_66 hl (k := 3) rfl (nI_add _ _) (by decide) rfl (fun ls hl => ?_)
            refine lv_goto (tgt := 38) hx hb dX2_passDay_69 (by decide) ?_
            have el_9 : ((cntS (loS zo he go hd gn ff) k38 + 1) : Int32) = cntS (loS zo he go hd gn ff) (k38 + 1) := by simp [cntS, cntS, bI, c_3, c_7, c_8]
            have er_10 : (upd (filS (dyS zo he hd gn ff go) go k38) k38 1) = (filS (dyS zo he hd gn ff go) go (k38 + 1)) := filS_s _ _ _ _ (by simp [cntS, dyS, bI, c_3, c_7, c_8])
            exact ih38 (k38 + 1) (by omega) (by omega) (by omega)  H locs (by rw [← er_10]; exact hP) (by rw [← er_10]; exact hD) hS ls (lv_sub hl [2, 3, 1, 0] (show ([(0, .ref o), (1, .int ff), (2, .int (cntS (loS zo he go hd gn ff) k38 + 1)), (3, .int (nI (k38 + 1)))] : List (Nat × Value)) = [(0, .ref o), (1, .int ff), (2, .int (cntS (loS zo he go hd gn ff) (k38 + 1))), (3, .int (nI (k38 + 1)))] by rw [← el_9]))
          · skip
            have c_8 : (loS zo he go hd gn ff k38) = false := bI_f c_8
            refine lv_goto (tgt := 66) hx hb dX2_passDay_53 (by decide) ?_
            refine lv_iinc (v := nI (k38 + 1)) (lv' := [(3, .int (nI (k38 + 1))), (0, .ref o), (1, .int ff), (2, .int (cntS (loS zo he go hd gn ff) k38))]) hx hb dX2_passDay_66 hl (k := 3) rfl (nI_add _ _) (by decide) rfl (fun ls hl => ?_)
            refine lv_goto (tgt := 38) hx hb dX2_passDay_69 (by decide) ?_
            have el_11 : (cntS (loS zo he go hd gn ff) k38 : Int32) = cntS (loS zo he go hd gn ff) (k38 + 1) := by simp [cntS, cntS, bI, c_3, c_7, c_8]
            have er_12 : (filS (dyS zo he hd gn ff go) go k38) = (filS (dyS zo he hd gn ff go) go (k38 + 1)) := filS_k _ _ _ (by simp [cntS, dyS, bI, c_3, c_7, c_8])
            exact ih38 (k38 + 1) (by omega) (by omega) (by omega)  H locs (by rw [← er_12]; exact hP) (by rw [← er_12]; exact hD) hS ls (lv_sub hl [1, 2, 3, 0] (show ([(0, .ref o), (1, .int ff), (2, .int (cntS (loS zo he go hd gn ff) k38)), (3, .int (nI (k38 + 1)))] : List (Nat × Value)) = [(0, .ref o), (1, .int ff), (2, .int (cntS (loS zo he go hd gn ff) (k38 + 1))), (3, .int (nI (k38 + 1)))] by rw [← el_11]))
    · skip
      have c_3 : ¬ 48 ≤ k4 := fun h9 => c_3 ((nI_leI (a := 48) (b := k4) (by omega) (by omega)).mpr h9)
      refine lv_aload_n hx hb dX2_passDay_10 rfl (lv_at hl 0 rfl) ?_
      refine va_get (D := G) (ci := 2) (v := .ref a_lv) (C := RX2) (T := TX2) (N := 9) hx hb hts inlX2 hown hK hP 0 rfl rfl 7 (by decide) (hts (.fieldLink RX2 34 "EarthBanks$Slice" "leaving" "[I") k_3_16) (fun _ h9 => h9) h_o_lv dX2_passDay_11 ?_
      refine lv_iload_n hx hb dX2_passDay_14 rfl (lv_at hl 3 rfl) ?_
      refine lv_aload_n hx hb dX2_passDay_15 rfl (lv_at hl 0 rfl) ?_
      refine lv_iload_n hx hb dX2_passDay_16 rfl (lv_at hl 3 rfl) ?_
      refine lv_iload_n hx hb dX2_passDay_17 rfl (lv_at hl 1 rfl) ?_
      refine cRV (As := [.int (nI k4), .int ff]) (rest := [.int (nI k4), .ref a_lv]) hx hb hml hown hts (c_X2_isLoose l G E cI cZ k4 ff o a_zo a_he a_go a_hd a_gn fs_o h_o_zo h_o_go h_o_he h_o_hd h_o_gn zo he go hd gn (by first | assumption | omega | simp [cntS, bI, c_3])) k_28_11 cal_X2_isLoose ⟨Nat.le_of_ble_eq_true rfl, Nat.le_of_ble_eq_true rfl⟩ hE hlow hS hK [0, 1] rfl hP [0, 1, 2, 3, 4, 5] rfl 0 2 rfl rfl rfl hl.1 rfl (Nat.le_of_ble_eq_true rfl) dX2_passDay_18 ⟨Nat.zero_le _, Nat.zero_le _⟩ ?_
      refine lv_if_eq (tgt := 28) hx hb dX2_passDay_21 (by decide) (fun c_13 => ?_) (fun c_13 => ?_)
      · skip
        have c_13 : (loS zo he go hd gn ff k4) = false := bI_f c_13
        refine lv_iconst (v := 0) hx hb dX2_passDay_28 (by decide) ?_
        refine iastN (j := k4) hx hb hK hP hD hS 6 0 rfl rfl (by omega) (by decide) dX2_passDay_29 (fun H locs hP hD hS => ?_)
        have hP : va_P G vwCl [(o, .inr (2, fs_o)), (a_zo, .inl (cI, 48, .inl zo)), (a_he, .inl (cI, 48, .inl he)), (a_go, .inl (cI, 48, .inl go)), (a_hd, .inl (cI, 6, .inl hd)), (a_gn, .inl (cI, 6, .inl gn)), (a_lv, .inl (cI, 48, .inl (upd (filS (lgS zo he go hd gn ff) lv k4) k4 0)))] H := hP
        have hD : va_D A [(o, .inr (2, fs_o)), (a_zo, .inl (cI, 48, .inl zo)), (a_he, .inl (cI, 48, .inl he)), (a_go, .inl (cI, 48, .inl go)), (a_hd, .inl (cI, 6, .inl hd)), (a_gn, .inl (cI, 6, .inl gn)), (a_lv, .inl (cI, 48, .inl (upd (filS (lgS zo he go hd gn ff) lv k4) k4 0)))] := hD
        refine lv_iinc (v := nI (k4 + 1)) (lv' := [(3, .int (nI (k4 + 1))), (0, .ref o), (1, .int ff), (2, .int 0)]) hx hb dX2_passDay_30 hl (k := 3) rfl (nI_add _ _) (by decide) rfl (fun ls hl => ?_)
        refine lv_goto (tgt := 4) hx hb dX2_passDay_33 (by decide) ?_
        have er_14 : (upd (filS (lgS zo he go hd gn ff) lv k4) k4 0) = (filS (lgS zo he go hd gn ff) lv (k4 + 1)) := filS_s _ _ _ _ (by simp [cntS, lgS, bI, c_3, c_13])
        exact ih4 (k4 + 1) (by omega) (by omega) (by omega)  H locs (by rw [← er_14]; exact hP) (by rw [← er_14]; exact hD) hS ls (lv_sub hl [1, 2, 3, 0] rfl)
      · skip
        have c_13 : (loS zo he go hd gn ff k4) = true := bI_t c_13
        refine lv_iconst (v := 1) hx hb dX2_passDay_24 (by decide) ?_
        refine lv_goto (tgt := 29) hx hb dX2_passDay_25 (by decide) ?_
        refine iastN (j := k4) hx hb hK hP hD hS 6 0 rfl rfl (by omega) (by decide) dX2_passDay_29 (fun H locs hP hD hS => ?_)
        have hP : va_P G vwCl [(o, .inr (2, fs_o)), (a_zo, .inl (cI, 48, .inl zo)), (a_he, .inl (cI, 48, .inl he)), (a_go, .inl (cI, 48, .inl go)), (a_hd, .inl (cI, 6, .inl hd)), (a_gn, .inl (cI, 6, .inl gn)), (a_lv, .inl (cI, 48, .inl (upd (filS (lgS zo he go hd gn ff) lv k4) k4 1)))] H := hP
        have hD : va_D A [(o, .inr (2, fs_o)), (a_zo, .inl (cI, 48, .inl zo)), (a_he, .inl (cI, 48, .inl he)), (a_go, .inl (cI, 48, .inl go)), (a_hd, .inl (cI, 6, .inl hd)), (a_gn, .inl (cI, 6, .inl gn)), (a_lv, .inl (cI, 48, .inl (upd (filS (lgS zo he go hd gn ff) lv k4) k4 1)))] := hD
        refine lv_iinc (v := nI (k4 + 1)) (lv' := [(3, .int (nI (k4 + 1))), (0, .ref o), (1, .int ff), (2, .int 0)]) hx hb dX2_passDay_30 hl (k := 3) rfl (nI_add _ _) (by decide) rfl (fun ls hl => ?_)
        refine lv_goto (tgt := 4) hx hb dX2_passDay_33 (by decide) ?_
        have er_15 : (upd (filS (lgS zo he go hd gn ff) lv k4) k4 1) = (filS (lgS zo he go hd gn ff) lv (k4 + 1)) := filS_s _ _ _ _ (by simp [cntS, lgS, bI, c_3, c_13])
        exact ih4 (k4 + 1) (by omega) (by omega) (by omega)  H locs (by rw [← er_15]; exact hP) (by rw [← er_15]; exact hD) hS ls (lv_sub hl [1, 2, 3, 0] rfl)
theorem cal_X2_earthAtFront : calV yX2_earthAtFront cX2_earthAtFront 3 (some .int) 0 := ⟨k_29_23, k_1_19, k_29_21, k_29_22, by decide +kernel⟩
set_option maxHeartbeats 4000000 in
set_option maxRecDepth 100000 in
theorem c_X2_earthAtFront (l : Launch) (G : va_G) (E : EvT) (cI cZ : ClassId) (o : Nat) (a_zo : Nat) (a_go : Nat) (fs_o : List Value) (h_o_zo : fs_o[0]? = some (.ref a_zo)) (h_o_go : fs_o[2]? = some (.ref a_go)) (zo : Nat → Int32) (go : Nat → Int32) : cR l G E yX2_earthAtFront cX2_earthAtFront 3 (some .int) 3 [(cI, .int), (cZ, .boolean)] [.ref o] [(o, .inr (2, fs_o)), (a_zo, .inl (cI, 48, .inl zo)), (a_go, .inl (cI, 48, .inl go))] (frS zo go) := by
  refine mkR (by decide) (Nat.le_of_ble_eq_true rfl) ?_
  intro zp ze s zm args below meth zc hx hb hr hml hown hts hlocks hE hP hK ls hl
  have hS : va_S (fun _ => False) s.heap s.heap [] := va_S.rf
  have hlow : ∀ q : Nat, (fun _ : Nat => False) q → E.1 ≤ q := fun _ h => h.elim
  have hl : lv_has ls 3 [(0, .ref o)] := hl
  refine lv_iconst (v := 0) hx hb dX2_earthAtFront_0 (by decide) ?_
  refine lv_istore_n (lv' := [(1, .int 0), (0, .ref o)]) hx hb dX2_earthAtFront_1 rfl hl (by decide) rfl (fun ls hl => ?_)
  refine lv_iconst (v := 0) hx hb dX2_earthAtFront_2 (by decide) ?_
  refine lv_istore_n (lv' := [(2, .int 0), (1, .int 0), (0, .ref o)]) hx hb dX2_earthAtFront_3 rfl hl (by decide) rfl (fun ls hl => ?_)
  suffices lp4 : ∀ zn k4 : Nat, 0 ≤ k4 → k4 ≤ 6 → 6 < k4 + zn → ∀ ls : Array Slot, lv_has ls 3 [(0, .ref o), (1, .int (cntS (fun j => isES zo go (8 * j)) k4)), (2, .int (nI (8 * k4)))] → W zp l ze (rmK 3) s zm args below meth zc s.heap [] 0 0 (MQ below (vp_Si (fun zx => zx = frS zo go)) args s 0 0 (fun _ => False)) (F0 zm 4 ls []) by
    have el_1 : (0 : Int32) = cntS (fun j => isES zo go (8 * j)) 0 := by simp [frS, cntS, bI]
    have el_2 : (0 : Int32) = nI (8 * 0) := rfl
    exact lp4 (6 + 1 - 0) 0 (by omega) (by omega) (by omega)  ls (lv_sub hl [2, 1, 0] (show ([(0, .ref o), (1, .int 0), (2, .int 0)] : List (Nat × Value)) = [(0, .ref o), (1, .int (cntS (fun j => isES zo go (8 * j)) 0)), (2, .int (nI (8 * 0)))] by rw [← el_1, ← el_2]))
  intro zn
  induction zn with
  | zero => exact fun k4 h1 h2 h3 => absurd h3 (by omega)
  | succ zn ih4 =>
    intro k4 hlo4 hhi4 hn4  ls hl
    refine lv_iload_n hx hb dX2_earthAtFront_4 rfl (lv_at hl 2 rfl) ?_
    refine lv_bipush (v := 48) hx hb dX2_earthAtFront_5 (by decide) ?_
    refine lv_icmp_ge (tgt := 27) hx hb dX2_earthAtFront_7 (by decide) (fun c_3 => ?_) (fun c_3 => ?_)
    · skip
      have c_3 : 48 ≤ 8 * k4 := (nI_leI (a := 48) (b := 8 * k4) (by omega) (by omega)).mp c_3
      have hk9 : 6 = k4 := by omega
      subst hk9
      refine lv_iload_n hx hb dX2_earthAtFront_27 rfl (lv_at hl 1 rfl) ?_
      exact retR hx hb hr (rfl) hlocks dX2_earthAtFront_28 (by simp [frS, bI, c_3])
    · skip
      have c_3 : ¬ 48 ≤ 8 * k4 := fun h9 => c_3 ((nI_leI (a := 48) (b := 8 * k4) (by omega) (by omega)).mpr h9)
      refine lv_aload_n hx hb dX2_earthAtFront_10 rfl (lv_at hl 0 rfl) ?_
      refine lv_iload_n hx hb dX2_earthAtFront_11 rfl (lv_at hl 2 rfl) ?_
      refine cRV (As := [.int (nI (8 * k4))]) (rest := []) hx hb hml hown hts (c_X2_isEarth l G E cI cZ (8 * k4) o a_zo a_go fs_o h_o_zo h_o_go zo go (by first | assumption | omega | simp [frS, bI, c_3])) k_13_17 cal_X2_isEarth ⟨Nat.le_of_ble_eq_true rfl, Nat.le_of_ble_eq_true rfl⟩ hE hlow hS hK [0, 1] rfl hP [0, 1, 2] rfl 0 2 rfl rfl rfl hl.1 rfl (Nat.le_of_ble_eq_true rfl) dX2_earthAtFront_12 ⟨Nat.zero_le _, Nat.zero_le _⟩ ?_
      refine lv_if_eq (tgt := 21) hx hb dX2_earthAtFront_15 (by decide) (fun c_4 => ?_) (fun c_4 => ?_)
      · skip
        have c_4 : (isES zo go (8 * k4)) = false := bI_f c_4
        refine lv_iinc (v := nI (8 * k4 + 8)) (lv' := [(2, .int (nI (8 * k4 + 8))), (0, .ref o), (1, .int (cntS (fun j => isES zo go (8 * j)) k4))]) hx hb dX2_earthAtFront_21 hl (k := 2) rfl (nI_add _ _) (by decide) rfl (fun ls hl => ?_)
        refine lv_goto (tgt := 4) hx hb dX2_earthAtFront_24 (by decide) ?_
        have el_5 : (cntS (fun j => isES zo go (8 * j)) k4 : Int32) = cntS (fun j => isES zo go (8 * j)) (k4 + 1) := by simp [frS, cntS, bI, c_3, c_4]
        have el_6 : (nI (8 * k4 + 8) : Int32) = nI (8 * (k4 + 1)) := by congr 1 <;> omega
        exact ih4 (k4 + 1) (by omega) (by omega) (by omega)  ls (lv_sub hl [1, 2, 0] (show ([(0, .ref o), (1, .int (cntS (fun j => isES zo go (8 * j)) k4)), (2, .int (nI (8 * k4 + 8)))] : List (Nat × Value)) = [(0, .ref o), (1, .int (cntS (fun j => isES zo go (8 * j)) (k4 + 1))), (2, .int (nI (8 * (k4 + 1))))] by rw [← el_5, ← el_6]))
      · skip
        have c_4 : (isES zo go (8 * k4)) = true := bI_t c_4
        refine lv_iinc (v := (cntS (fun j => isES zo go (8 * j)) k4 + 1)) (lv' := [(1, .int (cntS (fun j => isES zo go (8 * j)) k4 + 1)), (0, .ref o), (2, .int (nI (8 * k4)))]) hx hb dX2_earthAtFront_18 hl (k := 1) rfl (rfl) (by decide) rfl (fun ls hl => ?_)
        refine lv_iinc (v := nI (8 * k4 + 8)) (lv' := [(2, .int (nI (8 * k4 + 8))), (1, .int (cntS (fun j => isES zo go (8 * j)) k4 + 1)), (0, .ref o)]) hx hb dX2_earthAtFront_21 hl (k := 2) rfl (nI_add _ _) (by decide) rfl (fun ls hl => ?_)
        refine lv_goto (tgt := 4) hx hb dX2_earthAtFront_24 (by decide) ?_
        have el_7 : ((cntS (fun j => isES zo go (8 * j)) k4 + 1) : Int32) = cntS (fun j => isES zo go (8 * j)) (k4 + 1) := by simp [frS, cntS, bI, c_3, c_4]
        have el_8 : (nI (8 * k4 + 8) : Int32) = nI (8 * (k4 + 1)) := by congr 1 <;> omega
        exact ih4 (k4 + 1) (by omega) (by omega) (by omega)  ls (lv_sub hl [2, 1, 0] (show ([(0, .ref o), (1, .int (cntS (fun j => isES zo go (8 * j)) k4 + 1)), (2, .int (nI (8 * k4 + 8)))] : List (Nat × Value)) = [(0, .ref o), (1, .int (cntS (fun j => isES zo go (8 * j)) (k4 + 1))), (2, .int (nI (8 * (k4 + 1))))] by rw [← el_7, ← el_8]))
theorem cal_X2_daysToBreach : calV yX2_daysToBreach cX2_daysToBreach 4 (some .int) 1 := ⟨k_29_19, k_1_19, k_29_17, k_29_18, by decide +kernel⟩
set_option maxHeartbeats 4000000 in
set_option maxRecDepth 100000 in
theorem c_X2_daysToBreach (l : Launch) (G : va_G) (E : EvT) (cI cZ : ClassId) (ff : Int32) (o : Nat) (a_zo : Nat) (a_he : Nat) (a_go : Nat) (a_hd : Nat) (a_gn : Nat) (a_lv : Nat) (fs_o : List Value) (h_o_zo : fs_o[0]? = some (.ref a_zo)) (h_o_go : fs_o[2]? = some (.ref a_go)) (h_o_lv : fs_o[7]? = some (.ref a_lv)) (h_o_he : fs_o[1]? = some (.ref a_he)) (h_o_hd : fs_o[4]? = some (.ref a_hd)) (h_o_gn : fs_o[5]? = some (.ref a_gn)) (zo : Nat → Int32) (he : Nat → Int32) (go : Nat → Int32) (hd : Nat → Int32) (gn : Nat → Int32) (lv : Nat → Int32) : cWi (S := (Nat → Int32) × (Nat → Int32)) l G E yX2_daysToBreach cX2_daysToBreach 4 (some .int) 6 [(cI, .int), (cZ, .boolean)] [.ref o, .int ff] [(o, .inr (2, fs_o)), (a_zo, .inl (cI, 48, .inl zo)), (a_he, .inl (cI, 48, .inl he)), (a_go, .inl (cI, 48, .inl go)), (a_hd, .inl (cI, 6, .inl hd)), (a_gn, .inl (cI, 6, .inl gn)), (a_lv, .inl (cI, 48, .inl lv))] (fun r _ => r = dbS zo he hd gn ff 48 1 go) (fun u => [(o, .inr (2, fs_o)), (a_zo, .inl (cI, 48, .inl zo)), (a_he, .inl (cI, 48, .inl he)), (a_go, .inl (cI, 48, .inl u.1)), (a_hd, .inl (cI, 6, .inl hd)), (a_gn, .inl (cI, 6, .inl gn)), (a_lv, .inl (cI, 48, .inl u.2))]) := by
  refine mkWi (by decide) (Nat.le_of_ble_eq_true rfl) ?_
  intro zp ze s zm args below meth zc hx hb hr hml hown hts hlocks hE hK A hA hlow H locs hP hD hS ls hl
  have hl : lv_has ls 4 [(0, .ref o), (1, .int ff)] := hl
  refine lv_iconst (v := 1) hx hb dX2_daysToBreach_0 (by decide) ?_
  refine lv_istore_n (lv' := [(2, .int 1), (0, .ref o), (1, .int ff)]) hx hb dX2_daysToBreach_1 rfl hl (by decide) rfl (fun ls hl => ?_)
  suffices lp2 : ∀ zn k2 : Nat, ∀ (gx : Nat → Int32) (lx : Nat → Int32) , 1 ≤ k2 → k2 ≤ 49 → 49 < k2 + zn → (dbS zo he hd gn ff (49 - k2) k2 gx = dbS zo he hd gn ff 48 1 go) → ∀ (H : Heap) (locs : List Loc), va_P G vwCl [(o, .inr (2, fs_o)), (a_zo, .inl (cI, 48, .inl zo)), (a_he, .inl (cI, 48, .inl he)), (a_go, .inl (cI, 48, .inl gx)), (a_hd, .inl (cI, 6, .inl hd)), (a_gn, .inl (cI, 6, .inl gn)), (a_lv, .inl (cI, 48, .inl lx))] H → va_D A [(o, .inr (2, fs_o)), (a_zo, .inl (cI, 48, .inl zo)), (a_he, .inl (cI, 48, .inl he)), (a_go, .inl (cI, 48, .inl gx)), (a_hd, .inl (cI, 6, .inl hd)), (a_gn, .inl (cI, 6, .inl gn)), (a_lv, .inl (cI, 48, .inl lx))] → va_S A s.heap H locs → ∀ ls : Array Slot, lv_has ls 4 [(0, .ref o), (1, .int ff), (2, .int (nI k2))] → W zp l ze (rmK 6) s zm args below meth zc H locs 0 0 (MQ below (va_Qi (S := (Nat → Int32) × (Nat → Int32)) (fun r _ => r = dbS zo he hd gn ff 48 1 go) (fun u t => va_P G vwCl ((fun u => [(o, .inr (2, fs_o)), (a_zo, .inl (cI, 48, .inl zo)), (a_he, .inl (cI, 48, .inl he)), (a_go, .inl (cI, 48, .inl u.1)), (a_hd, .inl (cI, 6, .inl hd)), (a_gn, .inl (cI, 6, .inl gn)), (a_lv, .inl (cI, 48, .inl u.2))]) u) t.heap) A) args s 0 0 A) (F0 zm 2 ls []) by
    have el_1 : (1 : Int32) = nI 1 := rfl
    exact lp2 (49 + 1 - 1) 1 go lv (by omega) (by omega) (by omega) (rfl) H locs hP hD hS ls (lv_sub hl [1, 2, 0] (show ([(0, .ref o), (1, .int ff), (2, .int 1)] : List (Nat × Value)) = [(0, .ref o), (1, .int ff), (2, .int (nI 1))] by rw [← el_1]))
  intro zn
  induction zn with
  | zero => exact fun k2 gx lx h1 h2 h3 => absurd h3 (by omega)
  | succ zn ih2 =>
    intro k2 gx lx hlo2 hhi2 hn2 hinv H locs hP hD hS ls hl
    refine lv_iload_n hx hb dX2_daysToBreach_2 rfl (lv_at hl 2 rfl) ?_
    refine lv_bipush (v := 48) hx hb dX2_daysToBreach_3 (by decide) ?_
    refine lv_icmp_gt (tgt := 40) hx hb dX2_daysToBreach_5 (by decide) (fun c_2 => ?_) (fun c_2 => ?_)
    · skip
      have c_2 : 48 < k2 := (nI_ltI (a := 48) (b := k2) (by omega) (by omega)).mp c_2
      have hk9 : 49 = k2 := by omega
      subst hk9
      refine lv_bipush (v := (-9)) hx hb dX2_daysToBreach_40 (by decide) ?_
      exact retWi (gx, lx) hx hb hr (rfl) hlocks dX2_daysToBreach_42 hS (by rw [← hinv]; rfl) hP
    · skip
      have c_2 : ¬ 48 < k2 := fun h9 => c_2 ((nI_ltI (a := 48) (b := k2) (by omega) (by omega)).mpr h9)
      refine lv_aload_n hx hb dX2_daysToBreach_8 rfl (lv_at hl 0 rfl) ?_
      refine cRV (As := []) (rest := []) hx hb hml hown hts (c_X2_earthAtFront l G E cI cZ o a_zo a_go fs_o h_o_zo h_o_go zo gx) k_29_20 cal_X2_earthAtFront ⟨Nat.le_of_ble_eq_true rfl, Nat.le_of_ble_eq_true rfl⟩ hE hlow hS hK [0, 1] rfl hP [0, 1, 3] rfl 0 2 rfl rfl rfl hl.1 rfl (Nat.le_of_ble_eq_true rfl) dX2_daysToBreach_9 ⟨Nat.zero_le _, Nat.zero_le _⟩ ?_
      refine lv_istore_n (lv' := [(3, .int (frS zo gx)), (0, .ref o), (1, .int ff), (2, .int (nI k2))]) hx hb dX2_daysToBreach_12 rfl hl (by decide) rfl (fun ls hl => ?_)
      refine lv_aload_n hx hb dX2_daysToBreach_13 rfl (lv_at hl 1 rfl) ?_
      refine lv_iload_n hx hb dX2_daysToBreach_14 rfl (lv_at hl 2 rfl) ?_
      refine cWVi (As := [.int ff]) (rest := []) hx hb hml hown hts (c_X2_passDay l G E cI cZ ff o a_zo a_he a_go a_hd a_gn a_lv fs_o h_o_lv h_o_go h_o_zo h_o_he h_o_hd h_o_gn zo he gx hd gn lx) k_30_0 cal_X2_passDay ⟨Nat.le_of_ble_eq_true rfl, Nat.le_of_ble_eq_true rfl⟩ hE hA hlow hD hS hK [0, 1] rfl hP [0, 1, 2, 3, 4, 5, 6] rfl (by decide) [o, a_zo, a_he, a_go, a_hd, a_gn, a_lv] rfl (fun _ => rfl) [] [] (fun _ => [(o, .inr (2, fs_o)), (a_zo, .inl (cI, 48, .inl zo)), (a_he, .inl (cI, 48, .inl he)), (a_go, .inl (cI, 48, .inl (dyS zo he hd gn ff gx))), (a_hd, .inl (cI, 6, .inl hd)), (a_gn, .inl (cI, 6, .inl gn)), (a_lv, .inl (cI, 48, .inl (lgS zo he gx hd gn ff)))]) 7 rfl (fun _ => rfl) (fun _ => rfl) (fun _ => rfl) (by decide) (by decide) 0 2 rfl rfl rfl hl.1 rfl (Nat.le_of_ble_eq_true rfl) dX2_daysToBreach_15 ⟨Nat.zero_le _, Nat.zero_le _⟩ (fun r_ u H locs hr_ hP hD hS => ?_)
      subst hr_
      have hP : va_P G vwCl [(o, .inr (2, fs_o)), (a_zo, .inl (cI, 48, .inl zo)), (a_he, .inl (cI, 48, .inl he)), (a_go, .inl (cI, 48, .inl (dyS zo he hd gn ff gx))), (a_hd, .inl (cI, 6, .inl hd)), (a_gn, .inl (cI, 6, .inl gn)), (a_lv, .inl (cI, 48, .inl (lgS zo he gx hd gn ff)))] H := hP
      have hD : va_D A [(o, .inr (2, fs_o)), (a_zo, .inl (cI, 48, .inl zo)), (a_he, .inl (cI, 48, .inl he)), (a_go, .inl (cI, 48, .inl (dyS zo he hd gn ff gx))), (a_hd, .inl (cI, 6, .inl hd)), (a_gn, .inl (cI, 6, .inl gn)), (a_lv, .inl (cI, 48, .inl (lgS zo he gx hd gn ff)))] := hD
      refine lv_if_ne (tgt := 24) hx hb dX2_daysToBreach_18 (by decide) (fun c_3 => ?_) (fun c_3 => ?_)
      · skip
        refine lv_aload_n hx hb dX2_daysToBreach_24 rfl (lv_at hl 1 rfl) ?_
        refine cRV (As := []) (rest := []) hx hb hml hown hts (c_X2_earthAtFront l G E cI cZ o a_zo a_go fs_o h_o_zo h_o_go zo (dyS zo he hd gn ff gx)) k_29_20 cal_X2_earthAtFront ⟨Nat.le_of_ble_eq_true rfl, Nat.le_of_ble_eq_true rfl⟩ hE hlow hS hK [0, 1] rfl hP [0, 1, 3] rfl 0 2 rfl rfl rfl hl.1 rfl (Nat.le_of_ble_eq_true rfl) dX2_daysToBreach_25 ⟨Nat.zero_le _, Nat.zero_le _⟩ ?_
        refine lv_iload_n hx hb dX2_daysToBreach_28 rfl (lv_at hl 0 rfl) ?_
        refine lv_icmp_ge (tgt := 34) hx hb dX2_daysToBreach_29 (by decide) (fun c_4 => ?_) (fun c_4 => ?_)
        · skip
          refine lv_iinc (v := nI (k2 + 1)) (lv' := [(2, .int (nI (k2 + 1))), (3, .int (frS zo gx)), (0, .ref o), (1, .int ff)]) hx hb dX2_daysToBreach_34 hl (k := 3) rfl (nI_add _ _) (by decide) rfl (fun ls hl => ?_)
          refine lv_goto (tgt := 2) hx hb dX2_daysToBreach_37 (by decide) ?_
          have er_5 : (dyS zo he hd gn ff gx) = (dyS zo he hd gn ff gx) := by simp [bI, c_2, c_3, c_4]
          have er_6 : (lgS zo he gx hd gn ff) = (lgS zo he gx hd gn ff) := by simp [bI, c_2, c_3, c_4]
          exact ih2 (k2 + 1) (dyS zo he hd gn ff gx) (lgS zo he gx hd gn ff) (by omega) (by omega) (by omega) (by rw [← hinv, show 49 - k2 = (49 - (k2 + 1)) + 1 by omega]; simp [dbS, c_2, c_3, c_4]) H locs (by rw [← er_5, ← er_6]; exact hP) (by rw [← er_5, ← er_6]; exact hD) hS ls (lv_sub hl [2, 3, 0] rfl)
        · skip
          refine lv_iload_n hx hb dX2_daysToBreach_32 rfl (lv_at hl 3 rfl) ?_
          exact retWi (dyS zo he hd gn ff gx, lgS zo he gx hd gn ff) hx hb hr (rfl) hlocks dX2_daysToBreach_33 hS (by rw [← hinv, show 49 - k2 = (48 - k2) + 1 by omega]; simp [dbS, c_2, c_3, c_4]) hP
      · skip
        refine lv_bipush (v := (-9)) hx hb dX2_daysToBreach_21 (by decide) ?_
        exact retWi (dyS zo he hd gn ff gx, lgS zo he gx hd gn ff) hx hb hr (rfl) hlocks dX2_daysToBreach_23 hS (by rw [← hinv, show 49 - k2 = (48 - k2) + 1 by omega]; simp [dbS, c_2, c_3]) hP
