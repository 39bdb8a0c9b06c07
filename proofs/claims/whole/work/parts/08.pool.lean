theorem cal_X5_has : calS yX5_has cX5_has 2 (some .boolean) 2 := ⟨k_25_9, k_2_4, k_25_8, by decide +kernel⟩
set_option maxHeartbeats 4000000 in
set_option maxRecDepth 100000 in
theorem c_X5_has (l : Launch) (G : va_G) (E : EvT) (cI cZ : ClassId) (st : Int32) (i : Nat) : cR l G E yX5_has cX5_has 2 (some .boolean) 1 [(cI, .int), (cZ, .boolean)] [.int st, .int (nI i)] [] (bI (hasS st i)) := by
  refine mkR (by decide) (Nat.le_of_ble_eq_true rfl) ?_
  intro zp ze s zm args below meth zc hx hb hr hml hown hts hlocks hE hP hK ls hl
  have hS : va_S (fun _ => False) s.heap s.heap [] := va_S.rf
  have hlow : ∀ q : Nat, (fun _ : Nat => False) q → E.1 ≤ q := fun _ h => h.elim
  have hl : lv_has ls 2 [(0, .int st), (1, .int (nI i))] := hl
  refine lv_iload_n hx hb dX5_has_0 rfl (lv_at hl 0 rfl) ?_
  refine lv_iload_n hx hb dX5_has_1 rfl (lv_at hl 1 rfl) ?_
  refine lv_ishr hx hb dX5_has_2 ?_
  refine lv_iconst (v := 1) hx hb dX5_has_3 (by decide) ?_
  refine lv_iand hx hb dX5_has_4 ?_
  refine lv_iconst (v := 1) hx hb dX5_has_5 (by decide) ?_
  refine lv_icmp_ne (tgt := 13) hx hb dX5_has_6 (by decide) (fun c_1 => ?_) (fun c_1 => ?_)
  · skip
    refine lv_iconst (v := 0) hx hb dX5_has_13 (by decide) ?_
    exact retR hx hb hr (rfl) hlocks dX5_has_14 (by simp [hasS, bI, c_1])
  · skip
    refine lv_iconst (v := 1) hx hb dX5_has_9 (by decide) ?_
    refine lv_goto (tgt := 14) hx hb dX5_has_10 (by decide) ?_
    exact retR hx hb hr (rfl) hlocks dX5_has_14 (by simp [hasS, bI, c_1])
theorem cal_X5_priceOf : calV yX5_priceOf cX5_priceOf 4 (some .int) 1 := ⟨k_40_1, k_2_4, k_39_23, k_40_0, by decide +kernel⟩
set_option maxHeartbeats 4000000 in
set_option maxRecDepth 100000 in
theorem c_X5_priceOf (l : Launch) (G : va_G) (E : EvT) (cI cZ : ClassId) (n : Nat) (st : Int32) (o : Nat) (a_pr : Nat) (fs_o : List Value) (h_o_nw : fs_o[4]? = some (.int (nI n))) (h_o_pr : fs_o[3]? = some (.ref a_pr)) (pr : Nat → Int32) (hn : n ≤ 8) : cR l G E yX5_priceOf cX5_priceOf 4 (some .int) 2 [(cI, .int), (cZ, .boolean)] [.ref o, .int st] [(o, .inr (5, fs_o)), (a_pr, .inl (cI, 8, .inl pr))] (sumS (priT pr st) n) := by
  refine mkR (by decide) (Nat.le_of_ble_eq_true rfl) ?_
  intro zp ze s zm args below meth zc hx hb hr hml hown hts hlocks hE hP hK ls hl
  have hS : va_S (fun _ => False) s.heap s.heap [] := va_S.rf
  have hlow : ∀ q : Nat, (fun _ : Nat => False) q → E.1 ≤ q := fun _ h => h.elim
  have hl : lv_has ls 4 [(0, .ref o), (1, .int st)] := hl
  refine lv_iconst (v := 0) hx hb dX5_priceOf_0 (by decide) ?_
  refine lv_istore_n (lv' := [(2, .int 0), (0, .ref o), (1, .int st)]) hx hb dX5_priceOf_1 rfl hl (by decide) rfl (fun ls hl => ?_)
  refine lv_iconst (v := 0) hx hb dX5_priceOf_2 (by decide) ?_
  refine lv_istore_n (lv' := [(3, .int 0), (2, .int 0), (0, .ref o), (1, .int st)]) hx hb dX5_priceOf_3 rfl hl (by decide) rfl (fun ls hl => ?_)
  suffices lp4 : ∀ zn k4 : Nat, 0 ≤ k4 → k4 ≤ n → n < k4 + zn → ∀ ls : Array Slot, lv_has ls 4 [(0, .ref o), (1, .int st), (2, .int (sumS (priT pr st) k4)), (3, .int (nI k4))] → W zp l ze (rmK 2) s zm args below meth zc s.heap [] 0 0 (MQ below (vp_Si (fun zx => zx = sumS (priT pr st) n)) args s 0 0 (fun _ => False)) (F0 zm 4 ls []) by
    have el_1 : (0 : Int32) = sumS (priT pr st) 0 := by simp [sumS, priT, bI]
    have el_2 : (0 : Int32) = nI 0 := rfl
    exact lp4 (n + 1 - 0) 0 (by omega) (by omega) (by omega)  ls (lv_sub hl [2, 3, 1, 0] (show ([(0, .ref o), (1, .int st), (2, .int 0), (3, .int 0)] : List (Nat × Value)) = [(0, .ref o), (1, .int st), (2, .int (sumS (priT pr st) 0)), (3, .int (nI 0))] by rw [← el_1, ← el_2]))
  intro zn
  induction zn with
  | zero => exact fun k4 h1 h2 h3 => absurd h3 (by omega)
  | succ zn ih4 =>
    intro k4 hlo4 hhi4 hn4  ls hl
    refine lv_iload_n hx hb dX5_priceOf_4 rfl (lv_at hl 3 rfl) ?_
    refine lv_aload_n hx hb dX5_priceOf_5 rfl (lv_at hl 0 rfl) ?_
    refine va_get (D := G) (ci := 5) (v := .int (nI n)) (C := RX5) (T := TX5) (N := 5) hx hb hts inlX5 hown hK hP 0 rfl rfl 4 (by decide) (hts (.fieldLink RX5 24 "EarthBanks$Works" "size" "I") k_4_9) (fun _ h9 => h9) h_o_nw dX5_priceOf_6 ?_
    refine lv_icmp_ge (tgt := 35) hx hb dX5_priceOf_9 (by decide) (fun c_3 => ?_) (fun c_3 => ?_)
    · skip
      have c_3 : n ≤ k4 := (nI_leI (a := n) (b := k4) (by omega) (by omega)).mp c_3
      have hk9 : n = k4 := by omega
      subst hk9
      refine lv_iload_n hx hb dX5_priceOf_35 rfl (lv_at hl 2 rfl) ?_
      exact retR hx hb hr (rfl) hlocks dX5_priceOf_36 (rfl)
    · skip
      have c_3 : ¬ n ≤ k4 := fun h9 => c_3 ((nI_leI (a := n) (b := k4) (by omega) (by omega)).mpr h9)
      refine lv_iload_n hx hb dX5_priceOf_12 rfl (lv_at hl 1 rfl) ?_
      refine lv_iload_n hx hb dX5_priceOf_13 rfl (lv_at hl 3 rfl) ?_
      refine cRS (As := [.int st, .int (nI k4)]) (rest := []) hx hb hml hown hts (c_X5_has l G E cI cZ st k4) k_25_7 cal_X5_has ⟨Nat.le_of_ble_eq_true rfl, Nat.le_of_ble_eq_true rfl⟩ hE hlow hS hK [0, 1] rfl hP [] rfl rfl hl.1 rfl (Nat.le_of_ble_eq_true rfl) dX5_priceOf_14 ⟨Nat.zero_le _, Nat.zero_le _⟩ ?_
      refine lv_if_eq (tgt := 29) hx hb dX5_priceOf_17 (by decide) (fun c_4 => ?_) (fun c_4 => ?_)
      · skip
        have c_4 : (hasS st k4) = false := bI_f c_4
        refine lv_iinc (v := nI (k4 + 1)) (lv' := [(3, .int (nI (k4 + 1))), (0, .ref o), (1, .int st), (2, .int (sumS (priT pr st) k4))]) hx hb dX5_priceOf_29 hl (k := 3) rfl (nI_add _ _) (by decide) rfl (fun ls hl => ?_)
        refine lv_goto (tgt := 4) hx hb dX5_priceOf_32 (by decide) ?_
        have el_5 : (sumS (priT pr st) k4 : Int32) = sumS (priT pr st) (k4 + 1) := by simp [sumS, priT, bI, c_3, c_4]
        exact ih4 (k4 + 1) (by omega) (by omega) (by omega)  ls (lv_sub hl [1, 2, 3, 0] (show ([(0, .ref o), (1, .int st), (2, .int (sumS (priT pr st) k4)), (3, .int (nI (k4 + 1)))] : List (Nat × Value)) = [(0, .ref o), (1, .int st), (2, .int (sumS (priT pr st) (k4 + 1))), (3, .int (nI (k4 + 1)))] by rw [← el_5]))
      · skip
        have c_4 : (hasS st k4) = true := bI_t c_4
        refine lv_iload_n hx hb dX5_priceOf_20 rfl (lv_at hl 2 rfl) ?_
        refine lv_aload_n hx hb dX5_priceOf_21 rfl (lv_at hl 0 rfl) ?_
        refine va_get (D := G) (ci := 5) (v := .ref a_pr) (C := RX5) (T := TX5) (N := 5) hx hb hts inlX5 hown hK hP 0 rfl rfl 3 (by decide) (hts (.fieldLink RX5 21 "EarthBanks$Works" "prices" "[I") k_4_8) (fun _ h9 => h9) h_o_pr dX5_priceOf_22 ?_
        refine lv_iload_n hx hb dX5_priceOf_25 rfl (lv_at hl 3 rfl) ?_
        refine ialdN (j := k4) hx hb hK hP 1 0 rfl rfl (by omega) (by decide) dX5_priceOf_26 ?_
        refine lv_iadd hx hb dX5_priceOf_27 ?_
        refine lv_istore_n (lv' := [(2, .int ((sumS (priT pr st) k4) + (pr k4))), (0, .ref o), (1, .int st), (3, .int (nI k4))]) hx hb dX5_priceOf_28 rfl hl (by decide) rfl (fun ls hl => ?_)
        refine lv_iinc (v := nI (k4 + 1)) (lv' := [(3, .int (nI (k4 + 1))), (2, .int ((sumS (priT pr st) k4) + (pr k4))), (0, .ref o), (1, .int st)]) hx hb dX5_priceOf_29 hl (k := 3) rfl (nI_add _ _) (by decide) rfl (fun ls hl => ?_)
        refine lv_goto (tgt := 4) hx hb dX5_priceOf_32 (by decide) ?_
        have el_6 : (((sumS (priT pr st) k4) + (pr k4)) : Int32) = sumS (priT pr st) (k4 + 1) := by simp [sumS, priT, bI, c_3, c_4]
        exact ih4 (k4 + 1) (by omega) (by omega) (by omega)  ls (lv_sub hl [2, 3, 1, 0] (show ([(0, .ref o), (1, .int st), (2, .int ((sumS (priT pr st) k4) + (pr k4))), (3, .int (nI (k4 + 1)))] : List (Nat × Value)) = [(0, .ref o), (1, .int st), (2, .int (sumS (priT pr st) (k4 + 1))), (3, .int (nI (k4 + 1)))] by rw [← el_6]))
theorem cal_X5_moreHold : calV yX5_moreHold cX5_moreHold 5 (some .int) 2 := ⟨k_25_6, k_2_4, k_25_4, k_25_5, by decide +kernel⟩
set_option maxHeartbeats 4000000 in
set_option maxRecDepth 100000 in
theorem c_X5_moreHold (l : Launch) (G : va_G) (E : EvT) (cI cZ : ClassId) (n : Nat) (st : Int32) (x : Nat) (o : Nat) (a_ki : Nat) (a_pl : Nat) (a_mo : Nat) (fs_o : List Value) (h_o_nw : fs_o[4]? = some (.int (nI n))) (h_o_ki : fs_o[0]? = some (.ref a_ki)) (h_o_pl : fs_o[1]? = some (.ref a_pl)) (h_o_mo : fs_o[2]? = some (.ref a_mo)) (ki : Nat → Int32) (pl : Nat → Int32) (mo : Nat → Int32) (hn : n ≤ 8) : cR l G E yX5_moreHold cX5_moreHold 5 (some .int) 2 [(cI, .int), (cZ, .boolean)] [.ref o, .int st, .int (nI x)] [(o, .inr (5, fs_o)), (a_ki, .inl (cI, 8, .inl ki)), (a_pl, .inl (cI, 8, .inl pl)), (a_mo, .inl (cI, 8, .inl mo))] (sumS (morT ki pl mo st x) n) := by
  refine mkR (by decide) (Nat.le_of_ble_eq_true rfl) ?_
  intro zp ze s zm args below meth zc hx hb hr hml hown hts hlocks hE hP hK ls hl
  have hS : va_S (fun _ => False) s.heap s.heap [] := va_S.rf
  have hlow : ∀ q : Nat, (fun _ : Nat => False) q → E.1 ≤ q := fun _ h => h.elim
  have hl : lv_has ls 5 [(0, .ref o), (1, .int st), (2, .int (nI x))] := hl
  refine lv_iconst (v := 0) hx hb dX5_moreHold_0 (by decide) ?_
  refine lv_istore_n (lv' := [(3, .int 0), (0, .ref o), (1, .int st), (2, .int (nI x))]) hx hb dX5_moreHold_1 rfl hl (by decide) rfl (fun ls hl => ?_)
  refine lv_iconst (v := 0) hx hb dX5_moreHold_2 (by decide) ?_
  refine lv_istore (lv' := [(4, .int 0), (3, .int 0), (0, .ref o), (1, .int st), (2, .int (nI x))]) hx hb dX5_moreHold_3 hl (by decide) rfl (fun ls hl => ?_)
  suffices lp5 : ∀ zn k5 : Nat, 0 ≤ k5 → k5 ≤ n → n < k5 + zn → ∀ ls : Array Slot, lv_has ls 5 [(0, .ref o), (1, .int st), (2, .int (nI x)), (3, .int (sumS (morT ki pl mo st x) k5)), (4, .int (nI k5))] → W zp l ze (rmK 2) s zm args below meth zc s.heap [] 0 0 (MQ below (vp_Si (fun zx => zx = sumS (morT ki pl mo st x) n)) args s 0 0 (fun _ => False)) (F0 zm 5 ls []) by
    have el_1 : (0 : Int32) = sumS (morT ki pl mo st x) 0 := by simp [sumS, morT, bI]
    have el_2 : (0 : Int32) = nI 0 := rfl
    exact lp5 (n + 1 - 0) 0 (by omega) (by omega) (by omega)  ls (lv_sub hl [2, 3, 4, 1, 0] (show ([(0, .ref o), (1, .int st), (2, .int (nI x)), (3, .int 0), (4, .int 0)] : List (Nat × Value)) = [(0, .ref o), (1, .int st), (2, .int (nI x)), (3, .int (sumS (morT ki pl mo st x) 0)), (4, .int (nI 0))] by rw [← el_1, ← el_2]))
  intro zn
  induction zn with
  | zero => exact fun k5 h1 h2 h3 => absurd h3 (by omega)
  | succ zn ih5 =>
    intro k5 hlo5 hhi5 hn5  ls hl
    refine lv_iload hx hb dX5_moreHold_5 (lv_at hl 4 rfl) ?_
    refine lv_aload_n hx hb dX5_moreHold_7 rfl (lv_at hl 0 rfl) ?_
    refine va_get (D := G) (ci := 5) (v := .int (nI n)) (C := RX5) (T := TX5) (N := 5) hx hb hts inlX5 hown hK hP 0 rfl rfl 4 (by decide) (hts (.fieldLink RX5 24 "EarthBanks$Works" "size" "I") k_4_9) (fun _ h9 => h9) h_o_nw dX5_moreHold_8 ?_
    refine lv_icmp_ge (tgt := 60) hx hb dX5_moreHold_11 (by decide) (fun c_3 => ?_) (fun c_3 => ?_)
    · skip
      have c_3 : n ≤ k5 := (nI_leI (a := n) (b := k5) (by omega) (by omega)).mp c_3
      have hk9 : n = k5 := by omega
      subst hk9
      refine lv_iload_n hx hb dX5_moreHold_60 rfl (lv_at hl 3 rfl) ?_
      exact retR hx hb hr (rfl) hlocks dX5_moreHold_61 (rfl)
    · skip
      have c_3 : ¬ n ≤ k5 := fun h9 => c_3 ((nI_leI (a := n) (b := k5) (by omega) (by omega)).mpr h9)
      refine lv_iload_n hx hb dX5_moreHold_14 rfl (lv_at hl 1 rfl) ?_
      refine lv_iload hx hb dX5_moreHold_15 (lv_at hl 4 rfl) ?_
      refine cRS (As := [.int st, .int (nI k5)]) (rest := []) hx hb hml hown hts (c_X5_has l G E cI cZ st k5) k_25_7 cal_X5_has ⟨Nat.le_of_ble_eq_true rfl, Nat.le_of_ble_eq_true rfl⟩ hE hlow hS hK [0, 1] rfl hP [] rfl rfl hl.1 rfl (Nat.le_of_ble_eq_true rfl) dX5_moreHold_17 ⟨Nat.zero_le _, Nat.zero_le _⟩ ?_
      refine lv_if_eq (tgt := 54) hx hb dX5_moreHold_20 (by decide) (fun c_4 => ?_) (fun c_4 => ?_)
      · skip
        have c_4 : (hasS st k5) = false := bI_f c_4
        refine lv_iinc (v := nI (k5 + 1)) (lv' := [(4, .int (nI (k5 + 1))), (0, .ref o), (1, .int st), (2, .int (nI x)), (3, .int (sumS (morT ki pl mo st x) k5))]) hx hb dX5_moreHold_54 hl (k := 4) rfl (nI_add _ _) (by decide) rfl (fun ls hl => ?_)
        refine lv_goto (tgt := 5) hx hb dX5_moreHold_57 (by decide) ?_
        have el_5 : (sumS (morT ki pl mo st x) k5 : Int32) = sumS (morT ki pl mo st x) (k5 + 1) := by simp [sumS, morT, bI, c_3, c_4]
        exact ih5 (k5 + 1) (by omega) (by omega) (by omega)  ls (lv_sub hl [1, 2, 3, 4, 0] (show ([(0, .ref o), (1, .int st), (2, .int (nI x)), (3, .int (sumS (morT ki pl mo st x) k5)), (4, .int (nI (k5 + 1)))] : List (Nat × Value)) = [(0, .ref o), (1, .int st), (2, .int (nI x)), (3, .int (sumS (morT ki pl mo st x) (k5 + 1))), (4, .int (nI (k5 + 1)))] by rw [← el_5]))
      · skip
        have c_4 : (hasS st k5) = true := bI_t c_4
        refine lv_aload_n hx hb dX5_moreHold_23 rfl (lv_at hl 0 rfl) ?_
        refine va_get (D := G) (ci := 5) (v := .ref a_ki) (C := RX5) (T := TX5) (N := 5) hx hb hts inlX5 hown hK hP 0 rfl rfl 0 (by decide) (hts (.fieldLink RX5 9 "EarthBanks$Works" "kinds" "[I") k_4_5) (fun _ h9 => h9) h_o_ki dX5_moreHold_24 ?_
        refine lv_iload hx hb dX5_moreHold_27 (lv_at hl 4 rfl) ?_
        refine ialdN (j := k5) hx hb hK hP 1 0 rfl rfl (by omega) (by decide) dX5_moreHold_29 ?_
        refine lv_if_ne (tgt := 54) hx hb dX5_moreHold_30 (by decide) (fun c_6 => ?_) (fun c_6 => ?_)
        · skip
          refine lv_iinc (v := nI (k5 + 1)) (lv' := [(4, .int (nI (k5 + 1))), (0, .ref o), (1, .int st), (2, .int (nI x)), (3, .int (sumS (morT ki pl mo st x) k5))]) hx hb dX5_moreHold_54 hl (k := 4) rfl (nI_add _ _) (by decide) rfl (fun ls hl => ?_)
          refine lv_goto (tgt := 5) hx hb dX5_moreHold_57 (by decide) ?_
          have el_7 : (sumS (morT ki pl mo st x) k5 : Int32) = sumS (morT ki pl mo st x) (k5 + 1) := by simp [sumS, morT, bI, c_3, c_4, c_6]
          exact ih5 (k5 + 1) (by omega) (by omega) (by omega)  ls (lv_sub hl [1, 2, 3, 4, 0] (show ([(0, .ref o), (1, .int st), (2, .int (nI x)), (3, .int (sumS (morT ki pl mo st x) k5)), (4, .int (nI (k5 + 1)))] : List (Nat × Value)) = [(0, .ref o), (1, .int st), (2, .int (nI x)), (3, .int (sumS (morT ki pl mo st x) (k5 + 1))), (4, .int (nI (k5 + 1)))] by rw [← el_7]))
        · skip
          refine lv_aload_n hx hb dX5_moreHold_33 rfl (lv_at hl 0 rfl) ?_
          refine va_get (D := G) (ci := 5) (v := .ref a_pl) (C := RX5) (T := TX5) (N := 5) hx hb hts inlX5 hown hK hP 0 rfl rfl 1 (by decide) (hts (.fieldLink RX5 15 "EarthBanks$Works" "places" "[I") k_4_6) (fun _ h9 => h9) h_o_pl dX5_moreHold_34 ?_
          refine lv_iload hx hb dX5_moreHold_37 (lv_at hl 4 rfl) ?_
          refine ialdN (j := k5) hx hb hK hP 2 0 rfl rfl (by omega) (by decide) dX5_moreHold_39 ?_
          refine lv_iload_n hx hb dX5_moreHold_40 rfl (lv_at hl 2 rfl) ?_
          refine lv_icmp_ne (tgt := 54) hx hb dX5_moreHold_41 (by decide) (fun c_8 => ?_) (fun c_8 => ?_)
          · skip
            refine lv_iinc (v := nI (k5 + 1)) (lv' := [(4, .int (nI (k5 + 1))), (0, .ref o), (1, .int st), (2, .int (nI x)), (3, .int (sumS (morT ki pl mo st x) k5))]) hx hb dX5_moreHold_54 hl (k := 4) rfl (nI_add _ _) (by decide) rfl (fun ls hl => ?_)
            refine lv_goto (tgt := 5) hx hb dX5_moreHold_57 (by decide) ?_
            have el_9 : (sumS (morT ki pl mo st x) k5 : Int32) = sumS (morT ki pl mo st x) (k5 + 1) := by simp [sumS, morT, bI, c_3, c_4, c_6, c_8]
            exact ih5 (k5 + 1) (by omega) (by omega) (by omega)  ls (lv_sub hl [1, 2, 3, 4, 0] (show ([(0, .ref o), (1, .int st), (2, .int (nI x)), (3, .int (sumS (morT ki pl mo st x) k5)), (4, .int (nI (k5 + 1)))] : List (Nat × Value)) = [(0, .ref o), (1, .int st), (2, .int (nI x)), (3, .int (sumS (morT ki pl mo st x) (k5 + 1))), (4, .int (nI (k5 + 1)))] by rw [← el_9]))
          · skip
            refine lv_iload_n hx hb dX5_moreHold_44 rfl (lv_at hl 3 rfl) ?_
            refine lv_aload_n hx hb dX5_moreHold_45 rfl (lv_at hl 0 rfl) ?_
            refine va_get (D := G) (ci := 5) (v := .ref a_mo) (C := RX5) (T := TX5) (N := 5) hx hb hts inlX5 hown hK hP 0 rfl rfl 2 (by decide) (hts (.fieldLink RX5 18 "EarthBanks$Works" "mores" "[I") k_4_7) (fun _ h9 => h9) h_o_mo dX5_moreHold_46 ?_
            refine lv_iload hx hb dX5_moreHold_49 (lv_at hl 4 rfl) ?_
            refine ialdN (j := k5) hx hb hK hP 3 0 rfl rfl (by omega) (by decide) dX5_moreHold_51 ?_
            refine lv_iadd hx hb dX5_moreHold_52 ?_
            refine lv_istore_n (lv' := [(3, .int ((sumS (morT ki pl mo st x) k5) + (mo k5))), (0, .ref o), (1, .int st), (2, .int (nI x)), (4, .int (nI k5))]) hx hb dX5_moreHold_53 rfl hl (by decide) rfl (fun ls hl => ?_)
            refine lv_iinc (v := nI (k5 + 1)) (lv' := [(4, .int (nI (k5 + 1))), (3, .int ((sumS (morT ki pl mo st x) k5) + (mo k5))), (0, .ref o), (1, .int st), (2, .int (nI x))]) hx hb dX5_moreHold_54 hl (k := 4) rfl (nI_add _ _) (by decide) rfl (fun ls hl => ?_)
            refine lv_goto (tgt := 5) hx hb dX5_moreHold_57 (by decide) ?_
            have el_10 : (((sumS (morT ki pl mo st x) k5) + (mo k5)) : Int32) = sumS (morT ki pl mo st x) (k5 + 1) := by simp [sumS, morT, bI, c_3, c_4, c_6, c_8]
            exact ih5 (k5 + 1) (by omega) (by omega) (by omega)  ls (lv_sub hl [2, 3, 4, 1, 0] (show ([(0, .ref o), (1, .int st), (2, .int (nI x)), (3, .int ((sumS (morT ki pl mo st x) k5) + (mo k5))), (4, .int (nI (k5 + 1)))] : List (Nat × Value)) = [(0, .ref o), (1, .int st), (2, .int (nI x)), (3, .int (sumS (morT ki pl mo st x) (k5 + 1))), (4, .int (nI (k5 + 1)))] by rw [← el_10]))
theorem cal_X5_isDrained : calV yX5_isDrained cX5_isDrained 4 (some .boolean) 2 := ⟨k_25_14, k_2_4, k_25_12, k_25_13, by decide +kernel⟩
set_option maxHeartbeats 4000000 in
set_option maxRecDepth 100000 in
theorem c_X5_isDrained (l : Launch) (G : va_G) (E : EvT) (cI cZ : ClassId) (n : Nat) (st : Int32) (p : Nat) (o : Nat) (a_ki : Nat) (a_pl : Nat) (fs_o : List Value) (h_o_nw : fs_o[4]? = some (.int (nI n))) (h_o_ki : fs_o[0]? = some (.ref a_ki)) (h_o_pl : fs_o[1]? = some (.ref a_pl)) (ki : Nat → Int32) (pl : Nat → Int32) (hn : n ≤ 8) : cR l G E yX5_isDrained cX5_isDrained 4 (some .boolean) 2 [(cI, .int), (cZ, .boolean)] [.ref o, .int st, .int (nI p)] [(o, .inr (5, fs_o)), (a_ki, .inl (cI, 8, .inl ki)), (a_pl, .inl (cI, 8, .inl pl))] (bI (anyS (drnT ki pl st p) n)) := by
  refine mkR (by decide) (Nat.le_of_ble_eq_true rfl) ?_
  intro zp ze s zm args below meth zc hx hb hr hml hown hts hlocks hE hP hK ls hl
  have hS : va_S (fun _ => False) s.heap s.heap [] := va_S.rf
  have hlow : ∀ q : Nat, (fun _ : Nat => False) q → E.1 ≤ q := fun _ h => h.elim
  have hl : lv_has ls 4 [(0, .ref o), (1, .int st), (2, .int (nI p))] := hl
  refine lv_iconst (v := 0) hx hb dX5_isDrained_0 (by decide) ?_
  refine lv_istore_n (lv' := [(3, .int 0), (0, .ref o), (1, .int st), (2, .int (nI p))]) hx hb dX5_isDrained_1 rfl hl (by decide) rfl (fun ls hl => ?_)
  suffices lp2 : ∀ zn k2 : Nat, 0 ≤ k2 → k2 ≤ n → n < k2 + zn → (anyS (drnT ki pl st p) k2 = false) → ∀ ls : Array Slot, lv_has ls 4 [(0, .ref o), (1, .int st), (2, .int (nI p)), (3, .int (nI k2))] → W zp l ze (rmK 2) s zm args below meth zc s.heap [] 0 0 (MQ below (vp_Si (fun zx => zx = bI (anyS (drnT ki pl st p) n))) args s 0 0 (fun _ => False)) (F0 zm 2 ls []) by
    have el_1 : (0 : Int32) = nI 0 := rfl
    exact lp2 (n + 1 - 0) 0 (by omega) (by omega) (by omega) (rfl) ls (lv_sub hl [1, 2, 3, 0] (show ([(0, .ref o), (1, .int st), (2, .int (nI p)), (3, .int 0)] : List (Nat × Value)) = [(0, .ref o), (1, .int st), (2, .int (nI p)), (3, .int (nI 0))] by rw [← el_1]))
  intro zn
  induction zn with
  | zero => exact fun k2 h1 h2 h3 => absurd h3 (by omega)
  | succ zn ih2 =>
    intro k2 hlo2 hhi2 hn2 hany ls hl
    refine lv_iload_n hx hb dX5_isDrained_2 rfl (lv_at hl 3 rfl) ?_
    refine lv_aload_n hx hb dX5_isDrained_3 rfl (lv_at hl 0 rfl) ?_
    refine va_get (D := G) (ci := 5) (v := .int (nI n)) (C := RX5) (T := TX5) (N := 5) hx hb hts inlX5 hown hK hP 0 rfl rfl 4 (by decide) (hts (.fieldLink RX5 24 "EarthBanks$Works" "size" "I") k_4_9) (fun _ h9 => h9) h_o_nw dX5_isDrained_4 ?_
    refine lv_icmp_ge (tgt := 46) hx hb dX5_isDrained_7 (by decide) (fun c_2 => ?_) (fun c_2 => ?_)
    · skip
      have c_2 : n ≤ k2 := (nI_leI (a := n) (b := k2) (by omega) (by omega)).mp c_2
      have hk9 : n = k2 := by omega
      subst hk9
      refine lv_iconst (v := 0) hx hb dX5_isDrained_46 (by decide) ?_
      exact retR hx hb hr (rfl) hlocks dX5_isDrained_47 (by rw [hany]; rfl)
    · skip
      have c_2 : ¬ n ≤ k2 := fun h9 => c_2 ((nI_leI (a := n) (b := k2) (by omega) (by omega)).mpr h9)
      refine lv_iload_n hx hb dX5_isDrained_10 rfl (lv_at hl 1 rfl) ?_
      refine lv_iload_n hx hb dX5_isDrained_11 rfl (lv_at hl 3 rfl) ?_
      refine cRS (As := [.int st, .int (nI k2)]) (rest := []) hx hb hml hown hts (c_X5_has l G E cI cZ st k2) k_25_7 cal_X5_has ⟨Nat.le_of_ble_eq_true rfl, Nat.le_of_ble_eq_true rfl⟩ hE hlow hS hK [0, 1] rfl hP [] rfl rfl hl.1 rfl (Nat.le_of_ble_eq_true rfl) dX5_isDrained_12 ⟨Nat.zero_le _, Nat.zero_le _⟩ ?_
      refine lv_if_eq (tgt := 40) hx hb dX5_isDrained_15 (by decide) (fun c_3 => ?_) (fun c_3 => ?_)
      · skip
        have c_3 : (hasS st k2) = false := bI_f c_3
        refine lv_iinc (v := nI (k2 + 1)) (lv' := [(3, .int (nI (k2 + 1))), (0, .ref o), (1, .int st), (2, .int (nI p))]) hx hb dX5_isDrained_40 hl (k := 3) rfl (nI_add _ _) (by decide) rfl (fun ls hl => ?_)
        refine lv_goto (tgt := 2) hx hb dX5_isDrained_43 (by decide) ?_
        exact ih2 (k2 + 1) (by omega) (by omega) (by omega) (by simp [anyS, hany, drnT, c_2, c_3]) ls (lv_sub hl [1, 2, 3, 0] rfl)
      · skip
        have c_3 : (hasS st k2) = true := bI_t c_3
        refine lv_aload_n hx hb dX5_isDrained_18 rfl (lv_at hl 0 rfl) ?_
        refine va_get (D := G) (ci := 5) (v := .ref a_ki) (C := RX5) (T := TX5) (N := 5) hx hb hts inlX5 hown hK hP 0 rfl rfl 0 (by decide) (hts (.fieldLink RX5 9 "EarthBanks$Works" "kinds" "[I") k_4_5) (fun _ h9 => h9) h_o_ki dX5_isDrained_19 ?_
        refine lv_iload_n hx hb dX5_isDrained_22 rfl (lv_at hl 3 rfl) ?_
        refine ialdN (j := k2) hx hb hK hP 1 0 rfl rfl (by omega) (by decide) dX5_isDrained_23 ?_
        refine lv_iconst (v := 1) hx hb dX5_isDrained_24 (by decide) ?_
        refine lv_icmp_ne (tgt := 40) hx hb dX5_isDrained_25 (by decide) (fun c_4 => ?_) (fun c_4 => ?_)
        · skip
          refine lv_iinc (v := nI (k2 + 1)) (lv' := [(3, .int (nI (k2 + 1))), (0, .ref o), (1, .int st), (2, .int (nI p))]) hx hb dX5_isDrained_40 hl (k := 3) rfl (nI_add _ _) (by decide) rfl (fun ls hl => ?_)
          refine lv_goto (tgt := 2) hx hb dX5_isDrained_43 (by decide) ?_
          exact ih2 (k2 + 1) (by omega) (by omega) (by omega) (by simp [anyS, hany, drnT, c_2, c_3, c_4]) ls (lv_sub hl [1, 2, 3, 0] rfl)
        · skip
          refine lv_aload_n hx hb dX5_isDrained_28 rfl (lv_at hl 0 rfl) ?_
          refine va_get (D := G) (ci := 5) (v := .ref a_pl) (C := RX5) (T := TX5) (N := 5) hx hb hts inlX5 hown hK hP 0 rfl rfl 1 (by decide) (hts (.fieldLink RX5 15 "EarthBanks$Works" "places" "[I") k_4_6) (fun _ h9 => h9) h_o_pl dX5_isDrained_29 ?_
          refine lv_iload_n hx hb dX5_isDrained_32 rfl (lv_at hl 3 rfl) ?_
          refine ialdN (j := k2) hx hb hK hP 2 0 rfl rfl (by omega) (by decide) dX5_isDrained_33 ?_
          refine lv_iload_n hx hb dX5_isDrained_34 rfl (lv_at hl 2 rfl) ?_
          refine lv_icmp_ne (tgt := 40) hx hb dX5_isDrained_35 (by decide) (fun c_5 => ?_) (fun c_5 => ?_)
          · skip
            refine lv_iinc (v := nI (k2 + 1)) (lv' := [(3, .int (nI (k2 + 1))), (0, .ref o), (1, .int st), (2, .int (nI p))]) hx hb dX5_isDrained_40 hl (k := 3) rfl (nI_add _ _) (by decide) rfl (fun ls hl => ?_)
            refine lv_goto (tgt := 2) hx hb dX5_isDrained_43 (by decide) ?_
            exact ih2 (k2 + 1) (by omega) (by omega) (by omega) (by simp [anyS, hany, drnT, c_2, c_3, c_4, c_5]) ls (lv_sub hl [1, 2, 3, 0] rfl)
          · skip
            refine lv_iconst (v := 1) hx hb dX5_isDrained_38 (by decide) ?_
            exact retR hx hb hr (rfl) hlocks dX5_isDrained_39 (by rw [anyS_t (k := k2) (by simp [drnT, c_2, c_3, c_4, c_5]) (by omega)]; rfl)
theorem cal_X5_add : calV yX5_add cX5_add 5 (some .int) 4 := ⟨k_39_11, k_2_4, k_39_9, k_39_10, by decide +kernel⟩
set_option maxHeartbeats 4000000 in
set_option maxRecDepth 100000 in
theorem c_X5_add (l : Launch) (G : va_G) (E : EvT) (cI cZ : ClassId) (n : Nat) (kd : Int32) (pq : Int32) (mr : Int32) (pz : Int32) (o : Nat) (a_ki : Nat) (a_pl : Nat) (a_mo : Nat) (a_pr : Nat) (ki : Nat → Int32) (pl : Nat → Int32) (mo : Nat → Int32) (pr : Nat → Int32) (hn : n ≤ 8) : cWi (S := Unit) l G E yX5_add cX5_add 5 (some .int) 1 [(cI, .int), (cZ, .boolean)] [.ref o, .int kd, .int pq, .int mr, .int pz] [(o, .inr (5, [.ref a_ki, .ref a_pl, .ref a_mo, .ref a_pr, .int (nI n)])), (a_ki, .inl (cI, 8, .inl ki)), (a_pl, .inl (cI, 8, .inl pl)), (a_mo, .inl (cI, 8, .inl mo)), (a_pr, .inl (cI, 8, .inl pr))] (fun r _ => r = (if n < 8 then nI n else (-3))) (fun _ => [(o, .inr (5, [.ref a_ki, .ref a_pl, .ref a_mo, .ref a_pr, .int (nI (if n < 8 then n + 1 else n))])), (a_ki, .inl (cI, 8, .inl (if n < 8 then upd ki n kd else ki))), (a_pl, .inl (cI, 8, .inl (if n < 8 then upd pl n pq else pl))), (a_mo, .inl (cI, 8, .inl (if n < 8 then upd mo n mr else mo))), (a_pr, .inl (cI, 8, .inl (if n < 8 then upd pr n pz else pr)))]) := by
  refine mkWi (by decide) (Nat.le_of_ble_eq_true rfl) ?_
  intro zp ze s zm args below meth zc hx hb hr hml hown hts hlocks hE hK A hA hlow H locs hP hD hS ls hl
  have hl : lv_has ls 5 [(0, .ref o), (1, .int kd), (2, .int pq), (3, .int mr), (4, .int pz)] := hl
  refine lv_aload_n hx hb dX5_add_0 rfl (lv_at hl 0 rfl) ?_
  refine va_get (D := G) (ci := 5) (v := .int (nI n)) (C := RX5) (T := TX5) (N := 5) hx hb hts inlX5 hown hK hP 0 rfl rfl 4 (by decide) (hts (.fieldLink RX5 24 "EarthBanks$Works" "size" "I") k_4_9) (fun _ h9 => h9) rfl dX5_add_1 ?_
  refine lv_bipush (v := 8) hx hb dX5_add_4 (by decide) ?_
  refine lv_icmp_lt (tgt := 12) hx hb dX5_add_6 (by decide) (fun c_1 => ?_) (fun c_1 => ?_)
  · skip
    have c_1 : n < 8 := (nI_ltI (a := n) (b := 8) (by omega) (by omega)).mp c_1
    refine lv_aload_n hx hb dX5_add_12 rfl (lv_at hl 0 rfl) ?_
    refine va_get (D := G) (ci := 5) (v := .ref a_ki) (C := RX5) (T := TX5) (N := 5) hx hb hts inlX5 hown hK hP 0 rfl rfl 0 (by decide) (hts (.fieldLink RX5 9 "EarthBanks$Works" "kinds" "[I") k_4_5) (fun _ h9 => h9) rfl dX5_add_13 ?_
    refine lv_aload_n hx hb dX5_add_16 rfl (lv_at hl 0 rfl) ?_
    refine va_get (D := G) (ci := 5) (v := .int (nI n)) (C := RX5) (T := TX5) (N := 5) hx hb hts inlX5 hown hK hP 0 rfl rfl 4 (by decide) (hts (.fieldLink RX5 24 "EarthBanks$Works" "size" "I") k_4_9) (fun _ h9 => h9) rfl dX5_add_17 ?_
    refine lv_iload_n hx hb dX5_add_20 rfl (lv_at hl 1 rfl) ?_
    refine iastN (j := n) hx hb hK hP hD hS 1 0 rfl rfl (by omega) (by decide) dX5_add_21 (fun H locs hP hD hS => ?_)
    have hP : va_P G vwCl [(o, .inr (5, [.ref a_ki, .ref a_pl, .ref a_mo, .ref a_pr, .int (nI n)])), (a_ki, .inl (cI, 8, .inl (upd ki n kd))), (a_pl, .inl (cI, 8, .inl pl)), (a_mo, .inl (cI, 8, .inl mo)), (a_pr, .inl (cI, 8, .inl pr))] H := hP
    have hD : va_D A [(o, .inr (5, [.ref a_ki, .ref a_pl, .ref a_mo, .ref a_pr, .int (nI n)])), (a_ki, .inl (cI, 8, .inl (upd ki n kd))), (a_pl, .inl (cI, 8, .inl pl)), (a_mo, .inl (cI, 8, .inl mo)), (a_pr, .inl (cI, 8, .inl pr))] := hD
    refine lv_aload_n hx hb dX5_add_22 rfl (lv_at hl 0 rfl) ?_
    refine va_get (D := G) (ci := 5) (v := .ref a_pl) (C := RX5) (T := TX5) (N := 5) hx hb hts inlX5 hown hK hP 0 rfl rfl 1 (by decide) (hts (.fieldLink RX5 15 "EarthBanks$Works" "places" "[I") k_4_6) (fun _ h9 => h9) rfl dX5_add_23 ?_
    refine lv_aload_n hx hb dX5_add_26 rfl (lv_at hl 0 rfl) ?_
    refine va_get (D := G) (ci := 5) (v := .int (nI n)) (C := RX5) (T := TX5) (N := 5) hx hb hts inlX5 hown hK hP 0 rfl rfl 4 (by decide) (hts (.fieldLink RX5 24 "EarthBanks$Works" "size" "I") k_4_9) (fun _ h9 => h9) rfl dX5_add_27 ?_
    refine lv_iload_n hx hb dX5_add_30 rfl (lv_at hl 2 rfl) ?_
    refine iastN (j := n) hx hb hK hP hD hS 2 0 rfl rfl (by omega) (by decide) dX5_add_31 (fun H locs hP hD hS => ?_)
    have hP : va_P G vwCl [(o, .inr (5, [.ref a_ki, .ref a_pl, .ref a_mo, .ref a_pr, .int (nI n)])), (a_ki, .inl (cI, 8, .inl (upd ki n kd))), (a_pl, .inl (cI, 8, .inl (upd pl n pq))), (a_mo, .inl (cI, 8, .inl mo)), (a_pr, .inl (cI, 8, .inl pr))] H := hP
    have hD : va_D A [(o, .inr (5, [.ref a_ki, .ref a_pl, .ref a_mo, .ref a_pr, .int (nI n)])), (a_ki, .inl (cI, 8, .inl (upd ki n kd))), (a_pl, .inl (cI, 8, .inl (upd pl n pq))), (a_mo, .inl (cI, 8, .inl mo)), (a_pr, .inl (cI, 8, .inl pr))] := hD
    refine lv_aload_n hx hb dX5_add_32 rfl (lv_at hl 0 rfl) ?_
    refine va_get (D := G) (ci := 5) (v := .ref a_mo) (C := RX5) (T := TX5) (N := 5) hx hb hts inlX5 hown hK hP 0 rfl rfl 2 (by decide) (hts (.fieldLink RX5 18 "EarthBanks$Works" "mores" "[I") k_4_7) (fun _ h9 => h9) rfl dX5_add_33 ?_
    refine lv_aload_n hx hb dX5_add_36 rfl (lv_at hl 0 rfl) ?_
    refine va_get (D := G) (ci := 5) (v := .int (nI n)) (C := RX5) (T := TX5) (N := 5) hx hb hts inlX5 hown hK hP 0 rfl rfl 4 (by decide) (hts (.fieldLink RX5 24 "EarthBanks$Works" "size" "I") k_4_9) (fun _ h9 => h9) rfl dX5_add_37 ?_
    refine lv_iload_n hx hb dX5_add_40 rfl (lv_at hl 3 rfl) ?_
    refine iastN (j := n) hx hb hK hP hD hS 3 0 rfl rfl (by omega) (by decide) dX5_add_41 (fun H locs hP hD hS => ?_)
    have hP : va_P G vwCl [(o, .inr (5, [.ref a_ki, .ref a_pl, .ref a_mo, .ref a_pr, .int (nI n)])), (a_ki, .inl (cI, 8, .inl (upd ki n kd))), (a_pl, .inl (cI, 8, .inl (upd pl n pq))), (a_mo, .inl (cI, 8, .inl (upd mo n mr))), (a_pr, .inl (cI, 8, .inl pr))] H := hP
    have hD : va_D A [(o, .inr (5, [.ref a_ki, .ref a_pl, .ref a_mo, .ref a_pr, .int (nI n)])), (a_ki, .inl (cI, 8, .inl (upd ki n kd))), (a_pl, .inl (cI, 8, .inl (upd pl n pq))), (a_mo, .inl (cI, 8, .inl (upd mo n mr))), (a_pr, .inl (cI, 8, .inl pr))] := hD
    refine lv_aload_n hx hb dX5_add_42 rfl (lv_at hl 0 rfl) ?_
    refine va_get (D := G) (ci := 5) (v := .ref a_pr) (C := RX5) (T := TX5) (N := 5) hx hb hts inlX5 hown hK hP 0 rfl rfl 3 (by decide) (hts (.fieldLink RX5 21 "EarthBanks$Works" "prices" "[I") k_4_8) (fun _ h9 => h9) rfl dX5_add_43 ?_
    refine lv_aload_n hx hb dX5_add_46 rfl (lv_at hl 0 rfl) ?_
    refine va_get (D := G) (ci := 5) (v := .int (nI n)) (C := RX5) (T := TX5) (N := 5) hx hb hts inlX5 hown hK hP 0 rfl rfl 4 (by decide) (hts (.fieldLink RX5 24 "EarthBanks$Works" "size" "I") k_4_9) (fun _ h9 => h9) rfl dX5_add_47 ?_
    refine lv_iload hx hb dX5_add_50 (lv_at hl 4 rfl) ?_
    refine iastN (j := n) hx hb hK hP hD hS 4 0 rfl rfl (by omega) (by decide) dX5_add_52 (fun H locs hP hD hS => ?_)
    have hP : va_P G vwCl [(o, .inr (5, [.ref a_ki, .ref a_pl, .ref a_mo, .ref a_pr, .int (nI n)])), (a_ki, .inl (cI, 8, .inl (upd ki n kd))), (a_pl, .inl (cI, 8, .inl (upd pl n pq))), (a_mo, .inl (cI, 8, .inl (upd mo n mr))), (a_pr, .inl (cI, 8, .inl (upd pr n pz)))] H := hP
    have hD : va_D A [(o, .inr (5, [.ref a_ki, .ref a_pl, .ref a_mo, .ref a_pr, .int (nI n)])), (a_ki, .inl (cI, 8, .inl (upd ki n kd))), (a_pl, .inl (cI, 8, .inl (upd pl n pq))), (a_mo, .inl (cI, 8, .inl (upd mo n mr))), (a_pr, .inl (cI, 8, .inl (upd pr n pz)))] := hD
    refine lv_aload_n hx hb dX5_add_53 rfl (lv_at hl 0 rfl) ?_
    refine lv_dup hx hb dX5_add_54 rfl ?_
    refine va_get (D := G) (ci := 5) (v := .int (nI n)) (C := RX5) (T := TX5) (N := 5) hx hb hts inlX5 hown hK hP 0 rfl rfl 4 (by decide) (hts (.fieldLink RX5 24 "EarthBanks$Works" "size" "I") k_4_9) (fun _ h9 => h9) rfl dX5_add_55 ?_
    refine lv_iconst (v := 1) hx hb dX5_add_58 (by decide) ?_
    refine lv_iadd hx hb dX5_add_59 ?_
    refine top_eq (y := nI (n + 1)) (nI_add _ _) ?_
    refine va_put (D := G) (ci := 5) (v := .int (nI (n + 1))) (ty := .int) (C := RX5) (T := TX5) (N := 5) hx hb hts inlX5 tyX5 tyX5_ok nmX5 hown hK hP hD hS 0 rfl rfl 4 (by decide) (hts (.fieldLink RX5 24 "EarthBanks$Works" "size" "I") k_4_9) (fun _ h9 => h9) rfl (by decide +kernel) (rfl) (rfl) (Nat.le_of_ble_eq_true rfl) dX5_add_60 (fun H locs hP hD hS => ?_)
    have hP : va_P G vwCl [(o, .inr (5, [.ref a_ki, .ref a_pl, .ref a_mo, .ref a_pr, .int (nI (n + 1))])), (a_ki, .inl (cI, 8, .inl (upd ki n kd))), (a_pl, .inl (cI, 8, .inl (upd pl n pq))), (a_mo, .inl (cI, 8, .inl (upd mo n mr))), (a_pr, .inl (cI, 8, .inl (upd pr n pz)))] H := hP
    have hD : va_D A [(o, .inr (5, [.ref a_ki, .ref a_pl, .ref a_mo, .ref a_pr, .int (nI (n + 1))])), (a_ki, .inl (cI, 8, .inl (upd ki n kd))), (a_pl, .inl (cI, 8, .inl (upd pl n pq))), (a_mo, .inl (cI, 8, .inl (upd mo n mr))), (a_pr, .inl (cI, 8, .inl (upd pr n pz)))] := hD
    refine lv_aload_n hx hb dX5_add_63 rfl (lv_at hl 0 rfl) ?_
    refine va_get (D := G) (ci := 5) (v := .int (nI (n + 1))) (C := RX5) (T := TX5) (N := 5) hx hb hts inlX5 hown hK hP 0 rfl rfl 4 (by decide) (hts (.fieldLink RX5 24 "EarthBanks$Works" "size" "I") k_4_9) (fun _ h9 => h9) rfl dX5_add_64 ?_
    refine lv_iconst (v := 1) hx hb dX5_add_67 (by decide) ?_
    refine lv_isub hx hb dX5_add_68 ?_
    refine top_eq (y := nI ((n + 1) - 1)) (pk_sub (a := (n + 1)) (b := 1) (by omega)) ?_
    have ew_2 : (nI (n + 1) : Int32) = nI (if n < 8 then n + 1 else n) := by simp [bI, c_1]
    have ew_3 : (upd ki n kd) = (if n < 8 then upd ki n kd else ki) := by simp [bI, c_1]
    have ew_4 : (upd pl n pq) = (if n < 8 then upd pl n pq else pl) := by simp [bI, c_1]
    have ew_5 : (upd mo n mr) = (if n < 8 then upd mo n mr else mo) := by simp [bI, c_1]
    have ew_6 : (upd pr n pz) = (if n < 8 then upd pr n pz else pr) := by simp [bI, c_1]
    have hP : va_P G vwCl [(o, .inr (5, [.ref a_ki, .ref a_pl, .ref a_mo, .ref a_pr, .int (nI (if n < 8 then n + 1 else n))])), (a_ki, .inl (cI, 8, .inl (if n < 8 then upd ki n kd else ki))), (a_pl, .inl (cI, 8, .inl (if n < 8 then upd pl n pq else pl))), (a_mo, .inl (cI, 8, .inl (if n < 8 then upd mo n mr else mo))), (a_pr, .inl (cI, 8, .inl (if n < 8 then upd pr n pz else pr)))] H := by rw [← ew_2, ← ew_3, ← ew_4, ← ew_5, ← ew_6]; exact hP
    exact retWi () hx hb hr (rfl) hlocks dX5_add_69 hS (by simp [bI, c_1]) hP
  · skip
    have c_1 : ¬ n < 8 := fun h9 => c_1 ((nI_ltI (a := n) (b := 8) (by omega) (by omega)).mpr h9)
    refine lv_bipush (v := (-3)) hx hb dX5_add_9 (by decide) ?_
    have ew_7 : (nI n : Int32) = nI (if n < 8 then n + 1 else n) := by simp [bI, c_1]
    have ew_8 : ki = (if n < 8 then upd ki n kd else ki) := by simp [bI, c_1]
    have ew_9 : pl = (if n < 8 then upd pl n pq else pl) := by simp [bI, c_1]
    have ew_10 : mo = (if n < 8 then upd mo n mr else mo) := by simp [bI, c_1]
    have ew_11 : pr = (if n < 8 then upd pr n pz else pr) := by simp [bI, c_1]
    have hP : va_P G vwCl [(o, .inr (5, [.ref a_ki, .ref a_pl, .ref a_mo, .ref a_pr, .int (nI (if n < 8 then n + 1 else n))])), (a_ki, .inl (cI, 8, .inl (if n < 8 then upd ki n kd else ki))), (a_pl, .inl (cI, 8, .inl (if n < 8 then upd pl n pq else pl))), (a_mo, .inl (cI, 8, .inl (if n < 8 then upd mo n mr else mo))), (a_pr, .inl (cI, 8, .inl (if n < 8 then upd pr n pz else pr)))] H := by rw [← ew_7, ← ew_8, ← ew_9, ← ew_10, ← ew_11]; exact hP
    exact retWi () hx hb hr (rfl) hlocks dX5_add_11 hS (by simp [bI, c_1]) hP
theorem cal_X1_change : calV yX1_change cX1_change 4 (some .int) 2 := ⟨k_31_17, k_2_12, k_31_15, k_31_16, by decide +kernel⟩
set_option maxHeartbeats 4000000 in
set_option maxRecDepth 100000 in
theorem c_X1_change (l : Launch) (G : va_G) (E : EvT) (cI cZ : ClassId) (x : Nat) (v : Int32) (o : Nat) (a_se : Nat) (fs_o : List Value) (h_o_se : fs_o[0]? = some (.ref a_se)) (se : Nat → Int32) (hx9 : x < 6) : cWi (S := Unit) l G E yX1_change cX1_change 4 (some .int) 1 [(cI, .int), (cZ, .boolean)] [.ref o, .int (nI x), .int v] [(o, .inr (1, fs_o)), (a_se, .inl (cI, 6, .inl se))] (fun r _ => r = (se x)) (fun _ => [(o, .inr (1, fs_o)), (a_se, .inl (cI, 6, .inl (upd se x v)))]) := by
  refine mkWi (by decide) (Nat.le_of_ble_eq_true rfl) ?_
  intro zp ze s zm args below meth zc hx hb hr hml hown hts hlocks hE hK A hA hlow H locs hP hD hS ls hl
  have hl : lv_has ls 4 [(0, .ref o), (1, .int (nI x)), (2, .int v)] := hl
  refine lv_aload_n hx hb dX1_change_0 rfl (lv_at hl 0 rfl) ?_
  refine va_get (D := G) (ci := 1) (v := .ref a_se) (C := RX1) (T := TX1) (N := 7) hx hb hts inlX1 hown hK hP 0 rfl rfl 0 (by decide) (hts (.fieldLink RX1 9 "EarthBanks$Reservoir" "settings" "[I") k_5_3) (fun _ h9 => h9) h_o_se dX1_change_1 ?_
  refine lv_iload_n hx hb dX1_change_4 rfl (lv_at hl 1 rfl) ?_
  refine ialdN (j := x) hx hb hK hP 1 0 rfl rfl (by omega) (by decide) dX1_change_5 ?_
  refine lv_istore_n (lv' := [(3, .int (se x)), (0, .ref o), (1, .int (nI x)), (2, .int v)]) hx hb dX1_change_6 rfl hl (by decide) rfl (fun ls hl => ?_)
  refine lv_aload_n hx hb dX1_change_7 rfl (lv_at hl 1 rfl) ?_
  refine va_get (D := G) (ci := 1) (v := .ref a_se) (C := RX1) (T := TX1) (N := 7) hx hb hts inlX1 hown hK hP 0 rfl rfl 0 (by decide) (hts (.fieldLink RX1 9 "EarthBanks$Reservoir" "settings" "[I") k_5_3) (fun _ h9 => h9) h_o_se dX1_change_8 ?_
  refine lv_iload_n hx hb dX1_change_11 rfl (lv_at hl 2 rfl) ?_
  refine lv_iload_n hx hb dX1_change_12 rfl (lv_at hl 3 rfl) ?_
  refine iastN (j := x) hx hb hK hP hD hS 1 0 rfl rfl (by omega) (by decide) dX1_change_13 (fun H locs hP hD hS => ?_)
  have hP : va_P G vwCl [(o, .inr (1, fs_o)), (a_se, .inl (cI, 6, .inl (upd se x v)))] H := hP
  have hD : va_D A [(o, .inr (1, fs_o)), (a_se, .inl (cI, 6, .inl (upd se x v)))] := hD
  refine lv_iload_n hx hb dX1_change_14 rfl (lv_at hl 0 rfl) ?_
  exact retWi () hx hb hr (rfl) hlocks dX1_change_15 hS (rfl) hP
theorem cal_X1_addHour : calV yX1_addHour cX1_addHour 3 (some .boolean) 2 := ⟨k_32_9, k_2_12, k_32_7, k_32_8, by decide +kernel⟩
set_option maxHeartbeats 4000000 in
set_option maxRecDepth 100000 in
theorem c_X1_addHour (l : Launch) (G : va_G) (E : EvT) (cI cZ : ClassId) (hN : Nat → Nat) (fl : Nat) (v : Int32) (o : Nat) (a_wa : Nat) (a_ho : Nat) (fs_o : List Value) (h_o_ho : fs_o[2]? = some (.ref a_ho)) (h_o_wa : fs_o[1]? = some (.ref a_wa)) (wa : Nat → Int32) (ho : Nat → Int32) (hfl : fl < 8) (hho : ∀ j, ho j = nI (hN j)) (hle : ∀ j, hN j ≤ 12) : cWi (S := Unit) l G E yX1_addHour cX1_addHour 3 (some .boolean) 1 [(cI, .int), (cZ, .boolean)] [.ref o, .int (nI fl), .int v] [(o, .inr (1, fs_o)), (a_wa, .inl (cI, 96, .inl wa)), (a_ho, .inl (cI, 8, .inl ho))] (fun r _ => r = bI (decide (hN fl < 12))) (fun _ => [(o, .inr (1, fs_o)), (a_wa, .inl (cI, 96, .inl (if hN fl < 12 then upd wa (fl * 12 + hN fl) v else wa))), (a_ho, .inl (cI, 8, .inl (if hN fl < 12 then upd ho fl (nI (hN fl + 1)) else ho)))]) := by
  refine mkWi (by decide) (Nat.le_of_ble_eq_true rfl) ?_
  intro zp ze s zm args below meth zc hx hb hr hml hown hts hlocks hE hK A hA hlow H locs hP hD hS ls hl
  have hl : lv_has ls 3 [(0, .ref o), (1, .int (nI fl)), (2, .int v)] := hl
  have hle1 := hle fl
  refine lv_aload_n hx hb dX1_addHour_0 rfl (lv_at hl 0 rfl) ?_
  refine va_get (D := G) (ci := 1) (v := .ref a_ho) (C := RX1) (T := TX1) (N := 7) hx hb hts inlX1 hown hK hP 0 rfl rfl 2 (by decide) (hts (.fieldLink RX1 18 "EarthBanks$Reservoir" "hours" "[I") k_5_5) (fun _ h9 => h9) h_o_ho dX1_addHour_1 ?_
  refine lv_iload_n hx hb dX1_addHour_4 rfl (lv_at hl 1 rfl) ?_
  refine ialdN (j := fl) hx hb hK hP 2 0 rfl rfl (by omega) (by decide) dX1_addHour_5 ?_
  refine top_eq (y := nI (hN fl)) (hho fl) ?_
  refine lv_bipush (v := 12) hx hb dX1_addHour_6 (by decide) ?_
  refine lv_icmp_lt (tgt := 13) hx hb dX1_addHour_8 (by decide) (fun c_1 => ?_) (fun c_1 => ?_)
  · skip
    have c_1 : (hN fl) < 12 := (nI_ltI (a := (hN fl)) (b := 12) (by omega) (by omega)).mp c_1
    refine lv_aload_n hx hb dX1_addHour_13 rfl (lv_at hl 0 rfl) ?_
    refine va_get (D := G) (ci := 1) (v := .ref a_wa) (C := RX1) (T := TX1) (N := 7) hx hb hts inlX1 hown hK hP 0 rfl rfl 1 (by decide) (hts (.fieldLink RX1 15 "EarthBanks$Reservoir" "waters" "[I") k_5_4) (fun _ h9 => h9) h_o_wa dX1_addHour_14 ?_
    refine lv_iload_n hx hb dX1_addHour_17 rfl (lv_at hl 1 rfl) ?_
    refine lv_bipush (v := 12) hx hb dX1_addHour_18 (by decide) ?_
    refine lv_imul hx hb dX1_addHour_20 ?_
    refine top_eq (y := nI (fl * 12)) (pk_mul _ _) ?_
    refine lv_aload_n hx hb dX1_addHour_21 rfl (lv_at hl 0 rfl) ?_
    refine va_get (D := G) (ci := 1) (v := .ref a_ho) (C := RX1) (T := TX1) (N := 7) hx hb hts inlX1 hown hK hP 0 rfl rfl 2 (by decide) (hts (.fieldLink RX1 18 "EarthBanks$Reservoir" "hours" "[I") k_5_5) (fun _ h9 => h9) h_o_ho dX1_addHour_22 ?_
    refine lv_iload_n hx hb dX1_addHour_25 rfl (lv_at hl 1 rfl) ?_
    refine ialdN (j := fl) hx hb hK hP 2 0 rfl rfl (by omega) (by decide) dX1_addHour_26 ?_
    refine top_eq (y := nI (hN fl)) (hho fl) ?_
    refine lv_iadd hx hb dX1_addHour_27 ?_
    refine top_eq (y := nI ((fl * 12) + (hN fl))) (nI_add _ _) ?_
    refine lv_iload_n hx hb dX1_addHour_28 rfl (lv_at hl 2 rfl) ?_
    refine iastN (j := ((fl * 12) + (hN fl))) hx hb hK hP hD hS 1 0 rfl rfl (by omega) (by decide) dX1_addHour_29 (fun H locs hP hD hS => ?_)
    have hP : va_P G vwCl [(o, .inr (1, fs_o)), (a_wa, .inl (cI, 96, .inl (upd wa ((fl * 12) + (hN fl)) v))), (a_ho, .inl (cI, 8, .inl ho))] H := hP
    have hD : va_D A [(o, .inr (1, fs_o)), (a_wa, .inl (cI, 96, .inl (upd wa ((fl * 12) + (hN fl)) v))), (a_ho, .inl (cI, 8, .inl ho))] := hD
    refine lv_aload_n hx hb dX1_addHour_30 rfl (lv_at hl 0 rfl) ?_
    refine va_get (D := G) (ci := 1) (v := .ref a_ho) (C := RX1) (T := TX1) (N := 7) hx hb hts inlX1 hown hK hP 0 rfl rfl 2 (by decide) (hts (.fieldLink RX1 18 "EarthBanks$Reservoir" "hours" "[I") k_5_5) (fun _ h9 => h9) h_o_ho dX1_addHour_31 ?_
    refine lv_iload_n hx hb dX1_addHour_34 rfl (lv_at hl 1 rfl) ?_
    refine lv_dup2_11 hx hb dX1_addHour_35 rfl rfl ?_
    refine ialdN (j := fl) hx hb hK hP 2 0 rfl rfl (by omega) (by decide) dX1_addHour_36 ?_
    refine top_eq (y := nI (hN fl)) (hho fl) ?_
    refine lv_iconst (v := 1) hx hb dX1_addHour_37 (by decide) ?_
    refine lv_iadd hx hb dX1_addHour_38 ?_
    refine top_eq (y := nI ((hN fl) + 1)) (nI_add _ _) ?_
    refine iastN (j := fl) hx hb hK hP hD hS 2 0 rfl rfl (by omega) (by decide) dX1_addHour_39 (fun H locs hP hD hS => ?_)
    have hP : va_P G vwCl [(o, .inr (1, fs_o)), (a_wa, .inl (cI, 96, .inl (upd wa ((fl * 12) + (hN fl)) v))), (a_ho, .inl (cI, 8, .inl (upd ho fl (nI ((hN fl) + 1)))))] H := hP
    have hD : va_D A [(o, .inr (1, fs_o)), (a_wa, .inl (cI, 96, .inl (upd wa ((fl * 12) + (hN fl)) v))), (a_ho, .inl (cI, 8, .inl (upd ho fl (nI ((hN fl) + 1)))))] := hD
    refine lv_iconst (v := 1) hx hb dX1_addHour_40 (by decide) ?_
    have ew_2 : (upd wa ((fl * 12) + (hN fl)) v) = (if hN fl < 12 then upd wa (fl * 12 + hN fl) v else wa) := by simp [bI, c_1]
    have ew_3 : (upd ho fl (nI ((hN fl) + 1))) = (if hN fl < 12 then upd ho fl (nI (hN fl + 1)) else ho) := by simp [bI, c_1]
    have hP : va_P G vwCl [(o, .inr (1, fs_o)), (a_wa, .inl (cI, 96, .inl (if hN fl < 12 then upd wa (fl * 12 + hN fl) v else wa))), (a_ho, .inl (cI, 8, .inl (if hN fl < 12 then upd ho fl (nI (hN fl + 1)) else ho)))] H := by rw [← ew_2, ← ew_3]; exact hP
    exact retWi () hx hb hr (rfl) hlocks dX1_addHour_41 hS (by simp [bI, c_1]) hP
  · skip
    have c_1 : ¬ (hN fl) < 12 := fun h9 => c_1 ((nI_ltI (a := (hN fl)) (b := 12) (by omega) (by omega)).mpr h9)
    refine lv_iconst (v := 0) hx hb dX1_addHour_11 (by decide) ?_
    have ew_4 : wa = (if hN fl < 12 then upd wa (fl * 12 + hN fl) v else wa) := by simp [bI, c_1]
    have ew_5 : ho = (if hN fl < 12 then upd ho fl (nI (hN fl + 1)) else ho) := by simp [bI, c_1]
    have hP : va_P G vwCl [(o, .inr (1, fs_o)), (a_wa, .inl (cI, 96, .inl (if hN fl < 12 then upd wa (fl * 12 + hN fl) v else wa))), (a_ho, .inl (cI, 8, .inl (if hN fl < 12 then upd ho fl (nI (hN fl + 1)) else ho)))] H := by rw [← ew_4, ← ew_5]; exact hP
    exact retWi () hx hb hr (rfl) hlocks dX1_addHour_12 hS (by simp [bI, c_1]) hP
theorem cal_X1_emptyFlood : calV yX1_emptyFlood cX1_emptyFlood 3 (some .int) 1 := ⟨k_32_21, k_2_12, k_32_19, k_32_20, by decide +kernel⟩
set_option maxHeartbeats 4000000 in
set_option maxRecDepth 100000 in
theorem c_X1_emptyFlood (l : Launch) (G : va_G) (E : EvT) (cI cZ : ClassId) (fl : Nat) (o : Nat) (a_ho : Nat) (fs_o : List Value) (h_o_ho : fs_o[2]? = some (.ref a_ho)) (ho : Nat → Int32) (hfl : fl < 8) : cWi (S := Unit) l G E yX1_emptyFlood cX1_emptyFlood 3 (some .int) 1 [(cI, .int), (cZ, .boolean)] [.ref o, .int (nI fl)] [(o, .inr (1, fs_o)), (a_ho, .inl (cI, 8, .inl ho))] (fun r _ => r = (ho fl)) (fun _ => [(o, .inr (1, fs_o)), (a_ho, .inl (cI, 8, .inl (upd ho fl 0)))]) := by
  refine mkWi (by decide) (Nat.le_of_ble_eq_true rfl) ?_
  intro zp ze s zm args below meth zc hx hb hr hml hown hts hlocks hE hK A hA hlow H locs hP hD hS ls hl
  have hl : lv_has ls 3 [(0, .ref o), (1, .int (nI fl))] := hl
  refine lv_aload_n hx hb dX1_emptyFlood_0 rfl (lv_at hl 0 rfl) ?_
  refine va_get (D := G) (ci := 1) (v := .ref a_ho) (C := RX1) (T := TX1) (N := 7) hx hb hts inlX1 hown hK hP 0 rfl rfl 2 (by decide) (hts (.fieldLink RX1 18 "EarthBanks$Reservoir" "hours" "[I") k_5_5) (fun _ h9 => h9) h_o_ho dX1_emptyFlood_1 ?_
  refine lv_iload_n hx hb dX1_emptyFlood_4 rfl (lv_at hl 1 rfl) ?_
  refine ialdN (j := fl) hx hb hK hP 1 0 rfl rfl (by omega) (by decide) dX1_emptyFlood_5 ?_
  refine lv_istore_n (lv' := [(2, .int (ho fl)), (0, .ref o), (1, .int (nI fl))]) hx hb dX1_emptyFlood_6 rfl hl (by decide) rfl (fun ls hl => ?_)
  refine lv_aload_n hx hb dX1_emptyFlood_7 rfl (lv_at hl 1 rfl) ?_
  refine va_get (D := G) (ci := 1) (v := .ref a_ho) (C := RX1) (T := TX1) (N := 7) hx hb hts inlX1 hown hK hP 0 rfl rfl 2 (by decide) (hts (.fieldLink RX1 18 "EarthBanks$Reservoir" "hours" "[I") k_5_5) (fun _ h9 => h9) h_o_ho dX1_emptyFlood_8 ?_
  refine lv_iload_n hx hb dX1_emptyFlood_11 rfl (lv_at hl 2 rfl) ?_
  refine lv_iconst (v := 0) hx hb dX1_emptyFlood_12 (by decide) ?_
  refine iastN (j := fl) hx hb hK hP hD hS 1 0 rfl rfl (by omega) (by decide) dX1_emptyFlood_13 (fun H locs hP hD hS => ?_)
  have hP : va_P G vwCl [(o, .inr (1, fs_o)), (a_ho, .inl (cI, 8, .inl (upd ho fl 0)))] H := hP
  have hD : va_D A [(o, .inr (1, fs_o)), (a_ho, .inl (cI, 8, .inl (upd ho fl 0)))] := hD
  refine lv_iload_n hx hb dX1_emptyFlood_14 rfl (lv_at hl 0 rfl) ?_
  exact retWi () hx hb hr (rfl) hlocks dX1_emptyFlood_15 hS (rfl) hP
theorem cal_X1_passHour : calV yX1_passHour cX1_passHour 6 none 2 := ⟨k_33_17, k_2_12, k_33_15, k_33_16, by decide +kernel⟩
set_option maxHeartbeats 4000000 in
set_option maxRecDepth 100000 in
theorem c_X1_passHour (l : Launch) (G : va_G) (E : EvT) (cI cZ : ClassId) (c : Int32) (ru : Int32) (o : Nat) (a_se : Nat) (a_wa : Nat) (a_ho : Nat) (wt : Int32) (ov : Int32) (tn : Int32) (lo : Int32) (se : Nat → Int32) : cWv (S := Unit) l G E yX1_passHour cX1_passHour 6 none 2 [(cI, .int), (cZ, .boolean)] [.ref o, .int c, .int ru] [(o, .inr (1, [.ref a_se, .ref a_wa, .ref a_ho, .int wt, .int ov, .int tn, .int lo])), (a_se, .inl (cI, 6, .inl se))] (fun _ => True) (fun _ => [(o, .inr (1, [.ref a_se, .ref a_wa, .ref a_ho, .int (hrW se ru c wt), .int (hrO se ru c wt ov), .int (hrT se ru c wt tn), .int (lo + (hrG se ru c wt))])), (a_se, .inl (cI, 6, .inl se))]) := by
  refine mkWv (by decide) (Nat.le_of_ble_eq_true rfl) ?_
  intro zp ze s zm args below meth zc hx hb hr hml hown hts hlocks hE hK A hA hlow H locs hP hD hS ls hl
  have hl : lv_has ls 6 [(0, .ref o), (1, .int c), (2, .int ru)] := hl
  refine lv_aload_n hx hb dX1_passHour_0 rfl (lv_at hl 0 rfl) ?_
  refine lv_dup hx hb dX1_passHour_1 rfl ?_
  refine va_get (D := G) (ci := 1) (v := .int wt) (C := RX1) (T := TX1) (N := 7) hx hb hts inlX1 hown hK hP 0 rfl rfl 3 (by decide) (hts (.fieldLink RX1 21 "EarthBanks$Reservoir" "water" "I") k_5_6) (fun _ h9 => h9) rfl dX1_passHour_2 ?_
  refine lv_iload_n hx hb dX1_passHour_5 rfl (lv_at hl 1 rfl) ?_
  refine lv_iadd hx hb dX1_passHour_6 ?_
  refine va_put (D := G) (ci := 1) (v := .int (wt + c)) (ty := .int) (C := RX1) (T := TX1) (N := 7) hx hb hts inlX1 tyX1 tyX1_ok nmX1 hown hK hP hD hS 0 rfl rfl 3 (by decide) (hts (.fieldLink RX1 21 "EarthBanks$Reservoir" "water" "I") k_5_6) (fun _ h9 => h9) rfl (by decide +kernel) (rfl) (rfl) (Nat.le_of_ble_eq_true rfl) dX1_passHour_7 (fun H locs hP hD hS => ?_)
  have hP : va_P G vwCl [(o, .inr (1, [.ref a_se, .ref a_wa, .ref a_ho, .int (wt + c), .int ov, .int tn, .int lo])), (a_se, .inl (cI, 6, .inl se))] H := hP
  have hD : va_D A [(o, .inr (1, [.ref a_se, .ref a_wa, .ref a_ho, .int (wt + c), .int ov, .int tn, .int lo])), (a_se, .inl (cI, 6, .inl se))] := hD
  refine lv_aload_n hx hb dX1_passHour_10 rfl (lv_at hl 0 rfl) ?_
  refine va_get (D := G) (ci := 1) (v := .int (wt + c)) (C := RX1) (T := TX1) (N := 7) hx hb hts inlX1 hown hK hP 0 rfl rfl 3 (by decide) (hts (.fieldLink RX1 21 "EarthBanks$Reservoir" "water" "I") k_5_6) (fun _ h9 => h9) rfl dX1_passHour_11 ?_
  refine lv_iload_n hx hb dX1_passHour_14 rfl (lv_at hl 2 rfl) ?_
  refine lv_icmp_lt (tgt := 34) hx hb dX1_passHour_15 (by decide) (fun c_1 => ?_) (fun c_1 => ?_)
  · skip
    refine lv_iconst (v := 0) hx hb dX1_passHour_34 (by decide) ?_
    refine top_eq (y := (gtS se ru (wt + c))) (by simp [gtS, c_1]) ?_
    refine lv_istore_n (lv' := [(3, .int (gtS se ru (wt + c))), (0, .ref o), (1, .int c), (2, .int ru)]) hx hb dX1_passHour_35 rfl hl (by decide) rfl (fun ls hl => ?_)
    refine lv_aload_n hx hb dX1_passHour_36 rfl (lv_at hl 1 rfl) ?_
    refine lv_dup hx hb dX1_passHour_37 rfl ?_
    refine va_get (D := G) (ci := 1) (v := .int (wt + c)) (C := RX1) (T := TX1) (N := 7) hx hb hts inlX1 hown hK hP 0 rfl rfl 3 (by decide) (hts (.fieldLink RX1 21 "EarthBanks$Reservoir" "water" "I") k_5_6) (fun _ h9 => h9) rfl dX1_passHour_38 ?_
    refine lv_iload_n hx hb dX1_passHour_41 rfl (lv_at hl 0 rfl) ?_
    refine lv_isub hx hb dX1_passHour_42 ?_
    refine top_eq (y := (wgS se ru c wt)) (rfl) ?_
    refine va_put (D := G) (ci := 1) (v := .int (wgS se ru c wt)) (ty := .int) (C := RX1) (T := TX1) (N := 7) hx hb hts inlX1 tyX1 tyX1_ok nmX1 hown hK hP hD hS 0 rfl rfl 3 (by decide) (hts (.fieldLink RX1 21 "EarthBanks$Reservoir" "water" "I") k_5_6) (fun _ h9 => h9) rfl (by decide +kernel) (rfl) (rfl) (Nat.le_of_ble_eq_true rfl) dX1_passHour_43 (fun H locs hP hD hS => ?_)
    have hP : va_P G vwCl [(o, .inr (1, [.ref a_se, .ref a_wa, .ref a_ho, .int (wgS se ru c wt), .int ov, .int tn, .int lo])), (a_se, .inl (cI, 6, .inl se))] H := hP
    have hD : va_D A [(o, .inr (1, [.ref a_se, .ref a_wa, .ref a_ho, .int (wgS se ru c wt), .int ov, .int tn, .int lo])), (a_se, .inl (cI, 6, .inl se))] := hD
    refine lv_iconst (v := 0) hx hb dX1_passHour_46 (by decide) ?_
    refine lv_aload_n hx hb dX1_passHour_47 rfl (lv_at hl 1 rfl) ?_
    refine va_get (D := G) (ci := 1) (v := .int (wgS se ru c wt)) (C := RX1) (T := TX1) (N := 7) hx hb hts inlX1 hown hK hP 0 rfl rfl 3 (by decide) (hts (.fieldLink RX1 21 "EarthBanks$Reservoir" "water" "I") k_5_6) (fun _ h9 => h9) rfl dX1_passHour_48 ?_
    refine lv_aload_n hx hb dX1_passHour_51 rfl (lv_at hl 1 rfl) ?_
    refine va_get (D := G) (ci := 1) (v := .ref a_se) (C := RX1) (T := TX1) (N := 7) hx hb hts inlX1 hown hK hP 0 rfl rfl 0 (by decide) (hts (.fieldLink RX1 9 "EarthBanks$Reservoir" "settings" "[I") k_5_3) (fun _ h9 => h9) rfl dX1_passHour_52 ?_
    refine lv_iconst (v := 1) hx hb dX1_passHour_55 (by decide) ?_
    refine ialdN (j := 1) hx hb hK hP 1 0 rfl rfl (by omega) (by decide) dX1_passHour_56 ?_
    refine lv_isub hx hb dX1_passHour_57 ?_
    refine va_mmax hx hb (hml.trans hl.1.symm) hown (hts (.methodLink RX1 44 Lib.Math.max.name) k_33_19) (hts (.static Lib.Math.max.name) k_16_22) (hts (.initialized "java/lang/Math") k_9_19) (hts (.code Lib.Math.max.name Lib.Math.max.code 2 (some .int)) k_16_23) (Nat.le_of_ble_eq_true rfl) (Nat.le_of_ble_eq_true rfl) (Nat.zero_le _) (Nat.zero_le _) dX1_passHour_58 ?_
    refine top_eq (y := (abS se (wgS se ru c wt))) (rfl) ?_
    refine lv_istore (lv' := [(4, .int (abS se (wgS se ru c wt))), (3, .int (gtS se ru (wt + c))), (0, .ref o), (1, .int c), (2, .int ru)]) hx hb dX1_passHour_61 hl (by decide) rfl (fun ls hl => ?_)
    refine lv_aload_n hx hb dX1_passHour_63 rfl (lv_at hl 2 rfl) ?_
    refine va_get (D := G) (ci := 1) (v := .ref a_se) (C := RX1) (T := TX1) (N := 7) hx hb hts inlX1 hown hK hP 0 rfl rfl 0 (by decide) (hts (.fieldLink RX1 9 "EarthBanks$Reservoir" "settings" "[I") k_5_3) (fun _ h9 => h9) rfl dX1_passHour_64 ?_
    refine lv_iconst (v := 2) hx hb dX1_passHour_67 (by decide) ?_
    refine ialdN (j := 2) hx hb hK hP 1 0 rfl rfl (by omega) (by decide) dX1_passHour_68 ?_
    refine lv_iload hx hb dX1_passHour_69 (lv_at hl 0 rfl) ?_
    refine lv_iconst (v := 1) hx hb dX1_passHour_71 (by decide) ?_
    refine lv_iadd hx hb dX1_passHour_72 ?_
    refine lv_iconst (v := 2) hx hb dX1_passHour_73 (by decide) ?_
    refine lv_idiv hx hb dX1_passHour_74 (by decide) ?_
    refine va_mmin hx hb (hml.trans hl.1.symm) hown (hts (.methodLink RX1 38 Lib.Math.min.name) k_33_18) (hts (.static Lib.Math.min.name) k_9_18) (hts (.initialized "java/lang/Math") k_9_19) (hts (.code Lib.Math.min.name Lib.Math.min.code 2 (some .int)) k_9_20) (Nat.le_of_ble_eq_true rfl) (Nat.le_of_ble_eq_true rfl) (Nat.zero_le _) (Nat.zero_le _) dX1_passHour_75 ?_
    refine top_eq (y := (spS se (wgS se ru c wt))) (rfl) ?_
    refine lv_istore (lv' := [(5, .int (spS se (wgS se ru c wt))), (4, .int (abS se (wgS se ru c wt))), (3, .int (gtS se ru (wt + c))), (0, .ref o), (1, .int c), (2, .int ru)]) hx hb dX1_passHour_78 hl (by decide) rfl (fun ls hl => ?_)
    refine lv_aload_n hx hb dX1_passHour_80 rfl (lv_at hl 3 rfl) ?_
    refine lv_dup hx hb dX1_passHour_81 rfl ?_
    refine va_get (D := G) (ci := 1) (v := .int (wgS se ru c wt)) (C := RX1) (T := TX1) (N := 7) hx hb hts inlX1 hown hK hP 0 rfl rfl 3 (by decide) (hts (.fieldLink RX1 21 "EarthBanks$Reservoir" "water" "I") k_5_6) (fun _ h9 => h9) rfl dX1_passHour_82 ?_
    refine lv_iload hx hb dX1_passHour_85 (lv_at hl 0 rfl) ?_
    refine lv_isub hx hb dX1_passHour_87 ?_
    refine top_eq (y := (hrW se ru c wt)) (rfl) ?_
    refine va_put (D := G) (ci := 1) (v := .int (hrW se ru c wt)) (ty := .int) (C := RX1) (T := TX1) (N := 7) hx hb hts inlX1 tyX1 tyX1_ok nmX1 hown hK hP hD hS 0 rfl rfl 3 (by decide) (hts (.fieldLink RX1 21 "EarthBanks$Reservoir" "water" "I") k_5_6) (fun _ h9 => h9) rfl (by decide +kernel) (rfl) (rfl) (Nat.le_of_ble_eq_true rfl) dX1_passHour_88 (fun H locs hP hD hS => ?_)
    have hP : va_P G vwCl [(o, .inr (1, [.ref a_se, .ref a_wa, .ref a_ho, .int (hrW se ru c wt), .int ov, .int tn, .int lo])), (a_se, .inl (cI, 6, .inl se))] H := hP
    have hD : va_D A [(o, .inr (1, [.ref a_se, .ref a_wa, .ref a_ho, .int (hrW se ru c wt), .int ov, .int tn, .int lo])), (a_se, .inl (cI, 6, .inl se))] := hD
    refine lv_aload_n hx hb dX1_passHour_91 rfl (lv_at hl 3 rfl) ?_
    refine va_get (D := G) (ci := 1) (v := .int (hrW se ru c wt)) (C := RX1) (T := TX1) (N := 7) hx hb hts inlX1 hown hK hP 0 rfl rfl 3 (by decide) (hts (.fieldLink RX1 21 "EarthBanks$Reservoir" "water" "I") k_5_6) (fun _ h9 => h9) rfl dX1_passHour_92 ?_
    refine lv_aload_n hx hb dX1_passHour_95 rfl (lv_at hl 3 rfl) ?_
    refine va_get (D := G) (ci := 1) (v := .ref a_se) (C := RX1) (T := TX1) (N := 7) hx hb hts inlX1 hown hK hP 0 rfl rfl 0 (by decide) (hts (.fieldLink RX1 9 "EarthBanks$Reservoir" "settings" "[I") k_5_3) (fun _ h9 => h9) rfl dX1_passHour_96 ?_
    refine lv_iconst (v := 3) hx hb dX1_passHour_99 (by decide) ?_
    refine ialdN (j := 3) hx hb hK hP 1 0 rfl rfl (by omega) (by decide) dX1_passHour_100 ?_
    refine lv_icmp_le (tgt := 114) hx hb dX1_passHour_101 (by decide) (fun c_2 => ?_) (fun c_2 => ?_)
    · skip
      refine lv_aload_n hx hb dX1_passHour_114 rfl (lv_at hl 3 rfl) ?_
      refine lv_aload_n hx hb dX1_passHour_115 rfl (lv_at hl 3 rfl) ?_
      refine va_get (D := G) (ci := 1) (v := .int tn) (C := RX1) (T := TX1) (N := 7) hx hb hts inlX1 hown hK hP 0 rfl rfl 5 (by decide) (hts (.fieldLink RX1 28 "EarthBanks$Reservoir" "town" "I") k_5_8) (fun _ h9 => h9) rfl dX1_passHour_116 ?_
      refine lv_iload_n hx hb dX1_passHour_119 rfl (lv_at hl 2 rfl) ?_
      refine lv_iload hx hb dX1_passHour_120 (lv_at hl 0 rfl) ?_
      refine lv_iadd hx hb dX1_passHour_122 ?_
      refine top_eq (y := (hrG se ru c wt)) (rfl) ?_
      refine va_mmax hx hb (hml.trans hl.1.symm) hown (hts (.methodLink RX1 44 Lib.Math.max.name) k_33_19) (hts (.static Lib.Math.max.name) k_16_22) (hts (.initialized "java/lang/Math") k_9_19) (hts (.code Lib.Math.max.name Lib.Math.max.code 2 (some .int)) k_16_23) (Nat.le_of_ble_eq_true rfl) (Nat.le_of_ble_eq_true rfl) (Nat.zero_le _) (Nat.zero_le _) dX1_passHour_123 ?_
      refine va_put (D := G) (ci := 1) (v := .int (if tn < (hrG se ru c wt) then (hrG se ru c wt) else tn)) (ty := .int) (C := RX1) (T := TX1) (N := 7) hx hb hts inlX1 tyX1 tyX1_ok nmX1 hown hK hP hD hS 0 rfl rfl 5 (by decide) (hts (.fieldLink RX1 28 "EarthBanks$Reservoir" "town" "I") k_5_8) (fun _ h9 => h9) rfl (by decide +kernel) (rfl) (rfl) (Nat.le_of_ble_eq_true rfl) dX1_passHour_126 (fun H locs hP hD hS => ?_)
      have hP : va_P G vwCl [(o, .inr (1, [.ref a_se, .ref a_wa, .ref a_ho, .int (hrW se ru c wt), .int ov, .int (if tn < (hrG se ru c wt) then (hrG se ru c wt) else tn), .int lo])), (a_se, .inl (cI, 6, .inl se))] H := hP
      have hD : va_D A [(o, .inr (1, [.ref a_se, .ref a_wa, .ref a_ho, .int (hrW se ru c wt), .int ov, .int (if tn < (hrG se ru c wt) then (hrG se ru c wt) else tn), .int lo])), (a_se, .inl (cI, 6, .inl se))] := hD
      refine lv_aload_n hx hb dX1_passHour_129 rfl (lv_at hl 3 rfl) ?_
      refine lv_dup hx hb dX1_passHour_130 rfl ?_
      refine va_get (D := G) (ci := 1) (v := .int lo) (C := RX1) (T := TX1) (N := 7) hx hb hts inlX1 hown hK hP 0 rfl rfl 6 (by decide) (hts (.fieldLink RX1 31 "EarthBanks$Reservoir" "letOut" "I") k_5_9) (fun _ h9 => h9) rfl dX1_passHour_131 ?_
      refine lv_iload_n hx hb dX1_passHour_134 rfl (lv_at hl 2 rfl) ?_
      refine lv_iload hx hb dX1_passHour_135 (lv_at hl 0 rfl) ?_
      refine lv_iadd hx hb dX1_passHour_137 ?_
      refine top_eq (y := (hrG se ru c wt)) (rfl) ?_
      refine lv_iadd hx hb dX1_passHour_138 ?_
      refine va_put (D := G) (ci := 1) (v := .int (lo + (hrG se ru c wt))) (ty := .int) (C := RX1) (T := TX1) (N := 7) hx hb hts inlX1 tyX1 tyX1_ok nmX1 hown hK hP hD hS 0 rfl rfl 6 (by decide) (hts (.fieldLink RX1 31 "EarthBanks$Reservoir" "letOut" "I") k_5_9) (fun _ h9 => h9) rfl (by decide +kernel) (rfl) (rfl) (Nat.le_of_ble_eq_true rfl) dX1_passHour_139 (fun H locs hP hD hS => ?_)
      have hP : va_P G vwCl [(o, .inr (1, [.ref a_se, .ref a_wa, .ref a_ho, .int (hrW se ru c wt), .int ov, .int (if tn < (hrG se ru c wt) then (hrG se ru c wt) else tn), .int (lo + (hrG se ru c wt))])), (a_se, .inl (cI, 6, .inl se))] H := hP
      have hD : va_D A [(o, .inr (1, [.ref a_se, .ref a_wa, .ref a_ho, .int (hrW se ru c wt), .int ov, .int (if tn < (hrG se ru c wt) then (hrG se ru c wt) else tn), .int (lo + (hrG se ru c wt))])), (a_se, .inl (cI, 6, .inl se))] := hD
      have ew_3 : (ov : Int32) = hrO se ru c wt ov := by simp [hrO, hrT, bI, c_1, c_2]
      have ew_4 : ((if tn < (hrG se ru c wt) then (hrG se ru c wt) else tn) : Int32) = hrT se ru c wt tn := by simp [hrO, hrT, bI, c_1, c_2]
      have hP : va_P G vwCl [(o, .inr (1, [.ref a_se, .ref a_wa, .ref a_ho, .int (hrW se ru c wt), .int (hrO se ru c wt ov), .int (hrT se ru c wt tn), .int (lo + (hrG se ru c wt))])), (a_se, .inl (cI, 6, .inl se))] H := by rw [← ew_3, ← ew_4]; exact hP
      exact retWv () hx hb hr hlocks dX1_passHour_142 hS (trivial) hP
    · skip
      refine lv_aload_n hx hb dX1_passHour_104 rfl (lv_at hl 3 rfl) ?_
      refine lv_dup hx hb dX1_passHour_105 rfl ?_
      refine va_get (D := G) (ci := 1) (v := .int ov) (C := RX1) (T := TX1) (N := 7) hx hb hts inlX1 hown hK hP 0 rfl rfl 4 (by decide) (hts (.fieldLink RX1 25 "EarthBanks$Reservoir" "hoursOver" "I") k_5_7) (fun _ h9 => h9) rfl dX1_passHour_106 ?_
      refine lv_iconst (v := 1) hx hb dX1_passHour_109 (by decide) ?_
      refine lv_iadd hx hb dX1_passHour_110 ?_
      refine va_put (D := G) (ci := 1) (v := .int (ov + 1)) (ty := .int) (C := RX1) (T := TX1) (N := 7) hx hb hts inlX1 tyX1 tyX1_ok nmX1 hown hK hP hD hS 0 rfl rfl 4 (by decide) (hts (.fieldLink RX1 25 "EarthBanks$Reservoir" "hoursOver" "I") k_5_7) (fun _ h9 => h9) rfl (by decide +kernel) (rfl) (rfl) (Nat.le_of_ble_eq_true rfl) dX1_passHour_111 (fun H locs hP hD hS => ?_)
      have hP : va_P G vwCl [(o, .inr (1, [.ref a_se, .ref a_wa, .ref a_ho, .int (hrW se ru c wt), .int (ov + 1), .int tn, .int lo])), (a_se, .inl (cI, 6, .inl se))] H := hP
      have hD : va_D A [(o, .inr (1, [.ref a_se, .ref a_wa, .ref a_ho, .int (hrW se ru c wt), .int (ov + 1), .int tn, .int lo])), (a_se, .inl (cI, 6, .inl se))] := hD
      refine lv_aload_n hx hb dX1_passHour_114 rfl (lv_at hl 3 rfl) ?_
      refine lv_aload_n hx hb dX1_passHour_115 rfl (lv_at hl 3 rfl) ?_
      refine va_get (D := G) (ci := 1) (v := .int tn) (C := RX1) (T := TX1) (N := 7) hx hb hts inlX1 hown hK hP 0 rfl rfl 5 (by decide) (hts (.fieldLink RX1 28 "EarthBanks$Reservoir" "town" "I") k_5_8) (fun _ h9 => h9) rfl dX1_passHour_116 ?_
      refine lv_iload_n hx hb dX1_passHour_119 rfl (lv_at hl 2 rfl) ?_
      refine lv_iload hx hb dX1_passHour_120 (lv_at hl 0 rfl) ?_
      refine lv_iadd hx hb dX1_passHour_122 ?_
      refine top_eq (y := (hrG se ru c wt)) (rfl) ?_
      refine va_mmax hx hb (hml.trans hl.1.symm) hown (hts (.methodLink RX1 44 Lib.Math.max.name) k_33_19) (hts (.static Lib.Math.max.name) k_16_22) (hts (.initialized "java/lang/Math") k_9_19) (hts (.code Lib.Math.max.name Lib.Math.max.code 2 (some .int)) k_16_23) (Nat.le_of_ble_eq_true rfl) (Nat.le_of_ble_eq_true rfl) (Nat.zero_le _) (Nat.zero_le _) dX1_passHour_123 ?_
      refine va_put (D := G) (ci := 1) (v := .int (if tn < (hrG se ru c wt) then (hrG se ru c wt) else tn)) (ty := .int) (C := RX1) (T := TX1) (N := 7) hx hb hts inlX1 tyX1 tyX1_ok nmX1 hown hK hP hD hS 0 rfl rfl 5 (by decide) (hts (.fieldLink RX1 28 "EarthBanks$Reservoir" "town" "I") k_5_8) (fun _ h9 => h9) rfl (by decide +kernel) (rfl) (rfl) (Nat.le_of_ble_eq_true rfl) dX1_passHour_126 (fun H locs hP hD hS => ?_)
      have hP : va_P G vwCl [(o, .inr (1, [.ref a_se, .ref a_wa, .ref a_ho, .int (hrW se ru c wt), .int (ov + 1), .int (if tn < (hrG se ru c wt) then (hrG se ru c wt) else tn), .int lo])), (a_se, .inl (cI, 6, .inl se))] H := hP
      have hD : va_D A [(o, .inr (1, [.ref a_se, .ref a_wa, .ref a_ho, .int (hrW se ru c wt), .int (ov + 1), .int (if tn < (hrG se ru c wt) then (hrG se ru c wt) else tn), .int lo])), (a_se, .inl (cI, 6, .inl se))] := hD
      refine lv_aload_n hx hb dX1_passHour_129 rfl (lv_at hl 3 rfl) ?_
      refine lv_dup hx hb dX1_passHour_130 rfl ?_
      refine va_get (D := G) (ci := 1) (v := .int lo) (C := RX1) (T := TX1) (N := 7) hx hb hts inlX1 hown hK hP 0 rfl rfl 6 (by decide) (hts (.fieldLink RX1 31 "EarthBanks$Reservoir" "letOut" "I") k_5_9) (fun _ h9 => h9) rfl dX1_passHour_131 ?_
      refine lv_iload_n hx hb dX1_passHour_134 rfl (lv_at hl 2 rfl) ?_
      refine lv_iload hx hb dX1_passHour_135 (lv_at hl 0 rfl) ?_
      refine lv_iadd hx hb dX1_passHour_137 ?_
      refine top_eq (y := (hrG se ru c wt)) (rfl) ?_
      refine lv_iadd hx hb dX1_passHour_138 ?_
      refine va_put (D := G) (ci := 1) (v := .int (lo + (hrG se ru c wt))) (ty := .int) (C := RX1) (T := TX1) (N := 7) hx hb hts inlX1 tyX1 tyX1_ok nmX1 hown hK hP hD hS 0 rfl rfl 6 (by decide) (hts (.fieldLink RX1 31 "EarthBanks$Reservoir" "letOut" "I") k_5_9) (fun _ h9 => h9) rfl (by decide +kernel) (rfl) (rfl) (Nat.le_of_ble_eq_true rfl) dX1_passHour_139 (fun H locs hP hD hS => ?_)
      have hP : va_P G vwCl [(o, .inr (1, [.ref a_se, .ref a_wa, .ref a_ho, .int (hrW se ru c wt), .int (ov + 1), .int (if tn < (hrG se ru c wt) then (hrG se ru c wt) else tn), .int (lo + (hrG se ru c wt))])), (a_se, .inl (cI, 6, .inl se))] H := hP
      have hD : va_D A [(o, .inr (1, [.ref a_se, .ref a_wa, .ref a_ho, .int (hrW se ru c wt), .int (ov + 1), .int (if tn < (hrG se ru c wt) then (hrG se ru c wt) else tn), .int (lo + (hrG se ru c wt))])), (a_se, .inl (cI, 6, .inl se))] := hD
      have ew_5 : ((ov + 1) : Int32) = hrO se ru c wt ov := by simp [hrO, hrT, bI, c_1, c_2]
      have ew_6 : ((if tn < (hrG se ru c wt) then (hrG se ru c wt) else tn) : Int32) = hrT se ru c wt tn := by simp [hrO, hrT, bI, c_1, c_2]
      have hP : va_P G vwCl [(o, .inr (1, [.ref a_se, .ref a_wa, .ref a_ho, .int (hrW se ru c wt), .int (hrO se ru c wt ov), .int (hrT se ru c wt tn), .int (lo + (hrG se ru c wt))])), (a_se, .inl (cI, 6, .inl se))] H := by rw [← ew_5, ← ew_6]; exact hP
      exact retWv () hx hb hr hlocks dX1_passHour_142 hS (trivial) hP
  · skip
    refine lv_aload_n hx hb dX1_passHour_18 rfl (lv_at hl 0 rfl) ?_
    refine va_get (D := G) (ci := 1) (v := .ref a_se) (C := RX1) (T := TX1) (N := 7) hx hb hts inlX1 hown hK hP 0 rfl rfl 0 (by decide) (hts (.fieldLink RX1 9 "EarthBanks$Reservoir" "settings" "[I") k_5_3) (fun _ h9 => h9) rfl dX1_passHour_19 ?_
    refine lv_iconst (v := 0) hx hb dX1_passHour_22 (by decide) ?_
    refine ialdN (j := 0) hx hb hK hP 1 0 rfl rfl (by omega) (by decide) dX1_passHour_23 ?_
    refine lv_aload_n hx hb dX1_passHour_24 rfl (lv_at hl 0 rfl) ?_
    refine va_get (D := G) (ci := 1) (v := .int (wt + c)) (C := RX1) (T := TX1) (N := 7) hx hb hts inlX1 hown hK hP 0 rfl rfl 3 (by decide) (hts (.fieldLink RX1 21 "EarthBanks$Reservoir" "water" "I") k_5_6) (fun _ h9 => h9) rfl dX1_passHour_25 ?_
    refine va_mmin hx hb (hml.trans hl.1.symm) hown (hts (.methodLink RX1 38 Lib.Math.min.name) k_33_18) (hts (.static Lib.Math.min.name) k_9_18) (hts (.initialized "java/lang/Math") k_9_19) (hts (.code Lib.Math.min.name Lib.Math.min.code 2 (some .int)) k_9_20) (Nat.le_of_ble_eq_true rfl) (Nat.le_of_ble_eq_true rfl) (Nat.zero_le _) (Nat.zero_le _) dX1_passHour_28 ?_
    refine lv_goto (tgt := 35) hx hb dX1_passHour_31 (by decide) ?_
    refine top_eq (y := (gtS se ru (wt + c))) (by simp [gtS, c_1]) ?_
    refine lv_istore_n (lv' := [(3, .int (gtS se ru (wt + c))), (0, .ref o), (1, .int c), (2, .int ru)]) hx hb dX1_passHour_35 rfl hl (by decide) rfl (fun ls hl => ?_)
    refine lv_aload_n hx hb dX1_passHour_36 rfl (lv_at hl 1 rfl) ?_
    refine lv_dup hx hb dX1_passHour_37 rfl ?_
    refine va_get (D := G) (ci := 1) (v := .int (wt + c)) (C := RX1) (T := TX1) (N := 7) hx hb hts inlX1 hown hK hP 0 rfl rfl 3 (by decide) (hts (.fieldLink RX1 21 "EarthBanks$Reservoir" "water" "I") k_5_6) (fun _ h9 => h9) rfl dX1_passHour_38 ?_
    refine lv_iload_n hx hb dX1_passHour_41 rfl (lv_at hl 0 rfl) ?_
    refine lv_isub hx hb dX1_passHour_42 ?_
    refine top_eq (y := (wgS se ru c wt)) (rfl) ?_
    refine va_put (D := G) (ci := 1) (v := .int (wgS se ru c wt)) (ty := .int) (C := RX1) (T := TX1) (N := 7) hx hb hts inlX1 tyX1 tyX1_ok nmX1 hown hK hP hD hS 0 rfl rfl 3 (by decide) (hts (.fieldLink RX1 21 "EarthBanks$Reservoir" "water" "I") k_5_6) (fun _ h9 => h9) rfl (by decide +kernel) (rfl) (rfl) (Nat.le_of_ble_eq_true rfl) dX1_passHour_43 (fun H locs hP hD hS => ?_)
    have hP : va_P G vwCl [(o, .inr (1, [.ref a_se, .ref a_wa, .ref a_ho, .int (wgS se ru c wt), .int ov, .int tn, .int lo])), (a_se, .inl (cI, 6, .inl se))] H := hP
    have hD : va_D A [(o, .inr (1, [.ref a_se, .ref a_wa, .ref a_ho, .int (wgS se ru c wt), .int ov, .int tn, .int lo])), (a_se, .inl (cI, 6, .inl se))] := hD
    refine lv_iconst (v := 0) hx hb dX1_passHour_46 (by decide) ?_
    refine lv_aload_n hx hb dX1_passHour_47 rfl (lv_at hl 1 rfl) ?_
    refine va_get (D := G) (ci := 1) (v := .int (wgS se ru c wt)) (C := RX1) (T := TX1) (N := 7) hx hb hts inlX1 hown hK hP 0 rfl rfl 3 (by decide) (hts (.fieldLink RX1 21 "EarthBanks$Reservoir" "water" "I") k_5_6) (fun _ h9 => h9) rfl dX1_passHour_48 ?_
    refine lv_aload_n hx hb dX1_passHour_51 rfl (lv_at hl 1 rfl) ?_
    refine va_get (D := G) (ci := 1) (v := .ref a_se) (C := RX1) (T := TX1) (N := 7) hx hb hts inlX1 hown hK hP 0 rfl rfl 0 (by decide) (hts (.fieldLink RX1 9 "EarthBanks$Reservoir" "settings" "[I") k_5_3) (fun _ h9 => h9) rfl dX1_passHour_52 ?_
    refine lv_iconst (v := 1) hx hb dX1_passHour_55 (by decide) ?_
    refine ialdN (j := 1) hx hb hK hP 1 0 rfl rfl (by omega) (by decide) dX1_passHour_56 ?_
    refine lv_isub hx hb dX1_passHour_57 ?_
    refine va_mmax hx hb (hml.trans hl.1.symm) hown (hts (.methodLink RX1 44 Lib.Math.max.name) k_33_19) (hts (.static Lib.Math.max.name) k_16_22) (hts (.initialized "java/lang/Math") k_9_19) (hts (.code Lib.Math.max.name Lib.Math.max.code 2 (some .int)) k_16_23) (Nat.le_of_ble_eq_true rfl) (Nat.le_of_ble_eq_true rfl) (Nat.zero_le _) (Nat.zero_le _) dX1_passHour_58 ?_
    refine top_eq (y := (abS se (wgS se ru c wt))) (rfl) ?_
    refine lv_istore (lv' := [(4, .int (abS se (wgS se ru c wt))), (3, .int (gtS se ru (wt + c))), (0, .ref o), (1, .int c), (2, .int ru)]) hx hb dX1_passHour_61 hl (by decide) rfl (fun ls hl => ?_)
    refine lv_aload_n hx hb dX1_passHour_63 rfl (lv_at hl 2 rfl) ?_
    refine va_get (D := G) (ci := 1) (v := .ref a_se) (C := RX1) (T := TX1) (N := 7) hx hb hts inlX1 hown hK hP 0 rfl rfl 0 (by decide) (hts (.fieldLink RX1 9 "EarthBanks$Reservoir" "settings" "[I") k_5_3) (fun _ h9 => h9) rfl dX1_passHour_64 ?_
    refine lv_iconst (v := 2) hx hb dX1_passHour_67 (by decide) ?_
    refine ialdN (j := 2) hx hb hK hP 1 0 rfl rfl (by omega) (by decide) dX1_passHour_68 ?_
    refine lv_iload hx hb dX1_passHour_69 (lv_at hl 0 rfl) ?_
    refine lv_iconst (v := 1) hx hb dX1_passHour_71 (by decide) ?_
    refine lv_iadd hx hb dX1_passHour_72 ?_
    refine lv_iconst (v := 2) hx hb dX1_passHour_73 (by decide) ?_
    refine lv_idiv hx hb dX1_passHour_74 (by decide) ?_
    refine va_mmin hx hb (hml.trans hl.1.symm) hown (hts (.methodLink RX1 38 Lib.Math.min.name) k_33_18) (hts (.static Lib.Math.min.name) k_9_18) (hts (.initialized "java/lang/Math") k_9_19) (hts (.code Lib.Math.min.name Lib.Math.min.code 2 (some .int)) k_9_20) (Nat.le_of_ble_eq_true rfl) (Nat.le_of_ble_eq_true rfl) (Nat.zero_le _) (Nat.zero_le _) dX1_passHour_75 ?_
    refine top_eq (y := (spS se (wgS se ru c wt))) (rfl) ?_
    refine lv_istore (lv' := [(5, .int (spS se (wgS se ru c wt))), (4, .int (abS se (wgS se ru c wt))), (3, .int (gtS se ru (wt + c))), (0, .ref o), (1, .int c), (2, .int ru)]) hx hb dX1_passHour_78 hl (by decide) rfl (fun ls hl => ?_)
    refine lv_aload_n hx hb dX1_passHour_80 rfl (lv_at hl 3 rfl) ?_
    refine lv_dup hx hb dX1_passHour_81 rfl ?_
    refine va_get (D := G) (ci := 1) (v := .int (wgS se ru c wt)) (C := RX1) (T := TX1) (N := 7) hx hb hts inlX1 hown hK hP 0 rfl rfl 3 (by decide) (hts (.fieldLink RX1 21 "EarthBanks$Reservoir" "water" "I") k_5_6) (fun _ h9 => h9) rfl dX1_passHour_82 ?_
    refine lv_iload hx hb dX1_passHour_85 (lv_at hl 0 rfl) ?_
    refine lv_isub hx hb dX1_passHour_87 ?_
    refine top_eq (y := (hrW se ru c wt)) (rfl) ?_
    refine va_put (D := G) (ci := 1) (v := .int (hrW se ru c wt)) (ty := .int) (C := RX1) (T := TX1) (N := 7) hx hb hts inlX1 tyX1 tyX1_ok nmX1 hown hK hP hD hS 0 rfl rfl 3 (by decide) (hts (.fieldLink RX1 21 "EarthBanks$Reservoir" "water" "I") k_5_6) (fun _ h9 => h9) rfl (by decide +kernel) (rfl) (rfl) (Nat.le_of_ble_eq_true rfl) dX1_passHour_88 (fun H locs hP hD hS => ?_)
    have hP : va_P G vwCl [(o, .inr (1, [.ref a_se, .ref a_wa, .ref a_ho, .int (hrW se ru c wt), .int ov, .int tn, .int lo])), (a_se, .inl (cI, 6, .inl se))] H := hP
    have hD : va_D A [(o, .inr (1, [.ref a_se, .ref a_wa, .ref a_ho, .int (hrW se ru c wt), .int ov, .int tn, .int lo])), (a_se, .inl (cI, 6, .inl se))] := hD
    refine lv_aload_n hx hb dX1_passHour_91 rfl (lv_at hl 3 rfl) ?_
    refine va_get (D := G) (ci := 1) (v := .int (hrW se ru c wt)) (C := RX1) (T := TX1) (N := 7) hx hb hts inlX1 hown hK hP 0 rfl rfl 3 (by decide) (hts (.fieldLink RX1 21 "EarthBanks$Reservoir" "water" "I") k_5_6) (fun _ h9 => h9) rfl dX1_passHour_92 ?_
    refine lv_aload_n hx hb dX1_passHour_95 rfl (lv_at hl 3 rfl) ?_
    refine va_get (D := G) (ci := 1) (v := .ref a_se) (C := RX1) (T := TX1) (N := 7) hx hb hts inlX1 hown hK hP 0 rfl rfl 0 (by decide) (hts (.fieldLink RX1 9 "EarthBanks$Reservoir" "settings" "[I") k_5_3) (fun _ h9 => h9) rfl dX1_passHour_96 ?_
    refine lv_iconst (v := 3) hx hb dX1_passHour_99 (by decide) ?_
    refine ialdN (j := 3) hx hb hK hP 1 0 rfl rfl (by omega) (by decide) dX1_passHour_100 ?_
    refine lv_icmp_le (tgt := 114) hx hb dX1_passHour_101 (by decide) (fun c_7 => ?_) (fun c_7 => ?_)
    · skip
      refine lv_aload_n hx hb dX1_passHour_114 rfl (lv_at hl 3 rfl) ?_
      refine lv_aload_n hx hb dX1_passHour_115 rfl (lv_at hl 3 rfl) ?_
      refine va_get (D := G) (ci := 1) (v := .int tn) (C := RX1) (T := TX1) (N := 7) hx hb hts inlX1 hown hK hP 0 rfl rfl 5 (by decide) (hts (.fieldLink RX1 28 "EarthBanks$Reservoir" "town" "I") k_5_8) (fun _ h9 => h9) rfl dX1_passHour_116 ?_
      refine lv_iload_n hx hb dX1_passHour_119 rfl (lv_at hl 2 rfl) ?_
      refine lv_iload hx hb dX1_passHour_120 (lv_at hl 0 rfl) ?_
      refine lv_iadd hx hb dX1_passHour_122 ?_
      refine top_eq (y := (hrG se ru c wt)) (rfl) ?_
      refine va_mmax hx hb (hml.trans hl.1.symm) hown (hts (.methodLink RX1 44 Lib.Math.max.name) k_33_19) (hts (.static Lib.Math.max.name) k_16_22) (hts (.initialized "java/lang/Math") k_9_19) (hts (.code Lib.Math.max.name Lib.Math.max.code 2 (some .int)) k_16_23) (Nat.le_of_ble_eq_true rfl) (Nat.le_of_ble_eq_true rfl) (Nat.zero_le _) (Nat.zero_le _) dX1_passHour_123 ?_
      refine va_put (D := G) (ci := 1) (v := .int (if tn < (hrG se ru c wt) then (hrG se ru c wt) else tn)) (ty := .int) (C := RX1) (T := TX1) (N := 7) hx hb hts inlX1 tyX1 tyX1_ok nmX1 hown hK hP hD hS 0 rfl rfl 5 (by decide) (hts (.fieldLink RX1 28 "EarthBanks$Reservoir" "town" "I") k_5_8) (fun _ h9 => h9) rfl (by decide +kernel) (rfl) (rfl) (Nat.le_of_ble_eq_true rfl) dX1_passHour_126 (fun H locs hP hD hS => ?_)
      have hP : va_P G vwCl [(o, .inr (1, [.ref a_se, .ref a_wa, .ref a_ho, .int (hrW se ru c wt), .int ov, .int (if tn < (hrG se ru c wt) then (hrG se ru c wt) else tn), .int lo])), (a_se, .inl (cI, 6, .inl se))] H := hP
      have hD : va_D A [(o, .inr (1, [.ref a_se, .ref a_wa, .ref a_ho, .int (hrW se ru c wt), .int ov, .int (if tn < (hrG se ru c wt) then (hrG se ru c wt) else tn), .int lo])), (a_se, .inl (cI, 6, .inl se))] := hD
      refine lv_aload_n hx hb dX1_passHour_129 rfl (lv_at hl 3 rfl) ?_
      refine lv_dup hx hb dX1_passHour_130 rfl ?_
      refine va_get (D := G) (ci := 1) (v := .int lo) (C := RX1) (T := TX1) (N := 7) hx hb hts inlX1 hown hK hP 0 rfl rfl 6 (by decide) (hts (.fieldLink RX1 31 "EarthBanks$Reservoir" "letOut" "I") k_5_9) (fun _ h9 => h9) rfl dX1_passHour_131 ?_
      refine lv_iload_n hx hb dX1_passHour_134 rfl (lv_at hl 2 rfl) ?_
      refine lv_iload hx hb dX1_passHour_135 (lv_at hl 0 rfl) ?_
      refine lv_iadd hx hb dX1_passHour_137 ?_
      refine top_eq (y := (hrG se ru c wt)) (rfl) ?_
      refine lv_iadd hx hb dX1_passHour_138 ?_
      refine va_put (D := G) (ci := 1) (v := .int (lo + (hrG se ru c wt))) (ty := .int) (C := RX1) (T := TX1) (N := 7) hx hb hts inlX1 tyX1 tyX1_ok nmX1 hown hK hP hD hS 0 rfl rfl 6 (by decide) (hts (.fieldLink RX1 31 "EarthBanks$Reservoir" "letOut" "I") k_5_9) (fun _ h9 => h9) rfl (by decide +kernel) (rfl) (rfl) (Nat.le_of_ble_eq_true rfl) dX1_passHour_139 (fun H locs hP hD hS => ?_)
      have hP : va_P G vwCl [(o, .inr (1, [.ref a_se, .ref a_wa, .ref a_ho, .int (hrW se ru c wt), .int ov, .int (if tn < (hrG se ru c wt) then (hrG se ru c wt) else tn), .int (lo + (hrG se ru c wt))])), (a_se, .inl (cI, 6, .inl se))] H := hP
      have hD : va_D A [(o, .inr (1, [.ref a_se, .ref a_wa, .ref a_ho, .int (hrW se ru c wt), .int ov, .int (if tn < (hrG se ru c wt) then (hrG se ru c wt) else tn), .int (lo + (hrG se ru c wt))])), (a_se, .inl (cI, 6, .inl se))] := hD
      have ew_8 : (ov : Int32) = hrO se ru c wt ov := by simp [hrO, hrT, bI, c_1, c_7]
      have ew_9 : ((if tn < (hrG se ru c wt) then (hrG se ru c wt) else tn) : Int32) = hrT se ru c wt tn := by simp [hrO, hrT, bI, c_1, c_7]
      have hP : va_P G vwCl [(o, .inr (1, [.ref a_se, .ref a_wa, .ref a_ho, .int (hrW se ru c wt), .int (hrO se ru c wt ov), .int (hrT se ru c wt tn), .int (lo + (hrG se ru c wt))])), (a_se, .inl (cI, 6, .inl se))] H := by rw [← ew_8, ← ew_9]; exact hP
      exact retWv () hx hb hr hlocks dX1_passHour_142 hS (trivial) hP
    · skip
      refine lv_aload_n hx hb dX1_passHour_104 rfl (lv_at hl 3 rfl) ?_
      refine lv_dup hx hb dX1_passHour_105 rfl ?_
      refine va_get (D := G) (ci := 1) (v := .int ov) (C := RX1) (T := TX1) (N := 7) hx hb hts inlX1 hown hK hP 0 rfl rfl 4 (by decide) (hts (.fieldLink RX1 25 "EarthBanks$Reservoir" "hoursOver" "I") k_5_7) (fun _ h9 => h9) rfl dX1_passHour_106 ?_
      refine lv_iconst (v := 1) hx hb dX1_passHour_109 (by decide) ?_
      refine lv_iadd hx hb dX1_passHour_110 ?_
      refine va_put (D := G) (ci := 1) (v := .int (ov + 1)) (ty := .int) (C := RX1) (T := TX1) (N := 7) hx hb hts inlX1 tyX1 tyX1_ok nmX1 hown hK hP hD hS 0 rfl rfl 4 (by decide) (hts (.fieldLink RX1 25 "EarthBanks$Reservoir" "hoursOver" "I") k_5_7) (fun _ h9 => h9) rfl (by decide +kernel) (rfl) (rfl) (Nat.le_of_ble_eq_true rfl) dX1_passHour_111 (fun H locs hP hD hS => ?_)
      have hP : va_P G vwCl [(o, .inr (1, [.ref a_se, .ref a_wa, .ref a_ho, .int (hrW se ru c wt), .int (ov + 1), .int tn, .int lo])), (a_se, .inl (cI, 6, .inl se))] H := hP
      have hD : va_D A [(o, .inr (1, [.ref a_se, .ref a_wa, .ref a_ho, .int (hrW se ru c wt), .int (ov + 1), .int tn, .int lo])), (a_se, .inl (cI, 6, .inl se))] := hD
      refine lv_aload_n hx hb dX1_passHour_114 rfl (lv_at hl 3 rfl) ?_
      refine lv_aload_n hx hb dX1_passHour_115 rfl (lv_at hl 3 rfl) ?_
      refine va_get (D := G) (ci := 1) (v := .int tn) (C := RX1) (T := TX1) (N := 7) hx hb hts inlX1 hown hK hP 0 rfl rfl 5 (by decide) (hts (.fieldLink RX1 28 "EarthBanks$Reservoir" "town" "I") k_5_8) (fun _ h9 => h9) rfl dX1_passHour_116 ?_
      refine lv_iload_n hx hb dX1_passHour_119 rfl (lv_at hl 2 rfl) ?_
      refine lv_iload hx hb dX1_passHour_120 (lv_at hl 0 rfl) ?_
      refine lv_iadd hx hb dX1_passHour_122 ?_
      refine top_eq (y := (hrG se ru c wt)) (rfl) ?_
      refine va_mmax hx hb (hml.trans hl.1.symm) hown (hts (.methodLink RX1 44 Lib.Math.max.name) k_33_19) (hts (.static Lib.Math.max.name) k_16_22) (hts (.initialized "java/lang/Math") k_9_19) (hts (.code Lib.Math.max.name Lib.Math.max.code 2 (some .int)) k_16_23) (Nat.le_of_ble_eq_true rfl) (Nat.le_of_ble_eq_true rfl) (Nat.zero_le _) (Nat.zero_le _) dX1_passHour_123 ?_
      refine va_put (D := G) (ci := 1) (v := .int (if tn < (hrG se ru c wt) then (hrG se ru c wt) else tn)) (ty := .int) (C := RX1) (T := TX1) (N := 7) hx hb hts inlX1 tyX1 tyX1_ok nmX1 hown hK hP hD hS 0 rfl rfl 5 (by decide) (hts (.fieldLink RX1 28 "EarthBanks$Reservoir" "town" "I") k_5_8) (fun _ h9 => h9) rfl (by decide +kernel) (rfl) (rfl) (Nat.le_of_ble_eq_true rfl) dX1_passHour_126 (fun H locs hP hD hS => ?_)
      have hP : va_P G vwCl [(o, .inr (1, [.ref a_se, .ref a_wa, .ref a_ho, .int (hrW se ru c wt), .int (ov + 1), .int (if tn < (hrG se ru c wt) then (hrG se ru c wt) else tn), .int lo])), (a_se, .inl (cI, 6, .inl se))] H := hP
      have hD : va_D A [(o, .inr (1, [.ref a_se, .ref a_wa, .ref a_ho, .int (hrW se ru c wt), .int (ov + 1), .int (if tn < (hrG se ru c wt) then (hrG se ru c wt) else tn), .int lo])), (a_se, .inl (cI, 6, .inl se))] := hD
      refine lv_aload_n hx hb dX1_passHour_129 rfl (lv_at hl 3 rfl) ?_
      refine lv_dup hx hb dX1_passHour_130 rfl ?_
      refine va_get (D := G) (ci := 1) (v := .int lo) (C := RX1) (T := TX1) (N := 7) hx hb hts inlX1 hown hK hP 0 rfl rfl 6 (by decide) (hts (.fieldLink RX1 31 "EarthBanks$Reservoir" "letOut" "I") k_5_9) (fun _ h9 => h9) rfl dX1_passHour_131 ?_
      refine lv_iload_n hx hb dX1_passHour_134 rfl (lv_at hl 2 rfl) ?_
      refine lv_iload hx hb dX1_passHour_135 (lv_at hl 0 rfl) ?_
      refine lv_iadd hx hb dX1_passHour_137 ?_
      refine top_eq (y := (hrG se ru c wt)) (rfl) ?_
      refine lv_iadd hx hb dX1_passHour_138 ?_
      refine va_put (D := G) (ci := 1) (v := .int (lo + (hrG se ru c wt))) (ty := .int) (C := RX1) (T := TX1) (N := 7) hx hb hts inlX1 tyX1 tyX1_ok nmX1 hown hK hP hD hS 0 rfl rfl 6 (by decide) (hts (.fieldLink RX1 31 "EarthBanks$Reservoir" "letOut" "I") k_5_9) (fun _ h9 => h9) rfl (by decide +kernel) (rfl) (rfl) (Nat.le_of_ble_eq_true rfl) dX1_passHour_139 (fun H locs hP hD hS => ?_)
      have hP : va_P G vwCl [(o, .inr (1, [.ref a_se, .ref a_wa, .ref a_ho, .int (hrW se ru c wt), .int (ov + 1), .int (if tn < (hrG se ru c wt) then (hrG se ru c wt) else tn), .int (lo + (hrG se ru c wt))])), (a_se, .inl (cI, 6, .inl se))] H := hP
      have hD : va_D A [(o, .inr (1, [.ref a_se, .ref a_wa, .ref a_ho, .int (hrW se ru c wt), .int (ov + 1), .int (if tn < (hrG se ru c wt) then (hrG se ru c wt) else tn), .int (lo + (hrG se ru c wt))])), (a_se, .inl (cI, 6, .inl se))] := hD
      have ew_10 : ((ov + 1) : Int32) = hrO se ru c wt ov := by simp [hrO, hrT, bI, c_1, c_7]
      have ew_11 : ((if tn < (hrG se ru c wt) then (hrG se ru c wt) else tn) : Int32) = hrT se ru c wt tn := by simp [hrO, hrT, bI, c_1, c_7]
      have hP : va_P G vwCl [(o, .inr (1, [.ref a_se, .ref a_wa, .ref a_ho, .int (hrW se ru c wt), .int (hrO se ru c wt ov), .int (hrT se ru c wt tn), .int (lo + (hrG se ru c wt))])), (a_se, .inl (cI, 6, .inl se))] H := by rw [← ew_10, ← ew_11]; exact hP
      exact retWv () hx hb hr hlocks dX1_passHour_142 hS (trivial) hP
theorem cal_X1_run : calV yX1_run cX1_run 4 none 2 := ⟨k_33_13, k_2_12, k_33_11, k_33_12, by decide +kernel⟩
set_option maxHeartbeats 4000000 in
set_option maxRecDepth 100000 in
theorem c_X1_run (l : Launch) (G : va_G) (E : EvT) (cI cZ : ClassId) (hN : Nat → Nat) (fl : Nat) (ru : Int32) (o : Nat) (a_se : Nat) (a_wa : Nat) (a_ho : Nat) (wt : Int32) (ov : Int32) (tn : Int32) (lo : Int32) (se : Nat → Int32) (wa : Nat → Int32) (ho : Nat → Int32) (hfl : fl < 8) (hho : ∀ j, ho j = nI (hN j)) (hle : ∀ j, hN j ≤ 12) : cWv (S := Unit) l G E yX1_run cX1_run 4 none 3 [(cI, .int), (cZ, .boolean)] [.ref o, .int (nI fl), .int ru] [(o, .inr (1, [.ref a_se, .ref a_wa, .ref a_ho, .int wt, .int ov, .int tn, .int lo])), (a_se, .inl (cI, 6, .inl se)), (a_wa, .inl (cI, 96, .inl wa)), (a_ho, .inl (cI, 8, .inl ho))] (fun _ => True) (fun _ => [(o, .inr (1, [.ref a_se, .ref a_wa, .ref a_ho, .int ((hrR se wa ru fl (hN fl)).1), .int ((hrR se wa ru fl (hN fl)).2.1), .int ((hrR se wa ru fl (hN fl)).2.2.1), .int ((hrR se wa ru fl (hN fl)).2.2.2)])), (a_se, .inl (cI, 6, .inl se)), (a_wa, .inl (cI, 96, .inl wa)), (a_ho, .inl (cI, 8, .inl ho))]) := by
  refine mkWv (by decide) (Nat.le_of_ble_eq_true rfl) ?_
  intro zp ze s zm args below meth zc hx hb hr hml hown hts hlocks hE hK A hA hlow H locs hP hD hS ls hl
  have hl : lv_has ls 4 [(0, .ref o), (1, .int (nI fl)), (2, .int ru)] := hl
  have hle1 := hle fl
  refine lv_aload_n hx hb dX1_run_0 rfl (lv_at hl 0 rfl) ?_
  refine lv_aload_n hx hb dX1_run_1 rfl (lv_at hl 0 rfl) ?_
  refine va_get (D := G) (ci := 1) (v := .ref a_se) (C := RX1) (T := TX1) (N := 7) hx hb hts inlX1 hown hK hP 0 rfl rfl 0 (by decide) (hts (.fieldLink RX1 9 "EarthBanks$Reservoir" "settings" "[I") k_5_3) (fun _ h9 => h9) rfl dX1_run_2 ?_
  refine lv_iconst (v := 5) hx hb dX1_run_5 (by decide) ?_
  refine ialdN (j := 5) hx hb hK hP 1 0 rfl rfl (by omega) (by decide) dX1_run_6 ?_
  refine va_put (D := G) (ci := 1) (v := .int (se 5)) (ty := .int) (C := RX1) (T := TX1) (N := 7) hx hb hts inlX1 tyX1 tyX1_ok nmX1 hown hK hP hD hS 0 rfl rfl 3 (by decide) (hts (.fieldLink RX1 21 "EarthBanks$Reservoir" "water" "I") k_5_6) (fun _ h9 => h9) rfl (by decide +kernel) (rfl) (rfl) (Nat.le_of_ble_eq_true rfl) dX1_run_7 (fun H locs hP hD hS => ?_)
  have hP : va_P G vwCl [(o, .inr (1, [.ref a_se, .ref a_wa, .ref a_ho, .int (se 5), .int ov, .int tn, .int lo])), (a_se, .inl (cI, 6, .inl se)), (a_wa, .inl (cI, 96, .inl wa)), (a_ho, .inl (cI, 8, .inl ho))] H := hP
  have hD : va_D A [(o, .inr (1, [.ref a_se, .ref a_wa, .ref a_ho, .int (se 5), .int ov, .int tn, .int lo])), (a_se, .inl (cI, 6, .inl se)), (a_wa, .inl (cI, 96, .inl wa)), (a_ho, .inl (cI, 8, .inl ho))] := hD
  refine lv_aload_n hx hb dX1_run_10 rfl (lv_at hl 0 rfl) ?_
  refine lv_iconst (v := 0) hx hb dX1_run_11 (by decide) ?_
  refine va_put (D := G) (ci := 1) (v := .int 0) (ty := .int) (C := RX1) (T := TX1) (N := 7) hx hb hts inlX1 tyX1 tyX1_ok nmX1 hown hK hP hD hS 0 rfl rfl 4 (by decide) (hts (.fieldLink RX1 25 "EarthBanks$Reservoir" "hoursOver" "I") k_5_7) (fun _ h9 => h9) rfl (by decide +kernel) (rfl) (rfl) (Nat.le_of_ble_eq_true rfl) dX1_run_12 (fun H locs hP hD hS => ?_)
  have hP : va_P G vwCl [(o, .inr (1, [.ref a_se, .ref a_wa, .ref a_ho, .int (se 5), .int 0, .int tn, .int lo])), (a_se, .inl (cI, 6, .inl se)), (a_wa, .inl (cI, 96, .inl wa)), (a_ho, .inl (cI, 8, .inl ho))] H := hP
  have hD : va_D A [(o, .inr (1, [.ref a_se, .ref a_wa, .ref a_ho, .int (se 5), .int 0, .int tn, .int lo])), (a_se, .inl (cI, 6, .inl se)), (a_wa, .inl (cI, 96, .inl wa)), (a_ho, .inl (cI, 8, .inl ho))] := hD
  refine lv_aload_n hx hb dX1_run_15 rfl (lv_at hl 0 rfl) ?_
  refine lv_iconst (v := 0) hx hb dX1_run_16 (by decide) ?_
  refine va_put (D := G) (ci := 1) (v := .int 0) (ty := .int) (C := RX1) (T := TX1) (N := 7) hx hb hts inlX1 tyX1 tyX1_ok nmX1 hown hK hP hD hS 0 rfl rfl 5 (by decide) (hts (.fieldLink RX1 28 "EarthBanks$Reservoir" "town" "I") k_5_8) (fun _ h9 => h9) rfl (by decide +kernel) (rfl) (rfl) (Nat.le_of_ble_eq_true rfl) dX1_run_17 (fun H locs hP hD hS => ?_)
  have hP : va_P G vwCl [(o, .inr (1, [.ref a_se, .ref a_wa, .ref a_ho, .int (se 5), .int 0, .int 0, .int lo])), (a_se, .inl (cI, 6, .inl se)), (a_wa, .inl (cI, 96, .inl wa)), (a_ho, .inl (cI, 8, .inl ho))] H := hP
  have hD : va_D A [(o, .inr (1, [.ref a_se, .ref a_wa, .ref a_ho, .int (se 5), .int 0, .int 0, .int lo])), (a_se, .inl (cI, 6, .inl se)), (a_wa, .inl (cI, 96, .inl wa)), (a_ho, .inl (cI, 8, .inl ho))] := hD
  refine lv_aload_n hx hb dX1_run_20 rfl (lv_at hl 0 rfl) ?_
  refine lv_iconst (v := 0) hx hb dX1_run_21 (by decide) ?_
  refine va_put (D := G) (ci := 1) (v := .int 0) (ty := .int) (C := RX1) (T := TX1) (N := 7) hx hb hts inlX1 tyX1 tyX1_ok nmX1 hown hK hP hD hS 0 rfl rfl 6 (by decide) (hts (.fieldLink RX1 31 "EarthBanks$Reservoir" "letOut" "I") k_5_9) (fun _ h9 => h9) rfl (by decide +kernel) (rfl) (rfl) (Nat.le_of_ble_eq_true rfl) dX1_run_22 (fun H locs hP hD hS => ?_)
  have hP : va_P G vwCl [(o, .inr (1, [.ref a_se, .ref a_wa, .ref a_ho, .int (se 5), .int 0, .int 0, .int 0])), (a_se, .inl (cI, 6, .inl se)), (a_wa, .inl (cI, 96, .inl wa)), (a_ho, .inl (cI, 8, .inl ho))] H := hP
  have hD : va_D A [(o, .inr (1, [.ref a_se, .ref a_wa, .ref a_ho, .int (se 5), .int 0, .int 0, .int 0])), (a_se, .inl (cI, 6, .inl se)), (a_wa, .inl (cI, 96, .inl wa)), (a_ho, .inl (cI, 8, .inl ho))] := hD
  refine lv_iconst (v := 0) hx hb dX1_run_25 (by decide) ?_
  refine lv_istore_n (lv' := [(3, .int 0), (0, .ref o), (1, .int (nI fl)), (2, .int ru)]) hx hb dX1_run_26 rfl hl (by decide) rfl (fun ls hl => ?_)
  suffices lp27 : ∀ zn k27 : Nat, 0 ≤ k27 → k27 ≤ (hN fl) → (hN fl) < k27 + zn → ∀ (H : Heap) (locs : List Loc), va_P G vwCl [(o, .inr (1, [.ref a_se, .ref a_wa, .ref a_ho, .int ((hrR se wa ru fl k27).1), .int ((hrR se wa ru fl k27).2.1), .int ((hrR se wa ru fl k27).2.2.1), .int ((hrR se wa ru fl k27).2.2.2)])), (a_se, .inl (cI, 6, .inl se)), (a_wa, .inl (cI, 96, .inl wa)), (a_ho, .inl (cI, 8, .inl ho))] H → va_D A [(o, .inr (1, [.ref a_se, .ref a_wa, .ref a_ho, .int ((hrR se wa ru fl k27).1), .int ((hrR se wa ru fl k27).2.1), .int ((hrR se wa ru fl k27).2.2.1), .int ((hrR se wa ru fl k27).2.2.2)])), (a_se, .inl (cI, 6, .inl se)), (a_wa, .inl (cI, 96, .inl wa)), (a_ho, .inl (cI, 8, .inl ho))] → va_S A s.heap H locs → ∀ ls : Array Slot, lv_has ls 4 [(0, .ref o), (1, .int (nI fl)), (2, .int ru), (3, .int (nI k27))] → W zp l ze (rmK 3) s zm args below meth zc H locs 0 0 (MQ below (va_Qv (S := Unit) (fun _ => True) (fun u t => va_P G vwCl ((fun _ => [(o, .inr (1, [.ref a_se, .ref a_wa, .ref a_ho, .int ((hrR se wa ru fl (hN fl)).1), .int ((hrR se wa ru fl (hN fl)).2.1), .int ((hrR se wa ru fl (hN fl)).2.2.1), .int ((hrR se wa ru fl (hN fl)).2.2.2)])), (a_se, .inl (cI, 6, .inl se)), (a_wa, .inl (cI, 96, .inl wa)), (a_ho, .inl (cI, 8, .inl ho))]) u) t.heap) A) args s 0 0 A) (F0 zm 27 ls []) by
    have el_1 : (0 : Int32) = nI 0 := rfl
    have er_2 : ((se 5) : Int32) = (hrR se wa ru fl 0).1 := rfl
    have er_3 : (0 : Int32) = (hrR se wa ru fl 0).2.1 := rfl
    have er_4 : (0 : Int32) = (hrR se wa ru fl 0).2.2.1 := rfl
    have er_5 : (0 : Int32) = (hrR se wa ru fl 0).2.2.2 := rfl
    exact lp27 ((hN fl) + 1 - 0) 0 (by omega) (by omega) (by omega)  H locs (by rw [← er_2, ← er_3, ← er_4, ← er_5]; exact hP) (by rw [← er_2, ← er_3, ← er_4, ← er_5]; exact hD) hS ls (lv_sub hl [1, 2, 3, 0] (show ([(0, .ref o), (1, .int (nI fl)), (2, .int ru), (3, .int 0)] : List (Nat × Value)) = [(0, .ref o), (1, .int (nI fl)), (2, .int ru), (3, .int (nI 0))] by rw [← el_1]))
  intro zn
  induction zn with
  | zero => exact fun k27 h1 h2 h3 => absurd h3 (by omega)
  | succ zn ih27 =>
    intro k27 hlo27 hhi27 hn27  H locs hP hD hS ls hl
    refine lv_iload_n hx hb dX1_run_27 rfl (lv_at hl 3 rfl) ?_
    refine lv_aload_n hx hb dX1_run_28 rfl (lv_at hl 0 rfl) ?_
    refine va_get (D := G) (ci := 1) (v := .ref a_ho) (C := RX1) (T := TX1) (N := 7) hx hb hts inlX1 hown hK hP 0 rfl rfl 2 (by decide) (hts (.fieldLink RX1 18 "EarthBanks$Reservoir" "hours" "[I") k_5_5) (fun _ h9 => h9) rfl dX1_run_29 ?_
    refine lv_iload_n hx hb dX1_run_32 rfl (lv_at hl 1 rfl) ?_
    refine ialdN (j := fl) hx hb hK hP 3 0 rfl rfl (by omega) (by decide) dX1_run_33 ?_
    refine top_eq (y := nI (hN fl)) (hho fl) ?_
    refine lv_icmp_ge (tgt := 59) hx hb dX1_run_34 (by decide) (fun c_6 => ?_) (fun c_6 => ?_)
    · skip
      have c_6 : (hN fl) ≤ k27 := (nI_leI (a := (hN fl)) (b := k27) (by omega) (by omega)).mp c_6
      have hk9 : (hN fl) = k27 := by omega
      subst hk9
      exact retWv () hx hb hr hlocks dX1_run_59 hS (trivial) hP
    · skip
      have c_6 : ¬ (hN fl) ≤ k27 := fun h9 => c_6 ((nI_leI (a := (hN fl)) (b := k27) (by omega) (by omega)).mpr h9)
      refine lv_aload_n hx hb dX1_run_37 rfl (lv_at hl 0 rfl) ?_
      refine lv_aload_n hx hb dX1_run_38 rfl (lv_at hl 0 rfl) ?_
      refine va_get (D := G) (ci := 1) (v := .ref a_wa) (C := RX1) (T := TX1) (N := 7) hx hb hts inlX1 hown hK hP 0 rfl rfl 1 (by decide) (hts (.fieldLink RX1 15 "EarthBanks$Reservoir" "waters" "[I") k_5_4) (fun _ h9 => h9) rfl dX1_run_39 ?_
      refine lv_iload_n hx hb dX1_run_42 rfl (lv_at hl 1 rfl) ?_
      refine lv_bipush (v := 12) hx hb dX1_run_43 (by decide) ?_
      refine lv_imul hx hb dX1_run_45 ?_
      refine top_eq (y := nI (fl * 12)) (pk_mul _ _) ?_
      refine lv_iload_n hx hb dX1_run_46 rfl (lv_at hl 3 rfl) ?_
      refine lv_iadd hx hb dX1_run_47 ?_
      refine top_eq (y := nI ((fl * 12) + k27)) (nI_add _ _) ?_
      refine ialdN (j := ((fl * 12) + k27)) hx hb hK hP 2 0 rfl rfl (by omega) (by decide) dX1_run_48 ?_
      refine lv_iload_n hx hb dX1_run_49 rfl (lv_at hl 2 rfl) ?_
      refine cWVv (As := [.int (wa ((fl * 12) + k27)), .int ru]) (rest := []) hx hb hml hown hts (c_X1_passHour l G E cI cZ (wa ((fl * 12) + k27)) ru o a_se a_wa a_ho ((hrR se wa ru fl k27).1) ((hrR se wa ru fl k27).2.1) ((hrR se wa ru fl k27).2.2.1) ((hrR se wa ru fl k27).2.2.2) se) k_33_14 cal_X1_passHour ⟨Nat.le_of_ble_eq_true rfl, Nat.le_of_ble_eq_true rfl⟩ hE hA hlow hD hS hK [0, 1] rfl hP [0, 1] rfl (by decide) [o, a_se] rfl (fun _ => rfl) [2, 3] [(a_wa, .inl (cI, 96, .inl wa)), (a_ho, .inl (cI, 8, .inl ho))] (fun _ => [(o, .inr (1, [.ref a_se, .ref a_wa, .ref a_ho, .int (hrW se ru (wa ((fl * 12) + k27)) ((hrR se wa ru fl k27).1)), .int (hrO se ru (wa ((fl * 12) + k27)) ((hrR se wa ru fl k27).1) ((hrR se wa ru fl k27).2.1)), .int (hrT se ru (wa ((fl * 12) + k27)) ((hrR se wa ru fl k27).1) ((hrR se wa ru fl k27).2.2.1)), .int (((hrR se wa ru fl k27).2.2.2) + (hrG se ru (wa ((fl * 12) + k27)) ((hrR se wa ru fl k27).1)))])), (a_se, .inl (cI, 6, .inl se)), (a_wa, .inl (cI, 96, .inl wa)), (a_ho, .inl (cI, 8, .inl ho))]) 4 rfl (fun _ => rfl) (fun _ => rfl) (fun _ => rfl) (by decide) (by decide) 0 1 rfl rfl rfl hl.1 rfl (Nat.le_of_ble_eq_true rfl) dX1_run_50 ⟨Nat.zero_le _, Nat.zero_le _⟩ (fun u H locs hr_ hP hD hS => ?_)
      have hP : va_P G vwCl [(o, .inr (1, [.ref a_se, .ref a_wa, .ref a_ho, .int (hrW se ru (wa ((fl * 12) + k27)) ((hrR se wa ru fl k27).1)), .int (hrO se ru (wa ((fl * 12) + k27)) ((hrR se wa ru fl k27).1) ((hrR se wa ru fl k27).2.1)), .int (hrT se ru (wa ((fl * 12) + k27)) ((hrR se wa ru fl k27).1) ((hrR se wa ru fl k27).2.2.1)), .int (((hrR se wa ru fl k27).2.2.2) + (hrG se ru (wa ((fl * 12) + k27)) ((hrR se wa ru fl k27).1)))])), (a_se, .inl (cI, 6, .inl se)), (a_wa, .inl (cI, 96, .inl wa)), (a_ho, .inl (cI, 8, .inl ho))] H := hP
      have hD : va_D A [(o, .inr (1, [.ref a_se, .ref a_wa, .ref a_ho, .int (hrW se ru (wa ((fl * 12) + k27)) ((hrR se wa ru fl k27).1)), .int (hrO se ru (wa ((fl * 12) + k27)) ((hrR se wa ru fl k27).1) ((hrR se wa ru fl k27).2.1)), .int (hrT se ru (wa ((fl * 12) + k27)) ((hrR se wa ru fl k27).1) ((hrR se wa ru fl k27).2.2.1)), .int (((hrR se wa ru fl k27).2.2.2) + (hrG se ru (wa ((fl * 12) + k27)) ((hrR se wa ru fl k27).1)))])), (a_se, .inl (cI, 6, .inl se)), (a_wa, .inl (cI, 96, .inl wa)), (a_ho, .inl (cI, 8, .inl ho))] := hD
      refine lv_iinc (v := nI (k27 + 1)) (lv' := [(3, .int (nI (k27 + 1))), (0, .ref o), (1, .int (nI fl)), (2, .int ru)]) hx hb dX1_run_53 hl (k := 3) rfl (nI_add _ _) (by decide) rfl (fun ls hl => ?_)
      refine lv_goto (tgt := 27) hx hb dX1_run_56 (by decide) ?_
      have er_7 : ((hrW se ru (wa ((fl * 12) + k27)) ((hrR se wa ru fl k27).1)) : Int32) = (hrR se wa ru fl (k27 + 1)).1 := rfl
      have er_8 : (hrO se ru (wa ((fl * 12) + k27)) ((hrR se wa ru fl k27).1) ((hrR se wa ru fl k27).2.1) : Int32) = (hrR se wa ru fl (k27 + 1)).2.1 := rfl
      have er_9 : (hrT se ru (wa ((fl * 12) + k27)) ((hrR se wa ru fl k27).1) ((hrR se wa ru fl k27).2.2.1) : Int32) = (hrR se wa ru fl (k27 + 1)).2.2.1 := rfl
      have er_10 : ((((hrR se wa ru fl k27).2.2.2) + (hrG se ru (wa ((fl * 12) + k27)) ((hrR se wa ru fl k27).1))) : Int32) = (hrR se wa ru fl (k27 + 1)).2.2.2 := rfl
      exact ih27 (k27 + 1) (by omega) (by omega) (by omega)  H locs (by rw [← er_7, ← er_8, ← er_9, ← er_10]; exact hP) (by rw [← er_7, ← er_8, ← er_9, ← er_10]; exact hD) hS ls (lv_sub hl [1, 2, 3, 0] rfl)
theorem cal_X1_wasSafe : calV yX1_wasSafe cX1_wasSafe 1 (some .boolean) 0 := ⟨k_33_23, k_2_12, k_33_21, k_33_22, by decide +kernel⟩
set_option maxHeartbeats 4000000 in
set_option maxRecDepth 100000 in
theorem c_X1_wasSafe (l : Launch) (G : va_G) (E : EvT) (cI cZ : ClassId) (o : Nat) (a_se : Nat) (ov : Int32) (tn : Int32) (fs_o : List Value) (h_o_ov : fs_o[4]? = some (.int ov)) (h_o_tn : fs_o[5]? = some (.int tn)) (h_o_se : fs_o[0]? = some (.ref a_se)) (se : Nat → Int32) : cR l G E yX1_wasSafe cX1_wasSafe 1 (some .boolean) 1 [(cI, .int), (cZ, .boolean)] [.ref o] [(o, .inr (1, fs_o)), (a_se, .inl (cI, 6, .inl se))] (bI (decide (ov = 0) && !decide (se 4 < tn))) := by
  refine mkR (by decide) (Nat.le_of_ble_eq_true rfl) ?_
  intro zp ze s zm args below meth zc hx hb hr hml hown hts hlocks hE hP hK ls hl
  have hS : va_S (fun _ => False) s.heap s.heap [] := va_S.rf
  have hlow : ∀ q : Nat, (fun _ : Nat => False) q → E.1 ≤ q := fun _ h => h.elim
  have hl : lv_has ls 1 [(0, .ref o)] := hl
  refine lv_aload_n hx hb dX1_wasSafe_0 rfl (lv_at hl 0 rfl) ?_
  refine va_get (D := G) (ci := 1) (v := .int ov) (C := RX1) (T := TX1) (N := 7) hx hb hts inlX1 hown hK hP 0 rfl rfl 4 (by decide) (hts (.fieldLink RX1 25 "EarthBanks$Reservoir" "hoursOver" "I") k_5_7) (fun _ h9 => h9) h_o_ov dX1_wasSafe_1 ?_
  refine lv_if_ne (tgt := 24) hx hb dX1_wasSafe_4 (by decide) (fun c_1 => ?_) (fun c_1 => ?_)
  · skip
    refine lv_iconst (v := 0) hx hb dX1_wasSafe_24 (by decide) ?_
    exact retR hx hb hr (rfl) hlocks dX1_wasSafe_25 (by simp [bI, c_1])
  · skip
    refine lv_aload_n hx hb dX1_wasSafe_7 rfl (lv_at hl 0 rfl) ?_
    refine va_get (D := G) (ci := 1) (v := .int tn) (C := RX1) (T := TX1) (N := 7) hx hb hts inlX1 hown hK hP 0 rfl rfl 5 (by decide) (hts (.fieldLink RX1 28 "EarthBanks$Reservoir" "town" "I") k_5_8) (fun _ h9 => h9) h_o_tn dX1_wasSafe_8 ?_
    refine lv_aload_n hx hb dX1_wasSafe_11 rfl (lv_at hl 0 rfl) ?_
    refine va_get (D := G) (ci := 1) (v := .ref a_se) (C := RX1) (T := TX1) (N := 7) hx hb hts inlX1 hown hK hP 0 rfl rfl 0 (by decide) (hts (.fieldLink RX1 9 "EarthBanks$Reservoir" "settings" "[I") k_5_3) (fun _ h9 => h9) h_o_se dX1_wasSafe_12 ?_
    refine lv_iconst (v := 4) hx hb dX1_wasSafe_15 (by decide) ?_
    refine ialdN (j := 4) hx hb hK hP 1 0 rfl rfl (by omega) (by decide) dX1_wasSafe_16 ?_
    refine lv_icmp_gt (tgt := 24) hx hb dX1_wasSafe_17 (by decide) (fun c_2 => ?_) (fun c_2 => ?_)
    · skip
      refine lv_iconst (v := 0) hx hb dX1_wasSafe_24 (by decide) ?_
      exact retR hx hb hr (rfl) hlocks dX1_wasSafe_25 (by simp [bI, c_1, c_2])
    · skip
      refine lv_iconst (v := 1) hx hb dX1_wasSafe_20 (by decide) ?_
      refine lv_goto (tgt := 25) hx hb dX1_wasSafe_21 (by decide) ?_
      exact retR hx hb hr (rfl) hlocks dX1_wasSafe_25 (by simp [bI, c_1, c_2])
theorem cal_X1_safeFloods : calV yX1_safeFloods cX1_safeFloods 4 (some .int) 1 := ⟨k_34_23, k_2_12, k_34_21, k_34_22, by decide +kernel⟩
set_option maxHeartbeats 4000000 in
set_option maxRecDepth 100000 in
theorem c_X1_safeFloods (l : Launch) (G : va_G) (E : EvT) (cI cZ : ClassId) (hN : Nat → Nat) (ru : Int32) (o : Nat) (a_se : Nat) (a_wa : Nat) (a_ho : Nat) (wt : Int32) (ov : Int32) (tn : Int32) (lo : Int32) (se : Nat → Int32) (wa : Nat → Int32) (ho : Nat → Int32) (hho : ∀ j, ho j = nI (hN j)) (hle : ∀ j, hN j ≤ 12) : cWi (S := Int32 × Int32 × Int32 × Int32) l G E yX1_safeFloods cX1_safeFloods 4 (some .int) 4 [(cI, .int), (cZ, .boolean)] [.ref o, .int ru] [(o, .inr (1, [.ref a_se, .ref a_wa, .ref a_ho, .int wt, .int ov, .int tn, .int lo])), (a_se, .inl (cI, 6, .inl se)), (a_wa, .inl (cI, 96, .inl wa)), (a_ho, .inl (cI, 8, .inl ho))] (fun r _ => r = cntS (sfS se wa hN ru) 8) (fun u => [(o, .inr (1, [.ref a_se, .ref a_wa, .ref a_ho, .int u.1, .int u.2.1, .int u.2.2.1, .int u.2.2.2])), (a_se, .inl (cI, 6, .inl se)), (a_wa, .inl (cI, 96, .inl wa)), (a_ho, .inl (cI, 8, .inl ho))]) := by
  refine mkWi (by decide) (Nat.le_of_ble_eq_true rfl) ?_
  intro zp ze s zm args below meth zc hx hb hr hml hown hts hlocks hE hK A hA hlow H locs hP hD hS ls hl
  have hl : lv_has ls 4 [(0, .ref o), (1, .int ru)] := hl
  refine lv_iconst (v := 0) hx hb dX1_safeFloods_0 (by decide) ?_
  refine lv_istore_n (lv' := [(2, .int 0), (0, .ref o), (1, .int ru)]) hx hb dX1_safeFloods_1 rfl hl (by decide) rfl (fun ls hl => ?_)
  refine lv_iconst (v := 0) hx hb dX1_safeFloods_2 (by decide) ?_
  refine lv_istore_n (lv' := [(3, .int 0), (2, .int 0), (0, .ref o), (1, .int ru)]) hx hb dX1_safeFloods_3 rfl hl (by decide) rfl (fun ls hl => ?_)
  suffices lp4 : ∀ zn k4 : Nat, ∀ (y1 : Int32) (y2 : Int32) (y3 : Int32) (y4 : Int32) , 0 ≤ k4 → k4 ≤ 8 → 8 < k4 + zn → ∀ (H : Heap) (locs : List Loc), va_P G vwCl [(o, .inr (1, [.ref a_se, .ref a_wa, .ref a_ho, .int y1, .int y2, .int y3, .int y4])), (a_se, .inl (cI, 6, .inl se)), (a_wa, .inl (cI, 96, .inl wa)), (a_ho, .inl (cI, 8, .inl ho))] H → va_D A [(o, .inr (1, [.ref a_se, .ref a_wa, .ref a_ho, .int y1, .int y2, .int y3, .int y4])), (a_se, .inl (cI, 6, .inl se)), (a_wa, .inl (cI, 96, .inl wa)), (a_ho, .inl (cI, 8, .inl ho))] → va_S A s.heap H locs → ∀ ls : Array Slot, lv_has ls 4 [(0, .ref o), (1, .int ru), (2, .int (cntS (sfS se wa hN ru) k4)), (3, .int (nI k4))] → W zp l ze (rmK 4) s zm args below meth zc H locs 0 0 (MQ below (va_Qi (S := Int32 × Int32 × Int32 × Int32) (fun r _ => r = cntS (sfS se wa hN ru) 8) (fun u t => va_P G vwCl ((fun u => [(o, .inr (1, [.ref a_se, .ref a_wa, .ref a_ho, .int u.1, .int u.2.1, .int u.2.2.1, .int u.2.2.2])), (a_se, .inl (cI, 6, .inl se)), (a_wa, .inl (cI, 96, .inl wa)), (a_ho, .inl (cI, 8, .inl ho))]) u) t.heap) A) args s 0 0 A) (F0 zm 4 ls []) by
    have el_1 : (0 : Int32) = cntS (sfS se wa hN ru) 0 := by simp [cntS, sfS, bI]
    have el_2 : (0 : Int32) = nI 0 := rfl
    exact lp4 (8 + 1 - 0) 0 wt ov tn lo (by omega) (by omega) (by omega)  H locs hP hD hS ls (lv_sub hl [2, 3, 1, 0] (show ([(0, .ref o), (1, .int ru), (2, .int 0), (3, .int 0)] : List (Nat × Value)) = [(0, .ref o), (1, .int ru), (2, .int (cntS (sfS se wa hN ru) 0)), (3, .int (nI 0))] by rw [← el_1, ← el_2]))
  intro zn
  induction zn with
  | zero => exact fun k4 y1 y2 y3 y4 h1 h2 h3 => absurd h3 (by omega)
  | succ zn ih4 =>
    intro k4 y1 y2 y3 y4 hlo4 hhi4 hn4  H locs hP hD hS ls hl
    refine lv_iload_n hx hb dX1_safeFloods_4 rfl (lv_at hl 3 rfl) ?_
    refine lv_bipush (v := 8) hx hb dX1_safeFloods_5 (by decide) ?_
    refine lv_icmp_ge (tgt := 32) hx hb dX1_safeFloods_7 (by decide) (fun c_3 => ?_) (fun c_3 => ?_)
    · skip
      have c_3 : 8 ≤ k4 := (nI_leI (a := 8) (b := k4) (by omega) (by omega)).mp c_3
      have hk9 : 8 = k4 := by omega
      subst hk9
      refine lv_iload_n hx hb dX1_safeFloods_32 rfl (lv_at hl 2 rfl) ?_
      exact retWi (y1, y2, y3, y4) hx hb hr (rfl) hlocks dX1_safeFloods_33 hS (rfl) hP
    · skip
      have c_3 : ¬ 8 ≤ k4 := fun h9 => c_3 ((nI_leI (a := 8) (b := k4) (by omega) (by omega)).mpr h9)
      refine lv_aload_n hx hb dX1_safeFloods_10 rfl (lv_at hl 0 rfl) ?_
      refine lv_iload_n hx hb dX1_safeFloods_11 rfl (lv_at hl 3 rfl) ?_
      refine lv_iload_n hx hb dX1_safeFloods_12 rfl (lv_at hl 1 rfl) ?_
      refine cWVv (As := [.int (nI k4), .int ru]) (rest := []) hx hb hml hown hts (c_X1_run l G E cI cZ hN k4 ru o a_se a_wa a_ho y1 y2 y3 y4 se wa ho (by first | assumption | omega | simp [cntS, sfS, bI, c_3]) (hho) (hle)) k_35_0 cal_X1_run ⟨Nat.le_of_ble_eq_true rfl, Nat.le_of_ble_eq_true rfl⟩ hE hA hlow hD hS hK [0, 1] rfl hP [0, 1, 2, 3] rfl (by decide) [o, a_se, a_wa, a_ho] rfl (fun _ => rfl) [] [] (fun _ => [(o, .inr (1, [.ref a_se, .ref a_wa, .ref a_ho, .int ((hrR se wa ru k4 (hN k4)).1), .int ((hrR se wa ru k4 (hN k4)).2.1), .int ((hrR se wa ru k4 (hN k4)).2.2.1), .int ((hrR se wa ru k4 (hN k4)).2.2.2)])), (a_se, .inl (cI, 6, .inl se)), (a_wa, .inl (cI, 96, .inl wa)), (a_ho, .inl (cI, 8, .inl ho))]) 4 rfl (fun _ => rfl) (fun _ => rfl) (fun _ => rfl) (by decide) (by decide) 0 1 rfl rfl rfl hl.1 rfl (Nat.le_of_ble_eq_true rfl) dX1_safeFloods_13 ⟨Nat.zero_le _, Nat.zero_le _⟩ (fun u H locs hr_ hP hD hS => ?_)
      have hP : va_P G vwCl [(o, .inr (1, [.ref a_se, .ref a_wa, .ref a_ho, .int ((hrR se wa ru k4 (hN k4)).1), .int ((hrR se wa ru k4 (hN k4)).2.1), .int ((hrR se wa ru k4 (hN k4)).2.2.1), .int ((hrR se wa ru k4 (hN k4)).2.2.2)])), (a_se, .inl (cI, 6, .inl se)), (a_wa, .inl (cI, 96, .inl wa)), (a_ho, .inl (cI, 8, .inl ho))] H := hP
      have hD : va_D A [(o, .inr (1, [.ref a_se, .ref a_wa, .ref a_ho, .int ((hrR se wa ru k4 (hN k4)).1), .int ((hrR se wa ru k4 (hN k4)).2.1), .int ((hrR se wa ru k4 (hN k4)).2.2.1), .int ((hrR se wa ru k4 (hN k4)).2.2.2)])), (a_se, .inl (cI, 6, .inl se)), (a_wa, .inl (cI, 96, .inl wa)), (a_ho, .inl (cI, 8, .inl ho))] := hD
      refine lv_aload_n hx hb dX1_safeFloods_16 rfl (lv_at hl 0 rfl) ?_
      refine cRV (As := []) (rest := []) hx hb hml hown hts (c_X1_wasSafe l G E cI cZ o a_se ((hrR se wa ru k4 (hN k4)).2.1) ((hrR se wa ru k4 (hN k4)).2.2.1) [.ref a_se, .ref a_wa, .ref a_ho, .int ((hrR se wa ru k4 (hN k4)).1), .int ((hrR se wa ru k4 (hN k4)).2.1), .int ((hrR se wa ru k4 (hN k4)).2.2.1), .int ((hrR se wa ru k4 (hN k4)).2.2.2)] rfl rfl rfl se) k_35_1 cal_X1_wasSafe ⟨Nat.le_of_ble_eq_true rfl, Nat.le_of_ble_eq_true rfl⟩ hE hlow hS hK [0, 1] rfl hP [0, 1] rfl 0 1 rfl rfl rfl hl.1 rfl (Nat.le_of_ble_eq_true rfl) dX1_safeFloods_17 ⟨Nat.zero_le _, Nat.zero_le _⟩ ?_
      refine lv_if_eq (tgt := 26) hx hb dX1_safeFloods_20 (by decide) (fun c_4 => ?_) (fun c_4 => ?_)
      · skip
        have c_4 : (decide (((hrR se wa ru k4 (hN k4)).2.1) = 0) && !decide (se 4 < ((hrR se wa ru k4 (hN k4)).2.2.1))) = false := bI_f c_4
        refine lv_iinc (v := nI (k4 + 1)) (lv' := [(3, .int (nI (k4 + 1))), (0, .ref o), (1, .int ru), (2, .int (cntS (sfS se wa hN ru) k4))]) hx hb dX1_safeFloods_26 hl (k := 3) rfl (nI_add _ _) (by decide) rfl (fun ls hl => ?_)
        refine lv_goto (tgt := 4) hx hb dX1_safeFloods_29 (by decide) ?_
        have el_5 : (cntS (sfS se wa hN ru) k4 : Int32) = cntS (sfS se wa hN ru) (k4 + 1) := by simp [cntS, sfS, bI, c_3, c_4]
        have er_6 : ((hrR se wa ru k4 (hN k4)).1 : Int32) = ((hrR se wa ru k4 (hN k4)).1) := by simp [cntS, sfS, bI, c_3, c_4]
        have er_7 : ((hrR se wa ru k4 (hN k4)).2.1 : Int32) = ((hrR se wa ru k4 (hN k4)).2.1) := by simp [cntS, sfS, bI, c_3, c_4]
        have er_8 : ((hrR se wa ru k4 (hN k4)).2.2.1 : Int32) = ((hrR se wa ru k4 (hN k4)).2.2.1) := by simp [cntS, sfS, bI, c_3, c_4]
        have er_9 : ((hrR se wa ru k4 (hN k4)).2.2.2 : Int32) = ((hrR se wa ru k4 (hN k4)).2.2.2) := by simp [cntS, sfS, bI, c_3, c_4]
        exact ih4 (k4 + 1) ((hrR se wa ru k4 (hN k4)).1) ((hrR se wa ru k4 (hN k4)).2.1) ((hrR se wa ru k4 (hN k4)).2.2.1) ((hrR se wa ru k4 (hN k4)).2.2.2) (by omega) (by omega) (by omega)  H locs (by rw [← er_6, ← er_7, ← er_8, ← er_9]; exact hP) (by rw [← er_6, ← er_7, ← er_8, ← er_9]; exact hD) hS ls (lv_sub hl [1, 2, 3, 0] (show ([(0, .ref o), (1, .int ru), (2, .int (cntS (sfS se wa hN ru) k4)), (3, .int (nI (k4 + 1)))] : List (Nat × Value)) = [(0, .ref o), (1, .int ru), (2, .int (cntS (sfS se wa hN ru) (k4 + 1))), (3, .int (nI (k4 + 1)))] by rw [← el_5]))
      · skip
        have c_4 : (decide (((hrR se wa ru k4 (hN k4)).2.1) = 0) && !decide (se 4 < ((hrR se wa ru k4 (hN k4)).2.2.1))) = true := bI_t c_4
        refine lv_iinc (v := (cntS (sfS se wa hN ru) k4 + 1)) (lv' := [(2, .int (cntS (sfS se wa hN ru) k4 + 1)), (0, .ref o), (1, .int ru), (3, .int (nI k4))]) hx hb dX1_safeFloods_23 hl (k := 2) rfl (rfl) (by decide) rfl (fun ls hl => ?_)
        refine lv_iinc (v := nI (k4 + 1)) (lv' := [(3, .int (nI (k4 + 1))), (2, .int (cntS (sfS se wa hN ru) k4 + 1)), (0, .ref o), (1, .int ru)]) hx hb dX1_safeFloods_26 hl (k := 3) rfl (nI_add _ _) (by decide) rfl (fun ls hl => ?_)
        refine lv_goto (tgt := 4) hx hb dX1_safeFloods_29 (by decide) ?_
        have el_10 : ((cntS (sfS se wa hN ru) k4 + 1) : Int32) = cntS (sfS se wa hN ru) (k4 + 1) := by simp [cntS, sfS, bI, c_3, c_4]
        have er_11 : ((hrR se wa ru k4 (hN k4)).1 : Int32) = ((hrR se wa ru k4 (hN k4)).1) := by simp [cntS, sfS, bI, c_3, c_4]
        have er_12 : ((hrR se wa ru k4 (hN k4)).2.1 : Int32) = ((hrR se wa ru k4 (hN k4)).2.1) := by simp [cntS, sfS, bI, c_3, c_4]
        have er_13 : ((hrR se wa ru k4 (hN k4)).2.2.1 : Int32) = ((hrR se wa ru k4 (hN k4)).2.2.1) := by simp [cntS, sfS, bI, c_3, c_4]
        have er_14 : ((hrR se wa ru k4 (hN k4)).2.2.2 : Int32) = ((hrR se wa ru k4 (hN k4)).2.2.2) := by simp [cntS, sfS, bI, c_3, c_4]
        exact ih4 (k4 + 1) ((hrR se wa ru k4 (hN k4)).1) ((hrR se wa ru k4 (hN k4)).2.1) ((hrR se wa ru k4 (hN k4)).2.2.1) ((hrR se wa ru k4 (hN k4)).2.2.2) (by omega) (by omega) (by omega)  H locs (by rw [← er_11, ← er_12, ← er_13, ← er_14]; exact hP) (by rw [← er_11, ← er_12, ← er_13, ← er_14]; exact hD) hS ls (lv_sub hl [2, 3, 1, 0] (show ([(0, .ref o), (1, .int ru), (2, .int (cntS (sfS se wa hN ru) k4 + 1)), (3, .int (nI (k4 + 1)))] : List (Nat × Value)) = [(0, .ref o), (1, .int ru), (2, .int (cntS (sfS se wa hN ru) (k4 + 1))), (3, .int (nI (k4 + 1)))] by rw [← el_10]))
