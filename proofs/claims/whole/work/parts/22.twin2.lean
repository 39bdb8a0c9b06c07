theorem i_nlt {x y : Int32} (h : y ≤ x) : ¬ x < y := by
  rw [Int32.le_iff_toInt_le] at h
  rw [Int32.lt_iff_toInt_lt]
  omega
theorem i_lt {x y : Int32} (h : ¬ y ≤ x) : x < y := by
  rw [Int32.le_iff_toInt_le] at h
  rw [Int32.lt_iff_toInt_lt]
  omega
theorem isE_na {zo go : Nat → Int32} {p : Nat} (h : isES zo go p = true) : isAirS zo p = false := by
  simp only [isES, Bool.and_eq_true, Bool.not_eq_true'] at h
  exact h.1
theorem allM_na {zo go le : Nat → Int32} {la : Int32} {h : Nat → Int32} {k : Nat} (hh : ¬ allM zo go le la h k ≤ 0) : isAirS zo k = false := by
  cases hb : isES zo go k with
  | true => exact isE_na hb
  | false => exact absurd (by simp [allM, hb]) hh
theorem ms_swap_h {zo he he2 go le hd gn : Nat → Int32} {la : Int32} (h : ∀ c, c < 48 → he c = he2 c) : ∀ k, k < 163 → ms zo he go le hd gn la k = ms zo he2 go le hd gn la k := by
  intro k _
  simp only [ms]
  by_cases a : k < 48
  · rw [if_pos a, if_pos a]
  by_cases b : k < 96
  · rw [if_neg a, if_pos b, if_neg a, if_pos b, h (k - 48) (by omega)]
  rw [if_neg a, if_neg b, if_neg a, if_neg b]
theorem ms_swap_g {zo he go go2 le hd gn : Nat → Int32} {la : Int32} (h : ∀ c, c < 48 → go c = go2 c) : ∀ k, k < 163 → ms zo he go le hd gn la k = ms zo he go2 le hd gn la k := by
  intro k _
  simp only [ms]
  by_cases a : k < 48
  · rw [if_pos a, if_pos a]
  by_cases b : k < 96
  · rw [if_neg a, if_pos b, if_neg a, if_pos b]
  by_cases d : k < 144
  · rw [if_neg a, if_neg b, if_pos d, if_neg a, if_neg b, if_pos d, h (k - 96) (by omega)]
  rw [if_neg a, if_neg b, if_neg d, if_neg a, if_neg b, if_neg d]
theorem cal_X7_flowing : calV yX7_flowing cX7_flowing 6 (some .int) 2 := ⟨k_22_19, k_1_5, k_22_17, k_22_18, by decide +kernel⟩
set_option maxHeartbeats 4000000 in
set_option maxRecDepth 100000 in
theorem c_X7_flowing (l : Launch) (G : va_G) (E : EvT) (cI cZ : ClassId) (zo : Nat → Int32) (he : Nat → Int32) (go : Nat → Int32) (le : Nat → Int32) (hd : Nat → Int32) (gn : Nat → Int32) (la : Int32) (c : Nat) (qh : Bool) (o : Nat) (a_S : Nat) (fs_o : List Value) (h_o_S : fs_o[2]? = some (.ref a_S)) (hc : c < 48) (hna : isAirS zo c = false) : cR l G E yX7_flowing cX7_flowing 6 (some .int) 4 [(cI, .int), (cZ, .boolean)] [.ref o, .int (nI c), .int (bI qh)] [(o, .inr (7, fs_o)), (a_S, .inl (cI, 163, .inl (ms zo he go le hd gn la)))] (sumS (flM zo he go le c qh) 4) := by
  refine mkR (by decide) (Nat.le_of_ble_eq_true rfl) ?_
  intro zp ze s zm args below meth zc hx hb hr hml hown hts hlocks hE hP hK ls hl
  have hS : va_S (fun _ => False) s.heap s.heap [] := va_S.rf
  have hlow : ∀ q : Nat, (fun _ : Nat => False) q → E.1 ≤ q := fun _ h => h.elim
  have hl : lv_has ls 6 [(0, .ref o), (1, .int (nI c)), (2, .int (bI qh))] := hl
  refine lv_iconst (v := 0) hx hb dX7_flowing_0 (by decide) ?_
  refine lv_istore_n (lv' := [(3, .int 0), (0, .ref o), (1, .int (nI c)), (2, .int (bI qh))]) hx hb dX7_flowing_1 rfl hl (by decide) rfl (fun ls hl => ?_)
  refine lv_iconst (v := 0) hx hb dX7_flowing_2 (by decide) ?_
  refine lv_istore (lv' := [(4, .int 0), (3, .int 0), (0, .ref o), (1, .int (nI c)), (2, .int (bI qh))]) hx hb dX7_flowing_3 hl (by decide) rfl (fun ls hl => ?_)
  suffices lp5 : ∀ zn k5 : Nat, 0 ≤ k5 → k5 ≤ 4 → 4 < k5 + zn → ∀ ls : Array Slot, lv_has ls 6 [(0, .ref o), (1, .int (nI c)), (2, .int (bI qh)), (3, .int (sumS (flM zo he go le c qh) k5)), (4, .int (nI k5))] → W zp l ze (rmK 4) s zm args below meth zc s.heap [] 0 0 (MQ below (vp_Si (fun zx => zx = sumS (flM zo he go le c qh) 4)) args s 0 0 (fun _ => False)) (F0 zm 5 ls []) by
    have el_1 : (0 : Int32) = sumS (flM zo he go le c qh) 0 := rfl
    have el_2 : (0 : Int32) = nI 0 := rfl
    exact lp5 (4 + 1 - 0) 0 (by omega) (by omega) (by omega)  ls (lv_sub hl [2, 3, 4, 1, 0] (show ([(0, .ref o), (1, .int (nI c)), (2, .int (bI qh)), (3, .int 0), (4, .int 0)] : List (Nat × Value)) = [(0, .ref o), (1, .int (nI c)), (2, .int (bI qh)), (3, .int (sumS (flM zo he go le c qh) 0)), (4, .int (nI 0))] by rw [← el_1, ← el_2]))
  intro zn
  induction zn with
  | zero => exact fun k5 h1 h2 h3 => absurd h3 (by omega)
  | succ zn ih5 =>
    intro k5 hlo5 hhi5 hn5  ls hl
    refine lv_iload hx hb dX7_flowing_5 (lv_at hl 4 rfl) ?_
    refine lv_iconst (v := 4) hx hb dX7_flowing_7 (by decide) ?_
    refine lv_icmp_ge (tgt := 70) hx hb dX7_flowing_8 (by decide) (fun c_3 => ?_) (fun c_3 => ?_)
    · skip
      have c_3 : 4 ≤ k5 := (nI_leI (a := 4) (b := k5) (by omega) (by omega)).mp c_3
      have hk9 : 4 = k5 := by omega
      subst hk9
      refine lv_iload_n hx hb dX7_flowing_70 rfl (lv_at hl 3 rfl) ?_
      exact retR hx hb hr (rfl) hlocks dX7_flowing_71 (rfl)
    · skip
      have c_3 : ¬ 4 ≤ k5 := fun h9 => c_3 ((nI_leI (a := 4) (b := k5) (by omega) (by omega)).mpr h9)
      refine lv_iload_n hx hb dX7_flowing_11 rfl (lv_at hl 1 rfl) ?_
      refine lv_iload hx hb dX7_flowing_12 (lv_at hl 4 rfl) ?_
      refine cRS (As := [.int (nI c), .int (nI k5)]) (rest := []) hx hb hml hown hts (c_X7_beside l G E cI cZ c k5 (hc) (by first | assumption | omega | simp [bI, c_3])) k_22_20 cal_X7_beside ⟨Nat.le_of_ble_eq_true rfl, Nat.le_of_ble_eq_true rfl⟩ hE hlow hS hK [0, 1] rfl hP [] rfl rfl hl.1 rfl (Nat.le_of_ble_eq_true rfl) dX7_flowing_14 ⟨Nat.zero_le _, Nat.zero_le _⟩ ?_
      rcases nb_cases (p := c) (d := (pd k5)) (by omega) with ⟨hn_4, e_7⟩ | ⟨q_5, hq_6, hn_4, e_7⟩
      · skip
        refine top_eq (y := (-9)) (e_7) ?_
        refine lv_istore (lv' := [(5, .int (-9)), (0, .ref o), (1, .int (nI c)), (2, .int (bI qh)), (3, .int (sumS (flM zo he go le c qh) k5)), (4, .int (nI k5))]) hx hb dX7_flowing_17 hl (by decide) rfl (fun ls hl => ?_)
        refine lv_iload hx hb dX7_flowing_19 (lv_at hl 0 rfl) ?_
        refine lv_bipush (v := (-9)) hx hb dX7_flowing_21 (by decide) ?_
        refine lv_icmp_eq (tgt := 64) hx hb dX7_flowing_23 (by decide) (fun c_8 => ?_) (fun c_8 => ?_)
        · skip
          refine lv_iinc (v := nI (k5 + 1)) (lv' := [(4, .int (nI (k5 + 1))), (5, .int (-9)), (0, .ref o), (1, .int (nI c)), (2, .int (bI qh)), (3, .int (sumS (flM zo he go le c qh) k5))]) hx hb dX7_flowing_64 hl (k := 5) rfl (nI_add _ _) (by decide) rfl (fun ls hl => ?_)
          refine lv_goto (tgt := 5) hx hb dX7_flowing_67 (by decide) ?_
          have el_9 : (sumS (flM zo he go le c qh) k5 : Int32) = sumS (flM zo he go le c qh) (k5 + 1) := by simp [sumS, flM, c_3, hn_4, eq_true c_8]
          exact ih5 (k5 + 1) (by omega) (by omega) (by omega)  ls (lv_sub hl [2, 3, 4, 5, 0] (show ([(0, .ref o), (1, .int (nI c)), (2, .int (bI qh)), (3, .int (sumS (flM zo he go le c qh) k5)), (4, .int (nI (k5 + 1)))] : List (Nat × Value)) = [(0, .ref o), (1, .int (nI c)), (2, .int (bI qh)), (3, .int (sumS (flM zo he go le c qh) (k5 + 1))), (4, .int (nI (k5 + 1)))] by rw [← el_9]))
        · skip
          exact absurd rfl c_8
      · skip
        refine top_eq (y := nI q_5) (e_7) ?_
        refine lv_istore (lv' := [(5, .int (nI q_5)), (0, .ref o), (1, .int (nI c)), (2, .int (bI qh)), (3, .int (sumS (flM zo he go le c qh) k5)), (4, .int (nI k5))]) hx hb dX7_flowing_17 hl (by decide) rfl (fun ls hl => ?_)
        refine lv_iload hx hb dX7_flowing_19 (lv_at hl 0 rfl) ?_
        refine lv_bipush (v := (-9)) hx hb dX7_flowing_21 (by decide) ?_
        refine lv_icmp_eq (tgt := 64) hx hb dX7_flowing_23 (by decide) (fun c_10 => ?_) (fun c_10 => ?_)
        · skip
          exact absurd c_10 (nI_ne9 (by omega))
        · skip
          refine lv_aload_n hx hb dX7_flowing_26 rfl (lv_at hl 1 rfl) ?_
          refine lv_iload hx hb dX7_flowing_27 (lv_at hl 0 rfl) ?_
          refine cRV (As := [.int (nI q_5)]) (rest := []) hx hb hml hown hts (c_X7_isEarth l G E cI cZ zo he go le hd gn la q_5 o a_S fs_o h_o_S (by first | assumption | omega | simp [bI, c_3, hn_4, c_10])) k_16_1 cal_X7_isEarth ⟨Nat.le_of_ble_eq_true rfl, Nat.le_of_ble_eq_true rfl⟩ hE hlow hS hK [0, 1] rfl hP [0, 1] rfl 0 7 rfl rfl rfl hl.1 rfl (Nat.le_of_ble_eq_true rfl) dX7_flowing_29 ⟨Nat.zero_le _, Nat.zero_le _⟩ ?_
          refine lv_if_eq (tgt := 64) hx hb dX7_flowing_32 (by decide) (fun c_11 => ?_) (fun c_11 => ?_)
          · skip
            have c_11 : (isES zo go q_5) = false := bI_f c_11
            refine lv_iinc (v := nI (k5 + 1)) (lv' := [(4, .int (nI (k5 + 1))), (5, .int (nI q_5)), (0, .ref o), (1, .int (nI c)), (2, .int (bI qh)), (3, .int (sumS (flM zo he go le c qh) k5))]) hx hb dX7_flowing_64 hl (k := 5) rfl (nI_add _ _) (by decide) rfl (fun ls hl => ?_)
            refine lv_goto (tgt := 5) hx hb dX7_flowing_67 (by decide) ?_
            have el_12 : (sumS (flM zo he go le c qh) k5 : Int32) = sumS (flM zo he go le c qh) (k5 + 1) := by simp [sumS, flM, c_3, hn_4, c_10, c_11]
            exact ih5 (k5 + 1) (by omega) (by omega) (by omega)  ls (lv_sub hl [2, 3, 4, 5, 0] (show ([(0, .ref o), (1, .int (nI c)), (2, .int (bI qh)), (3, .int (sumS (flM zo he go le c qh) k5)), (4, .int (nI (k5 + 1)))] : List (Nat × Value)) = [(0, .ref o), (1, .int (nI c)), (2, .int (bI qh)), (3, .int (sumS (flM zo he go le c qh) (k5 + 1))), (4, .int (nI (k5 + 1)))] by rw [← el_12]))
          · skip
            have c_11 : (isES zo go q_5) = true := bI_t c_11
            refine lv_iload_n hx hb dX7_flowing_35 rfl (lv_at hl 4 rfl) ?_
            refine lv_aload_n hx hb dX7_flowing_36 rfl (lv_at hl 1 rfl) ?_
            refine lv_iload_n hx hb dX7_flowing_37 rfl (lv_at hl 2 rfl) ?_
            refine lv_iload hx hb dX7_flowing_38 (lv_at hl 0 rfl) ?_
            refine cRV (As := [.int (nI c), .int (nI q_5)]) (rest := [.int (sumS (flM zo he go le c qh) k5)]) hx hb hml hown hts (c_X7_lesser l G E cI cZ zo he go le hd gn la c q_5 o a_S fs_o h_o_S (hc) (by first | assumption | omega | simp [bI, c_3, hn_4, c_10, c_11]) (hna) (isE_na c_11)) k_22_23 cal_X7_lesser ⟨Nat.le_of_ble_eq_true rfl, Nat.le_of_ble_eq_true rfl⟩ hE hlow hS hK [0, 1] rfl hP [0, 1] rfl 0 7 rfl rfl rfl hl.1 rfl (Nat.le_of_ble_eq_true rfl) dX7_flowing_40 ⟨Nat.zero_le _, Nat.zero_le _⟩ ?_
            refine lv_iload_n hx hb dX7_flowing_43 rfl (lv_at hl 3 rfl) ?_
            refine lv_if_eq (tgt := 60) hx hb dX7_flowing_44 (by decide) (fun c_13 => ?_) (fun c_13 => ?_)
            · skip
              have c_13 : qh = false := bI_f c_13
              refine lv_iconst (v := 1) hx hb dX7_flowing_60 (by decide) ?_
              refine lv_imul hx hb dX7_flowing_61 ?_
              refine lv_iadd hx hb dX7_flowing_62 ?_
              refine lv_istore_n (lv' := [(3, .int ((sumS (flM zo he go le c qh) k5) + ((lesM (atZ zo le c) (atZ zo le q_5)) * 1))), (5, .int (nI q_5)), (0, .ref o), (1, .int (nI c)), (2, .int (bI qh)), (4, .int (nI k5))]) hx hb dX7_flowing_63 rfl hl (by decide) rfl (fun ls hl => ?_)
              refine lv_iinc (v := nI (k5 + 1)) (lv' := [(4, .int (nI (k5 + 1))), (3, .int ((sumS (flM zo he go le c qh) k5) + ((lesM (atZ zo le c) (atZ zo le q_5)) * 1))), (5, .int (nI q_5)), (0, .ref o), (1, .int (nI c)), (2, .int (bI qh))]) hx hb dX7_flowing_64 hl (k := 5) rfl (nI_add _ _) (by decide) rfl (fun ls hl => ?_)
              refine lv_goto (tgt := 5) hx hb dX7_flowing_67 (by decide) ?_
              have el_14 : (((sumS (flM zo he go le c qh) k5) + ((lesM (atZ zo le c) (atZ zo le q_5)) * 1)) : Int32) = sumS (flM zo he go le c qh) (k5 + 1) := by simp [sumS, flM, c_3, hn_4, c_10, c_11, c_13]
              exact ih5 (k5 + 1) (by omega) (by omega) (by omega)  ls (lv_sub hl [3, 4, 5, 1, 0] (show ([(0, .ref o), (1, .int (nI c)), (2, .int (bI qh)), (3, .int ((sumS (flM zo he go le c qh) k5) + ((lesM (atZ zo le c) (atZ zo le q_5)) * 1))), (4, .int (nI (k5 + 1)))] : List (Nat × Value)) = [(0, .ref o), (1, .int (nI c)), (2, .int (bI qh)), (3, .int (sumS (flM zo he go le c qh) (k5 + 1))), (4, .int (nI (k5 + 1)))] by rw [← el_14]))
            · skip
              have c_13 : qh = true := bI_t c_13
              refine lv_aload_n hx hb dX7_flowing_47 rfl (lv_at hl 1 rfl) ?_
              refine va_get (D := G) (ci := 7) (v := .ref a_S) (C := RX7) (T := TX7) (N := 38) hx hb hts inlX7 hown hK hP 0 rfl rfl 2 (by decide) (hts (.fieldLink RX7 7 "EarthBanksModel" "s" "[I") k_6_2) (fun _ h9 => h9) h_o_S dX7_flowing_48 ?_
              refine lv_bipush (v := 48) hx hb dX7_flowing_51 (by decide) ?_
              refine lv_iload hx hb dX7_flowing_53 (lv_at hl 0 rfl) ?_
              refine lv_iadd hx hb dX7_flowing_55 ?_
              refine top_eq (y := nI (48 + q_5)) (nI_add _ _) ?_
              refine ialdN (j := (48 + q_5)) hx hb hK hP 1 0 rfl rfl (by omega) (by decide) dX7_flowing_56 ?_
              refine top_eq (y := (he q_5)) (ms_h (c := q_5) (by omega) (by omega)) ?_
              refine lv_goto (tgt := 61) hx hb dX7_flowing_57 (by decide) ?_
              refine lv_imul hx hb dX7_flowing_61 ?_
              refine lv_iadd hx hb dX7_flowing_62 ?_
              refine lv_istore_n (lv' := [(3, .int ((sumS (flM zo he go le c qh) k5) + ((lesM (atZ zo le c) (atZ zo le q_5)) * (he q_5)))), (5, .int (nI q_5)), (0, .ref o), (1, .int (nI c)), (2, .int (bI qh)), (4, .int (nI k5))]) hx hb dX7_flowing_63 rfl hl (by decide) rfl (fun ls hl => ?_)
              refine lv_iinc (v := nI (k5 + 1)) (lv' := [(4, .int (nI (k5 + 1))), (3, .int ((sumS (flM zo he go le c qh) k5) + ((lesM (atZ zo le c) (atZ zo le q_5)) * (he q_5)))), (5, .int (nI q_5)), (0, .ref o), (1, .int (nI c)), (2, .int (bI qh))]) hx hb dX7_flowing_64 hl (k := 5) rfl (nI_add _ _) (by decide) rfl (fun ls hl => ?_)
              refine lv_goto (tgt := 5) hx hb dX7_flowing_67 (by decide) ?_
              have el_15 : (((sumS (flM zo he go le c qh) k5) + ((lesM (atZ zo le c) (atZ zo le q_5)) * (he q_5))) : Int32) = sumS (flM zo he go le c qh) (k5 + 1) := by simp [sumS, flM, c_3, hn_4, c_10, c_11, c_13]
              exact ih5 (k5 + 1) (by omega) (by omega) (by omega)  ls (lv_sub hl [3, 4, 5, 1, 0] (show ([(0, .ref o), (1, .int (nI c)), (2, .int (bI qh)), (3, .int ((sumS (flM zo he go le c qh) k5) + ((lesM (atZ zo le c) (atZ zo le q_5)) * (he q_5)))), (4, .int (nI (k5 + 1)))] : List (Nat × Value)) = [(0, .ref o), (1, .int (nI c)), (2, .int (bI qh)), (3, .int (sumS (flM zo he go le c qh) (k5 + 1))), (4, .int (nI (k5 + 1)))] by rw [← el_15]))
theorem cal_X7_sweeps : calV yX7_sweeps cX7_sweeps 4 none 0 := ⟨k_22_15, k_1_5, k_22_13, k_22_14, by decide +kernel⟩
set_option maxHeartbeats 4000000 in
set_option maxRecDepth 100000 in
theorem c_X7_sweeps (l : Launch) (G : va_G) (E : EvT) (cI cZ : ClassId) (zo : Nat → Int32) (he : Nat → Int32) (go : Nat → Int32) (le : Nat → Int32) (hd : Nat → Int32) (gn : Nat → Int32) (la : Int32) (o : Nat) (a_S : Nat) (fs_o : List Value) (h_o_S : fs_o[2]? = some (.ref a_S)) : cWv (S := Unit) l G E yX7_sweeps cX7_sweeps 4 none 5 [(cI, .int), (cZ, .boolean)] [.ref o] [(o, .inr (7, fs_o)), (a_S, .inl (cI, 163, .inl (ms zo he go le hd gn la)))] (fun _ => True) (fun _ => [(o, .inr (7, fs_o)), (a_S, .inl (cI, 163, .inl (ms zo (swM zo go le la he) go le hd gn la)))]) := by
  refine mkWv (by decide) (Nat.le_of_ble_eq_true rfl) ?_
  intro zp ze s zm args below meth zc hx hb hr hml hown hts hlocks hE hK A hA hlow H locs hP hD hS ls hl
  have hl : lv_has ls 4 [(0, .ref o)] := hl
  refine lv_iconst (v := 0) hx hb dX7_sweeps_0 (by decide) ?_
  refine lv_istore_n (lv' := [(1, .int 0), (0, .ref o)]) hx hb dX7_sweeps_1 rfl hl (by decide) rfl (fun ls hl => ?_)
  suffices lp2 : ∀ zn k2 : Nat, 0 ≤ k2 → k2 ≤ 48 → 48 < k2 + zn → ∀ (H : Heap) (locs : List Loc), va_P G vwCl [(o, .inr (7, fs_o)), (a_S, .inl (cI, 163, .inl (ms zo (feM zo go la he k2) go le hd gn la)))] H → va_D A [(o, .inr (7, fs_o)), (a_S, .inl (cI, 163, .inl (ms zo (feM zo go la he k2) go le hd gn la)))] → va_S A s.heap H locs → ∀ ls : Array Slot, lv_has ls 4 [(0, .ref o), (1, .int (nI k2))] → W zp l ze (rmK 5) s zm args below meth zc H locs 0 0 (MQ below (va_Qv (S := Unit) (fun _ => True) (fun u t => va_P G vwCl ((fun _ => [(o, .inr (7, fs_o)), (a_S, .inl (cI, 163, .inl (ms zo (swM zo go le la he) go le hd gn la)))]) u) t.heap) A) args s 0 0 A) (F0 zm 2 ls []) by
    have el_1 : (0 : Int32) = nI 0 := rfl
    have er_2 : (ms zo he go le hd gn la) = (ms zo (feM zo go la he 0) go le hd gn la) := rfl
    exact lp2 (48 + 1 - 0) 0 (by omega) (by omega) (by omega)  H locs (by rw [← er_2]; exact hP) (by rw [← er_2]; exact hD) hS ls (lv_sub hl [1, 0] (show ([(0, .ref o), (1, .int 0)] : List (Nat × Value)) = [(0, .ref o), (1, .int (nI 0))] by rw [← el_1]))
  intro zn
  induction zn with
  | zero => exact fun k2 h1 h2 h3 => absurd h3 (by omega)
  | succ zn ih2 =>
    intro k2 hlo2 hhi2 hn2  H locs hP hD hS ls hl
    refine lv_iload_n hx hb dX7_sweeps_2 rfl (lv_at hl 1 rfl) ?_
    refine lv_bipush (v := 48) hx hb dX7_sweeps_3 (by decide) ?_
    refine lv_icmp_ge (tgt := 65) hx hb dX7_sweeps_5 (by decide) (fun c_3 => ?_) (fun c_3 => ?_)
    · skip
      have c_3 : 48 ≤ k2 := (nI_leI (a := 48) (b := k2) (by omega) (by omega)).mp c_3
      have hk9 : 48 = k2 := by omega
      subst hk9
      refine lv_aload_n hx hb dX7_sweeps_65 rfl (lv_at hl 0 rfl) ?_
      refine lv_bipush (v := 7) hx hb dX7_sweeps_66 (by decide) ?_
      refine cRV (As := [.int 7]) (rest := []) hx hb hml hown hts (c_X7_isEarth l G E cI cZ zo (feM zo go la he 48) go le hd gn la 7 o a_S fs_o h_o_S (by first | assumption | omega | simp [bI, c_3])) k_16_1 cal_X7_isEarth ⟨Nat.le_of_ble_eq_true rfl, Nat.le_of_ble_eq_true rfl⟩ hE hlow hS hK [0, 1] rfl hP [0, 1] rfl 0 7 rfl rfl rfl hl.1 rfl (Nat.le_of_ble_eq_true rfl) dX7_sweeps_68 ⟨Nat.zero_le _, Nat.zero_le _⟩ ?_
      refine lv_if_eq (tgt := 82) hx hb dX7_sweeps_71 (by decide) (fun c_4 => ?_) (fun c_4 => ?_)
      · skip
        have c_4 : (isES zo go 7) = false := bI_f c_4
        have et_5 : (ms zo (feM zo go la he 48) go le hd gn la) = (ms zo (f7M zo go (feM zo go la he 48)) go le hd gn la) := by simp [f7M, c_4]
        have hP : va_P G vwCl [(o, .inr (7, fs_o)), (a_S, .inl (cI, 163, .inl (ms zo (f7M zo go (feM zo go la he 48)) go le hd gn la)))] H := by rw [← et_5]; exact hP
        have hD : va_D A [(o, .inr (7, fs_o)), (a_S, .inl (cI, 163, .inl (ms zo (f7M zo go (feM zo go la he 48)) go le hd gn la)))] := by rw [← et_5]; exact hD
        refine lv_iconst (v := 0) hx hb dX7_sweeps_82 (by decide) ?_
        refine lv_istore_n (lv' := [(1, .int 0), (0, .ref o)]) hx hb dX7_sweeps_83 rfl hl (by decide) rfl (fun ls hl => ?_)
        suffices lp84 : ∀ zn k84 : Nat, 0 ≤ k84 → k84 ≤ 48 → 48 < k84 + zn → ∀ (H : Heap) (locs : List Loc), va_P G vwCl [(o, .inr (7, fs_o)), (a_S, .inl (cI, 163, .inl (ms zo (lvM zo go le la (f7M zo go (feM zo go la he 48)) k84) go le hd gn la)))] H → va_D A [(o, .inr (7, fs_o)), (a_S, .inl (cI, 163, .inl (ms zo (lvM zo go le la (f7M zo go (feM zo go la he 48)) k84) go le hd gn la)))] → va_S A s.heap H locs → ∀ ls : Array Slot, lv_has ls 4 [(0, .ref o), (1, .int (nI k84))] → W zp l ze (rmK 5) s zm args below meth zc H locs 0 0 (MQ below (va_Qv (S := Unit) (fun _ => True) (fun u t => va_P G vwCl ((fun _ => [(o, .inr (7, fs_o)), (a_S, .inl (cI, 163, .inl (ms zo (swM zo go le la he) go le hd gn la)))]) u) t.heap) A) args s 0 0 A) (F0 zm 84 ls []) by
          have el_6 : (0 : Int32) = nI 0 := rfl
          have er_7 : (ms zo (f7M zo go (feM zo go la he 48)) go le hd gn la) = (ms zo (lvM zo go le la (f7M zo go (feM zo go la he 48)) 0) go le hd gn la) := rfl
          exact lp84 (48 + 1 - 0) 0 (by omega) (by omega) (by omega)  H locs (by rw [← er_7]; exact hP) (by rw [← er_7]; exact hD) hS ls (lv_sub hl [1, 0] (show ([(0, .ref o), (1, .int 0)] : List (Nat × Value)) = [(0, .ref o), (1, .int (nI 0))] by rw [← el_6]))
        intro zn
        induction zn with
        | zero => exact fun k84 h1 h2 h3 => absurd h3 (by omega)
        | succ zn ih84 =>
          intro k84 hlo84 hhi84 hn84  H locs hP hD hS ls hl
          refine lv_iload_n hx hb dX7_sweeps_84 rfl (lv_at hl 1 rfl) ?_
          refine lv_bipush (v := 48) hx hb dX7_sweeps_85 (by decide) ?_
          refine lv_icmp_ge (tgt := 186) hx hb dX7_sweeps_87 (by decide) (fun c_8 => ?_) (fun c_8 => ?_)
          · skip
            have c_8 : 48 ≤ k84 := (nI_leI (a := 48) (b := k84) (by omega) (by omega)).mp c_8
            have hk9 : 48 = k84 := by omega
            subst hk9
            have ew_9 : (ms zo (lvM zo go le la (f7M zo go (feM zo go la he 48)) 48) go le hd gn la) = (ms zo (swM zo go le la he) go le hd gn la) := rfl
            have hP : va_P G vwCl [(o, .inr (7, fs_o)), (a_S, .inl (cI, 163, .inl (ms zo (swM zo go le la he) go le hd gn la)))] H := by rw [← ew_9]; exact hP
            exact retWv () hx hb hr hlocks dX7_sweeps_186 hS (trivial) hP
          · skip
            have c_8 : ¬ 48 ≤ k84 := fun h9 => c_8 ((nI_leI (a := 48) (b := k84) (by omega) (by omega)).mpr h9)
            refine lv_iload_n hx hb dX7_sweeps_90 rfl (lv_at hl 1 rfl) ?_
            refine lv_bipush (v := 7) hx hb dX7_sweeps_91 (by decide) ?_
            refine lv_icmp_eq (tgt := 118) hx hb dX7_sweeps_93 (by decide) (fun c_10 => ?_) (fun c_10 => ?_)
            · skip
              have c_10 : k84 = 7 := (nI_eq (a := k84) (b := 7) (by omega) (by omega)).mp c_10
              refine lv_iconst (v := 1) hx hb dX7_sweeps_118 (by decide) ?_
              refine lv_goto (tgt := 123) hx hb dX7_sweeps_119 (by decide) ?_
              refine lv_istore_n (lv' := [(2, .int 1), (0, .ref o), (1, .int (nI k84))]) hx hb dX7_sweeps_123 rfl hl (by decide) rfl (fun ls hl => ?_)
              refine lv_aload_n hx hb dX7_sweeps_124 rfl (lv_at hl 1 rfl) ?_
              refine lv_iload_n hx hb dX7_sweeps_125 rfl (lv_at hl 2 rfl) ?_
              refine cRV (As := [.int (nI k84)]) (rest := []) hx hb hml hown hts (c_X7_isEarth l G E cI cZ zo (lvM zo go le la (f7M zo go (feM zo go la he 48)) k84) go le hd gn la k84 o a_S fs_o h_o_S (by first | assumption | omega | simp [bI, c_3, c_4, c_8, c_10])) k_16_1 cal_X7_isEarth ⟨Nat.le_of_ble_eq_true rfl, Nat.le_of_ble_eq_true rfl⟩ hE hlow hS hK [0, 1] rfl hP [0, 1] rfl 0 7 rfl rfl rfl hl.1 rfl (Nat.le_of_ble_eq_true rfl) dX7_sweeps_126 ⟨Nat.zero_le _, Nat.zero_le _⟩ ?_
              refine lv_if_eq (tgt := 145) hx hb dX7_sweeps_129 (by decide) (fun c_11 => ?_) (fun c_11 => ?_)
              · skip
                have c_11 : (isES zo go k84) = false := bI_f c_11
                refine lv_iconst (v := 0) hx hb dX7_sweeps_145 (by decide) ?_
                refine lv_istore_n (lv' := [(3, .int 0), (2, .int 1), (0, .ref o), (1, .int (nI k84))]) hx hb dX7_sweeps_146 rfl hl (by decide) rfl (fun ls hl => ?_)
                have ea_12 : (0 : Int32) = (allM zo go le la (lvM zo go le la (f7M zo go (feM zo go la he 48)) k84) k84) := by simp [allM, lkS, eq_true c_10, c_11]
                have hl : lv_has ls 4 [(3, .int (allM zo go le la (lvM zo go le la (f7M zo go (feM zo go la he 48)) k84) k84)), (2, .int 1), (0, .ref o), (1, .int (nI k84))] := by rw [← ea_12]; exact hl
                refine lv_aload_n hx hb dX7_sweeps_147 rfl (lv_at hl 2 rfl) ?_
                refine va_get (D := G) (ci := 7) (v := .ref a_S) (C := RX7) (T := TX7) (N := 38) hx hb hts inlX7 hown hK hP 0 rfl rfl 2 (by decide) (hts (.fieldLink RX7 7 "EarthBanksModel" "s" "[I") k_6_2) (fun _ h9 => h9) h_o_S dX7_sweeps_148 ?_
                refine lv_bipush (v := 48) hx hb dX7_sweeps_151 (by decide) ?_
                refine lv_iload_n hx hb dX7_sweeps_153 rfl (lv_at hl 3 rfl) ?_
                refine lv_iadd hx hb dX7_sweeps_154 ?_
                refine top_eq (y := nI (48 + k84)) (nI_add _ _) ?_
                refine lv_iload_n hx hb dX7_sweeps_155 rfl (lv_at hl 0 rfl) ?_
                refine lv_if_le (tgt := 170) hx hb dX7_sweeps_156 (by decide) (fun c_13 => ?_) (fun c_13 => ?_)
                · skip
                  refine lv_aload_n hx hb dX7_sweeps_170 rfl (lv_at hl 2 rfl) ?_
                  refine va_get (D := G) (ci := 7) (v := .ref a_S) (C := RX7) (T := TX7) (N := 38) hx hb hts inlX7 hown hK hP 0 rfl rfl 2 (by decide) (hts (.fieldLink RX7 7 "EarthBanksModel" "s" "[I") k_6_2) (fun _ h9 => h9) h_o_S dX7_sweeps_171 ?_
                  refine lv_bipush (v := 48) hx hb dX7_sweeps_174 (by decide) ?_
                  refine lv_iload_n hx hb dX7_sweeps_176 rfl (lv_at hl 3 rfl) ?_
                  refine lv_iadd hx hb dX7_sweeps_177 ?_
                  refine top_eq (y := nI (48 + k84)) (nI_add _ _) ?_
                  refine ialdN (j := (48 + k84)) hx hb hK hP 1 0 rfl rfl (by omega) (by decide) dX7_sweeps_178 ?_
                  refine top_eq (y := ((lvM zo go le la (f7M zo go (feM zo go la he 48)) k84) k84)) (ms_h (c := k84) (by omega) (by omega)) ?_
                  refine iastN (j := (48 + k84)) hx hb hK hP hD hS 1 0 rfl rfl (by omega) (by decide) dX7_sweeps_179 (fun H locs hP hD hS => ?_)
                  have hP : va_P G vwCl [(o, .inr (7, fs_o)), (a_S, .inl (cI, 163, .inl (upd (ms zo (lvM zo go le la (f7M zo go (feM zo go la he 48)) k84) go le hd gn la) (48 + k84) ((lvM zo go le la (f7M zo go (feM zo go la he 48)) k84) k84))))] H := hP
                  have hD : va_D A [(o, .inr (7, fs_o)), (a_S, .inl (cI, 163, .inl (upd (ms zo (lvM zo go le la (f7M zo go (feM zo go la he 48)) k84) go le hd gn la) (48 + k84) ((lvM zo go le la (f7M zo go (feM zo go la he 48)) k84) k84))))] := hD
                  have en_14 : upd (ms zo (lvM zo go le la (f7M zo go (feM zo go la he 48)) k84) go le hd gn la) (48 + k84) ((lvM zo go le la (f7M zo go (feM zo go la he 48)) k84) k84) = ms zo (upd (lvM zo go le la (f7M zo go (feM zo go la he 48)) k84) k84 ((lvM zo go le la (f7M zo go (feM zo go la he 48)) k84) k84)) go le hd gn la := ms_uh (c := k84) (by omega) (by omega)
                  rw [en_14] at hP hD
                  have hP : va_P G vwCl [(o, .inr (7, fs_o)), (a_S, .inl (cI, 163, .inl (ms zo (upd (lvM zo go le la (f7M zo go (feM zo go la he 48)) k84) k84 ((lvM zo go le la (f7M zo go (feM zo go la he 48)) k84) k84)) go le hd gn la)))] H := hP
                  have hD : va_D A [(o, .inr (7, fs_o)), (a_S, .inl (cI, 163, .inl (ms zo (upd (lvM zo go le la (f7M zo go (feM zo go la he 48)) k84) k84 ((lvM zo go le la (f7M zo go (feM zo go la he 48)) k84) k84)) go le hd gn la)))] := hD
                  refine lv_iinc (v := nI (k84 + 1)) (lv' := [(1, .int (nI (k84 + 1))), (3, .int (allM zo go le la (lvM zo go le la (f7M zo go (feM zo go la he 48)) k84) k84)), (2, .int 1), (0, .ref o)]) hx hb dX7_sweeps_180 hl (k := 3) rfl (nI_add _ _) (by decide) rfl (fun ls hl => ?_)
                  refine lv_goto (tgt := 84) hx hb dX7_sweeps_183 (by decide) ?_
                  have er_15 : (ms zo (upd (lvM zo go le la (f7M zo go (feM zo go la he 48)) k84) k84 ((lvM zo go le la (f7M zo go (feM zo go la he 48)) k84) k84)) go le hd gn la) = (ms zo (lvM zo go le la (f7M zo go (feM zo go la he 48)) (k84 + 1)) go le hd gn la) := by rw [lvM_s]; simp [c_13]
                  exact ih84 (k84 + 1) (by omega) (by omega) (by omega)  H locs (by rw [← er_15]; exact hP) (by rw [← er_15]; exact hD) hS ls (lv_sub hl [3, 0] rfl)
                · skip
                  refine lv_aload_n hx hb dX7_sweeps_159 rfl (lv_at hl 2 rfl) ?_
                  refine lv_iload_n hx hb dX7_sweeps_160 rfl (lv_at hl 3 rfl) ?_
                  refine lv_iconst (v := 1) hx hb dX7_sweeps_161 (by decide) ?_
                  refine cRV (As := [.int (nI k84), .int 1]) (rest := [.int (nI (48 + k84)), .ref a_S]) hx hb hml hown hts (c_X7_flowing l G E cI cZ zo (lvM zo go le la (f7M zo go (feM zo go la he 48)) k84) go le hd gn la k84 true o a_S fs_o h_o_S (by first | assumption | omega | simp [bI, c_3, c_4, c_8, c_10, c_11, c_13]) (allM_na c_13)) k_22_16 cal_X7_flowing ⟨Nat.le_of_ble_eq_true rfl, Nat.le_of_ble_eq_true rfl⟩ hE hlow hS hK [0, 1] rfl hP [0, 1] rfl 0 7 rfl rfl rfl hl.1 rfl (Nat.le_of_ble_eq_true rfl) dX7_sweeps_162 ⟨Nat.zero_le _, Nat.zero_le _⟩ ?_
                  refine lv_iload_n hx hb dX7_sweeps_165 rfl (lv_at hl 0 rfl) ?_
                  refine lv_idiv hx hb dX7_sweeps_166 (nz_nle c_13) ?_
                  refine lv_goto (tgt := 179) hx hb dX7_sweeps_167 (by decide) ?_
                  refine iastN (j := (48 + k84)) hx hb hK hP hD hS 1 0 rfl rfl (by omega) (by decide) dX7_sweeps_179 (fun H locs hP hD hS => ?_)
                  have hP : va_P G vwCl [(o, .inr (7, fs_o)), (a_S, .inl (cI, 163, .inl (upd (ms zo (lvM zo go le la (f7M zo go (feM zo go la he 48)) k84) go le hd gn la) (48 + k84) ((sumS (flM zo (lvM zo go le la (f7M zo go (feM zo go la he 48)) k84) go le k84 true) 4) / (allM zo go le la (lvM zo go le la (f7M zo go (feM zo go la he 48)) k84) k84)))))] H := hP
                  have hD : va_D A [(o, .inr (7, fs_o)), (a_S, .inl (cI, 163, .inl (upd (ms zo (lvM zo go le la (f7M zo go (feM zo go la he 48)) k84) go le hd gn la) (48 + k84) ((sumS (flM zo (lvM zo go le la (f7M zo go (feM zo go la he 48)) k84) go le k84 true) 4) / (allM zo go le la (lvM zo go le la (f7M zo go (feM zo go la he 48)) k84) k84)))))] := hD
                  have en_16 : upd (ms zo (lvM zo go le la (f7M zo go (feM zo go la he 48)) k84) go le hd gn la) (48 + k84) ((sumS (flM zo (lvM zo go le la (f7M zo go (feM zo go la he 48)) k84) go le k84 true) 4) / (allM zo go le la (lvM zo go le la (f7M zo go (feM zo go la he 48)) k84) k84)) = ms zo (upd (lvM zo go le la (f7M zo go (feM zo go la he 48)) k84) k84 ((sumS (flM zo (lvM zo go le la (f7M zo go (feM zo go la he 48)) k84) go le k84 true) 4) / (allM zo go le la (lvM zo go le la (f7M zo go (feM zo go la he 48)) k84) k84))) go le hd gn la := ms_uh (c := k84) (by omega) (by omega)
                  rw [en_16] at hP hD
                  have hP : va_P G vwCl [(o, .inr (7, fs_o)), (a_S, .inl (cI, 163, .inl (ms zo (upd (lvM zo go le la (f7M zo go (feM zo go la he 48)) k84) k84 ((sumS (flM zo (lvM zo go le la (f7M zo go (feM zo go la he 48)) k84) go le k84 true) 4) / (allM zo go le la (lvM zo go le la (f7M zo go (feM zo go la he 48)) k84) k84))) go le hd gn la)))] H := hP
                  have hD : va_D A [(o, .inr (7, fs_o)), (a_S, .inl (cI, 163, .inl (ms zo (upd (lvM zo go le la (f7M zo go (feM zo go la he 48)) k84) k84 ((sumS (flM zo (lvM zo go le la (f7M zo go (feM zo go la he 48)) k84) go le k84 true) 4) / (allM zo go le la (lvM zo go le la (f7M zo go (feM zo go la he 48)) k84) k84))) go le hd gn la)))] := hD
                  refine lv_iinc (v := nI (k84 + 1)) (lv' := [(1, .int (nI (k84 + 1))), (3, .int (allM zo go le la (lvM zo go le la (f7M zo go (feM zo go la he 48)) k84) k84)), (2, .int 1), (0, .ref o)]) hx hb dX7_sweeps_180 hl (k := 3) rfl (nI_add _ _) (by decide) rfl (fun ls hl => ?_)
                  refine lv_goto (tgt := 84) hx hb dX7_sweeps_183 (by decide) ?_
                  have er_17 : (ms zo (upd (lvM zo go le la (f7M zo go (feM zo go la he 48)) k84) k84 ((sumS (flM zo (lvM zo go le la (f7M zo go (feM zo go la he 48)) k84) go le k84 true) 4) / (allM zo go le la (lvM zo go le la (f7M zo go (feM zo go la he 48)) k84) k84))) go le hd gn la) = (ms zo (lvM zo go le la (f7M zo go (feM zo go la he 48)) (k84 + 1)) go le hd gn la) := by rw [lvM_s]; simp [c_13]
                  exact ih84 (k84 + 1) (by omega) (by omega) (by omega)  H locs (by rw [← er_17]; exact hP) (by rw [← er_17]; exact hD) hS ls (lv_sub hl [3, 0] rfl)
              · skip
                have c_11 : (isES zo go k84) = true := bI_t c_11
                refine lv_iload_n hx hb dX7_sweeps_132 rfl (lv_at hl 0 rfl) ?_
                refine lv_if_ne (tgt := 145) hx hb dX7_sweeps_133 (by decide) (fun c_18 => ?_) (fun c_18 => ?_)
                · skip
                  refine lv_iconst (v := 0) hx hb dX7_sweeps_145 (by decide) ?_
                  refine lv_istore_n (lv' := [(3, .int 0), (2, .int 1), (0, .ref o), (1, .int (nI k84))]) hx hb dX7_sweeps_146 rfl hl (by decide) rfl (fun ls hl => ?_)
                  have ea_19 : (0 : Int32) = (allM zo go le la (lvM zo go le la (f7M zo go (feM zo go la he 48)) k84) k84) := by simp [allM, lkS, eq_true c_10, c_11, c_18]
                  have hl : lv_has ls 4 [(3, .int (allM zo go le la (lvM zo go le la (f7M zo go (feM zo go la he 48)) k84) k84)), (2, .int 1), (0, .ref o), (1, .int (nI k84))] := by rw [← ea_19]; exact hl
                  refine lv_aload_n hx hb dX7_sweeps_147 rfl (lv_at hl 2 rfl) ?_
                  refine va_get (D := G) (ci := 7) (v := .ref a_S) (C := RX7) (T := TX7) (N := 38) hx hb hts inlX7 hown hK hP 0 rfl rfl 2 (by decide) (hts (.fieldLink RX7 7 "EarthBanksModel" "s" "[I") k_6_2) (fun _ h9 => h9) h_o_S dX7_sweeps_148 ?_
                  refine lv_bipush (v := 48) hx hb dX7_sweeps_151 (by decide) ?_
                  refine lv_iload_n hx hb dX7_sweeps_153 rfl (lv_at hl 3 rfl) ?_
                  refine lv_iadd hx hb dX7_sweeps_154 ?_
                  refine top_eq (y := nI (48 + k84)) (nI_add _ _) ?_
                  refine lv_iload_n hx hb dX7_sweeps_155 rfl (lv_at hl 0 rfl) ?_
                  refine lv_if_le (tgt := 170) hx hb dX7_sweeps_156 (by decide) (fun c_20 => ?_) (fun c_20 => ?_)
                  · skip
                    refine lv_aload_n hx hb dX7_sweeps_170 rfl (lv_at hl 2 rfl) ?_
                    refine va_get (D := G) (ci := 7) (v := .ref a_S) (C := RX7) (T := TX7) (N := 38) hx hb hts inlX7 hown hK hP 0 rfl rfl 2 (by decide) (hts (.fieldLink RX7 7 "EarthBanksModel" "s" "[I") k_6_2) (fun _ h9 => h9) h_o_S dX7_sweeps_171 ?_
                    refine lv_bipush (v := 48) hx hb dX7_sweeps_174 (by decide) ?_
                    refine lv_iload_n hx hb dX7_sweeps_176 rfl (lv_at hl 3 rfl) ?_
                    refine lv_iadd hx hb dX7_sweeps_177 ?_
                    refine top_eq (y := nI (48 + k84)) (nI_add _ _) ?_
                    refine ialdN (j := (48 + k84)) hx hb hK hP 1 0 rfl rfl (by omega) (by decide) dX7_sweeps_178 ?_
                    refine top_eq (y := ((lvM zo go le la (f7M zo go (feM zo go la he 48)) k84) k84)) (ms_h (c := k84) (by omega) (by omega)) ?_
                    refine iastN (j := (48 + k84)) hx hb hK hP hD hS 1 0 rfl rfl (by omega) (by decide) dX7_sweeps_179 (fun H locs hP hD hS => ?_)
                    have hP : va_P G vwCl [(o, .inr (7, fs_o)), (a_S, .inl (cI, 163, .inl (upd (ms zo (lvM zo go le la (f7M zo go (feM zo go la he 48)) k84) go le hd gn la) (48 + k84) ((lvM zo go le la (f7M zo go (feM zo go la he 48)) k84) k84))))] H := hP
                    have hD : va_D A [(o, .inr (7, fs_o)), (a_S, .inl (cI, 163, .inl (upd (ms zo (lvM zo go le la (f7M zo go (feM zo go la he 48)) k84) go le hd gn la) (48 + k84) ((lvM zo go le la (f7M zo go (feM zo go la he 48)) k84) k84))))] := hD
                    have en_21 : upd (ms zo (lvM zo go le la (f7M zo go (feM zo go la he 48)) k84) go le hd gn la) (48 + k84) ((lvM zo go le la (f7M zo go (feM zo go la he 48)) k84) k84) = ms zo (upd (lvM zo go le la (f7M zo go (feM zo go la he 48)) k84) k84 ((lvM zo go le la (f7M zo go (feM zo go la he 48)) k84) k84)) go le hd gn la := ms_uh (c := k84) (by omega) (by omega)
                    rw [en_21] at hP hD
                    have hP : va_P G vwCl [(o, .inr (7, fs_o)), (a_S, .inl (cI, 163, .inl (ms zo (upd (lvM zo go le la (f7M zo go (feM zo go la he 48)) k84) k84 ((lvM zo go le la (f7M zo go (feM zo go la he 48)) k84) k84)) go le hd gn la)))] H := hP
                    have hD : va_D A [(o, .inr (7, fs_o)), (a_S, .inl (cI, 163, .inl (ms zo (upd (lvM zo go le la (f7M zo go (feM zo go la he 48)) k84) k84 ((lvM zo go le la (f7M zo go (feM zo go la he 48)) k84) k84)) go le hd gn la)))] := hD
                    refine lv_iinc (v := nI (k84 + 1)) (lv' := [(1, .int (nI (k84 + 1))), (3, .int (allM zo go le la (lvM zo go le la (f7M zo go (feM zo go la he 48)) k84) k84)), (2, .int 1), (0, .ref o)]) hx hb dX7_sweeps_180 hl (k := 3) rfl (nI_add _ _) (by decide) rfl (fun ls hl => ?_)
                    refine lv_goto (tgt := 84) hx hb dX7_sweeps_183 (by decide) ?_
                    have er_22 : (ms zo (upd (lvM zo go le la (f7M zo go (feM zo go la he 48)) k84) k84 ((lvM zo go le la (f7M zo go (feM zo go la he 48)) k84) k84)) go le hd gn la) = (ms zo (lvM zo go le la (f7M zo go (feM zo go la he 48)) (k84 + 1)) go le hd gn la) := by rw [lvM_s]; simp [c_20]
                    exact ih84 (k84 + 1) (by omega) (by omega) (by omega)  H locs (by rw [← er_22]; exact hP) (by rw [← er_22]; exact hD) hS ls (lv_sub hl [3, 0] rfl)
                  · skip
                    refine lv_aload_n hx hb dX7_sweeps_159 rfl (lv_at hl 2 rfl) ?_
                    refine lv_iload_n hx hb dX7_sweeps_160 rfl (lv_at hl 3 rfl) ?_
                    refine lv_iconst (v := 1) hx hb dX7_sweeps_161 (by decide) ?_
                    refine cRV (As := [.int (nI k84), .int 1]) (rest := [.int (nI (48 + k84)), .ref a_S]) hx hb hml hown hts (c_X7_flowing l G E cI cZ zo (lvM zo go le la (f7M zo go (feM zo go la he 48)) k84) go le hd gn la k84 true o a_S fs_o h_o_S (by first | assumption | omega | simp [bI, c_3, c_4, c_8, c_10, c_11, c_18, c_20]) (allM_na c_20)) k_22_16 cal_X7_flowing ⟨Nat.le_of_ble_eq_true rfl, Nat.le_of_ble_eq_true rfl⟩ hE hlow hS hK [0, 1] rfl hP [0, 1] rfl 0 7 rfl rfl rfl hl.1 rfl (Nat.le_of_ble_eq_true rfl) dX7_sweeps_162 ⟨Nat.zero_le _, Nat.zero_le _⟩ ?_
                    refine lv_iload_n hx hb dX7_sweeps_165 rfl (lv_at hl 0 rfl) ?_
                    refine lv_idiv hx hb dX7_sweeps_166 (nz_nle c_20) ?_
                    refine lv_goto (tgt := 179) hx hb dX7_sweeps_167 (by decide) ?_
                    refine iastN (j := (48 + k84)) hx hb hK hP hD hS 1 0 rfl rfl (by omega) (by decide) dX7_sweeps_179 (fun H locs hP hD hS => ?_)
                    have hP : va_P G vwCl [(o, .inr (7, fs_o)), (a_S, .inl (cI, 163, .inl (upd (ms zo (lvM zo go le la (f7M zo go (feM zo go la he 48)) k84) go le hd gn la) (48 + k84) ((sumS (flM zo (lvM zo go le la (f7M zo go (feM zo go la he 48)) k84) go le k84 true) 4) / (allM zo go le la (lvM zo go le la (f7M zo go (feM zo go la he 48)) k84) k84)))))] H := hP
                    have hD : va_D A [(o, .inr (7, fs_o)), (a_S, .inl (cI, 163, .inl (upd (ms zo (lvM zo go le la (f7M zo go (feM zo go la he 48)) k84) go le hd gn la) (48 + k84) ((sumS (flM zo (lvM zo go le la (f7M zo go (feM zo go la he 48)) k84) go le k84 true) 4) / (allM zo go le la (lvM zo go le la (f7M zo go (feM zo go la he 48)) k84) k84)))))] := hD
                    have en_23 : upd (ms zo (lvM zo go le la (f7M zo go (feM zo go la he 48)) k84) go le hd gn la) (48 + k84) ((sumS (flM zo (lvM zo go le la (f7M zo go (feM zo go la he 48)) k84) go le k84 true) 4) / (allM zo go le la (lvM zo go le la (f7M zo go (feM zo go la he 48)) k84) k84)) = ms zo (upd (lvM zo go le la (f7M zo go (feM zo go la he 48)) k84) k84 ((sumS (flM zo (lvM zo go le la (f7M zo go (feM zo go la he 48)) k84) go le k84 true) 4) / (allM zo go le la (lvM zo go le la (f7M zo go (feM zo go la he 48)) k84) k84))) go le hd gn la := ms_uh (c := k84) (by omega) (by omega)
                    rw [en_23] at hP hD
                    have hP : va_P G vwCl [(o, .inr (7, fs_o)), (a_S, .inl (cI, 163, .inl (ms zo (upd (lvM zo go le la (f7M zo go (feM zo go la he 48)) k84) k84 ((sumS (flM zo (lvM zo go le la (f7M zo go (feM zo go la he 48)) k84) go le k84 true) 4) / (allM zo go le la (lvM zo go le la (f7M zo go (feM zo go la he 48)) k84) k84))) go le hd gn la)))] H := hP
                    have hD : va_D A [(o, .inr (7, fs_o)), (a_S, .inl (cI, 163, .inl (ms zo (upd (lvM zo go le la (f7M zo go (feM zo go la he 48)) k84) k84 ((sumS (flM zo (lvM zo go le la (f7M zo go (feM zo go la he 48)) k84) go le k84 true) 4) / (allM zo go le la (lvM zo go le la (f7M zo go (feM zo go la he 48)) k84) k84))) go le hd gn la)))] := hD
                    refine lv_iinc (v := nI (k84 + 1)) (lv' := [(1, .int (nI (k84 + 1))), (3, .int (allM zo go le la (lvM zo go le la (f7M zo go (feM zo go la he 48)) k84) k84)), (2, .int 1), (0, .ref o)]) hx hb dX7_sweeps_180 hl (k := 3) rfl (nI_add _ _) (by decide) rfl (fun ls hl => ?_)
                    refine lv_goto (tgt := 84) hx hb dX7_sweeps_183 (by decide) ?_
                    have er_24 : (ms zo (upd (lvM zo go le la (f7M zo go (feM zo go la he 48)) k84) k84 ((sumS (flM zo (lvM zo go le la (f7M zo go (feM zo go la he 48)) k84) go le k84 true) 4) / (allM zo go le la (lvM zo go le la (f7M zo go (feM zo go la he 48)) k84) k84))) go le hd gn la) = (ms zo (lvM zo go le la (f7M zo go (feM zo go la he 48)) (k84 + 1)) go le hd gn la) := by rw [lvM_s]; simp [c_20]
                    exact ih84 (k84 + 1) (by omega) (by omega) (by omega)  H locs (by rw [← er_24]; exact hP) (by rw [← er_24]; exact hD) hS ls (lv_sub hl [3, 0] rfl)
                · skip
                  exact absurd c_18 (by decide)
            · skip
              have c_10 : ¬ k84 = 7 := fun h9 => c_10 ((nI_eq (a := k84) (b := 7) (by omega) (by omega)).mpr h9)
              refine lv_iload_n hx hb dX7_sweeps_96 rfl (lv_at hl 1 rfl) ?_
              refine lv_bipush (v := 8) hx hb dX7_sweeps_97 (by decide) ?_
              refine lv_irem hx hb dX7_sweeps_99 (by decide) ?_
              refine top_eq (y := nI (k84 % 8)) (pk_rem (a := k84) (d := 8) (by omega) (by omega) (by omega)) ?_
              refine lv_if_ne (tgt := 122) hx hb dX7_sweeps_100 (by decide) (fun c_25 => ?_) (fun c_25 => ?_)
              · skip
                have c_25 : ¬ (k84 % 8) = 0 := fun h9 => c_25 ((nI_eq (a := (k84 % 8)) (b := 0) (by omega) (by omega)).mpr h9)
                refine lv_iconst (v := 0) hx hb dX7_sweeps_122 (by decide) ?_
                refine lv_istore_n (lv' := [(2, .int 0), (0, .ref o), (1, .int (nI k84))]) hx hb dX7_sweeps_123 rfl hl (by decide) rfl (fun ls hl => ?_)
                refine lv_aload_n hx hb dX7_sweeps_124 rfl (lv_at hl 1 rfl) ?_
                refine lv_iload_n hx hb dX7_sweeps_125 rfl (lv_at hl 2 rfl) ?_
                refine cRV (As := [.int (nI k84)]) (rest := []) hx hb hml hown hts (c_X7_isEarth l G E cI cZ zo (lvM zo go le la (f7M zo go (feM zo go la he 48)) k84) go le hd gn la k84 o a_S fs_o h_o_S (by first | assumption | omega | simp [bI, c_3, c_4, c_8, c_10, c_25])) k_16_1 cal_X7_isEarth ⟨Nat.le_of_ble_eq_true rfl, Nat.le_of_ble_eq_true rfl⟩ hE hlow hS hK [0, 1] rfl hP [0, 1] rfl 0 7 rfl rfl rfl hl.1 rfl (Nat.le_of_ble_eq_true rfl) dX7_sweeps_126 ⟨Nat.zero_le _, Nat.zero_le _⟩ ?_
                refine lv_if_eq (tgt := 145) hx hb dX7_sweeps_129 (by decide) (fun c_26 => ?_) (fun c_26 => ?_)
                · skip
                  have c_26 : (isES zo go k84) = false := bI_f c_26
                  refine lv_iconst (v := 0) hx hb dX7_sweeps_145 (by decide) ?_
                  refine lv_istore_n (lv' := [(3, .int 0), (2, .int 0), (0, .ref o), (1, .int (nI k84))]) hx hb dX7_sweeps_146 rfl hl (by decide) rfl (fun ls hl => ?_)
                  have ea_27 : (0 : Int32) = (allM zo go le la (lvM zo go le la (f7M zo go (feM zo go la he 48)) k84) k84) := by simp [allM, lkS, c_10, c_25, c_26]
                  have hl : lv_has ls 4 [(3, .int (allM zo go le la (lvM zo go le la (f7M zo go (feM zo go la he 48)) k84) k84)), (2, .int 0), (0, .ref o), (1, .int (nI k84))] := by rw [← ea_27]; exact hl
                  refine lv_aload_n hx hb dX7_sweeps_147 rfl (lv_at hl 2 rfl) ?_
                  refine va_get (D := G) (ci := 7) (v := .ref a_S) (C := RX7) (T := TX7) (N := 38) hx hb hts inlX7 hown hK hP 0 rfl rfl 2 (by decide) (hts (.fieldLink RX7 7 "EarthBanksModel" "s" "[I") k_6_2) (fun _ h9 => h9) h_o_S dX7_sweeps_148 ?_
                  refine lv_bipush (v := 48) hx hb dX7_sweeps_151 (by decide) ?_
                  refine lv_iload_n hx hb dX7_sweeps_153 rfl (lv_at hl 3 rfl) ?_
                  refine lv_iadd hx hb dX7_sweeps_154 ?_
                  refine top_eq (y := nI (48 + k84)) (nI_add _ _) ?_
                  refine lv_iload_n hx hb dX7_sweeps_155 rfl (lv_at hl 0 rfl) ?_
                  refine lv_if_le (tgt := 170) hx hb dX7_sweeps_156 (by decide) (fun c_28 => ?_) (fun c_28 => ?_)
                  · skip
                    refine lv_aload_n hx hb dX7_sweeps_170 rfl (lv_at hl 2 rfl) ?_
                    refine va_get (D := G) (ci := 7) (v := .ref a_S) (C := RX7) (T := TX7) (N := 38) hx hb hts inlX7 hown hK hP 0 rfl rfl 2 (by decide) (hts (.fieldLink RX7 7 "EarthBanksModel" "s" "[I") k_6_2) (fun _ h9 => h9) h_o_S dX7_sweeps_171 ?_
                    refine lv_bipush (v := 48) hx hb dX7_sweeps_174 (by decide) ?_
                    refine lv_iload_n hx hb dX7_sweeps_176 rfl (lv_at hl 3 rfl) ?_
                    refine lv_iadd hx hb dX7_sweeps_177 ?_
                    refine top_eq (y := nI (48 + k84)) (nI_add _ _) ?_
                    refine ialdN (j := (48 + k84)) hx hb hK hP 1 0 rfl rfl (by omega) (by decide) dX7_sweeps_178 ?_
                    refine top_eq (y := ((lvM zo go le la (f7M zo go (feM zo go la he 48)) k84) k84)) (ms_h (c := k84) (by omega) (by omega)) ?_
                    refine iastN (j := (48 + k84)) hx hb hK hP hD hS 1 0 rfl rfl (by omega) (by decide) dX7_sweeps_179 (fun H locs hP hD hS => ?_)
                    have hP : va_P G vwCl [(o, .inr (7, fs_o)), (a_S, .inl (cI, 163, .inl (upd (ms zo (lvM zo go le la (f7M zo go (feM zo go la he 48)) k84) go le hd gn la) (48 + k84) ((lvM zo go le la (f7M zo go (feM zo go la he 48)) k84) k84))))] H := hP
                    have hD : va_D A [(o, .inr (7, fs_o)), (a_S, .inl (cI, 163, .inl (upd (ms zo (lvM zo go le la (f7M zo go (feM zo go la he 48)) k84) go le hd gn la) (48 + k84) ((lvM zo go le la (f7M zo go (feM zo go la he 48)) k84) k84))))] := hD
                    have en_29 : upd (ms zo (lvM zo go le la (f7M zo go (feM zo go la he 48)) k84) go le hd gn la) (48 + k84) ((lvM zo go le la (f7M zo go (feM zo go la he 48)) k84) k84) = ms zo (upd (lvM zo go le la (f7M zo go (feM zo go la he 48)) k84) k84 ((lvM zo go le la (f7M zo go (feM zo go la he 48)) k84) k84)) go le hd gn la := ms_uh (c := k84) (by omega) (by omega)
                    rw [en_29] at hP hD
                    have hP : va_P G vwCl [(o, .inr (7, fs_o)), (a_S, .inl (cI, 163, .inl (ms zo (upd (lvM zo go le la (f7M zo go (feM zo go la he 48)) k84) k84 ((lvM zo go le la (f7M zo go (feM zo go la he 48)) k84) k84)) go le hd gn la)))] H := hP
                    have hD : va_D A [(o, .inr (7, fs_o)), (a_S, .inl (cI, 163, .inl (ms zo (upd (lvM zo go le la (f7M zo go (feM zo go la he 48)) k84) k84 ((lvM zo go le la (f7M zo go (feM zo go la he 48)) k84) k84)) go le hd gn la)))] := hD
                    refine lv_iinc (v := nI (k84 + 1)) (lv' := [(1, .int (nI (k84 + 1))), (3, .int (allM zo go le la (lvM zo go le la (f7M zo go (feM zo go la he 48)) k84) k84)), (2, .int 0), (0, .ref o)]) hx hb dX7_sweeps_180 hl (k := 3) rfl (nI_add _ _) (by decide) rfl (fun ls hl => ?_)
                    refine lv_goto (tgt := 84) hx hb dX7_sweeps_183 (by decide) ?_
                    have er_30 : (ms zo (upd (lvM zo go le la (f7M zo go (feM zo go la he 48)) k84) k84 ((lvM zo go le la (f7M zo go (feM zo go la he 48)) k84) k84)) go le hd gn la) = (ms zo (lvM zo go le la (f7M zo go (feM zo go la he 48)) (k84 + 1)) go le hd gn la) := by rw [lvM_s]; simp [c_28]
                    exact ih84 (k84 + 1) (by omega) (by omega) (by omega)  H locs (by rw [← er_30]; exact hP) (by rw [← er_30]; exact hD) hS ls (lv_sub hl [3, 0] rfl)
                  · skip
                    refine lv_aload_n hx hb dX7_sweeps_159 rfl (lv_at hl 2 rfl) ?_
                    refine lv_iload_n hx hb dX7_sweeps_160 rfl (lv_at hl 3 rfl) ?_
                    refine lv_iconst (v := 1) hx hb dX7_sweeps_161 (by decide) ?_
                    refine cRV (As := [.int (nI k84), .int 1]) (rest := [.int (nI (48 + k84)), .ref a_S]) hx hb hml hown hts (c_X7_flowing l G E cI cZ zo (lvM zo go le la (f7M zo go (feM zo go la he 48)) k84) go le hd gn la k84 true o a_S fs_o h_o_S (by first | assumption | omega | simp [bI, c_3, c_4, c_8, c_10, c_25, c_26, c_28]) (allM_na c_28)) k_22_16 cal_X7_flowing ⟨Nat.le_of_ble_eq_true rfl, Nat.le_of_ble_eq_true rfl⟩ hE hlow hS hK [0, 1] rfl hP [0, 1] rfl 0 7 rfl rfl rfl hl.1 rfl (Nat.le_of_ble_eq_true rfl) dX7_sweeps_162 ⟨Nat.zero_le _, Nat.zero_le _⟩ ?_
                    refine lv_iload_n hx hb dX7_sweeps_165 rfl (lv_at hl 0 rfl) ?_
                    refine lv_idiv hx hb dX7_sweeps_166 (nz_nle c_28) ?_
                    refine lv_goto (tgt := 179) hx hb dX7_sweeps_167 (by decide) ?_
                    refine iastN (j := (48 + k84)) hx hb hK hP hD hS 1 0 rfl rfl (by omega) (by decide) dX7_sweeps_179 (fun H locs hP hD hS => ?_)
                    have hP : va_P G vwCl [(o, .inr (7, fs_o)), (a_S, .inl (cI, 163, .inl (upd (ms zo (lvM zo go le la (f7M zo go (feM zo go la he 48)) k84) go le hd gn la) (48 + k84) ((sumS (flM zo (lvM zo go le la (f7M zo go (feM zo go la he 48)) k84) go le k84 true) 4) / (allM zo go le la (lvM zo go le la (f7M zo go (feM zo go la he 48)) k84) k84)))))] H := hP
                    have hD : va_D A [(o, .inr (7, fs_o)), (a_S, .inl (cI, 163, .inl (upd (ms zo (lvM zo go le la (f7M zo go (feM zo go la he 48)) k84) go le hd gn la) (48 + k84) ((sumS (flM zo (lvM zo go le la (f7M zo go (feM zo go la he 48)) k84) go le k84 true) 4) / (allM zo go le la (lvM zo go le la (f7M zo go (feM zo go la he 48)) k84) k84)))))] := hD
                    have en_31 : upd (ms zo (lvM zo go le la (f7M zo go (feM zo go la he 48)) k84) go le hd gn la) (48 + k84) ((sumS (flM zo (lvM zo go le la (f7M zo go (feM zo go la he 48)) k84) go le k84 true) 4) / (allM zo go le la (lvM zo go le la (f7M zo go (feM zo go la he 48)) k84) k84)) = ms zo (upd (lvM zo go le la (f7M zo go (feM zo go la he 48)) k84) k84 ((sumS (flM zo (lvM zo go le la (f7M zo go (feM zo go la he 48)) k84) go le k84 true) 4) / (allM zo go le la (lvM zo go le la (f7M zo go (feM zo go la he 48)) k84) k84))) go le hd gn la := ms_uh (c := k84) (by omega) (by omega)
                    rw [en_31] at hP hD
                    have hP : va_P G vwCl [(o, .inr (7, fs_o)), (a_S, .inl (cI, 163, .inl (ms zo (upd (lvM zo go le la (f7M zo go (feM zo go la he 48)) k84) k84 ((sumS (flM zo (lvM zo go le la (f7M zo go (feM zo go la he 48)) k84) go le k84 true) 4) / (allM zo go le la (lvM zo go le la (f7M zo go (feM zo go la he 48)) k84) k84))) go le hd gn la)))] H := hP
                    have hD : va_D A [(o, .inr (7, fs_o)), (a_S, .inl (cI, 163, .inl (ms zo (upd (lvM zo go le la (f7M zo go (feM zo go la he 48)) k84) k84 ((sumS (flM zo (lvM zo go le la (f7M zo go (feM zo go la he 48)) k84) go le k84 true) 4) / (allM zo go le la (lvM zo go le la (f7M zo go (feM zo go la he 48)) k84) k84))) go le hd gn la)))] := hD
                    refine lv_iinc (v := nI (k84 + 1)) (lv' := [(1, .int (nI (k84 + 1))), (3, .int (allM zo go le la (lvM zo go le la (f7M zo go (feM zo go la he 48)) k84) k84)), (2, .int 0), (0, .ref o)]) hx hb dX7_sweeps_180 hl (k := 3) rfl (nI_add _ _) (by decide) rfl (fun ls hl => ?_)
                    refine lv_goto (tgt := 84) hx hb dX7_sweeps_183 (by decide) ?_
                    have er_32 : (ms zo (upd (lvM zo go le la (f7M zo go (feM zo go la he 48)) k84) k84 ((sumS (flM zo (lvM zo go le la (f7M zo go (feM zo go la he 48)) k84) go le k84 true) 4) / (allM zo go le la (lvM zo go le la (f7M zo go (feM zo go la he 48)) k84) k84))) go le hd gn la) = (ms zo (lvM zo go le la (f7M zo go (feM zo go la he 48)) (k84 + 1)) go le hd gn la) := by rw [lvM_s]; simp [c_28]
                    exact ih84 (k84 + 1) (by omega) (by omega) (by omega)  H locs (by rw [← er_32]; exact hP) (by rw [← er_32]; exact hD) hS ls (lv_sub hl [3, 0] rfl)
                · skip
                  have c_26 : (isES zo go k84) = true := bI_t c_26
                  refine lv_iload_n hx hb dX7_sweeps_132 rfl (lv_at hl 0 rfl) ?_
                  refine lv_if_ne (tgt := 145) hx hb dX7_sweeps_133 (by decide) (fun c_33 => ?_) (fun c_33 => ?_)
                  · skip
                    exact absurd (by decide) c_33
                  · skip
                    refine lv_aload_n hx hb dX7_sweeps_136 rfl (lv_at hl 1 rfl) ?_
                    refine lv_iload_n hx hb dX7_sweeps_137 rfl (lv_at hl 2 rfl) ?_
                    refine lv_iconst (v := 0) hx hb dX7_sweeps_138 (by decide) ?_
                    refine cRV (As := [.int (nI k84), .int 0]) (rest := []) hx hb hml hown hts (c_X7_flowing l G E cI cZ zo (lvM zo go le la (f7M zo go (feM zo go la he 48)) k84) go le hd gn la k84 false o a_S fs_o h_o_S (by first | assumption | omega | simp [bI, c_3, c_4, c_8, c_10, c_25, c_26, c_33]) (isE_na c_26)) k_22_16 cal_X7_flowing ⟨Nat.le_of_ble_eq_true rfl, Nat.le_of_ble_eq_true rfl⟩ hE hlow hS hK [0, 1] rfl hP [0, 1] rfl 0 7 rfl rfl rfl hl.1 rfl (Nat.le_of_ble_eq_true rfl) dX7_sweeps_139 ⟨Nat.zero_le _, Nat.zero_le _⟩ ?_
                    refine lv_goto (tgt := 146) hx hb dX7_sweeps_142 (by decide) ?_
                    refine lv_istore_n (lv' := [(3, .int (sumS (flM zo (lvM zo go le la (f7M zo go (feM zo go la he 48)) k84) go le k84 false) 4)), (2, .int 0), (0, .ref o), (1, .int (nI k84))]) hx hb dX7_sweeps_146 rfl hl (by decide) rfl (fun ls hl => ?_)
                    have ea_34 : (sumS (flM zo (lvM zo go le la (f7M zo go (feM zo go la he 48)) k84) go le k84 false) 4 : Int32) = (allM zo go le la (lvM zo go le la (f7M zo go (feM zo go la he 48)) k84) k84) := by simp [allM, lkS, c_10, c_25, c_26, eq_true c_33]
                    have hl : lv_has ls 4 [(3, .int (allM zo go le la (lvM zo go le la (f7M zo go (feM zo go la he 48)) k84) k84)), (2, .int 0), (0, .ref o), (1, .int (nI k84))] := by rw [← ea_34]; exact hl
                    refine lv_aload_n hx hb dX7_sweeps_147 rfl (lv_at hl 2 rfl) ?_
                    refine va_get (D := G) (ci := 7) (v := .ref a_S) (C := RX7) (T := TX7) (N := 38) hx hb hts inlX7 hown hK hP 0 rfl rfl 2 (by decide) (hts (.fieldLink RX7 7 "EarthBanksModel" "s" "[I") k_6_2) (fun _ h9 => h9) h_o_S dX7_sweeps_148 ?_
                    refine lv_bipush (v := 48) hx hb dX7_sweeps_151 (by decide) ?_
                    refine lv_iload_n hx hb dX7_sweeps_153 rfl (lv_at hl 3 rfl) ?_
                    refine lv_iadd hx hb dX7_sweeps_154 ?_
                    refine top_eq (y := nI (48 + k84)) (nI_add _ _) ?_
                    refine lv_iload_n hx hb dX7_sweeps_155 rfl (lv_at hl 0 rfl) ?_
                    refine lv_if_le (tgt := 170) hx hb dX7_sweeps_156 (by decide) (fun c_35 => ?_) (fun c_35 => ?_)
                    · skip
                      refine lv_aload_n hx hb dX7_sweeps_170 rfl (lv_at hl 2 rfl) ?_
                      refine va_get (D := G) (ci := 7) (v := .ref a_S) (C := RX7) (T := TX7) (N := 38) hx hb hts inlX7 hown hK hP 0 rfl rfl 2 (by decide) (hts (.fieldLink RX7 7 "EarthBanksModel" "s" "[I") k_6_2) (fun _ h9 => h9) h_o_S dX7_sweeps_171 ?_
                      refine lv_bipush (v := 48) hx hb dX7_sweeps_174 (by decide) ?_
                      refine lv_iload_n hx hb dX7_sweeps_176 rfl (lv_at hl 3 rfl) ?_
                      refine lv_iadd hx hb dX7_sweeps_177 ?_
                      refine top_eq (y := nI (48 + k84)) (nI_add _ _) ?_
                      refine ialdN (j := (48 + k84)) hx hb hK hP 1 0 rfl rfl (by omega) (by decide) dX7_sweeps_178 ?_
                      refine top_eq (y := ((lvM zo go le la (f7M zo go (feM zo go la he 48)) k84) k84)) (ms_h (c := k84) (by omega) (by omega)) ?_
                      refine iastN (j := (48 + k84)) hx hb hK hP hD hS 1 0 rfl rfl (by omega) (by decide) dX7_sweeps_179 (fun H locs hP hD hS => ?_)
                      have hP : va_P G vwCl [(o, .inr (7, fs_o)), (a_S, .inl (cI, 163, .inl (upd (ms zo (lvM zo go le la (f7M zo go (feM zo go la he 48)) k84) go le hd gn la) (48 + k84) ((lvM zo go le la (f7M zo go (feM zo go la he 48)) k84) k84))))] H := hP
                      have hD : va_D A [(o, .inr (7, fs_o)), (a_S, .inl (cI, 163, .inl (upd (ms zo (lvM zo go le la (f7M zo go (feM zo go la he 48)) k84) go le hd gn la) (48 + k84) ((lvM zo go le la (f7M zo go (feM zo go la he 48)) k84) k84))))] := hD
                      have en_36 : upd (ms zo (lvM zo go le la (f7M zo go (feM zo go la he 48)) k84) go le hd gn la) (48 + k84) ((lvM zo go le la (f7M zo go (feM zo go la he 48)) k84) k84) = ms zo (upd (lvM zo go le la (f7M zo go (feM zo go la he 48)) k84) k84 ((lvM zo go le la (f7M zo go (feM zo go la he 48)) k84) k84)) go le hd gn la := ms_uh (c := k84) (by omega) (by omega)
                      rw [en_36] at hP hD
                      have hP : va_P G vwCl [(o, .inr (7, fs_o)), (a_S, .inl (cI, 163, .inl (ms zo (upd (lvM zo go le la (f7M zo go (feM zo go la he 48)) k84) k84 ((lvM zo go le la (f7M zo go (feM zo go la he 48)) k84) k84)) go le hd gn la)))] H := hP
                      have hD : va_D A [(o, .inr (7, fs_o)), (a_S, .inl (cI, 163, .inl (ms zo (upd (lvM zo go le la (f7M zo go (feM zo go la he 48)) k84) k84 ((lvM zo go le la (f7M zo go (feM zo go la he 48)) k84) k84)) go le hd gn la)))] := hD
                      refine lv_iinc (v := nI (k84 + 1)) (lv' := [(1, .int (nI (k84 + 1))), (3, .int (allM zo go le la (lvM zo go le la (f7M zo go (feM zo go la he 48)) k84) k84)), (2, .int 0), (0, .ref o)]) hx hb dX7_sweeps_180 hl (k := 3) rfl (nI_add _ _) (by decide) rfl (fun ls hl => ?_)
                      refine lv_goto (tgt := 84) hx hb dX7_sweeps_183 (by decide) ?_
                      have er_37 : (ms zo (upd (lvM zo go le la (f7M zo go (feM zo go la he 48)) k84) k84 ((lvM zo go le la (f7M zo go (feM zo go la he 48)) k84) k84)) go le hd gn la) = (ms zo (lvM zo go le la (f7M zo go (feM zo go la he 48)) (k84 + 1)) go le hd gn la) := by rw [lvM_s]; simp [c_35]
                      exact ih84 (k84 + 1) (by omega) (by omega) (by omega)  H locs (by rw [← er_37]; exact hP) (by rw [← er_37]; exact hD) hS ls (lv_sub hl [3, 0] rfl)
                    · skip
                      refine lv_aload_n hx hb dX7_sweeps_159 rfl (lv_at hl 2 rfl) ?_
                      refine lv_iload_n hx hb dX7_sweeps_160 rfl (lv_at hl 3 rfl) ?_
                      refine lv_iconst (v := 1) hx hb dX7_sweeps_161 (by decide) ?_
                      refine cRV (As := [.int (nI k84), .int 1]) (rest := [.int (nI (48 + k84)), .ref a_S]) hx hb hml hown hts (c_X7_flowing l G E cI cZ zo (lvM zo go le la (f7M zo go (feM zo go la he 48)) k84) go le hd gn la k84 true o a_S fs_o h_o_S (by first | assumption | omega | simp [bI, c_3, c_4, c_8, c_10, c_25, c_26, c_33, c_35]) (allM_na c_35)) k_22_16 cal_X7_flowing ⟨Nat.le_of_ble_eq_true rfl, Nat.le_of_ble_eq_true rfl⟩ hE hlow hS hK [0, 1] rfl hP [0, 1] rfl 0 7 rfl rfl rfl hl.1 rfl (Nat.le_of_ble_eq_true rfl) dX7_sweeps_162 ⟨Nat.zero_le _, Nat.zero_le _⟩ ?_
                      refine lv_iload_n hx hb dX7_sweeps_165 rfl (lv_at hl 0 rfl) ?_
                      refine lv_idiv hx hb dX7_sweeps_166 (nz_nle c_35) ?_
                      refine lv_goto (tgt := 179) hx hb dX7_sweeps_167 (by decide) ?_
                      refine iastN (j := (48 + k84)) hx hb hK hP hD hS 1 0 rfl rfl (by omega) (by decide) dX7_sweeps_179 (fun H locs hP hD hS => ?_)
                      have hP : va_P G vwCl [(o, .inr (7, fs_o)), (a_S, .inl (cI, 163, .inl (upd (ms zo (lvM zo go le la (f7M zo go (feM zo go la he 48)) k84) go le hd gn la) (48 + k84) ((sumS (flM zo (lvM zo go le la (f7M zo go (feM zo go la he 48)) k84) go le k84 true) 4) / (allM zo go le la (lvM zo go le la (f7M zo go (feM zo go la he 48)) k84) k84)))))] H := hP
                      have hD : va_D A [(o, .inr (7, fs_o)), (a_S, .inl (cI, 163, .inl (upd (ms zo (lvM zo go le la (f7M zo go (feM zo go la he 48)) k84) go le hd gn la) (48 + k84) ((sumS (flM zo (lvM zo go le la (f7M zo go (feM zo go la he 48)) k84) go le k84 true) 4) / (allM zo go le la (lvM zo go le la (f7M zo go (feM zo go la he 48)) k84) k84)))))] := hD
                      have en_38 : upd (ms zo (lvM zo go le la (f7M zo go (feM zo go la he 48)) k84) go le hd gn la) (48 + k84) ((sumS (flM zo (lvM zo go le la (f7M zo go (feM zo go la he 48)) k84) go le k84 true) 4) / (allM zo go le la (lvM zo go le la (f7M zo go (feM zo go la he 48)) k84) k84)) = ms zo (upd (lvM zo go le la (f7M zo go (feM zo go la he 48)) k84) k84 ((sumS (flM zo (lvM zo go le la (f7M zo go (feM zo go la he 48)) k84) go le k84 true) 4) / (allM zo go le la (lvM zo go le la (f7M zo go (feM zo go la he 48)) k84) k84))) go le hd gn la := ms_uh (c := k84) (by omega) (by omega)
                      rw [en_38] at hP hD
                      have hP : va_P G vwCl [(o, .inr (7, fs_o)), (a_S, .inl (cI, 163, .inl (ms zo (upd (lvM zo go le la (f7M zo go (feM zo go la he 48)) k84) k84 ((sumS (flM zo (lvM zo go le la (f7M zo go (feM zo go la he 48)) k84) go le k84 true) 4) / (allM zo go le la (lvM zo go le la (f7M zo go (feM zo go la he 48)) k84) k84))) go le hd gn la)))] H := hP
                      have hD : va_D A [(o, .inr (7, fs_o)), (a_S, .inl (cI, 163, .inl (ms zo (upd (lvM zo go le la (f7M zo go (feM zo go la he 48)) k84) k84 ((sumS (flM zo (lvM zo go le la (f7M zo go (feM zo go la he 48)) k84) go le k84 true) 4) / (allM zo go le la (lvM zo go le la (f7M zo go (feM zo go la he 48)) k84) k84))) go le hd gn la)))] := hD
                      refine lv_iinc (v := nI (k84 + 1)) (lv' := [(1, .int (nI (k84 + 1))), (3, .int (allM zo go le la (lvM zo go le la (f7M zo go (feM zo go la he 48)) k84) k84)), (2, .int 0), (0, .ref o)]) hx hb dX7_sweeps_180 hl (k := 3) rfl (nI_add _ _) (by decide) rfl (fun ls hl => ?_)
                      refine lv_goto (tgt := 84) hx hb dX7_sweeps_183 (by decide) ?_
                      have er_39 : (ms zo (upd (lvM zo go le la (f7M zo go (feM zo go la he 48)) k84) k84 ((sumS (flM zo (lvM zo go le la (f7M zo go (feM zo go la he 48)) k84) go le k84 true) 4) / (allM zo go le la (lvM zo go le la (f7M zo go (feM zo go la he 48)) k84) k84))) go le hd gn la) = (ms zo (lvM zo go le la (f7M zo go (feM zo go la he 48)) (k84 + 1)) go le hd gn la) := by rw [lvM_s]; simp [c_35]
                      exact ih84 (k84 + 1) (by omega) (by omega) (by omega)  H locs (by rw [← er_39]; exact hP) (by rw [← er_39]; exact hD) hS ls (lv_sub hl [3, 0] rfl)
              · skip
                have c_25 : (k84 % 8) = 0 := (nI_eq (a := (k84 % 8)) (b := 0) (by omega) (by omega)).mp c_25
                refine lv_iload_n hx hb dX7_sweeps_103 rfl (lv_at hl 1 rfl) ?_
                refine lv_bipush (v := 8) hx hb dX7_sweeps_104 (by decide) ?_
                refine lv_idiv hx hb dX7_sweeps_106 (by decide) ?_
                refine top_eq (y := nI (k84 / 8)) (pk_div (a := k84) (d := 8) (by omega) (by omega) (by omega)) ?_
                refine lv_aload_n hx hb dX7_sweeps_107 rfl (lv_at hl 0 rfl) ?_
                refine va_get (D := G) (ci := 7) (v := .ref a_S) (C := RX7) (T := TX7) (N := 38) hx hb hts inlX7 hown hK hP 0 rfl rfl 2 (by decide) (hts (.fieldLink RX7 7 "EarthBanksModel" "s" "[I") k_6_2) (fun _ h9 => h9) h_o_S dX7_sweeps_108 ?_
                refine lv_sipush (v := 162) hx hb dX7_sweeps_111 (by decide) ?_
                refine ialdN (j := 162) hx hb hK hP 1 0 rfl rfl (by omega) (by decide) dX7_sweeps_114 ?_
                refine top_eq (y := la) (ms_a (by omega)) ?_
                refine lv_icmp_ge (tgt := 122) hx hb dX7_sweeps_115 (by decide) (fun c_40 => ?_) (fun c_40 => ?_)
                · skip
                  have c_40 := i_nlt c_40
                  refine lv_iconst (v := 0) hx hb dX7_sweeps_122 (by decide) ?_
                  refine lv_istore_n (lv' := [(2, .int 0), (0, .ref o), (1, .int (nI k84))]) hx hb dX7_sweeps_123 rfl hl (by decide) rfl (fun ls hl => ?_)
                  refine lv_aload_n hx hb dX7_sweeps_124 rfl (lv_at hl 1 rfl) ?_
                  refine lv_iload_n hx hb dX7_sweeps_125 rfl (lv_at hl 2 rfl) ?_
                  refine cRV (As := [.int (nI k84)]) (rest := []) hx hb hml hown hts (c_X7_isEarth l G E cI cZ zo (lvM zo go le la (f7M zo go (feM zo go la he 48)) k84) go le hd gn la k84 o a_S fs_o h_o_S (by first | assumption | omega | simp [bI, c_3, c_4, c_8, c_10, c_25, c_40])) k_16_1 cal_X7_isEarth ⟨Nat.le_of_ble_eq_true rfl, Nat.le_of_ble_eq_true rfl⟩ hE hlow hS hK [0, 1] rfl hP [0, 1] rfl 0 7 rfl rfl rfl hl.1 rfl (Nat.le_of_ble_eq_true rfl) dX7_sweeps_126 ⟨Nat.zero_le _, Nat.zero_le _⟩ ?_
                  refine lv_if_eq (tgt := 145) hx hb dX7_sweeps_129 (by decide) (fun c_41 => ?_) (fun c_41 => ?_)
                  · skip
                    have c_41 : (isES zo go k84) = false := bI_f c_41
                    refine lv_iconst (v := 0) hx hb dX7_sweeps_145 (by decide) ?_
                    refine lv_istore_n (lv' := [(3, .int 0), (2, .int 0), (0, .ref o), (1, .int (nI k84))]) hx hb dX7_sweeps_146 rfl hl (by decide) rfl (fun ls hl => ?_)
                    have ea_42 : (0 : Int32) = (allM zo go le la (lvM zo go le la (f7M zo go (feM zo go la he 48)) k84) k84) := by simp [allM, lkS, c_10, eq_true c_25, c_40, c_41]
                    have hl : lv_has ls 4 [(3, .int (allM zo go le la (lvM zo go le la (f7M zo go (feM zo go la he 48)) k84) k84)), (2, .int 0), (0, .ref o), (1, .int (nI k84))] := by rw [← ea_42]; exact hl
                    refine lv_aload_n hx hb dX7_sweeps_147 rfl (lv_at hl 2 rfl) ?_
                    refine va_get (D := G) (ci := 7) (v := .ref a_S) (C := RX7) (T := TX7) (N := 38) hx hb hts inlX7 hown hK hP 0 rfl rfl 2 (by decide) (hts (.fieldLink RX7 7 "EarthBanksModel" "s" "[I") k_6_2) (fun _ h9 => h9) h_o_S dX7_sweeps_148 ?_
                    refine lv_bipush (v := 48) hx hb dX7_sweeps_151 (by decide) ?_
                    refine lv_iload_n hx hb dX7_sweeps_153 rfl (lv_at hl 3 rfl) ?_
                    refine lv_iadd hx hb dX7_sweeps_154 ?_
                    refine top_eq (y := nI (48 + k84)) (nI_add _ _) ?_
                    refine lv_iload_n hx hb dX7_sweeps_155 rfl (lv_at hl 0 rfl) ?_
                    refine lv_if_le (tgt := 170) hx hb dX7_sweeps_156 (by decide) (fun c_43 => ?_) (fun c_43 => ?_)
                    · skip
                      refine lv_aload_n hx hb dX7_sweeps_170 rfl (lv_at hl 2 rfl) ?_
                      refine va_get (D := G) (ci := 7) (v := .ref a_S) (C := RX7) (T := TX7) (N := 38) hx hb hts inlX7 hown hK hP 0 rfl rfl 2 (by decide) (hts (.fieldLink RX7 7 "EarthBanksModel" "s" "[I") k_6_2) (fun _ h9 => h9) h_o_S dX7_sweeps_171 ?_
                      refine lv_bipush (v := 48) hx hb dX7_sweeps_174 (by decide) ?_
                      refine lv_iload_n hx hb dX7_sweeps_176 rfl (lv_at hl 3 rfl) ?_
                      refine lv_iadd hx hb dX7_sweeps_177 ?_
                      refine top_eq (y := nI (48 + k84)) (nI_add _ _) ?_
                      refine ialdN (j := (48 + k84)) hx hb hK hP 1 0 rfl rfl (by omega) (by decide) dX7_sweeps_178 ?_
                      refine top_eq (y := ((lvM zo go le la (f7M zo go (feM zo go la he 48)) k84) k84)) (ms_h (c := k84) (by omega) (by omega)) ?_
                      refine iastN (j := (48 + k84)) hx hb hK hP hD hS 1 0 rfl rfl (by omega) (by decide) dX7_sweeps_179 (fun H locs hP hD hS => ?_)
                      have hP : va_P G vwCl [(o, .inr (7, fs_o)), (a_S, .inl (cI, 163, .inl (upd (ms zo (lvM zo go le la (f7M zo go (feM zo go la he 48)) k84) go le hd gn la) (48 + k84) ((lvM zo go le la (f7M zo go (feM zo go la he 48)) k84) k84))))] H := hP
                      have hD : va_D A [(o, .inr (7, fs_o)), (a_S, .inl (cI, 163, .inl (upd (ms zo (lvM zo go le la (f7M zo go (feM zo go la he 48)) k84) go le hd gn la) (48 + k84) ((lvM zo go le la (f7M zo go (feM zo go la he 48)) k84) k84))))] := hD
                      have en_44 : upd (ms zo (lvM zo go le la (f7M zo go (feM zo go la he 48)) k84) go le hd gn la) (48 + k84) ((lvM zo go le la (f7M zo go (feM zo go la he 48)) k84) k84) = ms zo (upd (lvM zo go le la (f7M zo go (feM zo go la he 48)) k84) k84 ((lvM zo go le la (f7M zo go (feM zo go la he 48)) k84) k84)) go le hd gn la := ms_uh (c := k84) (by omega) (by omega)
                      rw [en_44] at hP hD
                      have hP : va_P G vwCl [(o, .inr (7, fs_o)), (a_S, .inl (cI, 163, .inl (ms zo (upd (lvM zo go le la (f7M zo go (feM zo go la he 48)) k84) k84 ((lvM zo go le la (f7M zo go (feM zo go la he 48)) k84) k84)) go le hd gn la)))] H := hP
                      have hD : va_D A [(o, .inr (7, fs_o)), (a_S, .inl (cI, 163, .inl (ms zo (upd (lvM zo go le la (f7M zo go (feM zo go la he 48)) k84) k84 ((lvM zo go le la (f7M zo go (feM zo go la he 48)) k84) k84)) go le hd gn la)))] := hD
                      refine lv_iinc (v := nI (k84 + 1)) (lv' := [(1, .int (nI (k84 + 1))), (3, .int (allM zo go le la (lvM zo go le la (f7M zo go (feM zo go la he 48)) k84) k84)), (2, .int 0), (0, .ref o)]) hx hb dX7_sweeps_180 hl (k := 3) rfl (nI_add _ _) (by decide) rfl (fun ls hl => ?_)
                      refine lv_goto (tgt := 84) hx hb dX7_sweeps_183 (by decide) ?_
                      have er_45 : (ms zo (upd (lvM zo go le la (f7M zo go (feM zo go la he 48)) k84) k84 ((lvM zo go le la (f7M zo go (feM zo go la he 48)) k84) k84)) go le hd gn la) = (ms zo (lvM zo go le la (f7M zo go (feM zo go la he 48)) (k84 + 1)) go le hd gn la) := by rw [lvM_s]; simp [c_43]
                      exact ih84 (k84 + 1) (by omega) (by omega) (by omega)  H locs (by rw [← er_45]; exact hP) (by rw [← er_45]; exact hD) hS ls (lv_sub hl [3, 0] rfl)
                    · skip
                      refine lv_aload_n hx hb dX7_sweeps_159 rfl (lv_at hl 2 rfl) ?_
                      refine lv_iload_n hx hb dX7_sweeps_160 rfl (lv_at hl 3 rfl) ?_
                      refine lv_iconst (v := 1) hx hb dX7_sweeps_161 (by decide) ?_
                      refine cRV (As := [.int (nI k84), .int 1]) (rest := [.int (nI (48 + k84)), .ref a_S]) hx hb hml hown hts (c_X7_flowing l G E cI cZ zo (lvM zo go le la (f7M zo go (feM zo go la he 48)) k84) go le hd gn la k84 true o a_S fs_o h_o_S (by first | assumption | omega | simp [bI, c_3, c_4, c_8, c_10, c_25, c_40, c_41, c_43]) (allM_na c_43)) k_22_16 cal_X7_flowing ⟨Nat.le_of_ble_eq_true rfl, Nat.le_of_ble_eq_true rfl⟩ hE hlow hS hK [0, 1] rfl hP [0, 1] rfl 0 7 rfl rfl rfl hl.1 rfl (Nat.le_of_ble_eq_true rfl) dX7_sweeps_162 ⟨Nat.zero_le _, Nat.zero_le _⟩ ?_
                      refine lv_iload_n hx hb dX7_sweeps_165 rfl (lv_at hl 0 rfl) ?_
                      refine lv_idiv hx hb dX7_sweeps_166 (nz_nle c_43) ?_
                      refine lv_goto (tgt := 179) hx hb dX7_sweeps_167 (by decide) ?_
                      refine iastN (j := (48 + k84)) hx hb hK hP hD hS 1 0 rfl rfl (by omega) (by decide) dX7_sweeps_179 (fun H locs hP hD hS => ?_)
                      have hP : va_P G vwCl [(o, .inr (7, fs_o)), (a_S, .inl (cI, 163, .inl (upd (ms zo (lvM zo go le la (f7M zo go (feM zo go la he 48)) k84) go le hd gn la) (48 + k84) ((sumS (flM zo (lvM zo go le la (f7M zo go (feM zo go la he 48)) k84) go le k84 true) 4) / (allM zo go le la (lvM zo go le la (f7M zo go (feM zo go la he 48)) k84) k84)))))] H := hP
                      have hD : va_D A [(o, .inr (7, fs_o)), (a_S, .inl (cI, 163, .inl (upd (ms zo (lvM zo go le la (f7M zo go (feM zo go la he 48)) k84) go le hd gn la) (48 + k84) ((sumS (flM zo (lvM zo go le la (f7M zo go (feM zo go la he 48)) k84) go le k84 true) 4) / (allM zo go le la (lvM zo go le la (f7M zo go (feM zo go la he 48)) k84) k84)))))] := hD
                      have en_46 : upd (ms zo (lvM zo go le la (f7M zo go (feM zo go la he 48)) k84) go le hd gn la) (48 + k84) ((sumS (flM zo (lvM zo go le la (f7M zo go (feM zo go la he 48)) k84) go le k84 true) 4) / (allM zo go le la (lvM zo go le la (f7M zo go (feM zo go la he 48)) k84) k84)) = ms zo (upd (lvM zo go le la (f7M zo go (feM zo go la he 48)) k84) k84 ((sumS (flM zo (lvM zo go le la (f7M zo go (feM zo go la he 48)) k84) go le k84 true) 4) / (allM zo go le la (lvM zo go le la (f7M zo go (feM zo go la he 48)) k84) k84))) go le hd gn la := ms_uh (c := k84) (by omega) (by omega)
                      rw [en_46] at hP hD
                      have hP : va_P G vwCl [(o, .inr (7, fs_o)), (a_S, .inl (cI, 163, .inl (ms zo (upd (lvM zo go le la (f7M zo go (feM zo go la he 48)) k84) k84 ((sumS (flM zo (lvM zo go le la (f7M zo go (feM zo go la he 48)) k84) go le k84 true) 4) / (allM zo go le la (lvM zo go le la (f7M zo go (feM zo go la he 48)) k84) k84))) go le hd gn la)))] H := hP
                      have hD : va_D A [(o, .inr (7, fs_o)), (a_S, .inl (cI, 163, .inl (ms zo (upd (lvM zo go le la (f7M zo go (feM zo go la he 48)) k84) k84 ((sumS (flM zo (lvM zo go le la (f7M zo go (feM zo go la he 48)) k84) go le k84 true) 4) / (allM zo go le la (lvM zo go le la (f7M zo go (feM zo go la he 48)) k84) k84))) go le hd gn la)))] := hD
                      refine lv_iinc (v := nI (k84 + 1)) (lv' := [(1, .int (nI (k84 + 1))), (3, .int (allM zo go le la (lvM zo go le la (f7M zo go (feM zo go la he 48)) k84) k84)), (2, .int 0), (0, .ref o)]) hx hb dX7_sweeps_180 hl (k := 3) rfl (nI_add _ _) (by decide) rfl (fun ls hl => ?_)
                      refine lv_goto (tgt := 84) hx hb dX7_sweeps_183 (by decide) ?_
                      have er_47 : (ms zo (upd (lvM zo go le la (f7M zo go (feM zo go la he 48)) k84) k84 ((sumS (flM zo (lvM zo go le la (f7M zo go (feM zo go la he 48)) k84) go le k84 true) 4) / (allM zo go le la (lvM zo go le la (f7M zo go (feM zo go la he 48)) k84) k84))) go le hd gn la) = (ms zo (lvM zo go le la (f7M zo go (feM zo go la he 48)) (k84 + 1)) go le hd gn la) := by rw [lvM_s]; simp [c_43]
                      exact ih84 (k84 + 1) (by omega) (by omega) (by omega)  H locs (by rw [← er_47]; exact hP) (by rw [← er_47]; exact hD) hS ls (lv_sub hl [3, 0] rfl)
                  · skip
                    have c_41 : (isES zo go k84) = true := bI_t c_41
                    refine lv_iload_n hx hb dX7_sweeps_132 rfl (lv_at hl 0 rfl) ?_
                    refine lv_if_ne (tgt := 145) hx hb dX7_sweeps_133 (by decide) (fun c_48 => ?_) (fun c_48 => ?_)
                    · skip
                      exact absurd (by decide) c_48
                    · skip
                      refine lv_aload_n hx hb dX7_sweeps_136 rfl (lv_at hl 1 rfl) ?_
                      refine lv_iload_n hx hb dX7_sweeps_137 rfl (lv_at hl 2 rfl) ?_
                      refine lv_iconst (v := 0) hx hb dX7_sweeps_138 (by decide) ?_
                      refine cRV (As := [.int (nI k84), .int 0]) (rest := []) hx hb hml hown hts (c_X7_flowing l G E cI cZ zo (lvM zo go le la (f7M zo go (feM zo go la he 48)) k84) go le hd gn la k84 false o a_S fs_o h_o_S (by first | assumption | omega | simp [bI, c_3, c_4, c_8, c_10, c_25, c_40, c_41, c_48]) (isE_na c_41)) k_22_16 cal_X7_flowing ⟨Nat.le_of_ble_eq_true rfl, Nat.le_of_ble_eq_true rfl⟩ hE hlow hS hK [0, 1] rfl hP [0, 1] rfl 0 7 rfl rfl rfl hl.1 rfl (Nat.le_of_ble_eq_true rfl) dX7_sweeps_139 ⟨Nat.zero_le _, Nat.zero_le _⟩ ?_
                      refine lv_goto (tgt := 146) hx hb dX7_sweeps_142 (by decide) ?_
                      refine lv_istore_n (lv' := [(3, .int (sumS (flM zo (lvM zo go le la (f7M zo go (feM zo go la he 48)) k84) go le k84 false) 4)), (2, .int 0), (0, .ref o), (1, .int (nI k84))]) hx hb dX7_sweeps_146 rfl hl (by decide) rfl (fun ls hl => ?_)
                      have ea_49 : (sumS (flM zo (lvM zo go le la (f7M zo go (feM zo go la he 48)) k84) go le k84 false) 4 : Int32) = (allM zo go le la (lvM zo go le la (f7M zo go (feM zo go la he 48)) k84) k84) := by simp [allM, lkS, c_10, eq_true c_25, c_40, c_41, eq_true c_48]
                      have hl : lv_has ls 4 [(3, .int (allM zo go le la (lvM zo go le la (f7M zo go (feM zo go la he 48)) k84) k84)), (2, .int 0), (0, .ref o), (1, .int (nI k84))] := by rw [← ea_49]; exact hl
                      refine lv_aload_n hx hb dX7_sweeps_147 rfl (lv_at hl 2 rfl) ?_
                      refine va_get (D := G) (ci := 7) (v := .ref a_S) (C := RX7) (T := TX7) (N := 38) hx hb hts inlX7 hown hK hP 0 rfl rfl 2 (by decide) (hts (.fieldLink RX7 7 "EarthBanksModel" "s" "[I") k_6_2) (fun _ h9 => h9) h_o_S dX7_sweeps_148 ?_
                      refine lv_bipush (v := 48) hx hb dX7_sweeps_151 (by decide) ?_
                      refine lv_iload_n hx hb dX7_sweeps_153 rfl (lv_at hl 3 rfl) ?_
                      refine lv_iadd hx hb dX7_sweeps_154 ?_
                      refine top_eq (y := nI (48 + k84)) (nI_add _ _) ?_
                      refine lv_iload_n hx hb dX7_sweeps_155 rfl (lv_at hl 0 rfl) ?_
                      refine lv_if_le (tgt := 170) hx hb dX7_sweeps_156 (by decide) (fun c_50 => ?_) (fun c_50 => ?_)
                      · skip
                        refine lv_aload_n hx hb dX7_sweeps_170 rfl (lv_at hl 2 rfl) ?_
                        refine va_get (D := G) (ci := 7) (v := .ref a_S) (C := RX7) (T := TX7) (N := 38) hx hb hts inlX7 hown hK hP 0 rfl rfl 2 (by decide) (hts (.fieldLink RX7 7 "EarthBanksModel" "s" "[I") k_6_2) (fun _ h9 => h9) h_o_S dX7_sweeps_171 ?_
                        refine lv_bipush (v := 48) hx hb dX7_sweeps_174 (by decide) ?_
                        refine lv_iload_n hx hb dX7_sweeps_176 rfl (lv_at hl 3 rfl) ?_
                        refine lv_iadd hx hb dX7_sweeps_177 ?_
                        refine top_eq (y := nI (48 + k84)) (nI_add _ _) ?_
                        refine ialdN (j := (48 + k84)) hx hb hK hP 1 0 rfl rfl (by omega) (by decide) dX7_sweeps_178 ?_
                        refine top_eq (y := ((lvM zo go le la (f7M zo go (feM zo go la he 48)) k84) k84)) (ms_h (c := k84) (by omega) (by omega)) ?_
                        refine iastN (j := (48 + k84)) hx hb hK hP hD hS 1 0 rfl rfl (by omega) (by decide) dX7_sweeps_179 (fun H locs hP hD hS => ?_)
                        have hP : va_P G vwCl [(o, .inr (7, fs_o)), (a_S, .inl (cI, 163, .inl (upd (ms zo (lvM zo go le la (f7M zo go (feM zo go la he 48)) k84) go le hd gn la) (48 + k84) ((lvM zo go le la (f7M zo go (feM zo go la he 48)) k84) k84))))] H := hP
                        have hD : va_D A [(o, .inr (7, fs_o)), (a_S, .inl (cI, 163, .inl (upd (ms zo (lvM zo go le la (f7M zo go (feM zo go la he 48)) k84) go le hd gn la) (48 + k84) ((lvM zo go le la (f7M zo go (feM zo go la he 48)) k84) k84))))] := hD
                        have en_51 : upd (ms zo (lvM zo go le la (f7M zo go (feM zo go la he 48)) k84) go le hd gn la) (48 + k84) ((lvM zo go le la (f7M zo go (feM zo go la he 48)) k84) k84) = ms zo (upd (lvM zo go le la (f7M zo go (feM zo go la he 48)) k84) k84 ((lvM zo go le la (f7M zo go (feM zo go la he 48)) k84) k84)) go le hd gn la := ms_uh (c := k84) (by omega) (by omega)
                        rw [en_51] at hP hD
                        have hP : va_P G vwCl [(o, .inr (7, fs_o)), (a_S, .inl (cI, 163, .inl (ms zo (upd (lvM zo go le la (f7M zo go (feM zo go la he 48)) k84) k84 ((lvM zo go le la (f7M zo go (feM zo go la he 48)) k84) k84)) go le hd gn la)))] H := hP
                        have hD : va_D A [(o, .inr (7, fs_o)), (a_S, .inl (cI, 163, .inl (ms zo (upd (lvM zo go le la (f7M zo go (feM zo go la he 48)) k84) k84 ((lvM zo go le la (f7M zo go (feM zo go la he 48)) k84) k84)) go le hd gn la)))] := hD
                        refine lv_iinc (v := nI (k84 + 1)) (lv' := [(1, .int (nI (k84 + 1))), (3, .int (allM zo go le la (lvM zo go le la (f7M zo go (feM zo go la he 48)) k84) k84)), (2, .int 0), (0, .ref o)]) hx hb dX7_sweeps_180 hl (k := 3) rfl (nI_add _ _) (by decide) rfl (fun ls hl => ?_)
                        refine lv_goto (tgt := 84) hx hb dX7_sweeps_183 (by decide) ?_
                        have er_52 : (ms zo (upd (lvM zo go le la (f7M zo go (feM zo go la he 48)) k84) k84 ((lvM zo go le la (f7M zo go (feM zo go la he 48)) k84) k84)) go le hd gn la) = (ms zo (lvM zo go le la (f7M zo go (feM zo go la he 48)) (k84 + 1)) go le hd gn la) := by rw [lvM_s]; simp [c_50]
                        exact ih84 (k84 + 1) (by omega) (by omega) (by omega)  H locs (by rw [← er_52]; exact hP) (by rw [← er_52]; exact hD) hS ls (lv_sub hl [3, 0] rfl)
                      · skip
                        refine lv_aload_n hx hb dX7_sweeps_159 rfl (lv_at hl 2 rfl) ?_
                        refine lv_iload_n hx hb dX7_sweeps_160 rfl (lv_at hl 3 rfl) ?_
                        refine lv_iconst (v := 1) hx hb dX7_sweeps_161 (by decide) ?_
                        refine cRV (As := [.int (nI k84), .int 1]) (rest := [.int (nI (48 + k84)), .ref a_S]) hx hb hml hown hts (c_X7_flowing l G E cI cZ zo (lvM zo go le la (f7M zo go (feM zo go la he 48)) k84) go le hd gn la k84 true o a_S fs_o h_o_S (by first | assumption | omega | simp [bI, c_3, c_4, c_8, c_10, c_25, c_40, c_41, c_48, c_50]) (allM_na c_50)) k_22_16 cal_X7_flowing ⟨Nat.le_of_ble_eq_true rfl, Nat.le_of_ble_eq_true rfl⟩ hE hlow hS hK [0, 1] rfl hP [0, 1] rfl 0 7 rfl rfl rfl hl.1 rfl (Nat.le_of_ble_eq_true rfl) dX7_sweeps_162 ⟨Nat.zero_le _, Nat.zero_le _⟩ ?_
                        refine lv_iload_n hx hb dX7_sweeps_165 rfl (lv_at hl 0 rfl) ?_
                        refine lv_idiv hx hb dX7_sweeps_166 (nz_nle c_50) ?_
                        refine lv_goto (tgt := 179) hx hb dX7_sweeps_167 (by decide) ?_
                        refine iastN (j := (48 + k84)) hx hb hK hP hD hS 1 0 rfl rfl (by omega) (by decide) dX7_sweeps_179 (fun H locs hP hD hS => ?_)
                        have hP : va_P G vwCl [(o, .inr (7, fs_o)), (a_S, .inl (cI, 163, .inl (upd (ms zo (lvM zo go le la (f7M zo go (feM zo go la he 48)) k84) go le hd gn la) (48 + k84) ((sumS (flM zo (lvM zo go le la (f7M zo go (feM zo go la he 48)) k84) go le k84 true) 4) / (allM zo go le la (lvM zo go le la (f7M zo go (feM zo go la he 48)) k84) k84)))))] H := hP
                        have hD : va_D A [(o, .inr (7, fs_o)), (a_S, .inl (cI, 163, .inl (upd (ms zo (lvM zo go le la (f7M zo go (feM zo go la he 48)) k84) go le hd gn la) (48 + k84) ((sumS (flM zo (lvM zo go le la (f7M zo go (feM zo go la he 48)) k84) go le k84 true) 4) / (allM zo go le la (lvM zo go le la (f7M zo go (feM zo go la he 48)) k84) k84)))))] := hD
                        have en_53 : upd (ms zo (lvM zo go le la (f7M zo go (feM zo go la he 48)) k84) go le hd gn la) (48 + k84) ((sumS (flM zo (lvM zo go le la (f7M zo go (feM zo go la he 48)) k84) go le k84 true) 4) / (allM zo go le la (lvM zo go le la (f7M zo go (feM zo go la he 48)) k84) k84)) = ms zo (upd (lvM zo go le la (f7M zo go (feM zo go la he 48)) k84) k84 ((sumS (flM zo (lvM zo go le la (f7M zo go (feM zo go la he 48)) k84) go le k84 true) 4) / (allM zo go le la (lvM zo go le la (f7M zo go (feM zo go la he 48)) k84) k84))) go le hd gn la := ms_uh (c := k84) (by omega) (by omega)
                        rw [en_53] at hP hD
                        have hP : va_P G vwCl [(o, .inr (7, fs_o)), (a_S, .inl (cI, 163, .inl (ms zo (upd (lvM zo go le la (f7M zo go (feM zo go la he 48)) k84) k84 ((sumS (flM zo (lvM zo go le la (f7M zo go (feM zo go la he 48)) k84) go le k84 true) 4) / (allM zo go le la (lvM zo go le la (f7M zo go (feM zo go la he 48)) k84) k84))) go le hd gn la)))] H := hP
                        have hD : va_D A [(o, .inr (7, fs_o)), (a_S, .inl (cI, 163, .inl (ms zo (upd (lvM zo go le la (f7M zo go (feM zo go la he 48)) k84) k84 ((sumS (flM zo (lvM zo go le la (f7M zo go (feM zo go la he 48)) k84) go le k84 true) 4) / (allM zo go le la (lvM zo go le la (f7M zo go (feM zo go la he 48)) k84) k84))) go le hd gn la)))] := hD
                        refine lv_iinc (v := nI (k84 + 1)) (lv' := [(1, .int (nI (k84 + 1))), (3, .int (allM zo go le la (lvM zo go le la (f7M zo go (feM zo go la he 48)) k84) k84)), (2, .int 0), (0, .ref o)]) hx hb dX7_sweeps_180 hl (k := 3) rfl (nI_add _ _) (by decide) rfl (fun ls hl => ?_)
                        refine lv_goto (tgt := 84) hx hb dX7_sweeps_183 (by decide) ?_
                        have er_54 : (ms zo (upd (lvM zo go le la (f7M zo go (feM zo go la he 48)) k84) k84 ((sumS (flM zo (lvM zo go le la (f7M zo go (feM zo go la he 48)) k84) go le k84 true) 4) / (allM zo go le la (lvM zo go le la (f7M zo go (feM zo go la he 48)) k84) k84))) go le hd gn la) = (ms zo (lvM zo go le la (f7M zo go (feM zo go la he 48)) (k84 + 1)) go le hd gn la) := by rw [lvM_s]; simp [c_50]
                        exact ih84 (k84 + 1) (by omega) (by omega) (by omega)  H locs (by rw [← er_54]; exact hP) (by rw [← er_54]; exact hD) hS ls (lv_sub hl [3, 0] rfl)
                · skip
                  have c_40 := i_lt c_40
                  refine lv_iconst (v := 1) hx hb dX7_sweeps_118 (by decide) ?_
                  refine lv_goto (tgt := 123) hx hb dX7_sweeps_119 (by decide) ?_
                  refine lv_istore_n (lv' := [(2, .int 1), (0, .ref o), (1, .int (nI k84))]) hx hb dX7_sweeps_123 rfl hl (by decide) rfl (fun ls hl => ?_)
                  refine lv_aload_n hx hb dX7_sweeps_124 rfl (lv_at hl 1 rfl) ?_
                  refine lv_iload_n hx hb dX7_sweeps_125 rfl (lv_at hl 2 rfl) ?_
                  refine cRV (As := [.int (nI k84)]) (rest := []) hx hb hml hown hts (c_X7_isEarth l G E cI cZ zo (lvM zo go le la (f7M zo go (feM zo go la he 48)) k84) go le hd gn la k84 o a_S fs_o h_o_S (by first | assumption | omega | simp [bI, c_3, c_4, c_8, c_10, c_25, c_40])) k_16_1 cal_X7_isEarth ⟨Nat.le_of_ble_eq_true rfl, Nat.le_of_ble_eq_true rfl⟩ hE hlow hS hK [0, 1] rfl hP [0, 1] rfl 0 7 rfl rfl rfl hl.1 rfl (Nat.le_of_ble_eq_true rfl) dX7_sweeps_126 ⟨Nat.zero_le _, Nat.zero_le _⟩ ?_
                  refine lv_if_eq (tgt := 145) hx hb dX7_sweeps_129 (by decide) (fun c_55 => ?_) (fun c_55 => ?_)
                  · skip
                    have c_55 : (isES zo go k84) = false := bI_f c_55
                    refine lv_iconst (v := 0) hx hb dX7_sweeps_145 (by decide) ?_
                    refine lv_istore_n (lv' := [(3, .int 0), (2, .int 1), (0, .ref o), (1, .int (nI k84))]) hx hb dX7_sweeps_146 rfl hl (by decide) rfl (fun ls hl => ?_)
                    have ea_56 : (0 : Int32) = (allM zo go le la (lvM zo go le la (f7M zo go (feM zo go la he 48)) k84) k84) := by simp [allM, lkS, c_10, eq_true c_25, c_40, c_55]
                    have hl : lv_has ls 4 [(3, .int (allM zo go le la (lvM zo go le la (f7M zo go (feM zo go la he 48)) k84) k84)), (2, .int 1), (0, .ref o), (1, .int (nI k84))] := by rw [← ea_56]; exact hl
                    refine lv_aload_n hx hb dX7_sweeps_147 rfl (lv_at hl 2 rfl) ?_
                    refine va_get (D := G) (ci := 7) (v := .ref a_S) (C := RX7) (T := TX7) (N := 38) hx hb hts inlX7 hown hK hP 0 rfl rfl 2 (by decide) (hts (.fieldLink RX7 7 "EarthBanksModel" "s" "[I") k_6_2) (fun _ h9 => h9) h_o_S dX7_sweeps_148 ?_
                    refine lv_bipush (v := 48) hx hb dX7_sweeps_151 (by decide) ?_
                    refine lv_iload_n hx hb dX7_sweeps_153 rfl (lv_at hl 3 rfl) ?_
                    refine lv_iadd hx hb dX7_sweeps_154 ?_
                    refine top_eq (y := nI (48 + k84)) (nI_add _ _) ?_
                    refine lv_iload_n hx hb dX7_sweeps_155 rfl (lv_at hl 0 rfl) ?_
                    refine lv_if_le (tgt := 170) hx hb dX7_sweeps_156 (by decide) (fun c_57 => ?_) (fun c_57 => ?_)
                    · skip
                      refine lv_aload_n hx hb dX7_sweeps_170 rfl (lv_at hl 2 rfl) ?_
                      refine va_get (D := G) (ci := 7) (v := .ref a_S) (C := RX7) (T := TX7) (N := 38) hx hb hts inlX7 hown hK hP 0 rfl rfl 2 (by decide) (hts (.fieldLink RX7 7 "EarthBanksModel" "s" "[I") k_6_2) (fun _ h9 => h9) h_o_S dX7_sweeps_171 ?_
                      refine lv_bipush (v := 48) hx hb dX7_sweeps_174 (by decide) ?_
                      refine lv_iload_n hx hb dX7_sweeps_176 rfl (lv_at hl 3 rfl) ?_
                      refine lv_iadd hx hb dX7_sweeps_177 ?_
                      refine top_eq (y := nI (48 + k84)) (nI_add _ _) ?_
                      refine ialdN (j := (48 + k84)) hx hb hK hP 1 0 rfl rfl (by omega) (by decide) dX7_sweeps_178 ?_
                      refine top_eq (y := ((lvM zo go le la (f7M zo go (feM zo go la he 48)) k84) k84)) (ms_h (c := k84) (by omega) (by omega)) ?_
                      refine iastN (j := (48 + k84)) hx hb hK hP hD hS 1 0 rfl rfl (by omega) (by decide) dX7_sweeps_179 (fun H locs hP hD hS => ?_)
                      have hP : va_P G vwCl [(o, .inr (7, fs_o)), (a_S, .inl (cI, 163, .inl (upd (ms zo (lvM zo go le la (f7M zo go (feM zo go la he 48)) k84) go le hd gn la) (48 + k84) ((lvM zo go le la (f7M zo go (feM zo go la he 48)) k84) k84))))] H := hP
                      have hD : va_D A [(o, .inr (7, fs_o)), (a_S, .inl (cI, 163, .inl (upd (ms zo (lvM zo go le la (f7M zo go (feM zo go la he 48)) k84) go le hd gn la) (48 + k84) ((lvM zo go le la (f7M zo go (feM zo go la he 48)) k84) k84))))] := hD
                      have en_58 : upd (ms zo (lvM zo go le la (f7M zo go (feM zo go la he 48)) k84) go le hd gn la) (48 + k84) ((lvM zo go le la (f7M zo go (feM zo go la he 48)) k84) k84) = ms zo (upd (lvM zo go le la (f7M zo go (feM zo go la he 48)) k84) k84 ((lvM zo go le la (f7M zo go (feM zo go la he 48)) k84) k84)) go le hd gn la := ms_uh (c := k84) (by omega) (by omega)
                      rw [en_58] at hP hD
                      have hP : va_P G vwCl [(o, .inr (7, fs_o)), (a_S, .inl (cI, 163, .inl (ms zo (upd (lvM zo go le la (f7M zo go (feM zo go la he 48)) k84) k84 ((lvM zo go le la (f7M zo go (feM zo go la he 48)) k84) k84)) go le hd gn la)))] H := hP
                      have hD : va_D A [(o, .inr (7, fs_o)), (a_S, .inl (cI, 163, .inl (ms zo (upd (lvM zo go le la (f7M zo go (feM zo go la he 48)) k84) k84 ((lvM zo go le la (f7M zo go (feM zo go la he 48)) k84) k84)) go le hd gn la)))] := hD
                      refine lv_iinc (v := nI (k84 + 1)) (lv' := [(1, .int (nI (k84 + 1))), (3, .int (allM zo go le la (lvM zo go le la (f7M zo go (feM zo go la he 48)) k84) k84)), (2, .int 1), (0, .ref o)]) hx hb dX7_sweeps_180 hl (k := 3) rfl (nI_add _ _) (by decide) rfl (fun ls hl => ?_)
                      refine lv_goto (tgt := 84) hx hb dX7_sweeps_183 (by decide) ?_
                      have er_59 : (ms zo (upd (lvM zo go le la (f7M zo go (feM zo go la he 48)) k84) k84 ((lvM zo go le la (f7M zo go (feM zo go la he 48)) k84) k84)) go le hd gn la) = (ms zo (lvM zo go le la (f7M zo go (feM zo go la he 48)) (k84 + 1)) go le hd gn la) := by rw [lvM_s]; simp [c_57]
                      exact ih84 (k84 + 1) (by omega) (by omega) (by omega)  H locs (by rw [← er_59]; exact hP) (by rw [← er_59]; exact hD) hS ls (lv_sub hl [3, 0] rfl)
                    · skip
                      refine lv_aload_n hx hb dX7_sweeps_159 rfl (lv_at hl 2 rfl) ?_
                      refine lv_iload_n hx hb dX7_sweeps_160 rfl (lv_at hl 3 rfl) ?_
                      refine lv_iconst (v := 1) hx hb dX7_sweeps_161 (by decide) ?_
                      refine cRV (As := [.int (nI k84), .int 1]) (rest := [.int (nI (48 + k84)), .ref a_S]) hx hb hml hown hts (c_X7_flowing l G E cI cZ zo (lvM zo go le la (f7M zo go (feM zo go la he 48)) k84) go le hd gn la k84 true o a_S fs_o h_o_S (by first | assumption | omega | simp [bI, c_3, c_4, c_8, c_10, c_25, c_40, c_55, c_57]) (allM_na c_57)) k_22_16 cal_X7_flowing ⟨Nat.le_of_ble_eq_true rfl, Nat.le_of_ble_eq_true rfl⟩ hE hlow hS hK [0, 1] rfl hP [0, 1] rfl 0 7 rfl rfl rfl hl.1 rfl (Nat.le_of_ble_eq_true rfl) dX7_sweeps_162 ⟨Nat.zero_le _, Nat.zero_le _⟩ ?_
                      refine lv_iload_n hx hb dX7_sweeps_165 rfl (lv_at hl 0 rfl) ?_
                      refine lv_idiv hx hb dX7_sweeps_166 (nz_nle c_57) ?_
                      refine lv_goto (tgt := 179) hx hb dX7_sweeps_167 (by decide) ?_
                      refine iastN (j := (48 + k84)) hx hb hK hP hD hS 1 0 rfl rfl (by omega) (by decide) dX7_sweeps_179 (fun H locs hP hD hS => ?_)
                      have hP : va_P G vwCl [(o, .inr (7, fs_o)), (a_S, .inl (cI, 163, .inl (upd (ms zo (lvM zo go le la (f7M zo go (feM zo go la he 48)) k84) go le hd gn la) (48 + k84) ((sumS (flM zo (lvM zo go le la (f7M zo go (feM zo go la he 48)) k84) go le k84 true) 4) / (allM zo go le la (lvM zo go le la (f7M zo go (feM zo go la he 48)) k84) k84)))))] H := hP
                      have hD : va_D A [(o, .inr (7, fs_o)), (a_S, .inl (cI, 163, .inl (upd (ms zo (lvM zo go le la (f7M zo go (feM zo go la he 48)) k84) go le hd gn la) (48 + k84) ((sumS (flM zo (lvM zo go le la (f7M zo go (feM zo go la he 48)) k84) go le k84 true) 4) / (allM zo go le la (lvM zo go le la (f7M zo go (feM zo go la he 48)) k84) k84)))))] := hD
                      have en_60 : upd (ms zo (lvM zo go le la (f7M zo go (feM zo go la he 48)) k84) go le hd gn la) (48 + k84) ((sumS (flM zo (lvM zo go le la (f7M zo go (feM zo go la he 48)) k84) go le k84 true) 4) / (allM zo go le la (lvM zo go le la (f7M zo go (feM zo go la he 48)) k84) k84)) = ms zo (upd (lvM zo go le la (f7M zo go (feM zo go la he 48)) k84) k84 ((sumS (flM zo (lvM zo go le la (f7M zo go (feM zo go la he 48)) k84) go le k84 true) 4) / (allM zo go le la (lvM zo go le la (f7M zo go (feM zo go la he 48)) k84) k84))) go le hd gn la := ms_uh (c := k84) (by omega) (by omega)
                      rw [en_60] at hP hD
                      have hP : va_P G vwCl [(o, .inr (7, fs_o)), (a_S, .inl (cI, 163, .inl (ms zo (upd (lvM zo go le la (f7M zo go (feM zo go la he 48)) k84) k84 ((sumS (flM zo (lvM zo go le la (f7M zo go (feM zo go la he 48)) k84) go le k84 true) 4) / (allM zo go le la (lvM zo go le la (f7M zo go (feM zo go la he 48)) k84) k84))) go le hd gn la)))] H := hP
                      have hD : va_D A [(o, .inr (7, fs_o)), (a_S, .inl (cI, 163, .inl (ms zo (upd (lvM zo go le la (f7M zo go (feM zo go la he 48)) k84) k84 ((sumS (flM zo (lvM zo go le la (f7M zo go (feM zo go la he 48)) k84) go le k84 true) 4) / (allM zo go le la (lvM zo go le la (f7M zo go (feM zo go la he 48)) k84) k84))) go le hd gn la)))] := hD
                      refine lv_iinc (v := nI (k84 + 1)) (lv' := [(1, .int (nI (k84 + 1))), (3, .int (allM zo go le la (lvM zo go le la (f7M zo go (feM zo go la he 48)) k84) k84)), (2, .int 1), (0, .ref o)]) hx hb dX7_sweeps_180 hl (k := 3) rfl (nI_add _ _) (by decide) rfl (fun ls hl => ?_)
                      refine lv_goto (tgt := 84) hx hb dX7_sweeps_183 (by decide) ?_
                      have er_61 : (ms zo (upd (lvM zo go le la (f7M zo go (feM zo go la he 48)) k84) k84 ((sumS (flM zo (lvM zo go le la (f7M zo go (feM zo go la he 48)) k84) go le k84 true) 4) / (allM zo go le la (lvM zo go le la (f7M zo go (feM zo go la he 48)) k84) k84))) go le hd gn la) = (ms zo (lvM zo go le la (f7M zo go (feM zo go la he 48)) (k84 + 1)) go le hd gn la) := by rw [lvM_s]; simp [c_57]
                      exact ih84 (k84 + 1) (by omega) (by omega) (by omega)  H locs (by rw [← er_61]; exact hP) (by rw [← er_61]; exact hD) hS ls (lv_sub hl [3, 0] rfl)
                  · skip
                    have c_55 : (isES zo go k84) = true := bI_t c_55
                    refine lv_iload_n hx hb dX7_sweeps_132 rfl (lv_at hl 0 rfl) ?_
                    refine lv_if_ne (tgt := 145) hx hb dX7_sweeps_133 (by decide) (fun c_62 => ?_) (fun c_62 => ?_)
                    · skip
                      refine lv_iconst (v := 0) hx hb dX7_sweeps_145 (by decide) ?_
                      refine lv_istore_n (lv' := [(3, .int 0), (2, .int 1), (0, .ref o), (1, .int (nI k84))]) hx hb dX7_sweeps_146 rfl hl (by decide) rfl (fun ls hl => ?_)
                      have ea_63 : (0 : Int32) = (allM zo go le la (lvM zo go le la (f7M zo go (feM zo go la he 48)) k84) k84) := by simp [allM, lkS, c_10, eq_true c_25, c_40, c_55, c_62]
                      have hl : lv_has ls 4 [(3, .int (allM zo go le la (lvM zo go le la (f7M zo go (feM zo go la he 48)) k84) k84)), (2, .int 1), (0, .ref o), (1, .int (nI k84))] := by rw [← ea_63]; exact hl
                      refine lv_aload_n hx hb dX7_sweeps_147 rfl (lv_at hl 2 rfl) ?_
                      refine va_get (D := G) (ci := 7) (v := .ref a_S) (C := RX7) (T := TX7) (N := 38) hx hb hts inlX7 hown hK hP 0 rfl rfl 2 (by decide) (hts (.fieldLink RX7 7 "EarthBanksModel" "s" "[I") k_6_2) (fun _ h9 => h9) h_o_S dX7_sweeps_148 ?_
                      refine lv_bipush (v := 48) hx hb dX7_sweeps_151 (by decide) ?_
                      refine lv_iload_n hx hb dX7_sweeps_153 rfl (lv_at hl 3 rfl) ?_
                      refine lv_iadd hx hb dX7_sweeps_154 ?_
                      refine top_eq (y := nI (48 + k84)) (nI_add _ _) ?_
                      refine lv_iload_n hx hb dX7_sweeps_155 rfl (lv_at hl 0 rfl) ?_
                      refine lv_if_le (tgt := 170) hx hb dX7_sweeps_156 (by decide) (fun c_64 => ?_) (fun c_64 => ?_)
                      · skip
                        refine lv_aload_n hx hb dX7_sweeps_170 rfl (lv_at hl 2 rfl) ?_
                        refine va_get (D := G) (ci := 7) (v := .ref a_S) (C := RX7) (T := TX7) (N := 38) hx hb hts inlX7 hown hK hP 0 rfl rfl 2 (by decide) (hts (.fieldLink RX7 7 "EarthBanksModel" "s" "[I") k_6_2) (fun _ h9 => h9) h_o_S dX7_sweeps_171 ?_
                        refine lv_bipush (v := 48) hx hb dX7_sweeps_174 (by decide) ?_
                        refine lv_iload_n hx hb dX7_sweeps_176 rfl (lv_at hl 3 rfl) ?_
                        refine lv_iadd hx hb dX7_sweeps_177 ?_
                        refine top_eq (y := nI (48 + k84)) (nI_add _ _) ?_
                        refine ialdN (j := (48 + k84)) hx hb hK hP 1 0 rfl rfl (by omega) (by decide) dX7_sweeps_178 ?_
                        refine top_eq (y := ((lvM zo go le la (f7M zo go (feM zo go la he 48)) k84) k84)) (ms_h (c := k84) (by omega) (by omega)) ?_
                        refine iastN (j := (48 + k84)) hx hb hK hP hD hS 1 0 rfl rfl (by omega) (by decide) dX7_sweeps_179 (fun H locs hP hD hS => ?_)
                        have hP : va_P G vwCl [(o, .inr (7, fs_o)), (a_S, .inl (cI, 163, .inl (upd (ms zo (lvM zo go le la (f7M zo go (feM zo go la he 48)) k84) go le hd gn la) (48 + k84) ((lvM zo go le la (f7M zo go (feM zo go la he 48)) k84) k84))))] H := hP
                        have hD : va_D A [(o, .inr (7, fs_o)), (a_S, .inl (cI, 163, .inl (upd (ms zo (lvM zo go le la (f7M zo go (feM zo go la he 48)) k84) go le hd gn la) (48 + k84) ((lvM zo go le la (f7M zo go (feM zo go la he 48)) k84) k84))))] := hD
                        have en_65 : upd (ms zo (lvM zo go le la (f7M zo go (feM zo go la he 48)) k84) go le hd gn la) (48 + k84) ((lvM zo go le la (f7M zo go (feM zo go la he 48)) k84) k84) = ms zo (upd (lvM zo go le la (f7M zo go (feM zo go la he 48)) k84) k84 ((lvM zo go le la (f7M zo go (feM zo go la he 48)) k84) k84)) go le hd gn la := ms_uh (c := k84) (by omega) (by omega)
                        rw [en_65] at hP hD
                        have hP : va_P G vwCl [(o, .inr (7, fs_o)), (a_S, .inl (cI, 163, .inl (ms zo (upd (lvM zo go le la (f7M zo go (feM zo go la he 48)) k84) k84 ((lvM zo go le la (f7M zo go (feM zo go la he 48)) k84) k84)) go le hd gn la)))] H := hP
                        have hD : va_D A [(o, .inr (7, fs_o)), (a_S, .inl (cI, 163, .inl (ms zo (upd (lvM zo go le la (f7M zo go (feM zo go la he 48)) k84) k84 ((lvM zo go le la (f7M zo go (feM zo go la he 48)) k84) k84)) go le hd gn la)))] := hD
                        refine lv_iinc (v := nI (k84 + 1)) (lv' := [(1, .int (nI (k84 + 1))), (3, .int (allM zo go le la (lvM zo go le la (f7M zo go (feM zo go la he 48)) k84) k84)), (2, .int 1), (0, .ref o)]) hx hb dX7_sweeps_180 hl (k := 3) rfl (nI_add _ _) (by decide) rfl (fun ls hl => ?_)
                        refine lv_goto (tgt := 84) hx hb dX7_sweeps_183 (by decide) ?_
                        have er_66 : (ms zo (upd (lvM zo go le la (f7M zo go (feM zo go la he 48)) k84) k84 ((lvM zo go le la (f7M zo go (feM zo go la he 48)) k84) k84)) go le hd gn la) = (ms zo (lvM zo go le la (f7M zo go (feM zo go la he 48)) (k84 + 1)) go le hd gn la) := by rw [lvM_s]; simp [c_64]
                        exact ih84 (k84 + 1) (by omega) (by omega) (by omega)  H locs (by rw [← er_66]; exact hP) (by rw [← er_66]; exact hD) hS ls (lv_sub hl [3, 0] rfl)
                      · skip
                        refine lv_aload_n hx hb dX7_sweeps_159 rfl (lv_at hl 2 rfl) ?_
                        refine lv_iload_n hx hb dX7_sweeps_160 rfl (lv_at hl 3 rfl) ?_
                        refine lv_iconst (v := 1) hx hb dX7_sweeps_161 (by decide) ?_
                        refine cRV (As := [.int (nI k84), .int 1]) (rest := [.int (nI (48 + k84)), .ref a_S]) hx hb hml hown hts (c_X7_flowing l G E cI cZ zo (lvM zo go le la (f7M zo go (feM zo go la he 48)) k84) go le hd gn la k84 true o a_S fs_o h_o_S (by first | assumption | omega | simp [bI, c_3, c_4, c_8, c_10, c_25, c_40, c_55, c_62, c_64]) (allM_na c_64)) k_22_16 cal_X7_flowing ⟨Nat.le_of_ble_eq_true rfl, Nat.le_of_ble_eq_true rfl⟩ hE hlow hS hK [0, 1] rfl hP [0, 1] rfl 0 7 rfl rfl rfl hl.1 rfl (Nat.le_of_ble_eq_true rfl) dX7_sweeps_162 ⟨Nat.zero_le _, Nat.zero_le _⟩ ?_
                        refine lv_iload_n hx hb dX7_sweeps_165 rfl (lv_at hl 0 rfl) ?_
                        refine lv_idiv hx hb dX7_sweeps_166 (nz_nle c_64) ?_
                        refine lv_goto (tgt := 179) hx hb dX7_sweeps_167 (by decide) ?_
                        refine iastN (j := (48 + k84)) hx hb hK hP hD hS 1 0 rfl rfl (by omega) (by decide) dX7_sweeps_179 (fun H locs hP hD hS => ?_)
                        have hP : va_P G vwCl [(o, .inr (7, fs_o)), (a_S, .inl (cI, 163, .inl (upd (ms zo (lvM zo go le la (f7M zo go (feM zo go la he 48)) k84) go le hd gn la) (48 + k84) ((sumS (flM zo (lvM zo go le la (f7M zo go (feM zo go la he 48)) k84) go le k84 true) 4) / (allM zo go le la (lvM zo go le la (f7M zo go (feM zo go la he 48)) k84) k84)))))] H := hP
                        have hD : va_D A [(o, .inr (7, fs_o)), (a_S, .inl (cI, 163, .inl (upd (ms zo (lvM zo go le la (f7M zo go (feM zo go la he 48)) k84) go le hd gn la) (48 + k84) ((sumS (flM zo (lvM zo go le la (f7M zo go (feM zo go la he 48)) k84) go le k84 true) 4) / (allM zo go le la (lvM zo go le la (f7M zo go (feM zo go la he 48)) k84) k84)))))] := hD
                        have en_67 : upd (ms zo (lvM zo go le la (f7M zo go (feM zo go la he 48)) k84) go le hd gn la) (48 + k84) ((sumS (flM zo (lvM zo go le la (f7M zo go (feM zo go la he 48)) k84) go le k84 true) 4) / (allM zo go le la (lvM zo go le la (f7M zo go (feM zo go la he 48)) k84) k84)) = ms zo (upd (lvM zo go le la (f7M zo go (feM zo go la he 48)) k84) k84 ((sumS (flM zo (lvM zo go le la (f7M zo go (feM zo go la he 48)) k84) go le k84 true) 4) / (allM zo go le la (lvM zo go le la (f7M zo go (feM zo go la he 48)) k84) k84))) go le hd gn la := ms_uh (c := k84) (by omega) (by omega)
                        rw [en_67] at hP hD
                        have hP : va_P G vwCl [(o, .inr (7, fs_o)), (a_S, .inl (cI, 163, .inl (ms zo (upd (lvM zo go le la (f7M zo go (feM zo go la he 48)) k84) k84 ((sumS (flM zo (lvM zo go le la (f7M zo go (feM zo go la he 48)) k84) go le k84 true) 4) / (allM zo go le la (lvM zo go le la (f7M zo go (feM zo go la he 48)) k84) k84))) go le hd gn la)))] H := hP
                        have hD : va_D A [(o, .inr (7, fs_o)), (a_S, .inl (cI, 163, .inl (ms zo (upd (lvM zo go le la (f7M zo go (feM zo go la he 48)) k84) k84 ((sumS (flM zo (lvM zo go le la (f7M zo go (feM zo go la he 48)) k84) go le k84 true) 4) / (allM zo go le la (lvM zo go le la (f7M zo go (feM zo go la he 48)) k84) k84))) go le hd gn la)))] := hD
                        refine lv_iinc (v := nI (k84 + 1)) (lv' := [(1, .int (nI (k84 + 1))), (3, .int (allM zo go le la (lvM zo go le la (f7M zo go (feM zo go la he 48)) k84) k84)), (2, .int 1), (0, .ref o)]) hx hb dX7_sweeps_180 hl (k := 3) rfl (nI_add _ _) (by decide) rfl (fun ls hl => ?_)
                        refine lv_goto (tgt := 84) hx hb dX7_sweeps_183 (by decide) ?_
                        have er_68 : (ms zo (upd (lvM zo go le la (f7M zo go (feM zo go la he 48)) k84) k84 ((sumS (flM zo (lvM zo go le la (f7M zo go (feM zo go la he 48)) k84) go le k84 true) 4) / (allM zo go le la (lvM zo go le la (f7M zo go (feM zo go la he 48)) k84) k84))) go le hd gn la) = (ms zo (lvM zo go le la (f7M zo go (feM zo go la he 48)) (k84 + 1)) go le hd gn la) := by rw [lvM_s]; simp [c_64]
                        exact ih84 (k84 + 1) (by omega) (by omega) (by omega)  H locs (by rw [← er_68]; exact hP) (by rw [← er_68]; exact hD) hS ls (lv_sub hl [3, 0] rfl)
                    · skip
                      exact absurd c_62 (by decide)
      · skip
        have c_4 : (isES zo go 7) = true := bI_t c_4
        refine lv_aload_n hx hb dX7_sweeps_74 rfl (lv_at hl 0 rfl) ?_
        refine va_get (D := G) (ci := 7) (v := .ref a_S) (C := RX7) (T := TX7) (N := 38) hx hb hts inlX7 hown hK hP 0 rfl rfl 2 (by decide) (hts (.fieldLink RX7 7 "EarthBanksModel" "s" "[I") k_6_2) (fun _ h9 => h9) h_o_S dX7_sweeps_75 ?_
        refine lv_bipush (v := 55) hx hb dX7_sweeps_78 (by decide) ?_
        refine lv_iconst (v := 0) hx hb dX7_sweeps_80 (by decide) ?_
        refine iastN (j := 55) hx hb hK hP hD hS 1 0 rfl rfl (by omega) (by decide) dX7_sweeps_81 (fun H locs hP hD hS => ?_)
        have hP : va_P G vwCl [(o, .inr (7, fs_o)), (a_S, .inl (cI, 163, .inl (upd (ms zo (feM zo go la he 48) go le hd gn la) 55 0)))] H := hP
        have hD : va_D A [(o, .inr (7, fs_o)), (a_S, .inl (cI, 163, .inl (upd (ms zo (feM zo go la he 48) go le hd gn la) 55 0)))] := hD
        have en_69 : upd (ms zo (feM zo go la he 48) go le hd gn la) 55 0 = ms zo (upd (feM zo go la he 48) 7 0) go le hd gn la := ms_uh (c := 7) (by omega) (by omega)
        rw [en_69] at hP hD
        have hP : va_P G vwCl [(o, .inr (7, fs_o)), (a_S, .inl (cI, 163, .inl (ms zo (upd (feM zo go la he 48) 7 0) go le hd gn la)))] H := hP
        have hD : va_D A [(o, .inr (7, fs_o)), (a_S, .inl (cI, 163, .inl (ms zo (upd (feM zo go la he 48) 7 0) go le hd gn la)))] := hD
        have et_70 : (ms zo (upd (feM zo go la he 48) 7 0) go le hd gn la) = (ms zo (f7M zo go (feM zo go la he 48)) go le hd gn la) := by simp [f7M, c_4]
        have hP : va_P G vwCl [(o, .inr (7, fs_o)), (a_S, .inl (cI, 163, .inl (ms zo (f7M zo go (feM zo go la he 48)) go le hd gn la)))] H := by rw [← et_70]; exact hP
        have hD : va_D A [(o, .inr (7, fs_o)), (a_S, .inl (cI, 163, .inl (ms zo (f7M zo go (feM zo go la he 48)) go le hd gn la)))] := by rw [← et_70]; exact hD
        refine lv_iconst (v := 0) hx hb dX7_sweeps_82 (by decide) ?_
        refine lv_istore_n (lv' := [(1, .int 0), (0, .ref o)]) hx hb dX7_sweeps_83 rfl hl (by decide) rfl (fun ls hl => ?_)
        suffices lp84 : ∀ zn k84 : Nat, 0 ≤ k84 → k84 ≤ 48 → 48 < k84 + zn → ∀ (H : Heap) (locs : List Loc), va_P G vwCl [(o, .inr (7, fs_o)), (a_S, .inl (cI, 163, .inl (ms zo (lvM zo go le la (f7M zo go (feM zo go la he 48)) k84) go le hd gn la)))] H → va_D A [(o, .inr (7, fs_o)), (a_S, .inl (cI, 163, .inl (ms zo (lvM zo go le la (f7M zo go (feM zo go la he 48)) k84) go le hd gn la)))] → va_S A s.heap H locs → ∀ ls : Array Slot, lv_has ls 4 [(0, .ref o), (1, .int (nI k84))] → W zp l ze (rmK 5) s zm args below meth zc H locs 0 0 (MQ below (va_Qv (S := Unit) (fun _ => True) (fun u t => va_P G vwCl ((fun _ => [(o, .inr (7, fs_o)), (a_S, .inl (cI, 163, .inl (ms zo (swM zo go le la he) go le hd gn la)))]) u) t.heap) A) args s 0 0 A) (F0 zm 84 ls []) by
          have el_71 : (0 : Int32) = nI 0 := rfl
          have er_72 : (ms zo (f7M zo go (feM zo go la he 48)) go le hd gn la) = (ms zo (lvM zo go le la (f7M zo go (feM zo go la he 48)) 0) go le hd gn la) := rfl
          exact lp84 (48 + 1 - 0) 0 (by omega) (by omega) (by omega)  H locs (by rw [← er_72]; exact hP) (by rw [← er_72]; exact hD) hS ls (lv_sub hl [1, 0] (show ([(0, .ref o), (1, .int 0)] : List (Nat × Value)) = [(0, .ref o), (1, .int (nI 0))] by rw [← el_71]))
        intro zn
        induction zn with
        | zero => exact fun k84 h1 h2 h3 => absurd h3 (by omega)
        | succ zn ih84 =>
          intro k84 hlo84 hhi84 hn84  H locs hP hD hS ls hl
          refine lv_iload_n hx hb dX7_sweeps_84 rfl (lv_at hl 1 rfl) ?_
          refine lv_bipush (v := 48) hx hb dX7_sweeps_85 (by decide) ?_
          refine lv_icmp_ge (tgt := 186) hx hb dX7_sweeps_87 (by decide) (fun c_73 => ?_) (fun c_73 => ?_)
          · skip
            have c_73 : 48 ≤ k84 := (nI_leI (a := 48) (b := k84) (by omega) (by omega)).mp c_73
            have hk9 : 48 = k84 := by omega
            subst hk9
            have ew_74 : (ms zo (lvM zo go le la (f7M zo go (feM zo go la he 48)) 48) go le hd gn la) = (ms zo (swM zo go le la he) go le hd gn la) := rfl
            have hP : va_P G vwCl [(o, .inr (7, fs_o)), (a_S, .inl (cI, 163, .inl (ms zo (swM zo go le la he) go le hd gn la)))] H := by rw [← ew_74]; exact hP
            exact retWv () hx hb hr hlocks dX7_sweeps_186 hS (trivial) hP
          · skip
            have c_73 : ¬ 48 ≤ k84 := fun h9 => c_73 ((nI_leI (a := 48) (b := k84) (by omega) (by omega)).mpr h9)
            refine lv_iload_n hx hb dX7_sweeps_90 rfl (lv_at hl 1 rfl) ?_
            refine lv_bipush (v := 7) hx hb dX7_sweeps_91 (by decide) ?_
            refine lv_icmp_eq (tgt := 118) hx hb dX7_sweeps_93 (by decide) (fun c_75 => ?_) (fun c_75 => ?_)
            · skip
              have c_75 : k84 = 7 := (nI_eq (a := k84) (b := 7) (by omega) (by omega)).mp c_75
              refine lv_iconst (v := 1) hx hb dX7_sweeps_118 (by decide) ?_
              refine lv_goto (tgt := 123) hx hb dX7_sweeps_119 (by decide) ?_
              refine lv_istore_n (lv' := [(2, .int 1), (0, .ref o), (1, .int (nI k84))]) hx hb dX7_sweeps_123 rfl hl (by decide) rfl (fun ls hl => ?_)
              refine lv_aload_n hx hb dX7_sweeps_124 rfl (lv_at hl 1 rfl) ?_
              refine lv_iload_n hx hb dX7_sweeps_125 rfl (lv_at hl 2 rfl) ?_
              refine cRV (As := [.int (nI k84)]) (rest := []) hx hb hml hown hts (c_X7_isEarth l G E cI cZ zo (lvM zo go le la (f7M zo go (feM zo go la he 48)) k84) go le hd gn la k84 o a_S fs_o h_o_S (by first | assumption | omega | simp [bI, c_3, c_4, c_73, c_75])) k_16_1 cal_X7_isEarth ⟨Nat.le_of_ble_eq_true rfl, Nat.le_of_ble_eq_true rfl⟩ hE hlow hS hK [0, 1] rfl hP [0, 1] rfl 0 7 rfl rfl rfl hl.1 rfl (Nat.le_of_ble_eq_true rfl) dX7_sweeps_126 ⟨Nat.zero_le _, Nat.zero_le _⟩ ?_
              refine lv_if_eq (tgt := 145) hx hb dX7_sweeps_129 (by decide) (fun c_76 => ?_) (fun c_76 => ?_)
              · skip
                have c_76 : (isES zo go k84) = false := bI_f c_76
                refine lv_iconst (v := 0) hx hb dX7_sweeps_145 (by decide) ?_
                refine lv_istore_n (lv' := [(3, .int 0), (2, .int 1), (0, .ref o), (1, .int (nI k84))]) hx hb dX7_sweeps_146 rfl hl (by decide) rfl (fun ls hl => ?_)
                have ea_77 : (0 : Int32) = (allM zo go le la (lvM zo go le la (f7M zo go (feM zo go la he 48)) k84) k84) := by simp [allM, lkS, eq_true c_75, c_76]
                have hl : lv_has ls 4 [(3, .int (allM zo go le la (lvM zo go le la (f7M zo go (feM zo go la he 48)) k84) k84)), (2, .int 1), (0, .ref o), (1, .int (nI k84))] := by rw [← ea_77]; exact hl
                refine lv_aload_n hx hb dX7_sweeps_147 rfl (lv_at hl 2 rfl) ?_
                refine va_get (D := G) (ci := 7) (v := .ref a_S) (C := RX7) (T := TX7) (N := 38) hx hb hts inlX7 hown hK hP 0 rfl rfl 2 (by decide) (hts (.fieldLink RX7 7 "EarthBanksModel" "s" "[I") k_6_2) (fun _ h9 => h9) h_o_S dX7_sweeps_148 ?_
                refine lv_bipush (v := 48) hx hb dX7_sweeps_151 (by decide) ?_
                refine lv_iload_n hx hb dX7_sweeps_153 rfl (lv_at hl 3 rfl) ?_
                refine lv_iadd hx hb dX7_sweeps_154 ?_
                refine top_eq (y := nI (48 + k84)) (nI_add _ _) ?_
                refine lv_iload_n hx hb dX7_sweeps_155 rfl (lv_at hl 0 rfl) ?_
                refine lv_if_le (tgt := 170) hx hb dX7_sweeps_156 (by decide) (fun c_78 => ?_) (fun c_78 => ?_)
                · skip
                  refine lv_aload_n hx hb dX7_sweeps_170 rfl (lv_at hl 2 rfl) ?_
                  refine va_get (D := G) (ci := 7) (v := .ref a_S) (C := RX7) (T := TX7) (N := 38) hx hb hts inlX7 hown hK hP 0 rfl rfl 2 (by decide) (hts (.fieldLink RX7 7 "EarthBanksModel" "s" "[I") k_6_2) (fun _ h9 => h9) h_o_S dX7_sweeps_171 ?_
                  refine lv_bipush (v := 48) hx hb dX7_sweeps_174 (by decide) ?_
                  refine lv_iload_n hx hb dX7_sweeps_176 rfl (lv_at hl 3 rfl) ?_
                  refine lv_iadd hx hb dX7_sweeps_177 ?_
                  refine top_eq (y := nI (48 + k84)) (nI_add _ _) ?_
                  refine ialdN (j := (48 + k84)) hx hb hK hP 1 0 rfl rfl (by omega) (by decide) dX7_sweeps_178 ?_
                  refine top_eq (y := ((lvM zo go le la (f7M zo go (feM zo go la he 48)) k84) k84)) (ms_h (c := k84) (by omega) (by omega)) ?_
                  refine iastN (j := (48 + k84)) hx hb hK hP hD hS 1 0 rfl rfl (by omega) (by decide) dX7_sweeps_179 (fun H locs hP hD hS => ?_)
                  have hP : va_P G vwCl [(o, .inr (7, fs_o)), (a_S, .inl (cI, 163, .inl (upd (ms zo (lvM zo go le la (f7M zo go (feM zo go la he 48)) k84) go le hd gn la) (48 + k84) ((lvM zo go le la (f7M zo go (feM zo go la he 48)) k84) k84))))] H := hP
                  have hD : va_D A [(o, .inr (7, fs_o)), (a_S, .inl (cI, 163, .inl (upd (ms zo (lvM zo go le la (f7M zo go (feM zo go la he 48)) k84) go le hd gn la) (48 + k84) ((lvM zo go le la (f7M zo go (feM zo go la he 48)) k84) k84))))] := hD
                  have en_79 : upd (ms zo (lvM zo go le la (f7M zo go (feM zo go la he 48)) k84) go le hd gn la) (48 + k84) ((lvM zo go le la (f7M zo go (feM zo go la he 48)) k84) k84) = ms zo (upd (lvM zo go le la (f7M zo go (feM zo go la he 48)) k84) k84 ((lvM zo go le la (f7M zo go (feM zo go la he 48)) k84) k84)) go le hd gn la := ms_uh (c := k84) (by omega) (by omega)
                  rw [en_79] at hP hD
                  have hP : va_P G vwCl [(o, .inr (7, fs_o)), (a_S, .inl (cI, 163, .inl (ms zo (upd (lvM zo go le la (f7M zo go (feM zo go la he 48)) k84) k84 ((lvM zo go le la (f7M zo go (feM zo go la he 48)) k84) k84)) go le hd gn la)))] H := hP
                  have hD : va_D A [(o, .inr (7, fs_o)), (a_S, .inl (cI, 163, .inl (ms zo (upd (lvM zo go le la (f7M zo go (feM zo go la he 48)) k84) k84 ((lvM zo go le la (f7M zo go (feM zo go la he 48)) k84) k84)) go le hd gn la)))] := hD
                  refine lv_iinc (v := nI (k84 + 1)) (lv' := [(1, .int (nI (k84 + 1))), (3, .int (allM zo go le la (lvM zo go le la (f7M zo go (feM zo go la he 48)) k84) k84)), (2, .int 1), (0, .ref o)]) hx hb dX7_sweeps_180 hl (k := 3) rfl (nI_add _ _) (by decide) rfl (fun ls hl => ?_)
                  refine lv_goto (tgt := 84) hx hb dX7_sweeps_183 (by decide) ?_
                  have er_80 : (ms zo (upd (lvM zo go le la (f7M zo go (feM zo go la he 48)) k84) k84 ((lvM zo go le la (f7M zo go (feM zo go la he 48)) k84) k84)) go le hd gn la) = (ms zo (lvM zo go le la (f7M zo go (feM zo go la he 48)) (k84 + 1)) go le hd gn la) := by rw [lvM_s]; simp [c_78]
                  exact ih84 (k84 + 1) (by omega) (by omega) (by omega)  H locs (by rw [← er_80]; exact hP) (by rw [← er_80]; exact hD) hS ls (lv_sub hl [3, 0] rfl)
                · skip
                  refine lv_aload_n hx hb dX7_sweeps_159 rfl (lv_at hl 2 rfl) ?_
                  refine lv_iload_n hx hb dX7_sweeps_160 rfl (lv_at hl 3 rfl) ?_
                  refine lv_iconst (v := 1) hx hb dX7_sweeps_161 (by decide) ?_
                  refine cRV (As := [.int (nI k84), .int 1]) (rest := [.int (nI (48 + k84)), .ref a_S]) hx hb hml hown hts (c_X7_flowing l G E cI cZ zo (lvM zo go le la (f7M zo go (feM zo go la he 48)) k84) go le hd gn la k84 true o a_S fs_o h_o_S (by first | assumption | omega | simp [bI, c_3, c_4, c_73, c_75, c_76, c_78]) (allM_na c_78)) k_22_16 cal_X7_flowing ⟨Nat.le_of_ble_eq_true rfl, Nat.le_of_ble_eq_true rfl⟩ hE hlow hS hK [0, 1] rfl hP [0, 1] rfl 0 7 rfl rfl rfl hl.1 rfl (Nat.le_of_ble_eq_true rfl) dX7_sweeps_162 ⟨Nat.zero_le _, Nat.zero_le _⟩ ?_
                  refine lv_iload_n hx hb dX7_sweeps_165 rfl (lv_at hl 0 rfl) ?_
                  refine lv_idiv hx hb dX7_sweeps_166 (nz_nle c_78) ?_
                  refine lv_goto (tgt := 179) hx hb dX7_sweeps_167 (by decide) ?_
                  refine iastN (j := (48 + k84)) hx hb hK hP hD hS 1 0 rfl rfl (by omega) (by decide) dX7_sweeps_179 (fun H locs hP hD hS => ?_)
                  have hP : va_P G vwCl [(o, .inr (7, fs_o)), (a_S, .inl (cI, 163, .inl (upd (ms zo (lvM zo go le la (f7M zo go (feM zo go la he 48)) k84) go le hd gn la) (48 + k84) ((sumS (flM zo (lvM zo go le la (f7M zo go (feM zo go la he 48)) k84) go le k84 true) 4) / (allM zo go le la (lvM zo go le la (f7M zo go (feM zo go la he 48)) k84) k84)))))] H := hP
                  have hD : va_D A [(o, .inr (7, fs_o)), (a_S, .inl (cI, 163, .inl (upd (ms zo (lvM zo go le la (f7M zo go (feM zo go la he 48)) k84) go le hd gn la) (48 + k84) ((sumS (flM zo (lvM zo go le la (f7M zo go (feM zo go la he 48)) k84) go le k84 true) 4) / (allM zo go le la (lvM zo go le la (f7M zo go (feM zo go la he 48)) k84) k84)))))] := hD
                  have en_81 : upd (ms zo (lvM zo go le la (f7M zo go (feM zo go la he 48)) k84) go le hd gn la) (48 + k84) ((sumS (flM zo (lvM zo go le la (f7M zo go (feM zo go la he 48)) k84) go le k84 true) 4) / (allM zo go le la (lvM zo go le la (f7M zo go (feM zo go la he 48)) k84) k84)) = ms zo (upd (lvM zo go le la (f7M zo go (feM zo go la he 48)) k84) k84 ((sumS (flM zo (lvM zo go le la (f7M zo go (feM zo go la he 48)) k84) go le k84 true) 4) / (allM zo go le la (lvM zo go le la (f7M zo go (feM zo go la he 48)) k84) k84))) go le hd gn la := ms_uh (c := k84) (by omega) (by omega)
                  rw [en_81] at hP hD
                  have hP : va_P G vwCl [(o, .inr (7, fs_o)), (a_S, .inl (cI, 163, .inl (ms zo (upd (lvM zo go le la (f7M zo go (feM zo go la he 48)) k84) k84 ((sumS (flM zo (lvM zo go le la (f7M zo go (feM zo go la he 48)) k84) go le k84 true) 4) / (allM zo go le la (lvM zo go le la (f7M zo go (feM zo go la he 48)) k84) k84))) go le hd gn la)))] H := hP
                  have hD : va_D A [(o, .inr (7, fs_o)), (a_S, .inl (cI, 163, .inl (ms zo (upd (lvM zo go le la (f7M zo go (feM zo go la he 48)) k84) k84 ((sumS (flM zo (lvM zo go le la (f7M zo go (feM zo go la he 48)) k84) go le k84 true) 4) / (allM zo go le la (lvM zo go le la (f7M zo go (feM zo go la he 48)) k84) k84))) go le hd gn la)))] := hD
                  refine lv_iinc (v := nI (k84 + 1)) (lv' := [(1, .int (nI (k84 + 1))), (3, .int (allM zo go le la (lvM zo go le la (f7M zo go (feM zo go la he 48)) k84) k84)), (2, .int 1), (0, .ref o)]) hx hb dX7_sweeps_180 hl (k := 3) rfl (nI_add _ _) (by decide) rfl (fun ls hl => ?_)
                  refine lv_goto (tgt := 84) hx hb dX7_sweeps_183 (by decide) ?_
                  have er_82 : (ms zo (upd (lvM zo go le la (f7M zo go (feM zo go la he 48)) k84) k84 ((sumS (flM zo (lvM zo go le la (f7M zo go (feM zo go la he 48)) k84) go le k84 true) 4) / (allM zo go le la (lvM zo go le la (f7M zo go (feM zo go la he 48)) k84) k84))) go le hd gn la) = (ms zo (lvM zo go le la (f7M zo go (feM zo go la he 48)) (k84 + 1)) go le hd gn la) := by rw [lvM_s]; simp [c_78]
                  exact ih84 (k84 + 1) (by omega) (by omega) (by omega)  H locs (by rw [← er_82]; exact hP) (by rw [← er_82]; exact hD) hS ls (lv_sub hl [3, 0] rfl)
              · skip
                have c_76 : (isES zo go k84) = true := bI_t c_76
                refine lv_iload_n hx hb dX7_sweeps_132 rfl (lv_at hl 0 rfl) ?_
                refine lv_if_ne (tgt := 145) hx hb dX7_sweeps_133 (by decide) (fun c_83 => ?_) (fun c_83 => ?_)
                · skip
                  refine lv_iconst (v := 0) hx hb dX7_sweeps_145 (by decide) ?_
                  refine lv_istore_n (lv' := [(3, .int 0), (2, .int 1), (0, .ref o), (1, .int (nI k84))]) hx hb dX7_sweeps_146 rfl hl (by decide) rfl (fun ls hl => ?_)
                  have ea_84 : (0 : Int32) = (allM zo go le la (lvM zo go le la (f7M zo go (feM zo go la he 48)) k84) k84) := by simp [allM, lkS, eq_true c_75, c_76, c_83]
                  have hl : lv_has ls 4 [(3, .int (allM zo go le la (lvM zo go le la (f7M zo go (feM zo go la he 48)) k84) k84)), (2, .int 1), (0, .ref o), (1, .int (nI k84))] := by rw [← ea_84]; exact hl
                  refine lv_aload_n hx hb dX7_sweeps_147 rfl (lv_at hl 2 rfl) ?_
                  refine va_get (D := G) (ci := 7) (v := .ref a_S) (C := RX7) (T := TX7) (N := 38) hx hb hts inlX7 hown hK hP 0 rfl rfl 2 (by decide) (hts (.fieldLink RX7 7 "EarthBanksModel" "s" "[I") k_6_2) (fun _ h9 => h9) h_o_S dX7_sweeps_148 ?_
                  refine lv_bipush (v := 48) hx hb dX7_sweeps_151 (by decide) ?_
                  refine lv_iload_n hx hb dX7_sweeps_153 rfl (lv_at hl 3 rfl) ?_
                  refine lv_iadd hx hb dX7_sweeps_154 ?_
                  refine top_eq (y := nI (48 + k84)) (nI_add _ _) ?_
                  refine lv_iload_n hx hb dX7_sweeps_155 rfl (lv_at hl 0 rfl) ?_
                  refine lv_if_le (tgt := 170) hx hb dX7_sweeps_156 (by decide) (fun c_85 => ?_) (fun c_85 => ?_)
                  · skip
                    refine lv_aload_n hx hb dX7_sweeps_170 rfl (lv_at hl 2 rfl) ?_
                    refine va_get (D := G) (ci := 7) (v := .ref a_S) (C := RX7) (T := TX7) (N := 38) hx hb hts inlX7 hown hK hP 0 rfl rfl 2 (by decide) (hts (.fieldLink RX7 7 "EarthBanksModel" "s" "[I") k_6_2) (fun _ h9 => h9) h_o_S dX7_sweeps_171 ?_
                    refine lv_bipush (v := 48) hx hb dX7_sweeps_174 (by decide) ?_
                    refine lv_iload_n hx hb dX7_sweeps_176 rfl (lv_at hl 3 rfl) ?_
                    refine lv_iadd hx hb dX7_sweeps_177 ?_
                    refine top_eq (y := nI (48 + k84)) (nI_add _ _) ?_
                    refine ialdN (j := (48 + k84)) hx hb hK hP 1 0 rfl rfl (by omega) (by decide) dX7_sweeps_178 ?_
                    refine top_eq (y := ((lvM zo go le la (f7M zo go (feM zo go la he 48)) k84) k84)) (ms_h (c := k84) (by omega) (by omega)) ?_
                    refine iastN (j := (48 + k84)) hx hb hK hP hD hS 1 0 rfl rfl (by omega) (by decide) dX7_sweeps_179 (fun H locs hP hD hS => ?_)
                    have hP : va_P G vwCl [(o, .inr (7, fs_o)), (a_S, .inl (cI, 163, .inl (upd (ms zo (lvM zo go le la (f7M zo go (feM zo go la he 48)) k84) go le hd gn la) (48 + k84) ((lvM zo go le la (f7M zo go (feM zo go la he 48)) k84) k84))))] H := hP
                    have hD : va_D A [(o, .inr (7, fs_o)), (a_S, .inl (cI, 163, .inl (upd (ms zo (lvM zo go le la (f7M zo go (feM zo go la he 48)) k84) go le hd gn la) (48 + k84) ((lvM zo go le la (f7M zo go (feM zo go la he 48)) k84) k84))))] := hD
                    have en_86 : upd (ms zo (lvM zo go le la (f7M zo go (feM zo go la he 48)) k84) go le hd gn la) (48 + k84) ((lvM zo go le la (f7M zo go (feM zo go la he 48)) k84) k84) = ms zo (upd (lvM zo go le la (f7M zo go (feM zo go la he 48)) k84) k84 ((lvM zo go le la (f7M zo go (feM zo go la he 48)) k84) k84)) go le hd gn la := ms_uh (c := k84) (by omega) (by omega)
                    rw [en_86] at hP hD
                    have hP : va_P G vwCl [(o, .inr (7, fs_o)), (a_S, .inl (cI, 163, .inl (ms zo (upd (lvM zo go le la (f7M zo go (feM zo go la he 48)) k84) k84 ((lvM zo go le la (f7M zo go (feM zo go la he 48)) k84) k84)) go le hd gn la)))] H := hP
                    have hD : va_D A [(o, .inr (7, fs_o)), (a_S, .inl (cI, 163, .inl (ms zo (upd (lvM zo go le la (f7M zo go (feM zo go la he 48)) k84) k84 ((lvM zo go le la (f7M zo go (feM zo go la he 48)) k84) k84)) go le hd gn la)))] := hD
                    refine lv_iinc (v := nI (k84 + 1)) (lv' := [(1, .int (nI (k84 + 1))), (3, .int (allM zo go le la (lvM zo go le la (f7M zo go (feM zo go la he 48)) k84) k84)), (2, .int 1), (0, .ref o)]) hx hb dX7_sweeps_180 hl (k := 3) rfl (nI_add _ _) (by decide) rfl (fun ls hl => ?_)
                    refine lv_goto (tgt := 84) hx hb dX7_sweeps_183 (by decide) ?_
                    have er_87 : (ms zo (upd (lvM zo go le la (f7M zo go (feM zo go la he 48)) k84) k84 ((lvM zo go le la (f7M zo go (feM zo go la he 48)) k84) k84)) go le hd gn la) = (ms zo (lvM zo go le la (f7M zo go (feM zo go la he 48)) (k84 + 1)) go le hd gn la) := by rw [lvM_s]; simp [c_85]
                    exact ih84 (k84 + 1) (by omega) (by omega) (by omega)  H locs (by rw [← er_87]; exact hP) (by rw [← er_87]; exact hD) hS ls (lv_sub hl [3, 0] rfl)
                  · skip
                    refine lv_aload_n hx hb dX7_sweeps_159 rfl (lv_at hl 2 rfl) ?_
                    refine lv_iload_n hx hb dX7_sweeps_160 rfl (lv_at hl 3 rfl) ?_
                    refine lv_iconst (v := 1) hx hb dX7_sweeps_161 (by decide) ?_
                    refine cRV (As := [.int (nI k84), .int 1]) (rest := [.int (nI (48 + k84)), .ref a_S]) hx hb hml hown hts (c_X7_flowing l G E cI cZ zo (lvM zo go le la (f7M zo go (feM zo go la he 48)) k84) go le hd gn la k84 true o a_S fs_o h_o_S (by first | assumption | omega | simp [bI, c_3, c_4, c_73, c_75, c_76, c_83, c_85]) (allM_na c_85)) k_22_16 cal_X7_flowing ⟨Nat.le_of_ble_eq_true rfl, Nat.le_of_ble_eq_true rfl⟩ hE hlow hS hK [0, 1] rfl hP [0, 1] rfl 0 7 rfl rfl rfl hl.1 rfl (Nat.le_of_ble_eq_true rfl) dX7_sweeps_162 ⟨Nat.zero_le _, Nat.zero_le _⟩ ?_
                    refine lv_iload_n hx hb dX7_sweeps_165 rfl (lv_at hl 0 rfl) ?_
                    refine lv_idiv hx hb dX7_sweeps_166 (nz_nle c_85) ?_
                    refine lv_goto (tgt := 179) hx hb dX7_sweeps_167 (by decide) ?_
                    refine iastN (j := (48 + k84)) hx hb hK hP hD hS 1 0 rfl rfl (by omega) (by decide) dX7_sweeps_179 (fun H locs hP hD hS => ?_)
                    have hP : va_P G vwCl [(o, .inr (7, fs_o)), (a_S, .inl (cI, 163, .inl (upd (ms zo (lvM zo go le la (f7M zo go (feM zo go la he 48)) k84) go le hd gn la) (48 + k84) ((sumS (flM zo (lvM zo go le la (f7M zo go (feM zo go la he 48)) k84) go le k84 true) 4) / (allM zo go le la (lvM zo go le la (f7M zo go (feM zo go la he 48)) k84) k84)))))] H := hP
                    have hD : va_D A [(o, .inr (7, fs_o)), (a_S, .inl (cI, 163, .inl (upd (ms zo (lvM zo go le la (f7M zo go (feM zo go la he 48)) k84) go le hd gn la) (48 + k84) ((sumS (flM zo (lvM zo go le la (f7M zo go (feM zo go la he 48)) k84) go le k84 true) 4) / (allM zo go le la (lvM zo go le la (f7M zo go (feM zo go la he 48)) k84) k84)))))] := hD
                    have en_88 : upd (ms zo (lvM zo go le la (f7M zo go (feM zo go la he 48)) k84) go le hd gn la) (48 + k84) ((sumS (flM zo (lvM zo go le la (f7M zo go (feM zo go la he 48)) k84) go le k84 true) 4) / (allM zo go le la (lvM zo go le la (f7M zo go (feM zo go la he 48)) k84) k84)) = ms zo (upd (lvM zo go le la (f7M zo go (feM zo go la he 48)) k84) k84 ((sumS (flM zo (lvM zo go le la (f7M zo go (feM zo go la he 48)) k84) go le k84 true) 4) / (allM zo go le la (lvM zo go le la (f7M zo go (feM zo go la he 48)) k84) k84))) go le hd gn la := ms_uh (c := k84) (by omega) (by omega)
                    rw [en_88] at hP hD
                    have hP : va_P G vwCl [(o, .inr (7, fs_o)), (a_S, .inl (cI, 163, .inl (ms zo (upd (lvM zo go le la (f7M zo go (feM zo go la he 48)) k84) k84 ((sumS (flM zo (lvM zo go le la (f7M zo go (feM zo go la he 48)) k84) go le k84 true) 4) / (allM zo go le la (lvM zo go le la (f7M zo go (feM zo go la he 48)) k84) k84))) go le hd gn la)))] H := hP
                    have hD : va_D A [(o, .inr (7, fs_o)), (a_S, .inl (cI, 163, .inl (ms zo (upd (lvM zo go le la (f7M zo go (feM zo go la he 48)) k84) k84 ((sumS (flM zo (lvM zo go le la (f7M zo go (feM zo go la he 48)) k84) go le k84 true) 4) / (allM zo go le la (lvM zo go le la (f7M zo go (feM zo go la he 48)) k84) k84))) go le hd gn la)))] := hD
                    refine lv_iinc (v := nI (k84 + 1)) (lv' := [(1, .int (nI (k84 + 1))), (3, .int (allM zo go le la (lvM zo go le la (f7M zo go (feM zo go la he 48)) k84) k84)), (2, .int 1), (0, .ref o)]) hx hb dX7_sweeps_180 hl (k := 3) rfl (nI_add _ _) (by decide) rfl (fun ls hl => ?_)
                    refine lv_goto (tgt := 84) hx hb dX7_sweeps_183 (by decide) ?_
                    have er_89 : (ms zo (upd (lvM zo go le la (f7M zo go (feM zo go la he 48)) k84) k84 ((sumS (flM zo (lvM zo go le la (f7M zo go (feM zo go la he 48)) k84) go le k84 true) 4) / (allM zo go le la (lvM zo go le la (f7M zo go (feM zo go la he 48)) k84) k84))) go le hd gn la) = (ms zo (lvM zo go le la (f7M zo go (feM zo go la he 48)) (k84 + 1)) go le hd gn la) := by rw [lvM_s]; simp [c_85]
                    exact ih84 (k84 + 1) (by omega) (by omega) (by omega)  H locs (by rw [← er_89]; exact hP) (by rw [← er_89]; exact hD) hS ls (lv_sub hl [3, 0] rfl)
                · skip
                  exact absurd c_83 (by decide)
            · skip
              have c_75 : ¬ k84 = 7 := fun h9 => c_75 ((nI_eq (a := k84) (b := 7) (by omega) (by omega)).mpr h9)
              refine lv_iload_n hx hb dX7_sweeps_96 rfl (lv_at hl 1 rfl) ?_
              refine lv_bipush (v := 8) hx hb dX7_sweeps_97 (by decide) ?_
              refine lv_irem hx hb dX7_sweeps_99 (by decide) ?_
              refine top_eq (y := nI (k84 % 8)) (pk_rem (a := k84) (d := 8) (by omega) (by omega) (by omega)) ?_
              refine lv_if_ne (tgt := 122) hx hb dX7_sweeps_100 (by decide) (fun c_90 => ?_) (fun c_90 => ?_)
              · skip
                have c_90 : ¬ (k84 % 8) = 0 := fun h9 => c_90 ((nI_eq (a := (k84 % 8)) (b := 0) (by omega) (by omega)).mpr h9)
                refine lv_iconst (v := 0) hx hb dX7_sweeps_122 (by decide) ?_
                refine lv_istore_n (lv' := [(2, .int 0), (0, .ref o), (1, .int (nI k84))]) hx hb dX7_sweeps_123 rfl hl (by decide) rfl (fun ls hl => ?_)
                refine lv_aload_n hx hb dX7_sweeps_124 rfl (lv_at hl 1 rfl) ?_
                refine lv_iload_n hx hb dX7_sweeps_125 rfl (lv_at hl 2 rfl) ?_
                refine cRV (As := [.int (nI k84)]) (rest := []) hx hb hml hown hts (c_X7_isEarth l G E cI cZ zo (lvM zo go le la (f7M zo go (feM zo go la he 48)) k84) go le hd gn la k84 o a_S fs_o h_o_S (by first | assumption | omega | simp [bI, c_3, c_4, c_73, c_75, c_90])) k_16_1 cal_X7_isEarth ⟨Nat.le_of_ble_eq_true rfl, Nat.le_of_ble_eq_true rfl⟩ hE hlow hS hK [0, 1] rfl hP [0, 1] rfl 0 7 rfl rfl rfl hl.1 rfl (Nat.le_of_ble_eq_true rfl) dX7_sweeps_126 ⟨Nat.zero_le _, Nat.zero_le _⟩ ?_
                refine lv_if_eq (tgt := 145) hx hb dX7_sweeps_129 (by decide) (fun c_91 => ?_) (fun c_91 => ?_)
                · skip
                  have c_91 : (isES zo go k84) = false := bI_f c_91
                  refine lv_iconst (v := 0) hx hb dX7_sweeps_145 (by decide) ?_
                  refine lv_istore_n (lv' := [(3, .int 0), (2, .int 0), (0, .ref o), (1, .int (nI k84))]) hx hb dX7_sweeps_146 rfl hl (by decide) rfl (fun ls hl => ?_)
                  have ea_92 : (0 : Int32) = (allM zo go le la (lvM zo go le la (f7M zo go (feM zo go la he 48)) k84) k84) := by simp [allM, lkS, c_75, c_90, c_91]
                  have hl : lv_has ls 4 [(3, .int (allM zo go le la (lvM zo go le la (f7M zo go (feM zo go la he 48)) k84) k84)), (2, .int 0), (0, .ref o), (1, .int (nI k84))] := by rw [← ea_92]; exact hl
                  refine lv_aload_n hx hb dX7_sweeps_147 rfl (lv_at hl 2 rfl) ?_
                  refine va_get (D := G) (ci := 7) (v := .ref a_S) (C := RX7) (T := TX7) (N := 38) hx hb hts inlX7 hown hK hP 0 rfl rfl 2 (by decide) (hts (.fieldLink RX7 7 "EarthBanksModel" "s" "[I") k_6_2) (fun _ h9 => h9) h_o_S dX7_sweeps_148 ?_
                  refine lv_bipush (v := 48) hx hb dX7_sweeps_151 (by decide) ?_
                  refine lv_iload_n hx hb dX7_sweeps_153 rfl (lv_at hl 3 rfl) ?_
                  refine lv_iadd hx hb dX7_sweeps_154 ?_
                  refine top_eq (y := nI (48 + k84)) (nI_add _ _) ?_
                  refine lv_iload_n hx hb dX7_sweeps_155 rfl (lv_at hl 0 rfl) ?_
                  refine lv_if_le (tgt := 170) hx hb dX7_sweeps_156 (by decide) (fun c_93 => ?_) (fun c_93 => ?_)
                  · skip
                    refine lv_aload_n hx hb dX7_sweeps_170 rfl (lv_at hl 2 rfl) ?_
                    refine va_get (D := G) (ci := 7) (v := .ref a_S) (C := RX7) (T := TX7) (N := 38) hx hb hts inlX7 hown hK hP 0 rfl rfl 2 (by decide) (hts (.fieldLink RX7 7 "EarthBanksModel" "s" "[I") k_6_2) (fun _ h9 => h9) h_o_S dX7_sweeps_171 ?_
                    refine lv_bipush (v := 48) hx hb dX7_sweeps_174 (by decide) ?_
                    refine lv_iload_n hx hb dX7_sweeps_176 rfl (lv_at hl 3 rfl) ?_
                    refine lv_iadd hx hb dX7_sweeps_177 ?_
                    refine top_eq (y := nI (48 + k84)) (nI_add _ _) ?_
                    refine ialdN (j := (48 + k84)) hx hb hK hP 1 0 rfl rfl (by omega) (by decide) dX7_sweeps_178 ?_
                    refine top_eq (y := ((lvM zo go le la (f7M zo go (feM zo go la he 48)) k84) k84)) (ms_h (c := k84) (by omega) (by omega)) ?_
                    refine iastN (j := (48 + k84)) hx hb hK hP hD hS 1 0 rfl rfl (by omega) (by decide) dX7_sweeps_179 (fun H locs hP hD hS => ?_)
                    have hP : va_P G vwCl [(o, .inr (7, fs_o)), (a_S, .inl (cI, 163, .inl (upd (ms zo (lvM zo go le la (f7M zo go (feM zo go la he 48)) k84) go le hd gn la) (48 + k84) ((lvM zo go le la (f7M zo go (feM zo go la he 48)) k84) k84))))] H := hP
                    have hD : va_D A [(o, .inr (7, fs_o)), (a_S, .inl (cI, 163, .inl (upd (ms zo (lvM zo go le la (f7M zo go (feM zo go la he 48)) k84) go le hd gn la) (48 + k84) ((lvM zo go le la (f7M zo go (feM zo go la he 48)) k84) k84))))] := hD
                    have en_94 : upd (ms zo (lvM zo go le la (f7M zo go (feM zo go la he 48)) k84) go le hd gn la) (48 + k84) ((lvM zo go le la (f7M zo go (feM zo go la he 48)) k84) k84) = ms zo (upd (lvM zo go le la (f7M zo go (feM zo go la he 48)) k84) k84 ((lvM zo go le la (f7M zo go (feM zo go la he 48)) k84) k84)) go le hd gn la := ms_uh (c := k84) (by omega) (by omega)
                    rw [en_94] at hP hD
                    have hP : va_P G vwCl [(o, .inr (7, fs_o)), (a_S, .inl (cI, 163, .inl (ms zo (upd (lvM zo go le la (f7M zo go (feM zo go la he 48)) k84) k84 ((lvM zo go le la (f7M zo go (feM zo go la he 48)) k84) k84)) go le hd gn la)))] H := hP
                    have hD : va_D A [(o, .inr (7, fs_o)), (a_S, .inl (cI, 163, .inl (ms zo (upd (lvM zo go le la (f7M zo go (feM zo go la he 48)) k84) k84 ((lvM zo go le la (f7M zo go (feM zo go la he 48)) k84) k84)) go le hd gn la)))] := hD
                    refine lv_iinc (v := nI (k84 + 1)) (lv' := [(1, .int (nI (k84 + 1))), (3, .int (allM zo go le la (lvM zo go le la (f7M zo go (feM zo go la he 48)) k84) k84)), (2, .int 0), (0, .ref o)]) hx hb dX7_sweeps_180 hl (k := 3) rfl (nI_add _ _) (by decide) rfl (fun ls hl => ?_)
                    refine lv_goto (tgt := 84) hx hb dX7_sweeps_183 (by decide) ?_
                    have er_95 : (ms zo (upd (lvM zo go le la (f7M zo go (feM zo go la he 48)) k84) k84 ((lvM zo go le la (f7M zo go (feM zo go la he 48)) k84) k84)) go le hd gn la) = (ms zo (lvM zo go le la (f7M zo go (feM zo go la he 48)) (k84 + 1)) go le hd gn la) := by rw [lvM_s]; simp [c_93]
                    exact ih84 (k84 + 1) (by omega) (by omega) (by omega)  H locs (by rw [← er_95]; exact hP) (by rw [← er_95]; exact hD) hS ls (lv_sub hl [3, 0] rfl)
                  · skip
                    refine lv_aload_n hx hb dX7_sweeps_159 rfl (lv_at hl 2 rfl) ?_
                    refine lv_iload_n hx hb dX7_sweeps_160 rfl (lv_at hl 3 rfl) ?_
                    refine lv_iconst (v := 1) hx hb dX7_sweeps_161 (by decide) ?_
                    refine cRV (As := [.int (nI k84), .int 1]) (rest := [.int (nI (48 + k84)), .ref a_S]) hx hb hml hown hts (c_X7_flowing l G E cI cZ zo (lvM zo go le la (f7M zo go (feM zo go la he 48)) k84) go le hd gn la k84 true o a_S fs_o h_o_S (by first | assumption | omega | simp [bI, c_3, c_4, c_73, c_75, c_90, c_91, c_93]) (allM_na c_93)) k_22_16 cal_X7_flowing ⟨Nat.le_of_ble_eq_true rfl, Nat.le_of_ble_eq_true rfl⟩ hE hlow hS hK [0, 1] rfl hP [0, 1] rfl 0 7 rfl rfl rfl hl.1 rfl (Nat.le_of_ble_eq_true rfl) dX7_sweeps_162 ⟨Nat.zero_le _, Nat.zero_le _⟩ ?_
                    refine lv_iload_n hx hb dX7_sweeps_165 rfl (lv_at hl 0 rfl) ?_
                    refine lv_idiv hx hb dX7_sweeps_166 (nz_nle c_93) ?_
                    refine lv_goto (tgt := 179) hx hb dX7_sweeps_167 (by decide) ?_
                    refine iastN (j := (48 + k84)) hx hb hK hP hD hS 1 0 rfl rfl (by omega) (by decide) dX7_sweeps_179 (fun H locs hP hD hS => ?_)
                    have hP : va_P G vwCl [(o, .inr (7, fs_o)), (a_S, .inl (cI, 163, .inl (upd (ms zo (lvM zo go le la (f7M zo go (feM zo go la he 48)) k84) go le hd gn la) (48 + k84) ((sumS (flM zo (lvM zo go le la (f7M zo go (feM zo go la he 48)) k84) go le k84 true) 4) / (allM zo go le la (lvM zo go le la (f7M zo go (feM zo go la he 48)) k84) k84)))))] H := hP
                    have hD : va_D A [(o, .inr (7, fs_o)), (a_S, .inl (cI, 163, .inl (upd (ms zo (lvM zo go le la (f7M zo go (feM zo go la he 48)) k84) go le hd gn la) (48 + k84) ((sumS (flM zo (lvM zo go le la (f7M zo go (feM zo go la he 48)) k84) go le k84 true) 4) / (allM zo go le la (lvM zo go le la (f7M zo go (feM zo go la he 48)) k84) k84)))))] := hD
                    have en_96 : upd (ms zo (lvM zo go le la (f7M zo go (feM zo go la he 48)) k84) go le hd gn la) (48 + k84) ((sumS (flM zo (lvM zo go le la (f7M zo go (feM zo go la he 48)) k84) go le k84 true) 4) / (allM zo go le la (lvM zo go le la (f7M zo go (feM zo go la he 48)) k84) k84)) = ms zo (upd (lvM zo go le la (f7M zo go (feM zo go la he 48)) k84) k84 ((sumS (flM zo (lvM zo go le la (f7M zo go (feM zo go la he 48)) k84) go le k84 true) 4) / (allM zo go le la (lvM zo go le la (f7M zo go (feM zo go la he 48)) k84) k84))) go le hd gn la := ms_uh (c := k84) (by omega) (by omega)
                    rw [en_96] at hP hD
                    have hP : va_P G vwCl [(o, .inr (7, fs_o)), (a_S, .inl (cI, 163, .inl (ms zo (upd (lvM zo go le la (f7M zo go (feM zo go la he 48)) k84) k84 ((sumS (flM zo (lvM zo go le la (f7M zo go (feM zo go la he 48)) k84) go le k84 true) 4) / (allM zo go le la (lvM zo go le la (f7M zo go (feM zo go la he 48)) k84) k84))) go le hd gn la)))] H := hP
                    have hD : va_D A [(o, .inr (7, fs_o)), (a_S, .inl (cI, 163, .inl (ms zo (upd (lvM zo go le la (f7M zo go (feM zo go la he 48)) k84) k84 ((sumS (flM zo (lvM zo go le la (f7M zo go (feM zo go la he 48)) k84) go le k84 true) 4) / (allM zo go le la (lvM zo go le la (f7M zo go (feM zo go la he 48)) k84) k84))) go le hd gn la)))] := hD
                    refine lv_iinc (v := nI (k84 + 1)) (lv' := [(1, .int (nI (k84 + 1))), (3, .int (allM zo go le la (lvM zo go le la (f7M zo go (feM zo go la he 48)) k84) k84)), (2, .int 0), (0, .ref o)]) hx hb dX7_sweeps_180 hl (k := 3) rfl (nI_add _ _) (by decide) rfl (fun ls hl => ?_)
                    refine lv_goto (tgt := 84) hx hb dX7_sweeps_183 (by decide) ?_
                    have er_97 : (ms zo (upd (lvM zo go le la (f7M zo go (feM zo go la he 48)) k84) k84 ((sumS (flM zo (lvM zo go le la (f7M zo go (feM zo go la he 48)) k84) go le k84 true) 4) / (allM zo go le la (lvM zo go le la (f7M zo go (feM zo go la he 48)) k84) k84))) go le hd gn la) = (ms zo (lvM zo go le la (f7M zo go (feM zo go la he 48)) (k84 + 1)) go le hd gn la) := by rw [lvM_s]; simp [c_93]
                    exact ih84 (k84 + 1) (by omega) (by omega) (by omega)  H locs (by rw [← er_97]; exact hP) (by rw [← er_97]; exact hD) hS ls (lv_sub hl [3, 0] rfl)
                · skip
                  have c_91 : (isES zo go k84) = true := bI_t c_91
                  refine lv_iload_n hx hb dX7_sweeps_132 rfl (lv_at hl 0 rfl) ?_
                  refine lv_if_ne (tgt := 145) hx hb dX7_sweeps_133 (by decide) (fun c_98 => ?_) (fun c_98 => ?_)
                  · skip
                    exact absurd (by decide) c_98
                  · skip
                    refine lv_aload_n hx hb dX7_sweeps_136 rfl (lv_at hl 1 rfl) ?_
                    refine lv_iload_n hx hb dX7_sweeps_137 rfl (lv_at hl 2 rfl) ?_
                    refine lv_iconst (v := 0) hx hb dX7_sweeps_138 (by decide) ?_
                    refine cRV (As := [.int (nI k84), .int 0]) (rest := []) hx hb hml hown hts (c_X7_flowing l G E cI cZ zo (lvM zo go le la (f7M zo go (feM zo go la he 48)) k84) go le hd gn la k84 false o a_S fs_o h_o_S (by first | assumption | omega | simp [bI, c_3, c_4, c_73, c_75, c_90, c_91, c_98]) (isE_na c_91)) k_22_16 cal_X7_flowing ⟨Nat.le_of_ble_eq_true rfl, Nat.le_of_ble_eq_true rfl⟩ hE hlow hS hK [0, 1] rfl hP [0, 1] rfl 0 7 rfl rfl rfl hl.1 rfl (Nat.le_of_ble_eq_true rfl) dX7_sweeps_139 ⟨Nat.zero_le _, Nat.zero_le _⟩ ?_
                    refine lv_goto (tgt := 146) hx hb dX7_sweeps_142 (by decide) ?_
                    refine lv_istore_n (lv' := [(3, .int (sumS (flM zo (lvM zo go le la (f7M zo go (feM zo go la he 48)) k84) go le k84 false) 4)), (2, .int 0), (0, .ref o), (1, .int (nI k84))]) hx hb dX7_sweeps_146 rfl hl (by decide) rfl (fun ls hl => ?_)
                    have ea_99 : (sumS (flM zo (lvM zo go le la (f7M zo go (feM zo go la he 48)) k84) go le k84 false) 4 : Int32) = (allM zo go le la (lvM zo go le la (f7M zo go (feM zo go la he 48)) k84) k84) := by simp [allM, lkS, c_75, c_90, c_91, eq_true c_98]
                    have hl : lv_has ls 4 [(3, .int (allM zo go le la (lvM zo go le la (f7M zo go (feM zo go la he 48)) k84) k84)), (2, .int 0), (0, .ref o), (1, .int (nI k84))] := by rw [← ea_99]; exact hl
                    refine lv_aload_n hx hb dX7_sweeps_147 rfl (lv_at hl 2 rfl) ?_
                    refine va_get (D := G) (ci := 7) (v := .ref a_S) (C := RX7) (T := TX7) (N := 38) hx hb hts inlX7 hown hK hP 0 rfl rfl 2 (by decide) (hts (.fieldLink RX7 7 "EarthBanksModel" "s" "[I") k_6_2) (fun _ h9 => h9) h_o_S dX7_sweeps_148 ?_
                    refine lv_bipush (v := 48) hx hb dX7_sweeps_151 (by decide) ?_
                    refine lv_iload_n hx hb dX7_sweeps_153 rfl (lv_at hl 3 rfl) ?_
                    refine lv_iadd hx hb dX7_sweeps_154 ?_
                    refine top_eq (y := nI (48 + k84)) (nI_add _ _) ?_
                    refine lv_iload_n hx hb dX7_sweeps_155 rfl (lv_at hl 0 rfl) ?_
                    refine lv_if_le (tgt := 170) hx hb dX7_sweeps_156 (by decide) (fun c_100 => ?_) (fun c_100 => ?_)
                    · skip
                      refine lv_aload_n hx hb dX7_sweeps_170 rfl (lv_at hl 2 rfl) ?_
                      refine va_get (D := G) (ci := 7) (v := .ref a_S) (C := RX7) (T := TX7) (N := 38) hx hb hts inlX7 hown hK hP 0 rfl rfl 2 (by decide) (hts (.fieldLink RX7 7 "EarthBanksModel" "s" "[I") k_6_2) (fun _ h9 => h9) h_o_S dX7_sweeps_171 ?_
                      refine lv_bipush (v := 48) hx hb dX7_sweeps_174 (by decide) ?_
                      refine lv_iload_n hx hb dX7_sweeps_176 rfl (lv_at hl 3 rfl) ?_
                      refine lv_iadd hx hb dX7_sweeps_177 ?_
                      refine top_eq (y := nI (48 + k84)) (nI_add _ _) ?_
                      refine ialdN (j := (48 + k84)) hx hb hK hP 1 0 rfl rfl (by omega) (by decide) dX7_sweeps_178 ?_
                      refine top_eq (y := ((lvM zo go le la (f7M zo go (feM zo go la he 48)) k84) k84)) (ms_h (c := k84) (by omega) (by omega)) ?_
                      refine iastN (j := (48 + k84)) hx hb hK hP hD hS 1 0 rfl rfl (by omega) (by decide) dX7_sweeps_179 (fun H locs hP hD hS => ?_)
                      have hP : va_P G vwCl [(o, .inr (7, fs_o)), (a_S, .inl (cI, 163, .inl (upd (ms zo (lvM zo go le la (f7M zo go (feM zo go la he 48)) k84) go le hd gn la) (48 + k84) ((lvM zo go le la (f7M zo go (feM zo go la he 48)) k84) k84))))] H := hP
                      have hD : va_D A [(o, .inr (7, fs_o)), (a_S, .inl (cI, 163, .inl (upd (ms zo (lvM zo go le la (f7M zo go (feM zo go la he 48)) k84) go le hd gn la) (48 + k84) ((lvM zo go le la (f7M zo go (feM zo go la he 48)) k84) k84))))] := hD
                      have en_101 : upd (ms zo (lvM zo go le la (f7M zo go (feM zo go la he 48)) k84) go le hd gn la) (48 + k84) ((lvM zo go le la (f7M zo go (feM zo go la he 48)) k84) k84) = ms zo (upd (lvM zo go le la (f7M zo go (feM zo go la he 48)) k84) k84 ((lvM zo go le la (f7M zo go (feM zo go la he 48)) k84) k84)) go le hd gn la := ms_uh (c := k84) (by omega) (by omega)
                      rw [en_101] at hP hD
                      have hP : va_P G vwCl [(o, .inr (7, fs_o)), (a_S, .inl (cI, 163, .inl (ms zo (upd (lvM zo go le la (f7M zo go (feM zo go la he 48)) k84) k84 ((lvM zo go le la (f7M zo go (feM zo go la he 48)) k84) k84)) go le hd gn la)))] H := hP
                      have hD : va_D A [(o, .inr (7, fs_o)), (a_S, .inl (cI, 163, .inl (ms zo (upd (lvM zo go le la (f7M zo go (feM zo go la he 48)) k84) k84 ((lvM zo go le la (f7M zo go (feM zo go la he 48)) k84) k84)) go le hd gn la)))] := hD
                      refine lv_iinc (v := nI (k84 + 1)) (lv' := [(1, .int (nI (k84 + 1))), (3, .int (allM zo go le la (lvM zo go le la (f7M zo go (feM zo go la he 48)) k84) k84)), (2, .int 0), (0, .ref o)]) hx hb dX7_sweeps_180 hl (k := 3) rfl (nI_add _ _) (by decide) rfl (fun ls hl => ?_)
                      refine lv_goto (tgt := 84) hx hb dX7_sweeps_183 (by decide) ?_
                      have er_102 : (ms zo (upd (lvM zo go le la (f7M zo go (feM zo go la he 48)) k84) k84 ((lvM zo go le la (f7M zo go (feM zo go la he 48)) k84) k84)) go le hd gn la) = (ms zo (lvM zo go le la (f7M zo go (feM zo go la he 48)) (k84 + 1)) go le hd gn la) := by rw [lvM_s]; simp [c_100]
                      exact ih84 (k84 + 1) (by omega) (by omega) (by omega)  H locs (by rw [← er_102]; exact hP) (by rw [← er_102]; exact hD) hS ls (lv_sub hl [3, 0] rfl)
                    · skip
                      refine lv_aload_n hx hb dX7_sweeps_159 rfl (lv_at hl 2 rfl) ?_
                      refine lv_iload_n hx hb dX7_sweeps_160 rfl (lv_at hl 3 rfl) ?_
                      refine lv_iconst (v := 1) hx hb dX7_sweeps_161 (by decide) ?_
                      refine cRV (As := [.int (nI k84), .int 1]) (rest := [.int (nI (48 + k84)), .ref a_S]) hx hb hml hown hts (c_X7_flowing l G E cI cZ zo (lvM zo go le la (f7M zo go (feM zo go la he 48)) k84) go le hd gn la k84 true o a_S fs_o h_o_S (by first | assumption | omega | simp [bI, c_3, c_4, c_73, c_75, c_90, c_91, c_98, c_100]) (allM_na c_100)) k_22_16 cal_X7_flowing ⟨Nat.le_of_ble_eq_true rfl, Nat.le_of_ble_eq_true rfl⟩ hE hlow hS hK [0, 1] rfl hP [0, 1] rfl 0 7 rfl rfl rfl hl.1 rfl (Nat.le_of_ble_eq_true rfl) dX7_sweeps_162 ⟨Nat.zero_le _, Nat.zero_le _⟩ ?_
                      refine lv_iload_n hx hb dX7_sweeps_165 rfl (lv_at hl 0 rfl) ?_
                      refine lv_idiv hx hb dX7_sweeps_166 (nz_nle c_100) ?_
                      refine lv_goto (tgt := 179) hx hb dX7_sweeps_167 (by decide) ?_
                      refine iastN (j := (48 + k84)) hx hb hK hP hD hS 1 0 rfl rfl (by omega) (by decide) dX7_sweeps_179 (fun H locs hP hD hS => ?_)
                      have hP : va_P G vwCl [(o, .inr (7, fs_o)), (a_S, .inl (cI, 163, .inl (upd (ms zo (lvM zo go le la (f7M zo go (feM zo go la he 48)) k84) go le hd gn la) (48 + k84) ((sumS (flM zo (lvM zo go le la (f7M zo go (feM zo go la he 48)) k84) go le k84 true) 4) / (allM zo go le la (lvM zo go le la (f7M zo go (feM zo go la he 48)) k84) k84)))))] H := hP
                      have hD : va_D A [(o, .inr (7, fs_o)), (a_S, .inl (cI, 163, .inl (upd (ms zo (lvM zo go le la (f7M zo go (feM zo go la he 48)) k84) go le hd gn la) (48 + k84) ((sumS (flM zo (lvM zo go le la (f7M zo go (feM zo go la he 48)) k84) go le k84 true) 4) / (allM zo go le la (lvM zo go le la (f7M zo go (feM zo go la he 48)) k84) k84)))))] := hD
                      have en_103 : upd (ms zo (lvM zo go le la (f7M zo go (feM zo go la he 48)) k84) go le hd gn la) (48 + k84) ((sumS (flM zo (lvM zo go le la (f7M zo go (feM zo go la he 48)) k84) go le k84 true) 4) / (allM zo go le la (lvM zo go le la (f7M zo go (feM zo go la he 48)) k84) k84)) = ms zo (upd (lvM zo go le la (f7M zo go (feM zo go la he 48)) k84) k84 ((sumS (flM zo (lvM zo go le la (f7M zo go (feM zo go la he 48)) k84) go le k84 true) 4) / (allM zo go le la (lvM zo go le la (f7M zo go (feM zo go la he 48)) k84) k84))) go le hd gn la := ms_uh (c := k84) (by omega) (by omega)
                      rw [en_103] at hP hD
                      have hP : va_P G vwCl [(o, .inr (7, fs_o)), (a_S, .inl (cI, 163, .inl (ms zo (upd (lvM zo go le la (f7M zo go (feM zo go la he 48)) k84) k84 ((sumS (flM zo (lvM zo go le la (f7M zo go (feM zo go la he 48)) k84) go le k84 true) 4) / (allM zo go le la (lvM zo go le la (f7M zo go (feM zo go la he 48)) k84) k84))) go le hd gn la)))] H := hP
                      have hD : va_D A [(o, .inr (7, fs_o)), (a_S, .inl (cI, 163, .inl (ms zo (upd (lvM zo go le la (f7M zo go (feM zo go la he 48)) k84) k84 ((sumS (flM zo (lvM zo go le la (f7M zo go (feM zo go la he 48)) k84) go le k84 true) 4) / (allM zo go le la (lvM zo go le la (f7M zo go (feM zo go la he 48)) k84) k84))) go le hd gn la)))] := hD
                      refine lv_iinc (v := nI (k84 + 1)) (lv' := [(1, .int (nI (k84 + 1))), (3, .int (allM zo go le la (lvM zo go le la (f7M zo go (feM zo go la he 48)) k84) k84)), (2, .int 0), (0, .ref o)]) hx hb dX7_sweeps_180 hl (k := 3) rfl (nI_add _ _) (by decide) rfl (fun ls hl => ?_)
                      refine lv_goto (tgt := 84) hx hb dX7_sweeps_183 (by decide) ?_
                      have er_104 : (ms zo (upd (lvM zo go le la (f7M zo go (feM zo go la he 48)) k84) k84 ((sumS (flM zo (lvM zo go le la (f7M zo go (feM zo go la he 48)) k84) go le k84 true) 4) / (allM zo go le la (lvM zo go le la (f7M zo go (feM zo go la he 48)) k84) k84))) go le hd gn la) = (ms zo (lvM zo go le la (f7M zo go (feM zo go la he 48)) (k84 + 1)) go le hd gn la) := by rw [lvM_s]; simp [c_100]
                      exact ih84 (k84 + 1) (by omega) (by omega) (by omega)  H locs (by rw [← er_104]; exact hP) (by rw [← er_104]; exact hD) hS ls (lv_sub hl [3, 0] rfl)
              · skip
                have c_90 : (k84 % 8) = 0 := (nI_eq (a := (k84 % 8)) (b := 0) (by omega) (by omega)).mp c_90
                refine lv_iload_n hx hb dX7_sweeps_103 rfl (lv_at hl 1 rfl) ?_
                refine lv_bipush (v := 8) hx hb dX7_sweeps_104 (by decide) ?_
                refine lv_idiv hx hb dX7_sweeps_106 (by decide) ?_
                refine top_eq (y := nI (k84 / 8)) (pk_div (a := k84) (d := 8) (by omega) (by omega) (by omega)) ?_
                refine lv_aload_n hx hb dX7_sweeps_107 rfl (lv_at hl 0 rfl) ?_
                refine va_get (D := G) (ci := 7) (v := .ref a_S) (C := RX7) (T := TX7) (N := 38) hx hb hts inlX7 hown hK hP 0 rfl rfl 2 (by decide) (hts (.fieldLink RX7 7 "EarthBanksModel" "s" "[I") k_6_2) (fun _ h9 => h9) h_o_S dX7_sweeps_108 ?_
                refine lv_sipush (v := 162) hx hb dX7_sweeps_111 (by decide) ?_
                refine ialdN (j := 162) hx hb hK hP 1 0 rfl rfl (by omega) (by decide) dX7_sweeps_114 ?_
                refine top_eq (y := la) (ms_a (by omega)) ?_
                refine lv_icmp_ge (tgt := 122) hx hb dX7_sweeps_115 (by decide) (fun c_105 => ?_) (fun c_105 => ?_)
                · skip
                  have c_105 := i_nlt c_105
                  refine lv_iconst (v := 0) hx hb dX7_sweeps_122 (by decide) ?_
                  refine lv_istore_n (lv' := [(2, .int 0), (0, .ref o), (1, .int (nI k84))]) hx hb dX7_sweeps_123 rfl hl (by decide) rfl (fun ls hl => ?_)
                  refine lv_aload_n hx hb dX7_sweeps_124 rfl (lv_at hl 1 rfl) ?_
                  refine lv_iload_n hx hb dX7_sweeps_125 rfl (lv_at hl 2 rfl) ?_
                  refine cRV (As := [.int (nI k84)]) (rest := []) hx hb hml hown hts (c_X7_isEarth l G E cI cZ zo (lvM zo go le la (f7M zo go (feM zo go la he 48)) k84) go le hd gn la k84 o a_S fs_o h_o_S (by first | assumption | omega | simp [bI, c_3, c_4, c_73, c_75, c_90, c_105])) k_16_1 cal_X7_isEarth ⟨Nat.le_of_ble_eq_true rfl, Nat.le_of_ble_eq_true rfl⟩ hE hlow hS hK [0, 1] rfl hP [0, 1] rfl 0 7 rfl rfl rfl hl.1 rfl (Nat.le_of_ble_eq_true rfl) dX7_sweeps_126 ⟨Nat.zero_le _, Nat.zero_le _⟩ ?_
                  refine lv_if_eq (tgt := 145) hx hb dX7_sweeps_129 (by decide) (fun c_106 => ?_) (fun c_106 => ?_)
                  · skip
                    have c_106 : (isES zo go k84) = false := bI_f c_106
                    refine lv_iconst (v := 0) hx hb dX7_sweeps_145 (by decide) ?_
                    refine lv_istore_n (lv' := [(3, .int 0), (2, .int 0), (0, .ref o), (1, .int (nI k84))]) hx hb dX7_sweeps_146 rfl hl (by decide) rfl (fun ls hl => ?_)
                    have ea_107 : (0 : Int32) = (allM zo go le la (lvM zo go le la (f7M zo go (feM zo go la he 48)) k84) k84) := by simp [allM, lkS, c_75, eq_true c_90, c_105, c_106]
                    have hl : lv_has ls 4 [(3, .int (allM zo go le la (lvM zo go le la (f7M zo go (feM zo go la he 48)) k84) k84)), (2, .int 0), (0, .ref o), (1, .int (nI k84))] := by rw [← ea_107]; exact hl
                    refine lv_aload_n hx hb dX7_sweeps_147 rfl (lv_at hl 2 rfl) ?_
                    refine va_get (D := G) (ci := 7) (v := .ref a_S) (C := RX7) (T := TX7) (N := 38) hx hb hts inlX7 hown hK hP 0 rfl rfl 2 (by decide) (hts (.fieldLink RX7 7 "EarthBanksModel" "s" "[I") k_6_2) (fun _ h9 => h9) h_o_S dX7_sweeps_148 ?_
                    refine lv_bipush (v := 48) hx hb dX7_sweeps_151 (by decide) ?_
                    refine lv_iload_n hx hb dX7_sweeps_153 rfl (lv_at hl 3 rfl) ?_
                    refine lv_iadd hx hb dX7_sweeps_154 ?_
                    refine top_eq (y := nI (48 + k84)) (nI_add _ _) ?_
                    refine lv_iload_n hx hb dX7_sweeps_155 rfl (lv_at hl 0 rfl) ?_
                    refine lv_if_le (tgt := 170) hx hb dX7_sweeps_156 (by decide) (fun c_108 => ?_) (fun c_108 => ?_)
                    · skip
                      refine lv_aload_n hx hb dX7_sweeps_170 rfl (lv_at hl 2 rfl) ?_
                      refine va_get (D := G) (ci := 7) (v := .ref a_S) (C := RX7) (T := TX7) (N := 38) hx hb hts inlX7 hown hK hP 0 rfl rfl 2 (by decide) (hts (.fieldLink RX7 7 "EarthBanksModel" "s" "[I") k_6_2) (fun _ h9 => h9) h_o_S dX7_sweeps_171 ?_
                      refine lv_bipush (v := 48) hx hb dX7_sweeps_174 (by decide) ?_
                      refine lv_iload_n hx hb dX7_sweeps_176 rfl (lv_at hl 3 rfl) ?_
                      refine lv_iadd hx hb dX7_sweeps_177 ?_
                      refine top_eq (y := nI (48 + k84)) (nI_add _ _) ?_
                      refine ialdN (j := (48 + k84)) hx hb hK hP 1 0 rfl rfl (by omega) (by decide) dX7_sweeps_178 ?_
                      refine top_eq (y := ((lvM zo go le la (f7M zo go (feM zo go la he 48)) k84) k84)) (ms_h (c := k84) (by omega) (by omega)) ?_
                      refine iastN (j := (48 + k84)) hx hb hK hP hD hS 1 0 rfl rfl (by omega) (by decide) dX7_sweeps_179 (fun H locs hP hD hS => ?_)
                      have hP : va_P G vwCl [(o, .inr (7, fs_o)), (a_S, .inl (cI, 163, .inl (upd (ms zo (lvM zo go le la (f7M zo go (feM zo go la he 48)) k84) go le hd gn la) (48 + k84) ((lvM zo go le la (f7M zo go (feM zo go la he 48)) k84) k84))))] H := hP
                      have hD : va_D A [(o, .inr (7, fs_o)), (a_S, .inl (cI, 163, .inl (upd (ms zo (lvM zo go le la (f7M zo go (feM zo go la he 48)) k84) go le hd gn la) (48 + k84) ((lvM zo go le la (f7M zo go (feM zo go la he 48)) k84) k84))))] := hD
                      have en_109 : upd (ms zo (lvM zo go le la (f7M zo go (feM zo go la he 48)) k84) go le hd gn la) (48 + k84) ((lvM zo go le la (f7M zo go (feM zo go la he 48)) k84) k84) = ms zo (upd (lvM zo go le la (f7M zo go (feM zo go la he 48)) k84) k84 ((lvM zo go le la (f7M zo go (feM zo go la he 48)) k84) k84)) go le hd gn la := ms_uh (c := k84) (by omega) (by omega)
                      rw [en_109] at hP hD
                      have hP : va_P G vwCl [(o, .inr (7, fs_o)), (a_S, .inl (cI, 163, .inl (ms zo (upd (lvM zo go le la (f7M zo go (feM zo go la he 48)) k84) k84 ((lvM zo go le la (f7M zo go (feM zo go la he 48)) k84) k84)) go le hd gn la)))] H := hP
                      have hD : va_D A [(o, .inr (7, fs_o)), (a_S, .inl (cI, 163, .inl (ms zo (upd (lvM zo go le la (f7M zo go (feM zo go la he 48)) k84) k84 ((lvM zo go le la (f7M zo go (feM zo go la he 48)) k84) k84)) go le hd gn la)))] := hD
                      refine lv_iinc (v := nI (k84 + 1)) (lv' := [(1, .int (nI (k84 + 1))), (3, .int (allM zo go le la (lvM zo go le la (f7M zo go (feM zo go la he 48)) k84) k84)), (2, .int 0), (0, .ref o)]) hx hb dX7_sweeps_180 hl (k := 3) rfl (nI_add _ _) (by decide) rfl (fun ls hl => ?_)
                      refine lv_goto (tgt := 84) hx hb dX7_sweeps_183 (by decide) ?_
                      have er_110 : (ms zo (upd (lvM zo go le la (f7M zo go (feM zo go la he 48)) k84) k84 ((lvM zo go le la (f7M zo go (feM zo go la he 48)) k84) k84)) go le hd gn la) = (ms zo (lvM zo go le la (f7M zo go (feM zo go la he 48)) (k84 + 1)) go le hd gn la) := by rw [lvM_s]; simp [c_108]
                      exact ih84 (k84 + 1) (by omega) (by omega) (by omega)  H locs (by rw [← er_110]; exact hP) (by rw [← er_110]; exact hD) hS ls (lv_sub hl [3, 0] rfl)
                    · skip
                      refine lv_aload_n hx hb dX7_sweeps_159 rfl (lv_at hl 2 rfl) ?_
                      refine lv_iload_n hx hb dX7_sweeps_160 rfl (lv_at hl 3 rfl) ?_
                      refine lv_iconst (v := 1) hx hb dX7_sweeps_161 (by decide) ?_
                      refine cRV (As := [.int (nI k84), .int 1]) (rest := [.int (nI (48 + k84)), .ref a_S]) hx hb hml hown hts (c_X7_flowing l G E cI cZ zo (lvM zo go le la (f7M zo go (feM zo go la he 48)) k84) go le hd gn la k84 true o a_S fs_o h_o_S (by first | assumption | omega | simp [bI, c_3, c_4, c_73, c_75, c_90, c_105, c_106, c_108]) (allM_na c_108)) k_22_16 cal_X7_flowing ⟨Nat.le_of_ble_eq_true rfl, Nat.le_of_ble_eq_true rfl⟩ hE hlow hS hK [0, 1] rfl hP [0, 1] rfl 0 7 rfl rfl rfl hl.1 rfl (Nat.le_of_ble_eq_true rfl) dX7_sweeps_162 ⟨Nat.zero_le _, Nat.zero_le _⟩ ?_
                      refine lv_iload_n hx hb dX7_sweeps_165 rfl (lv_at hl 0 rfl) ?_
                      refine lv_idiv hx hb dX7_sweeps_166 (nz_nle c_108) ?_
                      refine lv_goto (tgt := 179) hx hb dX7_sweeps_167 (by decide) ?_
                      refine iastN (j := (48 + k84)) hx hb hK hP hD hS 1 0 rfl rfl (by omega) (by decide) dX7_sweeps_179 (fun H locs hP hD hS => ?_)
                      have hP : va_P G vwCl [(o, .inr (7, fs_o)), (a_S, .inl (cI, 163, .inl (upd (ms zo (lvM zo go le la (f7M zo go (feM zo go la he 48)) k84) go le hd gn la) (48 + k84) ((sumS (flM zo (lvM zo go le la (f7M zo go (feM zo go la he 48)) k84) go le k84 true) 4) / (allM zo go le la (lvM zo go le la (f7M zo go (feM zo go la he 48)) k84) k84)))))] H := hP
                      have hD : va_D A [(o, .inr (7, fs_o)), (a_S, .inl (cI, 163, .inl (upd (ms zo (lvM zo go le la (f7M zo go (feM zo go la he 48)) k84) go le hd gn la) (48 + k84) ((sumS (flM zo (lvM zo go le la (f7M zo go (feM zo go la he 48)) k84) go le k84 true) 4) / (allM zo go le la (lvM zo go le la (f7M zo go (feM zo go la he 48)) k84) k84)))))] := hD
                      have en_111 : upd (ms zo (lvM zo go le la (f7M zo go (feM zo go la he 48)) k84) go le hd gn la) (48 + k84) ((sumS (flM zo (lvM zo go le la (f7M zo go (feM zo go la he 48)) k84) go le k84 true) 4) / (allM zo go le la (lvM zo go le la (f7M zo go (feM zo go la he 48)) k84) k84)) = ms zo (upd (lvM zo go le la (f7M zo go (feM zo go la he 48)) k84) k84 ((sumS (flM zo (lvM zo go le la (f7M zo go (feM zo go la he 48)) k84) go le k84 true) 4) / (allM zo go le la (lvM zo go le la (f7M zo go (feM zo go la he 48)) k84) k84))) go le hd gn la := ms_uh (c := k84) (by omega) (by omega)
                      rw [en_111] at hP hD
                      have hP : va_P G vwCl [(o, .inr (7, fs_o)), (a_S, .inl (cI, 163, .inl (ms zo (upd (lvM zo go le la (f7M zo go (feM zo go la he 48)) k84) k84 ((sumS (flM zo (lvM zo go le la (f7M zo go (feM zo go la he 48)) k84) go le k84 true) 4) / (allM zo go le la (lvM zo go le la (f7M zo go (feM zo go la he 48)) k84) k84))) go le hd gn la)))] H := hP
                      have hD : va_D A [(o, .inr (7, fs_o)), (a_S, .inl (cI, 163, .inl (ms zo (upd (lvM zo go le la (f7M zo go (feM zo go la he 48)) k84) k84 ((sumS (flM zo (lvM zo go le la (f7M zo go (feM zo go la he 48)) k84) go le k84 true) 4) / (allM zo go le la (lvM zo go le la (f7M zo go (feM zo go la he 48)) k84) k84))) go le hd gn la)))] := hD
                      refine lv_iinc (v := nI (k84 + 1)) (lv' := [(1, .int (nI (k84 + 1))), (3, .int (allM zo go le la (lvM zo go le la (f7M zo go (feM zo go la he 48)) k84) k84)), (2, .int 0), (0, .ref o)]) hx hb dX7_sweeps_180 hl (k := 3) rfl (nI_add _ _) (by decide) rfl (fun ls hl => ?_)
                      refine lv_goto (tgt := 84) hx hb dX7_sweeps_183 (by decide) ?_
                      have er_112 : (ms zo (upd (lvM zo go le la (f7M zo go (feM zo go la he 48)) k84) k84 ((sumS (flM zo (lvM zo go le la (f7M zo go (feM zo go la he 48)) k84) go le k84 true) 4) / (allM zo go le la (lvM zo go le la (f7M zo go (feM zo go la he 48)) k84) k84))) go le hd gn la) = (ms zo (lvM zo go le la (f7M zo go (feM zo go la he 48)) (k84 + 1)) go le hd gn la) := by rw [lvM_s]; simp [c_108]
                      exact ih84 (k84 + 1) (by omega) (by omega) (by omega)  H locs (by rw [← er_112]; exact hP) (by rw [← er_112]; exact hD) hS ls (lv_sub hl [3, 0] rfl)
                  · skip
                    have c_106 : (isES zo go k84) = true := bI_t c_106
                    refine lv_iload_n hx hb dX7_sweeps_132 rfl (lv_at hl 0 rfl) ?_
                    refine lv_if_ne (tgt := 145) hx hb dX7_sweeps_133 (by decide) (fun c_113 => ?_) (fun c_113 => ?_)
                    · skip
                      exact absurd (by decide) c_113
                    · skip
                      refine lv_aload_n hx hb dX7_sweeps_136 rfl (lv_at hl 1 rfl) ?_
                      refine lv_iload_n hx hb dX7_sweeps_137 rfl (lv_at hl 2 rfl) ?_
                      refine lv_iconst (v := 0) hx hb dX7_sweeps_138 (by decide) ?_
                      refine cRV (As := [.int (nI k84), .int 0]) (rest := []) hx hb hml hown hts (c_X7_flowing l G E cI cZ zo (lvM zo go le la (f7M zo go (feM zo go la he 48)) k84) go le hd gn la k84 false o a_S fs_o h_o_S (by first | assumption | omega | simp [bI, c_3, c_4, c_73, c_75, c_90, c_105, c_106, c_113]) (isE_na c_106)) k_22_16 cal_X7_flowing ⟨Nat.le_of_ble_eq_true rfl, Nat.le_of_ble_eq_true rfl⟩ hE hlow hS hK [0, 1] rfl hP [0, 1] rfl 0 7 rfl rfl rfl hl.1 rfl (Nat.le_of_ble_eq_true rfl) dX7_sweeps_139 ⟨Nat.zero_le _, Nat.zero_le _⟩ ?_
                      refine lv_goto (tgt := 146) hx hb dX7_sweeps_142 (by decide) ?_
                      refine lv_istore_n (lv' := [(3, .int (sumS (flM zo (lvM zo go le la (f7M zo go (feM zo go la he 48)) k84) go le k84 false) 4)), (2, .int 0), (0, .ref o), (1, .int (nI k84))]) hx hb dX7_sweeps_146 rfl hl (by decide) rfl (fun ls hl => ?_)
                      have ea_114 : (sumS (flM zo (lvM zo go le la (f7M zo go (feM zo go la he 48)) k84) go le k84 false) 4 : Int32) = (allM zo go le la (lvM zo go le la (f7M zo go (feM zo go la he 48)) k84) k84) := by simp [allM, lkS, c_75, eq_true c_90, c_105, c_106, eq_true c_113]
                      have hl : lv_has ls 4 [(3, .int (allM zo go le la (lvM zo go le la (f7M zo go (feM zo go la he 48)) k84) k84)), (2, .int 0), (0, .ref o), (1, .int (nI k84))] := by rw [← ea_114]; exact hl
                      refine lv_aload_n hx hb dX7_sweeps_147 rfl (lv_at hl 2 rfl) ?_
                      refine va_get (D := G) (ci := 7) (v := .ref a_S) (C := RX7) (T := TX7) (N := 38) hx hb hts inlX7 hown hK hP 0 rfl rfl 2 (by decide) (hts (.fieldLink RX7 7 "EarthBanksModel" "s" "[I") k_6_2) (fun _ h9 => h9) h_o_S dX7_sweeps_148 ?_
                      refine lv_bipush (v := 48) hx hb dX7_sweeps_151 (by decide) ?_
                      refine lv_iload_n hx hb dX7_sweeps_153 rfl (lv_at hl 3 rfl) ?_
                      refine lv_iadd hx hb dX7_sweeps_154 ?_
                      refine top_eq (y := nI (48 + k84)) (nI_add _ _) ?_
                      refine lv_iload_n hx hb dX7_sweeps_155 rfl (lv_at hl 0 rfl) ?_
                      refine lv_if_le (tgt := 170) hx hb dX7_sweeps_156 (by decide) (fun c_115 => ?_) (fun c_115 => ?_)
                      · skip
                        refine lv_aload_n hx hb dX7_sweeps_170 rfl (lv_at hl 2 rfl) ?_
                        refine va_get (D := G) (ci := 7) (v := .ref a_S) (C := RX7) (T := TX7) (N := 38) hx hb hts inlX7 hown hK hP 0 rfl rfl 2 (by decide) (hts (.fieldLink RX7 7 "EarthBanksModel" "s" "[I") k_6_2) (fun _ h9 => h9) h_o_S dX7_sweeps_171 ?_
                        refine lv_bipush (v := 48) hx hb dX7_sweeps_174 (by decide) ?_
                        refine lv_iload_n hx hb dX7_sweeps_176 rfl (lv_at hl 3 rfl) ?_
                        refine lv_iadd hx hb dX7_sweeps_177 ?_
                        refine top_eq (y := nI (48 + k84)) (nI_add _ _) ?_
                        refine ialdN (j := (48 + k84)) hx hb hK hP 1 0 rfl rfl (by omega) (by decide) dX7_sweeps_178 ?_
                        refine top_eq (y := ((lvM zo go le la (f7M zo go (feM zo go la he 48)) k84) k84)) (ms_h (c := k84) (by omega) (by omega)) ?_
                        refine iastN (j := (48 + k84)) hx hb hK hP hD hS 1 0 rfl rfl (by omega) (by decide) dX7_sweeps_179 (fun H locs hP hD hS => ?_)
                        have hP : va_P G vwCl [(o, .inr (7, fs_o)), (a_S, .inl (cI, 163, .inl (upd (ms zo (lvM zo go le la (f7M zo go (feM zo go la he 48)) k84) go le hd gn la) (48 + k84) ((lvM zo go le la (f7M zo go (feM zo go la he 48)) k84) k84))))] H := hP
                        have hD : va_D A [(o, .inr (7, fs_o)), (a_S, .inl (cI, 163, .inl (upd (ms zo (lvM zo go le la (f7M zo go (feM zo go la he 48)) k84) go le hd gn la) (48 + k84) ((lvM zo go le la (f7M zo go (feM zo go la he 48)) k84) k84))))] := hD
                        have en_116 : upd (ms zo (lvM zo go le la (f7M zo go (feM zo go la he 48)) k84) go le hd gn la) (48 + k84) ((lvM zo go le la (f7M zo go (feM zo go la he 48)) k84) k84) = ms zo (upd (lvM zo go le la (f7M zo go (feM zo go la he 48)) k84) k84 ((lvM zo go le la (f7M zo go (feM zo go la he 48)) k84) k84)) go le hd gn la := ms_uh (c := k84) (by omega) (by omega)
                        rw [en_116] at hP hD
                        have hP : va_P G vwCl [(o, .inr (7, fs_o)), (a_S, .inl (cI, 163, .inl (ms zo (upd (lvM zo go le la (f7M zo go (feM zo go la he 48)) k84) k84 ((lvM zo go le la (f7M zo go (feM zo go la he 48)) k84) k84)) go le hd gn la)))] H := hP
                        have hD : va_D A [(o, .inr (7, fs_o)), (a_S, .inl (cI, 163, .inl (ms zo (upd (lvM zo go le la (f7M zo go (feM zo go la he 48)) k84) k84 ((lvM zo go le la (f7M zo go (feM zo go la he 48)) k84) k84)) go le hd gn la)))] := hD
                        refine lv_iinc (v := nI (k84 + 1)) (lv' := [(1, .int (nI (k84 + 1))), (3, .int (allM zo go le la (lvM zo go le la (f7M zo go (feM zo go la he 48)) k84) k84)), (2, .int 0), (0, .ref o)]) hx hb dX7_sweeps_180 hl (k := 3) rfl (nI_add _ _) (by decide) rfl (fun ls hl => ?_)
                        refine lv_goto (tgt := 84) hx hb dX7_sweeps_183 (by decide) ?_
                        have er_117 : (ms zo (upd (lvM zo go le la (f7M zo go (feM zo go la he 48)) k84) k84 ((lvM zo go le la (f7M zo go (feM zo go la he 48)) k84) k84)) go le hd gn la) = (ms zo (lvM zo go le la (f7M zo go (feM zo go la he 48)) (k84 + 1)) go le hd gn la) := by rw [lvM_s]; simp [c_115]
                        exact ih84 (k84 + 1) (by omega) (by omega) (by omega)  H locs (by rw [← er_117]; exact hP) (by rw [← er_117]; exact hD) hS ls (lv_sub hl [3, 0] rfl)
                      · skip
                        refine lv_aload_n hx hb dX7_sweeps_159 rfl (lv_at hl 2 rfl) ?_
                        refine lv_iload_n hx hb dX7_sweeps_160 rfl (lv_at hl 3 rfl) ?_
                        refine lv_iconst (v := 1) hx hb dX7_sweeps_161 (by decide) ?_
                        refine cRV (As := [.int (nI k84), .int 1]) (rest := [.int (nI (48 + k84)), .ref a_S]) hx hb hml hown hts (c_X7_flowing l G E cI cZ zo (lvM zo go le la (f7M zo go (feM zo go la he 48)) k84) go le hd gn la k84 true o a_S fs_o h_o_S (by first | assumption | omega | simp [bI, c_3, c_4, c_73, c_75, c_90, c_105, c_106, c_113, c_115]) (allM_na c_115)) k_22_16 cal_X7_flowing ⟨Nat.le_of_ble_eq_true rfl, Nat.le_of_ble_eq_true rfl⟩ hE hlow hS hK [0, 1] rfl hP [0, 1] rfl 0 7 rfl rfl rfl hl.1 rfl (Nat.le_of_ble_eq_true rfl) dX7_sweeps_162 ⟨Nat.zero_le _, Nat.zero_le _⟩ ?_
                        refine lv_iload_n hx hb dX7_sweeps_165 rfl (lv_at hl 0 rfl) ?_
                        refine lv_idiv hx hb dX7_sweeps_166 (nz_nle c_115) ?_
                        refine lv_goto (tgt := 179) hx hb dX7_sweeps_167 (by decide) ?_
                        refine iastN (j := (48 + k84)) hx hb hK hP hD hS 1 0 rfl rfl (by omega) (by decide) dX7_sweeps_179 (fun H locs hP hD hS => ?_)
                        have hP : va_P G vwCl [(o, .inr (7, fs_o)), (a_S, .inl (cI, 163, .inl (upd (ms zo (lvM zo go le la (f7M zo go (feM zo go la he 48)) k84) go le hd gn la) (48 + k84) ((sumS (flM zo (lvM zo go le la (f7M zo go (feM zo go la he 48)) k84) go le k84 true) 4) / (allM zo go le la (lvM zo go le la (f7M zo go (feM zo go la he 48)) k84) k84)))))] H := hP
                        have hD : va_D A [(o, .inr (7, fs_o)), (a_S, .inl (cI, 163, .inl (upd (ms zo (lvM zo go le la (f7M zo go (feM zo go la he 48)) k84) go le hd gn la) (48 + k84) ((sumS (flM zo (lvM zo go le la (f7M zo go (feM zo go la he 48)) k84) go le k84 true) 4) / (allM zo go le la (lvM zo go le la (f7M zo go (feM zo go la he 48)) k84) k84)))))] := hD
                        have en_118 : upd (ms zo (lvM zo go le la (f7M zo go (feM zo go la he 48)) k84) go le hd gn la) (48 + k84) ((sumS (flM zo (lvM zo go le la (f7M zo go (feM zo go la he 48)) k84) go le k84 true) 4) / (allM zo go le la (lvM zo go le la (f7M zo go (feM zo go la he 48)) k84) k84)) = ms zo (upd (lvM zo go le la (f7M zo go (feM zo go la he 48)) k84) k84 ((sumS (flM zo (lvM zo go le la (f7M zo go (feM zo go la he 48)) k84) go le k84 true) 4) / (allM zo go le la (lvM zo go le la (f7M zo go (feM zo go la he 48)) k84) k84))) go le hd gn la := ms_uh (c := k84) (by omega) (by omega)
                        rw [en_118] at hP hD
                        have hP : va_P G vwCl [(o, .inr (7, fs_o)), (a_S, .inl (cI, 163, .inl (ms zo (upd (lvM zo go le la (f7M zo go (feM zo go la he 48)) k84) k84 ((sumS (flM zo (lvM zo go le la (f7M zo go (feM zo go la he 48)) k84) go le k84 true) 4) / (allM zo go le la (lvM zo go le la (f7M zo go (feM zo go la he 48)) k84) k84))) go le hd gn la)))] H := hP
                        have hD : va_D A [(o, .inr (7, fs_o)), (a_S, .inl (cI, 163, .inl (ms zo (upd (lvM zo go le la (f7M zo go (feM zo go la he 48)) k84) k84 ((sumS (flM zo (lvM zo go le la (f7M zo go (feM zo go la he 48)) k84) go le k84 true) 4) / (allM zo go le la (lvM zo go le la (f7M zo go (feM zo go la he 48)) k84) k84))) go le hd gn la)))] := hD
                        refine lv_iinc (v := nI (k84 + 1)) (lv' := [(1, .int (nI (k84 + 1))), (3, .int (allM zo go le la (lvM zo go le la (f7M zo go (feM zo go la he 48)) k84) k84)), (2, .int 0), (0, .ref o)]) hx hb dX7_sweeps_180 hl (k := 3) rfl (nI_add _ _) (by decide) rfl (fun ls hl => ?_)
                        refine lv_goto (tgt := 84) hx hb dX7_sweeps_183 (by decide) ?_
                        have er_119 : (ms zo (upd (lvM zo go le la (f7M zo go (feM zo go la he 48)) k84) k84 ((sumS (flM zo (lvM zo go le la (f7M zo go (feM zo go la he 48)) k84) go le k84 true) 4) / (allM zo go le la (lvM zo go le la (f7M zo go (feM zo go la he 48)) k84) k84))) go le hd gn la) = (ms zo (lvM zo go le la (f7M zo go (feM zo go la he 48)) (k84 + 1)) go le hd gn la) := by rw [lvM_s]; simp [c_115]
                        exact ih84 (k84 + 1) (by omega) (by omega) (by omega)  H locs (by rw [← er_119]; exact hP) (by rw [← er_119]; exact hD) hS ls (lv_sub hl [3, 0] rfl)
                · skip
                  have c_105 := i_lt c_105
                  refine lv_iconst (v := 1) hx hb dX7_sweeps_118 (by decide) ?_
                  refine lv_goto (tgt := 123) hx hb dX7_sweeps_119 (by decide) ?_
                  refine lv_istore_n (lv' := [(2, .int 1), (0, .ref o), (1, .int (nI k84))]) hx hb dX7_sweeps_123 rfl hl (by decide) rfl (fun ls hl => ?_)
                  refine lv_aload_n hx hb dX7_sweeps_124 rfl (lv_at hl 1 rfl) ?_
                  refine lv_iload_n hx hb dX7_sweeps_125 rfl (lv_at hl 2 rfl) ?_
                  refine cRV (As := [.int (nI k84)]) (rest := []) hx hb hml hown hts (c_X7_isEarth l G E cI cZ zo (lvM zo go le la (f7M zo go (feM zo go la he 48)) k84) go le hd gn la k84 o a_S fs_o h_o_S (by first | assumption | omega | simp [bI, c_3, c_4, c_73, c_75, c_90, c_105])) k_16_1 cal_X7_isEarth ⟨Nat.le_of_ble_eq_true rfl, Nat.le_of_ble_eq_true rfl⟩ hE hlow hS hK [0, 1] rfl hP [0, 1] rfl 0 7 rfl rfl rfl hl.1 rfl (Nat.le_of_ble_eq_true rfl) dX7_sweeps_126 ⟨Nat.zero_le _, Nat.zero_le _⟩ ?_
                  refine lv_if_eq (tgt := 145) hx hb dX7_sweeps_129 (by decide) (fun c_120 => ?_) (fun c_120 => ?_)
                  · skip
                    have c_120 : (isES zo go k84) = false := bI_f c_120
                    refine lv_iconst (v := 0) hx hb dX7_sweeps_145 (by decide) ?_
                    refine lv_istore_n (lv' := [(3, .int 0), (2, .int 1), (0, .ref o), (1, .int (nI k84))]) hx hb dX7_sweeps_146 rfl hl (by decide) rfl (fun ls hl => ?_)
                    have ea_121 : (0 : Int32) = (allM zo go le la (lvM zo go le la (f7M zo go (feM zo go la he 48)) k84) k84) := by simp [allM, lkS, c_75, eq_true c_90, c_105, c_120]
                    have hl : lv_has ls 4 [(3, .int (allM zo go le la (lvM zo go le la (f7M zo go (feM zo go la he 48)) k84) k84)), (2, .int 1), (0, .ref o), (1, .int (nI k84))] := by rw [← ea_121]; exact hl
                    refine lv_aload_n hx hb dX7_sweeps_147 rfl (lv_at hl 2 rfl) ?_
                    refine va_get (D := G) (ci := 7) (v := .ref a_S) (C := RX7) (T := TX7) (N := 38) hx hb hts inlX7 hown hK hP 0 rfl rfl 2 (by decide) (hts (.fieldLink RX7 7 "EarthBanksModel" "s" "[I") k_6_2) (fun _ h9 => h9) h_o_S dX7_sweeps_148 ?_
                    refine lv_bipush (v := 48) hx hb dX7_sweeps_151 (by decide) ?_
                    refine lv_iload_n hx hb dX7_sweeps_153 rfl (lv_at hl 3 rfl) ?_
                    refine lv_iadd hx hb dX7_sweeps_154 ?_
                    refine top_eq (y := nI (48 + k84)) (nI_add _ _) ?_
                    refine lv_iload_n hx hb dX7_sweeps_155 rfl (lv_at hl 0 rfl) ?_
                    refine lv_if_le (tgt := 170) hx hb dX7_sweeps_156 (by decide) (fun c_122 => ?_) (fun c_122 => ?_)
                    · skip
                      refine lv_aload_n hx hb dX7_sweeps_170 rfl (lv_at hl 2 rfl) ?_
                      refine va_get (D := G) (ci := 7) (v := .ref a_S) (C := RX7) (T := TX7) (N := 38) hx hb hts inlX7 hown hK hP 0 rfl rfl 2 (by decide) (hts (.fieldLink RX7 7 "EarthBanksModel" "s" "[I") k_6_2) (fun _ h9 => h9) h_o_S dX7_sweeps_171 ?_
                      refine lv_bipush (v := 48) hx hb dX7_sweeps_174 (by decide) ?_
                      refine lv_iload_n hx hb dX7_sweeps_176 rfl (lv_at hl 3 rfl) ?_
                      refine lv_iadd hx hb dX7_sweeps_177 ?_
                      refine top_eq (y := nI (48 + k84)) (nI_add _ _) ?_
                      refine ialdN (j := (48 + k84)) hx hb hK hP 1 0 rfl rfl (by omega) (by decide) dX7_sweeps_178 ?_
                      refine top_eq (y := ((lvM zo go le la (f7M zo go (feM zo go la he 48)) k84) k84)) (ms_h (c := k84) (by omega) (by omega)) ?_
                      refine iastN (j := (48 + k84)) hx hb hK hP hD hS 1 0 rfl rfl (by omega) (by decide) dX7_sweeps_179 (fun H locs hP hD hS => ?_)
                      have hP : va_P G vwCl [(o, .inr (7, fs_o)), (a_S, .inl (cI, 163, .inl (upd (ms zo (lvM zo go le la (f7M zo go (feM zo go la he 48)) k84) go le hd gn la) (48 + k84) ((lvM zo go le la (f7M zo go (feM zo go la he 48)) k84) k84))))] H := hP
                      have hD : va_D A [(o, .inr (7, fs_o)), (a_S, .inl (cI, 163, .inl (upd (ms zo (lvM zo go le la (f7M zo go (feM zo go la he 48)) k84) go le hd gn la) (48 + k84) ((lvM zo go le la (f7M zo go (feM zo go la he 48)) k84) k84))))] := hD
                      have en_123 : upd (ms zo (lvM zo go le la (f7M zo go (feM zo go la he 48)) k84) go le hd gn la) (48 + k84) ((lvM zo go le la (f7M zo go (feM zo go la he 48)) k84) k84) = ms zo (upd (lvM zo go le la (f7M zo go (feM zo go la he 48)) k84) k84 ((lvM zo go le la (f7M zo go (feM zo go la he 48)) k84) k84)) go le hd gn la := ms_uh (c := k84) (by omega) (by omega)
                      rw [en_123] at hP hD
                      have hP : va_P G vwCl [(o, .inr (7, fs_o)), (a_S, .inl (cI, 163, .inl (ms zo (upd (lvM zo go le la (f7M zo go (feM zo go la he 48)) k84) k84 ((lvM zo go le la (f7M zo go (feM zo go la he 48)) k84) k84)) go le hd gn la)))] H := hP
                      have hD : va_D A [(o, .inr (7, fs_o)), (a_S, .inl (cI, 163, .inl (ms zo (upd (lvM zo go le la (f7M zo go (feM zo go la he 48)) k84) k84 ((lvM zo go le la (f7M zo go (feM zo go la he 48)) k84) k84)) go le hd gn la)))] := hD
                      refine lv_iinc (v := nI (k84 + 1)) (lv' := [(1, .int (nI (k84 + 1))), (3, .int (allM zo go le la (lvM zo go le la (f7M zo go (feM zo go la he 48)) k84) k84)), (2, .int 1), (0, .ref o)]) hx hb dX7_sweeps_180 hl (k := 3) rfl (nI_add _ _) (by decide) rfl (fun ls hl => ?_)
                      refine lv_goto (tgt := 84) hx hb dX7_sweeps_183 (by decide) ?_
                      have er_124 : (ms zo (upd (lvM zo go le la (f7M zo go (feM zo go la he 48)) k84) k84 ((lvM zo go le la (f7M zo go (feM zo go la he 48)) k84) k84)) go le hd gn la) = (ms zo (lvM zo go le la (f7M zo go (feM zo go la he 48)) (k84 + 1)) go le hd gn la) := by rw [lvM_s]; simp [c_122]
                      exact ih84 (k84 + 1) (by omega) (by omega) (by omega)  H locs (by rw [← er_124]; exact hP) (by rw [← er_124]; exact hD) hS ls (lv_sub hl [3, 0] rfl)
                    · skip
                      refine lv_aload_n hx hb dX7_sweeps_159 rfl (lv_at hl 2 rfl) ?_
                      refine lv_iload_n hx hb dX7_sweeps_160 rfl (lv_at hl 3 rfl) ?_
                      refine lv_iconst (v := 1) hx hb dX7_sweeps_161 (by decide) ?_
                      refine cRV (As := [.int (nI k84), .int 1]) (rest := [.int (nI (48 + k84)), .ref a_S]) hx hb hml hown hts (c_X7_flowing l G E cI cZ zo (lvM zo go le la (f7M zo go (feM zo go la he 48)) k84) go le hd gn la k84 true o a_S fs_o h_o_S (by first | assumption | omega | simp [bI, c_3, c_4, c_73, c_75, c_90, c_105, c_120, c_122]) (allM_na c_122)) k_22_16 cal_X7_flowing ⟨Nat.le_of_ble_eq_true rfl, Nat.le_of_ble_eq_true rfl⟩ hE hlow hS hK [0, 1] rfl hP [0, 1] rfl 0 7 rfl rfl rfl hl.1 rfl (Nat.le_of_ble_eq_true rfl) dX7_sweeps_162 ⟨Nat.zero_le _, Nat.zero_le _⟩ ?_
                      refine lv_iload_n hx hb dX7_sweeps_165 rfl (lv_at hl 0 rfl) ?_
                      refine lv_idiv hx hb dX7_sweeps_166 (nz_nle c_122) ?_
                      refine lv_goto (tgt := 179) hx hb dX7_sweeps_167 (by decide) ?_
                      refine iastN (j := (48 + k84)) hx hb hK hP hD hS 1 0 rfl rfl (by omega) (by decide) dX7_sweeps_179 (fun H locs hP hD hS => ?_)
                      have hP : va_P G vwCl [(o, .inr (7, fs_o)), (a_S, .inl (cI, 163, .inl (upd (ms zo (lvM zo go le la (f7M zo go (feM zo go la he 48)) k84) go le hd gn la) (48 + k84) ((sumS (flM zo (lvM zo go le la (f7M zo go (feM zo go la he 48)) k84) go le k84 true) 4) / (allM zo go le la (lvM zo go le la (f7M zo go (feM zo go la he 48)) k84) k84)))))] H := hP
                      have hD : va_D A [(o, .inr (7, fs_o)), (a_S, .inl (cI, 163, .inl (upd (ms zo (lvM zo go le la (f7M zo go (feM zo go la he 48)) k84) go le hd gn la) (48 + k84) ((sumS (flM zo (lvM zo go le la (f7M zo go (feM zo go la he 48)) k84) go le k84 true) 4) / (allM zo go le la (lvM zo go le la (f7M zo go (feM zo go la he 48)) k84) k84)))))] := hD
                      have en_125 : upd (ms zo (lvM zo go le la (f7M zo go (feM zo go la he 48)) k84) go le hd gn la) (48 + k84) ((sumS (flM zo (lvM zo go le la (f7M zo go (feM zo go la he 48)) k84) go le k84 true) 4) / (allM zo go le la (lvM zo go le la (f7M zo go (feM zo go la he 48)) k84) k84)) = ms zo (upd (lvM zo go le la (f7M zo go (feM zo go la he 48)) k84) k84 ((sumS (flM zo (lvM zo go le la (f7M zo go (feM zo go la he 48)) k84) go le k84 true) 4) / (allM zo go le la (lvM zo go le la (f7M zo go (feM zo go la he 48)) k84) k84))) go le hd gn la := ms_uh (c := k84) (by omega) (by omega)
                      rw [en_125] at hP hD
                      have hP : va_P G vwCl [(o, .inr (7, fs_o)), (a_S, .inl (cI, 163, .inl (ms zo (upd (lvM zo go le la (f7M zo go (feM zo go la he 48)) k84) k84 ((sumS (flM zo (lvM zo go le la (f7M zo go (feM zo go la he 48)) k84) go le k84 true) 4) / (allM zo go le la (lvM zo go le la (f7M zo go (feM zo go la he 48)) k84) k84))) go le hd gn la)))] H := hP
                      have hD : va_D A [(o, .inr (7, fs_o)), (a_S, .inl (cI, 163, .inl (ms zo (upd (lvM zo go le la (f7M zo go (feM zo go la he 48)) k84) k84 ((sumS (flM zo (lvM zo go le la (f7M zo go (feM zo go la he 48)) k84) go le k84 true) 4) / (allM zo go le la (lvM zo go le la (f7M zo go (feM zo go la he 48)) k84) k84))) go le hd gn la)))] := hD
                      refine lv_iinc (v := nI (k84 + 1)) (lv' := [(1, .int (nI (k84 + 1))), (3, .int (allM zo go le la (lvM zo go le la (f7M zo go (feM zo go la he 48)) k84) k84)), (2, .int 1), (0, .ref o)]) hx hb dX7_sweeps_180 hl (k := 3) rfl (nI_add _ _) (by decide) rfl (fun ls hl => ?_)
                      refine lv_goto (tgt := 84) hx hb dX7_sweeps_183 (by decide) ?_
                      have er_126 : (ms zo (upd (lvM zo go le la (f7M zo go (feM zo go la he 48)) k84) k84 ((sumS (flM zo (lvM zo go le la (f7M zo go (feM zo go la he 48)) k84) go le k84 true) 4) / (allM zo go le la (lvM zo go le la (f7M zo go (feM zo go la he 48)) k84) k84))) go le hd gn la) = (ms zo (lvM zo go le la (f7M zo go (feM zo go la he 48)) (k84 + 1)) go le hd gn la) := by rw [lvM_s]; simp [c_122]
                      exact ih84 (k84 + 1) (by omega) (by omega) (by omega)  H locs (by rw [← er_126]; exact hP) (by rw [← er_126]; exact hD) hS ls (lv_sub hl [3, 0] rfl)
                  · skip
                    have c_120 : (isES zo go k84) = true := bI_t c_120
                    refine lv_iload_n hx hb dX7_sweeps_132 rfl (lv_at hl 0 rfl) ?_
                    refine lv_if_ne (tgt := 145) hx hb dX7_sweeps_133 (by decide) (fun c_127 => ?_) (fun c_127 => ?_)
                    · skip
                      refine lv_iconst (v := 0) hx hb dX7_sweeps_145 (by decide) ?_
                      refine lv_istore_n (lv' := [(3, .int 0), (2, .int 1), (0, .ref o), (1, .int (nI k84))]) hx hb dX7_sweeps_146 rfl hl (by decide) rfl (fun ls hl => ?_)
                      have ea_128 : (0 : Int32) = (allM zo go le la (lvM zo go le la (f7M zo go (feM zo go la he 48)) k84) k84) := by simp [allM, lkS, c_75, eq_true c_90, c_105, c_120, c_127]
                      have hl : lv_has ls 4 [(3, .int (allM zo go le la (lvM zo go le la (f7M zo go (feM zo go la he 48)) k84) k84)), (2, .int 1), (0, .ref o), (1, .int (nI k84))] := by rw [← ea_128]; exact hl
                      refine lv_aload_n hx hb dX7_sweeps_147 rfl (lv_at hl 2 rfl) ?_
                      refine va_get (D := G) (ci := 7) (v := .ref a_S) (C := RX7) (T := TX7) (N := 38) hx hb hts inlX7 hown hK hP 0 rfl rfl 2 (by decide) (hts (.fieldLink RX7 7 "EarthBanksModel" "s" "[I") k_6_2) (fun _ h9 => h9) h_o_S dX7_sweeps_148 ?_
                      refine lv_bipush (v := 48) hx hb dX7_sweeps_151 (by decide) ?_
                      refine lv_iload_n hx hb dX7_sweeps_153 rfl (lv_at hl 3 rfl) ?_
                      refine lv_iadd hx hb dX7_sweeps_154 ?_
                      refine top_eq (y := nI (48 + k84)) (nI_add _ _) ?_
                      refine lv_iload_n hx hb dX7_sweeps_155 rfl (lv_at hl 0 rfl) ?_
                      refine lv_if_le (tgt := 170) hx hb dX7_sweeps_156 (by decide) (fun c_129 => ?_) (fun c_129 => ?_)
                      · skip
                        refine lv_aload_n hx hb dX7_sweeps_170 rfl (lv_at hl 2 rfl) ?_
                        refine va_get (D := G) (ci := 7) (v := .ref a_S) (C := RX7) (T := TX7) (N := 38) hx hb hts inlX7 hown hK hP 0 rfl rfl 2 (by decide) (hts (.fieldLink RX7 7 "EarthBanksModel" "s" "[I") k_6_2) (fun _ h9 => h9) h_o_S dX7_sweeps_171 ?_
                        refine lv_bipush (v := 48) hx hb dX7_sweeps_174 (by decide) ?_
                        refine lv_iload_n hx hb dX7_sweeps_176 rfl (lv_at hl 3 rfl) ?_
                        refine lv_iadd hx hb dX7_sweeps_177 ?_
                        refine top_eq (y := nI (48 + k84)) (nI_add _ _) ?_
                        refine ialdN (j := (48 + k84)) hx hb hK hP 1 0 rfl rfl (by omega) (by decide) dX7_sweeps_178 ?_
                        refine top_eq (y := ((lvM zo go le la (f7M zo go (feM zo go la he 48)) k84) k84)) (ms_h (c := k84) (by omega) (by omega)) ?_
                        refine iastN (j := (48 + k84)) hx hb hK hP hD hS 1 0 rfl rfl (by omega) (by decide) dX7_sweeps_179 (fun H locs hP hD hS => ?_)
                        have hP : va_P G vwCl [(o, .inr (7, fs_o)), (a_S, .inl (cI, 163, .inl (upd (ms zo (lvM zo go le la (f7M zo go (feM zo go la he 48)) k84) go le hd gn la) (48 + k84) ((lvM zo go le la (f7M zo go (feM zo go la he 48)) k84) k84))))] H := hP
                        have hD : va_D A [(o, .inr (7, fs_o)), (a_S, .inl (cI, 163, .inl (upd (ms zo (lvM zo go le la (f7M zo go (feM zo go la he 48)) k84) go le hd gn la) (48 + k84) ((lvM zo go le la (f7M zo go (feM zo go la he 48)) k84) k84))))] := hD
                        have en_130 : upd (ms zo (lvM zo go le la (f7M zo go (feM zo go la he 48)) k84) go le hd gn la) (48 + k84) ((lvM zo go le la (f7M zo go (feM zo go la he 48)) k84) k84) = ms zo (upd (lvM zo go le la (f7M zo go (feM zo go la he 48)) k84) k84 ((lvM zo go le la (f7M zo go (feM zo go la he 48)) k84) k84)) go le hd gn la := ms_uh (c := k84) (by omega) (by omega)
                        rw [en_130] at hP hD
                        have hP : va_P G vwCl [(o, .inr (7, fs_o)), (a_S, .inl (cI, 163, .inl (ms zo (upd (lvM zo go le la (f7M zo go (feM zo go la he 48)) k84) k84 ((lvM zo go le la (f7M zo go (feM zo go la he 48)) k84) k84)) go le hd gn la)))] H := hP
                        have hD : va_D A [(o, .inr (7, fs_o)), (a_S, .inl (cI, 163, .inl (ms zo (upd (lvM zo go le la (f7M zo go (feM zo go la he 48)) k84) k84 ((lvM zo go le la (f7M zo go (feM zo go la he 48)) k84) k84)) go le hd gn la)))] := hD
                        refine lv_iinc (v := nI (k84 + 1)) (lv' := [(1, .int (nI (k84 + 1))), (3, .int (allM zo go le la (lvM zo go le la (f7M zo go (feM zo go la he 48)) k84) k84)), (2, .int 1), (0, .ref o)]) hx hb dX7_sweeps_180 hl (k := 3) rfl (nI_add _ _) (by decide) rfl (fun ls hl => ?_)
                        refine lv_goto (tgt := 84) hx hb dX7_sweeps_183 (by decide) ?_
                        have er_131 : (ms zo (upd (lvM zo go le la (f7M zo go (feM zo go la he 48)) k84) k84 ((lvM zo go le la (f7M zo go (feM zo go la he 48)) k84) k84)) go le hd gn la) = (ms zo (lvM zo go le la (f7M zo go (feM zo go la he 48)) (k84 + 1)) go le hd gn la) := by rw [lvM_s]; simp [c_129]
                        exact ih84 (k84 + 1) (by omega) (by omega) (by omega)  H locs (by rw [← er_131]; exact hP) (by rw [← er_131]; exact hD) hS ls (lv_sub hl [3, 0] rfl)
                      · skip
                        refine lv_aload_n hx hb dX7_sweeps_159 rfl (lv_at hl 2 rfl) ?_
                        refine lv_iload_n hx hb dX7_sweeps_160 rfl (lv_at hl 3 rfl) ?_
                        refine lv_iconst (v := 1) hx hb dX7_sweeps_161 (by decide) ?_
                        refine cRV (As := [.int (nI k84), .int 1]) (rest := [.int (nI (48 + k84)), .ref a_S]) hx hb hml hown hts (c_X7_flowing l G E cI cZ zo (lvM zo go le la (f7M zo go (feM zo go la he 48)) k84) go le hd gn la k84 true o a_S fs_o h_o_S (by first | assumption | omega | simp [bI, c_3, c_4, c_73, c_75, c_90, c_105, c_120, c_127, c_129]) (allM_na c_129)) k_22_16 cal_X7_flowing ⟨Nat.le_of_ble_eq_true rfl, Nat.le_of_ble_eq_true rfl⟩ hE hlow hS hK [0, 1] rfl hP [0, 1] rfl 0 7 rfl rfl rfl hl.1 rfl (Nat.le_of_ble_eq_true rfl) dX7_sweeps_162 ⟨Nat.zero_le _, Nat.zero_le _⟩ ?_
                        refine lv_iload_n hx hb dX7_sweeps_165 rfl (lv_at hl 0 rfl) ?_
                        refine lv_idiv hx hb dX7_sweeps_166 (nz_nle c_129) ?_
                        refine lv_goto (tgt := 179) hx hb dX7_sweeps_167 (by decide) ?_
                        refine iastN (j := (48 + k84)) hx hb hK hP hD hS 1 0 rfl rfl (by omega) (by decide) dX7_sweeps_179 (fun H locs hP hD hS => ?_)
                        have hP : va_P G vwCl [(o, .inr (7, fs_o)), (a_S, .inl (cI, 163, .inl (upd (ms zo (lvM zo go le la (f7M zo go (feM zo go la he 48)) k84) go le hd gn la) (48 + k84) ((sumS (flM zo (lvM zo go le la (f7M zo go (feM zo go la he 48)) k84) go le k84 true) 4) / (allM zo go le la (lvM zo go le la (f7M zo go (feM zo go la he 48)) k84) k84)))))] H := hP
                        have hD : va_D A [(o, .inr (7, fs_o)), (a_S, .inl (cI, 163, .inl (upd (ms zo (lvM zo go le la (f7M zo go (feM zo go la he 48)) k84) go le hd gn la) (48 + k84) ((sumS (flM zo (lvM zo go le la (f7M zo go (feM zo go la he 48)) k84) go le k84 true) 4) / (allM zo go le la (lvM zo go le la (f7M zo go (feM zo go la he 48)) k84) k84)))))] := hD
                        have en_132 : upd (ms zo (lvM zo go le la (f7M zo go (feM zo go la he 48)) k84) go le hd gn la) (48 + k84) ((sumS (flM zo (lvM zo go le la (f7M zo go (feM zo go la he 48)) k84) go le k84 true) 4) / (allM zo go le la (lvM zo go le la (f7M zo go (feM zo go la he 48)) k84) k84)) = ms zo (upd (lvM zo go le la (f7M zo go (feM zo go la he 48)) k84) k84 ((sumS (flM zo (lvM zo go le la (f7M zo go (feM zo go la he 48)) k84) go le k84 true) 4) / (allM zo go le la (lvM zo go le la (f7M zo go (feM zo go la he 48)) k84) k84))) go le hd gn la := ms_uh (c := k84) (by omega) (by omega)
                        rw [en_132] at hP hD
                        have hP : va_P G vwCl [(o, .inr (7, fs_o)), (a_S, .inl (cI, 163, .inl (ms zo (upd (lvM zo go le la (f7M zo go (feM zo go la he 48)) k84) k84 ((sumS (flM zo (lvM zo go le la (f7M zo go (feM zo go la he 48)) k84) go le k84 true) 4) / (allM zo go le la (lvM zo go le la (f7M zo go (feM zo go la he 48)) k84) k84))) go le hd gn la)))] H := hP
                        have hD : va_D A [(o, .inr (7, fs_o)), (a_S, .inl (cI, 163, .inl (ms zo (upd (lvM zo go le la (f7M zo go (feM zo go la he 48)) k84) k84 ((sumS (flM zo (lvM zo go le la (f7M zo go (feM zo go la he 48)) k84) go le k84 true) 4) / (allM zo go le la (lvM zo go le la (f7M zo go (feM zo go la he 48)) k84) k84))) go le hd gn la)))] := hD
                        refine lv_iinc (v := nI (k84 + 1)) (lv' := [(1, .int (nI (k84 + 1))), (3, .int (allM zo go le la (lvM zo go le la (f7M zo go (feM zo go la he 48)) k84) k84)), (2, .int 1), (0, .ref o)]) hx hb dX7_sweeps_180 hl (k := 3) rfl (nI_add _ _) (by decide) rfl (fun ls hl => ?_)
                        refine lv_goto (tgt := 84) hx hb dX7_sweeps_183 (by decide) ?_
                        have er_133 : (ms zo (upd (lvM zo go le la (f7M zo go (feM zo go la he 48)) k84) k84 ((sumS (flM zo (lvM zo go le la (f7M zo go (feM zo go la he 48)) k84) go le k84 true) 4) / (allM zo go le la (lvM zo go le la (f7M zo go (feM zo go la he 48)) k84) k84))) go le hd gn la) = (ms zo (lvM zo go le la (f7M zo go (feM zo go la he 48)) (k84 + 1)) go le hd gn la) := by rw [lvM_s]; simp [c_129]
                        exact ih84 (k84 + 1) (by omega) (by omega) (by omega)  H locs (by rw [← er_133]; exact hP) (by rw [← er_133]; exact hD) hS ls (lv_sub hl [3, 0] rfl)
                    · skip
                      exact absurd c_127 (by decide)
    · skip
      have c_3 : ¬ 48 ≤ k2 := fun h9 => c_3 ((nI_leI (a := 48) (b := k2) (by omega) (by omega)).mpr h9)
      refine lv_aload_n hx hb dX7_sweeps_8 rfl (lv_at hl 0 rfl) ?_
      refine lv_iload_n hx hb dX7_sweeps_9 rfl (lv_at hl 1 rfl) ?_
      refine cRV (As := [.int (nI k2)]) (rest := []) hx hb hml hown hts (c_X7_isEarth l G E cI cZ zo (feM zo go la he k2) go le hd gn la k2 o a_S fs_o h_o_S (by first | assumption | omega | simp [bI, c_3])) k_16_1 cal_X7_isEarth ⟨Nat.le_of_ble_eq_true rfl, Nat.le_of_ble_eq_true rfl⟩ hE hlow hS hK [0, 1] rfl hP [0, 1] rfl 0 7 rfl rfl rfl hl.1 rfl (Nat.le_of_ble_eq_true rfl) dX7_sweeps_10 ⟨Nat.zero_le _, Nat.zero_le _⟩ ?_
      refine lv_if_eq (tgt := 59) hx hb dX7_sweeps_13 (by decide) (fun c_134 => ?_) (fun c_134 => ?_)
      · skip
        have c_134 : (isES zo go k2) = false := bI_f c_134
        refine lv_iinc (v := nI (k2 + 1)) (lv' := [(1, .int (nI (k2 + 1))), (0, .ref o)]) hx hb dX7_sweeps_59 hl (k := 1) rfl (nI_add _ _) (by decide) rfl (fun ls hl => ?_)
        refine lv_goto (tgt := 2) hx hb dX7_sweeps_62 (by decide) ?_
        have er_135 : (ms zo (feM zo go la he k2) go le hd gn la) = (ms zo (feM zo go la he (k2 + 1)) go le hd gn la) := by rw [feM_s]; simp [lkS, c_3, c_134]
        exact ih2 (k2 + 1) (by omega) (by omega) (by omega)  H locs (by rw [← er_135]; exact hP) (by rw [← er_135]; exact hD) hS ls (lv_sub hl [1, 0] rfl)
      · skip
        have c_134 : (isES zo go k2) = true := bI_t c_134
        refine lv_iload_n hx hb dX7_sweeps_16 rfl (lv_at hl 1 rfl) ?_
        refine lv_bipush (v := 8) hx hb dX7_sweeps_17 (by decide) ?_
        refine lv_irem hx hb dX7_sweeps_19 (by decide) ?_
        refine top_eq (y := nI (k2 % 8)) (pk_rem (a := k2) (d := 8) (by omega) (by omega) (by omega)) ?_
        refine lv_if_ne (tgt := 59) hx hb dX7_sweeps_20 (by decide) (fun c_136 => ?_) (fun c_136 => ?_)
        · skip
          have c_136 : ¬ (k2 % 8) = 0 := fun h9 => c_136 ((nI_eq (a := (k2 % 8)) (b := 0) (by omega) (by omega)).mpr h9)
          refine lv_iinc (v := nI (k2 + 1)) (lv' := [(1, .int (nI (k2 + 1))), (0, .ref o)]) hx hb dX7_sweeps_59 hl (k := 1) rfl (nI_add _ _) (by decide) rfl (fun ls hl => ?_)
          refine lv_goto (tgt := 2) hx hb dX7_sweeps_62 (by decide) ?_
          have er_137 : (ms zo (feM zo go la he k2) go le hd gn la) = (ms zo (feM zo go la he (k2 + 1)) go le hd gn la) := by rw [feM_s]; simp [lkS, c_3, c_134, c_136]
          exact ih2 (k2 + 1) (by omega) (by omega) (by omega)  H locs (by rw [← er_137]; exact hP) (by rw [← er_137]; exact hD) hS ls (lv_sub hl [1, 0] rfl)
        · skip
          have c_136 : (k2 % 8) = 0 := (nI_eq (a := (k2 % 8)) (b := 0) (by omega) (by omega)).mp c_136
          refine lv_iload_n hx hb dX7_sweeps_23 rfl (lv_at hl 1 rfl) ?_
          refine lv_bipush (v := 8) hx hb dX7_sweeps_24 (by decide) ?_
          refine lv_idiv hx hb dX7_sweeps_26 (by decide) ?_
          refine top_eq (y := nI (k2 / 8)) (pk_div (a := k2) (d := 8) (by omega) (by omega) (by omega)) ?_
          refine lv_aload_n hx hb dX7_sweeps_27 rfl (lv_at hl 0 rfl) ?_
          refine va_get (D := G) (ci := 7) (v := .ref a_S) (C := RX7) (T := TX7) (N := 38) hx hb hts inlX7 hown hK hP 0 rfl rfl 2 (by decide) (hts (.fieldLink RX7 7 "EarthBanksModel" "s" "[I") k_6_2) (fun _ h9 => h9) h_o_S dX7_sweeps_28 ?_
          refine lv_sipush (v := 162) hx hb dX7_sweeps_31 (by decide) ?_
          refine ialdN (j := 162) hx hb hK hP 1 0 rfl rfl (by omega) (by decide) dX7_sweeps_34 ?_
          refine top_eq (y := la) (ms_a (by omega)) ?_
          refine lv_icmp_ge (tgt := 59) hx hb dX7_sweeps_35 (by decide) (fun c_138 => ?_) (fun c_138 => ?_)
          · skip
            have c_138 := i_nlt c_138
            refine lv_iinc (v := nI (k2 + 1)) (lv' := [(1, .int (nI (k2 + 1))), (0, .ref o)]) hx hb dX7_sweeps_59 hl (k := 1) rfl (nI_add _ _) (by decide) rfl (fun ls hl => ?_)
            refine lv_goto (tgt := 2) hx hb dX7_sweeps_62 (by decide) ?_
            have er_139 : (ms zo (feM zo go la he k2) go le hd gn la) = (ms zo (feM zo go la he (k2 + 1)) go le hd gn la) := by rw [feM_s]; simp [lkS, c_3, c_134, eq_true c_136, c_138]
            exact ih2 (k2 + 1) (by omega) (by omega) (by omega)  H locs (by rw [← er_139]; exact hP) (by rw [← er_139]; exact hD) hS ls (lv_sub hl [1, 0] rfl)
          · skip
            have c_138 := i_lt c_138
            refine lv_aload_n hx hb dX7_sweeps_38 rfl (lv_at hl 0 rfl) ?_
            refine va_get (D := G) (ci := 7) (v := .ref a_S) (C := RX7) (T := TX7) (N := 38) hx hb hts inlX7 hown hK hP 0 rfl rfl 2 (by decide) (hts (.fieldLink RX7 7 "EarthBanksModel" "s" "[I") k_6_2) (fun _ h9 => h9) h_o_S dX7_sweeps_39 ?_
            refine lv_bipush (v := 48) hx hb dX7_sweeps_42 (by decide) ?_
            refine lv_iload_n hx hb dX7_sweeps_44 rfl (lv_at hl 1 rfl) ?_
            refine lv_iadd hx hb dX7_sweeps_45 ?_
            refine top_eq (y := nI (48 + k2)) (nI_add _ _) ?_
            refine lv_sipush (v := 1000) hx hb dX7_sweeps_46 (by decide) ?_
            refine lv_aload_n hx hb dX7_sweeps_49 rfl (lv_at hl 0 rfl) ?_
            refine va_get (D := G) (ci := 7) (v := .ref a_S) (C := RX7) (T := TX7) (N := 38) hx hb hts inlX7 hown hK hP 0 rfl rfl 2 (by decide) (hts (.fieldLink RX7 7 "EarthBanksModel" "s" "[I") k_6_2) (fun _ h9 => h9) h_o_S dX7_sweeps_50 ?_
            refine lv_sipush (v := 162) hx hb dX7_sweeps_53 (by decide) ?_
            refine ialdN (j := 162) hx hb hK hP 1 0 rfl rfl (by omega) (by decide) dX7_sweeps_56 ?_
            refine top_eq (y := la) (ms_a (by omega)) ?_
            refine lv_imul hx hb dX7_sweeps_57 ?_
            refine iastN (j := (48 + k2)) hx hb hK hP hD hS 1 0 rfl rfl (by omega) (by decide) dX7_sweeps_58 (fun H locs hP hD hS => ?_)
            have hP : va_P G vwCl [(o, .inr (7, fs_o)), (a_S, .inl (cI, 163, .inl (upd (ms zo (feM zo go la he k2) go le hd gn la) (48 + k2) (1000 * la))))] H := hP
            have hD : va_D A [(o, .inr (7, fs_o)), (a_S, .inl (cI, 163, .inl (upd (ms zo (feM zo go la he k2) go le hd gn la) (48 + k2) (1000 * la))))] := hD
            have en_140 : upd (ms zo (feM zo go la he k2) go le hd gn la) (48 + k2) (1000 * la) = ms zo (upd (feM zo go la he k2) k2 (1000 * la)) go le hd gn la := ms_uh (c := k2) (by omega) (by omega)
            rw [en_140] at hP hD
            have hP : va_P G vwCl [(o, .inr (7, fs_o)), (a_S, .inl (cI, 163, .inl (ms zo (upd (feM zo go la he k2) k2 (1000 * la)) go le hd gn la)))] H := hP
            have hD : va_D A [(o, .inr (7, fs_o)), (a_S, .inl (cI, 163, .inl (ms zo (upd (feM zo go la he k2) k2 (1000 * la)) go le hd gn la)))] := hD
            refine lv_iinc (v := nI (k2 + 1)) (lv' := [(1, .int (nI (k2 + 1))), (0, .ref o)]) hx hb dX7_sweeps_59 hl (k := 1) rfl (nI_add _ _) (by decide) rfl (fun ls hl => ?_)
            refine lv_goto (tgt := 2) hx hb dX7_sweeps_62 (by decide) ?_
            have er_141 : (ms zo (upd (feM zo go la he k2) k2 (1000 * la)) go le hd gn la) = (ms zo (feM zo go la he (k2 + 1)) go le hd gn la) := by rw [feM_s]; simp [lkS, c_3, c_134, eq_true c_136, c_138]
            exact ih2 (k2 + 1) (by omega) (by omega) (by omega)  H locs (by rw [← er_141]; exact hP) (by rw [← er_141]; exact hD) hS ls (lv_sub hl [1, 0] rfl)
theorem cal_X7_dries : calV yX7_dries cX7_dries 3 (some .int) 0 := ⟨k_24_14, k_1_5, k_24_12, k_24_13, by decide +kernel⟩
set_option maxHeartbeats 4000000 in
set_option maxRecDepth 100000 in
theorem c_X7_dries (l : Launch) (G : va_G) (E : EvT) (cI cZ : ClassId) (zo : Nat → Int32) (he : Nat → Int32) (go : Nat → Int32) (le : Nat → Int32) (hd : Nat → Int32) (gn : Nat → Int32) (la : Int32) (o : Nat) (a_S : Nat) (fs_o : List Value) (h_o_S : fs_o[2]? = some (.ref a_S)) : cWi (S := Unit) l G E yX7_dries cX7_dries 3 (some .int) 1 [(cI, .int), (cZ, .boolean)] [.ref o] [(o, .inr (7, fs_o)), (a_S, .inl (cI, 163, .inl (ms zo he go le hd gn la)))] (fun r _ => r = cntS (fun p => !decide (he p ≤ 0)) 48) (fun _ => [(o, .inr (7, fs_o)), (a_S, .inl (cI, 163, .inl (ms zo (fun _ => 0) go le hd gn la)))]) := by
  refine mkWi (by decide) (Nat.le_of_ble_eq_true rfl) ?_
  intro zp ze s zm args below meth zc hx hb hr hml hown hts hlocks hE hK A hA hlow H locs hP hD hS ls hl
  have hl : lv_has ls 3 [(0, .ref o)] := hl
  refine lv_iconst (v := 0) hx hb dX7_dries_0 (by decide) ?_
  refine lv_istore_n (lv' := [(1, .int 0), (0, .ref o)]) hx hb dX7_dries_1 rfl hl (by decide) rfl (fun ls hl => ?_)
  refine lv_iconst (v := 0) hx hb dX7_dries_2 (by decide) ?_
  refine lv_istore_n (lv' := [(2, .int 0), (1, .int 0), (0, .ref o)]) hx hb dX7_dries_3 rfl hl (by decide) rfl (fun ls hl => ?_)
  suffices lp4 : ∀ zn k4 : Nat, 0 ≤ k4 → k4 ≤ 48 → 48 < k4 + zn → ∀ (H : Heap) (locs : List Loc), va_P G vwCl [(o, .inr (7, fs_o)), (a_S, .inl (cI, 163, .inl (ms zo (filS (fun _ => 0) he k4) go le hd gn la)))] H → va_D A [(o, .inr (7, fs_o)), (a_S, .inl (cI, 163, .inl (ms zo (filS (fun _ => 0) he k4) go le hd gn la)))] → va_S A s.heap H locs → ∀ ls : Array Slot, lv_has ls 3 [(0, .ref o), (1, .int (cntS (fun p => !decide (he p ≤ 0)) k4)), (2, .int (nI k4))] → W zp l ze (rmK 1) s zm args below meth zc H locs 0 0 (MQ below (va_Qi (S := Unit) (fun r _ => r = cntS (fun p => !decide (he p ≤ 0)) 48) (fun u t => va_P G vwCl ((fun _ => [(o, .inr (7, fs_o)), (a_S, .inl (cI, 163, .inl (ms zo (fun _ => 0) go le hd gn la)))]) u) t.heap) A) args s 0 0 A) (F0 zm 4 ls []) by
    have el_1 : (0 : Int32) = cntS (fun p => !decide (he p ≤ 0)) 0 := by simp [cntS, bI]
    have el_2 : (0 : Int32) = nI 0 := rfl
    have er_3 : (ms zo he go le hd gn la) = (ms zo (filS (fun _ => 0) he 0) go le hd gn la) := by rw [filS_0]
    exact lp4 (48 + 1 - 0) 0 (by omega) (by omega) (by omega)  H locs (by rw [← er_3]; exact hP) (by rw [← er_3]; exact hD) hS ls (lv_sub hl [2, 1, 0] (show ([(0, .ref o), (1, .int 0), (2, .int 0)] : List (Nat × Value)) = [(0, .ref o), (1, .int (cntS (fun p => !decide (he p ≤ 0)) 0)), (2, .int (nI 0))] by rw [← el_1, ← el_2]))
  intro zn
  induction zn with
  | zero => exact fun k4 h1 h2 h3 => absurd h3 (by omega)
  | succ zn ih4 =>
    intro k4 hlo4 hhi4 hn4  H locs hP hD hS ls hl
    refine lv_iload_n hx hb dX7_dries_4 rfl (lv_at hl 2 rfl) ?_
    refine lv_bipush (v := 48) hx hb dX7_dries_5 (by decide) ?_
    refine lv_icmp_ge (tgt := 46) hx hb dX7_dries_7 (by decide) (fun c_4 => ?_) (fun c_4 => ?_)
    · skip
      have c_4 : 48 ≤ k4 := (nI_leI (a := 48) (b := k4) (by omega) (by omega)).mp c_4
      have hk9 : 48 = k4 := by omega
      subst hk9
      refine lv_iload_n hx hb dX7_dries_46 rfl (lv_at hl 1 rfl) ?_
      have hP := P_swap hP 1 (ms zo (fun _ => 0) go le hd gn la) rfl (ms_swap_h (fun c h9 => filS_in h9))
      have hP : va_P G vwCl [(o, .inr (7, fs_o)), (a_S, .inl (cI, 163, .inl (ms zo (fun _ => 0) go le hd gn la)))] H := hP
      exact retWi () hx hb hr (rfl) hlocks dX7_dries_47 hS (rfl) hP
    · skip
      have c_4 : ¬ 48 ≤ k4 := fun h9 => c_4 ((nI_leI (a := 48) (b := k4) (by omega) (by omega)).mpr h9)
      refine lv_iload_n hx hb dX7_dries_10 rfl (lv_at hl 1 rfl) ?_
      refine lv_aload_n hx hb dX7_dries_11 rfl (lv_at hl 0 rfl) ?_
      refine va_get (D := G) (ci := 7) (v := .ref a_S) (C := RX7) (T := TX7) (N := 38) hx hb hts inlX7 hown hK hP 0 rfl rfl 2 (by decide) (hts (.fieldLink RX7 7 "EarthBanksModel" "s" "[I") k_6_2) (fun _ h9 => h9) h_o_S dX7_dries_12 ?_
      refine lv_bipush (v := 48) hx hb dX7_dries_15 (by decide) ?_
      refine lv_iload_n hx hb dX7_dries_17 rfl (lv_at hl 2 rfl) ?_
      refine lv_iadd hx hb dX7_dries_18 ?_
      refine top_eq (y := nI (48 + k4)) (nI_add _ _) ?_
      refine ialdN (j := (48 + k4)) hx hb hK hP 1 0 rfl rfl (by omega) (by decide) dX7_dries_19 ?_
      refine top_eq (y := ((filS (fun _ => 0) he k4) k4)) (ms_h (c := k4) (by omega) (by omega)) ?_
      refine top_eq (y := (he k4)) (filS_out (Nat.le_refl _)) ?_
      refine lv_if_le (tgt := 27) hx hb dX7_dries_20 (by decide) (fun c_5 => ?_) (fun c_5 => ?_)
      · skip
        refine lv_iconst (v := 0) hx hb dX7_dries_27 (by decide) ?_
        refine lv_iadd hx hb dX7_dries_28 ?_
        refine lv_istore_n (lv' := [(1, .int ((cntS (fun p => !decide (he p ≤ 0)) k4) + 0)), (0, .ref o), (2, .int (nI k4))]) hx hb dX7_dries_29 rfl hl (by decide) rfl (fun ls hl => ?_)
        refine lv_aload_n hx hb dX7_dries_30 rfl (lv_at hl 1 rfl) ?_
        refine va_get (D := G) (ci := 7) (v := .ref a_S) (C := RX7) (T := TX7) (N := 38) hx hb hts inlX7 hown hK hP 0 rfl rfl 2 (by decide) (hts (.fieldLink RX7 7 "EarthBanksModel" "s" "[I") k_6_2) (fun _ h9 => h9) h_o_S dX7_dries_31 ?_
        refine lv_bipush (v := 48) hx hb dX7_dries_34 (by decide) ?_
        refine lv_iload_n hx hb dX7_dries_36 rfl (lv_at hl 2 rfl) ?_
        refine lv_iadd hx hb dX7_dries_37 ?_
        refine top_eq (y := nI (48 + k4)) (nI_add _ _) ?_
        refine lv_iconst (v := 0) hx hb dX7_dries_38 (by decide) ?_
        refine iastN (j := (48 + k4)) hx hb hK hP hD hS 1 0 rfl rfl (by omega) (by decide) dX7_dries_39 (fun H locs hP hD hS => ?_)
        have hP : va_P G vwCl [(o, .inr (7, fs_o)), (a_S, .inl (cI, 163, .inl (upd (ms zo (filS (fun _ => 0) he k4) go le hd gn la) (48 + k4) 0)))] H := hP
        have hD : va_D A [(o, .inr (7, fs_o)), (a_S, .inl (cI, 163, .inl (upd (ms zo (filS (fun _ => 0) he k4) go le hd gn la) (48 + k4) 0)))] := hD
        have en_6 : upd (ms zo (filS (fun _ => 0) he k4) go le hd gn la) (48 + k4) 0 = ms zo (upd (filS (fun _ => 0) he k4) k4 0) go le hd gn la := ms_uh (c := k4) (by omega) (by omega)
        rw [en_6] at hP hD
        have hP : va_P G vwCl [(o, .inr (7, fs_o)), (a_S, .inl (cI, 163, .inl (ms zo (upd (filS (fun _ => 0) he k4) k4 0) go le hd gn la)))] H := hP
        have hD : va_D A [(o, .inr (7, fs_o)), (a_S, .inl (cI, 163, .inl (ms zo (upd (filS (fun _ => 0) he k4) k4 0) go le hd gn la)))] := hD
        refine lv_iinc (v := nI (k4 + 1)) (lv' := [(2, .int (nI (k4 + 1))), (1, .int ((cntS (fun p => !decide (he p ≤ 0)) k4) + 0)), (0, .ref o)]) hx hb dX7_dries_40 hl (k := 2) rfl (nI_add _ _) (by decide) rfl (fun ls hl => ?_)
        refine lv_goto (tgt := 4) hx hb dX7_dries_43 (by decide) ?_
        have el_7 : (((cntS (fun p => !decide (he p ≤ 0)) k4) + 0) : Int32) = cntS (fun p => !decide (he p ≤ 0)) (k4 + 1) := by simp [cntS, bI, c_4, c_5]
        have er_8 : (ms zo (upd (filS (fun _ => 0) he k4) k4 0) go le hd gn la) = (ms zo (filS (fun _ => 0) he (k4 + 1)) go le hd gn la) := by rw [filS_s _ _ _ _ rfl]
        exact ih4 (k4 + 1) (by omega) (by omega) (by omega)  H locs (by rw [← er_8]; exact hP) (by rw [← er_8]; exact hD) hS ls (lv_sub hl [2, 1, 0] (show ([(0, .ref o), (1, .int ((cntS (fun p => !decide (he p ≤ 0)) k4) + 0)), (2, .int (nI (k4 + 1)))] : List (Nat × Value)) = [(0, .ref o), (1, .int (cntS (fun p => !decide (he p ≤ 0)) (k4 + 1))), (2, .int (nI (k4 + 1)))] by rw [← el_7]))
      · skip
        refine lv_iconst (v := 1) hx hb dX7_dries_23 (by decide) ?_
        refine lv_goto (tgt := 28) hx hb dX7_dries_24 (by decide) ?_
        refine lv_iadd hx hb dX7_dries_28 ?_
        refine lv_istore_n (lv' := [(1, .int ((cntS (fun p => !decide (he p ≤ 0)) k4) + 1)), (0, .ref o), (2, .int (nI k4))]) hx hb dX7_dries_29 rfl hl (by decide) rfl (fun ls hl => ?_)
        refine lv_aload_n hx hb dX7_dries_30 rfl (lv_at hl 1 rfl) ?_
        refine va_get (D := G) (ci := 7) (v := .ref a_S) (C := RX7) (T := TX7) (N := 38) hx hb hts inlX7 hown hK hP 0 rfl rfl 2 (by decide) (hts (.fieldLink RX7 7 "EarthBanksModel" "s" "[I") k_6_2) (fun _ h9 => h9) h_o_S dX7_dries_31 ?_
        refine lv_bipush (v := 48) hx hb dX7_dries_34 (by decide) ?_
        refine lv_iload_n hx hb dX7_dries_36 rfl (lv_at hl 2 rfl) ?_
        refine lv_iadd hx hb dX7_dries_37 ?_
        refine top_eq (y := nI (48 + k4)) (nI_add _ _) ?_
        refine lv_iconst (v := 0) hx hb dX7_dries_38 (by decide) ?_
        refine iastN (j := (48 + k4)) hx hb hK hP hD hS 1 0 rfl rfl (by omega) (by decide) dX7_dries_39 (fun H locs hP hD hS => ?_)
        have hP : va_P G vwCl [(o, .inr (7, fs_o)), (a_S, .inl (cI, 163, .inl (upd (ms zo (filS (fun _ => 0) he k4) go le hd gn la) (48 + k4) 0)))] H := hP
        have hD : va_D A [(o, .inr (7, fs_o)), (a_S, .inl (cI, 163, .inl (upd (ms zo (filS (fun _ => 0) he k4) go le hd gn la) (48 + k4) 0)))] := hD
        have en_9 : upd (ms zo (filS (fun _ => 0) he k4) go le hd gn la) (48 + k4) 0 = ms zo (upd (filS (fun _ => 0) he k4) k4 0) go le hd gn la := ms_uh (c := k4) (by omega) (by omega)
        rw [en_9] at hP hD
        have hP : va_P G vwCl [(o, .inr (7, fs_o)), (a_S, .inl (cI, 163, .inl (ms zo (upd (filS (fun _ => 0) he k4) k4 0) go le hd gn la)))] H := hP
        have hD : va_D A [(o, .inr (7, fs_o)), (a_S, .inl (cI, 163, .inl (ms zo (upd (filS (fun _ => 0) he k4) k4 0) go le hd gn la)))] := hD
        refine lv_iinc (v := nI (k4 + 1)) (lv' := [(2, .int (nI (k4 + 1))), (1, .int ((cntS (fun p => !decide (he p ≤ 0)) k4) + 1)), (0, .ref o)]) hx hb dX7_dries_40 hl (k := 2) rfl (nI_add _ _) (by decide) rfl (fun ls hl => ?_)
        refine lv_goto (tgt := 4) hx hb dX7_dries_43 (by decide) ?_
        have el_10 : (((cntS (fun p => !decide (he p ≤ 0)) k4) + 1) : Int32) = cntS (fun p => !decide (he p ≤ 0)) (k4 + 1) := by simp [cntS, bI, c_4, c_5]
        have er_11 : (ms zo (upd (filS (fun _ => 0) he k4) k4 0) go le hd gn la) = (ms zo (filS (fun _ => 0) he (k4 + 1)) go le hd gn la) := by rw [filS_s _ _ _ _ rfl]
        exact ih4 (k4 + 1) (by omega) (by omega) (by omega)  H locs (by rw [← er_11]; exact hP) (by rw [← er_11]; exact hD) hS ls (lv_sub hl [2, 1, 0] (show ([(0, .ref o), (1, .int ((cntS (fun p => !decide (he p ≤ 0)) k4) + 1)), (2, .int (nI (k4 + 1)))] : List (Nat × Value)) = [(0, .ref o), (1, .int (cntS (fun p => !decide (he p ≤ 0)) (k4 + 1))), (2, .int (nI (k4 + 1)))] by rw [← el_10]))
