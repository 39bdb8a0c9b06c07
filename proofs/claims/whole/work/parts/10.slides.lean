theorem cal_X3_survey : calV yX3_survey cX3_survey 12 none 3 := ⟨k_25_2, k_2_8, k_25_0, k_25_1, by decide +kernel⟩
set_option maxHeartbeats 4000000 in
set_option maxRecDepth 100000 in
theorem c_X3_survey (l : Launch) (G : va_G) (E : EvT) (cI cZ : ClassId) (n : Nat) (st : Int32) (o : Nat) (a_re : Nat) (a_bu : Nat) (p1 : Nat) (a_p1_zo : Nat) (a_p1_he : Nat) (a_p1_go : Nat) (a_p1_hd : Nat) (p2 : Nat) (a_p2_ki : Nat) (a_p2_pl : Nat) (a_p2_mo : Nat) (fs_o : List Value) (h_o_bu : fs_o[1]? = some (.ref a_bu)) (h_o_re : fs_o[0]? = some (.ref a_re)) (fs_p1 : List Value) (h_p1_zo : fs_p1[0]? = some (.ref a_p1_zo)) (h_p1_go : fs_p1[2]? = some (.ref a_p1_go)) (h_p1_he : fs_p1[1]? = some (.ref a_p1_he)) (h_p1_hd : fs_p1[4]? = some (.ref a_p1_hd)) (fs_p2 : List Value) (h_p2_nw : fs_p2[4]? = some (.int (nI n))) (h_p2_ki : fs_p2[0]? = some (.ref a_p2_ki)) (h_p2_pl : fs_p2[1]? = some (.ref a_p2_pl)) (h_p2_mo : fs_p2[2]? = some (.ref a_p2_mo)) (re : Nat → Int32) (bu : Nat → Int32) (p1_zo : Nat → Int32) (p1_he : Nat → Int32) (p1_go : Nat → Int32) (p1_hd : Nat → Int32) (p2_ki : Nat → Int32) (p2_pl : Nat → Int32) (p2_mo : Nat → Int32) (hn : n ≤ 8) : cWv (S := Unit) l G E yX3_survey cX3_survey 12 none 4 [(cI, .int), (cZ, .boolean)] [.ref o, .ref p1, .ref p2, .int st] [(o, .inr (3, fs_o)), (a_re, .inl (cI, 48, .inl re)), (a_bu, .inl (cI, 48, .inl bu)), (p1, .inr (2, fs_p1)), (a_p1_zo, .inl (cI, 48, .inl p1_zo)), (a_p1_he, .inl (cI, 48, .inl p1_he)), (a_p1_go, .inl (cI, 48, .inl p1_go)), (a_p1_hd, .inl (cI, 6, .inl p1_hd)), (p2, .inr (5, fs_p2)), (a_p2_ki, .inl (cI, 8, .inl p2_ki)), (a_p2_pl, .inl (cI, 8, .inl p2_pl)), (a_p2_mo, .inl (cI, 8, .inl p2_mo))] (fun _ => True) (fun _ => [(o, .inr (3, fs_o)), (a_re, .inl (cI, 48, .inl (reG (isES p1_zo p1_go) (wtD p1_zo p1_he p1_go p2_ki p2_pl st n) (hwD p1_zo p1_hd p2_ki p2_pl p2_mo st n)))), (a_bu, .inl (cI, 48, .inl (buG (isES p1_zo p1_go) (wtD p1_zo p1_he p1_go p2_ki p2_pl st n)))), (p1, .inr (2, fs_p1)), (a_p1_zo, .inl (cI, 48, .inl p1_zo)), (a_p1_he, .inl (cI, 48, .inl p1_he)), (a_p1_go, .inl (cI, 48, .inl p1_go)), (a_p1_hd, .inl (cI, 6, .inl p1_hd)), (p2, .inr (5, fs_p2)), (a_p2_ki, .inl (cI, 8, .inl p2_ki)), (a_p2_pl, .inl (cI, 8, .inl p2_pl)), (a_p2_mo, .inl (cI, 8, .inl p2_mo))]) := by
  refine mkWv (by decide) (Nat.le_of_ble_eq_true rfl) ?_
  intro zp ze s zm args below meth zc hx hb hr hml hown hts hlocks hE hK A hA hlow H locs hP hD hS ls hl
  have hl : lv_has ls 12 [(0, .ref o), (1, .ref p1), (2, .ref p2), (3, .int st)] := hl
  refine lv_iconst (v := 0) hx hb dX3_survey_0 (by decide) ?_
  have hP := P_swap hP 1 (filC (reG (isES p1_zo p1_go) (wtD p1_zo p1_he p1_go p2_ki p2_pl st n) (hwD p1_zo p1_hd p2_ki p2_pl p2_mo st n)) re 0 6) rfl (fun k h9 => filC_g h9)
  have hD := D_swap hD 1 (.inl (cI, 48, .inl (filC (reG (isES p1_zo p1_go) (wtD p1_zo p1_he p1_go p2_ki p2_pl st n) (hwD p1_zo p1_hd p2_ki p2_pl p2_mo st n)) re 0 6))) rfl
  have hP : va_P G vwCl [(o, .inr (3, fs_o)), (a_re, .inl (cI, 48, .inl (filC (reG (isES p1_zo p1_go) (wtD p1_zo p1_he p1_go p2_ki p2_pl st n) (hwD p1_zo p1_hd p2_ki p2_pl p2_mo st n)) re 0 6))), (a_bu, .inl (cI, 48, .inl bu)), (p1, .inr (2, fs_p1)), (a_p1_zo, .inl (cI, 48, .inl p1_zo)), (a_p1_he, .inl (cI, 48, .inl p1_he)), (a_p1_go, .inl (cI, 48, .inl p1_go)), (a_p1_hd, .inl (cI, 6, .inl p1_hd)), (p2, .inr (5, fs_p2)), (a_p2_ki, .inl (cI, 8, .inl p2_ki)), (a_p2_pl, .inl (cI, 8, .inl p2_pl)), (a_p2_mo, .inl (cI, 8, .inl p2_mo))] H := hP
  have hD : va_D A [(o, .inr (3, fs_o)), (a_re, .inl (cI, 48, .inl (filC (reG (isES p1_zo p1_go) (wtD p1_zo p1_he p1_go p2_ki p2_pl st n) (hwD p1_zo p1_hd p2_ki p2_pl p2_mo st n)) re 0 6))), (a_bu, .inl (cI, 48, .inl bu)), (p1, .inr (2, fs_p1)), (a_p1_zo, .inl (cI, 48, .inl p1_zo)), (a_p1_he, .inl (cI, 48, .inl p1_he)), (a_p1_go, .inl (cI, 48, .inl p1_go)), (a_p1_hd, .inl (cI, 6, .inl p1_hd)), (p2, .inr (5, fs_p2)), (a_p2_ki, .inl (cI, 8, .inl p2_ki)), (a_p2_pl, .inl (cI, 8, .inl p2_pl)), (a_p2_mo, .inl (cI, 8, .inl p2_mo))] := hD
  have hP := P_swap hP 2 (filC (buG (isES p1_zo p1_go) (wtD p1_zo p1_he p1_go p2_ki p2_pl st n)) bu 0 6) rfl (fun k h9 => filC_g h9)
  have hD := D_swap hD 2 (.inl (cI, 48, .inl (filC (buG (isES p1_zo p1_go) (wtD p1_zo p1_he p1_go p2_ki p2_pl st n)) bu 0 6))) rfl
  have hP : va_P G vwCl [(o, .inr (3, fs_o)), (a_re, .inl (cI, 48, .inl (filC (reG (isES p1_zo p1_go) (wtD p1_zo p1_he p1_go p2_ki p2_pl st n) (hwD p1_zo p1_hd p2_ki p2_pl p2_mo st n)) re 0 6))), (a_bu, .inl (cI, 48, .inl (filC (buG (isES p1_zo p1_go) (wtD p1_zo p1_he p1_go p2_ki p2_pl st n)) bu 0 6))), (p1, .inr (2, fs_p1)), (a_p1_zo, .inl (cI, 48, .inl p1_zo)), (a_p1_he, .inl (cI, 48, .inl p1_he)), (a_p1_go, .inl (cI, 48, .inl p1_go)), (a_p1_hd, .inl (cI, 6, .inl p1_hd)), (p2, .inr (5, fs_p2)), (a_p2_ki, .inl (cI, 8, .inl p2_ki)), (a_p2_pl, .inl (cI, 8, .inl p2_pl)), (a_p2_mo, .inl (cI, 8, .inl p2_mo))] H := hP
  have hD : va_D A [(o, .inr (3, fs_o)), (a_re, .inl (cI, 48, .inl (filC (reG (isES p1_zo p1_go) (wtD p1_zo p1_he p1_go p2_ki p2_pl st n) (hwD p1_zo p1_hd p2_ki p2_pl p2_mo st n)) re 0 6))), (a_bu, .inl (cI, 48, .inl (filC (buG (isES p1_zo p1_go) (wtD p1_zo p1_he p1_go p2_ki p2_pl st n)) bu 0 6))), (p1, .inr (2, fs_p1)), (a_p1_zo, .inl (cI, 48, .inl p1_zo)), (a_p1_he, .inl (cI, 48, .inl p1_he)), (a_p1_go, .inl (cI, 48, .inl p1_go)), (a_p1_hd, .inl (cI, 6, .inl p1_hd)), (p2, .inr (5, fs_p2)), (a_p2_ki, .inl (cI, 8, .inl p2_ki)), (a_p2_pl, .inl (cI, 8, .inl p2_pl)), (a_p2_mo, .inl (cI, 8, .inl p2_mo))] := hD
  refine lv_istore (lv' := [(4, .int 0), (0, .ref o), (1, .ref p1), (2, .ref p2), (3, .int st)]) hx hb dX3_survey_1 hl (by decide) rfl (fun ls hl => ?_)
  suffices lp3 : ∀ zn k3 : Nat, 0 ≤ k3 → k3 ≤ 8 → 8 < k3 + zn → ∀ (H : Heap) (locs : List Loc), va_P G vwCl [(o, .inr (3, fs_o)), (a_re, .inl (cI, 48, .inl (filC (reG (isES p1_zo p1_go) (wtD p1_zo p1_he p1_go p2_ki p2_pl st n) (hwD p1_zo p1_hd p2_ki p2_pl p2_mo st n)) re k3 6))), (a_bu, .inl (cI, 48, .inl (filC (buG (isES p1_zo p1_go) (wtD p1_zo p1_he p1_go p2_ki p2_pl st n)) bu k3 6))), (p1, .inr (2, fs_p1)), (a_p1_zo, .inl (cI, 48, .inl p1_zo)), (a_p1_he, .inl (cI, 48, .inl p1_he)), (a_p1_go, .inl (cI, 48, .inl p1_go)), (a_p1_hd, .inl (cI, 6, .inl p1_hd)), (p2, .inr (5, fs_p2)), (a_p2_ki, .inl (cI, 8, .inl p2_ki)), (a_p2_pl, .inl (cI, 8, .inl p2_pl)), (a_p2_mo, .inl (cI, 8, .inl p2_mo))] H → va_D A [(o, .inr (3, fs_o)), (a_re, .inl (cI, 48, .inl (filC (reG (isES p1_zo p1_go) (wtD p1_zo p1_he p1_go p2_ki p2_pl st n) (hwD p1_zo p1_hd p2_ki p2_pl p2_mo st n)) re k3 6))), (a_bu, .inl (cI, 48, .inl (filC (buG (isES p1_zo p1_go) (wtD p1_zo p1_he p1_go p2_ki p2_pl st n)) bu k3 6))), (p1, .inr (2, fs_p1)), (a_p1_zo, .inl (cI, 48, .inl p1_zo)), (a_p1_he, .inl (cI, 48, .inl p1_he)), (a_p1_go, .inl (cI, 48, .inl p1_go)), (a_p1_hd, .inl (cI, 6, .inl p1_hd)), (p2, .inr (5, fs_p2)), (a_p2_ki, .inl (cI, 8, .inl p2_ki)), (a_p2_pl, .inl (cI, 8, .inl p2_pl)), (a_p2_mo, .inl (cI, 8, .inl p2_mo))] → va_S A s.heap H locs → ∀ ls : Array Slot, lv_has ls 12 [(0, .ref o), (1, .ref p1), (2, .ref p2), (3, .int st), (4, .int (nI k3))] → W zp l ze (rmK 4) s zm args below meth zc H locs 0 0 (MQ below (va_Qv (S := Unit) (fun _ => True) (fun u t => va_P G vwCl ((fun _ => [(o, .inr (3, fs_o)), (a_re, .inl (cI, 48, .inl (reG (isES p1_zo p1_go) (wtD p1_zo p1_he p1_go p2_ki p2_pl st n) (hwD p1_zo p1_hd p2_ki p2_pl p2_mo st n)))), (a_bu, .inl (cI, 48, .inl (buG (isES p1_zo p1_go) (wtD p1_zo p1_he p1_go p2_ki p2_pl st n)))), (p1, .inr (2, fs_p1)), (a_p1_zo, .inl (cI, 48, .inl p1_zo)), (a_p1_he, .inl (cI, 48, .inl p1_he)), (a_p1_go, .inl (cI, 48, .inl p1_go)), (a_p1_hd, .inl (cI, 6, .inl p1_hd)), (p2, .inr (5, fs_p2)), (a_p2_ki, .inl (cI, 8, .inl p2_ki)), (a_p2_pl, .inl (cI, 8, .inl p2_pl)), (a_p2_mo, .inl (cI, 8, .inl p2_mo))]) u) t.heap) A) args s 0 0 A) (F0 zm 3 ls []) by
    have el_1 : (0 : Int32) = nI 0 := rfl
    exact lp3 (8 + 1 - 0) 0 (by omega) (by omega) (by omega)  H locs hP hD hS ls (lv_sub hl [1, 2, 3, 4, 0] (show ([(0, .ref o), (1, .ref p1), (2, .ref p2), (3, .int st), (4, .int 0)] : List (Nat × Value)) = [(0, .ref o), (1, .ref p1), (2, .ref p2), (3, .int st), (4, .int (nI 0))] by rw [← el_1]))
  intro zn
  induction zn with
  | zero => exact fun k3 h1 h2 h3 => absurd h3 (by omega)
  | succ zn ih3 =>
    intro k3 hlo3 hhi3 hn3  H locs hP hD hS ls hl
    refine lv_iload hx hb dX3_survey_3 (lv_at hl 4 rfl) ?_
    refine lv_bipush (v := 8) hx hb dX3_survey_5 (by decide) ?_
    refine lv_icmp_ge (tgt := 155) hx hb dX3_survey_7 (by decide) (fun c_2 => ?_) (fun c_2 => ?_)
    · skip
      have c_2 : 8 ≤ k3 := (nI_leI (a := 8) (b := k3) (by omega) (by omega)).mp c_2
      have hk9 : 8 = k3 := by omega
      subst hk9
      have hP := P_swap hP 1 (reG (isES p1_zo p1_go) (wtD p1_zo p1_he p1_go p2_ki p2_pl st n) (hwD p1_zo p1_hd p2_ki p2_pl p2_mo st n)) rfl (fun k h9 => filC_in h9)
      have hP : va_P G vwCl [(o, .inr (3, fs_o)), (a_re, .inl (cI, 48, .inl (reG (isES p1_zo p1_go) (wtD p1_zo p1_he p1_go p2_ki p2_pl st n) (hwD p1_zo p1_hd p2_ki p2_pl p2_mo st n)))), (a_bu, .inl (cI, 48, .inl (filC (buG (isES p1_zo p1_go) (wtD p1_zo p1_he p1_go p2_ki p2_pl st n)) bu 8 6))), (p1, .inr (2, fs_p1)), (a_p1_zo, .inl (cI, 48, .inl p1_zo)), (a_p1_he, .inl (cI, 48, .inl p1_he)), (a_p1_go, .inl (cI, 48, .inl p1_go)), (a_p1_hd, .inl (cI, 6, .inl p1_hd)), (p2, .inr (5, fs_p2)), (a_p2_ki, .inl (cI, 8, .inl p2_ki)), (a_p2_pl, .inl (cI, 8, .inl p2_pl)), (a_p2_mo, .inl (cI, 8, .inl p2_mo))] H := hP
      have hP := P_swap hP 2 (buG (isES p1_zo p1_go) (wtD p1_zo p1_he p1_go p2_ki p2_pl st n)) rfl (fun k h9 => filC_in h9)
      have hP : va_P G vwCl [(o, .inr (3, fs_o)), (a_re, .inl (cI, 48, .inl (reG (isES p1_zo p1_go) (wtD p1_zo p1_he p1_go p2_ki p2_pl st n) (hwD p1_zo p1_hd p2_ki p2_pl p2_mo st n)))), (a_bu, .inl (cI, 48, .inl (buG (isES p1_zo p1_go) (wtD p1_zo p1_he p1_go p2_ki p2_pl st n)))), (p1, .inr (2, fs_p1)), (a_p1_zo, .inl (cI, 48, .inl p1_zo)), (a_p1_he, .inl (cI, 48, .inl p1_he)), (a_p1_go, .inl (cI, 48, .inl p1_go)), (a_p1_hd, .inl (cI, 6, .inl p1_hd)), (p2, .inr (5, fs_p2)), (a_p2_ki, .inl (cI, 8, .inl p2_ki)), (a_p2_pl, .inl (cI, 8, .inl p2_pl)), (a_p2_mo, .inl (cI, 8, .inl p2_mo))] H := hP
      exact retWv () hx hb hr hlocks dX3_survey_155 hS (trivial) hP
    · skip
      have c_2 : ¬ 8 ≤ k3 := fun h9 => c_2 ((nI_leI (a := 8) (b := k3) (by omega) (by omega)).mpr h9)
      refine lv_aload_n hx hb dX3_survey_10 rfl (lv_at hl 2 rfl) ?_
      refine lv_iload_n hx hb dX3_survey_11 rfl (lv_at hl 3 rfl) ?_
      refine lv_iload hx hb dX3_survey_12 (lv_at hl 4 rfl) ?_
      refine cRV (As := [.int st, .int (nI k3)]) (rest := []) hx hb hml hown hts (c_X5_moreHold l G E cI cZ n st k3 p2 a_p2_ki a_p2_pl a_p2_mo fs_p2 h_p2_nw h_p2_ki h_p2_pl h_p2_mo p2_ki p2_pl p2_mo (hn)) k_25_3 cal_X5_moreHold ⟨Nat.le_of_ble_eq_true rfl, Nat.le_of_ble_eq_true rfl⟩ hE hlow hS hK [0, 1] rfl hP [8, 9, 10, 11] rfl 8 5 rfl rfl rfl hl.1 rfl (Nat.le_of_ble_eq_true rfl) dX3_survey_14 ⟨Nat.zero_le _, Nat.zero_le _⟩ ?_
      refine lv_istore (lv' := [(5, .int (sumS (morT p2_ki p2_pl p2_mo st k3) n)), (0, .ref o), (1, .ref p1), (2, .ref p2), (3, .int st), (4, .int (nI k3))]) hx hb dX3_survey_17 hl (by decide) rfl (fun ls hl => ?_)
      refine lv_iconst (v := 0) hx hb dX3_survey_19 (by decide) ?_
      refine lv_istore (lv' := [(6, .int 0), (5, .int (sumS (morT p2_ki p2_pl p2_mo st k3) n)), (0, .ref o), (1, .ref p1), (2, .ref p2), (3, .int st), (4, .int (nI k3))]) hx hb dX3_survey_20 hl (by decide) rfl (fun ls hl => ?_)
      refine lv_iconst (v := 5) hx hb dX3_survey_22 (by decide) ?_
      refine lv_istore (lv' := [(7, .int 5), (6, .int 0), (5, .int (sumS (morT p2_ki p2_pl p2_mo st k3) n)), (0, .ref o), (1, .ref p1), (2, .ref p2), (3, .int st), (4, .int (nI k3))]) hx hb dX3_survey_23 hl (by decide) rfl (fun ls hl => ?_)
      suffices lp25 : ∀ zn k25 : Nat, 0 ≤ k25 → k25 ≤ 6 → 6 < k25 + zn → ∀ (H : Heap) (locs : List Loc), va_P G vwCl [(o, .inr (3, fs_o)), (a_re, .inl (cI, 48, .inl (filC (reG (isES p1_zo p1_go) (wtD p1_zo p1_he p1_go p2_ki p2_pl st n) (hwD p1_zo p1_hd p2_ki p2_pl p2_mo st n)) re k3 (6 - k25)))), (a_bu, .inl (cI, 48, .inl (filC (buG (isES p1_zo p1_go) (wtD p1_zo p1_he p1_go p2_ki p2_pl st n)) bu k3 (6 - k25)))), (p1, .inr (2, fs_p1)), (a_p1_zo, .inl (cI, 48, .inl p1_zo)), (a_p1_he, .inl (cI, 48, .inl p1_he)), (a_p1_go, .inl (cI, 48, .inl p1_go)), (a_p1_hd, .inl (cI, 6, .inl p1_hd)), (p2, .inr (5, fs_p2)), (a_p2_ki, .inl (cI, 8, .inl p2_ki)), (a_p2_pl, .inl (cI, 8, .inl p2_pl)), (a_p2_mo, .inl (cI, 8, .inl p2_mo))] H → va_D A [(o, .inr (3, fs_o)), (a_re, .inl (cI, 48, .inl (filC (reG (isES p1_zo p1_go) (wtD p1_zo p1_he p1_go p2_ki p2_pl st n) (hwD p1_zo p1_hd p2_ki p2_pl p2_mo st n)) re k3 (6 - k25)))), (a_bu, .inl (cI, 48, .inl (filC (buG (isES p1_zo p1_go) (wtD p1_zo p1_he p1_go p2_ki p2_pl st n)) bu k3 (6 - k25)))), (p1, .inr (2, fs_p1)), (a_p1_zo, .inl (cI, 48, .inl p1_zo)), (a_p1_he, .inl (cI, 48, .inl p1_he)), (a_p1_go, .inl (cI, 48, .inl p1_go)), (a_p1_hd, .inl (cI, 6, .inl p1_hd)), (p2, .inr (5, fs_p2)), (a_p2_ki, .inl (cI, 8, .inl p2_ki)), (a_p2_pl, .inl (cI, 8, .inl p2_pl)), (a_p2_mo, .inl (cI, 8, .inl p2_mo))] → va_S A s.heap H locs → ∀ ls : Array Slot, lv_has ls 12 [(0, .ref o), (1, .ref p1), (2, .ref p2), (3, .int st), (4, .int (nI k3)), (5, .int (sumS (morT p2_ki p2_pl p2_mo st k3) n)), (6, .int (buC (isES p1_zo p1_go) (wtD p1_zo p1_he p1_go p2_ki p2_pl st n) k3 k25)), (7, .int (pI (6 - k25)))] → W zp l ze (rmK 4) s zm args below meth zc H locs 0 0 (MQ below (va_Qv (S := Unit) (fun _ => True) (fun u t => va_P G vwCl ((fun _ => [(o, .inr (3, fs_o)), (a_re, .inl (cI, 48, .inl (reG (isES p1_zo p1_go) (wtD p1_zo p1_he p1_go p2_ki p2_pl st n) (hwD p1_zo p1_hd p2_ki p2_pl p2_mo st n)))), (a_bu, .inl (cI, 48, .inl (buG (isES p1_zo p1_go) (wtD p1_zo p1_he p1_go p2_ki p2_pl st n)))), (p1, .inr (2, fs_p1)), (a_p1_zo, .inl (cI, 48, .inl p1_zo)), (a_p1_he, .inl (cI, 48, .inl p1_he)), (a_p1_go, .inl (cI, 48, .inl p1_go)), (a_p1_hd, .inl (cI, 6, .inl p1_hd)), (p2, .inr (5, fs_p2)), (a_p2_ki, .inl (cI, 8, .inl p2_ki)), (a_p2_pl, .inl (cI, 8, .inl p2_pl)), (a_p2_mo, .inl (cI, 8, .inl p2_mo))]) u) t.heap) A) args s 0 0 A) (F0 zm 25 ls []) by
        have el_3 : (0 : Int32) = buC (isES p1_zo p1_go) (wtD p1_zo p1_he p1_go p2_ki p2_pl st n) k3 0 := rfl
        have el_4 : (5 : Int32) = pI (6 - 0) := rfl
        have er_5 : (filC (reG (isES p1_zo p1_go) (wtD p1_zo p1_he p1_go p2_ki p2_pl st n) (hwD p1_zo p1_hd p2_ki p2_pl p2_mo st n)) re k3 6) = (filC (reG (isES p1_zo p1_go) (wtD p1_zo p1_he p1_go p2_ki p2_pl st n) (hwD p1_zo p1_hd p2_ki p2_pl p2_mo st n)) re k3 (6 - 0)) := rfl
        have er_6 : (filC (buG (isES p1_zo p1_go) (wtD p1_zo p1_he p1_go p2_ki p2_pl st n)) bu k3 6) = (filC (buG (isES p1_zo p1_go) (wtD p1_zo p1_he p1_go p2_ki p2_pl st n)) bu k3 (6 - 0)) := rfl
        exact lp25 (6 + 1 - 0) 0 (by omega) (by omega) (by omega)  H locs (by rw [← er_5, ← er_6]; exact hP) (by rw [← er_5, ← er_6]; exact hD) hS ls (lv_sub hl [3, 4, 5, 6, 7, 2, 1, 0] (show ([(0, .ref o), (1, .ref p1), (2, .ref p2), (3, .int st), (4, .int (nI k3)), (5, .int (sumS (morT p2_ki p2_pl p2_mo st k3) n)), (6, .int 0), (7, .int 5)] : List (Nat × Value)) = [(0, .ref o), (1, .ref p1), (2, .ref p2), (3, .int st), (4, .int (nI k3)), (5, .int (sumS (morT p2_ki p2_pl p2_mo st k3) n)), (6, .int (buC (isES p1_zo p1_go) (wtD p1_zo p1_he p1_go p2_ki p2_pl st n) k3 0)), (7, .int (pI (6 - 0)))] by rw [← el_3, ← el_4]))
      intro zn
      induction zn with
      | zero => exact fun k25 h1 h2 h3 => absurd h3 (by omega)
      | succ zn ih25 =>
        intro k25 hlo25 hhi25 hn25  H locs hP hD hS ls hl
        refine lv_iload hx hb dX3_survey_25 (lv_at hl 7 rfl) ?_
        refine lv_if_lt (tgt := 149) hx hb dX3_survey_27 (by decide) (fun c_7 => ?_) (fun c_7 => ?_)
        · skip
          have hk9 : 6 = k25 := by have h8 := pI_lt (m := 6 - k25) (by omega) c_7; omega
          subst hk9
          have hP := P_swap hP 1 (filC (reG (isES p1_zo p1_go) (wtD p1_zo p1_he p1_go p2_ki p2_pl st n) (hwD p1_zo p1_hd p2_ki p2_pl p2_mo st n)) re (k3 + 1) 6) rfl (fun k h9 => filC_x h9)
          have hD := D_swap hD 1 (.inl (cI, 48, .inl (filC (reG (isES p1_zo p1_go) (wtD p1_zo p1_he p1_go p2_ki p2_pl st n) (hwD p1_zo p1_hd p2_ki p2_pl p2_mo st n)) re (k3 + 1) 6))) rfl
          have hP : va_P G vwCl [(o, .inr (3, fs_o)), (a_re, .inl (cI, 48, .inl (filC (reG (isES p1_zo p1_go) (wtD p1_zo p1_he p1_go p2_ki p2_pl st n) (hwD p1_zo p1_hd p2_ki p2_pl p2_mo st n)) re (k3 + 1) 6))), (a_bu, .inl (cI, 48, .inl (filC (buG (isES p1_zo p1_go) (wtD p1_zo p1_he p1_go p2_ki p2_pl st n)) bu k3 (6 - 6)))), (p1, .inr (2, fs_p1)), (a_p1_zo, .inl (cI, 48, .inl p1_zo)), (a_p1_he, .inl (cI, 48, .inl p1_he)), (a_p1_go, .inl (cI, 48, .inl p1_go)), (a_p1_hd, .inl (cI, 6, .inl p1_hd)), (p2, .inr (5, fs_p2)), (a_p2_ki, .inl (cI, 8, .inl p2_ki)), (a_p2_pl, .inl (cI, 8, .inl p2_pl)), (a_p2_mo, .inl (cI, 8, .inl p2_mo))] H := hP
          have hD : va_D A [(o, .inr (3, fs_o)), (a_re, .inl (cI, 48, .inl (filC (reG (isES p1_zo p1_go) (wtD p1_zo p1_he p1_go p2_ki p2_pl st n) (hwD p1_zo p1_hd p2_ki p2_pl p2_mo st n)) re (k3 + 1) 6))), (a_bu, .inl (cI, 48, .inl (filC (buG (isES p1_zo p1_go) (wtD p1_zo p1_he p1_go p2_ki p2_pl st n)) bu k3 (6 - 6)))), (p1, .inr (2, fs_p1)), (a_p1_zo, .inl (cI, 48, .inl p1_zo)), (a_p1_he, .inl (cI, 48, .inl p1_he)), (a_p1_go, .inl (cI, 48, .inl p1_go)), (a_p1_hd, .inl (cI, 6, .inl p1_hd)), (p2, .inr (5, fs_p2)), (a_p2_ki, .inl (cI, 8, .inl p2_ki)), (a_p2_pl, .inl (cI, 8, .inl p2_pl)), (a_p2_mo, .inl (cI, 8, .inl p2_mo))] := hD
          have hP := P_swap hP 2 (filC (buG (isES p1_zo p1_go) (wtD p1_zo p1_he p1_go p2_ki p2_pl st n)) bu (k3 + 1) 6) rfl (fun k h9 => filC_x h9)
          have hD := D_swap hD 2 (.inl (cI, 48, .inl (filC (buG (isES p1_zo p1_go) (wtD p1_zo p1_he p1_go p2_ki p2_pl st n)) bu (k3 + 1) 6))) rfl
          have hP : va_P G vwCl [(o, .inr (3, fs_o)), (a_re, .inl (cI, 48, .inl (filC (reG (isES p1_zo p1_go) (wtD p1_zo p1_he p1_go p2_ki p2_pl st n) (hwD p1_zo p1_hd p2_ki p2_pl p2_mo st n)) re (k3 + 1) 6))), (a_bu, .inl (cI, 48, .inl (filC (buG (isES p1_zo p1_go) (wtD p1_zo p1_he p1_go p2_ki p2_pl st n)) bu (k3 + 1) 6))), (p1, .inr (2, fs_p1)), (a_p1_zo, .inl (cI, 48, .inl p1_zo)), (a_p1_he, .inl (cI, 48, .inl p1_he)), (a_p1_go, .inl (cI, 48, .inl p1_go)), (a_p1_hd, .inl (cI, 6, .inl p1_hd)), (p2, .inr (5, fs_p2)), (a_p2_ki, .inl (cI, 8, .inl p2_ki)), (a_p2_pl, .inl (cI, 8, .inl p2_pl)), (a_p2_mo, .inl (cI, 8, .inl p2_mo))] H := hP
          have hD : va_D A [(o, .inr (3, fs_o)), (a_re, .inl (cI, 48, .inl (filC (reG (isES p1_zo p1_go) (wtD p1_zo p1_he p1_go p2_ki p2_pl st n) (hwD p1_zo p1_hd p2_ki p2_pl p2_mo st n)) re (k3 + 1) 6))), (a_bu, .inl (cI, 48, .inl (filC (buG (isES p1_zo p1_go) (wtD p1_zo p1_he p1_go p2_ki p2_pl st n)) bu (k3 + 1) 6))), (p1, .inr (2, fs_p1)), (a_p1_zo, .inl (cI, 48, .inl p1_zo)), (a_p1_he, .inl (cI, 48, .inl p1_he)), (a_p1_go, .inl (cI, 48, .inl p1_go)), (a_p1_hd, .inl (cI, 6, .inl p1_hd)), (p2, .inr (5, fs_p2)), (a_p2_ki, .inl (cI, 8, .inl p2_ki)), (a_p2_pl, .inl (cI, 8, .inl p2_pl)), (a_p2_mo, .inl (cI, 8, .inl p2_mo))] := hD
          refine lv_iinc (v := nI (k3 + 1)) (lv' := [(4, .int (nI (k3 + 1))), (0, .ref o), (1, .ref p1), (2, .ref p2), (3, .int st), (5, .int (sumS (morT p2_ki p2_pl p2_mo st k3) n)), (6, .int (buC (isES p1_zo p1_go) (wtD p1_zo p1_he p1_go p2_ki p2_pl st n) k3 6)), (7, .int (pI (6 - 6)))]) hx hb dX3_survey_149 hl (k := 4) rfl (nI_add _ _) (by decide) rfl (fun ls hl => ?_)
          refine lv_goto (tgt := 3) hx hb dX3_survey_152 (by decide) ?_
          exact ih3 (k3 + 1) (by omega) (by omega) (by omega)  H locs hP hD hS ls (lv_sub hl [1, 2, 3, 4, 0] rfl)
        · skip
          have hk6 := pI_k6 (m := 6) (k := k25) c_7 (by omega)
          have hl : lv_has ls 12 [(0, .ref o), (1, .ref p1), (2, .ref p2), (3, .int st), (4, .int (nI k3)), (5, .int (sumS (morT p2_ki p2_pl p2_mo st k3) n)), (6, .int (buC (isES p1_zo p1_go) (wtD p1_zo p1_he p1_go p2_ki p2_pl st n) k3 k25)), (7, .int (nI (5 - k25)))] := by rw [pI_b (m := 5) (by omega)] at hl; exact hl
          have hmod : (8 * (5 - k25) + k3) % 8 = k3 := by omega
          have hdiv : (8 * (5 - k25) + k3) / 8 = 5 - k25 := by omega
          have hfiv : 5 - (5 - k25) = k25 := by omega
          refine lv_iload hx hb dX3_survey_30 (lv_at hl 4 rfl) ?_
          refine lv_iload hx hb dX3_survey_32 (lv_at hl 7 rfl) ?_
          refine cRSN (As := [.int (nI k3), .int (nI (5 - k25))]) (rest := []) hx hb hml hown hts (c_X6_placeOf l G E cI cZ k3 (5 - k25)) (hE.2.1.2.1 ("EarthBanks$Slides", 53, yX6_placeOf, "EarthBanks") (by decide +kernel)) cal_X6_placeOf ⟨Nat.le_of_ble_eq_true rfl, Nat.le_of_ble_eq_true rfl⟩ hE hlow hS hK [0, 1] rfl hP [] rfl rfl hl.1 rfl (Nat.le_of_ble_eq_true rfl) dX3_survey_34 ⟨Nat.zero_le _, Nat.zero_le _⟩ ?_
          refine lv_istore (lv' := [(8, .int (nI ((8 * (5 - k25)) + k3))), (0, .ref o), (1, .ref p1), (2, .ref p2), (3, .int st), (4, .int (nI k3)), (5, .int (sumS (morT p2_ki p2_pl p2_mo st k3) n)), (6, .int (buC (isES p1_zo p1_go) (wtD p1_zo p1_he p1_go p2_ki p2_pl st n) k3 k25)), (7, .int (nI (5 - k25)))]) hx hb dX3_survey_37 hl (by decide) rfl (fun ls hl => ?_)
          refine lv_aload_n hx hb dX3_survey_39 rfl (lv_at hl 2 rfl) ?_
          refine lv_iload hx hb dX3_survey_40 (lv_at hl 0 rfl) ?_
          refine cRV (As := [.int (nI ((8 * (5 - k25)) + k3))]) (rest := []) hx hb hml hown hts (c_X2_isWet l G E cI cZ ((8 * (5 - k25)) + k3) p1 a_p1_zo a_p1_he a_p1_go fs_p1 h_p1_zo h_p1_go h_p1_he p1_zo p1_he p1_go (by first | assumption | omega | simp [bI, c_2, c_7])) k_25_10 cal_X2_isWet ⟨Nat.le_of_ble_eq_true rfl, Nat.le_of_ble_eq_true rfl⟩ hE hlow hS hK [0, 1] rfl hP [3, 4, 5, 6] rfl 3 2 rfl rfl rfl hl.1 rfl (Nat.le_of_ble_eq_true rfl) dX3_survey_42 ⟨Nat.zero_le _, Nat.zero_le _⟩ ?_
          refine lv_if_eq (tgt := 62) hx hb dX3_survey_45 (by decide) (fun c_8 => ?_) (fun c_8 => ?_)
          · skip
            have c_8 : (wetS p1_zo p1_he p1_go ((8 * (5 - k25)) + k3)) = false := bI_f c_8
            refine lv_iconst (v := 0) hx hb dX3_survey_62 (by decide) ?_
            refine lv_istore (lv' := [(9, .int 0), (8, .int (nI ((8 * (5 - k25)) + k3))), (0, .ref o), (1, .ref p1), (2, .ref p2), (3, .int st), (4, .int (nI k3)), (5, .int (sumS (morT p2_ki p2_pl p2_mo st k3) n)), (6, .int (buC (isES p1_zo p1_go) (wtD p1_zo p1_he p1_go p2_ki p2_pl st n) k3 k25)), (7, .int (nI (5 - k25)))]) hx hb dX3_survey_63 hl (by decide) rfl (fun ls hl => ?_)
            refine lv_aload_n hx hb dX3_survey_65 rfl (lv_at hl 3 rfl) ?_
            refine lv_iload hx hb dX3_survey_66 (lv_at hl 1 rfl) ?_
            refine cRV (As := [.int (nI ((8 * (5 - k25)) + k3))]) (rest := []) hx hb hml hown hts (c_X2_holdAt l G E cI cZ ((8 * (5 - k25)) + k3) p1 a_p1_zo a_p1_hd fs_p1 h_p1_zo h_p1_hd p1_zo p1_hd (by first | assumption | omega | simp [bI, c_2, c_7, c_8])) k_25_15 cal_X2_holdAt ⟨Nat.le_of_ble_eq_true rfl, Nat.le_of_ble_eq_true rfl⟩ hE hlow hS hK [0, 1] rfl hP [3, 4, 7] rfl 3 2 rfl rfl rfl hl.1 rfl (Nat.le_of_ble_eq_true rfl) dX3_survey_68 ⟨Nat.zero_le _, Nat.zero_le _⟩ ?_
            refine lv_iload hx hb dX3_survey_71 (lv_at hl 7 rfl) ?_
            refine lv_iadd hx hb dX3_survey_73 ?_
            refine lv_istore (lv' := [(10, .int ((holdS p1_zo p1_hd ((8 * (5 - k25)) + k3)) + (sumS (morT p2_ki p2_pl p2_mo st k3) n))), (9, .int 0), (8, .int (nI ((8 * (5 - k25)) + k3))), (0, .ref o), (1, .ref p1), (2, .ref p2), (3, .int st), (4, .int (nI k3)), (5, .int (sumS (morT p2_ki p2_pl p2_mo st k3) n)), (6, .int (buC (isES p1_zo p1_go) (wtD p1_zo p1_he p1_go p2_ki p2_pl st n) k3 k25)), (7, .int (nI (5 - k25)))]) hx hb dX3_survey_74 hl (by decide) rfl (fun ls hl => ?_)
            refine lv_aload_n hx hb dX3_survey_76 rfl (lv_at hl 4 rfl) ?_
            refine lv_iload hx hb dX3_survey_77 (lv_at hl 2 rfl) ?_
            refine cRV (As := [.int (nI ((8 * (5 - k25)) + k3))]) (rest := []) hx hb hml hown hts (c_X2_isEarth l G E cI cZ ((8 * (5 - k25)) + k3) p1 a_p1_zo a_p1_go fs_p1 h_p1_zo h_p1_go p1_zo p1_go (by first | assumption | omega | simp [bI, c_2, c_7, c_8])) k_25_16 cal_X2_isEarth ⟨Nat.le_of_ble_eq_true rfl, Nat.le_of_ble_eq_true rfl⟩ hE hlow hS hK [0, 1] rfl hP [3, 4, 6] rfl 3 2 rfl rfl rfl hl.1 rfl (Nat.le_of_ble_eq_true rfl) dX3_survey_79 ⟨Nat.zero_le _, Nat.zero_le _⟩ ?_
            refine lv_istore (lv' := [(11, .int (bI (isES p1_zo p1_go ((8 * (5 - k25)) + k3)))), (10, .int ((holdS p1_zo p1_hd ((8 * (5 - k25)) + k3)) + (sumS (morT p2_ki p2_pl p2_mo st k3) n))), (9, .int 0), (8, .int (nI ((8 * (5 - k25)) + k3))), (0, .ref o), (1, .ref p1), (2, .ref p2), (3, .int st), (4, .int (nI k3)), (5, .int (sumS (morT p2_ki p2_pl p2_mo st k3) n)), (6, .int (buC (isES p1_zo p1_go) (wtD p1_zo p1_he p1_go p2_ki p2_pl st n) k3 k25)), (7, .int (nI (5 - k25)))]) hx hb dX3_survey_82 hl (by decide) rfl (fun ls hl => ?_)
            refine lv_aload_n hx hb dX3_survey_84 rfl (lv_at hl 4 rfl) ?_
            refine va_get (D := G) (ci := 3) (v := .ref a_bu) (C := RX3) (T := TX3) (N := 11) hx hb hts inlX3 hown hK hP 0 rfl rfl 1 (by decide) (hts (.fieldLink RX3 15 "EarthBanks$Slides" "burdens" "[I") k_4_14) (fun _ h9 => h9) h_o_bu dX3_survey_85 ?_
            refine lv_iload hx hb dX3_survey_88 (lv_at hl 3 rfl) ?_
            refine lv_iload hx hb dX3_survey_90 (lv_at hl 10 rfl) ?_
            refine iastN (j := ((8 * (5 - k25)) + k3)) hx hb hK hP hD hS 2 0 rfl rfl (by omega) (by decide) dX3_survey_92 (fun H locs hP hD hS => ?_)
            have hP : va_P G vwCl [(o, .inr (3, fs_o)), (a_re, .inl (cI, 48, .inl (filC (reG (isES p1_zo p1_go) (wtD p1_zo p1_he p1_go p2_ki p2_pl st n) (hwD p1_zo p1_hd p2_ki p2_pl p2_mo st n)) re k3 (6 - k25)))), (a_bu, .inl (cI, 48, .inl (upd (filC (buG (isES p1_zo p1_go) (wtD p1_zo p1_he p1_go p2_ki p2_pl st n)) bu k3 (6 - k25)) ((8 * (5 - k25)) + k3) (buC (isES p1_zo p1_go) (wtD p1_zo p1_he p1_go p2_ki p2_pl st n) k3 k25)))), (p1, .inr (2, fs_p1)), (a_p1_zo, .inl (cI, 48, .inl p1_zo)), (a_p1_he, .inl (cI, 48, .inl p1_he)), (a_p1_go, .inl (cI, 48, .inl p1_go)), (a_p1_hd, .inl (cI, 6, .inl p1_hd)), (p2, .inr (5, fs_p2)), (a_p2_ki, .inl (cI, 8, .inl p2_ki)), (a_p2_pl, .inl (cI, 8, .inl p2_pl)), (a_p2_mo, .inl (cI, 8, .inl p2_mo))] H := hP
            have hD : va_D A [(o, .inr (3, fs_o)), (a_re, .inl (cI, 48, .inl (filC (reG (isES p1_zo p1_go) (wtD p1_zo p1_he p1_go p2_ki p2_pl st n) (hwD p1_zo p1_hd p2_ki p2_pl p2_mo st n)) re k3 (6 - k25)))), (a_bu, .inl (cI, 48, .inl (upd (filC (buG (isES p1_zo p1_go) (wtD p1_zo p1_he p1_go p2_ki p2_pl st n)) bu k3 (6 - k25)) ((8 * (5 - k25)) + k3) (buC (isES p1_zo p1_go) (wtD p1_zo p1_he p1_go p2_ki p2_pl st n) k3 k25)))), (p1, .inr (2, fs_p1)), (a_p1_zo, .inl (cI, 48, .inl p1_zo)), (a_p1_he, .inl (cI, 48, .inl p1_he)), (a_p1_go, .inl (cI, 48, .inl p1_go)), (a_p1_hd, .inl (cI, 6, .inl p1_hd)), (p2, .inr (5, fs_p2)), (a_p2_ki, .inl (cI, 8, .inl p2_ki)), (a_p2_pl, .inl (cI, 8, .inl p2_pl)), (a_p2_mo, .inl (cI, 8, .inl p2_mo))] := hD
            refine lv_aload_n hx hb dX3_survey_93 rfl (lv_at hl 4 rfl) ?_
            refine va_get (D := G) (ci := 3) (v := .ref a_re) (C := RX3) (T := TX3) (N := 11) hx hb hts inlX3 hown hK hP 0 rfl rfl 0 (by decide) (hts (.fieldLink RX3 9 "EarthBanks$Slides" "rests" "[I") k_4_13) (fun _ h9 => h9) h_o_re dX3_survey_94 ?_
            refine lv_iload hx hb dX3_survey_97 (lv_at hl 3 rfl) ?_
            refine lv_iload hx hb dX3_survey_99 (lv_at hl 0 rfl) ?_
            refine lv_if_ne (tgt := 108) hx hb dX3_survey_101 (by decide) (fun c_9 => ?_) (fun c_9 => ?_)
            · skip
              have c_9 : (isES p1_zo p1_go ((8 * (5 - k25)) + k3)) = true := bI_t c_9
              refine lv_iload hx hb dX3_survey_108 (lv_at hl 2 rfl) ?_
              refine lv_if_eq (tgt := 120) hx hb dX3_survey_110 (by decide) (fun c_10 => ?_) (fun c_10 => ?_)
              · skip
                refine lv_iload hx hb dX3_survey_120 (lv_at hl 1 rfl) ?_
                refine iastN (j := ((8 * (5 - k25)) + k3)) hx hb hK hP hD hS 1 0 rfl rfl (by omega) (by decide) dX3_survey_122 (fun H locs hP hD hS => ?_)
                have hP : va_P G vwCl [(o, .inr (3, fs_o)), (a_re, .inl (cI, 48, .inl (upd (filC (reG (isES p1_zo p1_go) (wtD p1_zo p1_he p1_go p2_ki p2_pl st n) (hwD p1_zo p1_hd p2_ki p2_pl p2_mo st n)) re k3 (6 - k25)) ((8 * (5 - k25)) + k3) ((holdS p1_zo p1_hd ((8 * (5 - k25)) + k3)) + (sumS (morT p2_ki p2_pl p2_mo st k3) n))))), (a_bu, .inl (cI, 48, .inl (upd (filC (buG (isES p1_zo p1_go) (wtD p1_zo p1_he p1_go p2_ki p2_pl st n)) bu k3 (6 - k25)) ((8 * (5 - k25)) + k3) (buC (isES p1_zo p1_go) (wtD p1_zo p1_he p1_go p2_ki p2_pl st n) k3 k25)))), (p1, .inr (2, fs_p1)), (a_p1_zo, .inl (cI, 48, .inl p1_zo)), (a_p1_he, .inl (cI, 48, .inl p1_he)), (a_p1_go, .inl (cI, 48, .inl p1_go)), (a_p1_hd, .inl (cI, 6, .inl p1_hd)), (p2, .inr (5, fs_p2)), (a_p2_ki, .inl (cI, 8, .inl p2_ki)), (a_p2_pl, .inl (cI, 8, .inl p2_pl)), (a_p2_mo, .inl (cI, 8, .inl p2_mo))] H := hP
                have hD : va_D A [(o, .inr (3, fs_o)), (a_re, .inl (cI, 48, .inl (upd (filC (reG (isES p1_zo p1_go) (wtD p1_zo p1_he p1_go p2_ki p2_pl st n) (hwD p1_zo p1_hd p2_ki p2_pl p2_mo st n)) re k3 (6 - k25)) ((8 * (5 - k25)) + k3) ((holdS p1_zo p1_hd ((8 * (5 - k25)) + k3)) + (sumS (morT p2_ki p2_pl p2_mo st k3) n))))), (a_bu, .inl (cI, 48, .inl (upd (filC (buG (isES p1_zo p1_go) (wtD p1_zo p1_he p1_go p2_ki p2_pl st n)) bu k3 (6 - k25)) ((8 * (5 - k25)) + k3) (buC (isES p1_zo p1_go) (wtD p1_zo p1_he p1_go p2_ki p2_pl st n) k3 k25)))), (p1, .inr (2, fs_p1)), (a_p1_zo, .inl (cI, 48, .inl p1_zo)), (a_p1_he, .inl (cI, 48, .inl p1_he)), (a_p1_go, .inl (cI, 48, .inl p1_go)), (a_p1_hd, .inl (cI, 6, .inl p1_hd)), (p2, .inr (5, fs_p2)), (a_p2_ki, .inl (cI, 8, .inl p2_ki)), (a_p2_pl, .inl (cI, 8, .inl p2_pl)), (a_p2_mo, .inl (cI, 8, .inl p2_mo))] := hD
                refine lv_iload hx hb dX3_survey_123 (lv_at hl 0 rfl) ?_
                refine lv_if_eq (tgt := 143) hx hb dX3_survey_125 (by decide) (fun c_11 => ?_) (fun c_11 => ?_)
                · skip
                  exact absurd (c_9.symm.trans (bI_f c_11)) (by decide)
                · skip
                  have c_11 : (isES p1_zo p1_go ((8 * (5 - k25)) + k3)) = true := bI_t c_11
                  refine lv_iload hx hb dX3_survey_128 (lv_at hl 10 rfl) ?_
                  refine lv_iload hx hb dX3_survey_130 (lv_at hl 2 rfl) ?_
                  refine lv_if_eq (tgt := 139) hx hb dX3_survey_132 (by decide) (fun c_12 => ?_) (fun c_12 => ?_)
                  · skip
                    refine lv_iconst (v := 1) hx hb dX3_survey_139 (by decide) ?_
                    refine lv_iadd hx hb dX3_survey_140 ?_
                    refine lv_istore (lv' := [(6, .int ((buC (isES p1_zo p1_go) (wtD p1_zo p1_he p1_go p2_ki p2_pl st n) k3 k25) + 1)), (11, .int (bI (isES p1_zo p1_go ((8 * (5 - k25)) + k3)))), (10, .int ((holdS p1_zo p1_hd ((8 * (5 - k25)) + k3)) + (sumS (morT p2_ki p2_pl p2_mo st k3) n))), (9, .int 0), (8, .int (nI ((8 * (5 - k25)) + k3))), (0, .ref o), (1, .ref p1), (2, .ref p2), (3, .int st), (4, .int (nI k3)), (5, .int (sumS (morT p2_ki p2_pl p2_mo st k3) n)), (7, .int (nI (5 - k25)))]) hx hb dX3_survey_141 hl (by decide) rfl (fun ls hl => ?_)
                    refine lv_iinc (v := pI (5 - k25)) (lv' := [(7, .int (pI (5 - k25))), (6, .int ((buC (isES p1_zo p1_go) (wtD p1_zo p1_he p1_go p2_ki p2_pl st n) k3 k25) + 1)), (11, .int (bI (isES p1_zo p1_go ((8 * (5 - k25)) + k3)))), (10, .int ((holdS p1_zo p1_hd ((8 * (5 - k25)) + k3)) + (sumS (morT p2_ki p2_pl p2_mo st k3) n))), (9, .int 0), (8, .int (nI ((8 * (5 - k25)) + k3))), (0, .ref o), (1, .ref p1), (2, .ref p2), (3, .int st), (4, .int (nI k3)), (5, .int (sumS (morT p2_ki p2_pl p2_mo st k3) n))]) hx hb dX3_survey_143 hl (k := 11) rfl (rfl) (by decide) rfl (fun ls hl => ?_)
                    refine lv_goto (tgt := 25) hx hb dX3_survey_146 (by decide) ?_
                    have el_13 : (((buC (isES p1_zo p1_go) (wtD p1_zo p1_he p1_go p2_ki p2_pl st n) k3 k25) + 1) : Int32) = buC (isES p1_zo p1_go) (wtD p1_zo p1_he p1_go p2_ki p2_pl st n) k3 (k25 + 1) := by simp [buC, wtD, c_2, c_7, c_8, c_9, c_10, c_11, c_12]
                    have el_14 : (pI (5 - k25) : Int32) = pI (6 - (k25 + 1)) := by congr 1; omega
                    have er_15 : (upd (filC (reG (isES p1_zo p1_go) (wtD p1_zo p1_he p1_go p2_ki p2_pl st n) (hwD p1_zo p1_hd p2_ki p2_pl p2_mo st n)) re k3 (6 - k25)) ((8 * (5 - k25)) + k3) ((holdS p1_zo p1_hd ((8 * (5 - k25)) + k3)) + (sumS (morT p2_ki p2_pl p2_mo st k3) n))) = (filC (reG (isES p1_zo p1_go) (wtD p1_zo p1_he p1_go p2_ki p2_pl st n) (hwD p1_zo p1_hd p2_ki p2_pl p2_mo st n)) re k3 (6 - (k25 + 1))) := filC_k (by omega) hk6 (by simp [reG, hwD, wtD, hmod, c_2, c_7, c_8, c_9, c_10, c_11, c_12])
                    have er_16 : (upd (filC (buG (isES p1_zo p1_go) (wtD p1_zo p1_he p1_go p2_ki p2_pl st n)) bu k3 (6 - k25)) ((8 * (5 - k25)) + k3) (buC (isES p1_zo p1_go) (wtD p1_zo p1_he p1_go p2_ki p2_pl st n) k3 k25)) = (filC (buG (isES p1_zo p1_go) (wtD p1_zo p1_he p1_go p2_ki p2_pl st n)) bu k3 (6 - (k25 + 1))) := filC_k (by omega) hk6 (by simp [buG, hmod, hdiv, hfiv])
                    exact ih25 (k25 + 1) (by omega) (by omega) (by omega)  H locs (by rw [← er_15, ← er_16]; exact hP) (by rw [← er_15, ← er_16]; exact hD) hS ls (lv_sub hl [6, 7, 8, 9, 10, 11, 1, 0] (show ([(0, .ref o), (1, .ref p1), (2, .ref p2), (3, .int st), (4, .int (nI k3)), (5, .int (sumS (morT p2_ki p2_pl p2_mo st k3) n)), (6, .int ((buC (isES p1_zo p1_go) (wtD p1_zo p1_he p1_go p2_ki p2_pl st n) k3 k25) + 1)), (7, .int (pI (5 - k25)))] : List (Nat × Value)) = [(0, .ref o), (1, .ref p1), (2, .ref p2), (3, .int st), (4, .int (nI k3)), (5, .int (sumS (morT p2_ki p2_pl p2_mo st k3) n)), (6, .int (buC (isES p1_zo p1_go) (wtD p1_zo p1_he p1_go p2_ki p2_pl st n) k3 (k25 + 1))), (7, .int (pI (6 - (k25 + 1))))] by rw [← el_13, ← el_14]))
                  · skip
                    exact absurd (by decide) c_12
              · skip
                exact absurd (by decide) c_10
            · skip
              have c_9 : (isES p1_zo p1_go ((8 * (5 - k25)) + k3)) = false := bI_f c_9
              refine lv_iconst (v := (-1)) hx hb dX3_survey_104 (by decide) ?_
              refine lv_goto (tgt := 122) hx hb dX3_survey_105 (by decide) ?_
              refine iastN (j := ((8 * (5 - k25)) + k3)) hx hb hK hP hD hS 1 0 rfl rfl (by omega) (by decide) dX3_survey_122 (fun H locs hP hD hS => ?_)
              have hP : va_P G vwCl [(o, .inr (3, fs_o)), (a_re, .inl (cI, 48, .inl (upd (filC (reG (isES p1_zo p1_go) (wtD p1_zo p1_he p1_go p2_ki p2_pl st n) (hwD p1_zo p1_hd p2_ki p2_pl p2_mo st n)) re k3 (6 - k25)) ((8 * (5 - k25)) + k3) (-1)))), (a_bu, .inl (cI, 48, .inl (upd (filC (buG (isES p1_zo p1_go) (wtD p1_zo p1_he p1_go p2_ki p2_pl st n)) bu k3 (6 - k25)) ((8 * (5 - k25)) + k3) (buC (isES p1_zo p1_go) (wtD p1_zo p1_he p1_go p2_ki p2_pl st n) k3 k25)))), (p1, .inr (2, fs_p1)), (a_p1_zo, .inl (cI, 48, .inl p1_zo)), (a_p1_he, .inl (cI, 48, .inl p1_he)), (a_p1_go, .inl (cI, 48, .inl p1_go)), (a_p1_hd, .inl (cI, 6, .inl p1_hd)), (p2, .inr (5, fs_p2)), (a_p2_ki, .inl (cI, 8, .inl p2_ki)), (a_p2_pl, .inl (cI, 8, .inl p2_pl)), (a_p2_mo, .inl (cI, 8, .inl p2_mo))] H := hP
              have hD : va_D A [(o, .inr (3, fs_o)), (a_re, .inl (cI, 48, .inl (upd (filC (reG (isES p1_zo p1_go) (wtD p1_zo p1_he p1_go p2_ki p2_pl st n) (hwD p1_zo p1_hd p2_ki p2_pl p2_mo st n)) re k3 (6 - k25)) ((8 * (5 - k25)) + k3) (-1)))), (a_bu, .inl (cI, 48, .inl (upd (filC (buG (isES p1_zo p1_go) (wtD p1_zo p1_he p1_go p2_ki p2_pl st n)) bu k3 (6 - k25)) ((8 * (5 - k25)) + k3) (buC (isES p1_zo p1_go) (wtD p1_zo p1_he p1_go p2_ki p2_pl st n) k3 k25)))), (p1, .inr (2, fs_p1)), (a_p1_zo, .inl (cI, 48, .inl p1_zo)), (a_p1_he, .inl (cI, 48, .inl p1_he)), (a_p1_go, .inl (cI, 48, .inl p1_go)), (a_p1_hd, .inl (cI, 6, .inl p1_hd)), (p2, .inr (5, fs_p2)), (a_p2_ki, .inl (cI, 8, .inl p2_ki)), (a_p2_pl, .inl (cI, 8, .inl p2_pl)), (a_p2_mo, .inl (cI, 8, .inl p2_mo))] := hD
              refine lv_iload hx hb dX3_survey_123 (lv_at hl 0 rfl) ?_
              refine lv_if_eq (tgt := 143) hx hb dX3_survey_125 (by decide) (fun c_17 => ?_) (fun c_17 => ?_)
              · skip
                have c_17 : (isES p1_zo p1_go ((8 * (5 - k25)) + k3)) = false := bI_f c_17
                refine lv_iinc (v := pI (5 - k25)) (lv' := [(7, .int (pI (5 - k25))), (11, .int (bI (isES p1_zo p1_go ((8 * (5 - k25)) + k3)))), (10, .int ((holdS p1_zo p1_hd ((8 * (5 - k25)) + k3)) + (sumS (morT p2_ki p2_pl p2_mo st k3) n))), (9, .int 0), (8, .int (nI ((8 * (5 - k25)) + k3))), (0, .ref o), (1, .ref p1), (2, .ref p2), (3, .int st), (4, .int (nI k3)), (5, .int (sumS (morT p2_ki p2_pl p2_mo st k3) n)), (6, .int (buC (isES p1_zo p1_go) (wtD p1_zo p1_he p1_go p2_ki p2_pl st n) k3 k25))]) hx hb dX3_survey_143 hl (k := 11) rfl (rfl) (by decide) rfl (fun ls hl => ?_)
                refine lv_goto (tgt := 25) hx hb dX3_survey_146 (by decide) ?_
                have el_18 : (buC (isES p1_zo p1_go) (wtD p1_zo p1_he p1_go p2_ki p2_pl st n) k3 k25 : Int32) = buC (isES p1_zo p1_go) (wtD p1_zo p1_he p1_go p2_ki p2_pl st n) k3 (k25 + 1) := by simp [buC, wtD, c_2, c_7, c_8, c_9, c_17]
                have el_19 : (pI (5 - k25) : Int32) = pI (6 - (k25 + 1)) := by congr 1; omega
                have er_20 : (upd (filC (reG (isES p1_zo p1_go) (wtD p1_zo p1_he p1_go p2_ki p2_pl st n) (hwD p1_zo p1_hd p2_ki p2_pl p2_mo st n)) re k3 (6 - k25)) ((8 * (5 - k25)) + k3) (-1)) = (filC (reG (isES p1_zo p1_go) (wtD p1_zo p1_he p1_go p2_ki p2_pl st n) (hwD p1_zo p1_hd p2_ki p2_pl p2_mo st n)) re k3 (6 - (k25 + 1))) := filC_k (by omega) hk6 (by simp [reG, hwD, wtD, hmod, c_2, c_7, c_8, c_9, c_17])
                have er_21 : (upd (filC (buG (isES p1_zo p1_go) (wtD p1_zo p1_he p1_go p2_ki p2_pl st n)) bu k3 (6 - k25)) ((8 * (5 - k25)) + k3) (buC (isES p1_zo p1_go) (wtD p1_zo p1_he p1_go p2_ki p2_pl st n) k3 k25)) = (filC (buG (isES p1_zo p1_go) (wtD p1_zo p1_he p1_go p2_ki p2_pl st n)) bu k3 (6 - (k25 + 1))) := filC_k (by omega) hk6 (by simp [buG, hmod, hdiv, hfiv])
                exact ih25 (k25 + 1) (by omega) (by omega) (by omega)  H locs (by rw [← er_20, ← er_21]; exact hP) (by rw [← er_20, ← er_21]; exact hD) hS ls (lv_sub hl [5, 6, 7, 8, 9, 10, 11, 0] (show ([(0, .ref o), (1, .ref p1), (2, .ref p2), (3, .int st), (4, .int (nI k3)), (5, .int (sumS (morT p2_ki p2_pl p2_mo st k3) n)), (6, .int (buC (isES p1_zo p1_go) (wtD p1_zo p1_he p1_go p2_ki p2_pl st n) k3 k25)), (7, .int (pI (5 - k25)))] : List (Nat × Value)) = [(0, .ref o), (1, .ref p1), (2, .ref p2), (3, .int st), (4, .int (nI k3)), (5, .int (sumS (morT p2_ki p2_pl p2_mo st k3) n)), (6, .int (buC (isES p1_zo p1_go) (wtD p1_zo p1_he p1_go p2_ki p2_pl st n) k3 (k25 + 1))), (7, .int (pI (6 - (k25 + 1))))] by rw [← el_18, ← el_19]))
              · skip
                exact absurd (c_9.symm.trans (bI_t c_17)) (by decide)
          · skip
            have c_8 : (wetS p1_zo p1_he p1_go ((8 * (5 - k25)) + k3)) = true := bI_t c_8
            refine lv_aload_n hx hb dX3_survey_48 rfl (lv_at hl 3 rfl) ?_
            refine lv_iload_n hx hb dX3_survey_49 rfl (lv_at hl 4 rfl) ?_
            refine lv_iload hx hb dX3_survey_50 (lv_at hl 0 rfl) ?_
            refine cRV (As := [.int st, .int (nI ((8 * (5 - k25)) + k3))]) (rest := []) hx hb hml hown hts (c_X5_isDrained l G E cI cZ n st ((8 * (5 - k25)) + k3) p2 a_p2_ki a_p2_pl fs_p2 h_p2_nw h_p2_ki h_p2_pl p2_ki p2_pl (hn)) k_25_11 cal_X5_isDrained ⟨Nat.le_of_ble_eq_true rfl, Nat.le_of_ble_eq_true rfl⟩ hE hlow hS hK [0, 1] rfl hP [8, 9, 10] rfl 8 5 rfl rfl rfl hl.1 rfl (Nat.le_of_ble_eq_true rfl) dX3_survey_52 ⟨Nat.zero_le _, Nat.zero_le _⟩ ?_
            refine lv_if_ne (tgt := 62) hx hb dX3_survey_55 (by decide) (fun c_22 => ?_) (fun c_22 => ?_)
            · skip
              have c_22 : (anyS (drnT p2_ki p2_pl st ((8 * (5 - k25)) + k3)) n) = true := bI_t c_22
              refine lv_iconst (v := 0) hx hb dX3_survey_62 (by decide) ?_
              refine lv_istore (lv' := [(9, .int 0), (8, .int (nI ((8 * (5 - k25)) + k3))), (0, .ref o), (1, .ref p1), (2, .ref p2), (3, .int st), (4, .int (nI k3)), (5, .int (sumS (morT p2_ki p2_pl p2_mo st k3) n)), (6, .int (buC (isES p1_zo p1_go) (wtD p1_zo p1_he p1_go p2_ki p2_pl st n) k3 k25)), (7, .int (nI (5 - k25)))]) hx hb dX3_survey_63 hl (by decide) rfl (fun ls hl => ?_)
              refine lv_aload_n hx hb dX3_survey_65 rfl (lv_at hl 3 rfl) ?_
              refine lv_iload hx hb dX3_survey_66 (lv_at hl 1 rfl) ?_
              refine cRV (As := [.int (nI ((8 * (5 - k25)) + k3))]) (rest := []) hx hb hml hown hts (c_X2_holdAt l G E cI cZ ((8 * (5 - k25)) + k3) p1 a_p1_zo a_p1_hd fs_p1 h_p1_zo h_p1_hd p1_zo p1_hd (by first | assumption | omega | simp [bI, c_2, c_7, c_8, c_22])) k_25_15 cal_X2_holdAt ⟨Nat.le_of_ble_eq_true rfl, Nat.le_of_ble_eq_true rfl⟩ hE hlow hS hK [0, 1] rfl hP [3, 4, 7] rfl 3 2 rfl rfl rfl hl.1 rfl (Nat.le_of_ble_eq_true rfl) dX3_survey_68 ⟨Nat.zero_le _, Nat.zero_le _⟩ ?_
              refine lv_iload hx hb dX3_survey_71 (lv_at hl 7 rfl) ?_
              refine lv_iadd hx hb dX3_survey_73 ?_
              refine lv_istore (lv' := [(10, .int ((holdS p1_zo p1_hd ((8 * (5 - k25)) + k3)) + (sumS (morT p2_ki p2_pl p2_mo st k3) n))), (9, .int 0), (8, .int (nI ((8 * (5 - k25)) + k3))), (0, .ref o), (1, .ref p1), (2, .ref p2), (3, .int st), (4, .int (nI k3)), (5, .int (sumS (morT p2_ki p2_pl p2_mo st k3) n)), (6, .int (buC (isES p1_zo p1_go) (wtD p1_zo p1_he p1_go p2_ki p2_pl st n) k3 k25)), (7, .int (nI (5 - k25)))]) hx hb dX3_survey_74 hl (by decide) rfl (fun ls hl => ?_)
              refine lv_aload_n hx hb dX3_survey_76 rfl (lv_at hl 4 rfl) ?_
              refine lv_iload hx hb dX3_survey_77 (lv_at hl 2 rfl) ?_
              refine cRV (As := [.int (nI ((8 * (5 - k25)) + k3))]) (rest := []) hx hb hml hown hts (c_X2_isEarth l G E cI cZ ((8 * (5 - k25)) + k3) p1 a_p1_zo a_p1_go fs_p1 h_p1_zo h_p1_go p1_zo p1_go (by first | assumption | omega | simp [bI, c_2, c_7, c_8, c_22])) k_25_16 cal_X2_isEarth ⟨Nat.le_of_ble_eq_true rfl, Nat.le_of_ble_eq_true rfl⟩ hE hlow hS hK [0, 1] rfl hP [3, 4, 6] rfl 3 2 rfl rfl rfl hl.1 rfl (Nat.le_of_ble_eq_true rfl) dX3_survey_79 ⟨Nat.zero_le _, Nat.zero_le _⟩ ?_
              refine lv_istore (lv' := [(11, .int (bI (isES p1_zo p1_go ((8 * (5 - k25)) + k3)))), (10, .int ((holdS p1_zo p1_hd ((8 * (5 - k25)) + k3)) + (sumS (morT p2_ki p2_pl p2_mo st k3) n))), (9, .int 0), (8, .int (nI ((8 * (5 - k25)) + k3))), (0, .ref o), (1, .ref p1), (2, .ref p2), (3, .int st), (4, .int (nI k3)), (5, .int (sumS (morT p2_ki p2_pl p2_mo st k3) n)), (6, .int (buC (isES p1_zo p1_go) (wtD p1_zo p1_he p1_go p2_ki p2_pl st n) k3 k25)), (7, .int (nI (5 - k25)))]) hx hb dX3_survey_82 hl (by decide) rfl (fun ls hl => ?_)
              refine lv_aload_n hx hb dX3_survey_84 rfl (lv_at hl 4 rfl) ?_
              refine va_get (D := G) (ci := 3) (v := .ref a_bu) (C := RX3) (T := TX3) (N := 11) hx hb hts inlX3 hown hK hP 0 rfl rfl 1 (by decide) (hts (.fieldLink RX3 15 "EarthBanks$Slides" "burdens" "[I") k_4_14) (fun _ h9 => h9) h_o_bu dX3_survey_85 ?_
              refine lv_iload hx hb dX3_survey_88 (lv_at hl 3 rfl) ?_
              refine lv_iload hx hb dX3_survey_90 (lv_at hl 10 rfl) ?_
              refine iastN (j := ((8 * (5 - k25)) + k3)) hx hb hK hP hD hS 2 0 rfl rfl (by omega) (by decide) dX3_survey_92 (fun H locs hP hD hS => ?_)
              have hP : va_P G vwCl [(o, .inr (3, fs_o)), (a_re, .inl (cI, 48, .inl (filC (reG (isES p1_zo p1_go) (wtD p1_zo p1_he p1_go p2_ki p2_pl st n) (hwD p1_zo p1_hd p2_ki p2_pl p2_mo st n)) re k3 (6 - k25)))), (a_bu, .inl (cI, 48, .inl (upd (filC (buG (isES p1_zo p1_go) (wtD p1_zo p1_he p1_go p2_ki p2_pl st n)) bu k3 (6 - k25)) ((8 * (5 - k25)) + k3) (buC (isES p1_zo p1_go) (wtD p1_zo p1_he p1_go p2_ki p2_pl st n) k3 k25)))), (p1, .inr (2, fs_p1)), (a_p1_zo, .inl (cI, 48, .inl p1_zo)), (a_p1_he, .inl (cI, 48, .inl p1_he)), (a_p1_go, .inl (cI, 48, .inl p1_go)), (a_p1_hd, .inl (cI, 6, .inl p1_hd)), (p2, .inr (5, fs_p2)), (a_p2_ki, .inl (cI, 8, .inl p2_ki)), (a_p2_pl, .inl (cI, 8, .inl p2_pl)), (a_p2_mo, .inl (cI, 8, .inl p2_mo))] H := hP
              have hD : va_D A [(o, .inr (3, fs_o)), (a_re, .inl (cI, 48, .inl (filC (reG (isES p1_zo p1_go) (wtD p1_zo p1_he p1_go p2_ki p2_pl st n) (hwD p1_zo p1_hd p2_ki p2_pl p2_mo st n)) re k3 (6 - k25)))), (a_bu, .inl (cI, 48, .inl (upd (filC (buG (isES p1_zo p1_go) (wtD p1_zo p1_he p1_go p2_ki p2_pl st n)) bu k3 (6 - k25)) ((8 * (5 - k25)) + k3) (buC (isES p1_zo p1_go) (wtD p1_zo p1_he p1_go p2_ki p2_pl st n) k3 k25)))), (p1, .inr (2, fs_p1)), (a_p1_zo, .inl (cI, 48, .inl p1_zo)), (a_p1_he, .inl (cI, 48, .inl p1_he)), (a_p1_go, .inl (cI, 48, .inl p1_go)), (a_p1_hd, .inl (cI, 6, .inl p1_hd)), (p2, .inr (5, fs_p2)), (a_p2_ki, .inl (cI, 8, .inl p2_ki)), (a_p2_pl, .inl (cI, 8, .inl p2_pl)), (a_p2_mo, .inl (cI, 8, .inl p2_mo))] := hD
              refine lv_aload_n hx hb dX3_survey_93 rfl (lv_at hl 4 rfl) ?_
              refine va_get (D := G) (ci := 3) (v := .ref a_re) (C := RX3) (T := TX3) (N := 11) hx hb hts inlX3 hown hK hP 0 rfl rfl 0 (by decide) (hts (.fieldLink RX3 9 "EarthBanks$Slides" "rests" "[I") k_4_13) (fun _ h9 => h9) h_o_re dX3_survey_94 ?_
              refine lv_iload hx hb dX3_survey_97 (lv_at hl 3 rfl) ?_
              refine lv_iload hx hb dX3_survey_99 (lv_at hl 0 rfl) ?_
              refine lv_if_ne (tgt := 108) hx hb dX3_survey_101 (by decide) (fun c_23 => ?_) (fun c_23 => ?_)
              · skip
                have c_23 : (isES p1_zo p1_go ((8 * (5 - k25)) + k3)) = true := bI_t c_23
                refine lv_iload hx hb dX3_survey_108 (lv_at hl 2 rfl) ?_
                refine lv_if_eq (tgt := 120) hx hb dX3_survey_110 (by decide) (fun c_24 => ?_) (fun c_24 => ?_)
                · skip
                  refine lv_iload hx hb dX3_survey_120 (lv_at hl 1 rfl) ?_
                  refine iastN (j := ((8 * (5 - k25)) + k3)) hx hb hK hP hD hS 1 0 rfl rfl (by omega) (by decide) dX3_survey_122 (fun H locs hP hD hS => ?_)
                  have hP : va_P G vwCl [(o, .inr (3, fs_o)), (a_re, .inl (cI, 48, .inl (upd (filC (reG (isES p1_zo p1_go) (wtD p1_zo p1_he p1_go p2_ki p2_pl st n) (hwD p1_zo p1_hd p2_ki p2_pl p2_mo st n)) re k3 (6 - k25)) ((8 * (5 - k25)) + k3) ((holdS p1_zo p1_hd ((8 * (5 - k25)) + k3)) + (sumS (morT p2_ki p2_pl p2_mo st k3) n))))), (a_bu, .inl (cI, 48, .inl (upd (filC (buG (isES p1_zo p1_go) (wtD p1_zo p1_he p1_go p2_ki p2_pl st n)) bu k3 (6 - k25)) ((8 * (5 - k25)) + k3) (buC (isES p1_zo p1_go) (wtD p1_zo p1_he p1_go p2_ki p2_pl st n) k3 k25)))), (p1, .inr (2, fs_p1)), (a_p1_zo, .inl (cI, 48, .inl p1_zo)), (a_p1_he, .inl (cI, 48, .inl p1_he)), (a_p1_go, .inl (cI, 48, .inl p1_go)), (a_p1_hd, .inl (cI, 6, .inl p1_hd)), (p2, .inr (5, fs_p2)), (a_p2_ki, .inl (cI, 8, .inl p2_ki)), (a_p2_pl, .inl (cI, 8, .inl p2_pl)), (a_p2_mo, .inl (cI, 8, .inl p2_mo))] H := hP
                  have hD : va_D A [(o, .inr (3, fs_o)), (a_re, .inl (cI, 48, .inl (upd (filC (reG (isES p1_zo p1_go) (wtD p1_zo p1_he p1_go p2_ki p2_pl st n) (hwD p1_zo p1_hd p2_ki p2_pl p2_mo st n)) re k3 (6 - k25)) ((8 * (5 - k25)) + k3) ((holdS p1_zo p1_hd ((8 * (5 - k25)) + k3)) + (sumS (morT p2_ki p2_pl p2_mo st k3) n))))), (a_bu, .inl (cI, 48, .inl (upd (filC (buG (isES p1_zo p1_go) (wtD p1_zo p1_he p1_go p2_ki p2_pl st n)) bu k3 (6 - k25)) ((8 * (5 - k25)) + k3) (buC (isES p1_zo p1_go) (wtD p1_zo p1_he p1_go p2_ki p2_pl st n) k3 k25)))), (p1, .inr (2, fs_p1)), (a_p1_zo, .inl (cI, 48, .inl p1_zo)), (a_p1_he, .inl (cI, 48, .inl p1_he)), (a_p1_go, .inl (cI, 48, .inl p1_go)), (a_p1_hd, .inl (cI, 6, .inl p1_hd)), (p2, .inr (5, fs_p2)), (a_p2_ki, .inl (cI, 8, .inl p2_ki)), (a_p2_pl, .inl (cI, 8, .inl p2_pl)), (a_p2_mo, .inl (cI, 8, .inl p2_mo))] := hD
                  refine lv_iload hx hb dX3_survey_123 (lv_at hl 0 rfl) ?_
                  refine lv_if_eq (tgt := 143) hx hb dX3_survey_125 (by decide) (fun c_25 => ?_) (fun c_25 => ?_)
                  · skip
                    exact absurd (c_23.symm.trans (bI_f c_25)) (by decide)
                  · skip
                    have c_25 : (isES p1_zo p1_go ((8 * (5 - k25)) + k3)) = true := bI_t c_25
                    refine lv_iload hx hb dX3_survey_128 (lv_at hl 10 rfl) ?_
                    refine lv_iload hx hb dX3_survey_130 (lv_at hl 2 rfl) ?_
                    refine lv_if_eq (tgt := 139) hx hb dX3_survey_132 (by decide) (fun c_26 => ?_) (fun c_26 => ?_)
                    · skip
                      refine lv_iconst (v := 1) hx hb dX3_survey_139 (by decide) ?_
                      refine lv_iadd hx hb dX3_survey_140 ?_
                      refine lv_istore (lv' := [(6, .int ((buC (isES p1_zo p1_go) (wtD p1_zo p1_he p1_go p2_ki p2_pl st n) k3 k25) + 1)), (11, .int (bI (isES p1_zo p1_go ((8 * (5 - k25)) + k3)))), (10, .int ((holdS p1_zo p1_hd ((8 * (5 - k25)) + k3)) + (sumS (morT p2_ki p2_pl p2_mo st k3) n))), (9, .int 0), (8, .int (nI ((8 * (5 - k25)) + k3))), (0, .ref o), (1, .ref p1), (2, .ref p2), (3, .int st), (4, .int (nI k3)), (5, .int (sumS (morT p2_ki p2_pl p2_mo st k3) n)), (7, .int (nI (5 - k25)))]) hx hb dX3_survey_141 hl (by decide) rfl (fun ls hl => ?_)
                      refine lv_iinc (v := pI (5 - k25)) (lv' := [(7, .int (pI (5 - k25))), (6, .int ((buC (isES p1_zo p1_go) (wtD p1_zo p1_he p1_go p2_ki p2_pl st n) k3 k25) + 1)), (11, .int (bI (isES p1_zo p1_go ((8 * (5 - k25)) + k3)))), (10, .int ((holdS p1_zo p1_hd ((8 * (5 - k25)) + k3)) + (sumS (morT p2_ki p2_pl p2_mo st k3) n))), (9, .int 0), (8, .int (nI ((8 * (5 - k25)) + k3))), (0, .ref o), (1, .ref p1), (2, .ref p2), (3, .int st), (4, .int (nI k3)), (5, .int (sumS (morT p2_ki p2_pl p2_mo st k3) n))]) hx hb dX3_survey_143 hl (k := 11) rfl (rfl) (by decide) rfl (fun ls hl => ?_)
                      refine lv_goto (tgt := 25) hx hb dX3_survey_146 (by decide) ?_
                      have el_27 : (((buC (isES p1_zo p1_go) (wtD p1_zo p1_he p1_go p2_ki p2_pl st n) k3 k25) + 1) : Int32) = buC (isES p1_zo p1_go) (wtD p1_zo p1_he p1_go p2_ki p2_pl st n) k3 (k25 + 1) := by simp [buC, wtD, c_2, c_7, c_8, c_22, c_23, c_24, c_25, c_26]
                      have el_28 : (pI (5 - k25) : Int32) = pI (6 - (k25 + 1)) := by congr 1; omega
                      have er_29 : (upd (filC (reG (isES p1_zo p1_go) (wtD p1_zo p1_he p1_go p2_ki p2_pl st n) (hwD p1_zo p1_hd p2_ki p2_pl p2_mo st n)) re k3 (6 - k25)) ((8 * (5 - k25)) + k3) ((holdS p1_zo p1_hd ((8 * (5 - k25)) + k3)) + (sumS (morT p2_ki p2_pl p2_mo st k3) n))) = (filC (reG (isES p1_zo p1_go) (wtD p1_zo p1_he p1_go p2_ki p2_pl st n) (hwD p1_zo p1_hd p2_ki p2_pl p2_mo st n)) re k3 (6 - (k25 + 1))) := filC_k (by omega) hk6 (by simp [reG, hwD, wtD, hmod, c_2, c_7, c_8, c_22, c_23, c_24, c_25, c_26])
                      have er_30 : (upd (filC (buG (isES p1_zo p1_go) (wtD p1_zo p1_he p1_go p2_ki p2_pl st n)) bu k3 (6 - k25)) ((8 * (5 - k25)) + k3) (buC (isES p1_zo p1_go) (wtD p1_zo p1_he p1_go p2_ki p2_pl st n) k3 k25)) = (filC (buG (isES p1_zo p1_go) (wtD p1_zo p1_he p1_go p2_ki p2_pl st n)) bu k3 (6 - (k25 + 1))) := filC_k (by omega) hk6 (by simp [buG, hmod, hdiv, hfiv])
                      exact ih25 (k25 + 1) (by omega) (by omega) (by omega)  H locs (by rw [← er_29, ← er_30]; exact hP) (by rw [← er_29, ← er_30]; exact hD) hS ls (lv_sub hl [6, 7, 8, 9, 10, 11, 1, 0] (show ([(0, .ref o), (1, .ref p1), (2, .ref p2), (3, .int st), (4, .int (nI k3)), (5, .int (sumS (morT p2_ki p2_pl p2_mo st k3) n)), (6, .int ((buC (isES p1_zo p1_go) (wtD p1_zo p1_he p1_go p2_ki p2_pl st n) k3 k25) + 1)), (7, .int (pI (5 - k25)))] : List (Nat × Value)) = [(0, .ref o), (1, .ref p1), (2, .ref p2), (3, .int st), (4, .int (nI k3)), (5, .int (sumS (morT p2_ki p2_pl p2_mo st k3) n)), (6, .int (buC (isES p1_zo p1_go) (wtD p1_zo p1_he p1_go p2_ki p2_pl st n) k3 (k25 + 1))), (7, .int (pI (6 - (k25 + 1))))] by rw [← el_27, ← el_28]))
                    · skip
                      exact absurd (by decide) c_26
                · skip
                  exact absurd (by decide) c_24
              · skip
                have c_23 : (isES p1_zo p1_go ((8 * (5 - k25)) + k3)) = false := bI_f c_23
                refine lv_iconst (v := (-1)) hx hb dX3_survey_104 (by decide) ?_
                refine lv_goto (tgt := 122) hx hb dX3_survey_105 (by decide) ?_
                refine iastN (j := ((8 * (5 - k25)) + k3)) hx hb hK hP hD hS 1 0 rfl rfl (by omega) (by decide) dX3_survey_122 (fun H locs hP hD hS => ?_)
                have hP : va_P G vwCl [(o, .inr (3, fs_o)), (a_re, .inl (cI, 48, .inl (upd (filC (reG (isES p1_zo p1_go) (wtD p1_zo p1_he p1_go p2_ki p2_pl st n) (hwD p1_zo p1_hd p2_ki p2_pl p2_mo st n)) re k3 (6 - k25)) ((8 * (5 - k25)) + k3) (-1)))), (a_bu, .inl (cI, 48, .inl (upd (filC (buG (isES p1_zo p1_go) (wtD p1_zo p1_he p1_go p2_ki p2_pl st n)) bu k3 (6 - k25)) ((8 * (5 - k25)) + k3) (buC (isES p1_zo p1_go) (wtD p1_zo p1_he p1_go p2_ki p2_pl st n) k3 k25)))), (p1, .inr (2, fs_p1)), (a_p1_zo, .inl (cI, 48, .inl p1_zo)), (a_p1_he, .inl (cI, 48, .inl p1_he)), (a_p1_go, .inl (cI, 48, .inl p1_go)), (a_p1_hd, .inl (cI, 6, .inl p1_hd)), (p2, .inr (5, fs_p2)), (a_p2_ki, .inl (cI, 8, .inl p2_ki)), (a_p2_pl, .inl (cI, 8, .inl p2_pl)), (a_p2_mo, .inl (cI, 8, .inl p2_mo))] H := hP
                have hD : va_D A [(o, .inr (3, fs_o)), (a_re, .inl (cI, 48, .inl (upd (filC (reG (isES p1_zo p1_go) (wtD p1_zo p1_he p1_go p2_ki p2_pl st n) (hwD p1_zo p1_hd p2_ki p2_pl p2_mo st n)) re k3 (6 - k25)) ((8 * (5 - k25)) + k3) (-1)))), (a_bu, .inl (cI, 48, .inl (upd (filC (buG (isES p1_zo p1_go) (wtD p1_zo p1_he p1_go p2_ki p2_pl st n)) bu k3 (6 - k25)) ((8 * (5 - k25)) + k3) (buC (isES p1_zo p1_go) (wtD p1_zo p1_he p1_go p2_ki p2_pl st n) k3 k25)))), (p1, .inr (2, fs_p1)), (a_p1_zo, .inl (cI, 48, .inl p1_zo)), (a_p1_he, .inl (cI, 48, .inl p1_he)), (a_p1_go, .inl (cI, 48, .inl p1_go)), (a_p1_hd, .inl (cI, 6, .inl p1_hd)), (p2, .inr (5, fs_p2)), (a_p2_ki, .inl (cI, 8, .inl p2_ki)), (a_p2_pl, .inl (cI, 8, .inl p2_pl)), (a_p2_mo, .inl (cI, 8, .inl p2_mo))] := hD
                refine lv_iload hx hb dX3_survey_123 (lv_at hl 0 rfl) ?_
                refine lv_if_eq (tgt := 143) hx hb dX3_survey_125 (by decide) (fun c_31 => ?_) (fun c_31 => ?_)
                · skip
                  have c_31 : (isES p1_zo p1_go ((8 * (5 - k25)) + k3)) = false := bI_f c_31
                  refine lv_iinc (v := pI (5 - k25)) (lv' := [(7, .int (pI (5 - k25))), (11, .int (bI (isES p1_zo p1_go ((8 * (5 - k25)) + k3)))), (10, .int ((holdS p1_zo p1_hd ((8 * (5 - k25)) + k3)) + (sumS (morT p2_ki p2_pl p2_mo st k3) n))), (9, .int 0), (8, .int (nI ((8 * (5 - k25)) + k3))), (0, .ref o), (1, .ref p1), (2, .ref p2), (3, .int st), (4, .int (nI k3)), (5, .int (sumS (morT p2_ki p2_pl p2_mo st k3) n)), (6, .int (buC (isES p1_zo p1_go) (wtD p1_zo p1_he p1_go p2_ki p2_pl st n) k3 k25))]) hx hb dX3_survey_143 hl (k := 11) rfl (rfl) (by decide) rfl (fun ls hl => ?_)
                  refine lv_goto (tgt := 25) hx hb dX3_survey_146 (by decide) ?_
                  have el_32 : (buC (isES p1_zo p1_go) (wtD p1_zo p1_he p1_go p2_ki p2_pl st n) k3 k25 : Int32) = buC (isES p1_zo p1_go) (wtD p1_zo p1_he p1_go p2_ki p2_pl st n) k3 (k25 + 1) := by simp [buC, wtD, c_2, c_7, c_8, c_22, c_23, c_31]
                  have el_33 : (pI (5 - k25) : Int32) = pI (6 - (k25 + 1)) := by congr 1; omega
                  have er_34 : (upd (filC (reG (isES p1_zo p1_go) (wtD p1_zo p1_he p1_go p2_ki p2_pl st n) (hwD p1_zo p1_hd p2_ki p2_pl p2_mo st n)) re k3 (6 - k25)) ((8 * (5 - k25)) + k3) (-1)) = (filC (reG (isES p1_zo p1_go) (wtD p1_zo p1_he p1_go p2_ki p2_pl st n) (hwD p1_zo p1_hd p2_ki p2_pl p2_mo st n)) re k3 (6 - (k25 + 1))) := filC_k (by omega) hk6 (by simp [reG, hwD, wtD, hmod, c_2, c_7, c_8, c_22, c_23, c_31])
                  have er_35 : (upd (filC (buG (isES p1_zo p1_go) (wtD p1_zo p1_he p1_go p2_ki p2_pl st n)) bu k3 (6 - k25)) ((8 * (5 - k25)) + k3) (buC (isES p1_zo p1_go) (wtD p1_zo p1_he p1_go p2_ki p2_pl st n) k3 k25)) = (filC (buG (isES p1_zo p1_go) (wtD p1_zo p1_he p1_go p2_ki p2_pl st n)) bu k3 (6 - (k25 + 1))) := filC_k (by omega) hk6 (by simp [buG, hmod, hdiv, hfiv])
                  exact ih25 (k25 + 1) (by omega) (by omega) (by omega)  H locs (by rw [← er_34, ← er_35]; exact hP) (by rw [← er_34, ← er_35]; exact hD) hS ls (lv_sub hl [5, 6, 7, 8, 9, 10, 11, 0] (show ([(0, .ref o), (1, .ref p1), (2, .ref p2), (3, .int st), (4, .int (nI k3)), (5, .int (sumS (morT p2_ki p2_pl p2_mo st k3) n)), (6, .int (buC (isES p1_zo p1_go) (wtD p1_zo p1_he p1_go p2_ki p2_pl st n) k3 k25)), (7, .int (pI (5 - k25)))] : List (Nat × Value)) = [(0, .ref o), (1, .ref p1), (2, .ref p2), (3, .int st), (4, .int (nI k3)), (5, .int (sumS (morT p2_ki p2_pl p2_mo st k3) n)), (6, .int (buC (isES p1_zo p1_go) (wtD p1_zo p1_he p1_go p2_ki p2_pl st n) k3 (k25 + 1))), (7, .int (pI (6 - (k25 + 1))))] by rw [← el_32, ← el_33]))
                · skip
                  exact absurd (c_23.symm.trans (bI_t c_31)) (by decide)
            · skip
              have c_22 : (anyS (drnT p2_ki p2_pl st ((8 * (5 - k25)) + k3)) n) = false := bI_f c_22
              refine lv_iconst (v := 1) hx hb dX3_survey_58 (by decide) ?_
              refine lv_goto (tgt := 63) hx hb dX3_survey_59 (by decide) ?_
              refine lv_istore (lv' := [(9, .int 1), (8, .int (nI ((8 * (5 - k25)) + k3))), (0, .ref o), (1, .ref p1), (2, .ref p2), (3, .int st), (4, .int (nI k3)), (5, .int (sumS (morT p2_ki p2_pl p2_mo st k3) n)), (6, .int (buC (isES p1_zo p1_go) (wtD p1_zo p1_he p1_go p2_ki p2_pl st n) k3 k25)), (7, .int (nI (5 - k25)))]) hx hb dX3_survey_63 hl (by decide) rfl (fun ls hl => ?_)
              refine lv_aload_n hx hb dX3_survey_65 rfl (lv_at hl 3 rfl) ?_
              refine lv_iload hx hb dX3_survey_66 (lv_at hl 1 rfl) ?_
              refine cRV (As := [.int (nI ((8 * (5 - k25)) + k3))]) (rest := []) hx hb hml hown hts (c_X2_holdAt l G E cI cZ ((8 * (5 - k25)) + k3) p1 a_p1_zo a_p1_hd fs_p1 h_p1_zo h_p1_hd p1_zo p1_hd (by first | assumption | omega | simp [bI, c_2, c_7, c_8, c_22])) k_25_15 cal_X2_holdAt ⟨Nat.le_of_ble_eq_true rfl, Nat.le_of_ble_eq_true rfl⟩ hE hlow hS hK [0, 1] rfl hP [3, 4, 7] rfl 3 2 rfl rfl rfl hl.1 rfl (Nat.le_of_ble_eq_true rfl) dX3_survey_68 ⟨Nat.zero_le _, Nat.zero_le _⟩ ?_
              refine lv_iload hx hb dX3_survey_71 (lv_at hl 7 rfl) ?_
              refine lv_iadd hx hb dX3_survey_73 ?_
              refine lv_istore (lv' := [(10, .int ((holdS p1_zo p1_hd ((8 * (5 - k25)) + k3)) + (sumS (morT p2_ki p2_pl p2_mo st k3) n))), (9, .int 1), (8, .int (nI ((8 * (5 - k25)) + k3))), (0, .ref o), (1, .ref p1), (2, .ref p2), (3, .int st), (4, .int (nI k3)), (5, .int (sumS (morT p2_ki p2_pl p2_mo st k3) n)), (6, .int (buC (isES p1_zo p1_go) (wtD p1_zo p1_he p1_go p2_ki p2_pl st n) k3 k25)), (7, .int (nI (5 - k25)))]) hx hb dX3_survey_74 hl (by decide) rfl (fun ls hl => ?_)
              refine lv_aload_n hx hb dX3_survey_76 rfl (lv_at hl 4 rfl) ?_
              refine lv_iload hx hb dX3_survey_77 (lv_at hl 2 rfl) ?_
              refine cRV (As := [.int (nI ((8 * (5 - k25)) + k3))]) (rest := []) hx hb hml hown hts (c_X2_isEarth l G E cI cZ ((8 * (5 - k25)) + k3) p1 a_p1_zo a_p1_go fs_p1 h_p1_zo h_p1_go p1_zo p1_go (by first | assumption | omega | simp [bI, c_2, c_7, c_8, c_22])) k_25_16 cal_X2_isEarth ⟨Nat.le_of_ble_eq_true rfl, Nat.le_of_ble_eq_true rfl⟩ hE hlow hS hK [0, 1] rfl hP [3, 4, 6] rfl 3 2 rfl rfl rfl hl.1 rfl (Nat.le_of_ble_eq_true rfl) dX3_survey_79 ⟨Nat.zero_le _, Nat.zero_le _⟩ ?_
              refine lv_istore (lv' := [(11, .int (bI (isES p1_zo p1_go ((8 * (5 - k25)) + k3)))), (10, .int ((holdS p1_zo p1_hd ((8 * (5 - k25)) + k3)) + (sumS (morT p2_ki p2_pl p2_mo st k3) n))), (9, .int 1), (8, .int (nI ((8 * (5 - k25)) + k3))), (0, .ref o), (1, .ref p1), (2, .ref p2), (3, .int st), (4, .int (nI k3)), (5, .int (sumS (morT p2_ki p2_pl p2_mo st k3) n)), (6, .int (buC (isES p1_zo p1_go) (wtD p1_zo p1_he p1_go p2_ki p2_pl st n) k3 k25)), (7, .int (nI (5 - k25)))]) hx hb dX3_survey_82 hl (by decide) rfl (fun ls hl => ?_)
              refine lv_aload_n hx hb dX3_survey_84 rfl (lv_at hl 4 rfl) ?_
              refine va_get (D := G) (ci := 3) (v := .ref a_bu) (C := RX3) (T := TX3) (N := 11) hx hb hts inlX3 hown hK hP 0 rfl rfl 1 (by decide) (hts (.fieldLink RX3 15 "EarthBanks$Slides" "burdens" "[I") k_4_14) (fun _ h9 => h9) h_o_bu dX3_survey_85 ?_
              refine lv_iload hx hb dX3_survey_88 (lv_at hl 3 rfl) ?_
              refine lv_iload hx hb dX3_survey_90 (lv_at hl 10 rfl) ?_
              refine iastN (j := ((8 * (5 - k25)) + k3)) hx hb hK hP hD hS 2 0 rfl rfl (by omega) (by decide) dX3_survey_92 (fun H locs hP hD hS => ?_)
              have hP : va_P G vwCl [(o, .inr (3, fs_o)), (a_re, .inl (cI, 48, .inl (filC (reG (isES p1_zo p1_go) (wtD p1_zo p1_he p1_go p2_ki p2_pl st n) (hwD p1_zo p1_hd p2_ki p2_pl p2_mo st n)) re k3 (6 - k25)))), (a_bu, .inl (cI, 48, .inl (upd (filC (buG (isES p1_zo p1_go) (wtD p1_zo p1_he p1_go p2_ki p2_pl st n)) bu k3 (6 - k25)) ((8 * (5 - k25)) + k3) (buC (isES p1_zo p1_go) (wtD p1_zo p1_he p1_go p2_ki p2_pl st n) k3 k25)))), (p1, .inr (2, fs_p1)), (a_p1_zo, .inl (cI, 48, .inl p1_zo)), (a_p1_he, .inl (cI, 48, .inl p1_he)), (a_p1_go, .inl (cI, 48, .inl p1_go)), (a_p1_hd, .inl (cI, 6, .inl p1_hd)), (p2, .inr (5, fs_p2)), (a_p2_ki, .inl (cI, 8, .inl p2_ki)), (a_p2_pl, .inl (cI, 8, .inl p2_pl)), (a_p2_mo, .inl (cI, 8, .inl p2_mo))] H := hP
              have hD : va_D A [(o, .inr (3, fs_o)), (a_re, .inl (cI, 48, .inl (filC (reG (isES p1_zo p1_go) (wtD p1_zo p1_he p1_go p2_ki p2_pl st n) (hwD p1_zo p1_hd p2_ki p2_pl p2_mo st n)) re k3 (6 - k25)))), (a_bu, .inl (cI, 48, .inl (upd (filC (buG (isES p1_zo p1_go) (wtD p1_zo p1_he p1_go p2_ki p2_pl st n)) bu k3 (6 - k25)) ((8 * (5 - k25)) + k3) (buC (isES p1_zo p1_go) (wtD p1_zo p1_he p1_go p2_ki p2_pl st n) k3 k25)))), (p1, .inr (2, fs_p1)), (a_p1_zo, .inl (cI, 48, .inl p1_zo)), (a_p1_he, .inl (cI, 48, .inl p1_he)), (a_p1_go, .inl (cI, 48, .inl p1_go)), (a_p1_hd, .inl (cI, 6, .inl p1_hd)), (p2, .inr (5, fs_p2)), (a_p2_ki, .inl (cI, 8, .inl p2_ki)), (a_p2_pl, .inl (cI, 8, .inl p2_pl)), (a_p2_mo, .inl (cI, 8, .inl p2_mo))] := hD
              refine lv_aload_n hx hb dX3_survey_93 rfl (lv_at hl 4 rfl) ?_
              refine va_get (D := G) (ci := 3) (v := .ref a_re) (C := RX3) (T := TX3) (N := 11) hx hb hts inlX3 hown hK hP 0 rfl rfl 0 (by decide) (hts (.fieldLink RX3 9 "EarthBanks$Slides" "rests" "[I") k_4_13) (fun _ h9 => h9) h_o_re dX3_survey_94 ?_
              refine lv_iload hx hb dX3_survey_97 (lv_at hl 3 rfl) ?_
              refine lv_iload hx hb dX3_survey_99 (lv_at hl 0 rfl) ?_
              refine lv_if_ne (tgt := 108) hx hb dX3_survey_101 (by decide) (fun c_36 => ?_) (fun c_36 => ?_)
              · skip
                have c_36 : (isES p1_zo p1_go ((8 * (5 - k25)) + k3)) = true := bI_t c_36
                refine lv_iload hx hb dX3_survey_108 (lv_at hl 2 rfl) ?_
                refine lv_if_eq (tgt := 120) hx hb dX3_survey_110 (by decide) (fun c_37 => ?_) (fun c_37 => ?_)
                · skip
                  exact absurd c_37 (by decide)
                · skip
                  refine lv_iload hx hb dX3_survey_113 (lv_at hl 1 rfl) ?_
                  refine lv_iconst (v := 2) hx hb dX3_survey_115 (by decide) ?_
                  refine lv_idiv hx hb dX3_survey_116 (by decide) ?_
                  refine lv_goto (tgt := 122) hx hb dX3_survey_117 (by decide) ?_
                  refine iastN (j := ((8 * (5 - k25)) + k3)) hx hb hK hP hD hS 1 0 rfl rfl (by omega) (by decide) dX3_survey_122 (fun H locs hP hD hS => ?_)
                  have hP : va_P G vwCl [(o, .inr (3, fs_o)), (a_re, .inl (cI, 48, .inl (upd (filC (reG (isES p1_zo p1_go) (wtD p1_zo p1_he p1_go p2_ki p2_pl st n) (hwD p1_zo p1_hd p2_ki p2_pl p2_mo st n)) re k3 (6 - k25)) ((8 * (5 - k25)) + k3) (((holdS p1_zo p1_hd ((8 * (5 - k25)) + k3)) + (sumS (morT p2_ki p2_pl p2_mo st k3) n)) / 2)))), (a_bu, .inl (cI, 48, .inl (upd (filC (buG (isES p1_zo p1_go) (wtD p1_zo p1_he p1_go p2_ki p2_pl st n)) bu k3 (6 - k25)) ((8 * (5 - k25)) + k3) (buC (isES p1_zo p1_go) (wtD p1_zo p1_he p1_go p2_ki p2_pl st n) k3 k25)))), (p1, .inr (2, fs_p1)), (a_p1_zo, .inl (cI, 48, .inl p1_zo)), (a_p1_he, .inl (cI, 48, .inl p1_he)), (a_p1_go, .inl (cI, 48, .inl p1_go)), (a_p1_hd, .inl (cI, 6, .inl p1_hd)), (p2, .inr (5, fs_p2)), (a_p2_ki, .inl (cI, 8, .inl p2_ki)), (a_p2_pl, .inl (cI, 8, .inl p2_pl)), (a_p2_mo, .inl (cI, 8, .inl p2_mo))] H := hP
                  have hD : va_D A [(o, .inr (3, fs_o)), (a_re, .inl (cI, 48, .inl (upd (filC (reG (isES p1_zo p1_go) (wtD p1_zo p1_he p1_go p2_ki p2_pl st n) (hwD p1_zo p1_hd p2_ki p2_pl p2_mo st n)) re k3 (6 - k25)) ((8 * (5 - k25)) + k3) (((holdS p1_zo p1_hd ((8 * (5 - k25)) + k3)) + (sumS (morT p2_ki p2_pl p2_mo st k3) n)) / 2)))), (a_bu, .inl (cI, 48, .inl (upd (filC (buG (isES p1_zo p1_go) (wtD p1_zo p1_he p1_go p2_ki p2_pl st n)) bu k3 (6 - k25)) ((8 * (5 - k25)) + k3) (buC (isES p1_zo p1_go) (wtD p1_zo p1_he p1_go p2_ki p2_pl st n) k3 k25)))), (p1, .inr (2, fs_p1)), (a_p1_zo, .inl (cI, 48, .inl p1_zo)), (a_p1_he, .inl (cI, 48, .inl p1_he)), (a_p1_go, .inl (cI, 48, .inl p1_go)), (a_p1_hd, .inl (cI, 6, .inl p1_hd)), (p2, .inr (5, fs_p2)), (a_p2_ki, .inl (cI, 8, .inl p2_ki)), (a_p2_pl, .inl (cI, 8, .inl p2_pl)), (a_p2_mo, .inl (cI, 8, .inl p2_mo))] := hD
                  refine lv_iload hx hb dX3_survey_123 (lv_at hl 0 rfl) ?_
                  refine lv_if_eq (tgt := 143) hx hb dX3_survey_125 (by decide) (fun c_38 => ?_) (fun c_38 => ?_)
                  · skip
                    exact absurd (c_36.symm.trans (bI_f c_38)) (by decide)
                  · skip
                    have c_38 : (isES p1_zo p1_go ((8 * (5 - k25)) + k3)) = true := bI_t c_38
                    refine lv_iload hx hb dX3_survey_128 (lv_at hl 10 rfl) ?_
                    refine lv_iload hx hb dX3_survey_130 (lv_at hl 2 rfl) ?_
                    refine lv_if_eq (tgt := 139) hx hb dX3_survey_132 (by decide) (fun c_39 => ?_) (fun c_39 => ?_)
                    · skip
                      exact absurd c_39 (by decide)
                    · skip
                      refine lv_iconst (v := 2) hx hb dX3_survey_135 (by decide) ?_
                      refine lv_goto (tgt := 140) hx hb dX3_survey_136 (by decide) ?_
                      refine lv_iadd hx hb dX3_survey_140 ?_
                      refine lv_istore (lv' := [(6, .int ((buC (isES p1_zo p1_go) (wtD p1_zo p1_he p1_go p2_ki p2_pl st n) k3 k25) + 2)), (11, .int (bI (isES p1_zo p1_go ((8 * (5 - k25)) + k3)))), (10, .int ((holdS p1_zo p1_hd ((8 * (5 - k25)) + k3)) + (sumS (morT p2_ki p2_pl p2_mo st k3) n))), (9, .int 1), (8, .int (nI ((8 * (5 - k25)) + k3))), (0, .ref o), (1, .ref p1), (2, .ref p2), (3, .int st), (4, .int (nI k3)), (5, .int (sumS (morT p2_ki p2_pl p2_mo st k3) n)), (7, .int (nI (5 - k25)))]) hx hb dX3_survey_141 hl (by decide) rfl (fun ls hl => ?_)
                      refine lv_iinc (v := pI (5 - k25)) (lv' := [(7, .int (pI (5 - k25))), (6, .int ((buC (isES p1_zo p1_go) (wtD p1_zo p1_he p1_go p2_ki p2_pl st n) k3 k25) + 2)), (11, .int (bI (isES p1_zo p1_go ((8 * (5 - k25)) + k3)))), (10, .int ((holdS p1_zo p1_hd ((8 * (5 - k25)) + k3)) + (sumS (morT p2_ki p2_pl p2_mo st k3) n))), (9, .int 1), (8, .int (nI ((8 * (5 - k25)) + k3))), (0, .ref o), (1, .ref p1), (2, .ref p2), (3, .int st), (4, .int (nI k3)), (5, .int (sumS (morT p2_ki p2_pl p2_mo st k3) n))]) hx hb dX3_survey_143 hl (k := 11) rfl (rfl) (by decide) rfl (fun ls hl => ?_)
                      refine lv_goto (tgt := 25) hx hb dX3_survey_146 (by decide) ?_
                      have el_40 : (((buC (isES p1_zo p1_go) (wtD p1_zo p1_he p1_go p2_ki p2_pl st n) k3 k25) + 2) : Int32) = buC (isES p1_zo p1_go) (wtD p1_zo p1_he p1_go p2_ki p2_pl st n) k3 (k25 + 1) := by simp [buC, wtD, c_2, c_7, c_8, c_22, c_36, c_37, c_38, c_39]
                      have el_41 : (pI (5 - k25) : Int32) = pI (6 - (k25 + 1)) := by congr 1; omega
                      have er_42 : (upd (filC (reG (isES p1_zo p1_go) (wtD p1_zo p1_he p1_go p2_ki p2_pl st n) (hwD p1_zo p1_hd p2_ki p2_pl p2_mo st n)) re k3 (6 - k25)) ((8 * (5 - k25)) + k3) (((holdS p1_zo p1_hd ((8 * (5 - k25)) + k3)) + (sumS (morT p2_ki p2_pl p2_mo st k3) n)) / 2)) = (filC (reG (isES p1_zo p1_go) (wtD p1_zo p1_he p1_go p2_ki p2_pl st n) (hwD p1_zo p1_hd p2_ki p2_pl p2_mo st n)) re k3 (6 - (k25 + 1))) := filC_k (by omega) hk6 (by simp [reG, hwD, wtD, hmod, c_2, c_7, c_8, c_22, c_36, c_37, c_38, c_39])
                      have er_43 : (upd (filC (buG (isES p1_zo p1_go) (wtD p1_zo p1_he p1_go p2_ki p2_pl st n)) bu k3 (6 - k25)) ((8 * (5 - k25)) + k3) (buC (isES p1_zo p1_go) (wtD p1_zo p1_he p1_go p2_ki p2_pl st n) k3 k25)) = (filC (buG (isES p1_zo p1_go) (wtD p1_zo p1_he p1_go p2_ki p2_pl st n)) bu k3 (6 - (k25 + 1))) := filC_k (by omega) hk6 (by simp [buG, hmod, hdiv, hfiv])
                      exact ih25 (k25 + 1) (by omega) (by omega) (by omega)  H locs (by rw [← er_42, ← er_43]; exact hP) (by rw [← er_42, ← er_43]; exact hD) hS ls (lv_sub hl [6, 7, 8, 9, 10, 11, 1, 0] (show ([(0, .ref o), (1, .ref p1), (2, .ref p2), (3, .int st), (4, .int (nI k3)), (5, .int (sumS (morT p2_ki p2_pl p2_mo st k3) n)), (6, .int ((buC (isES p1_zo p1_go) (wtD p1_zo p1_he p1_go p2_ki p2_pl st n) k3 k25) + 2)), (7, .int (pI (5 - k25)))] : List (Nat × Value)) = [(0, .ref o), (1, .ref p1), (2, .ref p2), (3, .int st), (4, .int (nI k3)), (5, .int (sumS (morT p2_ki p2_pl p2_mo st k3) n)), (6, .int (buC (isES p1_zo p1_go) (wtD p1_zo p1_he p1_go p2_ki p2_pl st n) k3 (k25 + 1))), (7, .int (pI (6 - (k25 + 1))))] by rw [← el_40, ← el_41]))
              · skip
                have c_36 : (isES p1_zo p1_go ((8 * (5 - k25)) + k3)) = false := bI_f c_36
                refine lv_iconst (v := (-1)) hx hb dX3_survey_104 (by decide) ?_
                refine lv_goto (tgt := 122) hx hb dX3_survey_105 (by decide) ?_
                refine iastN (j := ((8 * (5 - k25)) + k3)) hx hb hK hP hD hS 1 0 rfl rfl (by omega) (by decide) dX3_survey_122 (fun H locs hP hD hS => ?_)
                have hP : va_P G vwCl [(o, .inr (3, fs_o)), (a_re, .inl (cI, 48, .inl (upd (filC (reG (isES p1_zo p1_go) (wtD p1_zo p1_he p1_go p2_ki p2_pl st n) (hwD p1_zo p1_hd p2_ki p2_pl p2_mo st n)) re k3 (6 - k25)) ((8 * (5 - k25)) + k3) (-1)))), (a_bu, .inl (cI, 48, .inl (upd (filC (buG (isES p1_zo p1_go) (wtD p1_zo p1_he p1_go p2_ki p2_pl st n)) bu k3 (6 - k25)) ((8 * (5 - k25)) + k3) (buC (isES p1_zo p1_go) (wtD p1_zo p1_he p1_go p2_ki p2_pl st n) k3 k25)))), (p1, .inr (2, fs_p1)), (a_p1_zo, .inl (cI, 48, .inl p1_zo)), (a_p1_he, .inl (cI, 48, .inl p1_he)), (a_p1_go, .inl (cI, 48, .inl p1_go)), (a_p1_hd, .inl (cI, 6, .inl p1_hd)), (p2, .inr (5, fs_p2)), (a_p2_ki, .inl (cI, 8, .inl p2_ki)), (a_p2_pl, .inl (cI, 8, .inl p2_pl)), (a_p2_mo, .inl (cI, 8, .inl p2_mo))] H := hP
                have hD : va_D A [(o, .inr (3, fs_o)), (a_re, .inl (cI, 48, .inl (upd (filC (reG (isES p1_zo p1_go) (wtD p1_zo p1_he p1_go p2_ki p2_pl st n) (hwD p1_zo p1_hd p2_ki p2_pl p2_mo st n)) re k3 (6 - k25)) ((8 * (5 - k25)) + k3) (-1)))), (a_bu, .inl (cI, 48, .inl (upd (filC (buG (isES p1_zo p1_go) (wtD p1_zo p1_he p1_go p2_ki p2_pl st n)) bu k3 (6 - k25)) ((8 * (5 - k25)) + k3) (buC (isES p1_zo p1_go) (wtD p1_zo p1_he p1_go p2_ki p2_pl st n) k3 k25)))), (p1, .inr (2, fs_p1)), (a_p1_zo, .inl (cI, 48, .inl p1_zo)), (a_p1_he, .inl (cI, 48, .inl p1_he)), (a_p1_go, .inl (cI, 48, .inl p1_go)), (a_p1_hd, .inl (cI, 6, .inl p1_hd)), (p2, .inr (5, fs_p2)), (a_p2_ki, .inl (cI, 8, .inl p2_ki)), (a_p2_pl, .inl (cI, 8, .inl p2_pl)), (a_p2_mo, .inl (cI, 8, .inl p2_mo))] := hD
                refine lv_iload hx hb dX3_survey_123 (lv_at hl 0 rfl) ?_
                refine lv_if_eq (tgt := 143) hx hb dX3_survey_125 (by decide) (fun c_44 => ?_) (fun c_44 => ?_)
                · skip
                  have c_44 : (isES p1_zo p1_go ((8 * (5 - k25)) + k3)) = false := bI_f c_44
                  refine lv_iinc (v := pI (5 - k25)) (lv' := [(7, .int (pI (5 - k25))), (11, .int (bI (isES p1_zo p1_go ((8 * (5 - k25)) + k3)))), (10, .int ((holdS p1_zo p1_hd ((8 * (5 - k25)) + k3)) + (sumS (morT p2_ki p2_pl p2_mo st k3) n))), (9, .int 1), (8, .int (nI ((8 * (5 - k25)) + k3))), (0, .ref o), (1, .ref p1), (2, .ref p2), (3, .int st), (4, .int (nI k3)), (5, .int (sumS (morT p2_ki p2_pl p2_mo st k3) n)), (6, .int (buC (isES p1_zo p1_go) (wtD p1_zo p1_he p1_go p2_ki p2_pl st n) k3 k25))]) hx hb dX3_survey_143 hl (k := 11) rfl (rfl) (by decide) rfl (fun ls hl => ?_)
                  refine lv_goto (tgt := 25) hx hb dX3_survey_146 (by decide) ?_
                  have el_45 : (buC (isES p1_zo p1_go) (wtD p1_zo p1_he p1_go p2_ki p2_pl st n) k3 k25 : Int32) = buC (isES p1_zo p1_go) (wtD p1_zo p1_he p1_go p2_ki p2_pl st n) k3 (k25 + 1) := by simp [buC, wtD, c_2, c_7, c_8, c_22, c_36, c_44]
                  have el_46 : (pI (5 - k25) : Int32) = pI (6 - (k25 + 1)) := by congr 1; omega
                  have er_47 : (upd (filC (reG (isES p1_zo p1_go) (wtD p1_zo p1_he p1_go p2_ki p2_pl st n) (hwD p1_zo p1_hd p2_ki p2_pl p2_mo st n)) re k3 (6 - k25)) ((8 * (5 - k25)) + k3) (-1)) = (filC (reG (isES p1_zo p1_go) (wtD p1_zo p1_he p1_go p2_ki p2_pl st n) (hwD p1_zo p1_hd p2_ki p2_pl p2_mo st n)) re k3 (6 - (k25 + 1))) := filC_k (by omega) hk6 (by simp [reG, hwD, wtD, hmod, c_2, c_7, c_8, c_22, c_36, c_44])
                  have er_48 : (upd (filC (buG (isES p1_zo p1_go) (wtD p1_zo p1_he p1_go p2_ki p2_pl st n)) bu k3 (6 - k25)) ((8 * (5 - k25)) + k3) (buC (isES p1_zo p1_go) (wtD p1_zo p1_he p1_go p2_ki p2_pl st n) k3 k25)) = (filC (buG (isES p1_zo p1_go) (wtD p1_zo p1_he p1_go p2_ki p2_pl st n)) bu k3 (6 - (k25 + 1))) := filC_k (by omega) hk6 (by simp [buG, hmod, hdiv, hfiv])
                  exact ih25 (k25 + 1) (by omega) (by omega) (by omega)  H locs (by rw [← er_47, ← er_48]; exact hP) (by rw [← er_47, ← er_48]; exact hD) hS ls (lv_sub hl [5, 6, 7, 8, 9, 10, 11, 0] (show ([(0, .ref o), (1, .ref p1), (2, .ref p2), (3, .int st), (4, .int (nI k3)), (5, .int (sumS (morT p2_ki p2_pl p2_mo st k3) n)), (6, .int (buC (isES p1_zo p1_go) (wtD p1_zo p1_he p1_go p2_ki p2_pl st n) k3 k25)), (7, .int (pI (5 - k25)))] : List (Nat × Value)) = [(0, .ref o), (1, .ref p1), (2, .ref p2), (3, .int st), (4, .int (nI k3)), (5, .int (sumS (morT p2_ki p2_pl p2_mo st k3) n)), (6, .int (buC (isES p1_zo p1_go) (wtD p1_zo p1_he p1_go p2_ki p2_pl st n) k3 (k25 + 1))), (7, .int (pI (6 - (k25 + 1))))] by rw [← el_45, ← el_46]))
                · skip
                  exact absurd (c_36.symm.trans (bI_t c_44)) (by decide)
theorem cal_X3_driveOf : calV yX3_driveOf cX3_driveOf 4 (some .int) 3 := ⟨k_26_4, k_2_8, k_26_2, k_26_3, by decide +kernel⟩
set_option maxHeartbeats 4000000 in
set_option maxRecDepth 100000 in
theorem c_X3_driveOf (l : Launch) (G : va_G) (E : EvT) (cI cZ : ClassId) (x : Nat) (h : Nat) (hb9 : Nat) (o : Nat) (a_bu : Nat) (fs_o : List Value) (h_o_bu : fs_o[1]? = some (.ref a_bu)) (bu : Nat → Int32) (hx9 : x < 8) (hh9 : h < 6) : cR l G E yX3_driveOf cX3_driveOf 4 (some .int) 2 [(cI, .int), (cZ, .boolean)] [.ref o, .int (nI x), .int (nI h), .int (nI hb9)] [(o, .inr (3, fs_o)), (a_bu, .inl (cI, 48, .inl bu))] (bu ((8 * h) + x) * (nI (1 + h) - nI hb9)) := by
  refine mkR (by decide) (Nat.le_of_ble_eq_true rfl) ?_
  intro zp ze s zm args below meth zc hx hb hr hml hown hts hlocks hE hP hK ls hl
  have hS : va_S (fun _ => False) s.heap s.heap [] := va_S.rf
  have hlow : ∀ q : Nat, (fun _ : Nat => False) q → E.1 ≤ q := fun _ h => h.elim
  have hl : lv_has ls 4 [(0, .ref o), (1, .int (nI x)), (2, .int (nI h)), (3, .int (nI hb9))] := hl
  refine lv_aload_n hx hb dX3_driveOf_0 rfl (lv_at hl 0 rfl) ?_
  refine va_get (D := G) (ci := 3) (v := .ref a_bu) (C := RX3) (T := TX3) (N := 11) hx hb hts inlX3 hown hK hP 0 rfl rfl 1 (by decide) (hts (.fieldLink RX3 15 "EarthBanks$Slides" "burdens" "[I") k_4_14) (fun _ h9 => h9) h_o_bu dX3_driveOf_1 ?_
  refine lv_iload_n hx hb dX3_driveOf_4 rfl (lv_at hl 1 rfl) ?_
  refine lv_iload_n hx hb dX3_driveOf_5 rfl (lv_at hl 2 rfl) ?_
  refine cRSN (As := [.int (nI x), .int (nI h)]) (rest := [.ref a_bu]) hx hb hml hown hts (c_X6_placeOf l G E cI cZ x h) (hE.2.1.2.1 ("EarthBanks$Slides", 53, yX6_placeOf, "EarthBanks") (by decide +kernel)) cal_X6_placeOf ⟨Nat.le_of_ble_eq_true rfl, Nat.le_of_ble_eq_true rfl⟩ hE hlow hS hK [0, 1] rfl hP [] rfl rfl hl.1 rfl (Nat.le_of_ble_eq_true rfl) dX3_driveOf_6 ⟨Nat.zero_le _, Nat.zero_le _⟩ ?_
  refine ialdN (j := ((8 * h) + x)) hx hb hK hP 1 0 rfl rfl (by omega) (by decide) dX3_driveOf_9 ?_
  refine lv_iconst (v := 1) hx hb dX3_driveOf_10 (by decide) ?_
  refine lv_iload_n hx hb dX3_driveOf_11 rfl (lv_at hl 2 rfl) ?_
  refine lv_iadd hx hb dX3_driveOf_12 ?_
  refine top_eq (y := nI (1 + h)) (nI_add _ _) ?_
  refine lv_iload_n hx hb dX3_driveOf_13 rfl (lv_at hl 3 rfl) ?_
  refine lv_isub hx hb dX3_driveOf_14 ?_
  refine lv_imul hx hb dX3_driveOf_15 ?_
  exact retR hx hb hr (rfl) hlocks dX3_driveOf_16 (by simp [bI])
theorem cal_X3_meetWay : calV yX3_meetWay cX3_meetWay 4 none 2 := ⟨k_26_8, k_2_8, k_26_6, k_26_7, by decide +kernel⟩
set_option maxHeartbeats 4000000 in
set_option maxRecDepth 100000 in
theorem c_X3_meetWay (l : Launch) (G : va_G) (E : EvT) (cI cZ : ClassId) (fo : Bool) (dr : Int32) (rs : Int32) (o : Nat) (a_hg : Nat) (a_lh : Nat) (a_re : Nat) (a_bu : Nat) (a_ba : Nat) (sa : Int32) (am : Int32) (bl : Int32) (lm : Int32) (lt : Int32) (hg : Nat → Int32) (lh : Nat → Int32) : cWv (S := Unit) l G E yX3_meetWay cX3_meetWay 4 none 1 [(cI, .int), (cZ, .boolean)] [.ref o, .int dr, .int rs] [(o, .inr (3, [.ref a_re, .ref a_bu, .ref a_hg, .int sa, .int am, .ref a_ba, .int (bI fo), .int bl, .int lm, .int lt, .ref a_lh])), (a_hg, .inl (cI, 8, .inl hg)), (a_lh, .inl (cI, 8, .inl lh))] (fun _ => True) (fun _ => [(o, .inr (3, [.ref a_re, .ref a_bu, .ref a_hg, .int sa, .int am, .ref a_ba, .int (bI true), .int (if am ≤ mgI dr rs then bl else bl + 1), .int (if (!fo || decide (mgI dr rs < lm)) = true then mgI dr rs else lm), .int (if (!fo || decide (mgI dr rs < lm)) = true then sa else lt), .ref a_lh])), (a_hg, .inl (cI, 8, .inl hg)), (a_lh, .inl (cI, 8, .inl (if (!fo || decide (mgI dr rs < lm)) = true then hg else lh)))]) := by
  refine mkWv (by decide) (Nat.le_of_ble_eq_true rfl) ?_
  intro zp ze s zm args below meth zc hx hb hr hml hown hts hlocks hE hK A hA hlow H locs hP hD hS ls hl
  have hl : lv_has ls 4 [(0, .ref o), (1, .int dr), (2, .int rs)] := hl
  refine lv_sipush (v := 9999) hx hb dX3_meetWay_0 (by decide) ?_
  refine lv_istore_n (lv' := [(3, .int 9999), (0, .ref o), (1, .int dr), (2, .int rs)]) hx hb dX3_meetWay_3 rfl hl (by decide) rfl (fun ls hl => ?_)
  refine lv_iload_n hx hb dX3_meetWay_4 rfl (lv_at hl 2 rfl) ?_
  refine lv_if_le (tgt := 21) hx hb dX3_meetWay_5 (by decide) (fun c_1 => ?_) (fun c_1 => ?_)
  · skip
    have em_2 : (9999 : Int32) = (mgI dr rs) := by simp [mgI, c_1]
    have hl : lv_has ls 4 [(3, .int (mgI dr rs)), (0, .ref o), (1, .int dr), (2, .int rs)] := by rw [← em_2]; exact hl
    refine lv_iload_n hx hb dX3_meetWay_21 rfl (lv_at hl 0 rfl) ?_
    refine lv_aload_n hx hb dX3_meetWay_22 rfl (lv_at hl 1 rfl) ?_
    refine va_get (D := G) (ci := 3) (v := .int am) (C := RX3) (T := TX3) (N := 11) hx hb hts inlX3 hown hK hP 0 rfl rfl 4 (by decide) (hts (.fieldLink RX3 25 "EarthBanks$Slides" "aim" "I") k_4_17) (fun _ h9 => h9) rfl dX3_meetWay_23 ?_
    refine lv_icmp_ge (tgt := 39) hx hb dX3_meetWay_26 (by decide) (fun c_3 => ?_) (fun c_3 => ?_)
    · skip
      refine lv_aload_n hx hb dX3_meetWay_39 rfl (lv_at hl 1 rfl) ?_
      refine va_get (D := G) (ci := 3) (v := .int (bI fo)) (C := RX3) (T := TX3) (N := 11) hx hb hts inlX3 hown hK hP 0 rfl rfl 6 (by decide) (hts (.fieldLink RX3 31 "EarthBanks$Slides" "found" "Z") k_4_19) (fun _ h9 => h9) rfl dX3_meetWay_40 ?_
      refine lv_if_eq (tgt := 55) hx hb dX3_meetWay_43 (by decide) (fun c_4 => ?_) (fun c_4 => ?_)
      · skip
        have c_4 : fo = false := bI_f c_4
        refine lv_aload_n hx hb dX3_meetWay_55 rfl (lv_at hl 1 rfl) ?_
        refine lv_iconst (v := 1) hx hb dX3_meetWay_56 (by decide) ?_
        refine va_put (D := G) (ci := 3) (v := .int 1) (ty := .boolean) (C := RX3) (T := TX3) (N := 11) hx hb hts inlX3 tyX3 tyX3_ok nmX3 hown hK hP hD hS 0 rfl rfl 6 (by decide) (hts (.fieldLink RX3 31 "EarthBanks$Slides" "found" "Z") k_4_19) (fun _ h9 => h9) rfl (by decide +kernel) (rfl) (rfl) (Nat.le_of_ble_eq_true rfl) dX3_meetWay_57 (fun H locs hP hD hS => ?_)
        have hP : va_P G vwCl [(o, .inr (3, [.ref a_re, .ref a_bu, .ref a_hg, .int sa, .int am, .ref a_ba, .int 1, .int bl, .int lm, .int lt, .ref a_lh])), (a_hg, .inl (cI, 8, .inl hg)), (a_lh, .inl (cI, 8, .inl lh))] H := hP
        have hD : va_D A [(o, .inr (3, [.ref a_re, .ref a_bu, .ref a_hg, .int sa, .int am, .ref a_ba, .int 1, .int bl, .int lm, .int lt, .ref a_lh])), (a_hg, .inl (cI, 8, .inl hg)), (a_lh, .inl (cI, 8, .inl lh))] := hD
        refine lv_aload_n hx hb dX3_meetWay_60 rfl (lv_at hl 1 rfl) ?_
        refine lv_iload_n hx hb dX3_meetWay_61 rfl (lv_at hl 0 rfl) ?_
        refine va_put (D := G) (ci := 3) (v := .int (mgI dr rs)) (ty := .int) (C := RX3) (T := TX3) (N := 11) hx hb hts inlX3 tyX3 tyX3_ok nmX3 hown hK hP hD hS 0 rfl rfl 8 (by decide) (hts (.fieldLink RX3 38 "EarthBanks$Slides" "leastMargin" "I") k_4_21) (fun _ h9 => h9) rfl (by decide +kernel) (rfl) (rfl) (Nat.le_of_ble_eq_true rfl) dX3_meetWay_62 (fun H locs hP hD hS => ?_)
        have hP : va_P G vwCl [(o, .inr (3, [.ref a_re, .ref a_bu, .ref a_hg, .int sa, .int am, .ref a_ba, .int 1, .int bl, .int (mgI dr rs), .int lt, .ref a_lh])), (a_hg, .inl (cI, 8, .inl hg)), (a_lh, .inl (cI, 8, .inl lh))] H := hP
        have hD : va_D A [(o, .inr (3, [.ref a_re, .ref a_bu, .ref a_hg, .int sa, .int am, .ref a_ba, .int 1, .int bl, .int (mgI dr rs), .int lt, .ref a_lh])), (a_hg, .inl (cI, 8, .inl hg)), (a_lh, .inl (cI, 8, .inl lh))] := hD
        refine lv_aload_n hx hb dX3_meetWay_65 rfl (lv_at hl 1 rfl) ?_
        refine lv_aload_n hx hb dX3_meetWay_66 rfl (lv_at hl 1 rfl) ?_
        refine va_get (D := G) (ci := 3) (v := .int sa) (C := RX3) (T := TX3) (N := 11) hx hb hts inlX3 hown hK hP 0 rfl rfl 3 (by decide) (hts (.fieldLink RX3 21 "EarthBanks$Slides" "start" "I") k_4_16) (fun _ h9 => h9) rfl dX3_meetWay_67 ?_
        refine va_put (D := G) (ci := 3) (v := .int sa) (ty := .int) (C := RX3) (T := TX3) (N := 11) hx hb hts inlX3 tyX3 tyX3_ok nmX3 hown hK hP hD hS 0 rfl rfl 9 (by decide) (hts (.fieldLink RX3 41 "EarthBanks$Slides" "leastStart" "I") k_4_22) (fun _ h9 => h9) rfl (by decide +kernel) (rfl) (rfl) (Nat.le_of_ble_eq_true rfl) dX3_meetWay_70 (fun H locs hP hD hS => ?_)
        have hP : va_P G vwCl [(o, .inr (3, [.ref a_re, .ref a_bu, .ref a_hg, .int sa, .int am, .ref a_ba, .int 1, .int bl, .int (mgI dr rs), .int sa, .ref a_lh])), (a_hg, .inl (cI, 8, .inl hg)), (a_lh, .inl (cI, 8, .inl lh))] H := hP
        have hD : va_D A [(o, .inr (3, [.ref a_re, .ref a_bu, .ref a_hg, .int sa, .int am, .ref a_ba, .int 1, .int bl, .int (mgI dr rs), .int sa, .ref a_lh])), (a_hg, .inl (cI, 8, .inl hg)), (a_lh, .inl (cI, 8, .inl lh))] := hD
        refine lv_aload_n hx hb dX3_meetWay_73 rfl (lv_at hl 1 rfl) ?_
        refine va_get (D := G) (ci := 3) (v := .ref a_hg) (C := RX3) (T := TX3) (N := 11) hx hb hts inlX3 hown hK hP 0 rfl rfl 2 (by decide) (hts (.fieldLink RX3 18 "EarthBanks$Slides" "heights" "[I") k_4_15) (fun _ h9 => h9) rfl dX3_meetWay_74 ?_
        refine lv_iconst (v := 0) hx hb dX3_meetWay_77 (by decide) ?_
        refine lv_aload_n hx hb dX3_meetWay_78 rfl (lv_at hl 1 rfl) ?_
        refine va_get (D := G) (ci := 3) (v := .ref a_lh) (C := RX3) (T := TX3) (N := 11) hx hb hts inlX3 hown hK hP 0 rfl rfl 10 (by decide) (hts (.fieldLink RX3 44 "EarthBanks$Slides" "leastHeights" "[I") k_4_23) (fun _ h9 => h9) rfl dX3_meetWay_79 ?_
        refine lv_iconst (v := 0) hx hb dX3_meetWay_82 (by decide) ?_
        refine lv_bipush (v := 8) hx hb dX3_meetWay_83 (by decide) ?_
        refine va_copyi (ty := .int) hx hb (hml.trans hl.1.symm) hown (hts (.methodLink RX3 90 arraycopyName) k_26_10) (hts (.native arraycopyName) k_13_10) (hts (.static arraycopyName) k_13_11) (hts (.initialized "java/lang/System") k_13_12) hK hP hD hS 1 2 0 0 rfl rfl rfl rfl rfl (by decide) (by decide) (by decide) (by decide) (by decide) (fun _ _ => rfl) (Nat.le_of_ble_eq_true rfl) (by decide) dX3_meetWay_85 (fun H locs hP hD hS => ?_)
        have hP : va_P G vwCl [(o, .inr (3, [.ref a_re, .ref a_bu, .ref a_hg, .int sa, .int am, .ref a_ba, .int 1, .int bl, .int (mgI dr rs), .int sa, .ref a_lh])), (a_hg, .inl (cI, 8, .inl hg)), (a_lh, .inl (cI, 8, .inl (va_cpy hg lh (0 : Int32).toNatClampNeg (0 : Int32).toNatClampNeg (8 : Int32).toNatClampNeg)))] H := hP
        have hD : va_D A [(o, .inr (3, [.ref a_re, .ref a_bu, .ref a_hg, .int sa, .int am, .ref a_ba, .int 1, .int bl, .int (mgI dr rs), .int sa, .ref a_lh])), (a_hg, .inl (cI, 8, .inl hg)), (a_lh, .inl (cI, 8, .inl (va_cpy hg lh (0 : Int32).toNatClampNeg (0 : Int32).toNatClampNeg (8 : Int32).toNatClampNeg)))] := hD
        have hP := P_swap hP 2 hg rfl (fun k h9 => cpy_all h9)
        have hD := D_swap hD 2 (.inl (cI, 8, .inl hg)) rfl
        have hP : va_P G vwCl [(o, .inr (3, [.ref a_re, .ref a_bu, .ref a_hg, .int sa, .int am, .ref a_ba, .int 1, .int bl, .int (mgI dr rs), .int sa, .ref a_lh])), (a_hg, .inl (cI, 8, .inl hg)), (a_lh, .inl (cI, 8, .inl hg))] H := hP
        have hD : va_D A [(o, .inr (3, [.ref a_re, .ref a_bu, .ref a_hg, .int sa, .int am, .ref a_ba, .int 1, .int bl, .int (mgI dr rs), .int sa, .ref a_lh])), (a_hg, .inl (cI, 8, .inl hg)), (a_lh, .inl (cI, 8, .inl hg))] := hD
        have ew_5 : (1 : Int32) = bI true := by simp [bI, c_1, c_3, c_4]
        have ew_6 : (bl : Int32) = if am ≤ mgI dr rs then bl else bl + 1 := by simp [bI, c_1, c_3, c_4]
        have ew_7 : ((mgI dr rs) : Int32) = if (!fo || decide (mgI dr rs < lm)) = true then mgI dr rs else lm := by simp [bI, c_1, c_3, c_4]
        have ew_8 : (sa : Int32) = if (!fo || decide (mgI dr rs < lm)) = true then sa else lt := by simp [bI, c_1, c_3, c_4]
        have ew_9 : hg = (if (!fo || decide (mgI dr rs < lm)) = true then hg else lh) := by simp [bI, c_1, c_3, c_4]
        have hP : va_P G vwCl [(o, .inr (3, [.ref a_re, .ref a_bu, .ref a_hg, .int sa, .int am, .ref a_ba, .int (bI true), .int (if am ≤ mgI dr rs then bl else bl + 1), .int (if (!fo || decide (mgI dr rs < lm)) = true then mgI dr rs else lm), .int (if (!fo || decide (mgI dr rs < lm)) = true then sa else lt), .ref a_lh])), (a_hg, .inl (cI, 8, .inl hg)), (a_lh, .inl (cI, 8, .inl (if (!fo || decide (mgI dr rs < lm)) = true then hg else lh)))] H := by rw [← ew_5, ← ew_6, ← ew_7, ← ew_8, ← ew_9]; exact hP
        exact retWv () hx hb hr hlocks dX3_meetWay_88 hS (trivial) hP
      · skip
        have c_4 : fo = true := bI_t c_4
        refine lv_iload_n hx hb dX3_meetWay_46 rfl (lv_at hl 0 rfl) ?_
        refine lv_aload_n hx hb dX3_meetWay_47 rfl (lv_at hl 1 rfl) ?_
        refine va_get (D := G) (ci := 3) (v := .int lm) (C := RX3) (T := TX3) (N := 11) hx hb hts inlX3 hown hK hP 0 rfl rfl 8 (by decide) (hts (.fieldLink RX3 38 "EarthBanks$Slides" "leastMargin" "I") k_4_21) (fun _ h9 => h9) rfl dX3_meetWay_48 ?_
        refine lv_icmp_lt (tgt := 55) hx hb dX3_meetWay_51 (by decide) (fun c_10 => ?_) (fun c_10 => ?_)
        · skip
          refine lv_aload_n hx hb dX3_meetWay_55 rfl (lv_at hl 1 rfl) ?_
          refine lv_iconst (v := 1) hx hb dX3_meetWay_56 (by decide) ?_
          refine va_put (D := G) (ci := 3) (v := .int 1) (ty := .boolean) (C := RX3) (T := TX3) (N := 11) hx hb hts inlX3 tyX3 tyX3_ok nmX3 hown hK hP hD hS 0 rfl rfl 6 (by decide) (hts (.fieldLink RX3 31 "EarthBanks$Slides" "found" "Z") k_4_19) (fun _ h9 => h9) rfl (by decide +kernel) (rfl) (rfl) (Nat.le_of_ble_eq_true rfl) dX3_meetWay_57 (fun H locs hP hD hS => ?_)
          have hP : va_P G vwCl [(o, .inr (3, [.ref a_re, .ref a_bu, .ref a_hg, .int sa, .int am, .ref a_ba, .int 1, .int bl, .int lm, .int lt, .ref a_lh])), (a_hg, .inl (cI, 8, .inl hg)), (a_lh, .inl (cI, 8, .inl lh))] H := hP
          have hD : va_D A [(o, .inr (3, [.ref a_re, .ref a_bu, .ref a_hg, .int sa, .int am, .ref a_ba, .int 1, .int bl, .int lm, .int lt, .ref a_lh])), (a_hg, .inl (cI, 8, .inl hg)), (a_lh, .inl (cI, 8, .inl lh))] := hD
          refine lv_aload_n hx hb dX3_meetWay_60 rfl (lv_at hl 1 rfl) ?_
          refine lv_iload_n hx hb dX3_meetWay_61 rfl (lv_at hl 0 rfl) ?_
          refine va_put (D := G) (ci := 3) (v := .int (mgI dr rs)) (ty := .int) (C := RX3) (T := TX3) (N := 11) hx hb hts inlX3 tyX3 tyX3_ok nmX3 hown hK hP hD hS 0 rfl rfl 8 (by decide) (hts (.fieldLink RX3 38 "EarthBanks$Slides" "leastMargin" "I") k_4_21) (fun _ h9 => h9) rfl (by decide +kernel) (rfl) (rfl) (Nat.le_of_ble_eq_true rfl) dX3_meetWay_62 (fun H locs hP hD hS => ?_)
          have hP : va_P G vwCl [(o, .inr (3, [.ref a_re, .ref a_bu, .ref a_hg, .int sa, .int am, .ref a_ba, .int 1, .int bl, .int (mgI dr rs), .int lt, .ref a_lh])), (a_hg, .inl (cI, 8, .inl hg)), (a_lh, .inl (cI, 8, .inl lh))] H := hP
          have hD : va_D A [(o, .inr (3, [.ref a_re, .ref a_bu, .ref a_hg, .int sa, .int am, .ref a_ba, .int 1, .int bl, .int (mgI dr rs), .int lt, .ref a_lh])), (a_hg, .inl (cI, 8, .inl hg)), (a_lh, .inl (cI, 8, .inl lh))] := hD
          refine lv_aload_n hx hb dX3_meetWay_65 rfl (lv_at hl 1 rfl) ?_
          refine lv_aload_n hx hb dX3_meetWay_66 rfl (lv_at hl 1 rfl) ?_
          refine va_get (D := G) (ci := 3) (v := .int sa) (C := RX3) (T := TX3) (N := 11) hx hb hts inlX3 hown hK hP 0 rfl rfl 3 (by decide) (hts (.fieldLink RX3 21 "EarthBanks$Slides" "start" "I") k_4_16) (fun _ h9 => h9) rfl dX3_meetWay_67 ?_
          refine va_put (D := G) (ci := 3) (v := .int sa) (ty := .int) (C := RX3) (T := TX3) (N := 11) hx hb hts inlX3 tyX3 tyX3_ok nmX3 hown hK hP hD hS 0 rfl rfl 9 (by decide) (hts (.fieldLink RX3 41 "EarthBanks$Slides" "leastStart" "I") k_4_22) (fun _ h9 => h9) rfl (by decide +kernel) (rfl) (rfl) (Nat.le_of_ble_eq_true rfl) dX3_meetWay_70 (fun H locs hP hD hS => ?_)
          have hP : va_P G vwCl [(o, .inr (3, [.ref a_re, .ref a_bu, .ref a_hg, .int sa, .int am, .ref a_ba, .int 1, .int bl, .int (mgI dr rs), .int sa, .ref a_lh])), (a_hg, .inl (cI, 8, .inl hg)), (a_lh, .inl (cI, 8, .inl lh))] H := hP
          have hD : va_D A [(o, .inr (3, [.ref a_re, .ref a_bu, .ref a_hg, .int sa, .int am, .ref a_ba, .int 1, .int bl, .int (mgI dr rs), .int sa, .ref a_lh])), (a_hg, .inl (cI, 8, .inl hg)), (a_lh, .inl (cI, 8, .inl lh))] := hD
          refine lv_aload_n hx hb dX3_meetWay_73 rfl (lv_at hl 1 rfl) ?_
          refine va_get (D := G) (ci := 3) (v := .ref a_hg) (C := RX3) (T := TX3) (N := 11) hx hb hts inlX3 hown hK hP 0 rfl rfl 2 (by decide) (hts (.fieldLink RX3 18 "EarthBanks$Slides" "heights" "[I") k_4_15) (fun _ h9 => h9) rfl dX3_meetWay_74 ?_
          refine lv_iconst (v := 0) hx hb dX3_meetWay_77 (by decide) ?_
          refine lv_aload_n hx hb dX3_meetWay_78 rfl (lv_at hl 1 rfl) ?_
          refine va_get (D := G) (ci := 3) (v := .ref a_lh) (C := RX3) (T := TX3) (N := 11) hx hb hts inlX3 hown hK hP 0 rfl rfl 10 (by decide) (hts (.fieldLink RX3 44 "EarthBanks$Slides" "leastHeights" "[I") k_4_23) (fun _ h9 => h9) rfl dX3_meetWay_79 ?_
          refine lv_iconst (v := 0) hx hb dX3_meetWay_82 (by decide) ?_
          refine lv_bipush (v := 8) hx hb dX3_meetWay_83 (by decide) ?_
          refine va_copyi (ty := .int) hx hb (hml.trans hl.1.symm) hown (hts (.methodLink RX3 90 arraycopyName) k_26_10) (hts (.native arraycopyName) k_13_10) (hts (.static arraycopyName) k_13_11) (hts (.initialized "java/lang/System") k_13_12) hK hP hD hS 1 2 0 0 rfl rfl rfl rfl rfl (by decide) (by decide) (by decide) (by decide) (by decide) (fun _ _ => rfl) (Nat.le_of_ble_eq_true rfl) (by decide) dX3_meetWay_85 (fun H locs hP hD hS => ?_)
          have hP : va_P G vwCl [(o, .inr (3, [.ref a_re, .ref a_bu, .ref a_hg, .int sa, .int am, .ref a_ba, .int 1, .int bl, .int (mgI dr rs), .int sa, .ref a_lh])), (a_hg, .inl (cI, 8, .inl hg)), (a_lh, .inl (cI, 8, .inl (va_cpy hg lh (0 : Int32).toNatClampNeg (0 : Int32).toNatClampNeg (8 : Int32).toNatClampNeg)))] H := hP
          have hD : va_D A [(o, .inr (3, [.ref a_re, .ref a_bu, .ref a_hg, .int sa, .int am, .ref a_ba, .int 1, .int bl, .int (mgI dr rs), .int sa, .ref a_lh])), (a_hg, .inl (cI, 8, .inl hg)), (a_lh, .inl (cI, 8, .inl (va_cpy hg lh (0 : Int32).toNatClampNeg (0 : Int32).toNatClampNeg (8 : Int32).toNatClampNeg)))] := hD
          have hP := P_swap hP 2 hg rfl (fun k h9 => cpy_all h9)
          have hD := D_swap hD 2 (.inl (cI, 8, .inl hg)) rfl
          have hP : va_P G vwCl [(o, .inr (3, [.ref a_re, .ref a_bu, .ref a_hg, .int sa, .int am, .ref a_ba, .int 1, .int bl, .int (mgI dr rs), .int sa, .ref a_lh])), (a_hg, .inl (cI, 8, .inl hg)), (a_lh, .inl (cI, 8, .inl hg))] H := hP
          have hD : va_D A [(o, .inr (3, [.ref a_re, .ref a_bu, .ref a_hg, .int sa, .int am, .ref a_ba, .int 1, .int bl, .int (mgI dr rs), .int sa, .ref a_lh])), (a_hg, .inl (cI, 8, .inl hg)), (a_lh, .inl (cI, 8, .inl hg))] := hD
          have ew_11 : (1 : Int32) = bI true := by simp [bI, c_1, c_3, c_4, c_10]
          have ew_12 : (bl : Int32) = if am ≤ mgI dr rs then bl else bl + 1 := by simp [bI, c_1, c_3, c_4, c_10]
          have ew_13 : ((mgI dr rs) : Int32) = if (!fo || decide (mgI dr rs < lm)) = true then mgI dr rs else lm := by simp [bI, c_1, c_3, c_4, c_10]
          have ew_14 : (sa : Int32) = if (!fo || decide (mgI dr rs < lm)) = true then sa else lt := by simp [bI, c_1, c_3, c_4, c_10]
          have ew_15 : hg = (if (!fo || decide (mgI dr rs < lm)) = true then hg else lh) := by simp [bI, c_1, c_3, c_4, c_10]
          have hP : va_P G vwCl [(o, .inr (3, [.ref a_re, .ref a_bu, .ref a_hg, .int sa, .int am, .ref a_ba, .int (bI true), .int (if am ≤ mgI dr rs then bl else bl + 1), .int (if (!fo || decide (mgI dr rs < lm)) = true then mgI dr rs else lm), .int (if (!fo || decide (mgI dr rs < lm)) = true then sa else lt), .ref a_lh])), (a_hg, .inl (cI, 8, .inl hg)), (a_lh, .inl (cI, 8, .inl (if (!fo || decide (mgI dr rs < lm)) = true then hg else lh)))] H := by rw [← ew_11, ← ew_12, ← ew_13, ← ew_14, ← ew_15]; exact hP
          exact retWv () hx hb hr hlocks dX3_meetWay_88 hS (trivial) hP
        · skip
          have ew_16 : (bI fo : Int32) = bI true := by simp [bI, c_1, c_3, c_4, c_10]
          have ew_17 : (bl : Int32) = if am ≤ mgI dr rs then bl else bl + 1 := by simp [bI, c_1, c_3, c_4, c_10]
          have ew_18 : (lm : Int32) = if (!fo || decide (mgI dr rs < lm)) = true then mgI dr rs else lm := by simp [bI, c_1, c_3, c_4, c_10]
          have ew_19 : (lt : Int32) = if (!fo || decide (mgI dr rs < lm)) = true then sa else lt := by simp [bI, c_1, c_3, c_4, c_10]
          have ew_20 : lh = (if (!fo || decide (mgI dr rs < lm)) = true then hg else lh) := by simp [bI, c_1, c_3, c_4, c_10]
          have hP : va_P G vwCl [(o, .inr (3, [.ref a_re, .ref a_bu, .ref a_hg, .int sa, .int am, .ref a_ba, .int (bI true), .int (if am ≤ mgI dr rs then bl else bl + 1), .int (if (!fo || decide (mgI dr rs < lm)) = true then mgI dr rs else lm), .int (if (!fo || decide (mgI dr rs < lm)) = true then sa else lt), .ref a_lh])), (a_hg, .inl (cI, 8, .inl hg)), (a_lh, .inl (cI, 8, .inl (if (!fo || decide (mgI dr rs < lm)) = true then hg else lh)))] H := by rw [← ew_16, ← ew_17, ← ew_18, ← ew_19, ← ew_20]; exact hP
          exact retWv () hx hb hr hlocks dX3_meetWay_54 hS (trivial) hP
    · skip
      refine lv_aload_n hx hb dX3_meetWay_29 rfl (lv_at hl 1 rfl) ?_
      refine lv_dup hx hb dX3_meetWay_30 rfl ?_
      refine va_get (D := G) (ci := 3) (v := .int bl) (C := RX3) (T := TX3) (N := 11) hx hb hts inlX3 hown hK hP 0 rfl rfl 7 (by decide) (hts (.fieldLink RX3 35 "EarthBanks$Slides" "belowAim" "I") k_4_20) (fun _ h9 => h9) rfl dX3_meetWay_31 ?_
      refine lv_iconst (v := 1) hx hb dX3_meetWay_34 (by decide) ?_
      refine lv_iadd hx hb dX3_meetWay_35 ?_
      refine va_put (D := G) (ci := 3) (v := .int (bl + 1)) (ty := .int) (C := RX3) (T := TX3) (N := 11) hx hb hts inlX3 tyX3 tyX3_ok nmX3 hown hK hP hD hS 0 rfl rfl 7 (by decide) (hts (.fieldLink RX3 35 "EarthBanks$Slides" "belowAim" "I") k_4_20) (fun _ h9 => h9) rfl (by decide +kernel) (rfl) (rfl) (Nat.le_of_ble_eq_true rfl) dX3_meetWay_36 (fun H locs hP hD hS => ?_)
      have hP : va_P G vwCl [(o, .inr (3, [.ref a_re, .ref a_bu, .ref a_hg, .int sa, .int am, .ref a_ba, .int (bI fo), .int (bl + 1), .int lm, .int lt, .ref a_lh])), (a_hg, .inl (cI, 8, .inl hg)), (a_lh, .inl (cI, 8, .inl lh))] H := hP
      have hD : va_D A [(o, .inr (3, [.ref a_re, .ref a_bu, .ref a_hg, .int sa, .int am, .ref a_ba, .int (bI fo), .int (bl + 1), .int lm, .int lt, .ref a_lh])), (a_hg, .inl (cI, 8, .inl hg)), (a_lh, .inl (cI, 8, .inl lh))] := hD
      refine lv_aload_n hx hb dX3_meetWay_39 rfl (lv_at hl 1 rfl) ?_
      refine va_get (D := G) (ci := 3) (v := .int (bI fo)) (C := RX3) (T := TX3) (N := 11) hx hb hts inlX3 hown hK hP 0 rfl rfl 6 (by decide) (hts (.fieldLink RX3 31 "EarthBanks$Slides" "found" "Z") k_4_19) (fun _ h9 => h9) rfl dX3_meetWay_40 ?_
      refine lv_if_eq (tgt := 55) hx hb dX3_meetWay_43 (by decide) (fun c_21 => ?_) (fun c_21 => ?_)
      · skip
        have c_21 : fo = false := bI_f c_21
        refine lv_aload_n hx hb dX3_meetWay_55 rfl (lv_at hl 1 rfl) ?_
        refine lv_iconst (v := 1) hx hb dX3_meetWay_56 (by decide) ?_
        refine va_put (D := G) (ci := 3) (v := .int 1) (ty := .boolean) (C := RX3) (T := TX3) (N := 11) hx hb hts inlX3 tyX3 tyX3_ok nmX3 hown hK hP hD hS 0 rfl rfl 6 (by decide) (hts (.fieldLink RX3 31 "EarthBanks$Slides" "found" "Z") k_4_19) (fun _ h9 => h9) rfl (by decide +kernel) (rfl) (rfl) (Nat.le_of_ble_eq_true rfl) dX3_meetWay_57 (fun H locs hP hD hS => ?_)
        have hP : va_P G vwCl [(o, .inr (3, [.ref a_re, .ref a_bu, .ref a_hg, .int sa, .int am, .ref a_ba, .int 1, .int (bl + 1), .int lm, .int lt, .ref a_lh])), (a_hg, .inl (cI, 8, .inl hg)), (a_lh, .inl (cI, 8, .inl lh))] H := hP
        have hD : va_D A [(o, .inr (3, [.ref a_re, .ref a_bu, .ref a_hg, .int sa, .int am, .ref a_ba, .int 1, .int (bl + 1), .int lm, .int lt, .ref a_lh])), (a_hg, .inl (cI, 8, .inl hg)), (a_lh, .inl (cI, 8, .inl lh))] := hD
        refine lv_aload_n hx hb dX3_meetWay_60 rfl (lv_at hl 1 rfl) ?_
        refine lv_iload_n hx hb dX3_meetWay_61 rfl (lv_at hl 0 rfl) ?_
        refine va_put (D := G) (ci := 3) (v := .int (mgI dr rs)) (ty := .int) (C := RX3) (T := TX3) (N := 11) hx hb hts inlX3 tyX3 tyX3_ok nmX3 hown hK hP hD hS 0 rfl rfl 8 (by decide) (hts (.fieldLink RX3 38 "EarthBanks$Slides" "leastMargin" "I") k_4_21) (fun _ h9 => h9) rfl (by decide +kernel) (rfl) (rfl) (Nat.le_of_ble_eq_true rfl) dX3_meetWay_62 (fun H locs hP hD hS => ?_)
        have hP : va_P G vwCl [(o, .inr (3, [.ref a_re, .ref a_bu, .ref a_hg, .int sa, .int am, .ref a_ba, .int 1, .int (bl + 1), .int (mgI dr rs), .int lt, .ref a_lh])), (a_hg, .inl (cI, 8, .inl hg)), (a_lh, .inl (cI, 8, .inl lh))] H := hP
        have hD : va_D A [(o, .inr (3, [.ref a_re, .ref a_bu, .ref a_hg, .int sa, .int am, .ref a_ba, .int 1, .int (bl + 1), .int (mgI dr rs), .int lt, .ref a_lh])), (a_hg, .inl (cI, 8, .inl hg)), (a_lh, .inl (cI, 8, .inl lh))] := hD
        refine lv_aload_n hx hb dX3_meetWay_65 rfl (lv_at hl 1 rfl) ?_
        refine lv_aload_n hx hb dX3_meetWay_66 rfl (lv_at hl 1 rfl) ?_
        refine va_get (D := G) (ci := 3) (v := .int sa) (C := RX3) (T := TX3) (N := 11) hx hb hts inlX3 hown hK hP 0 rfl rfl 3 (by decide) (hts (.fieldLink RX3 21 "EarthBanks$Slides" "start" "I") k_4_16) (fun _ h9 => h9) rfl dX3_meetWay_67 ?_
        refine va_put (D := G) (ci := 3) (v := .int sa) (ty := .int) (C := RX3) (T := TX3) (N := 11) hx hb hts inlX3 tyX3 tyX3_ok nmX3 hown hK hP hD hS 0 rfl rfl 9 (by decide) (hts (.fieldLink RX3 41 "EarthBanks$Slides" "leastStart" "I") k_4_22) (fun _ h9 => h9) rfl (by decide +kernel) (rfl) (rfl) (Nat.le_of_ble_eq_true rfl) dX3_meetWay_70 (fun H locs hP hD hS => ?_)
        have hP : va_P G vwCl [(o, .inr (3, [.ref a_re, .ref a_bu, .ref a_hg, .int sa, .int am, .ref a_ba, .int 1, .int (bl + 1), .int (mgI dr rs), .int sa, .ref a_lh])), (a_hg, .inl (cI, 8, .inl hg)), (a_lh, .inl (cI, 8, .inl lh))] H := hP
        have hD : va_D A [(o, .inr (3, [.ref a_re, .ref a_bu, .ref a_hg, .int sa, .int am, .ref a_ba, .int 1, .int (bl + 1), .int (mgI dr rs), .int sa, .ref a_lh])), (a_hg, .inl (cI, 8, .inl hg)), (a_lh, .inl (cI, 8, .inl lh))] := hD
        refine lv_aload_n hx hb dX3_meetWay_73 rfl (lv_at hl 1 rfl) ?_
        refine va_get (D := G) (ci := 3) (v := .ref a_hg) (C := RX3) (T := TX3) (N := 11) hx hb hts inlX3 hown hK hP 0 rfl rfl 2 (by decide) (hts (.fieldLink RX3 18 "EarthBanks$Slides" "heights" "[I") k_4_15) (fun _ h9 => h9) rfl dX3_meetWay_74 ?_
        refine lv_iconst (v := 0) hx hb dX3_meetWay_77 (by decide) ?_
        refine lv_aload_n hx hb dX3_meetWay_78 rfl (lv_at hl 1 rfl) ?_
        refine va_get (D := G) (ci := 3) (v := .ref a_lh) (C := RX3) (T := TX3) (N := 11) hx hb hts inlX3 hown hK hP 0 rfl rfl 10 (by decide) (hts (.fieldLink RX3 44 "EarthBanks$Slides" "leastHeights" "[I") k_4_23) (fun _ h9 => h9) rfl dX3_meetWay_79 ?_
        refine lv_iconst (v := 0) hx hb dX3_meetWay_82 (by decide) ?_
        refine lv_bipush (v := 8) hx hb dX3_meetWay_83 (by decide) ?_
        refine va_copyi (ty := .int) hx hb (hml.trans hl.1.symm) hown (hts (.methodLink RX3 90 arraycopyName) k_26_10) (hts (.native arraycopyName) k_13_10) (hts (.static arraycopyName) k_13_11) (hts (.initialized "java/lang/System") k_13_12) hK hP hD hS 1 2 0 0 rfl rfl rfl rfl rfl (by decide) (by decide) (by decide) (by decide) (by decide) (fun _ _ => rfl) (Nat.le_of_ble_eq_true rfl) (by decide) dX3_meetWay_85 (fun H locs hP hD hS => ?_)
        have hP : va_P G vwCl [(o, .inr (3, [.ref a_re, .ref a_bu, .ref a_hg, .int sa, .int am, .ref a_ba, .int 1, .int (bl + 1), .int (mgI dr rs), .int sa, .ref a_lh])), (a_hg, .inl (cI, 8, .inl hg)), (a_lh, .inl (cI, 8, .inl (va_cpy hg lh (0 : Int32).toNatClampNeg (0 : Int32).toNatClampNeg (8 : Int32).toNatClampNeg)))] H := hP
        have hD : va_D A [(o, .inr (3, [.ref a_re, .ref a_bu, .ref a_hg, .int sa, .int am, .ref a_ba, .int 1, .int (bl + 1), .int (mgI dr rs), .int sa, .ref a_lh])), (a_hg, .inl (cI, 8, .inl hg)), (a_lh, .inl (cI, 8, .inl (va_cpy hg lh (0 : Int32).toNatClampNeg (0 : Int32).toNatClampNeg (8 : Int32).toNatClampNeg)))] := hD
        have hP := P_swap hP 2 hg rfl (fun k h9 => cpy_all h9)
        have hD := D_swap hD 2 (.inl (cI, 8, .inl hg)) rfl
        have hP : va_P G vwCl [(o, .inr (3, [.ref a_re, .ref a_bu, .ref a_hg, .int sa, .int am, .ref a_ba, .int 1, .int (bl + 1), .int (mgI dr rs), .int sa, .ref a_lh])), (a_hg, .inl (cI, 8, .inl hg)), (a_lh, .inl (cI, 8, .inl hg))] H := hP
        have hD : va_D A [(o, .inr (3, [.ref a_re, .ref a_bu, .ref a_hg, .int sa, .int am, .ref a_ba, .int 1, .int (bl + 1), .int (mgI dr rs), .int sa, .ref a_lh])), (a_hg, .inl (cI, 8, .inl hg)), (a_lh, .inl (cI, 8, .inl hg))] := hD
        have ew_22 : (1 : Int32) = bI true := by simp [bI, c_1, c_3, c_21]
        have ew_23 : ((bl + 1) : Int32) = if am ≤ mgI dr rs then bl else bl + 1 := by simp [bI, c_1, c_3, c_21]
        have ew_24 : ((mgI dr rs) : Int32) = if (!fo || decide (mgI dr rs < lm)) = true then mgI dr rs else lm := by simp [bI, c_1, c_3, c_21]
        have ew_25 : (sa : Int32) = if (!fo || decide (mgI dr rs < lm)) = true then sa else lt := by simp [bI, c_1, c_3, c_21]
        have ew_26 : hg = (if (!fo || decide (mgI dr rs < lm)) = true then hg else lh) := by simp [bI, c_1, c_3, c_21]
        have hP : va_P G vwCl [(o, .inr (3, [.ref a_re, .ref a_bu, .ref a_hg, .int sa, .int am, .ref a_ba, .int (bI true), .int (if am ≤ mgI dr rs then bl else bl + 1), .int (if (!fo || decide (mgI dr rs < lm)) = true then mgI dr rs else lm), .int (if (!fo || decide (mgI dr rs < lm)) = true then sa else lt), .ref a_lh])), (a_hg, .inl (cI, 8, .inl hg)), (a_lh, .inl (cI, 8, .inl (if (!fo || decide (mgI dr rs < lm)) = true then hg else lh)))] H := by rw [← ew_22, ← ew_23, ← ew_24, ← ew_25, ← ew_26]; exact hP
        exact retWv () hx hb hr hlocks dX3_meetWay_88 hS (trivial) hP
      · skip
        have c_21 : fo = true := bI_t c_21
        refine lv_iload_n hx hb dX3_meetWay_46 rfl (lv_at hl 0 rfl) ?_
        refine lv_aload_n hx hb dX3_meetWay_47 rfl (lv_at hl 1 rfl) ?_
        refine va_get (D := G) (ci := 3) (v := .int lm) (C := RX3) (T := TX3) (N := 11) hx hb hts inlX3 hown hK hP 0 rfl rfl 8 (by decide) (hts (.fieldLink RX3 38 "EarthBanks$Slides" "leastMargin" "I") k_4_21) (fun _ h9 => h9) rfl dX3_meetWay_48 ?_
        refine lv_icmp_lt (tgt := 55) hx hb dX3_meetWay_51 (by decide) (fun c_27 => ?_) (fun c_27 => ?_)
        · skip
          refine lv_aload_n hx hb dX3_meetWay_55 rfl (lv_at hl 1 rfl) ?_
          refine lv_iconst (v := 1) hx hb dX3_meetWay_56 (by decide) ?_
          refine va_put (D := G) (ci := 3) (v := .int 1) (ty := .boolean) (C := RX3) (T := TX3) (N := 11) hx hb hts inlX3 tyX3 tyX3_ok nmX3 hown hK hP hD hS 0 rfl rfl 6 (by decide) (hts (.fieldLink RX3 31 "EarthBanks$Slides" "found" "Z") k_4_19) (fun _ h9 => h9) rfl (by decide +kernel) (rfl) (rfl) (Nat.le_of_ble_eq_true rfl) dX3_meetWay_57 (fun H locs hP hD hS => ?_)
          have hP : va_P G vwCl [(o, .inr (3, [.ref a_re, .ref a_bu, .ref a_hg, .int sa, .int am, .ref a_ba, .int 1, .int (bl + 1), .int lm, .int lt, .ref a_lh])), (a_hg, .inl (cI, 8, .inl hg)), (a_lh, .inl (cI, 8, .inl lh))] H := hP
          have hD : va_D A [(o, .inr (3, [.ref a_re, .ref a_bu, .ref a_hg, .int sa, .int am, .ref a_ba, .int 1, .int (bl + 1), .int lm, .int lt, .ref a_lh])), (a_hg, .inl (cI, 8, .inl hg)), (a_lh, .inl (cI, 8, .inl lh))] := hD
          refine lv_aload_n hx hb dX3_meetWay_60 rfl (lv_at hl 1 rfl) ?_
          refine lv_iload_n hx hb dX3_meetWay_61 rfl (lv_at hl 0 rfl) ?_
          refine va_put (D := G) (ci := 3) (v := .int (mgI dr rs)) (ty := .int) (C := RX3) (T := TX3) (N := 11) hx hb hts inlX3 tyX3 tyX3_ok nmX3 hown hK hP hD hS 0 rfl rfl 8 (by decide) (hts (.fieldLink RX3 38 "EarthBanks$Slides" "leastMargin" "I") k_4_21) (fun _ h9 => h9) rfl (by decide +kernel) (rfl) (rfl) (Nat.le_of_ble_eq_true rfl) dX3_meetWay_62 (fun H locs hP hD hS => ?_)
          have hP : va_P G vwCl [(o, .inr (3, [.ref a_re, .ref a_bu, .ref a_hg, .int sa, .int am, .ref a_ba, .int 1, .int (bl + 1), .int (mgI dr rs), .int lt, .ref a_lh])), (a_hg, .inl (cI, 8, .inl hg)), (a_lh, .inl (cI, 8, .inl lh))] H := hP
          have hD : va_D A [(o, .inr (3, [.ref a_re, .ref a_bu, .ref a_hg, .int sa, .int am, .ref a_ba, .int 1, .int (bl + 1), .int (mgI dr rs), .int lt, .ref a_lh])), (a_hg, .inl (cI, 8, .inl hg)), (a_lh, .inl (cI, 8, .inl lh))] := hD
          refine lv_aload_n hx hb dX3_meetWay_65 rfl (lv_at hl 1 rfl) ?_
          refine lv_aload_n hx hb dX3_meetWay_66 rfl (lv_at hl 1 rfl) ?_
          refine va_get (D := G) (ci := 3) (v := .int sa) (C := RX3) (T := TX3) (N := 11) hx hb hts inlX3 hown hK hP 0 rfl rfl 3 (by decide) (hts (.fieldLink RX3 21 "EarthBanks$Slides" "start" "I") k_4_16) (fun _ h9 => h9) rfl dX3_meetWay_67 ?_
          refine va_put (D := G) (ci := 3) (v := .int sa) (ty := .int) (C := RX3) (T := TX3) (N := 11) hx hb hts inlX3 tyX3 tyX3_ok nmX3 hown hK hP hD hS 0 rfl rfl 9 (by decide) (hts (.fieldLink RX3 41 "EarthBanks$Slides" "leastStart" "I") k_4_22) (fun _ h9 => h9) rfl (by decide +kernel) (rfl) (rfl) (Nat.le_of_ble_eq_true rfl) dX3_meetWay_70 (fun H locs hP hD hS => ?_)
          have hP : va_P G vwCl [(o, .inr (3, [.ref a_re, .ref a_bu, .ref a_hg, .int sa, .int am, .ref a_ba, .int 1, .int (bl + 1), .int (mgI dr rs), .int sa, .ref a_lh])), (a_hg, .inl (cI, 8, .inl hg)), (a_lh, .inl (cI, 8, .inl lh))] H := hP
          have hD : va_D A [(o, .inr (3, [.ref a_re, .ref a_bu, .ref a_hg, .int sa, .int am, .ref a_ba, .int 1, .int (bl + 1), .int (mgI dr rs), .int sa, .ref a_lh])), (a_hg, .inl (cI, 8, .inl hg)), (a_lh, .inl (cI, 8, .inl lh))] := hD
          refine lv_aload_n hx hb dX3_meetWay_73 rfl (lv_at hl 1 rfl) ?_
          refine va_get (D := G) (ci := 3) (v := .ref a_hg) (C := RX3) (T := TX3) (N := 11) hx hb hts inlX3 hown hK hP 0 rfl rfl 2 (by decide) (hts (.fieldLink RX3 18 "EarthBanks$Slides" "heights" "[I") k_4_15) (fun _ h9 => h9) rfl dX3_meetWay_74 ?_
          refine lv_iconst (v := 0) hx hb dX3_meetWay_77 (by decide) ?_
          refine lv_aload_n hx hb dX3_meetWay_78 rfl (lv_at hl 1 rfl) ?_
          refine va_get (D := G) (ci := 3) (v := .ref a_lh) (C := RX3) (T := TX3) (N := 11) hx hb hts inlX3 hown hK hP 0 rfl rfl 10 (by decide) (hts (.fieldLink RX3 44 "EarthBanks$Slides" "leastHeights" "[I") k_4_23) (fun _ h9 => h9) rfl dX3_meetWay_79 ?_
          refine lv_iconst (v := 0) hx hb dX3_meetWay_82 (by decide) ?_
          refine lv_bipush (v := 8) hx hb dX3_meetWay_83 (by decide) ?_
          refine va_copyi (ty := .int) hx hb (hml.trans hl.1.symm) hown (hts (.methodLink RX3 90 arraycopyName) k_26_10) (hts (.native arraycopyName) k_13_10) (hts (.static arraycopyName) k_13_11) (hts (.initialized "java/lang/System") k_13_12) hK hP hD hS 1 2 0 0 rfl rfl rfl rfl rfl (by decide) (by decide) (by decide) (by decide) (by decide) (fun _ _ => rfl) (Nat.le_of_ble_eq_true rfl) (by decide) dX3_meetWay_85 (fun H locs hP hD hS => ?_)
          have hP : va_P G vwCl [(o, .inr (3, [.ref a_re, .ref a_bu, .ref a_hg, .int sa, .int am, .ref a_ba, .int 1, .int (bl + 1), .int (mgI dr rs), .int sa, .ref a_lh])), (a_hg, .inl (cI, 8, .inl hg)), (a_lh, .inl (cI, 8, .inl (va_cpy hg lh (0 : Int32).toNatClampNeg (0 : Int32).toNatClampNeg (8 : Int32).toNatClampNeg)))] H := hP
          have hD : va_D A [(o, .inr (3, [.ref a_re, .ref a_bu, .ref a_hg, .int sa, .int am, .ref a_ba, .int 1, .int (bl + 1), .int (mgI dr rs), .int sa, .ref a_lh])), (a_hg, .inl (cI, 8, .inl hg)), (a_lh, .inl (cI, 8, .inl (va_cpy hg lh (0 : Int32).toNatClampNeg (0 : Int32).toNatClampNeg (8 : Int32).toNatClampNeg)))] := hD
          have hP := P_swap hP 2 hg rfl (fun k h9 => cpy_all h9)
          have hD := D_swap hD 2 (.inl (cI, 8, .inl hg)) rfl
          have hP : va_P G vwCl [(o, .inr (3, [.ref a_re, .ref a_bu, .ref a_hg, .int sa, .int am, .ref a_ba, .int 1, .int (bl + 1), .int (mgI dr rs), .int sa, .ref a_lh])), (a_hg, .inl (cI, 8, .inl hg)), (a_lh, .inl (cI, 8, .inl hg))] H := hP
          have hD : va_D A [(o, .inr (3, [.ref a_re, .ref a_bu, .ref a_hg, .int sa, .int am, .ref a_ba, .int 1, .int (bl + 1), .int (mgI dr rs), .int sa, .ref a_lh])), (a_hg, .inl (cI, 8, .inl hg)), (a_lh, .inl (cI, 8, .inl hg))] := hD
          have ew_28 : (1 : Int32) = bI true := by simp [bI, c_1, c_3, c_21, c_27]
          have ew_29 : ((bl + 1) : Int32) = if am ≤ mgI dr rs then bl else bl + 1 := by simp [bI, c_1, c_3, c_21, c_27]
          have ew_30 : ((mgI dr rs) : Int32) = if (!fo || decide (mgI dr rs < lm)) = true then mgI dr rs else lm := by simp [bI, c_1, c_3, c_21, c_27]
          have ew_31 : (sa : Int32) = if (!fo || decide (mgI dr rs < lm)) = true then sa else lt := by simp [bI, c_1, c_3, c_21, c_27]
          have ew_32 : hg = (if (!fo || decide (mgI dr rs < lm)) = true then hg else lh) := by simp [bI, c_1, c_3, c_21, c_27]
          have hP : va_P G vwCl [(o, .inr (3, [.ref a_re, .ref a_bu, .ref a_hg, .int sa, .int am, .ref a_ba, .int (bI true), .int (if am ≤ mgI dr rs then bl else bl + 1), .int (if (!fo || decide (mgI dr rs < lm)) = true then mgI dr rs else lm), .int (if (!fo || decide (mgI dr rs < lm)) = true then sa else lt), .ref a_lh])), (a_hg, .inl (cI, 8, .inl hg)), (a_lh, .inl (cI, 8, .inl (if (!fo || decide (mgI dr rs < lm)) = true then hg else lh)))] H := by rw [← ew_28, ← ew_29, ← ew_30, ← ew_31, ← ew_32]; exact hP
          exact retWv () hx hb hr hlocks dX3_meetWay_88 hS (trivial) hP
        · skip
          have ew_33 : (bI fo : Int32) = bI true := by simp [bI, c_1, c_3, c_21, c_27]
          have ew_34 : ((bl + 1) : Int32) = if am ≤ mgI dr rs then bl else bl + 1 := by simp [bI, c_1, c_3, c_21, c_27]
          have ew_35 : (lm : Int32) = if (!fo || decide (mgI dr rs < lm)) = true then mgI dr rs else lm := by simp [bI, c_1, c_3, c_21, c_27]
          have ew_36 : (lt : Int32) = if (!fo || decide (mgI dr rs < lm)) = true then sa else lt := by simp [bI, c_1, c_3, c_21, c_27]
          have ew_37 : lh = (if (!fo || decide (mgI dr rs < lm)) = true then hg else lh) := by simp [bI, c_1, c_3, c_21, c_27]
          have hP : va_P G vwCl [(o, .inr (3, [.ref a_re, .ref a_bu, .ref a_hg, .int sa, .int am, .ref a_ba, .int (bI true), .int (if am ≤ mgI dr rs then bl else bl + 1), .int (if (!fo || decide (mgI dr rs < lm)) = true then mgI dr rs else lm), .int (if (!fo || decide (mgI dr rs < lm)) = true then sa else lt), .ref a_lh])), (a_hg, .inl (cI, 8, .inl hg)), (a_lh, .inl (cI, 8, .inl (if (!fo || decide (mgI dr rs < lm)) = true then hg else lh)))] H := by rw [← ew_33, ← ew_34, ← ew_35, ← ew_36, ← ew_37]; exact hP
          exact retWv () hx hb hr hlocks dX3_meetWay_54 hS (trivial) hP
  · skip
    refine lv_sipush (v := 9999) hx hb dX3_meetWay_8 (by decide) ?_
    refine lv_bipush (v := 100) hx hb dX3_meetWay_11 (by decide) ?_
    refine lv_iload_n hx hb dX3_meetWay_13 rfl (lv_at hl 3 rfl) ?_
    refine lv_imul hx hb dX3_meetWay_14 ?_
    refine lv_iload_n hx hb dX3_meetWay_15 rfl (lv_at hl 2 rfl) ?_
    refine lv_idiv hx hb dX3_meetWay_16 (nz_nle c_1) ?_
    refine va_mmin hx hb (hml.trans hl.1.symm) hown (hts (.methodLink RX3 85 Lib.Math.min.name) k_26_9) (hts (.static Lib.Math.min.name) k_9_18) (hts (.initialized "java/lang/Math") k_9_19) (hts (.code Lib.Math.min.name Lib.Math.min.code 2 (some .int)) k_9_20) (Nat.le_of_ble_eq_true rfl) (Nat.le_of_ble_eq_true rfl) (Nat.zero_le _) (Nat.zero_le _) dX3_meetWay_17 ?_
    refine lv_istore_n (lv' := [(3, .int (if ((100 * rs) / dr) < 9999 then ((100 * rs) / dr) else 9999)), (0, .ref o), (1, .int dr), (2, .int rs)]) hx hb dX3_meetWay_20 rfl hl (by decide) rfl (fun ls hl => ?_)
    have em_38 : ((if ((100 * rs) / dr) < 9999 then ((100 * rs) / dr) else 9999) : Int32) = (mgI dr rs) := by simp [mgI, c_1]
    have hl : lv_has ls 4 [(3, .int (mgI dr rs)), (0, .ref o), (1, .int dr), (2, .int rs)] := by rw [← em_38]; exact hl
    refine lv_iload_n hx hb dX3_meetWay_21 rfl (lv_at hl 0 rfl) ?_
    refine lv_aload_n hx hb dX3_meetWay_22 rfl (lv_at hl 1 rfl) ?_
    refine va_get (D := G) (ci := 3) (v := .int am) (C := RX3) (T := TX3) (N := 11) hx hb hts inlX3 hown hK hP 0 rfl rfl 4 (by decide) (hts (.fieldLink RX3 25 "EarthBanks$Slides" "aim" "I") k_4_17) (fun _ h9 => h9) rfl dX3_meetWay_23 ?_
    refine lv_icmp_ge (tgt := 39) hx hb dX3_meetWay_26 (by decide) (fun c_39 => ?_) (fun c_39 => ?_)
    · skip
      refine lv_aload_n hx hb dX3_meetWay_39 rfl (lv_at hl 1 rfl) ?_
      refine va_get (D := G) (ci := 3) (v := .int (bI fo)) (C := RX3) (T := TX3) (N := 11) hx hb hts inlX3 hown hK hP 0 rfl rfl 6 (by decide) (hts (.fieldLink RX3 31 "EarthBanks$Slides" "found" "Z") k_4_19) (fun _ h9 => h9) rfl dX3_meetWay_40 ?_
      refine lv_if_eq (tgt := 55) hx hb dX3_meetWay_43 (by decide) (fun c_40 => ?_) (fun c_40 => ?_)
      · skip
        have c_40 : fo = false := bI_f c_40
        refine lv_aload_n hx hb dX3_meetWay_55 rfl (lv_at hl 1 rfl) ?_
        refine lv_iconst (v := 1) hx hb dX3_meetWay_56 (by decide) ?_
        refine va_put (D := G) (ci := 3) (v := .int 1) (ty := .boolean) (C := RX3) (T := TX3) (N := 11) hx hb hts inlX3 tyX3 tyX3_ok nmX3 hown hK hP hD hS 0 rfl rfl 6 (by decide) (hts (.fieldLink RX3 31 "EarthBanks$Slides" "found" "Z") k_4_19) (fun _ h9 => h9) rfl (by decide +kernel) (rfl) (rfl) (Nat.le_of_ble_eq_true rfl) dX3_meetWay_57 (fun H locs hP hD hS => ?_)
        have hP : va_P G vwCl [(o, .inr (3, [.ref a_re, .ref a_bu, .ref a_hg, .int sa, .int am, .ref a_ba, .int 1, .int bl, .int lm, .int lt, .ref a_lh])), (a_hg, .inl (cI, 8, .inl hg)), (a_lh, .inl (cI, 8, .inl lh))] H := hP
        have hD : va_D A [(o, .inr (3, [.ref a_re, .ref a_bu, .ref a_hg, .int sa, .int am, .ref a_ba, .int 1, .int bl, .int lm, .int lt, .ref a_lh])), (a_hg, .inl (cI, 8, .inl hg)), (a_lh, .inl (cI, 8, .inl lh))] := hD
        refine lv_aload_n hx hb dX3_meetWay_60 rfl (lv_at hl 1 rfl) ?_
        refine lv_iload_n hx hb dX3_meetWay_61 rfl (lv_at hl 0 rfl) ?_
        refine va_put (D := G) (ci := 3) (v := .int (mgI dr rs)) (ty := .int) (C := RX3) (T := TX3) (N := 11) hx hb hts inlX3 tyX3 tyX3_ok nmX3 hown hK hP hD hS 0 rfl rfl 8 (by decide) (hts (.fieldLink RX3 38 "EarthBanks$Slides" "leastMargin" "I") k_4_21) (fun _ h9 => h9) rfl (by decide +kernel) (rfl) (rfl) (Nat.le_of_ble_eq_true rfl) dX3_meetWay_62 (fun H locs hP hD hS => ?_)
        have hP : va_P G vwCl [(o, .inr (3, [.ref a_re, .ref a_bu, .ref a_hg, .int sa, .int am, .ref a_ba, .int 1, .int bl, .int (mgI dr rs), .int lt, .ref a_lh])), (a_hg, .inl (cI, 8, .inl hg)), (a_lh, .inl (cI, 8, .inl lh))] H := hP
        have hD : va_D A [(o, .inr (3, [.ref a_re, .ref a_bu, .ref a_hg, .int sa, .int am, .ref a_ba, .int 1, .int bl, .int (mgI dr rs), .int lt, .ref a_lh])), (a_hg, .inl (cI, 8, .inl hg)), (a_lh, .inl (cI, 8, .inl lh))] := hD
        refine lv_aload_n hx hb dX3_meetWay_65 rfl (lv_at hl 1 rfl) ?_
        refine lv_aload_n hx hb dX3_meetWay_66 rfl (lv_at hl 1 rfl) ?_
        refine va_get (D := G) (ci := 3) (v := .int sa) (C := RX3) (T := TX3) (N := 11) hx hb hts inlX3 hown hK hP 0 rfl rfl 3 (by decide) (hts (.fieldLink RX3 21 "EarthBanks$Slides" "start" "I") k_4_16) (fun _ h9 => h9) rfl dX3_meetWay_67 ?_
        refine va_put (D := G) (ci := 3) (v := .int sa) (ty := .int) (C := RX3) (T := TX3) (N := 11) hx hb hts inlX3 tyX3 tyX3_ok nmX3 hown hK hP hD hS 0 rfl rfl 9 (by decide) (hts (.fieldLink RX3 41 "EarthBanks$Slides" "leastStart" "I") k_4_22) (fun _ h9 => h9) rfl (by decide +kernel) (rfl) (rfl) (Nat.le_of_ble_eq_true rfl) dX3_meetWay_70 (fun H locs hP hD hS => ?_)
        have hP : va_P G vwCl [(o, .inr (3, [.ref a_re, .ref a_bu, .ref a_hg, .int sa, .int am, .ref a_ba, .int 1, .int bl, .int (mgI dr rs), .int sa, .ref a_lh])), (a_hg, .inl (cI, 8, .inl hg)), (a_lh, .inl (cI, 8, .inl lh))] H := hP
        have hD : va_D A [(o, .inr (3, [.ref a_re, .ref a_bu, .ref a_hg, .int sa, .int am, .ref a_ba, .int 1, .int bl, .int (mgI dr rs), .int sa, .ref a_lh])), (a_hg, .inl (cI, 8, .inl hg)), (a_lh, .inl (cI, 8, .inl lh))] := hD
        refine lv_aload_n hx hb dX3_meetWay_73 rfl (lv_at hl 1 rfl) ?_
        refine va_get (D := G) (ci := 3) (v := .ref a_hg) (C := RX3) (T := TX3) (N := 11) hx hb hts inlX3 hown hK hP 0 rfl rfl 2 (by decide) (hts (.fieldLink RX3 18 "EarthBanks$Slides" "heights" "[I") k_4_15) (fun _ h9 => h9) rfl dX3_meetWay_74 ?_
        refine lv_iconst (v := 0) hx hb dX3_meetWay_77 (by decide) ?_
        refine lv_aload_n hx hb dX3_meetWay_78 rfl (lv_at hl 1 rfl) ?_
        refine va_get (D := G) (ci := 3) (v := .ref a_lh) (C := RX3) (T := TX3) (N := 11) hx hb hts inlX3 hown hK hP 0 rfl rfl 10 (by decide) (hts (.fieldLink RX3 44 "EarthBanks$Slides" "leastHeights" "[I") k_4_23) (fun _ h9 => h9) rfl dX3_meetWay_79 ?_
        refine lv_iconst (v := 0) hx hb dX3_meetWay_82 (by decide) ?_
        refine lv_bipush (v := 8) hx hb dX3_meetWay_83 (by decide) ?_
        refine va_copyi (ty := .int) hx hb (hml.trans hl.1.symm) hown (hts (.methodLink RX3 90 arraycopyName) k_26_10) (hts (.native arraycopyName) k_13_10) (hts (.static arraycopyName) k_13_11) (hts (.initialized "java/lang/System") k_13_12) hK hP hD hS 1 2 0 0 rfl rfl rfl rfl rfl (by decide) (by decide) (by decide) (by decide) (by decide) (fun _ _ => rfl) (Nat.le_of_ble_eq_true rfl) (by decide) dX3_meetWay_85 (fun H locs hP hD hS => ?_)
        have hP : va_P G vwCl [(o, .inr (3, [.ref a_re, .ref a_bu, .ref a_hg, .int sa, .int am, .ref a_ba, .int 1, .int bl, .int (mgI dr rs), .int sa, .ref a_lh])), (a_hg, .inl (cI, 8, .inl hg)), (a_lh, .inl (cI, 8, .inl (va_cpy hg lh (0 : Int32).toNatClampNeg (0 : Int32).toNatClampNeg (8 : Int32).toNatClampNeg)))] H := hP
        have hD : va_D A [(o, .inr (3, [.ref a_re, .ref a_bu, .ref a_hg, .int sa, .int am, .ref a_ba, .int 1, .int bl, .int (mgI dr rs), .int sa, .ref a_lh])), (a_hg, .inl (cI, 8, .inl hg)), (a_lh, .inl (cI, 8, .inl (va_cpy hg lh (0 : Int32).toNatClampNeg (0 : Int32).toNatClampNeg (8 : Int32).toNatClampNeg)))] := hD
        have hP := P_swap hP 2 hg rfl (fun k h9 => cpy_all h9)
        have hD := D_swap hD 2 (.inl (cI, 8, .inl hg)) rfl
        have hP : va_P G vwCl [(o, .inr (3, [.ref a_re, .ref a_bu, .ref a_hg, .int sa, .int am, .ref a_ba, .int 1, .int bl, .int (mgI dr rs), .int sa, .ref a_lh])), (a_hg, .inl (cI, 8, .inl hg)), (a_lh, .inl (cI, 8, .inl hg))] H := hP
        have hD : va_D A [(o, .inr (3, [.ref a_re, .ref a_bu, .ref a_hg, .int sa, .int am, .ref a_ba, .int 1, .int bl, .int (mgI dr rs), .int sa, .ref a_lh])), (a_hg, .inl (cI, 8, .inl hg)), (a_lh, .inl (cI, 8, .inl hg))] := hD
        have ew_41 : (1 : Int32) = bI true := by simp [bI, c_1, c_39, c_40]
        have ew_42 : (bl : Int32) = if am ≤ mgI dr rs then bl else bl + 1 := by simp [bI, c_1, c_39, c_40]
        have ew_43 : ((mgI dr rs) : Int32) = if (!fo || decide (mgI dr rs < lm)) = true then mgI dr rs else lm := by simp [bI, c_1, c_39, c_40]
        have ew_44 : (sa : Int32) = if (!fo || decide (mgI dr rs < lm)) = true then sa else lt := by simp [bI, c_1, c_39, c_40]
        have ew_45 : hg = (if (!fo || decide (mgI dr rs < lm)) = true then hg else lh) := by simp [bI, c_1, c_39, c_40]
        have hP : va_P G vwCl [(o, .inr (3, [.ref a_re, .ref a_bu, .ref a_hg, .int sa, .int am, .ref a_ba, .int (bI true), .int (if am ≤ mgI dr rs then bl else bl + 1), .int (if (!fo || decide (mgI dr rs < lm)) = true then mgI dr rs else lm), .int (if (!fo || decide (mgI dr rs < lm)) = true then sa else lt), .ref a_lh])), (a_hg, .inl (cI, 8, .inl hg)), (a_lh, .inl (cI, 8, .inl (if (!fo || decide (mgI dr rs < lm)) = true then hg else lh)))] H := by rw [← ew_41, ← ew_42, ← ew_43, ← ew_44, ← ew_45]; exact hP
        exact retWv () hx hb hr hlocks dX3_meetWay_88 hS (trivial) hP
      · skip
        have c_40 : fo = true := bI_t c_40
        refine lv_iload_n hx hb dX3_meetWay_46 rfl (lv_at hl 0 rfl) ?_
        refine lv_aload_n hx hb dX3_meetWay_47 rfl (lv_at hl 1 rfl) ?_
        refine va_get (D := G) (ci := 3) (v := .int lm) (C := RX3) (T := TX3) (N := 11) hx hb hts inlX3 hown hK hP 0 rfl rfl 8 (by decide) (hts (.fieldLink RX3 38 "EarthBanks$Slides" "leastMargin" "I") k_4_21) (fun _ h9 => h9) rfl dX3_meetWay_48 ?_
        refine lv_icmp_lt (tgt := 55) hx hb dX3_meetWay_51 (by decide) (fun c_46 => ?_) (fun c_46 => ?_)
        · skip
          refine lv_aload_n hx hb dX3_meetWay_55 rfl (lv_at hl 1 rfl) ?_
          refine lv_iconst (v := 1) hx hb dX3_meetWay_56 (by decide) ?_
          refine va_put (D := G) (ci := 3) (v := .int 1) (ty := .boolean) (C := RX3) (T := TX3) (N := 11) hx hb hts inlX3 tyX3 tyX3_ok nmX3 hown hK hP hD hS 0 rfl rfl 6 (by decide) (hts (.fieldLink RX3 31 "EarthBanks$Slides" "found" "Z") k_4_19) (fun _ h9 => h9) rfl (by decide +kernel) (rfl) (rfl) (Nat.le_of_ble_eq_true rfl) dX3_meetWay_57 (fun H locs hP hD hS => ?_)
          have hP : va_P G vwCl [(o, .inr (3, [.ref a_re, .ref a_bu, .ref a_hg, .int sa, .int am, .ref a_ba, .int 1, .int bl, .int lm, .int lt, .ref a_lh])), (a_hg, .inl (cI, 8, .inl hg)), (a_lh, .inl (cI, 8, .inl lh))] H := hP
          have hD : va_D A [(o, .inr (3, [.ref a_re, .ref a_bu, .ref a_hg, .int sa, .int am, .ref a_ba, .int 1, .int bl, .int lm, .int lt, .ref a_lh])), (a_hg, .inl (cI, 8, .inl hg)), (a_lh, .inl (cI, 8, .inl lh))] := hD
          refine lv_aload_n hx hb dX3_meetWay_60 rfl (lv_at hl 1 rfl) ?_
          refine lv_iload_n hx hb dX3_meetWay_61 rfl (lv_at hl 0 rfl) ?_
          refine va_put (D := G) (ci := 3) (v := .int (mgI dr rs)) (ty := .int) (C := RX3) (T := TX3) (N := 11) hx hb hts inlX3 tyX3 tyX3_ok nmX3 hown hK hP hD hS 0 rfl rfl 8 (by decide) (hts (.fieldLink RX3 38 "EarthBanks$Slides" "leastMargin" "I") k_4_21) (fun _ h9 => h9) rfl (by decide +kernel) (rfl) (rfl) (Nat.le_of_ble_eq_true rfl) dX3_meetWay_62 (fun H locs hP hD hS => ?_)
          have hP : va_P G vwCl [(o, .inr (3, [.ref a_re, .ref a_bu, .ref a_hg, .int sa, .int am, .ref a_ba, .int 1, .int bl, .int (mgI dr rs), .int lt, .ref a_lh])), (a_hg, .inl (cI, 8, .inl hg)), (a_lh, .inl (cI, 8, .inl lh))] H := hP
          have hD : va_D A [(o, .inr (3, [.ref a_re, .ref a_bu, .ref a_hg, .int sa, .int am, .ref a_ba, .int 1, .int bl, .int (mgI dr rs), .int lt, .ref a_lh])), (a_hg, .inl (cI, 8, .inl hg)), (a_lh, .inl (cI, 8, .inl lh))] := hD
          refine lv_aload_n hx hb dX3_meetWay_65 rfl (lv_at hl 1 rfl) ?_
          refine lv_aload_n hx hb dX3_meetWay_66 rfl (lv_at hl 1 rfl) ?_
          refine va_get (D := G) (ci := 3) (v := .int sa) (C := RX3) (T := TX3) (N := 11) hx hb hts inlX3 hown hK hP 0 rfl rfl 3 (by decide) (hts (.fieldLink RX3 21 "EarthBanks$Slides" "start" "I") k_4_16) (fun _ h9 => h9) rfl dX3_meetWay_67 ?_
          refine va_put (D := G) (ci := 3) (v := .int sa) (ty := .int) (C := RX3) (T := TX3) (N := 11) hx hb hts inlX3 tyX3 tyX3_ok nmX3 hown hK hP hD hS 0 rfl rfl 9 (by decide) (hts (.fieldLink RX3 41 "EarthBanks$Slides" "leastStart" "I") k_4_22) (fun _ h9 => h9) rfl (by decide +kernel) (rfl) (rfl) (Nat.le_of_ble_eq_true rfl) dX3_meetWay_70 (fun H locs hP hD hS => ?_)
          have hP : va_P G vwCl [(o, .inr (3, [.ref a_re, .ref a_bu, .ref a_hg, .int sa, .int am, .ref a_ba, .int 1, .int bl, .int (mgI dr rs), .int sa, .ref a_lh])), (a_hg, .inl (cI, 8, .inl hg)), (a_lh, .inl (cI, 8, .inl lh))] H := hP
          have hD : va_D A [(o, .inr (3, [.ref a_re, .ref a_bu, .ref a_hg, .int sa, .int am, .ref a_ba, .int 1, .int bl, .int (mgI dr rs), .int sa, .ref a_lh])), (a_hg, .inl (cI, 8, .inl hg)), (a_lh, .inl (cI, 8, .inl lh))] := hD
          refine lv_aload_n hx hb dX3_meetWay_73 rfl (lv_at hl 1 rfl) ?_
          refine va_get (D := G) (ci := 3) (v := .ref a_hg) (C := RX3) (T := TX3) (N := 11) hx hb hts inlX3 hown hK hP 0 rfl rfl 2 (by decide) (hts (.fieldLink RX3 18 "EarthBanks$Slides" "heights" "[I") k_4_15) (fun _ h9 => h9) rfl dX3_meetWay_74 ?_
          refine lv_iconst (v := 0) hx hb dX3_meetWay_77 (by decide) ?_
          refine lv_aload_n hx hb dX3_meetWay_78 rfl (lv_at hl 1 rfl) ?_
          refine va_get (D := G) (ci := 3) (v := .ref a_lh) (C := RX3) (T := TX3) (N := 11) hx hb hts inlX3 hown hK hP 0 rfl rfl 10 (by decide) (hts (.fieldLink RX3 44 "EarthBanks$Slides" "leastHeights" "[I") k_4_23) (fun _ h9 => h9) rfl dX3_meetWay_79 ?_
          refine lv_iconst (v := 0) hx hb dX3_meetWay_82 (by decide) ?_
          refine lv_bipush (v := 8) hx hb dX3_meetWay_83 (by decide) ?_
          refine va_copyi (ty := .int) hx hb (hml.trans hl.1.symm) hown (hts (.methodLink RX3 90 arraycopyName) k_26_10) (hts (.native arraycopyName) k_13_10) (hts (.static arraycopyName) k_13_11) (hts (.initialized "java/lang/System") k_13_12) hK hP hD hS 1 2 0 0 rfl rfl rfl rfl rfl (by decide) (by decide) (by decide) (by decide) (by decide) (fun _ _ => rfl) (Nat.le_of_ble_eq_true rfl) (by decide) dX3_meetWay_85 (fun H locs hP hD hS => ?_)
          have hP : va_P G vwCl [(o, .inr (3, [.ref a_re, .ref a_bu, .ref a_hg, .int sa, .int am, .ref a_ba, .int 1, .int bl, .int (mgI dr rs), .int sa, .ref a_lh])), (a_hg, .inl (cI, 8, .inl hg)), (a_lh, .inl (cI, 8, .inl (va_cpy hg lh (0 : Int32).toNatClampNeg (0 : Int32).toNatClampNeg (8 : Int32).toNatClampNeg)))] H := hP
          have hD : va_D A [(o, .inr (3, [.ref a_re, .ref a_bu, .ref a_hg, .int sa, .int am, .ref a_ba, .int 1, .int bl, .int (mgI dr rs), .int sa, .ref a_lh])), (a_hg, .inl (cI, 8, .inl hg)), (a_lh, .inl (cI, 8, .inl (va_cpy hg lh (0 : Int32).toNatClampNeg (0 : Int32).toNatClampNeg (8 : Int32).toNatClampNeg)))] := hD
          have hP := P_swap hP 2 hg rfl (fun k h9 => cpy_all h9)
          have hD := D_swap hD 2 (.inl (cI, 8, .inl hg)) rfl
          have hP : va_P G vwCl [(o, .inr (3, [.ref a_re, .ref a_bu, .ref a_hg, .int sa, .int am, .ref a_ba, .int 1, .int bl, .int (mgI dr rs), .int sa, .ref a_lh])), (a_hg, .inl (cI, 8, .inl hg)), (a_lh, .inl (cI, 8, .inl hg))] H := hP
          have hD : va_D A [(o, .inr (3, [.ref a_re, .ref a_bu, .ref a_hg, .int sa, .int am, .ref a_ba, .int 1, .int bl, .int (mgI dr rs), .int sa, .ref a_lh])), (a_hg, .inl (cI, 8, .inl hg)), (a_lh, .inl (cI, 8, .inl hg))] := hD
          have ew_47 : (1 : Int32) = bI true := by simp [bI, c_1, c_39, c_40, c_46]
          have ew_48 : (bl : Int32) = if am ≤ mgI dr rs then bl else bl + 1 := by simp [bI, c_1, c_39, c_40, c_46]
          have ew_49 : ((mgI dr rs) : Int32) = if (!fo || decide (mgI dr rs < lm)) = true then mgI dr rs else lm := by simp [bI, c_1, c_39, c_40, c_46]
          have ew_50 : (sa : Int32) = if (!fo || decide (mgI dr rs < lm)) = true then sa else lt := by simp [bI, c_1, c_39, c_40, c_46]
          have ew_51 : hg = (if (!fo || decide (mgI dr rs < lm)) = true then hg else lh) := by simp [bI, c_1, c_39, c_40, c_46]
          have hP : va_P G vwCl [(o, .inr (3, [.ref a_re, .ref a_bu, .ref a_hg, .int sa, .int am, .ref a_ba, .int (bI true), .int (if am ≤ mgI dr rs then bl else bl + 1), .int (if (!fo || decide (mgI dr rs < lm)) = true then mgI dr rs else lm), .int (if (!fo || decide (mgI dr rs < lm)) = true then sa else lt), .ref a_lh])), (a_hg, .inl (cI, 8, .inl hg)), (a_lh, .inl (cI, 8, .inl (if (!fo || decide (mgI dr rs < lm)) = true then hg else lh)))] H := by rw [← ew_47, ← ew_48, ← ew_49, ← ew_50, ← ew_51]; exact hP
          exact retWv () hx hb hr hlocks dX3_meetWay_88 hS (trivial) hP
        · skip
          have ew_52 : (bI fo : Int32) = bI true := by simp [bI, c_1, c_39, c_40, c_46]
          have ew_53 : (bl : Int32) = if am ≤ mgI dr rs then bl else bl + 1 := by simp [bI, c_1, c_39, c_40, c_46]
          have ew_54 : (lm : Int32) = if (!fo || decide (mgI dr rs < lm)) = true then mgI dr rs else lm := by simp [bI, c_1, c_39, c_40, c_46]
          have ew_55 : (lt : Int32) = if (!fo || decide (mgI dr rs < lm)) = true then sa else lt := by simp [bI, c_1, c_39, c_40, c_46]
          have ew_56 : lh = (if (!fo || decide (mgI dr rs < lm)) = true then hg else lh) := by simp [bI, c_1, c_39, c_40, c_46]
          have hP : va_P G vwCl [(o, .inr (3, [.ref a_re, .ref a_bu, .ref a_hg, .int sa, .int am, .ref a_ba, .int (bI true), .int (if am ≤ mgI dr rs then bl else bl + 1), .int (if (!fo || decide (mgI dr rs < lm)) = true then mgI dr rs else lm), .int (if (!fo || decide (mgI dr rs < lm)) = true then sa else lt), .ref a_lh])), (a_hg, .inl (cI, 8, .inl hg)), (a_lh, .inl (cI, 8, .inl (if (!fo || decide (mgI dr rs < lm)) = true then hg else lh)))] H := by rw [← ew_52, ← ew_53, ← ew_54, ← ew_55, ← ew_56]; exact hP
          exact retWv () hx hb hr hlocks dX3_meetWay_54 hS (trivial) hP
    · skip
      refine lv_aload_n hx hb dX3_meetWay_29 rfl (lv_at hl 1 rfl) ?_
      refine lv_dup hx hb dX3_meetWay_30 rfl ?_
      refine va_get (D := G) (ci := 3) (v := .int bl) (C := RX3) (T := TX3) (N := 11) hx hb hts inlX3 hown hK hP 0 rfl rfl 7 (by decide) (hts (.fieldLink RX3 35 "EarthBanks$Slides" "belowAim" "I") k_4_20) (fun _ h9 => h9) rfl dX3_meetWay_31 ?_
      refine lv_iconst (v := 1) hx hb dX3_meetWay_34 (by decide) ?_
      refine lv_iadd hx hb dX3_meetWay_35 ?_
      refine va_put (D := G) (ci := 3) (v := .int (bl + 1)) (ty := .int) (C := RX3) (T := TX3) (N := 11) hx hb hts inlX3 tyX3 tyX3_ok nmX3 hown hK hP hD hS 0 rfl rfl 7 (by decide) (hts (.fieldLink RX3 35 "EarthBanks$Slides" "belowAim" "I") k_4_20) (fun _ h9 => h9) rfl (by decide +kernel) (rfl) (rfl) (Nat.le_of_ble_eq_true rfl) dX3_meetWay_36 (fun H locs hP hD hS => ?_)
      have hP : va_P G vwCl [(o, .inr (3, [.ref a_re, .ref a_bu, .ref a_hg, .int sa, .int am, .ref a_ba, .int (bI fo), .int (bl + 1), .int lm, .int lt, .ref a_lh])), (a_hg, .inl (cI, 8, .inl hg)), (a_lh, .inl (cI, 8, .inl lh))] H := hP
      have hD : va_D A [(o, .inr (3, [.ref a_re, .ref a_bu, .ref a_hg, .int sa, .int am, .ref a_ba, .int (bI fo), .int (bl + 1), .int lm, .int lt, .ref a_lh])), (a_hg, .inl (cI, 8, .inl hg)), (a_lh, .inl (cI, 8, .inl lh))] := hD
      refine lv_aload_n hx hb dX3_meetWay_39 rfl (lv_at hl 1 rfl) ?_
      refine va_get (D := G) (ci := 3) (v := .int (bI fo)) (C := RX3) (T := TX3) (N := 11) hx hb hts inlX3 hown hK hP 0 rfl rfl 6 (by decide) (hts (.fieldLink RX3 31 "EarthBanks$Slides" "found" "Z") k_4_19) (fun _ h9 => h9) rfl dX3_meetWay_40 ?_
      refine lv_if_eq (tgt := 55) hx hb dX3_meetWay_43 (by decide) (fun c_57 => ?_) (fun c_57 => ?_)
      · skip
        have c_57 : fo = false := bI_f c_57
        refine lv_aload_n hx hb dX3_meetWay_55 rfl (lv_at hl 1 rfl) ?_
        refine lv_iconst (v := 1) hx hb dX3_meetWay_56 (by decide) ?_
        refine va_put (D := G) (ci := 3) (v := .int 1) (ty := .boolean) (C := RX3) (T := TX3) (N := 11) hx hb hts inlX3 tyX3 tyX3_ok nmX3 hown hK hP hD hS 0 rfl rfl 6 (by decide) (hts (.fieldLink RX3 31 "EarthBanks$Slides" "found" "Z") k_4_19) (fun _ h9 => h9) rfl (by decide +kernel) (rfl) (rfl) (Nat.le_of_ble_eq_true rfl) dX3_meetWay_57 (fun H locs hP hD hS => ?_)
        have hP : va_P G vwCl [(o, .inr (3, [.ref a_re, .ref a_bu, .ref a_hg, .int sa, .int am, .ref a_ba, .int 1, .int (bl + 1), .int lm, .int lt, .ref a_lh])), (a_hg, .inl (cI, 8, .inl hg)), (a_lh, .inl (cI, 8, .inl lh))] H := hP
        have hD : va_D A [(o, .inr (3, [.ref a_re, .ref a_bu, .ref a_hg, .int sa, .int am, .ref a_ba, .int 1, .int (bl + 1), .int lm, .int lt, .ref a_lh])), (a_hg, .inl (cI, 8, .inl hg)), (a_lh, .inl (cI, 8, .inl lh))] := hD
        refine lv_aload_n hx hb dX3_meetWay_60 rfl (lv_at hl 1 rfl) ?_
        refine lv_iload_n hx hb dX3_meetWay_61 rfl (lv_at hl 0 rfl) ?_
        refine va_put (D := G) (ci := 3) (v := .int (mgI dr rs)) (ty := .int) (C := RX3) (T := TX3) (N := 11) hx hb hts inlX3 tyX3 tyX3_ok nmX3 hown hK hP hD hS 0 rfl rfl 8 (by decide) (hts (.fieldLink RX3 38 "EarthBanks$Slides" "leastMargin" "I") k_4_21) (fun _ h9 => h9) rfl (by decide +kernel) (rfl) (rfl) (Nat.le_of_ble_eq_true rfl) dX3_meetWay_62 (fun H locs hP hD hS => ?_)
        have hP : va_P G vwCl [(o, .inr (3, [.ref a_re, .ref a_bu, .ref a_hg, .int sa, .int am, .ref a_ba, .int 1, .int (bl + 1), .int (mgI dr rs), .int lt, .ref a_lh])), (a_hg, .inl (cI, 8, .inl hg)), (a_lh, .inl (cI, 8, .inl lh))] H := hP
        have hD : va_D A [(o, .inr (3, [.ref a_re, .ref a_bu, .ref a_hg, .int sa, .int am, .ref a_ba, .int 1, .int (bl + 1), .int (mgI dr rs), .int lt, .ref a_lh])), (a_hg, .inl (cI, 8, .inl hg)), (a_lh, .inl (cI, 8, .inl lh))] := hD
        refine lv_aload_n hx hb dX3_meetWay_65 rfl (lv_at hl 1 rfl) ?_
        refine lv_aload_n hx hb dX3_meetWay_66 rfl (lv_at hl 1 rfl) ?_
        refine va_get (D := G) (ci := 3) (v := .int sa) (C := RX3) (T := TX3) (N := 11) hx hb hts inlX3 hown hK hP 0 rfl rfl 3 (by decide) (hts (.fieldLink RX3 21 "EarthBanks$Slides" "start" "I") k_4_16) (fun _ h9 => h9) rfl dX3_meetWay_67 ?_
        refine va_put (D := G) (ci := 3) (v := .int sa) (ty := .int) (C := RX3) (T := TX3) (N := 11) hx hb hts inlX3 tyX3 tyX3_ok nmX3 hown hK hP hD hS 0 rfl rfl 9 (by decide) (hts (.fieldLink RX3 41 "EarthBanks$Slides" "leastStart" "I") k_4_22) (fun _ h9 => h9) rfl (by decide +kernel) (rfl) (rfl) (Nat.le_of_ble_eq_true rfl) dX3_meetWay_70 (fun H locs hP hD hS => ?_)
        have hP : va_P G vwCl [(o, .inr (3, [.ref a_re, .ref a_bu, .ref a_hg, .int sa, .int am, .ref a_ba, .int 1, .int (bl + 1), .int (mgI dr rs), .int sa, .ref a_lh])), (a_hg, .inl (cI, 8, .inl hg)), (a_lh, .inl (cI, 8, .inl lh))] H := hP
        have hD : va_D A [(o, .inr (3, [.ref a_re, .ref a_bu, .ref a_hg, .int sa, .int am, .ref a_ba, .int 1, .int (bl + 1), .int (mgI dr rs), .int sa, .ref a_lh])), (a_hg, .inl (cI, 8, .inl hg)), (a_lh, .inl (cI, 8, .inl lh))] := hD
        refine lv_aload_n hx hb dX3_meetWay_73 rfl (lv_at hl 1 rfl) ?_
        refine va_get (D := G) (ci := 3) (v := .ref a_hg) (C := RX3) (T := TX3) (N := 11) hx hb hts inlX3 hown hK hP 0 rfl rfl 2 (by decide) (hts (.fieldLink RX3 18 "EarthBanks$Slides" "heights" "[I") k_4_15) (fun _ h9 => h9) rfl dX3_meetWay_74 ?_
        refine lv_iconst (v := 0) hx hb dX3_meetWay_77 (by decide) ?_
        refine lv_aload_n hx hb dX3_meetWay_78 rfl (lv_at hl 1 rfl) ?_
        refine va_get (D := G) (ci := 3) (v := .ref a_lh) (C := RX3) (T := TX3) (N := 11) hx hb hts inlX3 hown hK hP 0 rfl rfl 10 (by decide) (hts (.fieldLink RX3 44 "EarthBanks$Slides" "leastHeights" "[I") k_4_23) (fun _ h9 => h9) rfl dX3_meetWay_79 ?_
        refine lv_iconst (v := 0) hx hb dX3_meetWay_82 (by decide) ?_
        refine lv_bipush (v := 8) hx hb dX3_meetWay_83 (by decide) ?_
        refine va_copyi (ty := .int) hx hb (hml.trans hl.1.symm) hown (hts (.methodLink RX3 90 arraycopyName) k_26_10) (hts (.native arraycopyName) k_13_10) (hts (.static arraycopyName) k_13_11) (hts (.initialized "java/lang/System") k_13_12) hK hP hD hS 1 2 0 0 rfl rfl rfl rfl rfl (by decide) (by decide) (by decide) (by decide) (by decide) (fun _ _ => rfl) (Nat.le_of_ble_eq_true rfl) (by decide) dX3_meetWay_85 (fun H locs hP hD hS => ?_)
        have hP : va_P G vwCl [(o, .inr (3, [.ref a_re, .ref a_bu, .ref a_hg, .int sa, .int am, .ref a_ba, .int 1, .int (bl + 1), .int (mgI dr rs), .int sa, .ref a_lh])), (a_hg, .inl (cI, 8, .inl hg)), (a_lh, .inl (cI, 8, .inl (va_cpy hg lh (0 : Int32).toNatClampNeg (0 : Int32).toNatClampNeg (8 : Int32).toNatClampNeg)))] H := hP
        have hD : va_D A [(o, .inr (3, [.ref a_re, .ref a_bu, .ref a_hg, .int sa, .int am, .ref a_ba, .int 1, .int (bl + 1), .int (mgI dr rs), .int sa, .ref a_lh])), (a_hg, .inl (cI, 8, .inl hg)), (a_lh, .inl (cI, 8, .inl (va_cpy hg lh (0 : Int32).toNatClampNeg (0 : Int32).toNatClampNeg (8 : Int32).toNatClampNeg)))] := hD
        have hP := P_swap hP 2 hg rfl (fun k h9 => cpy_all h9)
        have hD := D_swap hD 2 (.inl (cI, 8, .inl hg)) rfl
        have hP : va_P G vwCl [(o, .inr (3, [.ref a_re, .ref a_bu, .ref a_hg, .int sa, .int am, .ref a_ba, .int 1, .int (bl + 1), .int (mgI dr rs), .int sa, .ref a_lh])), (a_hg, .inl (cI, 8, .inl hg)), (a_lh, .inl (cI, 8, .inl hg))] H := hP
        have hD : va_D A [(o, .inr (3, [.ref a_re, .ref a_bu, .ref a_hg, .int sa, .int am, .ref a_ba, .int 1, .int (bl + 1), .int (mgI dr rs), .int sa, .ref a_lh])), (a_hg, .inl (cI, 8, .inl hg)), (a_lh, .inl (cI, 8, .inl hg))] := hD
        have ew_58 : (1 : Int32) = bI true := by simp [bI, c_1, c_39, c_57]
        have ew_59 : ((bl + 1) : Int32) = if am ≤ mgI dr rs then bl else bl + 1 := by simp [bI, c_1, c_39, c_57]
        have ew_60 : ((mgI dr rs) : Int32) = if (!fo || decide (mgI dr rs < lm)) = true then mgI dr rs else lm := by simp [bI, c_1, c_39, c_57]
        have ew_61 : (sa : Int32) = if (!fo || decide (mgI dr rs < lm)) = true then sa else lt := by simp [bI, c_1, c_39, c_57]
        have ew_62 : hg = (if (!fo || decide (mgI dr rs < lm)) = true then hg else lh) := by simp [bI, c_1, c_39, c_57]
        have hP : va_P G vwCl [(o, .inr (3, [.ref a_re, .ref a_bu, .ref a_hg, .int sa, .int am, .ref a_ba, .int (bI true), .int (if am ≤ mgI dr rs then bl else bl + 1), .int (if (!fo || decide (mgI dr rs < lm)) = true then mgI dr rs else lm), .int (if (!fo || decide (mgI dr rs < lm)) = true then sa else lt), .ref a_lh])), (a_hg, .inl (cI, 8, .inl hg)), (a_lh, .inl (cI, 8, .inl (if (!fo || decide (mgI dr rs < lm)) = true then hg else lh)))] H := by rw [← ew_58, ← ew_59, ← ew_60, ← ew_61, ← ew_62]; exact hP
        exact retWv () hx hb hr hlocks dX3_meetWay_88 hS (trivial) hP
      · skip
        have c_57 : fo = true := bI_t c_57
        refine lv_iload_n hx hb dX3_meetWay_46 rfl (lv_at hl 0 rfl) ?_
        refine lv_aload_n hx hb dX3_meetWay_47 rfl (lv_at hl 1 rfl) ?_
        refine va_get (D := G) (ci := 3) (v := .int lm) (C := RX3) (T := TX3) (N := 11) hx hb hts inlX3 hown hK hP 0 rfl rfl 8 (by decide) (hts (.fieldLink RX3 38 "EarthBanks$Slides" "leastMargin" "I") k_4_21) (fun _ h9 => h9) rfl dX3_meetWay_48 ?_
        refine lv_icmp_lt (tgt := 55) hx hb dX3_meetWay_51 (by decide) (fun c_63 => ?_) (fun c_63 => ?_)
        · skip
          refine lv_aload_n hx hb dX3_meetWay_55 rfl (lv_at hl 1 rfl) ?_
          refine lv_iconst (v := 1) hx hb dX3_meetWay_56 (by decide) ?_
          refine va_put (D := G) (ci := 3) (v := .int 1) (ty := .boolean) (C := RX3) (T := TX3) (N := 11) hx hb hts inlX3 tyX3 tyX3_ok nmX3 hown hK hP hD hS 0 rfl rfl 6 (by decide) (hts (.fieldLink RX3 31 "EarthBanks$Slides" "found" "Z") k_4_19) (fun _ h9 => h9) rfl (by decide +kernel) (rfl) (rfl) (Nat.le_of_ble_eq_true rfl) dX3_meetWay_57 (fun H locs hP hD hS => ?_)
          have hP : va_P G vwCl [(o, .inr (3, [.ref a_re, .ref a_bu, .ref a_hg, .int sa, .int am, .ref a_ba, .int 1, .int (bl + 1), .int lm, .int lt, .ref a_lh])), (a_hg, .inl (cI, 8, .inl hg)), (a_lh, .inl (cI, 8, .inl lh))] H := hP
          have hD : va_D A [(o, .inr (3, [.ref a_re, .ref a_bu, .ref a_hg, .int sa, .int am, .ref a_ba, .int 1, .int (bl + 1), .int lm, .int lt, .ref a_lh])), (a_hg, .inl (cI, 8, .inl hg)), (a_lh, .inl (cI, 8, .inl lh))] := hD
          refine lv_aload_n hx hb dX3_meetWay_60 rfl (lv_at hl 1 rfl) ?_
          refine lv_iload_n hx hb dX3_meetWay_61 rfl (lv_at hl 0 rfl) ?_
          refine va_put (D := G) (ci := 3) (v := .int (mgI dr rs)) (ty := .int) (C := RX3) (T := TX3) (N := 11) hx hb hts inlX3 tyX3 tyX3_ok nmX3 hown hK hP hD hS 0 rfl rfl 8 (by decide) (hts (.fieldLink RX3 38 "EarthBanks$Slides" "leastMargin" "I") k_4_21) (fun _ h9 => h9) rfl (by decide +kernel) (rfl) (rfl) (Nat.le_of_ble_eq_true rfl) dX3_meetWay_62 (fun H locs hP hD hS => ?_)
          have hP : va_P G vwCl [(o, .inr (3, [.ref a_re, .ref a_bu, .ref a_hg, .int sa, .int am, .ref a_ba, .int 1, .int (bl + 1), .int (mgI dr rs), .int lt, .ref a_lh])), (a_hg, .inl (cI, 8, .inl hg)), (a_lh, .inl (cI, 8, .inl lh))] H := hP
          have hD : va_D A [(o, .inr (3, [.ref a_re, .ref a_bu, .ref a_hg, .int sa, .int am, .ref a_ba, .int 1, .int (bl + 1), .int (mgI dr rs), .int lt, .ref a_lh])), (a_hg, .inl (cI, 8, .inl hg)), (a_lh, .inl (cI, 8, .inl lh))] := hD
          refine lv_aload_n hx hb dX3_meetWay_65 rfl (lv_at hl 1 rfl) ?_
          refine lv_aload_n hx hb dX3_meetWay_66 rfl (lv_at hl 1 rfl) ?_
          refine va_get (D := G) (ci := 3) (v := .int sa) (C := RX3) (T := TX3) (N := 11) hx hb hts inlX3 hown hK hP 0 rfl rfl 3 (by decide) (hts (.fieldLink RX3 21 "EarthBanks$Slides" "start" "I") k_4_16) (fun _ h9 => h9) rfl dX3_meetWay_67 ?_
          refine va_put (D := G) (ci := 3) (v := .int sa) (ty := .int) (C := RX3) (T := TX3) (N := 11) hx hb hts inlX3 tyX3 tyX3_ok nmX3 hown hK hP hD hS 0 rfl rfl 9 (by decide) (hts (.fieldLink RX3 41 "EarthBanks$Slides" "leastStart" "I") k_4_22) (fun _ h9 => h9) rfl (by decide +kernel) (rfl) (rfl) (Nat.le_of_ble_eq_true rfl) dX3_meetWay_70 (fun H locs hP hD hS => ?_)
          have hP : va_P G vwCl [(o, .inr (3, [.ref a_re, .ref a_bu, .ref a_hg, .int sa, .int am, .ref a_ba, .int 1, .int (bl + 1), .int (mgI dr rs), .int sa, .ref a_lh])), (a_hg, .inl (cI, 8, .inl hg)), (a_lh, .inl (cI, 8, .inl lh))] H := hP
          have hD : va_D A [(o, .inr (3, [.ref a_re, .ref a_bu, .ref a_hg, .int sa, .int am, .ref a_ba, .int 1, .int (bl + 1), .int (mgI dr rs), .int sa, .ref a_lh])), (a_hg, .inl (cI, 8, .inl hg)), (a_lh, .inl (cI, 8, .inl lh))] := hD
          refine lv_aload_n hx hb dX3_meetWay_73 rfl (lv_at hl 1 rfl) ?_
          refine va_get (D := G) (ci := 3) (v := .ref a_hg) (C := RX3) (T := TX3) (N := 11) hx hb hts inlX3 hown hK hP 0 rfl rfl 2 (by decide) (hts (.fieldLink RX3 18 "EarthBanks$Slides" "heights" "[I") k_4_15) (fun _ h9 => h9) rfl dX3_meetWay_74 ?_
          refine lv_iconst (v := 0) hx hb dX3_meetWay_77 (by decide) ?_
          refine lv_aload_n hx hb dX3_meetWay_78 rfl (lv_at hl 1 rfl) ?_
          refine va_get (D := G) (ci := 3) (v := .ref a_lh) (C := RX3) (T := TX3) (N := 11) hx hb hts inlX3 hown hK hP 0 rfl rfl 10 (by decide) (hts (.fieldLink RX3 44 "EarthBanks$Slides" "leastHeights" "[I") k_4_23) (fun _ h9 => h9) rfl dX3_meetWay_79 ?_
          refine lv_iconst (v := 0) hx hb dX3_meetWay_82 (by decide) ?_
          refine lv_bipush (v := 8) hx hb dX3_meetWay_83 (by decide) ?_
          refine va_copyi (ty := .int) hx hb (hml.trans hl.1.symm) hown (hts (.methodLink RX3 90 arraycopyName) k_26_10) (hts (.native arraycopyName) k_13_10) (hts (.static arraycopyName) k_13_11) (hts (.initialized "java/lang/System") k_13_12) hK hP hD hS 1 2 0 0 rfl rfl rfl rfl rfl (by decide) (by decide) (by decide) (by decide) (by decide) (fun _ _ => rfl) (Nat.le_of_ble_eq_true rfl) (by decide) dX3_meetWay_85 (fun H locs hP hD hS => ?_)
          have hP : va_P G vwCl [(o, .inr (3, [.ref a_re, .ref a_bu, .ref a_hg, .int sa, .int am, .ref a_ba, .int 1, .int (bl + 1), .int (mgI dr rs), .int sa, .ref a_lh])), (a_hg, .inl (cI, 8, .inl hg)), (a_lh, .inl (cI, 8, .inl (va_cpy hg lh (0 : Int32).toNatClampNeg (0 : Int32).toNatClampNeg (8 : Int32).toNatClampNeg)))] H := hP
          have hD : va_D A [(o, .inr (3, [.ref a_re, .ref a_bu, .ref a_hg, .int sa, .int am, .ref a_ba, .int 1, .int (bl + 1), .int (mgI dr rs), .int sa, .ref a_lh])), (a_hg, .inl (cI, 8, .inl hg)), (a_lh, .inl (cI, 8, .inl (va_cpy hg lh (0 : Int32).toNatClampNeg (0 : Int32).toNatClampNeg (8 : Int32).toNatClampNeg)))] := hD
          have hP := P_swap hP 2 hg rfl (fun k h9 => cpy_all h9)
          have hD := D_swap hD 2 (.inl (cI, 8, .inl hg)) rfl
          have hP : va_P G vwCl [(o, .inr (3, [.ref a_re, .ref a_bu, .ref a_hg, .int sa, .int am, .ref a_ba, .int 1, .int (bl + 1), .int (mgI dr rs), .int sa, .ref a_lh])), (a_hg, .inl (cI, 8, .inl hg)), (a_lh, .inl (cI, 8, .inl hg))] H := hP
          have hD : va_D A [(o, .inr (3, [.ref a_re, .ref a_bu, .ref a_hg, .int sa, .int am, .ref a_ba, .int 1, .int (bl + 1), .int (mgI dr rs), .int sa, .ref a_lh])), (a_hg, .inl (cI, 8, .inl hg)), (a_lh, .inl (cI, 8, .inl hg))] := hD
          have ew_64 : (1 : Int32) = bI true := by simp [bI, c_1, c_39, c_57, c_63]
          have ew_65 : ((bl + 1) : Int32) = if am ≤ mgI dr rs then bl else bl + 1 := by simp [bI, c_1, c_39, c_57, c_63]
          have ew_66 : ((mgI dr rs) : Int32) = if (!fo || decide (mgI dr rs < lm)) = true then mgI dr rs else lm := by simp [bI, c_1, c_39, c_57, c_63]
          have ew_67 : (sa : Int32) = if (!fo || decide (mgI dr rs < lm)) = true then sa else lt := by simp [bI, c_1, c_39, c_57, c_63]
          have ew_68 : hg = (if (!fo || decide (mgI dr rs < lm)) = true then hg else lh) := by simp [bI, c_1, c_39, c_57, c_63]
          have hP : va_P G vwCl [(o, .inr (3, [.ref a_re, .ref a_bu, .ref a_hg, .int sa, .int am, .ref a_ba, .int (bI true), .int (if am ≤ mgI dr rs then bl else bl + 1), .int (if (!fo || decide (mgI dr rs < lm)) = true then mgI dr rs else lm), .int (if (!fo || decide (mgI dr rs < lm)) = true then sa else lt), .ref a_lh])), (a_hg, .inl (cI, 8, .inl hg)), (a_lh, .inl (cI, 8, .inl (if (!fo || decide (mgI dr rs < lm)) = true then hg else lh)))] H := by rw [← ew_64, ← ew_65, ← ew_66, ← ew_67, ← ew_68]; exact hP
          exact retWv () hx hb hr hlocks dX3_meetWay_88 hS (trivial) hP
        · skip
          have ew_69 : (bI fo : Int32) = bI true := by simp [bI, c_1, c_39, c_57, c_63]
          have ew_70 : ((bl + 1) : Int32) = if am ≤ mgI dr rs then bl else bl + 1 := by simp [bI, c_1, c_39, c_57, c_63]
          have ew_71 : (lm : Int32) = if (!fo || decide (mgI dr rs < lm)) = true then mgI dr rs else lm := by simp [bI, c_1, c_39, c_57, c_63]
          have ew_72 : (lt : Int32) = if (!fo || decide (mgI dr rs < lm)) = true then sa else lt := by simp [bI, c_1, c_39, c_57, c_63]
          have ew_73 : lh = (if (!fo || decide (mgI dr rs < lm)) = true then hg else lh) := by simp [bI, c_1, c_39, c_57, c_63]
          have hP : va_P G vwCl [(o, .inr (3, [.ref a_re, .ref a_bu, .ref a_hg, .int sa, .int am, .ref a_ba, .int (bI true), .int (if am ≤ mgI dr rs then bl else bl + 1), .int (if (!fo || decide (mgI dr rs < lm)) = true then mgI dr rs else lm), .int (if (!fo || decide (mgI dr rs < lm)) = true then sa else lt), .ref a_lh])), (a_hg, .inl (cI, 8, .inl hg)), (a_lh, .inl (cI, 8, .inl (if (!fo || decide (mgI dr rs < lm)) = true then hg else lh)))] H := by rw [← ew_69, ← ew_70, ← ew_71, ← ew_72, ← ew_73]; exact hP
          exact retWv () hx hb hr hlocks dX3_meetWay_54 hS (trivial) hP
