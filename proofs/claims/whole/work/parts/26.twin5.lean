theorem cal_X7_breaks : calV yX7_breaks cX7_breaks 3 (some .int) 0 := ⟨k_30_12, k_1_5, k_30_10, k_30_11, by decide +kernel⟩
set_option maxHeartbeats 4000000 in
set_option maxRecDepth 100000 in
theorem c_X7_breaks (l : Launch) (G : va_G) (E : EvT) (cI cZ : ClassId) (zo : Nat → Int32) (he : Nat → Int32) (go : Nat → Int32) (le : Nat → Int32) (hd : Nat → Int32) (gn : Nat → Int32) (la : Int32) (o : Nat) (a_S : Nat) (a_MT : Nat) (ff : Int32) (fs_o : List Value) (h_o_MT : fs_o[30]? = some (.ref a_MT)) (h_o_S : fs_o[2]? = some (.ref a_S)) (h_o_ff : fs_o[14]? = some (.int ff)) (MT : Nat → Int32) : cWi (S := (Nat → Int32) × (Nat → Int32)) l G E yX7_breaks cX7_breaks 3 (some .int) 6 [(cI, .int), (cZ, .boolean)] [.ref o] [(o, .inr (7, fs_o)), (a_S, .inl (cI, 163, .inl (ms zo he go le hd gn la))), (a_MT, .inl (cI, 48, .inl MT))] (fun r _ => r = brkM zo he hd gn ff 49 1 go) (fun u => [(o, .inr (7, fs_o)), (a_S, .inl (cI, 163, .inl (ms zo he u.1 le hd gn la))), (a_MT, .inl (cI, 48, .inl u.2))]) := by
  refine mkWi (by decide) (Nat.le_of_ble_eq_true rfl) ?_
  intro zp ze s zm args below meth zc hx hb hr hml hown hts hlocks hE hK A hA hlow H locs hP hD hS ls hl
  have hl : lv_has ls 3 [(0, .ref o)] := hl
  refine lv_iconst (v := 1) hx hb dX7_breaks_0 (by decide) ?_
  refine lv_istore_n (lv' := [(1, .int 1), (0, .ref o)]) hx hb dX7_breaks_1 rfl hl (by decide) rfl (fun ls hl => ?_)
  refine lv_aload_n hx hb dX7_breaks_2 rfl (lv_at hl 1 rfl) ?_
  refine cWVi (As := []) (rest := []) hx hb hml hown hts (c_X7_days l G E cI cZ zo he go le hd gn la o a_S a_MT ff fs_o h_o_MT h_o_S h_o_ff MT) k_29_4 cal_X7_days ⟨Nat.le_of_ble_eq_true rfl, Nat.le_of_ble_eq_true rfl⟩ hE hA hlow hD hS hK [0, 1] rfl hP [0, 1, 2] rfl (by decide) [o, a_S, a_MT] rfl (fun _ => rfl) [] [] (fun u => [(o, .inr (7, fs_o)), (a_S, .inl (cI, 163, .inl (ms zo he (dyM zo he hd gn ff go) le hd gn la))), (a_MT, .inl (cI, 48, .inl u))]) 3 rfl (fun _ => rfl) (fun _ => rfl) (fun _ => rfl) (by decide) (by decide) 0 7 rfl rfl rfl hl.1 rfl (Nat.le_of_ble_eq_true rfl) dX7_breaks_3 ⟨Nat.zero_le _, Nat.zero_le _⟩ (fun r_ u H locs hr_ hP hD hS => ?_)
  obtain ⟨m2_1, rfl⟩ : ∃ z, z = u := ⟨_, rfl⟩
  subst hr_
  have hP : va_P G vwCl [(o, .inr (7, fs_o)), (a_S, .inl (cI, 163, .inl (ms zo he (dyM zo he hd gn ff go) le hd gn la))), (a_MT, .inl (cI, 48, .inl m2_1))] H := hP
  have hD : va_D A [(o, .inr (7, fs_o)), (a_S, .inl (cI, 163, .inl (ms zo he (dyM zo he hd gn ff go) le hd gn la))), (a_MT, .inl (cI, 48, .inl m2_1))] := hD
  refine lv_istore_n (lv' := [(2, .int (dvM (loM zo he go hd gn ff) 48)), (1, .int 1), (0, .ref o)]) hx hb dX7_breaks_6 rfl hl (by decide) rfl (fun ls hl => ?_)
  suffices lp7 : ∀ zn k7 : Nat, ∀ (gx : Nat → Int32) (mx : Nat → Int32) , 0 ≤ k7 → k7 ≤ 48 → 48 < k7 + zn → (brkM zo he hd gn ff (49 - k7) (k7 + 1) gx = brkM zo he hd gn ff 49 1 go) → (k7 + eN zo gx 48 ≤ 48) → ∀ (H : Heap) (locs : List Loc), va_P G vwCl [(o, .inr (7, fs_o)), (a_S, .inl (cI, 163, .inl (ms zo he (dyM zo he hd gn ff gx) le hd gn la))), (a_MT, .inl (cI, 48, .inl mx))] H → va_D A [(o, .inr (7, fs_o)), (a_S, .inl (cI, 163, .inl (ms zo he (dyM zo he hd gn ff gx) le hd gn la))), (a_MT, .inl (cI, 48, .inl mx))] → va_S A s.heap H locs → ∀ ls : Array Slot, lv_has ls 3 [(0, .ref o), (1, .int (nI (k7 + 1))), (2, .int (dvM (loM zo he gx hd gn ff) 48))] → W zp l ze (rmK 6) s zm args below meth zc H locs 0 0 (MQ below (va_Qi (S := (Nat → Int32) × (Nat → Int32)) (fun r _ => r = brkM zo he hd gn ff 49 1 go) (fun u t => va_P G vwCl ((fun u => [(o, .inr (7, fs_o)), (a_S, .inl (cI, 163, .inl (ms zo he u.1 le hd gn la))), (a_MT, .inl (cI, 48, .inl u.2))]) u) t.heap) A) args s 0 0 A) (F0 zm 7 ls []) by
    have el_2 : (1 : Int32) = nI (0 + 1) := rfl
    exact lp7 (48 + 1 - 0) 0 go m2_1 (by omega) (by omega) (by omega) (rfl) (by have h9 := eN_le zo go 48; omega) H locs hP hD hS ls (lv_sub hl [2, 1, 0] (show ([(0, .ref o), (1, .int 1), (2, .int (dvM (loM zo he go hd gn ff) 48))] : List (Nat × Value)) = [(0, .ref o), (1, .int (nI (0 + 1))), (2, .int (dvM (loM zo he go hd gn ff) 48))] by rw [← el_2]))
  intro zn
  induction zn with
  | zero => exact fun k7 gx mx h1 h2 h3 => absurd h3 (by omega)
  | succ zn ih7 =>
    intro k7 gx mx hlo7 hhi7 hn7 hinv hcnt H locs hP hD hS ls hl
    refine lv_iload_n hx hb dX7_breaks_7 rfl (lv_at hl 2 rfl) ?_
    refine lv_if_le (tgt := 28) hx hb dX7_breaks_8 (by decide) (fun c_3 => ?_) (fun c_3 => ?_)
    · skip
      refine lv_iload_n hx hb dX7_breaks_28 rfl (lv_at hl 2 rfl) ?_
      refine lv_if_ne (tgt := 37) hx hb dX7_breaks_29 (by decide) (fun c_4 => ?_) (fun c_4 => ?_)
      · skip
        refine lv_iload_n hx hb dX7_breaks_37 rfl (lv_at hl 1 rfl) ?_
        exact retWi (dyM zo he hd gn ff gx, mx) hx hb hr (rfl) hlocks dX7_breaks_38 hS (by rw [← hinv, show 49 - k7 = (48 - k7) + 1 by omega, brkM]; simp [c_3, c_4]) hP
      · skip
        refine lv_bipush (v := (-9)) hx hb dX7_breaks_32 (by decide) ?_
        refine lv_goto (tgt := 38) hx hb dX7_breaks_34 (by decide) ?_
        exact retWi (dyM zo he hd gn ff gx, mx) hx hb hr (rfl) hlocks dX7_breaks_38 hS (by rw [← hinv, show 49 - k7 = (48 - k7) + 1 by omega, brkM]; simp [c_3, eq_true c_4]) hP
    · skip
      refine lv_iload_n hx hb dX7_breaks_11 rfl (lv_at hl 2 rfl) ?_
      refine lv_bipush (v := 100) hx hb dX7_breaks_12 (by decide) ?_
      refine lv_icmp_ge (tgt := 28) hx hb dX7_breaks_14 (by decide) (fun c_5 => ?_) (fun c_5 => ?_)
      · skip
        refine lv_iload_n hx hb dX7_breaks_28 rfl (lv_at hl 2 rfl) ?_
        refine lv_if_ne (tgt := 37) hx hb dX7_breaks_29 (by decide) (fun c_6 => ?_) (fun c_6 => ?_)
        · skip
          refine lv_iload_n hx hb dX7_breaks_37 rfl (lv_at hl 1 rfl) ?_
          exact retWi (dyM zo he hd gn ff gx, mx) hx hb hr (rfl) hlocks dX7_breaks_38 hS (by rw [← hinv, show 49 - k7 = (48 - k7) + 1 by omega, brkM]; simp [c_3, c_5, c_6]) hP
        · skip
          refine lv_bipush (v := (-9)) hx hb dX7_breaks_32 (by decide) ?_
          refine lv_goto (tgt := 38) hx hb dX7_breaks_34 (by decide) ?_
          exact retWi (dyM zo he hd gn ff gx, mx) hx hb hr (rfl) hlocks dX7_breaks_38 hS (by rw [← hinv, show 49 - k7 = (48 - k7) + 1 by omega, brkM]; simp [c_3, c_5, eq_true c_6]) hP
      · skip
        refine lv_iinc (v := nI ((k7 + 1) + 1)) (lv' := [(1, .int (nI ((k7 + 1) + 1))), (0, .ref o), (2, .int (dvM (loM zo he gx hd gn ff) 48))]) hx hb dX7_breaks_17 hl (k := 1) rfl (nI_add _ _) (by decide) rfl (fun ls hl => ?_)
        refine lv_aload_n hx hb dX7_breaks_20 rfl (lv_at hl 1 rfl) ?_
        refine cWVi (As := []) (rest := []) hx hb hml hown hts (c_X7_days l G E cI cZ zo he (dyM zo he hd gn ff gx) le hd gn la o a_S a_MT ff fs_o h_o_MT h_o_S h_o_ff mx) k_29_4 cal_X7_days ⟨Nat.le_of_ble_eq_true rfl, Nat.le_of_ble_eq_true rfl⟩ hE hA hlow hD hS hK [0, 1] rfl hP [0, 1, 2] rfl (by decide) [o, a_S, a_MT] rfl (fun _ => rfl) [] [] (fun u => [(o, .inr (7, fs_o)), (a_S, .inl (cI, 163, .inl (ms zo he (dyM zo he hd gn ff (dyM zo he hd gn ff gx)) le hd gn la))), (a_MT, .inl (cI, 48, .inl u))]) 3 rfl (fun _ => rfl) (fun _ => rfl) (fun _ => rfl) (by decide) (by decide) 0 7 rfl rfl rfl hl.1 rfl (Nat.le_of_ble_eq_true rfl) dX7_breaks_21 ⟨Nat.zero_le _, Nat.zero_le _⟩ (fun r_ u H locs hr_ hP hD hS => ?_)
        obtain ⟨m2_7, rfl⟩ : ∃ z, z = u := ⟨_, rfl⟩
        subst hr_
        have hP : va_P G vwCl [(o, .inr (7, fs_o)), (a_S, .inl (cI, 163, .inl (ms zo he (dyM zo he hd gn ff (dyM zo he hd gn ff gx)) le hd gn la))), (a_MT, .inl (cI, 48, .inl m2_7))] H := hP
        have hD : va_D A [(o, .inr (7, fs_o)), (a_S, .inl (cI, 163, .inl (ms zo he (dyM zo he hd gn ff (dyM zo he hd gn ff gx)) le hd gn la))), (a_MT, .inl (cI, 48, .inl m2_7))] := hD
        have h9 := eN_day c_3
        refine lv_istore_n (lv' := [(2, .int (dvM (loM zo he (dyM zo he hd gn ff gx) hd gn ff) 48)), (1, .int (nI ((k7 + 1) + 1))), (0, .ref o)]) hx hb dX7_breaks_24 rfl hl (by decide) rfl (fun ls hl => ?_)
        refine lv_goto (tgt := 7) hx hb dX7_breaks_25 (by decide) ?_
        exact ih7 (k7 + 1) (dyM zo he hd gn ff gx) m2_7 (by omega) (by omega) (by omega) (by rw [← hinv, show 49 - k7 = (49 - (k7 + 1)) + 1 by omega]; exact (if_neg (by simp [c_3, c_5])).symm) (by have h9 := eN_day c_3; omega) H locs hP hD hS ls (lv_sub hl [2, 1, 0] rfl)
