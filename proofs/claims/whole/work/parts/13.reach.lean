theorem cal_X3_allReach : calV yX3_allReach cX3_allReach 7 (some .boolean) 1 := ⟨k_40_5, k_2_8, k_40_3, k_40_4, by decide +kernel⟩
set_option maxHeartbeats 4000000 in
set_option maxRecDepth 100000 in
theorem c_X3_allReach (l : Launch) (G : va_G) (E : EvT) (cI cZ : ClassId) (am9 : Int32) (o : Nat) (a_re : Nat) (a_bu : Nat) (a_ba : Nat) (fs_o : List Value) (h_o_ba : fs_o[5]? = some (.ref a_ba)) (h_o_bu : fs_o[1]? = some (.ref a_bu)) (h_o_re : fs_o[0]? = some (.ref a_re)) (re : Nat → Int32) (bu : Nat → Int32) (ba : Nat → Int32) : cWi (S := (Nat → Int32)) l G E yX3_allReach cX3_allReach 7 (some .boolean) 4 [(cI, .int), (cZ, .boolean)] [.ref o, .int am9] [(o, .inr (3, fs_o)), (a_re, .inl (cI, 48, .inl re)), (a_bu, .inl (cI, 48, .inl bu)), (a_ba, .inl (cI, 6, .inl ba))] (fun r _ => r = bI (!anyS (negT re bu am9) 8)) (fun u => [(o, .inr (3, fs_o)), (a_re, .inl (cI, 48, .inl re)), (a_bu, .inl (cI, 48, .inl bu)), (a_ba, .inl (cI, 6, .inl u))]) := by
  refine mkWi (by decide) (Nat.le_of_ble_eq_true rfl) ?_
  intro zp ze s zm args below meth zc hx hb hr hml hown hts hlocks hE hK A hA hlow H locs hP hD hS ls hl
  have hl : lv_has ls 7 [(0, .ref o), (1, .int am9)] := hl
  refine lv_bipush (v := 7) hx hb dX3_allReach_0 (by decide) ?_
  refine lv_istore_n (lv' := [(2, .int 7), (0, .ref o), (1, .int am9)]) hx hb dX3_allReach_2 rfl hl (by decide) rfl (fun ls hl => ?_)
  suffices lp3 : ∀ zn k3 : Nat, ∀ (bx : Nat → Int32) , 0 ≤ k3 → k3 ≤ 8 → 8 < k3 + zn → (∀ c, k3 = c + 1 → ∀ y, y < 6 → bx y = balC re bu am9 c y) → (anyS (negT re bu am9) k3 = false) → ∀ (H : Heap) (locs : List Loc), va_P G vwCl [(o, .inr (3, fs_o)), (a_re, .inl (cI, 48, .inl re)), (a_bu, .inl (cI, 48, .inl bu)), (a_ba, .inl (cI, 6, .inl bx))] H → va_D A [(o, .inr (3, fs_o)), (a_re, .inl (cI, 48, .inl re)), (a_bu, .inl (cI, 48, .inl bu)), (a_ba, .inl (cI, 6, .inl bx))] → va_S A s.heap H locs → ∀ ls : Array Slot, lv_has ls 7 [(0, .ref o), (1, .int am9), (2, .int (pI (8 - k3)))] → W zp l ze (rmK 4) s zm args below meth zc H locs 0 0 (MQ below (va_Qi (S := (Nat → Int32)) (fun r _ => r = bI (!anyS (negT re bu am9) 8)) (fun u t => va_P G vwCl ((fun u => [(o, .inr (3, fs_o)), (a_re, .inl (cI, 48, .inl re)), (a_bu, .inl (cI, 48, .inl bu)), (a_ba, .inl (cI, 6, .inl u))]) u) t.heap) A) args s 0 0 A) (F0 zm 3 ls []) by
    have el_1 : (7 : Int32) = pI (8 - 0) := rfl
    exact lp3 (8 + 1 - 0) 0 ba (by omega) (by omega) (by omega) (fun c hc => absurd hc (by omega)) (rfl) H locs hP hD hS ls (lv_sub hl [1, 2, 0] (show ([(0, .ref o), (1, .int am9), (2, .int 7)] : List (Nat × Value)) = [(0, .ref o), (1, .int am9), (2, .int (pI (8 - 0)))] by rw [← el_1]))
  intro zn
  induction zn with
  | zero => exact fun k3 bx h1 h2 h3 => absurd h3 (by omega)
  | succ zn ih3 =>
    intro k3 bx hlo3 hhi3 hn3 hold hneg H locs hP hD hS ls hl
    refine lv_iload_n hx hb dX3_allReach_3 rfl (lv_at hl 2 rfl) ?_
    refine lv_if_lt (tgt := 125) hx hb dX3_allReach_4 (by decide) (fun c_2 => ?_) (fun c_2 => ?_)
    · skip
      have hk9 : 8 = k3 := by have h8 := pI_lt (m := 8 - k3) (by omega) c_2; omega
      subst hk9
      refine lv_iconst (v := 1) hx hb dX3_allReach_125 (by decide) ?_
      exact retWi (bx) hx hb hr (rfl) hlocks dX3_allReach_126 hS (by rw [hneg]; rfl) hP
    · skip
      have hk8 := pI_k6 (m := 8) (k := k3) c_2 (by omega)
      have hl : lv_has ls 7 [(0, .ref o), (1, .int am9), (2, .int (nI (7 - k3)))] := by rw [pI_b (m := 7) (by omega)] at hl; exact hl
      refine lv_iconst (v := 5) hx hb dX3_allReach_7 (by decide) ?_
      refine lv_istore_n (lv' := [(3, .int 5), (0, .ref o), (1, .int am9), (2, .int (nI (7 - k3)))]) hx hb dX3_allReach_8 rfl hl (by decide) rfl (fun ls hl => ?_)
      suffices lp9 : ∀ zn k9 : Nat, ∀ (by9 : Nat → Int32) , 0 ≤ k9 → k9 ≤ 6 → 6 < k9 + zn → (∀ y, 6 - k9 ≤ y → y < 6 → by9 y = balC re bu am9 k3 y) → (∀ y, y < 6 - k9 → by9 y = bx y) → (anyS (fun j => decide (balC re bu am9 k3 (5 - j) < 0)) k9 = false) → ∀ (H : Heap) (locs : List Loc), va_P G vwCl [(o, .inr (3, fs_o)), (a_re, .inl (cI, 48, .inl re)), (a_bu, .inl (cI, 48, .inl bu)), (a_ba, .inl (cI, 6, .inl by9))] H → va_D A [(o, .inr (3, fs_o)), (a_re, .inl (cI, 48, .inl re)), (a_bu, .inl (cI, 48, .inl bu)), (a_ba, .inl (cI, 6, .inl by9))] → va_S A s.heap H locs → ∀ ls : Array Slot, lv_has ls 7 [(0, .ref o), (1, .int am9), (2, .int (nI (7 - k3))), (3, .int (pI (6 - k9)))] → W zp l ze (rmK 4) s zm args below meth zc H locs 0 0 (MQ below (va_Qi (S := (Nat → Int32)) (fun r _ => r = bI (!anyS (negT re bu am9) 8)) (fun u t => va_P G vwCl ((fun u => [(o, .inr (3, fs_o)), (a_re, .inl (cI, 48, .inl re)), (a_bu, .inl (cI, 48, .inl bu)), (a_ba, .inl (cI, 6, .inl u))]) u) t.heap) A) args s 0 0 A) (F0 zm 9 ls []) by
        have el_3 : (5 : Int32) = pI (6 - 0) := rfl
        exact lp9 (6 + 1 - 0) 0 bx (by omega) (by omega) (by omega) (fun y h1 h2 => absurd h2 (by omega)) (fun _ _ => rfl) (rfl) H locs hP hD hS ls (lv_sub hl [1, 2, 3, 0] (show ([(0, .ref o), (1, .int am9), (2, .int (nI (7 - k3))), (3, .int 5)] : List (Nat × Value)) = [(0, .ref o), (1, .int am9), (2, .int (nI (7 - k3))), (3, .int (pI (6 - 0)))] by rw [← el_3]))
      intro zn
      induction zn with
      | zero => exact fun k9 by9 h1 h2 h3 => absurd h3 (by omega)
      | succ zn ih9 =>
        intro k9 by9 hlo9 hhi9 hn9 hnew hlow9 hneg2 H locs hP hD hS ls hl
        refine lv_iload_n hx hb dX3_allReach_9 rfl (lv_at hl 3 rfl) ?_
        refine lv_if_lt (tgt := 119) hx hb dX3_allReach_10 (by decide) (fun c_4 => ?_) (fun c_4 => ?_)
        · skip
          have hk9 : 6 = k9 := by have h8 := pI_lt (m := 6 - k9) (by omega) c_4; omega
          subst hk9
          refine lv_iinc (v := pI (7 - k3)) (lv' := [(2, .int (pI (7 - k3))), (0, .ref o), (1, .int am9), (3, .int (pI (6 - 6)))]) hx hb dX3_allReach_119 hl (k := 2) rfl (rfl) (by decide) rfl (fun ls hl => ?_)
          refine lv_goto (tgt := 3) hx hb dX3_allReach_122 (by decide) ?_
          have el_5 : (pI (7 - k3) : Int32) = pI (8 - (k3 + 1)) := by congr 1; omega
          exact ih3 (k3 + 1) by9 (by omega) (by omega) (by omega) (fun c hc y hy => (hnew y (by omega) hy).trans (by rw [show c = k3 by omega])) (by rw [anyS, hneg, show negT re bu am9 k3 = false from hneg2]; rfl) H locs hP hD hS ls (lv_sub hl [1, 2, 0] (show ([(0, .ref o), (1, .int am9), (2, .int (pI (7 - k3)))] : List (Nat × Value)) = [(0, .ref o), (1, .int am9), (2, .int (pI (8 - (k3 + 1))))] by rw [← el_5]))
        · skip
          have hk6 := pI_k6 (m := 6) (k := k9) c_4 (by omega)
          have hl : lv_has ls 7 [(0, .ref o), (1, .int am9), (2, .int (nI (7 - k3))), (3, .int (nI (5 - k9)))] := by rw [pI_b (m := 5) (by omega)] at hl; exact hl
          refine lv_iload_n hx hb dX3_allReach_13 rfl (lv_at hl 2 rfl) ?_
          refine lv_iload_n hx hb dX3_allReach_14 rfl (lv_at hl 3 rfl) ?_
          refine cRSN (As := [.int (nI (7 - k3)), .int (nI (5 - k9))]) (rest := []) hx hb hml hown hts (c_X6_placeOf l G E cI cZ (7 - k3) (5 - k9)) (hE.2.1.2.1 ("EarthBanks$Slides", 53, yX6_placeOf, "EarthBanks") (by decide +kernel)) cal_X6_placeOf ⟨Nat.le_of_ble_eq_true rfl, Nat.le_of_ble_eq_true rfl⟩ hE hlow hS hK [0, 1] rfl hP [] rfl rfl hl.1 rfl (Nat.le_of_ble_eq_true rfl) dX3_allReach_15 ⟨Nat.zero_le _, Nat.zero_le _⟩ ?_
          refine lv_istore (lv' := [(4, .int (nI ((8 * (5 - k9)) + (7 - k3)))), (0, .ref o), (1, .int am9), (2, .int (nI (7 - k3))), (3, .int (nI (5 - k9)))]) hx hb dX3_allReach_18 hl (by decide) rfl (fun ls hl => ?_)
          refine lv_iload_n hx hb dX3_allReach_20 rfl (lv_at hl 3 rfl) ?_
          refine lv_bipush (v := 7) hx hb dX3_allReach_21 (by decide) ?_
          refine lv_icmp_ne (tgt := 39) hx hb dX3_allReach_23 (by decide) (fun c_6 => ?_) (fun c_6 => ?_)
          · skip
            have c_6 : ¬ (7 - k3) = 7 := fun h9 => c_6 ((nI_eq (a := (7 - k3)) (b := 7) (by omega) (by omega)).mpr h9)
            refine lv_aload_n hx hb dX3_allReach_39 rfl (lv_at hl 1 rfl) ?_
            refine lv_iload_n hx hb dX3_allReach_40 rfl (lv_at hl 3 rfl) ?_
            refine lv_iload_n hx hb dX3_allReach_41 rfl (lv_at hl 4 rfl) ?_
            refine lv_iload_n hx hb dX3_allReach_42 rfl (lv_at hl 2 rfl) ?_
            refine cRV (As := [.int (nI (7 - k3)), .int (nI (5 - k9)), .int am9]) (rest := []) hx hb hml hown hts (c_X3_leastBehind l G E cI cZ (7 - k3) (5 - k9) am9 o a_bu a_ba fs_o h_o_ba h_o_bu bu by9 (by first | assumption | omega | simp [bI, c_2, c_4, c_6]) (by first | assumption | omega | simp [bI, c_2, c_4, c_6])) k_40_7 cal_X3_leastBehind ⟨Nat.le_of_ble_eq_true rfl, Nat.le_of_ble_eq_true rfl⟩ hE hlow hS hK [0, 1] rfl hP [0, 2, 3] rfl 0 3 rfl rfl rfl hl.1 rfl (Nat.le_of_ble_eq_true rfl) dX3_allReach_43 ⟨Nat.zero_le _, Nat.zero_le _⟩ ?_
            refine lv_istore (lv' := [(5, .int (lbS by9 bu am9 (7 - k3) (5 - k9) ((5 - k9) + 1))), (4, .int (nI ((8 * (5 - k9)) + (7 - k3)))), (0, .ref o), (1, .int am9), (2, .int (nI (7 - k3))), (3, .int (nI (5 - k9)))]) hx hb dX3_allReach_46 hl (by decide) rfl (fun ls hl => ?_)
            obtain ⟨bh9, hbh⟩ : ∃ z : Int32, z = (lbS by9 bu am9 (7 - k3) (5 - k9) ((5 - k9) + 1)) := ⟨_, rfl⟩
            have hl : lv_has ls 7 [(5, .int bh9), (4, .int (nI ((8 * (5 - k9)) + (7 - k3)))), (0, .ref o), (1, .int am9), (2, .int (nI (7 - k3))), (3, .int (nI (5 - k9)))] := by rw [hbh]; exact hl
            have hbal : balF re (8 * (5 - k9) + (7 - k3)) bh9 = balC re bu am9 k3 (5 - k9) := by rw [hbh]; exact bal_step hk8 hk6 c_6 hold hlow9
            refine lv_aload_n hx hb dX3_allReach_48 rfl (lv_at hl 2 rfl) ?_
            refine va_get (D := G) (ci := 3) (v := .ref a_re) (C := RX3) (T := TX3) (N := 11) hx hb hts inlX3 hown hK hP 0 rfl rfl 0 (by decide) (hts (.fieldLink RX3 9 "EarthBanks$Slides" "rests" "[I") k_4_13) (fun _ h9 => h9) h_o_re dX3_allReach_49 ?_
            refine lv_iload hx hb dX3_allReach_52 (lv_at hl 1 rfl) ?_
            refine ialdN (j := ((8 * (5 - k9)) + (7 - k3))) hx hb hK hP 1 0 rfl rfl (by omega) (by decide) dX3_allReach_54 ?_
            refine lv_iconst (v := (-1)) hx hb dX3_allReach_55 (by decide) ?_
            refine lv_icmp_eq (tgt := 66) hx hb dX3_allReach_56 (by decide) (fun c_7 => ?_) (fun c_7 => ?_)
            · skip
              refine lv_iconst (v := 1) hx hb dX3_allReach_66 (by decide) ?_
              refine lv_goto (tgt := 71) hx hb dX3_allReach_67 (by decide) ?_
              refine lv_istore (lv' := [(6, .int 1), (5, .int bh9), (4, .int (nI ((8 * (5 - k9)) + (7 - k3)))), (0, .ref o), (1, .int am9), (2, .int (nI (7 - k3))), (3, .int (nI (5 - k9)))]) hx hb dX3_allReach_71 hl (by decide) rfl (fun ls hl => ?_)
              refine lv_aload_n hx hb dX3_allReach_73 rfl (lv_at hl 3 rfl) ?_
              refine va_get (D := G) (ci := 3) (v := .ref a_ba) (C := RX3) (T := TX3) (N := 11) hx hb hts inlX3 hown hK hP 0 rfl rfl 5 (by decide) (hts (.fieldLink RX3 28 "EarthBanks$Slides" "balances" "[I") k_4_18) (fun _ h9 => h9) h_o_ba dX3_allReach_74 ?_
              refine lv_iload_n hx hb dX3_allReach_77 rfl (lv_at hl 6 rfl) ?_
              refine lv_iload hx hb dX3_allReach_78 (lv_at hl 0 rfl) ?_
              refine lv_if_eq (tgt := 88) hx hb dX3_allReach_80 (by decide) (fun c_8 => ?_) (fun c_8 => ?_)
              · skip
                exact absurd c_8 (by decide)
              · skip
                refine lv_ldc (own := RX3) (index := 99) (v := 1000000000) hx hb hown (hts _ k_40_6) dX3_allReach_83 ?_
                refine lv_goto (tgt := 101) hx hb dX3_allReach_85 (by decide) ?_
                refine iastN (j := (5 - k9)) hx hb hK hP hD hS 3 0 rfl rfl (by omega) (by decide) dX3_allReach_101 (fun H locs hP hD hS => ?_)
                have hP : va_P G vwCl [(o, .inr (3, fs_o)), (a_re, .inl (cI, 48, .inl re)), (a_bu, .inl (cI, 48, .inl bu)), (a_ba, .inl (cI, 6, .inl (upd by9 (5 - k9) 1000000000)))] H := hP
                have hD : va_D A [(o, .inr (3, fs_o)), (a_re, .inl (cI, 48, .inl re)), (a_bu, .inl (cI, 48, .inl bu)), (a_ba, .inl (cI, 6, .inl (upd by9 (5 - k9) 1000000000)))] := hD
                have en_9 : upd by9 (5 - k9) 1000000000 = upd by9 (5 - k9) (balC re bu am9 k3 (5 - k9)) := by rw [← hbal]; simp [balF, c_7, c_8]
                rw [en_9] at hP hD
                have hP : va_P G vwCl [(o, .inr (3, fs_o)), (a_re, .inl (cI, 48, .inl re)), (a_bu, .inl (cI, 48, .inl bu)), (a_ba, .inl (cI, 6, .inl (upd by9 (5 - k9) (balC re bu am9 k3 (5 - k9)))))] H := hP
                have hD : va_D A [(o, .inr (3, fs_o)), (a_re, .inl (cI, 48, .inl re)), (a_bu, .inl (cI, 48, .inl bu)), (a_ba, .inl (cI, 6, .inl (upd by9 (5 - k9) (balC re bu am9 k3 (5 - k9)))))] := hD
                refine lv_aload_n hx hb dX3_allReach_102 rfl (lv_at hl 3 rfl) ?_
                refine va_get (D := G) (ci := 3) (v := .ref a_ba) (C := RX3) (T := TX3) (N := 11) hx hb hts inlX3 hown hK hP 0 rfl rfl 5 (by decide) (hts (.fieldLink RX3 28 "EarthBanks$Slides" "balances" "[I") k_4_18) (fun _ h9 => h9) h_o_ba dX3_allReach_103 ?_
                refine lv_iload_n hx hb dX3_allReach_106 rfl (lv_at hl 6 rfl) ?_
                refine ialdN (j := (5 - k9)) hx hb hK hP 3 0 rfl rfl (by omega) (by decide) dX3_allReach_107 ?_
                refine top_eq (y := (balC re bu am9 k3 (5 - k9))) (pk_us) ?_
                refine lv_if_ge (tgt := 113) hx hb dX3_allReach_108 (by decide) (fun c_10 => ?_) (fun c_10 => ?_)
                · skip
                  refine lv_iinc (v := pI (5 - k9)) (lv' := [(3, .int (pI (5 - k9))), (6, .int 1), (5, .int bh9), (4, .int (nI ((8 * (5 - k9)) + (7 - k3)))), (0, .ref o), (1, .int am9), (2, .int (nI (7 - k3)))]) hx hb dX3_allReach_113 hl (k := 6) rfl (rfl) (by decide) rfl (fun ls hl => ?_)
                  refine lv_goto (tgt := 9) hx hb dX3_allReach_116 (by decide) ?_
                  have el_11 : (pI (5 - k9) : Int32) = pI (6 - (k9 + 1)) := by congr 1; omega
                  have er_12 : (upd by9 (5 - k9) (balC re bu am9 k3 (5 - k9))) = (upd by9 (5 - k9) (balC re bu am9 k3 (5 - k9))) := by simp [bI, c_2, c_4, c_6, c_7, c_8, c_10]
                  exact ih9 (k9 + 1) (upd by9 (5 - k9) (balC re bu am9 k3 (5 - k9))) (by omega) (by omega) (by omega) (fun y h1 h2 => by (by_cases e9 : y = 5 - k9); (· rw [e9]; exact pk_us); (· exact (pk_un e9).trans (hnew y (by omega) h2))) (fun y h1 => (pk_un (by omega)).trans (hlow9 y (by omega))) (by simp [anyS, hneg2, nlt0 c_10]) H locs (by rw [← er_12]; exact hP) (by rw [← er_12]; exact hD) hS ls (lv_sub hl [4, 5, 6, 0] (show ([(0, .ref o), (1, .int am9), (2, .int (nI (7 - k3))), (3, .int (pI (5 - k9)))] : List (Nat × Value)) = [(0, .ref o), (1, .int am9), (2, .int (nI (7 - k3))), (3, .int (pI (6 - (k9 + 1))))] by rw [← el_11]))
                · skip
                  refine lv_iconst (v := 0) hx hb dX3_allReach_111 (by decide) ?_
                  exact retWi (upd by9 (5 - k9) (balC re bu am9 k3 (5 - k9))) hx hb hr (rfl) hlocks dX3_allReach_112 hS (by rw [anyS_t (k := k3) (show negT re bu am9 k3 = true from anyS_t (k := k9) (by simp [nle0 c_10]) (by omega)) (by omega)]; rfl) hP
            · skip
              refine lv_iload hx hb dX3_allReach_59 (lv_at hl 0 rfl) ?_
              refine lv_ldc (own := RX3) (index := 99) (v := 1000000000) hx hb hown (hts _ k_40_6) dX3_allReach_61 ?_
              refine lv_icmp_ne (tgt := 70) hx hb dX3_allReach_63 (by decide) (fun c_13 => ?_) (fun c_13 => ?_)
              · skip
                refine lv_iconst (v := 0) hx hb dX3_allReach_70 (by decide) ?_
                refine lv_istore (lv' := [(6, .int 0), (5, .int bh9), (4, .int (nI ((8 * (5 - k9)) + (7 - k3)))), (0, .ref o), (1, .int am9), (2, .int (nI (7 - k3))), (3, .int (nI (5 - k9)))]) hx hb dX3_allReach_71 hl (by decide) rfl (fun ls hl => ?_)
                refine lv_aload_n hx hb dX3_allReach_73 rfl (lv_at hl 3 rfl) ?_
                refine va_get (D := G) (ci := 3) (v := .ref a_ba) (C := RX3) (T := TX3) (N := 11) hx hb hts inlX3 hown hK hP 0 rfl rfl 5 (by decide) (hts (.fieldLink RX3 28 "EarthBanks$Slides" "balances" "[I") k_4_18) (fun _ h9 => h9) h_o_ba dX3_allReach_74 ?_
                refine lv_iload_n hx hb dX3_allReach_77 rfl (lv_at hl 6 rfl) ?_
                refine lv_iload hx hb dX3_allReach_78 (lv_at hl 0 rfl) ?_
                refine lv_if_eq (tgt := 88) hx hb dX3_allReach_80 (by decide) (fun c_14 => ?_) (fun c_14 => ?_)
                · skip
                  refine lv_iload hx hb dX3_allReach_88 (lv_at hl 1 rfl) ?_
                  refine lv_bipush (v := 100) hx hb dX3_allReach_90 (by decide) ?_
                  refine lv_aload_n hx hb dX3_allReach_92 rfl (lv_at hl 3 rfl) ?_
                  refine va_get (D := G) (ci := 3) (v := .ref a_re) (C := RX3) (T := TX3) (N := 11) hx hb hts inlX3 hown hK hP 0 rfl rfl 0 (by decide) (hts (.fieldLink RX3 9 "EarthBanks$Slides" "rests" "[I") k_4_13) (fun _ h9 => h9) h_o_re dX3_allReach_93 ?_
                  refine lv_iload hx hb dX3_allReach_96 (lv_at hl 2 rfl) ?_
                  refine ialdN (j := ((8 * (5 - k9)) + (7 - k3))) hx hb hK hP 1 0 rfl rfl (by omega) (by decide) dX3_allReach_98 ?_
                  refine lv_imul hx hb dX3_allReach_99 ?_
                  refine lv_iadd hx hb dX3_allReach_100 ?_
                  refine iastN (j := (5 - k9)) hx hb hK hP hD hS 3 0 rfl rfl (by omega) (by decide) dX3_allReach_101 (fun H locs hP hD hS => ?_)
                  have hP : va_P G vwCl [(o, .inr (3, fs_o)), (a_re, .inl (cI, 48, .inl re)), (a_bu, .inl (cI, 48, .inl bu)), (a_ba, .inl (cI, 6, .inl (upd by9 (5 - k9) (bh9 + (100 * (re ((8 * (5 - k9)) + (7 - k3))))))))] H := hP
                  have hD : va_D A [(o, .inr (3, fs_o)), (a_re, .inl (cI, 48, .inl re)), (a_bu, .inl (cI, 48, .inl bu)), (a_ba, .inl (cI, 6, .inl (upd by9 (5 - k9) (bh9 + (100 * (re ((8 * (5 - k9)) + (7 - k3))))))))] := hD
                  have en_15 : upd by9 (5 - k9) (bh9 + (100 * (re ((8 * (5 - k9)) + (7 - k3))))) = upd by9 (5 - k9) (balC re bu am9 k3 (5 - k9)) := by rw [← hbal]; simp [balF, c_7, c_13, c_14]
                  rw [en_15] at hP hD
                  have hP : va_P G vwCl [(o, .inr (3, fs_o)), (a_re, .inl (cI, 48, .inl re)), (a_bu, .inl (cI, 48, .inl bu)), (a_ba, .inl (cI, 6, .inl (upd by9 (5 - k9) (balC re bu am9 k3 (5 - k9)))))] H := hP
                  have hD : va_D A [(o, .inr (3, fs_o)), (a_re, .inl (cI, 48, .inl re)), (a_bu, .inl (cI, 48, .inl bu)), (a_ba, .inl (cI, 6, .inl (upd by9 (5 - k9) (balC re bu am9 k3 (5 - k9)))))] := hD
                  refine lv_aload_n hx hb dX3_allReach_102 rfl (lv_at hl 3 rfl) ?_
                  refine va_get (D := G) (ci := 3) (v := .ref a_ba) (C := RX3) (T := TX3) (N := 11) hx hb hts inlX3 hown hK hP 0 rfl rfl 5 (by decide) (hts (.fieldLink RX3 28 "EarthBanks$Slides" "balances" "[I") k_4_18) (fun _ h9 => h9) h_o_ba dX3_allReach_103 ?_
                  refine lv_iload_n hx hb dX3_allReach_106 rfl (lv_at hl 6 rfl) ?_
                  refine ialdN (j := (5 - k9)) hx hb hK hP 3 0 rfl rfl (by omega) (by decide) dX3_allReach_107 ?_
                  refine top_eq (y := (balC re bu am9 k3 (5 - k9))) (pk_us) ?_
                  refine lv_if_ge (tgt := 113) hx hb dX3_allReach_108 (by decide) (fun c_16 => ?_) (fun c_16 => ?_)
                  · skip
                    refine lv_iinc (v := pI (5 - k9)) (lv' := [(3, .int (pI (5 - k9))), (6, .int 0), (5, .int bh9), (4, .int (nI ((8 * (5 - k9)) + (7 - k3)))), (0, .ref o), (1, .int am9), (2, .int (nI (7 - k3)))]) hx hb dX3_allReach_113 hl (k := 6) rfl (rfl) (by decide) rfl (fun ls hl => ?_)
                    refine lv_goto (tgt := 9) hx hb dX3_allReach_116 (by decide) ?_
                    have el_17 : (pI (5 - k9) : Int32) = pI (6 - (k9 + 1)) := by congr 1; omega
                    have er_18 : (upd by9 (5 - k9) (balC re bu am9 k3 (5 - k9))) = (upd by9 (5 - k9) (balC re bu am9 k3 (5 - k9))) := by simp [bI, c_2, c_4, c_6, c_7, c_13, c_14, c_16]
                    exact ih9 (k9 + 1) (upd by9 (5 - k9) (balC re bu am9 k3 (5 - k9))) (by omega) (by omega) (by omega) (fun y h1 h2 => by (by_cases e9 : y = 5 - k9); (· rw [e9]; exact pk_us); (· exact (pk_un e9).trans (hnew y (by omega) h2))) (fun y h1 => (pk_un (by omega)).trans (hlow9 y (by omega))) (by simp [anyS, hneg2, nlt0 c_16]) H locs (by rw [← er_18]; exact hP) (by rw [← er_18]; exact hD) hS ls (lv_sub hl [4, 5, 6, 0] (show ([(0, .ref o), (1, .int am9), (2, .int (nI (7 - k3))), (3, .int (pI (5 - k9)))] : List (Nat × Value)) = [(0, .ref o), (1, .int am9), (2, .int (nI (7 - k3))), (3, .int (pI (6 - (k9 + 1))))] by rw [← el_17]))
                  · skip
                    refine lv_iconst (v := 0) hx hb dX3_allReach_111 (by decide) ?_
                    exact retWi (upd by9 (5 - k9) (balC re bu am9 k3 (5 - k9))) hx hb hr (rfl) hlocks dX3_allReach_112 hS (by rw [anyS_t (k := k3) (show negT re bu am9 k3 = true from anyS_t (k := k9) (by simp [nle0 c_16]) (by omega)) (by omega)]; rfl) hP
                · skip
                  exact absurd (by decide) c_14
              · skip
                refine lv_iconst (v := 1) hx hb dX3_allReach_66 (by decide) ?_
                refine lv_goto (tgt := 71) hx hb dX3_allReach_67 (by decide) ?_
                refine lv_istore (lv' := [(6, .int 1), (5, .int bh9), (4, .int (nI ((8 * (5 - k9)) + (7 - k3)))), (0, .ref o), (1, .int am9), (2, .int (nI (7 - k3))), (3, .int (nI (5 - k9)))]) hx hb dX3_allReach_71 hl (by decide) rfl (fun ls hl => ?_)
                refine lv_aload_n hx hb dX3_allReach_73 rfl (lv_at hl 3 rfl) ?_
                refine va_get (D := G) (ci := 3) (v := .ref a_ba) (C := RX3) (T := TX3) (N := 11) hx hb hts inlX3 hown hK hP 0 rfl rfl 5 (by decide) (hts (.fieldLink RX3 28 "EarthBanks$Slides" "balances" "[I") k_4_18) (fun _ h9 => h9) h_o_ba dX3_allReach_74 ?_
                refine lv_iload_n hx hb dX3_allReach_77 rfl (lv_at hl 6 rfl) ?_
                refine lv_iload hx hb dX3_allReach_78 (lv_at hl 0 rfl) ?_
                refine lv_if_eq (tgt := 88) hx hb dX3_allReach_80 (by decide) (fun c_19 => ?_) (fun c_19 => ?_)
                · skip
                  exact absurd c_19 (by decide)
                · skip
                  refine lv_ldc (own := RX3) (index := 99) (v := 1000000000) hx hb hown (hts _ k_40_6) dX3_allReach_83 ?_
                  refine lv_goto (tgt := 101) hx hb dX3_allReach_85 (by decide) ?_
                  refine iastN (j := (5 - k9)) hx hb hK hP hD hS 3 0 rfl rfl (by omega) (by decide) dX3_allReach_101 (fun H locs hP hD hS => ?_)
                  have hP : va_P G vwCl [(o, .inr (3, fs_o)), (a_re, .inl (cI, 48, .inl re)), (a_bu, .inl (cI, 48, .inl bu)), (a_ba, .inl (cI, 6, .inl (upd by9 (5 - k9) 1000000000)))] H := hP
                  have hD : va_D A [(o, .inr (3, fs_o)), (a_re, .inl (cI, 48, .inl re)), (a_bu, .inl (cI, 48, .inl bu)), (a_ba, .inl (cI, 6, .inl (upd by9 (5 - k9) 1000000000)))] := hD
                  have en_20 : upd by9 (5 - k9) 1000000000 = upd by9 (5 - k9) (balC re bu am9 k3 (5 - k9)) := by rw [← hbal]; simp [balF, c_7, c_13, c_19]
                  rw [en_20] at hP hD
                  have hP : va_P G vwCl [(o, .inr (3, fs_o)), (a_re, .inl (cI, 48, .inl re)), (a_bu, .inl (cI, 48, .inl bu)), (a_ba, .inl (cI, 6, .inl (upd by9 (5 - k9) (balC re bu am9 k3 (5 - k9)))))] H := hP
                  have hD : va_D A [(o, .inr (3, fs_o)), (a_re, .inl (cI, 48, .inl re)), (a_bu, .inl (cI, 48, .inl bu)), (a_ba, .inl (cI, 6, .inl (upd by9 (5 - k9) (balC re bu am9 k3 (5 - k9)))))] := hD
                  refine lv_aload_n hx hb dX3_allReach_102 rfl (lv_at hl 3 rfl) ?_
                  refine va_get (D := G) (ci := 3) (v := .ref a_ba) (C := RX3) (T := TX3) (N := 11) hx hb hts inlX3 hown hK hP 0 rfl rfl 5 (by decide) (hts (.fieldLink RX3 28 "EarthBanks$Slides" "balances" "[I") k_4_18) (fun _ h9 => h9) h_o_ba dX3_allReach_103 ?_
                  refine lv_iload_n hx hb dX3_allReach_106 rfl (lv_at hl 6 rfl) ?_
                  refine ialdN (j := (5 - k9)) hx hb hK hP 3 0 rfl rfl (by omega) (by decide) dX3_allReach_107 ?_
                  refine top_eq (y := (balC re bu am9 k3 (5 - k9))) (pk_us) ?_
                  refine lv_if_ge (tgt := 113) hx hb dX3_allReach_108 (by decide) (fun c_21 => ?_) (fun c_21 => ?_)
                  · skip
                    refine lv_iinc (v := pI (5 - k9)) (lv' := [(3, .int (pI (5 - k9))), (6, .int 1), (5, .int bh9), (4, .int (nI ((8 * (5 - k9)) + (7 - k3)))), (0, .ref o), (1, .int am9), (2, .int (nI (7 - k3)))]) hx hb dX3_allReach_113 hl (k := 6) rfl (rfl) (by decide) rfl (fun ls hl => ?_)
                    refine lv_goto (tgt := 9) hx hb dX3_allReach_116 (by decide) ?_
                    have el_22 : (pI (5 - k9) : Int32) = pI (6 - (k9 + 1)) := by congr 1; omega
                    have er_23 : (upd by9 (5 - k9) (balC re bu am9 k3 (5 - k9))) = (upd by9 (5 - k9) (balC re bu am9 k3 (5 - k9))) := by simp [bI, c_2, c_4, c_6, c_7, c_13, c_19, c_21]
                    exact ih9 (k9 + 1) (upd by9 (5 - k9) (balC re bu am9 k3 (5 - k9))) (by omega) (by omega) (by omega) (fun y h1 h2 => by (by_cases e9 : y = 5 - k9); (· rw [e9]; exact pk_us); (· exact (pk_un e9).trans (hnew y (by omega) h2))) (fun y h1 => (pk_un (by omega)).trans (hlow9 y (by omega))) (by simp [anyS, hneg2, nlt0 c_21]) H locs (by rw [← er_23]; exact hP) (by rw [← er_23]; exact hD) hS ls (lv_sub hl [4, 5, 6, 0] (show ([(0, .ref o), (1, .int am9), (2, .int (nI (7 - k3))), (3, .int (pI (5 - k9)))] : List (Nat × Value)) = [(0, .ref o), (1, .int am9), (2, .int (nI (7 - k3))), (3, .int (pI (6 - (k9 + 1))))] by rw [← el_22]))
                  · skip
                    refine lv_iconst (v := 0) hx hb dX3_allReach_111 (by decide) ?_
                    exact retWi (upd by9 (5 - k9) (balC re bu am9 k3 (5 - k9))) hx hb hr (rfl) hlocks dX3_allReach_112 hS (by rw [anyS_t (k := k3) (show negT re bu am9 k3 = true from anyS_t (k := k9) (by simp [nle0 c_21]) (by omega)) (by omega)]; rfl) hP
          · skip
            have c_6 : (7 - k3) = 7 := (nI_eq (a := (7 - k3)) (b := 7) (by omega) (by omega)).mp c_6
            refine lv_iload_n hx hb dX3_allReach_26 rfl (lv_at hl 2 rfl) ?_
            refine lv_ineg hx hb dX3_allReach_27 ?_
            refine lv_aload_n hx hb dX3_allReach_28 rfl (lv_at hl 1 rfl) ?_
            refine lv_iload_n hx hb dX3_allReach_29 rfl (lv_at hl 3 rfl) ?_
            refine lv_iload_n hx hb dX3_allReach_30 rfl (lv_at hl 4 rfl) ?_
            refine lv_iconst (v := 0) hx hb dX3_allReach_31 (by decide) ?_
            refine cRV (As := [.int (nI (7 - k3)), .int (nI (5 - k9)), .int 0]) (rest := [.int (-am9)]) hx hb hml hown hts (c_X3_driveOf l G E cI cZ (7 - k3) (5 - k9) 0 o a_bu fs_o h_o_bu bu (by first | assumption | omega | simp [bI, c_2, c_4, c_6]) (by first | assumption | omega | simp [bI, c_2, c_4, c_6])) k_26_1 cal_X3_driveOf ⟨Nat.le_of_ble_eq_true rfl, Nat.le_of_ble_eq_true rfl⟩ hE hlow hS hK [0, 1] rfl hP [0, 2] rfl 0 3 rfl rfl rfl hl.1 rfl (Nat.le_of_ble_eq_true rfl) dX3_allReach_32 ⟨Nat.zero_le _, Nat.zero_le _⟩ ?_
            refine lv_imul hx hb dX3_allReach_35 ?_
            refine lv_goto (tgt := 46) hx hb dX3_allReach_36 (by decide) ?_
            refine lv_istore (lv' := [(5, .int ((-am9) * (bu ((8 * (5 - k9)) + (7 - k3)) * (nI (1 + (5 - k9)) - nI 0)))), (4, .int (nI ((8 * (5 - k9)) + (7 - k3)))), (0, .ref o), (1, .int am9), (2, .int (nI (7 - k3))), (3, .int (nI (5 - k9)))]) hx hb dX3_allReach_46 hl (by decide) rfl (fun ls hl => ?_)
            obtain ⟨bh9, hbh⟩ : ∃ z : Int32, z = ((-am9) * (bu ((8 * (5 - k9)) + (7 - k3)) * (nI (1 + (5 - k9)) - nI 0))) := ⟨_, rfl⟩
            have hl : lv_has ls 7 [(5, .int bh9), (4, .int (nI ((8 * (5 - k9)) + (7 - k3)))), (0, .ref o), (1, .int am9), (2, .int (nI (7 - k3))), (3, .int (nI (5 - k9)))] := by rw [hbh]; exact hl
            have hbal : balF re (8 * (5 - k9) + (7 - k3)) bh9 = balC re bu am9 k3 (5 - k9) := by rw [hbh]; exact bal_first c_6
            refine lv_aload_n hx hb dX3_allReach_48 rfl (lv_at hl 2 rfl) ?_
            refine va_get (D := G) (ci := 3) (v := .ref a_re) (C := RX3) (T := TX3) (N := 11) hx hb hts inlX3 hown hK hP 0 rfl rfl 0 (by decide) (hts (.fieldLink RX3 9 "EarthBanks$Slides" "rests" "[I") k_4_13) (fun _ h9 => h9) h_o_re dX3_allReach_49 ?_
            refine lv_iload hx hb dX3_allReach_52 (lv_at hl 1 rfl) ?_
            refine ialdN (j := ((8 * (5 - k9)) + (7 - k3))) hx hb hK hP 1 0 rfl rfl (by omega) (by decide) dX3_allReach_54 ?_
            refine lv_iconst (v := (-1)) hx hb dX3_allReach_55 (by decide) ?_
            refine lv_icmp_eq (tgt := 66) hx hb dX3_allReach_56 (by decide) (fun c_24 => ?_) (fun c_24 => ?_)
            · skip
              refine lv_iconst (v := 1) hx hb dX3_allReach_66 (by decide) ?_
              refine lv_goto (tgt := 71) hx hb dX3_allReach_67 (by decide) ?_
              refine lv_istore (lv' := [(6, .int 1), (5, .int bh9), (4, .int (nI ((8 * (5 - k9)) + (7 - k3)))), (0, .ref o), (1, .int am9), (2, .int (nI (7 - k3))), (3, .int (nI (5 - k9)))]) hx hb dX3_allReach_71 hl (by decide) rfl (fun ls hl => ?_)
              refine lv_aload_n hx hb dX3_allReach_73 rfl (lv_at hl 3 rfl) ?_
              refine va_get (D := G) (ci := 3) (v := .ref a_ba) (C := RX3) (T := TX3) (N := 11) hx hb hts inlX3 hown hK hP 0 rfl rfl 5 (by decide) (hts (.fieldLink RX3 28 "EarthBanks$Slides" "balances" "[I") k_4_18) (fun _ h9 => h9) h_o_ba dX3_allReach_74 ?_
              refine lv_iload_n hx hb dX3_allReach_77 rfl (lv_at hl 6 rfl) ?_
              refine lv_iload hx hb dX3_allReach_78 (lv_at hl 0 rfl) ?_
              refine lv_if_eq (tgt := 88) hx hb dX3_allReach_80 (by decide) (fun c_25 => ?_) (fun c_25 => ?_)
              · skip
                exact absurd c_25 (by decide)
              · skip
                refine lv_ldc (own := RX3) (index := 99) (v := 1000000000) hx hb hown (hts _ k_40_6) dX3_allReach_83 ?_
                refine lv_goto (tgt := 101) hx hb dX3_allReach_85 (by decide) ?_
                refine iastN (j := (5 - k9)) hx hb hK hP hD hS 3 0 rfl rfl (by omega) (by decide) dX3_allReach_101 (fun H locs hP hD hS => ?_)
                have hP : va_P G vwCl [(o, .inr (3, fs_o)), (a_re, .inl (cI, 48, .inl re)), (a_bu, .inl (cI, 48, .inl bu)), (a_ba, .inl (cI, 6, .inl (upd by9 (5 - k9) 1000000000)))] H := hP
                have hD : va_D A [(o, .inr (3, fs_o)), (a_re, .inl (cI, 48, .inl re)), (a_bu, .inl (cI, 48, .inl bu)), (a_ba, .inl (cI, 6, .inl (upd by9 (5 - k9) 1000000000)))] := hD
                have en_26 : upd by9 (5 - k9) 1000000000 = upd by9 (5 - k9) (balC re bu am9 k3 (5 - k9)) := by rw [← hbal]; simp [balF, c_24, c_25]
                rw [en_26] at hP hD
                have hP : va_P G vwCl [(o, .inr (3, fs_o)), (a_re, .inl (cI, 48, .inl re)), (a_bu, .inl (cI, 48, .inl bu)), (a_ba, .inl (cI, 6, .inl (upd by9 (5 - k9) (balC re bu am9 k3 (5 - k9)))))] H := hP
                have hD : va_D A [(o, .inr (3, fs_o)), (a_re, .inl (cI, 48, .inl re)), (a_bu, .inl (cI, 48, .inl bu)), (a_ba, .inl (cI, 6, .inl (upd by9 (5 - k9) (balC re bu am9 k3 (5 - k9)))))] := hD
                refine lv_aload_n hx hb dX3_allReach_102 rfl (lv_at hl 3 rfl) ?_
                refine va_get (D := G) (ci := 3) (v := .ref a_ba) (C := RX3) (T := TX3) (N := 11) hx hb hts inlX3 hown hK hP 0 rfl rfl 5 (by decide) (hts (.fieldLink RX3 28 "EarthBanks$Slides" "balances" "[I") k_4_18) (fun _ h9 => h9) h_o_ba dX3_allReach_103 ?_
                refine lv_iload_n hx hb dX3_allReach_106 rfl (lv_at hl 6 rfl) ?_
                refine ialdN (j := (5 - k9)) hx hb hK hP 3 0 rfl rfl (by omega) (by decide) dX3_allReach_107 ?_
                refine top_eq (y := (balC re bu am9 k3 (5 - k9))) (pk_us) ?_
                refine lv_if_ge (tgt := 113) hx hb dX3_allReach_108 (by decide) (fun c_27 => ?_) (fun c_27 => ?_)
                · skip
                  refine lv_iinc (v := pI (5 - k9)) (lv' := [(3, .int (pI (5 - k9))), (6, .int 1), (5, .int bh9), (4, .int (nI ((8 * (5 - k9)) + (7 - k3)))), (0, .ref o), (1, .int am9), (2, .int (nI (7 - k3)))]) hx hb dX3_allReach_113 hl (k := 6) rfl (rfl) (by decide) rfl (fun ls hl => ?_)
                  refine lv_goto (tgt := 9) hx hb dX3_allReach_116 (by decide) ?_
                  have el_28 : (pI (5 - k9) : Int32) = pI (6 - (k9 + 1)) := by congr 1; omega
                  have er_29 : (upd by9 (5 - k9) (balC re bu am9 k3 (5 - k9))) = (upd by9 (5 - k9) (balC re bu am9 k3 (5 - k9))) := by simp [bI, c_2, c_4, c_6, c_24, c_25, c_27]
                  exact ih9 (k9 + 1) (upd by9 (5 - k9) (balC re bu am9 k3 (5 - k9))) (by omega) (by omega) (by omega) (fun y h1 h2 => by (by_cases e9 : y = 5 - k9); (· rw [e9]; exact pk_us); (· exact (pk_un e9).trans (hnew y (by omega) h2))) (fun y h1 => (pk_un (by omega)).trans (hlow9 y (by omega))) (by simp [anyS, hneg2, nlt0 c_27]) H locs (by rw [← er_29]; exact hP) (by rw [← er_29]; exact hD) hS ls (lv_sub hl [4, 5, 6, 0] (show ([(0, .ref o), (1, .int am9), (2, .int (nI (7 - k3))), (3, .int (pI (5 - k9)))] : List (Nat × Value)) = [(0, .ref o), (1, .int am9), (2, .int (nI (7 - k3))), (3, .int (pI (6 - (k9 + 1))))] by rw [← el_28]))
                · skip
                  refine lv_iconst (v := 0) hx hb dX3_allReach_111 (by decide) ?_
                  exact retWi (upd by9 (5 - k9) (balC re bu am9 k3 (5 - k9))) hx hb hr (rfl) hlocks dX3_allReach_112 hS (by rw [anyS_t (k := k3) (show negT re bu am9 k3 = true from anyS_t (k := k9) (by simp [nle0 c_27]) (by omega)) (by omega)]; rfl) hP
            · skip
              refine lv_iload hx hb dX3_allReach_59 (lv_at hl 0 rfl) ?_
              refine lv_ldc (own := RX3) (index := 99) (v := 1000000000) hx hb hown (hts _ k_40_6) dX3_allReach_61 ?_
              refine lv_icmp_ne (tgt := 70) hx hb dX3_allReach_63 (by decide) (fun c_30 => ?_) (fun c_30 => ?_)
              · skip
                refine lv_iconst (v := 0) hx hb dX3_allReach_70 (by decide) ?_
                refine lv_istore (lv' := [(6, .int 0), (5, .int bh9), (4, .int (nI ((8 * (5 - k9)) + (7 - k3)))), (0, .ref o), (1, .int am9), (2, .int (nI (7 - k3))), (3, .int (nI (5 - k9)))]) hx hb dX3_allReach_71 hl (by decide) rfl (fun ls hl => ?_)
                refine lv_aload_n hx hb dX3_allReach_73 rfl (lv_at hl 3 rfl) ?_
                refine va_get (D := G) (ci := 3) (v := .ref a_ba) (C := RX3) (T := TX3) (N := 11) hx hb hts inlX3 hown hK hP 0 rfl rfl 5 (by decide) (hts (.fieldLink RX3 28 "EarthBanks$Slides" "balances" "[I") k_4_18) (fun _ h9 => h9) h_o_ba dX3_allReach_74 ?_
                refine lv_iload_n hx hb dX3_allReach_77 rfl (lv_at hl 6 rfl) ?_
                refine lv_iload hx hb dX3_allReach_78 (lv_at hl 0 rfl) ?_
                refine lv_if_eq (tgt := 88) hx hb dX3_allReach_80 (by decide) (fun c_31 => ?_) (fun c_31 => ?_)
                · skip
                  refine lv_iload hx hb dX3_allReach_88 (lv_at hl 1 rfl) ?_
                  refine lv_bipush (v := 100) hx hb dX3_allReach_90 (by decide) ?_
                  refine lv_aload_n hx hb dX3_allReach_92 rfl (lv_at hl 3 rfl) ?_
                  refine va_get (D := G) (ci := 3) (v := .ref a_re) (C := RX3) (T := TX3) (N := 11) hx hb hts inlX3 hown hK hP 0 rfl rfl 0 (by decide) (hts (.fieldLink RX3 9 "EarthBanks$Slides" "rests" "[I") k_4_13) (fun _ h9 => h9) h_o_re dX3_allReach_93 ?_
                  refine lv_iload hx hb dX3_allReach_96 (lv_at hl 2 rfl) ?_
                  refine ialdN (j := ((8 * (5 - k9)) + (7 - k3))) hx hb hK hP 1 0 rfl rfl (by omega) (by decide) dX3_allReach_98 ?_
                  refine lv_imul hx hb dX3_allReach_99 ?_
                  refine lv_iadd hx hb dX3_allReach_100 ?_
                  refine iastN (j := (5 - k9)) hx hb hK hP hD hS 3 0 rfl rfl (by omega) (by decide) dX3_allReach_101 (fun H locs hP hD hS => ?_)
                  have hP : va_P G vwCl [(o, .inr (3, fs_o)), (a_re, .inl (cI, 48, .inl re)), (a_bu, .inl (cI, 48, .inl bu)), (a_ba, .inl (cI, 6, .inl (upd by9 (5 - k9) (bh9 + (100 * (re ((8 * (5 - k9)) + (7 - k3))))))))] H := hP
                  have hD : va_D A [(o, .inr (3, fs_o)), (a_re, .inl (cI, 48, .inl re)), (a_bu, .inl (cI, 48, .inl bu)), (a_ba, .inl (cI, 6, .inl (upd by9 (5 - k9) (bh9 + (100 * (re ((8 * (5 - k9)) + (7 - k3))))))))] := hD
                  have en_32 : upd by9 (5 - k9) (bh9 + (100 * (re ((8 * (5 - k9)) + (7 - k3))))) = upd by9 (5 - k9) (balC re bu am9 k3 (5 - k9)) := by rw [← hbal]; simp [balF, c_24, c_30, c_31]
                  rw [en_32] at hP hD
                  have hP : va_P G vwCl [(o, .inr (3, fs_o)), (a_re, .inl (cI, 48, .inl re)), (a_bu, .inl (cI, 48, .inl bu)), (a_ba, .inl (cI, 6, .inl (upd by9 (5 - k9) (balC re bu am9 k3 (5 - k9)))))] H := hP
                  have hD : va_D A [(o, .inr (3, fs_o)), (a_re, .inl (cI, 48, .inl re)), (a_bu, .inl (cI, 48, .inl bu)), (a_ba, .inl (cI, 6, .inl (upd by9 (5 - k9) (balC re bu am9 k3 (5 - k9)))))] := hD
                  refine lv_aload_n hx hb dX3_allReach_102 rfl (lv_at hl 3 rfl) ?_
                  refine va_get (D := G) (ci := 3) (v := .ref a_ba) (C := RX3) (T := TX3) (N := 11) hx hb hts inlX3 hown hK hP 0 rfl rfl 5 (by decide) (hts (.fieldLink RX3 28 "EarthBanks$Slides" "balances" "[I") k_4_18) (fun _ h9 => h9) h_o_ba dX3_allReach_103 ?_
                  refine lv_iload_n hx hb dX3_allReach_106 rfl (lv_at hl 6 rfl) ?_
                  refine ialdN (j := (5 - k9)) hx hb hK hP 3 0 rfl rfl (by omega) (by decide) dX3_allReach_107 ?_
                  refine top_eq (y := (balC re bu am9 k3 (5 - k9))) (pk_us) ?_
                  refine lv_if_ge (tgt := 113) hx hb dX3_allReach_108 (by decide) (fun c_33 => ?_) (fun c_33 => ?_)
                  · skip
                    refine lv_iinc (v := pI (5 - k9)) (lv' := [(3, .int (pI (5 - k9))), (6, .int 0), (5, .int bh9), (4, .int (nI ((8 * (5 - k9)) + (7 - k3)))), (0, .ref o), (1, .int am9), (2, .int (nI (7 - k3)))]) hx hb dX3_allReach_113 hl (k := 6) rfl (rfl) (by decide) rfl (fun ls hl => ?_)
                    refine lv_goto (tgt := 9) hx hb dX3_allReach_116 (by decide) ?_
                    have el_34 : (pI (5 - k9) : Int32) = pI (6 - (k9 + 1)) := by congr 1; omega
                    have er_35 : (upd by9 (5 - k9) (balC re bu am9 k3 (5 - k9))) = (upd by9 (5 - k9) (balC re bu am9 k3 (5 - k9))) := by simp [bI, c_2, c_4, c_6, c_24, c_30, c_31, c_33]
                    exact ih9 (k9 + 1) (upd by9 (5 - k9) (balC re bu am9 k3 (5 - k9))) (by omega) (by omega) (by omega) (fun y h1 h2 => by (by_cases e9 : y = 5 - k9); (· rw [e9]; exact pk_us); (· exact (pk_un e9).trans (hnew y (by omega) h2))) (fun y h1 => (pk_un (by omega)).trans (hlow9 y (by omega))) (by simp [anyS, hneg2, nlt0 c_33]) H locs (by rw [← er_35]; exact hP) (by rw [← er_35]; exact hD) hS ls (lv_sub hl [4, 5, 6, 0] (show ([(0, .ref o), (1, .int am9), (2, .int (nI (7 - k3))), (3, .int (pI (5 - k9)))] : List (Nat × Value)) = [(0, .ref o), (1, .int am9), (2, .int (nI (7 - k3))), (3, .int (pI (6 - (k9 + 1))))] by rw [← el_34]))
                  · skip
                    refine lv_iconst (v := 0) hx hb dX3_allReach_111 (by decide) ?_
                    exact retWi (upd by9 (5 - k9) (balC re bu am9 k3 (5 - k9))) hx hb hr (rfl) hlocks dX3_allReach_112 hS (by rw [anyS_t (k := k3) (show negT re bu am9 k3 = true from anyS_t (k := k9) (by simp [nle0 c_33]) (by omega)) (by omega)]; rfl) hP
                · skip
                  exact absurd (by decide) c_31
              · skip
                refine lv_iconst (v := 1) hx hb dX3_allReach_66 (by decide) ?_
                refine lv_goto (tgt := 71) hx hb dX3_allReach_67 (by decide) ?_
                refine lv_istore (lv' := [(6, .int 1), (5, .int bh9), (4, .int (nI ((8 * (5 - k9)) + (7 - k3)))), (0, .ref o), (1, .int am9), (2, .int (nI (7 - k3))), (3, .int (nI (5 - k9)))]) hx hb dX3_allReach_71 hl (by decide) rfl (fun ls hl => ?_)
                refine lv_aload_n hx hb dX3_allReach_73 rfl (lv_at hl 3 rfl) ?_
                refine va_get (D := G) (ci := 3) (v := .ref a_ba) (C := RX3) (T := TX3) (N := 11) hx hb hts inlX3 hown hK hP 0 rfl rfl 5 (by decide) (hts (.fieldLink RX3 28 "EarthBanks$Slides" "balances" "[I") k_4_18) (fun _ h9 => h9) h_o_ba dX3_allReach_74 ?_
                refine lv_iload_n hx hb dX3_allReach_77 rfl (lv_at hl 6 rfl) ?_
                refine lv_iload hx hb dX3_allReach_78 (lv_at hl 0 rfl) ?_
                refine lv_if_eq (tgt := 88) hx hb dX3_allReach_80 (by decide) (fun c_36 => ?_) (fun c_36 => ?_)
                · skip
                  exact absurd c_36 (by decide)
                · skip
                  refine lv_ldc (own := RX3) (index := 99) (v := 1000000000) hx hb hown (hts _ k_40_6) dX3_allReach_83 ?_
                  refine lv_goto (tgt := 101) hx hb dX3_allReach_85 (by decide) ?_
                  refine iastN (j := (5 - k9)) hx hb hK hP hD hS 3 0 rfl rfl (by omega) (by decide) dX3_allReach_101 (fun H locs hP hD hS => ?_)
                  have hP : va_P G vwCl [(o, .inr (3, fs_o)), (a_re, .inl (cI, 48, .inl re)), (a_bu, .inl (cI, 48, .inl bu)), (a_ba, .inl (cI, 6, .inl (upd by9 (5 - k9) 1000000000)))] H := hP
                  have hD : va_D A [(o, .inr (3, fs_o)), (a_re, .inl (cI, 48, .inl re)), (a_bu, .inl (cI, 48, .inl bu)), (a_ba, .inl (cI, 6, .inl (upd by9 (5 - k9) 1000000000)))] := hD
                  have en_37 : upd by9 (5 - k9) 1000000000 = upd by9 (5 - k9) (balC re bu am9 k3 (5 - k9)) := by rw [← hbal]; simp [balF, c_24, c_30, c_36]
                  rw [en_37] at hP hD
                  have hP : va_P G vwCl [(o, .inr (3, fs_o)), (a_re, .inl (cI, 48, .inl re)), (a_bu, .inl (cI, 48, .inl bu)), (a_ba, .inl (cI, 6, .inl (upd by9 (5 - k9) (balC re bu am9 k3 (5 - k9)))))] H := hP
                  have hD : va_D A [(o, .inr (3, fs_o)), (a_re, .inl (cI, 48, .inl re)), (a_bu, .inl (cI, 48, .inl bu)), (a_ba, .inl (cI, 6, .inl (upd by9 (5 - k9) (balC re bu am9 k3 (5 - k9)))))] := hD
                  refine lv_aload_n hx hb dX3_allReach_102 rfl (lv_at hl 3 rfl) ?_
                  refine va_get (D := G) (ci := 3) (v := .ref a_ba) (C := RX3) (T := TX3) (N := 11) hx hb hts inlX3 hown hK hP 0 rfl rfl 5 (by decide) (hts (.fieldLink RX3 28 "EarthBanks$Slides" "balances" "[I") k_4_18) (fun _ h9 => h9) h_o_ba dX3_allReach_103 ?_
                  refine lv_iload_n hx hb dX3_allReach_106 rfl (lv_at hl 6 rfl) ?_
                  refine ialdN (j := (5 - k9)) hx hb hK hP 3 0 rfl rfl (by omega) (by decide) dX3_allReach_107 ?_
                  refine top_eq (y := (balC re bu am9 k3 (5 - k9))) (pk_us) ?_
                  refine lv_if_ge (tgt := 113) hx hb dX3_allReach_108 (by decide) (fun c_38 => ?_) (fun c_38 => ?_)
                  · skip
                    refine lv_iinc (v := pI (5 - k9)) (lv' := [(3, .int (pI (5 - k9))), (6, .int 1), (5, .int bh9), (4, .int (nI ((8 * (5 - k9)) + (7 - k3)))), (0, .ref o), (1, .int am9), (2, .int (nI (7 - k3)))]) hx hb dX3_allReach_113 hl (k := 6) rfl (rfl) (by decide) rfl (fun ls hl => ?_)
                    refine lv_goto (tgt := 9) hx hb dX3_allReach_116 (by decide) ?_
                    have el_39 : (pI (5 - k9) : Int32) = pI (6 - (k9 + 1)) := by congr 1; omega
                    have er_40 : (upd by9 (5 - k9) (balC re bu am9 k3 (5 - k9))) = (upd by9 (5 - k9) (balC re bu am9 k3 (5 - k9))) := by simp [bI, c_2, c_4, c_6, c_24, c_30, c_36, c_38]
                    exact ih9 (k9 + 1) (upd by9 (5 - k9) (balC re bu am9 k3 (5 - k9))) (by omega) (by omega) (by omega) (fun y h1 h2 => by (by_cases e9 : y = 5 - k9); (· rw [e9]; exact pk_us); (· exact (pk_un e9).trans (hnew y (by omega) h2))) (fun y h1 => (pk_un (by omega)).trans (hlow9 y (by omega))) (by simp [anyS, hneg2, nlt0 c_38]) H locs (by rw [← er_40]; exact hP) (by rw [← er_40]; exact hD) hS ls (lv_sub hl [4, 5, 6, 0] (show ([(0, .ref o), (1, .int am9), (2, .int (nI (7 - k3))), (3, .int (pI (5 - k9)))] : List (Nat × Value)) = [(0, .ref o), (1, .int am9), (2, .int (nI (7 - k3))), (3, .int (pI (6 - (k9 + 1))))] by rw [← el_39]))
                  · skip
                    refine lv_iconst (v := 0) hx hb dX3_allReach_111 (by decide) ?_
                    exact retWi (upd by9 (5 - k9) (balC re bu am9 k3 (5 - k9))) hx hb hr (rfl) hlocks dX3_allReach_112 hS (by rw [anyS_t (k := k3) (show negT re bu am9 k3 = true from anyS_t (k := k9) (by simp [nle0 c_38]) (by omega)) (by omega)]; rfl) hP
