theorem cal_X7_isLoose : calV yX7_isLoose cX7_isLoose 5 (some .boolean) 1 := ⟨k_29_11, k_1_5, k_29_9, k_29_10, by decide +kernel⟩
set_option maxHeartbeats 4000000 in
set_option maxRecDepth 100000 in
theorem c_X7_isLoose (l : Launch) (G : va_G) (E : EvT) (cI cZ : ClassId) (zo : Nat → Int32) (he : Nat → Int32) (go : Nat → Int32) (le : Nat → Int32) (hd : Nat → Int32) (gn : Nat → Int32) (la : Int32) (c : Nat) (o : Nat) (a_S : Nat) (ff : Int32) (fs_o : List Value) (h_o_S : fs_o[2]? = some (.ref a_S)) (h_o_ff : fs_o[14]? = some (.int ff)) (hc : c < 48) : cR l G E yX7_isLoose cX7_isLoose 5 (some .boolean) 4 [(cI, .int), (cZ, .boolean)] [.ref o, .int (nI c)] [(o, .inr (7, fs_o)), (a_S, .inl (cI, 163, .inl (ms zo he go le hd gn la)))] (bI (loM zo he go hd gn ff c)) := by
  refine mkR (by decide) (Nat.le_of_ble_eq_true rfl) ?_
  intro zp ze s zm args below meth zc hx hb hr hml hown hts hlocks hE hP hK ls hl
  have hS : va_S (fun _ => False) s.heap s.heap [] := va_S.rf
  have hlow : ∀ q : Nat, (fun _ : Nat => False) q → E.1 ≤ q := fun _ h => h.elim
  have hl : lv_has ls 5 [(0, .ref o), (1, .int (nI c))] := hl
  refine lv_aload_n hx hb dX7_isLoose_0 rfl (lv_at hl 0 rfl) ?_
  refine lv_iload_n hx hb dX7_isLoose_1 rfl (lv_at hl 1 rfl) ?_
  refine cRV (As := [.int (nI c)]) (rest := []) hx hb hml hown hts (c_X7_isEarth l G E cI cZ zo he go le hd gn la c o a_S fs_o h_o_S (hc)) k_16_1 cal_X7_isEarth ⟨Nat.le_of_ble_eq_true rfl, Nat.le_of_ble_eq_true rfl⟩ hE hlow hS hK [0, 1] rfl hP [0, 1] rfl 0 7 rfl rfl rfl hl.1 rfl (Nat.le_of_ble_eq_true rfl) dX7_isLoose_2 ⟨Nat.zero_le _, Nat.zero_le _⟩ ?_
  refine lv_if_eq (tgt := 24) hx hb dX7_isLoose_5 (by decide) (fun c_1 => ?_) (fun c_1 => ?_)
  · skip
    have c_1 : (isES zo go c) = false := bI_f c_1
    refine lv_iconst (v := 0) hx hb dX7_isLoose_24 (by decide) ?_
    exact retR hx hb hr (rfl) hlocks dX7_isLoose_25 (by simp [loM, bI, c_1])
  · skip
    have c_1 : (isES zo go c) = true := bI_t c_1
    refine lv_aload_n hx hb dX7_isLoose_8 rfl (lv_at hl 0 rfl) ?_
    refine lv_iload_n hx hb dX7_isLoose_9 rfl (lv_at hl 1 rfl) ?_
    refine cRV (As := [.int (nI c)]) (rest := []) hx hb hml hown hts (c_X7_pushOf l G E cI cZ zo he go le hd gn la c o a_S fs_o h_o_S (hc)) k_17_7 cal_X7_pushOf ⟨Nat.le_of_ble_eq_true rfl, Nat.le_of_ble_eq_true rfl⟩ hE hlow hS hK [0, 1] rfl hP [0, 1] rfl 0 7 rfl rfl rfl hl.1 rfl (Nat.le_of_ble_eq_true rfl) dX7_isLoose_10 ⟨Nat.zero_le _, Nat.zero_le _⟩ ?_
    refine lv_bipush (v := 20) hx hb dX7_isLoose_13 (by decide) ?_
    refine lv_aload_n hx hb dX7_isLoose_15 rfl (lv_at hl 0 rfl) ?_
    refine lv_iload_n hx hb dX7_isLoose_16 rfl (lv_at hl 1 rfl) ?_
    refine cRV (As := [.int (nI c)]) (rest := [.int 20, .int (pushS he c)]) hx hb hml hown hts (c_X7_holdOf l G E cI cZ zo he go le hd gn la c o a_S fs_o h_o_S (hc) (isE_na c_1)) k_19_19 cal_X7_holdOf ⟨Nat.le_of_ble_eq_true rfl, Nat.le_of_ble_eq_true rfl⟩ hE hlow hS hK [0, 1] rfl hP [0, 1] rfl 0 7 rfl rfl rfl hl.1 rfl (Nat.le_of_ble_eq_true rfl) dX7_isLoose_17 ⟨Nat.zero_le _, Nat.zero_le _⟩ ?_
    refine lv_imul hx hb dX7_isLoose_20 ?_
    refine lv_icmp_ge (tgt := 26) hx hb dX7_isLoose_21 (by decide) (fun c_2 => ?_) (fun c_2 => ?_)
    · skip
      refine lv_iload_n hx hb dX7_isLoose_26 rfl (lv_at hl 1 rfl) ?_
      refine lv_bipush (v := 8) hx hb dX7_isLoose_27 (by decide) ?_
      refine lv_irem hx hb dX7_isLoose_29 (by decide) ?_
      refine top_eq (y := nI (c % 8)) (pk_rem (a := c) (d := 8) (by omega) (by omega) (by omega)) ?_
      refine lv_bipush (v := 7) hx hb dX7_isLoose_30 (by decide) ?_
      refine lv_icmp_eq (tgt := 50) hx hb dX7_isLoose_32 (by decide) (fun c_3 => ?_) (fun c_3 => ?_)
      · skip
        have c_3 : (c % 8) = 7 := (nI_eq (a := (c % 8)) (b := 7) (by omega) (by omega)).mp c_3
        refine lv_iconst (v := 1) hx hb dX7_isLoose_50 (by decide) ?_
        refine lv_goto (tgt := 55) hx hb dX7_isLoose_51 (by decide) ?_
        refine lv_istore_n (lv' := [(2, .int 1), (0, .ref o), (1, .int (nI c))]) hx hb dX7_isLoose_55 rfl hl (by decide) rfl (fun ls hl => ?_)
        have eb_4 : (1 : Int32) = bI (opB zo c) := by simp [opB, bI, eq_true c_3]
        have hl : lv_has ls 5 [(2, .int (bI (opB zo c))), (0, .ref o), (1, .int (nI c))] := by rw [← eb_4]; exact hl
        refine lv_iconst (v := 0) hx hb dX7_isLoose_56 (by decide) ?_
        refine lv_istore_n (lv' := [(3, .int 0), (2, .int (bI (opB zo c))), (0, .ref o), (1, .int (nI c))]) hx hb dX7_isLoose_57 rfl hl (by decide) rfl (fun ls hl => ?_)
        suffices lp58 : ∀ zn k58 : Nat, 0 ≤ k58 → k58 ≤ 4 → 4 < k58 + zn → ∀ ls : Array Slot, lv_has ls 5 [(0, .ref o), (1, .int (nI c)), (2, .int (bI (opB zo c || anyS (opTM zo go gn ff c) k58))), (3, .int (nI k58))] → W zp l ze (rmK 4) s zm args below meth zc s.heap [] 0 0 (MQ below (vp_Si (fun zx => zx = bI (loM zo he go hd gn ff c))) args s 0 0 (fun _ => False)) (F0 zm 58 ls []) by
          have el_5 : (bI (opB zo c) : Int32) = bI (opB zo c || anyS (opTM zo go gn ff c) 0) := by simp [anyS]
          have el_6 : (0 : Int32) = nI 0 := rfl
          exact lp58 (4 + 1 - 0) 0 (by omega) (by omega) (by omega)  ls (lv_sub hl [2, 3, 1, 0] (show ([(0, .ref o), (1, .int (nI c)), (2, .int (bI (opB zo c))), (3, .int 0)] : List (Nat × Value)) = [(0, .ref o), (1, .int (nI c)), (2, .int (bI (opB zo c || anyS (opTM zo go gn ff c) 0))), (3, .int (nI 0))] by rw [← el_5, ← el_6]))
        intro zn
        induction zn with
        | zero => exact fun k58 h1 h2 h3 => absurd h3 (by omega)
        | succ zn ih58 =>
          intro k58 hlo58 hhi58 hn58  ls hl
          refine lv_iload_n hx hb dX7_isLoose_58 rfl (lv_at hl 3 rfl) ?_
          refine lv_iconst (v := 4) hx hb dX7_isLoose_59 (by decide) ?_
          refine lv_icmp_ge (tgt := 162) hx hb dX7_isLoose_60 (by decide) (fun c_7 => ?_) (fun c_7 => ?_)
          · skip
            have c_7 : 4 ≤ k58 := (nI_leI (a := 4) (b := k58) (by omega) (by omega)).mp c_7
            have hk9 : 4 = k58 := by omega
            subst hk9
            refine lv_iload_n hx hb dX7_isLoose_162 rfl (lv_at hl 2 rfl) ?_
            exact retR hx hb hr (bI_n _) hlocks dX7_isLoose_163 (by simp [loM, bI, c_1, c_2, eq_true c_3, c_7])
          · skip
            have c_7 : ¬ 4 ≤ k58 := fun h9 => c_7 ((nI_leI (a := 4) (b := k58) (by omega) (by omega)).mpr h9)
            refine lv_iload_n hx hb dX7_isLoose_63 rfl (lv_at hl 1 rfl) ?_
            refine lv_iload_n hx hb dX7_isLoose_64 rfl (lv_at hl 3 rfl) ?_
            refine cRS (As := [.int (nI c), .int (nI k58)]) (rest := []) hx hb hml hown hts (c_X7_beside l G E cI cZ c k58 (hc) (by first | assumption | omega | simp [bI, c_1, c_2, c_3, c_7])) k_22_20 cal_X7_beside ⟨Nat.le_of_ble_eq_true rfl, Nat.le_of_ble_eq_true rfl⟩ hE hlow hS hK [0, 1] rfl hP [] rfl rfl hl.1 rfl (Nat.le_of_ble_eq_true rfl) dX7_isLoose_65 ⟨Nat.zero_le _, Nat.zero_le _⟩ ?_
            rcases nb_cases (p := c) (d := (pd k58)) (by omega) with ⟨hn_8, e_11⟩ | ⟨q_9, hq_10, hn_8, e_11⟩
            · skip
              refine top_eq (y := (-9)) (e_11) ?_
              refine lv_istore (lv' := [(4, .int (-9)), (0, .ref o), (1, .int (nI c)), (2, .int (bI (opB zo c || anyS (opTM zo go gn ff c) k58))), (3, .int (nI k58))]) hx hb dX7_isLoose_68 hl (by decide) rfl (fun ls hl => ?_)
              refine lv_iload hx hb dX7_isLoose_70 (lv_at hl 0 rfl) ?_
              refine lv_bipush (v := (-9)) hx hb dX7_isLoose_72 (by decide) ?_
              refine lv_icmp_eq (tgt := 156) hx hb dX7_isLoose_74 (by decide) (fun c_12 => ?_) (fun c_12 => ?_)
              · skip
                refine lv_iinc (v := nI (k58 + 1)) (lv' := [(3, .int (nI (k58 + 1))), (4, .int (-9)), (0, .ref o), (1, .int (nI c)), (2, .int (bI (opB zo c || anyS (opTM zo go gn ff c) k58)))]) hx hb dX7_isLoose_156 hl (k := 4) rfl (nI_add _ _) (by decide) rfl (fun ls hl => ?_)
                refine lv_goto (tgt := 58) hx hb dX7_isLoose_159 (by decide) ?_
                have el_13 : (bI (opB zo c || anyS (opTM zo go gn ff c) k58) : Int32) = bI (opB zo c || anyS (opTM zo go gn ff c) (k58 + 1)) := by simp [anyS, opTM, c_1, c_2, eq_true c_3, c_7, hn_8, eq_true c_12]
                exact ih58 (k58 + 1) (by omega) (by omega) (by omega)  ls (lv_sub hl [2, 3, 4, 0] (show ([(0, .ref o), (1, .int (nI c)), (2, .int (bI (opB zo c || anyS (opTM zo go gn ff c) k58))), (3, .int (nI (k58 + 1)))] : List (Nat × Value)) = [(0, .ref o), (1, .int (nI c)), (2, .int (bI (opB zo c || anyS (opTM zo go gn ff c) (k58 + 1)))), (3, .int (nI (k58 + 1)))] by rw [← el_13]))
              · skip
                exact absurd rfl c_12
            · skip
              refine top_eq (y := nI q_9) (e_11) ?_
              refine lv_istore (lv' := [(4, .int (nI q_9)), (0, .ref o), (1, .int (nI c)), (2, .int (bI (opB zo c || anyS (opTM zo go gn ff c) k58))), (3, .int (nI k58))]) hx hb dX7_isLoose_68 hl (by decide) rfl (fun ls hl => ?_)
              refine lv_iload hx hb dX7_isLoose_70 (lv_at hl 0 rfl) ?_
              refine lv_bipush (v := (-9)) hx hb dX7_isLoose_72 (by decide) ?_
              refine lv_icmp_eq (tgt := 156) hx hb dX7_isLoose_74 (by decide) (fun c_14 => ?_) (fun c_14 => ?_)
              · skip
                exact absurd c_14 (nI_ne9 (by omega))
              · skip
                refine lv_aload_n hx hb dX7_isLoose_77 rfl (lv_at hl 1 rfl) ?_
                refine va_get (D := G) (ci := 7) (v := .ref a_S) (C := RX7) (T := TX7) (N := 38) hx hb hts inlX7 hown hK hP 0 rfl rfl 2 (by decide) (hts (.fieldLink RX7 7 "EarthBanksModel" "s" "[I") k_6_2) (fun _ h9 => h9) h_o_S dX7_isLoose_78 ?_
                refine lv_iconst (v := 0) hx hb dX7_isLoose_81 (by decide) ?_
                refine lv_iload hx hb dX7_isLoose_82 (lv_at hl 0 rfl) ?_
                refine lv_iadd hx hb dX7_isLoose_84 ?_
                refine top_eq (y := nI (0 + q_9)) (nI_add _ _) ?_
                refine ialdN (j := (0 + q_9)) hx hb hK hP 1 0 rfl rfl (by omega) (by decide) dX7_isLoose_85 ?_
                refine top_eq (y := (mzS zo q_9)) (ms_z (c := q_9) (by omega) (by omega)) ?_
                refine lv_bipush (v := (-9)) hx hb dX7_isLoose_86 (by decide) ?_
                refine lv_icmp_eq (tgt := 156) hx hb dX7_isLoose_88 (by decide) (fun c_15 => ?_) (fun c_15 => ?_)
                · skip
                  have c_15 : isAirS zo q_9 = true := mz_t c_15
                  refine lv_iinc (v := nI (k58 + 1)) (lv' := [(3, .int (nI (k58 + 1))), (4, .int (nI q_9)), (0, .ref o), (1, .int (nI c)), (2, .int (bI (opB zo c || anyS (opTM zo go gn ff c) k58)))]) hx hb dX7_isLoose_156 hl (k := 4) rfl (nI_add _ _) (by decide) rfl (fun ls hl => ?_)
                  refine lv_goto (tgt := 58) hx hb dX7_isLoose_159 (by decide) ?_
                  have el_16 : (bI (opB zo c || anyS (opTM zo go gn ff c) k58) : Int32) = bI (opB zo c || anyS (opTM zo go gn ff c) (k58 + 1)) := by simp [anyS, opTM, c_1, c_2, eq_true c_3, c_7, hn_8, c_14, c_15]
                  exact ih58 (k58 + 1) (by omega) (by omega) (by omega)  ls (lv_sub hl [2, 3, 4, 0] (show ([(0, .ref o), (1, .int (nI c)), (2, .int (bI (opB zo c || anyS (opTM zo go gn ff c) k58))), (3, .int (nI (k58 + 1)))] : List (Nat × Value)) = [(0, .ref o), (1, .int (nI c)), (2, .int (bI (opB zo c || anyS (opTM zo go gn ff c) (k58 + 1)))), (3, .int (nI (k58 + 1)))] by rw [← el_16]))
                · skip
                  have c_15 : isAirS zo q_9 = false := mz_f c_15
                  refine lv_iload_n hx hb dX7_isLoose_91 rfl (lv_at hl 3 rfl) ?_
                  refine lv_aload_n hx hb dX7_isLoose_92 rfl (lv_at hl 1 rfl) ?_
                  refine va_get (D := G) (ci := 7) (v := .ref a_S) (C := RX7) (T := TX7) (N := 38) hx hb hts inlX7 hown hK hP 0 rfl rfl 2 (by decide) (hts (.fieldLink RX7 7 "EarthBanksModel" "s" "[I") k_6_2) (fun _ h9 => h9) h_o_S dX7_isLoose_93 ?_
                  refine lv_bipush (v := 96) hx hb dX7_isLoose_96 (by decide) ?_
                  refine lv_iload hx hb dX7_isLoose_98 (lv_at hl 0 rfl) ?_
                  refine lv_iadd hx hb dX7_isLoose_100 ?_
                  refine top_eq (y := nI (96 + q_9)) (nI_add _ _) ?_
                  refine ialdN (j := (96 + q_9)) hx hb hK hP 1 0 rfl rfl (by omega) (by decide) dX7_isLoose_101 ?_
                  refine top_eq (y := (go q_9)) (ms_g (c := q_9) (by omega) (by omega)) ?_
                  refine lv_iconst (v := 1) hx hb dX7_isLoose_102 (by decide) ?_
                  refine lv_icmp_eq (tgt := 149) hx hb dX7_isLoose_103 (by decide) (fun c_17 => ?_) (fun c_17 => ?_)
                  · skip
                    refine lv_iconst (v := 1) hx hb dX7_isLoose_149 (by decide) ?_
                    refine lv_goto (tgt := 154) hx hb dX7_isLoose_150 (by decide) ?_
                    refine lv_ior hx hb dX7_isLoose_154 ?_
                    refine top_eq (y := bI true) (bI_o1 _) ?_
                    refine lv_istore_n (lv' := [(2, .int (bI true)), (4, .int (nI q_9)), (0, .ref o), (1, .int (nI c)), (3, .int (nI k58))]) hx hb dX7_isLoose_155 rfl hl (by decide) rfl (fun ls hl => ?_)
                    refine lv_iinc (v := nI (k58 + 1)) (lv' := [(3, .int (nI (k58 + 1))), (2, .int (bI true)), (4, .int (nI q_9)), (0, .ref o), (1, .int (nI c))]) hx hb dX7_isLoose_156 hl (k := 4) rfl (nI_add _ _) (by decide) rfl (fun ls hl => ?_)
                    refine lv_goto (tgt := 58) hx hb dX7_isLoose_159 (by decide) ?_
                    have el_18 : (bI true : Int32) = bI (opB zo c || anyS (opTM zo go gn ff c) (k58 + 1)) := by simp [anyS, opTM, c_1, c_2, eq_true c_3, c_7, hn_8, c_14, c_15, eq_true c_17]
                    exact ih58 (k58 + 1) (by omega) (by omega) (by omega)  ls (lv_sub hl [3, 4, 1, 0] (show ([(0, .ref o), (1, .int (nI c)), (2, .int (bI true)), (3, .int (nI (k58 + 1)))] : List (Nat × Value)) = [(0, .ref o), (1, .int (nI c)), (2, .int (bI (opB zo c || anyS (opTM zo go gn ff c) (k58 + 1)))), (3, .int (nI (k58 + 1)))] by rw [← el_18]))
                  · skip
                    obtain ⟨zq, hzq6, hmzq, hzeq, hzcq⟩ := mz_n c_15
                    obtain ⟨zc9, hzc6, hmzc, hzec, hzcc⟩ := mz_n (isE_na c_1)
                    refine lv_aload_n hx hb dX7_isLoose_106 rfl (lv_at hl 1 rfl) ?_
                    refine va_get (D := G) (ci := 7) (v := .ref a_S) (C := RX7) (T := TX7) (N := 38) hx hb hts inlX7 hown hK hP 0 rfl rfl 2 (by decide) (hts (.fieldLink RX7 7 "EarthBanksModel" "s" "[I") k_6_2) (fun _ h9 => h9) h_o_S dX7_isLoose_107 ?_
                    refine lv_sipush (v := 156) hx hb dX7_isLoose_110 (by decide) ?_
                    refine lv_aload_n hx hb dX7_isLoose_113 rfl (lv_at hl 1 rfl) ?_
                    refine va_get (D := G) (ci := 7) (v := .ref a_S) (C := RX7) (T := TX7) (N := 38) hx hb hts inlX7 hown hK hP 0 rfl rfl 2 (by decide) (hts (.fieldLink RX7 7 "EarthBanksModel" "s" "[I") k_6_2) (fun _ h9 => h9) h_o_S dX7_isLoose_114 ?_
                    refine lv_iconst (v := 0) hx hb dX7_isLoose_117 (by decide) ?_
                    refine lv_iload hx hb dX7_isLoose_118 (lv_at hl 0 rfl) ?_
                    refine lv_iadd hx hb dX7_isLoose_120 ?_
                    refine top_eq (y := nI (0 + q_9)) (nI_add _ _) ?_
                    refine ialdN (j := (0 + q_9)) hx hb hK hP 1 0 rfl rfl (by omega) (by decide) dX7_isLoose_121 ?_
                    refine top_eq (y := nI zq) ((ms_z (c := q_9) (by omega) (by omega)).trans hmzq) ?_
                    refine lv_iadd hx hb dX7_isLoose_122 ?_
                    refine top_eq (y := nI (156 + zq)) (nI_add _ _) ?_
                    refine ialdN (j := (156 + zq)) hx hb hK hP 1 0 rfl rfl (by omega) (by decide) dX7_isLoose_123 ?_
                    refine top_eq (y := (gn zq)) (ms_n (c := zq) (by omega) (by omega)) ?_
                    refine top_eq (y := (atZ zo gn q_9)) (by rw [atZ, hzcq]) ?_
                    refine lv_aload_n hx hb dX7_isLoose_124 rfl (lv_at hl 1 rfl) ?_
                    refine va_get (D := G) (ci := 7) (v := .int ff) (C := RX7) (T := TX7) (N := 38) hx hb hts inlX7 hown hK hP 0 rfl rfl 14 (by decide) (hts (.fieldLink RX7 29 "EarthBanksModel" "f" "I") k_6_9) (fun _ h9 => h9) h_o_ff dX7_isLoose_125 ?_
                    refine lv_aload_n hx hb dX7_isLoose_128 rfl (lv_at hl 1 rfl) ?_
                    refine va_get (D := G) (ci := 7) (v := .ref a_S) (C := RX7) (T := TX7) (N := 38) hx hb hts inlX7 hown hK hP 0 rfl rfl 2 (by decide) (hts (.fieldLink RX7 7 "EarthBanksModel" "s" "[I") k_6_2) (fun _ h9 => h9) h_o_S dX7_isLoose_129 ?_
                    refine lv_sipush (v := 156) hx hb dX7_isLoose_132 (by decide) ?_
                    refine lv_aload_n hx hb dX7_isLoose_135 rfl (lv_at hl 1 rfl) ?_
                    refine va_get (D := G) (ci := 7) (v := .ref a_S) (C := RX7) (T := TX7) (N := 38) hx hb hts inlX7 hown hK hP 0 rfl rfl 2 (by decide) (hts (.fieldLink RX7 7 "EarthBanksModel" "s" "[I") k_6_2) (fun _ h9 => h9) h_o_S dX7_isLoose_136 ?_
                    refine lv_iconst (v := 0) hx hb dX7_isLoose_139 (by decide) ?_
                    refine lv_iload_n hx hb dX7_isLoose_140 rfl (lv_at hl 2 rfl) ?_
                    refine lv_iadd hx hb dX7_isLoose_141 ?_
                    refine top_eq (y := nI (0 + c)) (nI_add _ _) ?_
                    refine ialdN (j := (0 + c)) hx hb hK hP 1 0 rfl rfl (by omega) (by decide) dX7_isLoose_142 ?_
                    refine top_eq (y := nI zc9) ((ms_z (c := c) (by omega) (by omega)).trans hmzc) ?_
                    refine lv_iadd hx hb dX7_isLoose_143 ?_
                    refine top_eq (y := nI (156 + zc9)) (nI_add _ _) ?_
                    refine ialdN (j := (156 + zc9)) hx hb hK hP 1 0 rfl rfl (by omega) (by decide) dX7_isLoose_144 ?_
                    refine top_eq (y := (gn zc9)) (ms_n (c := zc9) (by omega) (by omega)) ?_
                    refine top_eq (y := (atZ zo gn c)) (by rw [atZ, hzcc]) ?_
                    refine lv_imul hx hb dX7_isLoose_145 ?_
                    refine lv_icmp_le (tgt := 153) hx hb dX7_isLoose_146 (by decide) (fun c_19 => ?_) (fun c_19 => ?_)
                    · skip
                      refine lv_iconst (v := 0) hx hb dX7_isLoose_153 (by decide) ?_
                      refine lv_ior hx hb dX7_isLoose_154 ?_
                      refine top_eq (y := bI (opB zo c || anyS (opTM zo go gn ff c) k58)) (bI_o0 _) ?_
                      refine lv_istore_n (lv' := [(2, .int (bI (opB zo c || anyS (opTM zo go gn ff c) k58))), (4, .int (nI q_9)), (0, .ref o), (1, .int (nI c)), (3, .int (nI k58))]) hx hb dX7_isLoose_155 rfl hl (by decide) rfl (fun ls hl => ?_)
                      refine lv_iinc (v := nI (k58 + 1)) (lv' := [(3, .int (nI (k58 + 1))), (2, .int (bI (opB zo c || anyS (opTM zo go gn ff c) k58))), (4, .int (nI q_9)), (0, .ref o), (1, .int (nI c))]) hx hb dX7_isLoose_156 hl (k := 4) rfl (nI_add _ _) (by decide) rfl (fun ls hl => ?_)
                      refine lv_goto (tgt := 58) hx hb dX7_isLoose_159 (by decide) ?_
                      have el_20 : (bI (opB zo c || anyS (opTM zo go gn ff c) k58) : Int32) = bI (opB zo c || anyS (opTM zo go gn ff c) (k58 + 1)) := by simp [anyS, opTM, c_1, c_2, eq_true c_3, c_7, hn_8, c_14, c_15, c_17, c_19]
                      exact ih58 (k58 + 1) (by omega) (by omega) (by omega)  ls (lv_sub hl [3, 4, 1, 0] (show ([(0, .ref o), (1, .int (nI c)), (2, .int (bI (opB zo c || anyS (opTM zo go gn ff c) k58))), (3, .int (nI (k58 + 1)))] : List (Nat × Value)) = [(0, .ref o), (1, .int (nI c)), (2, .int (bI (opB zo c || anyS (opTM zo go gn ff c) (k58 + 1)))), (3, .int (nI (k58 + 1)))] by rw [← el_20]))
                    · skip
                      refine lv_iconst (v := 1) hx hb dX7_isLoose_149 (by decide) ?_
                      refine lv_goto (tgt := 154) hx hb dX7_isLoose_150 (by decide) ?_
                      refine lv_ior hx hb dX7_isLoose_154 ?_
                      refine top_eq (y := bI true) (bI_o1 _) ?_
                      refine lv_istore_n (lv' := [(2, .int (bI true)), (4, .int (nI q_9)), (0, .ref o), (1, .int (nI c)), (3, .int (nI k58))]) hx hb dX7_isLoose_155 rfl hl (by decide) rfl (fun ls hl => ?_)
                      refine lv_iinc (v := nI (k58 + 1)) (lv' := [(3, .int (nI (k58 + 1))), (2, .int (bI true)), (4, .int (nI q_9)), (0, .ref o), (1, .int (nI c))]) hx hb dX7_isLoose_156 hl (k := 4) rfl (nI_add _ _) (by decide) rfl (fun ls hl => ?_)
                      refine lv_goto (tgt := 58) hx hb dX7_isLoose_159 (by decide) ?_
                      have el_21 : (bI true : Int32) = bI (opB zo c || anyS (opTM zo go gn ff c) (k58 + 1)) := by simp [anyS, opTM, c_1, c_2, eq_true c_3, c_7, hn_8, c_14, c_15, c_17, c_19]
                      exact ih58 (k58 + 1) (by omega) (by omega) (by omega)  ls (lv_sub hl [3, 4, 1, 0] (show ([(0, .ref o), (1, .int (nI c)), (2, .int (bI true)), (3, .int (nI (k58 + 1)))] : List (Nat × Value)) = [(0, .ref o), (1, .int (nI c)), (2, .int (bI (opB zo c || anyS (opTM zo go gn ff c) (k58 + 1)))), (3, .int (nI (k58 + 1)))] by rw [← el_21]))
      · skip
        have c_3 : ¬ (c % 8) = 7 := fun h9 => c_3 ((nI_eq (a := (c % 8)) (b := 7) (by omega) (by omega)).mpr h9)
        refine lv_aload_n hx hb dX7_isLoose_35 rfl (lv_at hl 0 rfl) ?_
        refine va_get (D := G) (ci := 7) (v := .ref a_S) (C := RX7) (T := TX7) (N := 38) hx hb hts inlX7 hown hK hP 0 rfl rfl 2 (by decide) (hts (.fieldLink RX7 7 "EarthBanksModel" "s" "[I") k_6_2) (fun _ h9 => h9) h_o_S dX7_isLoose_36 ?_
        refine lv_iconst (v := 0) hx hb dX7_isLoose_39 (by decide) ?_
        refine lv_iload_n hx hb dX7_isLoose_40 rfl (lv_at hl 1 rfl) ?_
        refine lv_iadd hx hb dX7_isLoose_41 ?_
        refine top_eq (y := nI (0 + c)) (nI_add _ _) ?_
        refine lv_iconst (v := 1) hx hb dX7_isLoose_42 (by decide) ?_
        refine lv_iadd hx hb dX7_isLoose_43 ?_
        refine top_eq (y := nI ((0 + c) + 1)) (nI_add _ _) ?_
        refine ialdN (j := ((0 + c) + 1)) hx hb hK hP 1 0 rfl rfl (by omega) (by decide) dX7_isLoose_44 ?_
        refine top_eq (y := (mzS zo (c + 1))) (ms_z (c := (c + 1)) (by omega) (by omega)) ?_
        refine lv_bipush (v := (-9)) hx hb dX7_isLoose_45 (by decide) ?_
        refine lv_icmp_ne (tgt := 54) hx hb dX7_isLoose_47 (by decide) (fun c_22 => ?_) (fun c_22 => ?_)
        · skip
          have c_22 : isAirS zo (c + 1) = false := mz_f c_22
          refine lv_iconst (v := 0) hx hb dX7_isLoose_54 (by decide) ?_
          refine lv_istore_n (lv' := [(2, .int 0), (0, .ref o), (1, .int (nI c))]) hx hb dX7_isLoose_55 rfl hl (by decide) rfl (fun ls hl => ?_)
          have eb_23 : (0 : Int32) = bI (opB zo c) := by simp [opB, bI, c_3, c_22]
          have hl : lv_has ls 5 [(2, .int (bI (opB zo c))), (0, .ref o), (1, .int (nI c))] := by rw [← eb_23]; exact hl
          refine lv_iconst (v := 0) hx hb dX7_isLoose_56 (by decide) ?_
          refine lv_istore_n (lv' := [(3, .int 0), (2, .int (bI (opB zo c))), (0, .ref o), (1, .int (nI c))]) hx hb dX7_isLoose_57 rfl hl (by decide) rfl (fun ls hl => ?_)
          suffices lp58 : ∀ zn k58 : Nat, 0 ≤ k58 → k58 ≤ 4 → 4 < k58 + zn → ∀ ls : Array Slot, lv_has ls 5 [(0, .ref o), (1, .int (nI c)), (2, .int (bI (opB zo c || anyS (opTM zo go gn ff c) k58))), (3, .int (nI k58))] → W zp l ze (rmK 4) s zm args below meth zc s.heap [] 0 0 (MQ below (vp_Si (fun zx => zx = bI (loM zo he go hd gn ff c))) args s 0 0 (fun _ => False)) (F0 zm 58 ls []) by
            have el_24 : (bI (opB zo c) : Int32) = bI (opB zo c || anyS (opTM zo go gn ff c) 0) := by simp [anyS]
            have el_25 : (0 : Int32) = nI 0 := rfl
            exact lp58 (4 + 1 - 0) 0 (by omega) (by omega) (by omega)  ls (lv_sub hl [2, 3, 1, 0] (show ([(0, .ref o), (1, .int (nI c)), (2, .int (bI (opB zo c))), (3, .int 0)] : List (Nat × Value)) = [(0, .ref o), (1, .int (nI c)), (2, .int (bI (opB zo c || anyS (opTM zo go gn ff c) 0))), (3, .int (nI 0))] by rw [← el_24, ← el_25]))
          intro zn
          induction zn with
          | zero => exact fun k58 h1 h2 h3 => absurd h3 (by omega)
          | succ zn ih58 =>
            intro k58 hlo58 hhi58 hn58  ls hl
            refine lv_iload_n hx hb dX7_isLoose_58 rfl (lv_at hl 3 rfl) ?_
            refine lv_iconst (v := 4) hx hb dX7_isLoose_59 (by decide) ?_
            refine lv_icmp_ge (tgt := 162) hx hb dX7_isLoose_60 (by decide) (fun c_26 => ?_) (fun c_26 => ?_)
            · skip
              have c_26 : 4 ≤ k58 := (nI_leI (a := 4) (b := k58) (by omega) (by omega)).mp c_26
              have hk9 : 4 = k58 := by omega
              subst hk9
              refine lv_iload_n hx hb dX7_isLoose_162 rfl (lv_at hl 2 rfl) ?_
              exact retR hx hb hr (bI_n _) hlocks dX7_isLoose_163 (by simp [loM, bI, c_1, c_2, c_3, c_22, c_26])
            · skip
              have c_26 : ¬ 4 ≤ k58 := fun h9 => c_26 ((nI_leI (a := 4) (b := k58) (by omega) (by omega)).mpr h9)
              refine lv_iload_n hx hb dX7_isLoose_63 rfl (lv_at hl 1 rfl) ?_
              refine lv_iload_n hx hb dX7_isLoose_64 rfl (lv_at hl 3 rfl) ?_
              refine cRS (As := [.int (nI c), .int (nI k58)]) (rest := []) hx hb hml hown hts (c_X7_beside l G E cI cZ c k58 (hc) (by first | assumption | omega | simp [bI, c_1, c_2, c_3, c_22, c_26])) k_22_20 cal_X7_beside ⟨Nat.le_of_ble_eq_true rfl, Nat.le_of_ble_eq_true rfl⟩ hE hlow hS hK [0, 1] rfl hP [] rfl rfl hl.1 rfl (Nat.le_of_ble_eq_true rfl) dX7_isLoose_65 ⟨Nat.zero_le _, Nat.zero_le _⟩ ?_
              rcases nb_cases (p := c) (d := (pd k58)) (by omega) with ⟨hn_27, e_30⟩ | ⟨q_28, hq_29, hn_27, e_30⟩
              · skip
                refine top_eq (y := (-9)) (e_30) ?_
                refine lv_istore (lv' := [(4, .int (-9)), (0, .ref o), (1, .int (nI c)), (2, .int (bI (opB zo c || anyS (opTM zo go gn ff c) k58))), (3, .int (nI k58))]) hx hb dX7_isLoose_68 hl (by decide) rfl (fun ls hl => ?_)
                refine lv_iload hx hb dX7_isLoose_70 (lv_at hl 0 rfl) ?_
                refine lv_bipush (v := (-9)) hx hb dX7_isLoose_72 (by decide) ?_
                refine lv_icmp_eq (tgt := 156) hx hb dX7_isLoose_74 (by decide) (fun c_31 => ?_) (fun c_31 => ?_)
                · skip
                  refine lv_iinc (v := nI (k58 + 1)) (lv' := [(3, .int (nI (k58 + 1))), (4, .int (-9)), (0, .ref o), (1, .int (nI c)), (2, .int (bI (opB zo c || anyS (opTM zo go gn ff c) k58)))]) hx hb dX7_isLoose_156 hl (k := 4) rfl (nI_add _ _) (by decide) rfl (fun ls hl => ?_)
                  refine lv_goto (tgt := 58) hx hb dX7_isLoose_159 (by decide) ?_
                  have el_32 : (bI (opB zo c || anyS (opTM zo go gn ff c) k58) : Int32) = bI (opB zo c || anyS (opTM zo go gn ff c) (k58 + 1)) := by simp [anyS, opTM, c_1, c_2, c_3, c_22, c_26, hn_27, eq_true c_31]
                  exact ih58 (k58 + 1) (by omega) (by omega) (by omega)  ls (lv_sub hl [2, 3, 4, 0] (show ([(0, .ref o), (1, .int (nI c)), (2, .int (bI (opB zo c || anyS (opTM zo go gn ff c) k58))), (3, .int (nI (k58 + 1)))] : List (Nat × Value)) = [(0, .ref o), (1, .int (nI c)), (2, .int (bI (opB zo c || anyS (opTM zo go gn ff c) (k58 + 1)))), (3, .int (nI (k58 + 1)))] by rw [← el_32]))
                · skip
                  exact absurd rfl c_31
              · skip
                refine top_eq (y := nI q_28) (e_30) ?_
                refine lv_istore (lv' := [(4, .int (nI q_28)), (0, .ref o), (1, .int (nI c)), (2, .int (bI (opB zo c || anyS (opTM zo go gn ff c) k58))), (3, .int (nI k58))]) hx hb dX7_isLoose_68 hl (by decide) rfl (fun ls hl => ?_)
                refine lv_iload hx hb dX7_isLoose_70 (lv_at hl 0 rfl) ?_
                refine lv_bipush (v := (-9)) hx hb dX7_isLoose_72 (by decide) ?_
                refine lv_icmp_eq (tgt := 156) hx hb dX7_isLoose_74 (by decide) (fun c_33 => ?_) (fun c_33 => ?_)
                · skip
                  exact absurd c_33 (nI_ne9 (by omega))
                · skip
                  refine lv_aload_n hx hb dX7_isLoose_77 rfl (lv_at hl 1 rfl) ?_
                  refine va_get (D := G) (ci := 7) (v := .ref a_S) (C := RX7) (T := TX7) (N := 38) hx hb hts inlX7 hown hK hP 0 rfl rfl 2 (by decide) (hts (.fieldLink RX7 7 "EarthBanksModel" "s" "[I") k_6_2) (fun _ h9 => h9) h_o_S dX7_isLoose_78 ?_
                  refine lv_iconst (v := 0) hx hb dX7_isLoose_81 (by decide) ?_
                  refine lv_iload hx hb dX7_isLoose_82 (lv_at hl 0 rfl) ?_
                  refine lv_iadd hx hb dX7_isLoose_84 ?_
                  refine top_eq (y := nI (0 + q_28)) (nI_add _ _) ?_
                  refine ialdN (j := (0 + q_28)) hx hb hK hP 1 0 rfl rfl (by omega) (by decide) dX7_isLoose_85 ?_
                  refine top_eq (y := (mzS zo q_28)) (ms_z (c := q_28) (by omega) (by omega)) ?_
                  refine lv_bipush (v := (-9)) hx hb dX7_isLoose_86 (by decide) ?_
                  refine lv_icmp_eq (tgt := 156) hx hb dX7_isLoose_88 (by decide) (fun c_34 => ?_) (fun c_34 => ?_)
                  · skip
                    have c_34 : isAirS zo q_28 = true := mz_t c_34
                    refine lv_iinc (v := nI (k58 + 1)) (lv' := [(3, .int (nI (k58 + 1))), (4, .int (nI q_28)), (0, .ref o), (1, .int (nI c)), (2, .int (bI (opB zo c || anyS (opTM zo go gn ff c) k58)))]) hx hb dX7_isLoose_156 hl (k := 4) rfl (nI_add _ _) (by decide) rfl (fun ls hl => ?_)
                    refine lv_goto (tgt := 58) hx hb dX7_isLoose_159 (by decide) ?_
                    have el_35 : (bI (opB zo c || anyS (opTM zo go gn ff c) k58) : Int32) = bI (opB zo c || anyS (opTM zo go gn ff c) (k58 + 1)) := by simp [anyS, opTM, c_1, c_2, c_3, c_22, c_26, hn_27, c_33, c_34]
                    exact ih58 (k58 + 1) (by omega) (by omega) (by omega)  ls (lv_sub hl [2, 3, 4, 0] (show ([(0, .ref o), (1, .int (nI c)), (2, .int (bI (opB zo c || anyS (opTM zo go gn ff c) k58))), (3, .int (nI (k58 + 1)))] : List (Nat × Value)) = [(0, .ref o), (1, .int (nI c)), (2, .int (bI (opB zo c || anyS (opTM zo go gn ff c) (k58 + 1)))), (3, .int (nI (k58 + 1)))] by rw [← el_35]))
                  · skip
                    have c_34 : isAirS zo q_28 = false := mz_f c_34
                    refine lv_iload_n hx hb dX7_isLoose_91 rfl (lv_at hl 3 rfl) ?_
                    refine lv_aload_n hx hb dX7_isLoose_92 rfl (lv_at hl 1 rfl) ?_
                    refine va_get (D := G) (ci := 7) (v := .ref a_S) (C := RX7) (T := TX7) (N := 38) hx hb hts inlX7 hown hK hP 0 rfl rfl 2 (by decide) (hts (.fieldLink RX7 7 "EarthBanksModel" "s" "[I") k_6_2) (fun _ h9 => h9) h_o_S dX7_isLoose_93 ?_
                    refine lv_bipush (v := 96) hx hb dX7_isLoose_96 (by decide) ?_
                    refine lv_iload hx hb dX7_isLoose_98 (lv_at hl 0 rfl) ?_
                    refine lv_iadd hx hb dX7_isLoose_100 ?_
                    refine top_eq (y := nI (96 + q_28)) (nI_add _ _) ?_
                    refine ialdN (j := (96 + q_28)) hx hb hK hP 1 0 rfl rfl (by omega) (by decide) dX7_isLoose_101 ?_
                    refine top_eq (y := (go q_28)) (ms_g (c := q_28) (by omega) (by omega)) ?_
                    refine lv_iconst (v := 1) hx hb dX7_isLoose_102 (by decide) ?_
                    refine lv_icmp_eq (tgt := 149) hx hb dX7_isLoose_103 (by decide) (fun c_36 => ?_) (fun c_36 => ?_)
                    · skip
                      refine lv_iconst (v := 1) hx hb dX7_isLoose_149 (by decide) ?_
                      refine lv_goto (tgt := 154) hx hb dX7_isLoose_150 (by decide) ?_
                      refine lv_ior hx hb dX7_isLoose_154 ?_
                      refine top_eq (y := bI true) (bI_o1 _) ?_
                      refine lv_istore_n (lv' := [(2, .int (bI true)), (4, .int (nI q_28)), (0, .ref o), (1, .int (nI c)), (3, .int (nI k58))]) hx hb dX7_isLoose_155 rfl hl (by decide) rfl (fun ls hl => ?_)
                      refine lv_iinc (v := nI (k58 + 1)) (lv' := [(3, .int (nI (k58 + 1))), (2, .int (bI true)), (4, .int (nI q_28)), (0, .ref o), (1, .int (nI c))]) hx hb dX7_isLoose_156 hl (k := 4) rfl (nI_add _ _) (by decide) rfl (fun ls hl => ?_)
                      refine lv_goto (tgt := 58) hx hb dX7_isLoose_159 (by decide) ?_
                      have el_37 : (bI true : Int32) = bI (opB zo c || anyS (opTM zo go gn ff c) (k58 + 1)) := by simp [anyS, opTM, c_1, c_2, c_3, c_22, c_26, hn_27, c_33, c_34, eq_true c_36]
                      exact ih58 (k58 + 1) (by omega) (by omega) (by omega)  ls (lv_sub hl [3, 4, 1, 0] (show ([(0, .ref o), (1, .int (nI c)), (2, .int (bI true)), (3, .int (nI (k58 + 1)))] : List (Nat × Value)) = [(0, .ref o), (1, .int (nI c)), (2, .int (bI (opB zo c || anyS (opTM zo go gn ff c) (k58 + 1)))), (3, .int (nI (k58 + 1)))] by rw [← el_37]))
                    · skip
                      obtain ⟨zq, hzq6, hmzq, hzeq, hzcq⟩ := mz_n c_34
                      obtain ⟨zc9, hzc6, hmzc, hzec, hzcc⟩ := mz_n (isE_na c_1)
                      refine lv_aload_n hx hb dX7_isLoose_106 rfl (lv_at hl 1 rfl) ?_
                      refine va_get (D := G) (ci := 7) (v := .ref a_S) (C := RX7) (T := TX7) (N := 38) hx hb hts inlX7 hown hK hP 0 rfl rfl 2 (by decide) (hts (.fieldLink RX7 7 "EarthBanksModel" "s" "[I") k_6_2) (fun _ h9 => h9) h_o_S dX7_isLoose_107 ?_
                      refine lv_sipush (v := 156) hx hb dX7_isLoose_110 (by decide) ?_
                      refine lv_aload_n hx hb dX7_isLoose_113 rfl (lv_at hl 1 rfl) ?_
                      refine va_get (D := G) (ci := 7) (v := .ref a_S) (C := RX7) (T := TX7) (N := 38) hx hb hts inlX7 hown hK hP 0 rfl rfl 2 (by decide) (hts (.fieldLink RX7 7 "EarthBanksModel" "s" "[I") k_6_2) (fun _ h9 => h9) h_o_S dX7_isLoose_114 ?_
                      refine lv_iconst (v := 0) hx hb dX7_isLoose_117 (by decide) ?_
                      refine lv_iload hx hb dX7_isLoose_118 (lv_at hl 0 rfl) ?_
                      refine lv_iadd hx hb dX7_isLoose_120 ?_
                      refine top_eq (y := nI (0 + q_28)) (nI_add _ _) ?_
                      refine ialdN (j := (0 + q_28)) hx hb hK hP 1 0 rfl rfl (by omega) (by decide) dX7_isLoose_121 ?_
                      refine top_eq (y := nI zq) ((ms_z (c := q_28) (by omega) (by omega)).trans hmzq) ?_
                      refine lv_iadd hx hb dX7_isLoose_122 ?_
                      refine top_eq (y := nI (156 + zq)) (nI_add _ _) ?_
                      refine ialdN (j := (156 + zq)) hx hb hK hP 1 0 rfl rfl (by omega) (by decide) dX7_isLoose_123 ?_
                      refine top_eq (y := (gn zq)) (ms_n (c := zq) (by omega) (by omega)) ?_
                      refine top_eq (y := (atZ zo gn q_28)) (by rw [atZ, hzcq]) ?_
                      refine lv_aload_n hx hb dX7_isLoose_124 rfl (lv_at hl 1 rfl) ?_
                      refine va_get (D := G) (ci := 7) (v := .int ff) (C := RX7) (T := TX7) (N := 38) hx hb hts inlX7 hown hK hP 0 rfl rfl 14 (by decide) (hts (.fieldLink RX7 29 "EarthBanksModel" "f" "I") k_6_9) (fun _ h9 => h9) h_o_ff dX7_isLoose_125 ?_
                      refine lv_aload_n hx hb dX7_isLoose_128 rfl (lv_at hl 1 rfl) ?_
                      refine va_get (D := G) (ci := 7) (v := .ref a_S) (C := RX7) (T := TX7) (N := 38) hx hb hts inlX7 hown hK hP 0 rfl rfl 2 (by decide) (hts (.fieldLink RX7 7 "EarthBanksModel" "s" "[I") k_6_2) (fun _ h9 => h9) h_o_S dX7_isLoose_129 ?_
                      refine lv_sipush (v := 156) hx hb dX7_isLoose_132 (by decide) ?_
                      refine lv_aload_n hx hb dX7_isLoose_135 rfl (lv_at hl 1 rfl) ?_
                      refine va_get (D := G) (ci := 7) (v := .ref a_S) (C := RX7) (T := TX7) (N := 38) hx hb hts inlX7 hown hK hP 0 rfl rfl 2 (by decide) (hts (.fieldLink RX7 7 "EarthBanksModel" "s" "[I") k_6_2) (fun _ h9 => h9) h_o_S dX7_isLoose_136 ?_
                      refine lv_iconst (v := 0) hx hb dX7_isLoose_139 (by decide) ?_
                      refine lv_iload_n hx hb dX7_isLoose_140 rfl (lv_at hl 2 rfl) ?_
                      refine lv_iadd hx hb dX7_isLoose_141 ?_
                      refine top_eq (y := nI (0 + c)) (nI_add _ _) ?_
                      refine ialdN (j := (0 + c)) hx hb hK hP 1 0 rfl rfl (by omega) (by decide) dX7_isLoose_142 ?_
                      refine top_eq (y := nI zc9) ((ms_z (c := c) (by omega) (by omega)).trans hmzc) ?_
                      refine lv_iadd hx hb dX7_isLoose_143 ?_
                      refine top_eq (y := nI (156 + zc9)) (nI_add _ _) ?_
                      refine ialdN (j := (156 + zc9)) hx hb hK hP 1 0 rfl rfl (by omega) (by decide) dX7_isLoose_144 ?_
                      refine top_eq (y := (gn zc9)) (ms_n (c := zc9) (by omega) (by omega)) ?_
                      refine top_eq (y := (atZ zo gn c)) (by rw [atZ, hzcc]) ?_
                      refine lv_imul hx hb dX7_isLoose_145 ?_
                      refine lv_icmp_le (tgt := 153) hx hb dX7_isLoose_146 (by decide) (fun c_38 => ?_) (fun c_38 => ?_)
                      · skip
                        refine lv_iconst (v := 0) hx hb dX7_isLoose_153 (by decide) ?_
                        refine lv_ior hx hb dX7_isLoose_154 ?_
                        refine top_eq (y := bI (opB zo c || anyS (opTM zo go gn ff c) k58)) (bI_o0 _) ?_
                        refine lv_istore_n (lv' := [(2, .int (bI (opB zo c || anyS (opTM zo go gn ff c) k58))), (4, .int (nI q_28)), (0, .ref o), (1, .int (nI c)), (3, .int (nI k58))]) hx hb dX7_isLoose_155 rfl hl (by decide) rfl (fun ls hl => ?_)
                        refine lv_iinc (v := nI (k58 + 1)) (lv' := [(3, .int (nI (k58 + 1))), (2, .int (bI (opB zo c || anyS (opTM zo go gn ff c) k58))), (4, .int (nI q_28)), (0, .ref o), (1, .int (nI c))]) hx hb dX7_isLoose_156 hl (k := 4) rfl (nI_add _ _) (by decide) rfl (fun ls hl => ?_)
                        refine lv_goto (tgt := 58) hx hb dX7_isLoose_159 (by decide) ?_
                        have el_39 : (bI (opB zo c || anyS (opTM zo go gn ff c) k58) : Int32) = bI (opB zo c || anyS (opTM zo go gn ff c) (k58 + 1)) := by simp [anyS, opTM, c_1, c_2, c_3, c_22, c_26, hn_27, c_33, c_34, c_36, c_38]
                        exact ih58 (k58 + 1) (by omega) (by omega) (by omega)  ls (lv_sub hl [3, 4, 1, 0] (show ([(0, .ref o), (1, .int (nI c)), (2, .int (bI (opB zo c || anyS (opTM zo go gn ff c) k58))), (3, .int (nI (k58 + 1)))] : List (Nat × Value)) = [(0, .ref o), (1, .int (nI c)), (2, .int (bI (opB zo c || anyS (opTM zo go gn ff c) (k58 + 1)))), (3, .int (nI (k58 + 1)))] by rw [← el_39]))
                      · skip
                        refine lv_iconst (v := 1) hx hb dX7_isLoose_149 (by decide) ?_
                        refine lv_goto (tgt := 154) hx hb dX7_isLoose_150 (by decide) ?_
                        refine lv_ior hx hb dX7_isLoose_154 ?_
                        refine top_eq (y := bI true) (bI_o1 _) ?_
                        refine lv_istore_n (lv' := [(2, .int (bI true)), (4, .int (nI q_28)), (0, .ref o), (1, .int (nI c)), (3, .int (nI k58))]) hx hb dX7_isLoose_155 rfl hl (by decide) rfl (fun ls hl => ?_)
                        refine lv_iinc (v := nI (k58 + 1)) (lv' := [(3, .int (nI (k58 + 1))), (2, .int (bI true)), (4, .int (nI q_28)), (0, .ref o), (1, .int (nI c))]) hx hb dX7_isLoose_156 hl (k := 4) rfl (nI_add _ _) (by decide) rfl (fun ls hl => ?_)
                        refine lv_goto (tgt := 58) hx hb dX7_isLoose_159 (by decide) ?_
                        have el_40 : (bI true : Int32) = bI (opB zo c || anyS (opTM zo go gn ff c) (k58 + 1)) := by simp [anyS, opTM, c_1, c_2, c_3, c_22, c_26, hn_27, c_33, c_34, c_36, c_38]
                        exact ih58 (k58 + 1) (by omega) (by omega) (by omega)  ls (lv_sub hl [3, 4, 1, 0] (show ([(0, .ref o), (1, .int (nI c)), (2, .int (bI true)), (3, .int (nI (k58 + 1)))] : List (Nat × Value)) = [(0, .ref o), (1, .int (nI c)), (2, .int (bI (opB zo c || anyS (opTM zo go gn ff c) (k58 + 1)))), (3, .int (nI (k58 + 1)))] by rw [← el_40]))
        · skip
          have c_22 : isAirS zo (c + 1) = true := mz_t c_22
          refine lv_iconst (v := 1) hx hb dX7_isLoose_50 (by decide) ?_
          refine lv_goto (tgt := 55) hx hb dX7_isLoose_51 (by decide) ?_
          refine lv_istore_n (lv' := [(2, .int 1), (0, .ref o), (1, .int (nI c))]) hx hb dX7_isLoose_55 rfl hl (by decide) rfl (fun ls hl => ?_)
          have eb_41 : (1 : Int32) = bI (opB zo c) := by simp [opB, bI, c_3, c_22]
          have hl : lv_has ls 5 [(2, .int (bI (opB zo c))), (0, .ref o), (1, .int (nI c))] := by rw [← eb_41]; exact hl
          refine lv_iconst (v := 0) hx hb dX7_isLoose_56 (by decide) ?_
          refine lv_istore_n (lv' := [(3, .int 0), (2, .int (bI (opB zo c))), (0, .ref o), (1, .int (nI c))]) hx hb dX7_isLoose_57 rfl hl (by decide) rfl (fun ls hl => ?_)
          suffices lp58 : ∀ zn k58 : Nat, 0 ≤ k58 → k58 ≤ 4 → 4 < k58 + zn → ∀ ls : Array Slot, lv_has ls 5 [(0, .ref o), (1, .int (nI c)), (2, .int (bI (opB zo c || anyS (opTM zo go gn ff c) k58))), (3, .int (nI k58))] → W zp l ze (rmK 4) s zm args below meth zc s.heap [] 0 0 (MQ below (vp_Si (fun zx => zx = bI (loM zo he go hd gn ff c))) args s 0 0 (fun _ => False)) (F0 zm 58 ls []) by
            have el_42 : (bI (opB zo c) : Int32) = bI (opB zo c || anyS (opTM zo go gn ff c) 0) := by simp [anyS]
            have el_43 : (0 : Int32) = nI 0 := rfl
            exact lp58 (4 + 1 - 0) 0 (by omega) (by omega) (by omega)  ls (lv_sub hl [2, 3, 1, 0] (show ([(0, .ref o), (1, .int (nI c)), (2, .int (bI (opB zo c))), (3, .int 0)] : List (Nat × Value)) = [(0, .ref o), (1, .int (nI c)), (2, .int (bI (opB zo c || anyS (opTM zo go gn ff c) 0))), (3, .int (nI 0))] by rw [← el_42, ← el_43]))
          intro zn
          induction zn with
          | zero => exact fun k58 h1 h2 h3 => absurd h3 (by omega)
          | succ zn ih58 =>
            intro k58 hlo58 hhi58 hn58  ls hl
            refine lv_iload_n hx hb dX7_isLoose_58 rfl (lv_at hl 3 rfl) ?_
            refine lv_iconst (v := 4) hx hb dX7_isLoose_59 (by decide) ?_
            refine lv_icmp_ge (tgt := 162) hx hb dX7_isLoose_60 (by decide) (fun c_44 => ?_) (fun c_44 => ?_)
            · skip
              have c_44 : 4 ≤ k58 := (nI_leI (a := 4) (b := k58) (by omega) (by omega)).mp c_44
              have hk9 : 4 = k58 := by omega
              subst hk9
              refine lv_iload_n hx hb dX7_isLoose_162 rfl (lv_at hl 2 rfl) ?_
              exact retR hx hb hr (bI_n _) hlocks dX7_isLoose_163 (by simp [loM, bI, c_1, c_2, c_3, c_22, c_44])
            · skip
              have c_44 : ¬ 4 ≤ k58 := fun h9 => c_44 ((nI_leI (a := 4) (b := k58) (by omega) (by omega)).mpr h9)
              refine lv_iload_n hx hb dX7_isLoose_63 rfl (lv_at hl 1 rfl) ?_
              refine lv_iload_n hx hb dX7_isLoose_64 rfl (lv_at hl 3 rfl) ?_
              refine cRS (As := [.int (nI c), .int (nI k58)]) (rest := []) hx hb hml hown hts (c_X7_beside l G E cI cZ c k58 (hc) (by first | assumption | omega | simp [bI, c_1, c_2, c_3, c_22, c_44])) k_22_20 cal_X7_beside ⟨Nat.le_of_ble_eq_true rfl, Nat.le_of_ble_eq_true rfl⟩ hE hlow hS hK [0, 1] rfl hP [] rfl rfl hl.1 rfl (Nat.le_of_ble_eq_true rfl) dX7_isLoose_65 ⟨Nat.zero_le _, Nat.zero_le _⟩ ?_
              rcases nb_cases (p := c) (d := (pd k58)) (by omega) with ⟨hn_45, e_48⟩ | ⟨q_46, hq_47, hn_45, e_48⟩
              · skip
                refine top_eq (y := (-9)) (e_48) ?_
                refine lv_istore (lv' := [(4, .int (-9)), (0, .ref o), (1, .int (nI c)), (2, .int (bI (opB zo c || anyS (opTM zo go gn ff c) k58))), (3, .int (nI k58))]) hx hb dX7_isLoose_68 hl (by decide) rfl (fun ls hl => ?_)
                refine lv_iload hx hb dX7_isLoose_70 (lv_at hl 0 rfl) ?_
                refine lv_bipush (v := (-9)) hx hb dX7_isLoose_72 (by decide) ?_
                refine lv_icmp_eq (tgt := 156) hx hb dX7_isLoose_74 (by decide) (fun c_49 => ?_) (fun c_49 => ?_)
                · skip
                  refine lv_iinc (v := nI (k58 + 1)) (lv' := [(3, .int (nI (k58 + 1))), (4, .int (-9)), (0, .ref o), (1, .int (nI c)), (2, .int (bI (opB zo c || anyS (opTM zo go gn ff c) k58)))]) hx hb dX7_isLoose_156 hl (k := 4) rfl (nI_add _ _) (by decide) rfl (fun ls hl => ?_)
                  refine lv_goto (tgt := 58) hx hb dX7_isLoose_159 (by decide) ?_
                  have el_50 : (bI (opB zo c || anyS (opTM zo go gn ff c) k58) : Int32) = bI (opB zo c || anyS (opTM zo go gn ff c) (k58 + 1)) := by simp [anyS, opTM, c_1, c_2, c_3, c_22, c_44, hn_45, eq_true c_49]
                  exact ih58 (k58 + 1) (by omega) (by omega) (by omega)  ls (lv_sub hl [2, 3, 4, 0] (show ([(0, .ref o), (1, .int (nI c)), (2, .int (bI (opB zo c || anyS (opTM zo go gn ff c) k58))), (3, .int (nI (k58 + 1)))] : List (Nat × Value)) = [(0, .ref o), (1, .int (nI c)), (2, .int (bI (opB zo c || anyS (opTM zo go gn ff c) (k58 + 1)))), (3, .int (nI (k58 + 1)))] by rw [← el_50]))
                · skip
                  exact absurd rfl c_49
              · skip
                refine top_eq (y := nI q_46) (e_48) ?_
                refine lv_istore (lv' := [(4, .int (nI q_46)), (0, .ref o), (1, .int (nI c)), (2, .int (bI (opB zo c || anyS (opTM zo go gn ff c) k58))), (3, .int (nI k58))]) hx hb dX7_isLoose_68 hl (by decide) rfl (fun ls hl => ?_)
                refine lv_iload hx hb dX7_isLoose_70 (lv_at hl 0 rfl) ?_
                refine lv_bipush (v := (-9)) hx hb dX7_isLoose_72 (by decide) ?_
                refine lv_icmp_eq (tgt := 156) hx hb dX7_isLoose_74 (by decide) (fun c_51 => ?_) (fun c_51 => ?_)
                · skip
                  exact absurd c_51 (nI_ne9 (by omega))
                · skip
                  refine lv_aload_n hx hb dX7_isLoose_77 rfl (lv_at hl 1 rfl) ?_
                  refine va_get (D := G) (ci := 7) (v := .ref a_S) (C := RX7) (T := TX7) (N := 38) hx hb hts inlX7 hown hK hP 0 rfl rfl 2 (by decide) (hts (.fieldLink RX7 7 "EarthBanksModel" "s" "[I") k_6_2) (fun _ h9 => h9) h_o_S dX7_isLoose_78 ?_
                  refine lv_iconst (v := 0) hx hb dX7_isLoose_81 (by decide) ?_
                  refine lv_iload hx hb dX7_isLoose_82 (lv_at hl 0 rfl) ?_
                  refine lv_iadd hx hb dX7_isLoose_84 ?_
                  refine top_eq (y := nI (0 + q_46)) (nI_add _ _) ?_
                  refine ialdN (j := (0 + q_46)) hx hb hK hP 1 0 rfl rfl (by omega) (by decide) dX7_isLoose_85 ?_
                  refine top_eq (y := (mzS zo q_46)) (ms_z (c := q_46) (by omega) (by omega)) ?_
                  refine lv_bipush (v := (-9)) hx hb dX7_isLoose_86 (by decide) ?_
                  refine lv_icmp_eq (tgt := 156) hx hb dX7_isLoose_88 (by decide) (fun c_52 => ?_) (fun c_52 => ?_)
                  · skip
                    have c_52 : isAirS zo q_46 = true := mz_t c_52
                    refine lv_iinc (v := nI (k58 + 1)) (lv' := [(3, .int (nI (k58 + 1))), (4, .int (nI q_46)), (0, .ref o), (1, .int (nI c)), (2, .int (bI (opB zo c || anyS (opTM zo go gn ff c) k58)))]) hx hb dX7_isLoose_156 hl (k := 4) rfl (nI_add _ _) (by decide) rfl (fun ls hl => ?_)
                    refine lv_goto (tgt := 58) hx hb dX7_isLoose_159 (by decide) ?_
                    have el_53 : (bI (opB zo c || anyS (opTM zo go gn ff c) k58) : Int32) = bI (opB zo c || anyS (opTM zo go gn ff c) (k58 + 1)) := by simp [anyS, opTM, c_1, c_2, c_3, c_22, c_44, hn_45, c_51, c_52]
                    exact ih58 (k58 + 1) (by omega) (by omega) (by omega)  ls (lv_sub hl [2, 3, 4, 0] (show ([(0, .ref o), (1, .int (nI c)), (2, .int (bI (opB zo c || anyS (opTM zo go gn ff c) k58))), (3, .int (nI (k58 + 1)))] : List (Nat × Value)) = [(0, .ref o), (1, .int (nI c)), (2, .int (bI (opB zo c || anyS (opTM zo go gn ff c) (k58 + 1)))), (3, .int (nI (k58 + 1)))] by rw [← el_53]))
                  · skip
                    have c_52 : isAirS zo q_46 = false := mz_f c_52
                    refine lv_iload_n hx hb dX7_isLoose_91 rfl (lv_at hl 3 rfl) ?_
                    refine lv_aload_n hx hb dX7_isLoose_92 rfl (lv_at hl 1 rfl) ?_
                    refine va_get (D := G) (ci := 7) (v := .ref a_S) (C := RX7) (T := TX7) (N := 38) hx hb hts inlX7 hown hK hP 0 rfl rfl 2 (by decide) (hts (.fieldLink RX7 7 "EarthBanksModel" "s" "[I") k_6_2) (fun _ h9 => h9) h_o_S dX7_isLoose_93 ?_
                    refine lv_bipush (v := 96) hx hb dX7_isLoose_96 (by decide) ?_
                    refine lv_iload hx hb dX7_isLoose_98 (lv_at hl 0 rfl) ?_
                    refine lv_iadd hx hb dX7_isLoose_100 ?_
                    refine top_eq (y := nI (96 + q_46)) (nI_add _ _) ?_
                    refine ialdN (j := (96 + q_46)) hx hb hK hP 1 0 rfl rfl (by omega) (by decide) dX7_isLoose_101 ?_
                    refine top_eq (y := (go q_46)) (ms_g (c := q_46) (by omega) (by omega)) ?_
                    refine lv_iconst (v := 1) hx hb dX7_isLoose_102 (by decide) ?_
                    refine lv_icmp_eq (tgt := 149) hx hb dX7_isLoose_103 (by decide) (fun c_54 => ?_) (fun c_54 => ?_)
                    · skip
                      refine lv_iconst (v := 1) hx hb dX7_isLoose_149 (by decide) ?_
                      refine lv_goto (tgt := 154) hx hb dX7_isLoose_150 (by decide) ?_
                      refine lv_ior hx hb dX7_isLoose_154 ?_
                      refine top_eq (y := bI true) (bI_o1 _) ?_
                      refine lv_istore_n (lv' := [(2, .int (bI true)), (4, .int (nI q_46)), (0, .ref o), (1, .int (nI c)), (3, .int (nI k58))]) hx hb dX7_isLoose_155 rfl hl (by decide) rfl (fun ls hl => ?_)
                      refine lv_iinc (v := nI (k58 + 1)) (lv' := [(3, .int (nI (k58 + 1))), (2, .int (bI true)), (4, .int (nI q_46)), (0, .ref o), (1, .int (nI c))]) hx hb dX7_isLoose_156 hl (k := 4) rfl (nI_add _ _) (by decide) rfl (fun ls hl => ?_)
                      refine lv_goto (tgt := 58) hx hb dX7_isLoose_159 (by decide) ?_
                      have el_55 : (bI true : Int32) = bI (opB zo c || anyS (opTM zo go gn ff c) (k58 + 1)) := by simp [anyS, opTM, c_1, c_2, c_3, c_22, c_44, hn_45, c_51, c_52, eq_true c_54]
                      exact ih58 (k58 + 1) (by omega) (by omega) (by omega)  ls (lv_sub hl [3, 4, 1, 0] (show ([(0, .ref o), (1, .int (nI c)), (2, .int (bI true)), (3, .int (nI (k58 + 1)))] : List (Nat × Value)) = [(0, .ref o), (1, .int (nI c)), (2, .int (bI (opB zo c || anyS (opTM zo go gn ff c) (k58 + 1)))), (3, .int (nI (k58 + 1)))] by rw [← el_55]))
                    · skip
                      obtain ⟨zq, hzq6, hmzq, hzeq, hzcq⟩ := mz_n c_52
                      obtain ⟨zc9, hzc6, hmzc, hzec, hzcc⟩ := mz_n (isE_na c_1)
                      refine lv_aload_n hx hb dX7_isLoose_106 rfl (lv_at hl 1 rfl) ?_
                      refine va_get (D := G) (ci := 7) (v := .ref a_S) (C := RX7) (T := TX7) (N := 38) hx hb hts inlX7 hown hK hP 0 rfl rfl 2 (by decide) (hts (.fieldLink RX7 7 "EarthBanksModel" "s" "[I") k_6_2) (fun _ h9 => h9) h_o_S dX7_isLoose_107 ?_
                      refine lv_sipush (v := 156) hx hb dX7_isLoose_110 (by decide) ?_
                      refine lv_aload_n hx hb dX7_isLoose_113 rfl (lv_at hl 1 rfl) ?_
                      refine va_get (D := G) (ci := 7) (v := .ref a_S) (C := RX7) (T := TX7) (N := 38) hx hb hts inlX7 hown hK hP 0 rfl rfl 2 (by decide) (hts (.fieldLink RX7 7 "EarthBanksModel" "s" "[I") k_6_2) (fun _ h9 => h9) h_o_S dX7_isLoose_114 ?_
                      refine lv_iconst (v := 0) hx hb dX7_isLoose_117 (by decide) ?_
                      refine lv_iload hx hb dX7_isLoose_118 (lv_at hl 0 rfl) ?_
                      refine lv_iadd hx hb dX7_isLoose_120 ?_
                      refine top_eq (y := nI (0 + q_46)) (nI_add _ _) ?_
                      refine ialdN (j := (0 + q_46)) hx hb hK hP 1 0 rfl rfl (by omega) (by decide) dX7_isLoose_121 ?_
                      refine top_eq (y := nI zq) ((ms_z (c := q_46) (by omega) (by omega)).trans hmzq) ?_
                      refine lv_iadd hx hb dX7_isLoose_122 ?_
                      refine top_eq (y := nI (156 + zq)) (nI_add _ _) ?_
                      refine ialdN (j := (156 + zq)) hx hb hK hP 1 0 rfl rfl (by omega) (by decide) dX7_isLoose_123 ?_
                      refine top_eq (y := (gn zq)) (ms_n (c := zq) (by omega) (by omega)) ?_
                      refine top_eq (y := (atZ zo gn q_46)) (by rw [atZ, hzcq]) ?_
                      refine lv_aload_n hx hb dX7_isLoose_124 rfl (lv_at hl 1 rfl) ?_
                      refine va_get (D := G) (ci := 7) (v := .int ff) (C := RX7) (T := TX7) (N := 38) hx hb hts inlX7 hown hK hP 0 rfl rfl 14 (by decide) (hts (.fieldLink RX7 29 "EarthBanksModel" "f" "I") k_6_9) (fun _ h9 => h9) h_o_ff dX7_isLoose_125 ?_
                      refine lv_aload_n hx hb dX7_isLoose_128 rfl (lv_at hl 1 rfl) ?_
                      refine va_get (D := G) (ci := 7) (v := .ref a_S) (C := RX7) (T := TX7) (N := 38) hx hb hts inlX7 hown hK hP 0 rfl rfl 2 (by decide) (hts (.fieldLink RX7 7 "EarthBanksModel" "s" "[I") k_6_2) (fun _ h9 => h9) h_o_S dX7_isLoose_129 ?_
                      refine lv_sipush (v := 156) hx hb dX7_isLoose_132 (by decide) ?_
                      refine lv_aload_n hx hb dX7_isLoose_135 rfl (lv_at hl 1 rfl) ?_
                      refine va_get (D := G) (ci := 7) (v := .ref a_S) (C := RX7) (T := TX7) (N := 38) hx hb hts inlX7 hown hK hP 0 rfl rfl 2 (by decide) (hts (.fieldLink RX7 7 "EarthBanksModel" "s" "[I") k_6_2) (fun _ h9 => h9) h_o_S dX7_isLoose_136 ?_
                      refine lv_iconst (v := 0) hx hb dX7_isLoose_139 (by decide) ?_
                      refine lv_iload_n hx hb dX7_isLoose_140 rfl (lv_at hl 2 rfl) ?_
                      refine lv_iadd hx hb dX7_isLoose_141 ?_
                      refine top_eq (y := nI (0 + c)) (nI_add _ _) ?_
                      refine ialdN (j := (0 + c)) hx hb hK hP 1 0 rfl rfl (by omega) (by decide) dX7_isLoose_142 ?_
                      refine top_eq (y := nI zc9) ((ms_z (c := c) (by omega) (by omega)).trans hmzc) ?_
                      refine lv_iadd hx hb dX7_isLoose_143 ?_
                      refine top_eq (y := nI (156 + zc9)) (nI_add _ _) ?_
                      refine ialdN (j := (156 + zc9)) hx hb hK hP 1 0 rfl rfl (by omega) (by decide) dX7_isLoose_144 ?_
                      refine top_eq (y := (gn zc9)) (ms_n (c := zc9) (by omega) (by omega)) ?_
                      refine top_eq (y := (atZ zo gn c)) (by rw [atZ, hzcc]) ?_
                      refine lv_imul hx hb dX7_isLoose_145 ?_
                      refine lv_icmp_le (tgt := 153) hx hb dX7_isLoose_146 (by decide) (fun c_56 => ?_) (fun c_56 => ?_)
                      · skip
                        refine lv_iconst (v := 0) hx hb dX7_isLoose_153 (by decide) ?_
                        refine lv_ior hx hb dX7_isLoose_154 ?_
                        refine top_eq (y := bI (opB zo c || anyS (opTM zo go gn ff c) k58)) (bI_o0 _) ?_
                        refine lv_istore_n (lv' := [(2, .int (bI (opB zo c || anyS (opTM zo go gn ff c) k58))), (4, .int (nI q_46)), (0, .ref o), (1, .int (nI c)), (3, .int (nI k58))]) hx hb dX7_isLoose_155 rfl hl (by decide) rfl (fun ls hl => ?_)
                        refine lv_iinc (v := nI (k58 + 1)) (lv' := [(3, .int (nI (k58 + 1))), (2, .int (bI (opB zo c || anyS (opTM zo go gn ff c) k58))), (4, .int (nI q_46)), (0, .ref o), (1, .int (nI c))]) hx hb dX7_isLoose_156 hl (k := 4) rfl (nI_add _ _) (by decide) rfl (fun ls hl => ?_)
                        refine lv_goto (tgt := 58) hx hb dX7_isLoose_159 (by decide) ?_
                        have el_57 : (bI (opB zo c || anyS (opTM zo go gn ff c) k58) : Int32) = bI (opB zo c || anyS (opTM zo go gn ff c) (k58 + 1)) := by simp [anyS, opTM, c_1, c_2, c_3, c_22, c_44, hn_45, c_51, c_52, c_54, c_56]
                        exact ih58 (k58 + 1) (by omega) (by omega) (by omega)  ls (lv_sub hl [3, 4, 1, 0] (show ([(0, .ref o), (1, .int (nI c)), (2, .int (bI (opB zo c || anyS (opTM zo go gn ff c) k58))), (3, .int (nI (k58 + 1)))] : List (Nat × Value)) = [(0, .ref o), (1, .int (nI c)), (2, .int (bI (opB zo c || anyS (opTM zo go gn ff c) (k58 + 1)))), (3, .int (nI (k58 + 1)))] by rw [← el_57]))
                      · skip
                        refine lv_iconst (v := 1) hx hb dX7_isLoose_149 (by decide) ?_
                        refine lv_goto (tgt := 154) hx hb dX7_isLoose_150 (by decide) ?_
                        refine lv_ior hx hb dX7_isLoose_154 ?_
                        refine top_eq (y := bI true) (bI_o1 _) ?_
                        refine lv_istore_n (lv' := [(2, .int (bI true)), (4, .int (nI q_46)), (0, .ref o), (1, .int (nI c)), (3, .int (nI k58))]) hx hb dX7_isLoose_155 rfl hl (by decide) rfl (fun ls hl => ?_)
                        refine lv_iinc (v := nI (k58 + 1)) (lv' := [(3, .int (nI (k58 + 1))), (2, .int (bI true)), (4, .int (nI q_46)), (0, .ref o), (1, .int (nI c))]) hx hb dX7_isLoose_156 hl (k := 4) rfl (nI_add _ _) (by decide) rfl (fun ls hl => ?_)
                        refine lv_goto (tgt := 58) hx hb dX7_isLoose_159 (by decide) ?_
                        have el_58 : (bI true : Int32) = bI (opB zo c || anyS (opTM zo go gn ff c) (k58 + 1)) := by simp [anyS, opTM, c_1, c_2, c_3, c_22, c_44, hn_45, c_51, c_52, c_54, c_56]
                        exact ih58 (k58 + 1) (by omega) (by omega) (by omega)  ls (lv_sub hl [3, 4, 1, 0] (show ([(0, .ref o), (1, .int (nI c)), (2, .int (bI true)), (3, .int (nI (k58 + 1)))] : List (Nat × Value)) = [(0, .ref o), (1, .int (nI c)), (2, .int (bI (opB zo c || anyS (opTM zo go gn ff c) (k58 + 1)))), (3, .int (nI (k58 + 1)))] by rw [← el_58]))
    · skip
      refine lv_iconst (v := 0) hx hb dX7_isLoose_24 (by decide) ?_
      exact retR hx hb hr (rfl) hlocks dX7_isLoose_25 (by simp [loM, bI, c_1, c_2])
theorem cal_X7_days : calV yX7_days cX7_days 3 (some .int) 0 := ⟨k_29_7, k_1_5, k_29_5, k_29_6, by decide +kernel⟩
set_option maxHeartbeats 4000000 in
set_option maxRecDepth 100000 in
theorem c_X7_days (l : Launch) (G : va_G) (E : EvT) (cI cZ : ClassId) (zo : Nat → Int32) (he : Nat → Int32) (go : Nat → Int32) (le : Nat → Int32) (hd : Nat → Int32) (gn : Nat → Int32) (la : Int32) (o : Nat) (a_S : Nat) (a_MT : Nat) (ff : Int32) (fs_o : List Value) (h_o_MT : fs_o[30]? = some (.ref a_MT)) (h_o_S : fs_o[2]? = some (.ref a_S)) (h_o_ff : fs_o[14]? = some (.int ff)) (MT : Nat → Int32) : cWi (S := (Nat → Int32)) l G E yX7_days cX7_days 3 (some .int) 5 [(cI, .int), (cZ, .boolean)] [.ref o] [(o, .inr (7, fs_o)), (a_S, .inl (cI, 163, .inl (ms zo he go le hd gn la))), (a_MT, .inl (cI, 48, .inl MT))] (fun r _ => r = dvM (loM zo he go hd gn ff) 48) (fun u => [(o, .inr (7, fs_o)), (a_S, .inl (cI, 163, .inl (ms zo he (dyM zo he hd gn ff go) le hd gn la))), (a_MT, .inl (cI, 48, .inl u))]) := by
  refine mkWi (by decide) (Nat.le_of_ble_eq_true rfl) ?_
  intro zp ze s zm args below meth zc hx hb hr hml hown hts hlocks hE hK A hA hlow H locs hP hD hS ls hl
  have hl : lv_has ls 3 [(0, .ref o)] := hl
  refine lv_iconst (v := 0) hx hb dX7_days_0 (by decide) ?_
  refine lv_istore_n (lv' := [(1, .int 0), (0, .ref o)]) hx hb dX7_days_1 rfl hl (by decide) rfl (fun ls hl => ?_)
  refine lv_iconst (v := 0) hx hb dX7_days_2 (by decide) ?_
  refine lv_istore_n (lv' := [(2, .int 0), (1, .int 0), (0, .ref o)]) hx hb dX7_days_3 rfl hl (by decide) rfl (fun ls hl => ?_)
  suffices lp4 : ∀ zn k4 : Nat, 0 ≤ k4 → k4 ≤ 48 → 48 < k4 + zn → ∀ (H : Heap) (locs : List Loc), va_P G vwCl [(o, .inr (7, fs_o)), (a_S, .inl (cI, 163, .inl (ms zo he go le hd gn la))), (a_MT, .inl (cI, 48, .inl (filS (lgM zo he go hd gn ff) MT k4)))] H → va_D A [(o, .inr (7, fs_o)), (a_S, .inl (cI, 163, .inl (ms zo he go le hd gn la))), (a_MT, .inl (cI, 48, .inl (filS (lgM zo he go hd gn ff) MT k4)))] → va_S A s.heap H locs → ∀ ls : Array Slot, lv_has ls 3 [(0, .ref o), (1, .int 0), (2, .int (nI k4))] → W zp l ze (rmK 5) s zm args below meth zc H locs 0 0 (MQ below (va_Qi (S := (Nat → Int32)) (fun r _ => r = dvM (loM zo he go hd gn ff) 48) (fun u t => va_P G vwCl ((fun u => [(o, .inr (7, fs_o)), (a_S, .inl (cI, 163, .inl (ms zo he (dyM zo he hd gn ff go) le hd gn la))), (a_MT, .inl (cI, 48, .inl u))]) u) t.heap) A) args s 0 0 A) (F0 zm 4 ls []) by
    have el_1 : (0 : Int32) = nI 0 := rfl
    have er_2 : MT = (filS (lgM zo he go hd gn ff) MT 0) := (filS_0 _ _).symm
    exact lp4 (48 + 1 - 0) 0 (by omega) (by omega) (by omega)  H locs (by rw [← er_2]; exact hP) (by rw [← er_2]; exact hD) hS ls (lv_sub hl [2, 1, 0] (show ([(0, .ref o), (1, .int 0), (2, .int 0)] : List (Nat × Value)) = [(0, .ref o), (1, .int 0), (2, .int (nI 0))] by rw [← el_1]))
  intro zn
  induction zn with
  | zero => exact fun k4 h1 h2 h3 => absurd h3 (by omega)
  | succ zn ih4 =>
    intro k4 hlo4 hhi4 hn4  H locs hP hD hS ls hl
    refine lv_iload_n hx hb dX7_days_4 rfl (lv_at hl 2 rfl) ?_
    refine lv_bipush (v := 48) hx hb dX7_days_5 (by decide) ?_
    refine lv_icmp_ge (tgt := 35) hx hb dX7_days_7 (by decide) (fun c_3 => ?_) (fun c_3 => ?_)
    · skip
      have c_3 : 48 ≤ k4 := (nI_leI (a := 48) (b := k4) (by omega) (by omega)).mp c_3
      have hk9 : 48 = k4 := by omega
      subst hk9
      have hP := P_swap hP 2 (lgM zo he go hd gn ff) rfl (fun k h9 => filS_in h9)
      have hD := D_swap hD 2 (.inl (cI, 48, .inl (lgM zo he go hd gn ff))) rfl
      have hP : va_P G vwCl [(o, .inr (7, fs_o)), (a_S, .inl (cI, 163, .inl (ms zo he go le hd gn la))), (a_MT, .inl (cI, 48, .inl (lgM zo he go hd gn ff)))] H := hP
      have hD : va_D A [(o, .inr (7, fs_o)), (a_S, .inl (cI, 163, .inl (ms zo he go le hd gn la))), (a_MT, .inl (cI, 48, .inl (lgM zo he go hd gn ff)))] := hD
      refine lv_iconst (v := 0) hx hb dX7_days_35 (by decide) ?_
      refine lv_istore_n (lv' := [(2, .int 0), (0, .ref o), (1, .int 0)]) hx hb dX7_days_36 rfl hl (by decide) rfl (fun ls hl => ?_)
      suffices lp37 : ∀ zn k37 : Nat, 0 ≤ k37 → k37 ≤ 48 → 48 < k37 + zn → ∀ (H : Heap) (locs : List Loc), va_P G vwCl [(o, .inr (7, fs_o)), (a_S, .inl (cI, 163, .inl (ms zo he (filS (dyM zo he hd gn ff go) go k37) le hd gn la))), (a_MT, .inl (cI, 48, .inl (lgM zo he go hd gn ff)))] H → va_D A [(o, .inr (7, fs_o)), (a_S, .inl (cI, 163, .inl (ms zo he (filS (dyM zo he hd gn ff go) go k37) le hd gn la))), (a_MT, .inl (cI, 48, .inl (lgM zo he go hd gn ff)))] → va_S A s.heap H locs → ∀ ls : Array Slot, lv_has ls 3 [(0, .ref o), (1, .int (dvM (loM zo he go hd gn ff) k37)), (2, .int (nI k37))] → W zp l ze (rmK 5) s zm args below meth zc H locs 0 0 (MQ below (va_Qi (S := (Nat → Int32)) (fun r _ => r = dvM (loM zo he go hd gn ff) 48) (fun u t => va_P G vwCl ((fun u => [(o, .inr (7, fs_o)), (a_S, .inl (cI, 163, .inl (ms zo he (dyM zo he hd gn ff go) le hd gn la))), (a_MT, .inl (cI, 48, .inl u))]) u) t.heap) A) args s 0 0 A) (F0 zm 37 ls []) by
        have el_4 : (0 : Int32) = dvM (loM zo he go hd gn ff) 0 := rfl
        have el_5 : (0 : Int32) = nI 0 := rfl
        have er_6 : (ms zo he go le hd gn la) = (ms zo he (filS (dyM zo he hd gn ff go) go 0) le hd gn la) := by rw [filS_0]
        exact lp37 (48 + 1 - 0) 0 (by omega) (by omega) (by omega)  H locs (by rw [← er_6]; exact hP) (by rw [← er_6]; exact hD) hS ls (lv_sub hl [1, 2, 0] (show ([(0, .ref o), (1, .int 0), (2, .int 0)] : List (Nat × Value)) = [(0, .ref o), (1, .int (dvM (loM zo he go hd gn ff) 0)), (2, .int (nI 0))] by rw [← el_4, ← el_5]))
      intro zn
      induction zn with
      | zero => exact fun k37 h1 h2 h3 => absurd h3 (by omega)
      | succ zn ih37 =>
        intro k37 hlo37 hhi37 hn37  H locs hP hD hS ls hl
        refine lv_iload_n hx hb dX7_days_37 rfl (lv_at hl 2 rfl) ?_
        refine lv_bipush (v := 48) hx hb dX7_days_38 (by decide) ?_
        refine lv_icmp_ge (tgt := 122) hx hb dX7_days_40 (by decide) (fun c_7 => ?_) (fun c_7 => ?_)
        · skip
          have c_7 : 48 ≤ k37 := (nI_leI (a := 48) (b := k37) (by omega) (by omega)).mp c_7
          have hk9 : 48 = k37 := by omega
          subst hk9
          refine lv_iload_n hx hb dX7_days_122 rfl (lv_at hl 1 rfl) ?_
          have hP := P_swap hP 1 (ms zo he (dyM zo he hd gn ff go) le hd gn la) rfl (ms_swap_g (fun c h9 => filS_in h9))
          have hP : va_P G vwCl [(o, .inr (7, fs_o)), (a_S, .inl (cI, 163, .inl (ms zo he (dyM zo he hd gn ff go) le hd gn la))), (a_MT, .inl (cI, 48, .inl (lgM zo he go hd gn ff)))] H := hP
          exact retWi (lgM zo he go hd gn ff) hx hb hr (rfl) hlocks dX7_days_123 hS (rfl) hP
        · skip
          have c_7 : ¬ 48 ≤ k37 := fun h9 => c_7 ((nI_leI (a := 48) (b := k37) (by omega) (by omega)).mpr h9)
          refine lv_iload_n hx hb dX7_days_43 rfl (lv_at hl 1 rfl) ?_
          refine lv_aload_n hx hb dX7_days_44 rfl (lv_at hl 0 rfl) ?_
          refine va_get (D := G) (ci := 7) (v := .ref a_MT) (C := RX7) (T := TX7) (N := 38) hx hb hts inlX7 hown hK hP 0 rfl rfl 30 (by decide) (hts (.fieldLink RX7 63 "EarthBanksModel" "most" "[I") k_6_20) (fun _ h9 => h9) h_o_MT dX7_days_45 ?_
          refine lv_iload_n hx hb dX7_days_48 rfl (lv_at hl 2 rfl) ?_
          refine ialdN (j := k37) hx hb hK hP 2 0 rfl rfl (by omega) (by decide) dX7_days_49 ?_
          refine top_eq (y := bI ((loM zo he go hd gn ff) k37)) (rfl) ?_
          refine lv_iadd hx hb dX7_days_50 ?_
          refine lv_istore_n (lv' := [(1, .int ((dvM (loM zo he go hd gn ff) k37) + (bI ((loM zo he go hd gn ff) k37)))), (0, .ref o), (2, .int (nI k37))]) hx hb dX7_days_51 rfl hl (by decide) rfl (fun ls hl => ?_)
          refine lv_iload_n hx hb dX7_days_52 rfl (lv_at hl 0 rfl) ?_
          refine lv_aload_n hx hb dX7_days_53 rfl (lv_at hl 1 rfl) ?_
          refine va_get (D := G) (ci := 7) (v := .ref a_MT) (C := RX7) (T := TX7) (N := 38) hx hb hts inlX7 hown hK hP 0 rfl rfl 30 (by decide) (hts (.fieldLink RX7 63 "EarthBanksModel" "most" "[I") k_6_20) (fun _ h9 => h9) h_o_MT dX7_days_54 ?_
          refine lv_iload_n hx hb dX7_days_57 rfl (lv_at hl 2 rfl) ?_
          refine ialdN (j := k37) hx hb hK hP 2 0 rfl rfl (by omega) (by decide) dX7_days_58 ?_
          refine top_eq (y := bI ((loM zo he go hd gn ff) k37)) (rfl) ?_
          refine lv_iconst (v := 1) hx hb dX7_days_59 (by decide) ?_
          refine lv_icmp_ne (tgt := 81) hx hb dX7_days_60 (by decide) (fun c_8 => ?_) (fun c_8 => ?_)
          · skip
            have c_8 : ((loM zo he go hd gn ff) k37) = false := bI_1f c_8
            refine lv_iconst (v := 0) hx hb dX7_days_81 (by decide) ?_
            refine lv_iadd hx hb dX7_days_82 ?_
            refine lv_istore_n (lv' := [(1, .int (((dvM (loM zo he go hd gn ff) k37) + (bI ((loM zo he go hd gn ff) k37))) + 0)), (0, .ref o), (2, .int (nI k37))]) hx hb dX7_days_83 rfl hl (by decide) rfl (fun ls hl => ?_)
            refine lv_aload_n hx hb dX7_days_84 rfl (lv_at hl 1 rfl) ?_
            refine va_get (D := G) (ci := 7) (v := .ref a_S) (C := RX7) (T := TX7) (N := 38) hx hb hts inlX7 hown hK hP 0 rfl rfl 2 (by decide) (hts (.fieldLink RX7 7 "EarthBanksModel" "s" "[I") k_6_2) (fun _ h9 => h9) h_o_S dX7_days_85 ?_
            refine lv_bipush (v := 96) hx hb dX7_days_88 (by decide) ?_
            refine lv_iload_n hx hb dX7_days_90 rfl (lv_at hl 2 rfl) ?_
            refine lv_iadd hx hb dX7_days_91 ?_
            refine top_eq (y := nI (96 + k37)) (nI_add _ _) ?_
            refine lv_aload_n hx hb dX7_days_92 rfl (lv_at hl 1 rfl) ?_
            refine va_get (D := G) (ci := 7) (v := .ref a_MT) (C := RX7) (T := TX7) (N := 38) hx hb hts inlX7 hown hK hP 0 rfl rfl 30 (by decide) (hts (.fieldLink RX7 63 "EarthBanksModel" "most" "[I") k_6_20) (fun _ h9 => h9) h_o_MT dX7_days_93 ?_
            refine lv_iload_n hx hb dX7_days_96 rfl (lv_at hl 2 rfl) ?_
            refine ialdN (j := k37) hx hb hK hP 2 0 rfl rfl (by omega) (by decide) dX7_days_97 ?_
            refine top_eq (y := bI ((loM zo he go hd gn ff) k37)) (rfl) ?_
            refine lv_iconst (v := 1) hx hb dX7_days_98 (by decide) ?_
            refine lv_icmp_ne (tgt := 106) hx hb dX7_days_99 (by decide) (fun c_9 => ?_) (fun c_9 => ?_)
            · skip
              have c_9 : ((loM zo he go hd gn ff) k37) = false := bI_1f c_9
              refine lv_aload_n hx hb dX7_days_106 rfl (lv_at hl 1 rfl) ?_
              refine va_get (D := G) (ci := 7) (v := .ref a_S) (C := RX7) (T := TX7) (N := 38) hx hb hts inlX7 hown hK hP 0 rfl rfl 2 (by decide) (hts (.fieldLink RX7 7 "EarthBanksModel" "s" "[I") k_6_2) (fun _ h9 => h9) h_o_S dX7_days_107 ?_
              refine lv_bipush (v := 96) hx hb dX7_days_110 (by decide) ?_
              refine lv_iload_n hx hb dX7_days_112 rfl (lv_at hl 2 rfl) ?_
              refine lv_iadd hx hb dX7_days_113 ?_
              refine top_eq (y := nI (96 + k37)) (nI_add _ _) ?_
              refine ialdN (j := (96 + k37)) hx hb hK hP 1 0 rfl rfl (by omega) (by decide) dX7_days_114 ?_
              refine top_eq (y := ((filS (dyM zo he hd gn ff go) go k37) k37)) (ms_g (c := k37) (by omega) (by omega)) ?_
              refine top_eq (y := (go k37)) (filS_out (Nat.le_refl _)) ?_
              refine iastN (j := (96 + k37)) hx hb hK hP hD hS 1 0 rfl rfl (by omega) (by decide) dX7_days_115 (fun H locs hP hD hS => ?_)
              have hP : va_P G vwCl [(o, .inr (7, fs_o)), (a_S, .inl (cI, 163, .inl (upd (ms zo he (filS (dyM zo he hd gn ff go) go k37) le hd gn la) (96 + k37) (go k37)))), (a_MT, .inl (cI, 48, .inl (lgM zo he go hd gn ff)))] H := hP
              have hD : va_D A [(o, .inr (7, fs_o)), (a_S, .inl (cI, 163, .inl (upd (ms zo he (filS (dyM zo he hd gn ff go) go k37) le hd gn la) (96 + k37) (go k37)))), (a_MT, .inl (cI, 48, .inl (lgM zo he go hd gn ff)))] := hD
              have en_10 : upd (ms zo he (filS (dyM zo he hd gn ff go) go k37) le hd gn la) (96 + k37) (go k37) = ms zo he (upd (filS (dyM zo he hd gn ff go) go k37) k37 (go k37)) le hd gn la := ms_ug (c := k37) (by omega) (by omega)
              rw [en_10] at hP hD
              have hP : va_P G vwCl [(o, .inr (7, fs_o)), (a_S, .inl (cI, 163, .inl (ms zo he (upd (filS (dyM zo he hd gn ff go) go k37) k37 (go k37)) le hd gn la))), (a_MT, .inl (cI, 48, .inl (lgM zo he go hd gn ff)))] H := hP
              have hD : va_D A [(o, .inr (7, fs_o)), (a_S, .inl (cI, 163, .inl (ms zo he (upd (filS (dyM zo he hd gn ff go) go k37) k37 (go k37)) le hd gn la))), (a_MT, .inl (cI, 48, .inl (lgM zo he go hd gn ff)))] := hD
              refine lv_iinc (v := nI (k37 + 1)) (lv' := [(2, .int (nI (k37 + 1))), (1, .int (((dvM (loM zo he go hd gn ff) k37) + (bI ((loM zo he go hd gn ff) k37))) + 0)), (0, .ref o)]) hx hb dX7_days_116 hl (k := 2) rfl (nI_add _ _) (by decide) rfl (fun ls hl => ?_)
              refine lv_goto (tgt := 37) hx hb dX7_days_119 (by decide) ?_
              have el_11 : ((((dvM (loM zo he go hd gn ff) k37) + (bI ((loM zo he go hd gn ff) k37))) + 0) : Int32) = dvM (loM zo he go hd gn ff) (k37 + 1) := by rw [dvM_s]; simp [c_3, c_7, c_8, c_9]
              have er_12 : (ms zo he (upd (filS (dyM zo he hd gn ff go) go k37) k37 (go k37)) le hd gn la) = (ms zo he (filS (dyM zo he hd gn ff go) go (k37 + 1)) le hd gn la) := by rw [filS_s _ _ _ _ (by simp [dyM, c_3, c_7, c_8, c_9])]
              exact ih37 (k37 + 1) (by omega) (by omega) (by omega)  H locs (by rw [← er_12]; exact hP) (by rw [← er_12]; exact hD) hS ls (lv_sub hl [2, 1, 0] (show ([(0, .ref o), (1, .int (((dvM (loM zo he go hd gn ff) k37) + (bI ((loM zo he go hd gn ff) k37))) + 0)), (2, .int (nI (k37 + 1)))] : List (Nat × Value)) = [(0, .ref o), (1, .int (dvM (loM zo he go hd gn ff) (k37 + 1))), (2, .int (nI (k37 + 1)))] by rw [← el_11]))
            · skip
              exact absurd (c_8.symm.trans (bI_1t c_9)) (by decide)
          · skip
            have c_8 : ((loM zo he go hd gn ff) k37) = true := bI_1t c_8
            refine lv_iload_n hx hb dX7_days_63 rfl (lv_at hl 2 rfl) ?_
            refine lv_bipush (v := 8) hx hb dX7_days_64 (by decide) ?_
            refine lv_irem hx hb dX7_days_66 (by decide) ?_
            refine top_eq (y := nI (k37 % 8)) (pk_rem (a := k37) (d := 8) (by omega) (by omega) (by omega)) ?_
            refine lv_if_ne (tgt := 81) hx hb dX7_days_67 (by decide) (fun c_13 => ?_) (fun c_13 => ?_)
            · skip
              have c_13 : ¬ (k37 % 8) = 0 := fun h9 => c_13 ((nI_eq (a := (k37 % 8)) (b := 0) (by omega) (by omega)).mpr h9)
              refine lv_iconst (v := 0) hx hb dX7_days_81 (by decide) ?_
              refine lv_iadd hx hb dX7_days_82 ?_
              refine lv_istore_n (lv' := [(1, .int (((dvM (loM zo he go hd gn ff) k37) + (bI ((loM zo he go hd gn ff) k37))) + 0)), (0, .ref o), (2, .int (nI k37))]) hx hb dX7_days_83 rfl hl (by decide) rfl (fun ls hl => ?_)
              refine lv_aload_n hx hb dX7_days_84 rfl (lv_at hl 1 rfl) ?_
              refine va_get (D := G) (ci := 7) (v := .ref a_S) (C := RX7) (T := TX7) (N := 38) hx hb hts inlX7 hown hK hP 0 rfl rfl 2 (by decide) (hts (.fieldLink RX7 7 "EarthBanksModel" "s" "[I") k_6_2) (fun _ h9 => h9) h_o_S dX7_days_85 ?_
              refine lv_bipush (v := 96) hx hb dX7_days_88 (by decide) ?_
              refine lv_iload_n hx hb dX7_days_90 rfl (lv_at hl 2 rfl) ?_
              refine lv_iadd hx hb dX7_days_91 ?_
              refine top_eq (y := nI (96 + k37)) (nI_add _ _) ?_
              refine lv_aload_n hx hb dX7_days_92 rfl (lv_at hl 1 rfl) ?_
              refine va_get (D := G) (ci := 7) (v := .ref a_MT) (C := RX7) (T := TX7) (N := 38) hx hb hts inlX7 hown hK hP 0 rfl rfl 30 (by decide) (hts (.fieldLink RX7 63 "EarthBanksModel" "most" "[I") k_6_20) (fun _ h9 => h9) h_o_MT dX7_days_93 ?_
              refine lv_iload_n hx hb dX7_days_96 rfl (lv_at hl 2 rfl) ?_
              refine ialdN (j := k37) hx hb hK hP 2 0 rfl rfl (by omega) (by decide) dX7_days_97 ?_
              refine top_eq (y := bI ((loM zo he go hd gn ff) k37)) (rfl) ?_
              refine lv_iconst (v := 1) hx hb dX7_days_98 (by decide) ?_
              refine lv_icmp_ne (tgt := 106) hx hb dX7_days_99 (by decide) (fun c_14 => ?_) (fun c_14 => ?_)
              · skip
                exact absurd (c_8.symm.trans (bI_1f c_14)) (by decide)
              · skip
                have c_14 : ((loM zo he go hd gn ff) k37) = true := bI_1t c_14
                refine lv_iconst (v := 1) hx hb dX7_days_102 (by decide) ?_
                refine lv_goto (tgt := 115) hx hb dX7_days_103 (by decide) ?_
                refine iastN (j := (96 + k37)) hx hb hK hP hD hS 1 0 rfl rfl (by omega) (by decide) dX7_days_115 (fun H locs hP hD hS => ?_)
                have hP : va_P G vwCl [(o, .inr (7, fs_o)), (a_S, .inl (cI, 163, .inl (upd (ms zo he (filS (dyM zo he hd gn ff go) go k37) le hd gn la) (96 + k37) 1))), (a_MT, .inl (cI, 48, .inl (lgM zo he go hd gn ff)))] H := hP
                have hD : va_D A [(o, .inr (7, fs_o)), (a_S, .inl (cI, 163, .inl (upd (ms zo he (filS (dyM zo he hd gn ff go) go k37) le hd gn la) (96 + k37) 1))), (a_MT, .inl (cI, 48, .inl (lgM zo he go hd gn ff)))] := hD
                have en_15 : upd (ms zo he (filS (dyM zo he hd gn ff go) go k37) le hd gn la) (96 + k37) 1 = ms zo he (upd (filS (dyM zo he hd gn ff go) go k37) k37 1) le hd gn la := ms_ug (c := k37) (by omega) (by omega)
                rw [en_15] at hP hD
                have hP : va_P G vwCl [(o, .inr (7, fs_o)), (a_S, .inl (cI, 163, .inl (ms zo he (upd (filS (dyM zo he hd gn ff go) go k37) k37 1) le hd gn la))), (a_MT, .inl (cI, 48, .inl (lgM zo he go hd gn ff)))] H := hP
                have hD : va_D A [(o, .inr (7, fs_o)), (a_S, .inl (cI, 163, .inl (ms zo he (upd (filS (dyM zo he hd gn ff go) go k37) k37 1) le hd gn la))), (a_MT, .inl (cI, 48, .inl (lgM zo he go hd gn ff)))] := hD
                refine lv_iinc (v := nI (k37 + 1)) (lv' := [(2, .int (nI (k37 + 1))), (1, .int (((dvM (loM zo he go hd gn ff) k37) + (bI ((loM zo he go hd gn ff) k37))) + 0)), (0, .ref o)]) hx hb dX7_days_116 hl (k := 2) rfl (nI_add _ _) (by decide) rfl (fun ls hl => ?_)
                refine lv_goto (tgt := 37) hx hb dX7_days_119 (by decide) ?_
                have el_16 : ((((dvM (loM zo he go hd gn ff) k37) + (bI ((loM zo he go hd gn ff) k37))) + 0) : Int32) = dvM (loM zo he go hd gn ff) (k37 + 1) := by rw [dvM_s]; simp [c_3, c_7, c_8, c_13, c_14]
                have er_17 : (ms zo he (upd (filS (dyM zo he hd gn ff go) go k37) k37 1) le hd gn la) = (ms zo he (filS (dyM zo he hd gn ff go) go (k37 + 1)) le hd gn la) := by rw [filS_s _ _ _ _ (by simp [dyM, c_3, c_7, c_8, c_13, c_14])]
                exact ih37 (k37 + 1) (by omega) (by omega) (by omega)  H locs (by rw [← er_17]; exact hP) (by rw [← er_17]; exact hD) hS ls (lv_sub hl [2, 1, 0] (show ([(0, .ref o), (1, .int (((dvM (loM zo he go hd gn ff) k37) + (bI ((loM zo he go hd gn ff) k37))) + 0)), (2, .int (nI (k37 + 1)))] : List (Nat × Value)) = [(0, .ref o), (1, .int (dvM (loM zo he go hd gn ff) (k37 + 1))), (2, .int (nI (k37 + 1)))] by rw [← el_16]))
            · skip
              have c_13 : (k37 % 8) = 0 := (nI_eq (a := (k37 % 8)) (b := 0) (by omega) (by omega)).mp c_13
              refine lv_iload_n hx hb dX7_days_70 rfl (lv_at hl 0 rfl) ?_
              refine lv_bipush (v := 100) hx hb dX7_days_71 (by decide) ?_
              refine lv_icmp_ge (tgt := 81) hx hb dX7_days_73 (by decide) (fun c_18 => ?_) (fun c_18 => ?_)
              · skip
                have c_18 := i_nlt c_18
                refine lv_iconst (v := 0) hx hb dX7_days_81 (by decide) ?_
                refine lv_iadd hx hb dX7_days_82 ?_
                refine lv_istore_n (lv' := [(1, .int (((dvM (loM zo he go hd gn ff) k37) + (bI ((loM zo he go hd gn ff) k37))) + 0)), (0, .ref o), (2, .int (nI k37))]) hx hb dX7_days_83 rfl hl (by decide) rfl (fun ls hl => ?_)
                refine lv_aload_n hx hb dX7_days_84 rfl (lv_at hl 1 rfl) ?_
                refine va_get (D := G) (ci := 7) (v := .ref a_S) (C := RX7) (T := TX7) (N := 38) hx hb hts inlX7 hown hK hP 0 rfl rfl 2 (by decide) (hts (.fieldLink RX7 7 "EarthBanksModel" "s" "[I") k_6_2) (fun _ h9 => h9) h_o_S dX7_days_85 ?_
                refine lv_bipush (v := 96) hx hb dX7_days_88 (by decide) ?_
                refine lv_iload_n hx hb dX7_days_90 rfl (lv_at hl 2 rfl) ?_
                refine lv_iadd hx hb dX7_days_91 ?_
                refine top_eq (y := nI (96 + k37)) (nI_add _ _) ?_
                refine lv_aload_n hx hb dX7_days_92 rfl (lv_at hl 1 rfl) ?_
                refine va_get (D := G) (ci := 7) (v := .ref a_MT) (C := RX7) (T := TX7) (N := 38) hx hb hts inlX7 hown hK hP 0 rfl rfl 30 (by decide) (hts (.fieldLink RX7 63 "EarthBanksModel" "most" "[I") k_6_20) (fun _ h9 => h9) h_o_MT dX7_days_93 ?_
                refine lv_iload_n hx hb dX7_days_96 rfl (lv_at hl 2 rfl) ?_
                refine ialdN (j := k37) hx hb hK hP 2 0 rfl rfl (by omega) (by decide) dX7_days_97 ?_
                refine top_eq (y := bI ((loM zo he go hd gn ff) k37)) (rfl) ?_
                refine lv_iconst (v := 1) hx hb dX7_days_98 (by decide) ?_
                refine lv_icmp_ne (tgt := 106) hx hb dX7_days_99 (by decide) (fun c_19 => ?_) (fun c_19 => ?_)
                · skip
                  exact absurd (c_8.symm.trans (bI_1f c_19)) (by decide)
                · skip
                  have c_19 : ((loM zo he go hd gn ff) k37) = true := bI_1t c_19
                  refine lv_iconst (v := 1) hx hb dX7_days_102 (by decide) ?_
                  refine lv_goto (tgt := 115) hx hb dX7_days_103 (by decide) ?_
                  refine iastN (j := (96 + k37)) hx hb hK hP hD hS 1 0 rfl rfl (by omega) (by decide) dX7_days_115 (fun H locs hP hD hS => ?_)
                  have hP : va_P G vwCl [(o, .inr (7, fs_o)), (a_S, .inl (cI, 163, .inl (upd (ms zo he (filS (dyM zo he hd gn ff go) go k37) le hd gn la) (96 + k37) 1))), (a_MT, .inl (cI, 48, .inl (lgM zo he go hd gn ff)))] H := hP
                  have hD : va_D A [(o, .inr (7, fs_o)), (a_S, .inl (cI, 163, .inl (upd (ms zo he (filS (dyM zo he hd gn ff go) go k37) le hd gn la) (96 + k37) 1))), (a_MT, .inl (cI, 48, .inl (lgM zo he go hd gn ff)))] := hD
                  have en_20 : upd (ms zo he (filS (dyM zo he hd gn ff go) go k37) le hd gn la) (96 + k37) 1 = ms zo he (upd (filS (dyM zo he hd gn ff go) go k37) k37 1) le hd gn la := ms_ug (c := k37) (by omega) (by omega)
                  rw [en_20] at hP hD
                  have hP : va_P G vwCl [(o, .inr (7, fs_o)), (a_S, .inl (cI, 163, .inl (ms zo he (upd (filS (dyM zo he hd gn ff go) go k37) k37 1) le hd gn la))), (a_MT, .inl (cI, 48, .inl (lgM zo he go hd gn ff)))] H := hP
                  have hD : va_D A [(o, .inr (7, fs_o)), (a_S, .inl (cI, 163, .inl (ms zo he (upd (filS (dyM zo he hd gn ff go) go k37) k37 1) le hd gn la))), (a_MT, .inl (cI, 48, .inl (lgM zo he go hd gn ff)))] := hD
                  refine lv_iinc (v := nI (k37 + 1)) (lv' := [(2, .int (nI (k37 + 1))), (1, .int (((dvM (loM zo he go hd gn ff) k37) + (bI ((loM zo he go hd gn ff) k37))) + 0)), (0, .ref o)]) hx hb dX7_days_116 hl (k := 2) rfl (nI_add _ _) (by decide) rfl (fun ls hl => ?_)
                  refine lv_goto (tgt := 37) hx hb dX7_days_119 (by decide) ?_
                  have el_21 : ((((dvM (loM zo he go hd gn ff) k37) + (bI ((loM zo he go hd gn ff) k37))) + 0) : Int32) = dvM (loM zo he go hd gn ff) (k37 + 1) := by rw [dvM_s]; have h9 := c_18; rw [c_8] at h9 ⊢; simp [h9, eq_true c_13]
                  have er_22 : (ms zo he (upd (filS (dyM zo he hd gn ff go) go k37) k37 1) le hd gn la) = (ms zo he (filS (dyM zo he hd gn ff go) go (k37 + 1)) le hd gn la) := by rw [filS_s _ _ _ _ (by simp [dyM, c_3, c_7, c_8, eq_true c_13, c_18, c_19])]
                  exact ih37 (k37 + 1) (by omega) (by omega) (by omega)  H locs (by rw [← er_22]; exact hP) (by rw [← er_22]; exact hD) hS ls (lv_sub hl [2, 1, 0] (show ([(0, .ref o), (1, .int (((dvM (loM zo he go hd gn ff) k37) + (bI ((loM zo he go hd gn ff) k37))) + 0)), (2, .int (nI (k37 + 1)))] : List (Nat × Value)) = [(0, .ref o), (1, .int (dvM (loM zo he go hd gn ff) (k37 + 1))), (2, .int (nI (k37 + 1)))] by rw [← el_21]))
              · skip
                have c_18 := i_lt c_18
                refine lv_bipush (v := 100) hx hb dX7_days_76 (by decide) ?_
                refine lv_goto (tgt := 82) hx hb dX7_days_78 (by decide) ?_
                refine lv_iadd hx hb dX7_days_82 ?_
                refine lv_istore_n (lv' := [(1, .int (((dvM (loM zo he go hd gn ff) k37) + (bI ((loM zo he go hd gn ff) k37))) + 100)), (0, .ref o), (2, .int (nI k37))]) hx hb dX7_days_83 rfl hl (by decide) rfl (fun ls hl => ?_)
                refine lv_aload_n hx hb dX7_days_84 rfl (lv_at hl 1 rfl) ?_
                refine va_get (D := G) (ci := 7) (v := .ref a_S) (C := RX7) (T := TX7) (N := 38) hx hb hts inlX7 hown hK hP 0 rfl rfl 2 (by decide) (hts (.fieldLink RX7 7 "EarthBanksModel" "s" "[I") k_6_2) (fun _ h9 => h9) h_o_S dX7_days_85 ?_
                refine lv_bipush (v := 96) hx hb dX7_days_88 (by decide) ?_
                refine lv_iload_n hx hb dX7_days_90 rfl (lv_at hl 2 rfl) ?_
                refine lv_iadd hx hb dX7_days_91 ?_
                refine top_eq (y := nI (96 + k37)) (nI_add _ _) ?_
                refine lv_aload_n hx hb dX7_days_92 rfl (lv_at hl 1 rfl) ?_
                refine va_get (D := G) (ci := 7) (v := .ref a_MT) (C := RX7) (T := TX7) (N := 38) hx hb hts inlX7 hown hK hP 0 rfl rfl 30 (by decide) (hts (.fieldLink RX7 63 "EarthBanksModel" "most" "[I") k_6_20) (fun _ h9 => h9) h_o_MT dX7_days_93 ?_
                refine lv_iload_n hx hb dX7_days_96 rfl (lv_at hl 2 rfl) ?_
                refine ialdN (j := k37) hx hb hK hP 2 0 rfl rfl (by omega) (by decide) dX7_days_97 ?_
                refine top_eq (y := bI ((loM zo he go hd gn ff) k37)) (rfl) ?_
                refine lv_iconst (v := 1) hx hb dX7_days_98 (by decide) ?_
                refine lv_icmp_ne (tgt := 106) hx hb dX7_days_99 (by decide) (fun c_23 => ?_) (fun c_23 => ?_)
                · skip
                  exact absurd (c_8.symm.trans (bI_1f c_23)) (by decide)
                · skip
                  have c_23 : ((loM zo he go hd gn ff) k37) = true := bI_1t c_23
                  refine lv_iconst (v := 1) hx hb dX7_days_102 (by decide) ?_
                  refine lv_goto (tgt := 115) hx hb dX7_days_103 (by decide) ?_
                  refine iastN (j := (96 + k37)) hx hb hK hP hD hS 1 0 rfl rfl (by omega) (by decide) dX7_days_115 (fun H locs hP hD hS => ?_)
                  have hP : va_P G vwCl [(o, .inr (7, fs_o)), (a_S, .inl (cI, 163, .inl (upd (ms zo he (filS (dyM zo he hd gn ff go) go k37) le hd gn la) (96 + k37) 1))), (a_MT, .inl (cI, 48, .inl (lgM zo he go hd gn ff)))] H := hP
                  have hD : va_D A [(o, .inr (7, fs_o)), (a_S, .inl (cI, 163, .inl (upd (ms zo he (filS (dyM zo he hd gn ff go) go k37) le hd gn la) (96 + k37) 1))), (a_MT, .inl (cI, 48, .inl (lgM zo he go hd gn ff)))] := hD
                  have en_24 : upd (ms zo he (filS (dyM zo he hd gn ff go) go k37) le hd gn la) (96 + k37) 1 = ms zo he (upd (filS (dyM zo he hd gn ff go) go k37) k37 1) le hd gn la := ms_ug (c := k37) (by omega) (by omega)
                  rw [en_24] at hP hD
                  have hP : va_P G vwCl [(o, .inr (7, fs_o)), (a_S, .inl (cI, 163, .inl (ms zo he (upd (filS (dyM zo he hd gn ff go) go k37) k37 1) le hd gn la))), (a_MT, .inl (cI, 48, .inl (lgM zo he go hd gn ff)))] H := hP
                  have hD : va_D A [(o, .inr (7, fs_o)), (a_S, .inl (cI, 163, .inl (ms zo he (upd (filS (dyM zo he hd gn ff go) go k37) k37 1) le hd gn la))), (a_MT, .inl (cI, 48, .inl (lgM zo he go hd gn ff)))] := hD
                  refine lv_iinc (v := nI (k37 + 1)) (lv' := [(2, .int (nI (k37 + 1))), (1, .int (((dvM (loM zo he go hd gn ff) k37) + (bI ((loM zo he go hd gn ff) k37))) + 100)), (0, .ref o)]) hx hb dX7_days_116 hl (k := 2) rfl (nI_add _ _) (by decide) rfl (fun ls hl => ?_)
                  refine lv_goto (tgt := 37) hx hb dX7_days_119 (by decide) ?_
                  have el_25 : ((((dvM (loM zo he go hd gn ff) k37) + (bI ((loM zo he go hd gn ff) k37))) + 100) : Int32) = dvM (loM zo he go hd gn ff) (k37 + 1) := by rw [dvM_s]; have h9 := c_18; rw [c_8] at h9 ⊢; simp [h9, eq_true c_13]
                  have er_26 : (ms zo he (upd (filS (dyM zo he hd gn ff go) go k37) k37 1) le hd gn la) = (ms zo he (filS (dyM zo he hd gn ff go) go (k37 + 1)) le hd gn la) := by rw [filS_s _ _ _ _ (by simp [dyM, c_3, c_7, c_8, eq_true c_13, c_18, c_23])]
                  exact ih37 (k37 + 1) (by omega) (by omega) (by omega)  H locs (by rw [← er_26]; exact hP) (by rw [← er_26]; exact hD) hS ls (lv_sub hl [2, 1, 0] (show ([(0, .ref o), (1, .int (((dvM (loM zo he go hd gn ff) k37) + (bI ((loM zo he go hd gn ff) k37))) + 100)), (2, .int (nI (k37 + 1)))] : List (Nat × Value)) = [(0, .ref o), (1, .int (dvM (loM zo he go hd gn ff) (k37 + 1))), (2, .int (nI (k37 + 1)))] by rw [← el_25]))
    · skip
      have c_3 : ¬ 48 ≤ k4 := fun h9 => c_3 ((nI_leI (a := 48) (b := k4) (by omega) (by omega)).mpr h9)
      refine lv_aload_n hx hb dX7_days_10 rfl (lv_at hl 0 rfl) ?_
      refine va_get (D := G) (ci := 7) (v := .ref a_MT) (C := RX7) (T := TX7) (N := 38) hx hb hts inlX7 hown hK hP 0 rfl rfl 30 (by decide) (hts (.fieldLink RX7 63 "EarthBanksModel" "most" "[I") k_6_20) (fun _ h9 => h9) h_o_MT dX7_days_11 ?_
      refine lv_iload_n hx hb dX7_days_14 rfl (lv_at hl 2 rfl) ?_
      refine lv_aload_n hx hb dX7_days_15 rfl (lv_at hl 0 rfl) ?_
      refine lv_iload_n hx hb dX7_days_16 rfl (lv_at hl 2 rfl) ?_
      refine cRV (As := [.int (nI k4)]) (rest := [.int (nI k4), .ref a_MT]) hx hb hml hown hts (c_X7_isLoose l G E cI cZ zo he go le hd gn la k4 o a_S ff fs_o h_o_S h_o_ff (by first | assumption | omega | simp [bI, c_3])) k_29_8 cal_X7_isLoose ⟨Nat.le_of_ble_eq_true rfl, Nat.le_of_ble_eq_true rfl⟩ hE hlow hS hK [0, 1] rfl hP [0, 1] rfl 0 7 rfl rfl rfl hl.1 rfl (Nat.le_of_ble_eq_true rfl) dX7_days_17 ⟨Nat.zero_le _, Nat.zero_le _⟩ ?_
      refine lv_if_eq (tgt := 27) hx hb dX7_days_20 (by decide) (fun c_27 => ?_) (fun c_27 => ?_)
      · skip
        have c_27 : (loM zo he go hd gn ff k4) = false := bI_f c_27
        refine lv_iconst (v := 0) hx hb dX7_days_27 (by decide) ?_
        refine iastN (j := k4) hx hb hK hP hD hS 2 0 rfl rfl (by omega) (by decide) dX7_days_28 (fun H locs hP hD hS => ?_)
        have hP : va_P G vwCl [(o, .inr (7, fs_o)), (a_S, .inl (cI, 163, .inl (ms zo he go le hd gn la))), (a_MT, .inl (cI, 48, .inl (upd (filS (lgM zo he go hd gn ff) MT k4) k4 0)))] H := hP
        have hD : va_D A [(o, .inr (7, fs_o)), (a_S, .inl (cI, 163, .inl (ms zo he go le hd gn la))), (a_MT, .inl (cI, 48, .inl (upd (filS (lgM zo he go hd gn ff) MT k4) k4 0)))] := hD
        refine lv_iinc (v := nI (k4 + 1)) (lv' := [(2, .int (nI (k4 + 1))), (0, .ref o), (1, .int 0)]) hx hb dX7_days_29 hl (k := 2) rfl (nI_add _ _) (by decide) rfl (fun ls hl => ?_)
        refine lv_goto (tgt := 4) hx hb dX7_days_32 (by decide) ?_
        have er_28 : (upd (filS (lgM zo he go hd gn ff) MT k4) k4 0) = (filS (lgM zo he go hd gn ff) MT (k4 + 1)) := filS_s _ _ _ _ (by simp [lgM, bI, c_3, c_27])
        exact ih4 (k4 + 1) (by omega) (by omega) (by omega)  H locs (by rw [← er_28]; exact hP) (by rw [← er_28]; exact hD) hS ls (lv_sub hl [1, 2, 0] rfl)
      · skip
        have c_27 : (loM zo he go hd gn ff k4) = true := bI_t c_27
        refine lv_iconst (v := 1) hx hb dX7_days_23 (by decide) ?_
        refine lv_goto (tgt := 28) hx hb dX7_days_24 (by decide) ?_
        refine iastN (j := k4) hx hb hK hP hD hS 2 0 rfl rfl (by omega) (by decide) dX7_days_28 (fun H locs hP hD hS => ?_)
        have hP : va_P G vwCl [(o, .inr (7, fs_o)), (a_S, .inl (cI, 163, .inl (ms zo he go le hd gn la))), (a_MT, .inl (cI, 48, .inl (upd (filS (lgM zo he go hd gn ff) MT k4) k4 1)))] H := hP
        have hD : va_D A [(o, .inr (7, fs_o)), (a_S, .inl (cI, 163, .inl (ms zo he go le hd gn la))), (a_MT, .inl (cI, 48, .inl (upd (filS (lgM zo he go hd gn ff) MT k4) k4 1)))] := hD
        refine lv_iinc (v := nI (k4 + 1)) (lv' := [(2, .int (nI (k4 + 1))), (0, .ref o), (1, .int 0)]) hx hb dX7_days_29 hl (k := 2) rfl (nI_add _ _) (by decide) rfl (fun ls hl => ?_)
        refine lv_goto (tgt := 4) hx hb dX7_days_32 (by decide) ?_
        have er_29 : (upd (filS (lgM zo he go hd gn ff) MT k4) k4 1) = (filS (lgM zo he go hd gn ff) MT (k4 + 1)) := filS_s _ _ _ _ (by simp [lgM, bI, c_3, c_27])
        exact ih4 (k4 + 1) (by omega) (by omega) (by omega)  H locs (by rw [← er_29]; exact hP) (by rw [← er_29]; exact hD) hS ls (lv_sub hl [1, 2, 0] rfl)
theorem cal_X7_day : calV yX7_day cX7_day 1 (some .int) 0 := ⟨k_29_3, k_1_5, k_29_1, k_29_2, by decide +kernel⟩
set_option maxHeartbeats 4000000 in
set_option maxRecDepth 100000 in
theorem c_X7_day (l : Launch) (G : va_G) (E : EvT) (cI cZ : ClassId) (zo : Nat → Int32) (he : Nat → Int32) (go : Nat → Int32) (le : Nat → Int32) (hd : Nat → Int32) (gn : Nat → Int32) (la : Int32) (o : Nat) (a_S : Nat) (a_MT : Nat) (a_K : Nat) (a_IK : Nat) (a_SV : Nat) (a_DR : Nat) (a_TX : Nat) (a_WY : Nat) (a_BE : Nat) (a_MO : Nat) (a_DY : Nat) (a_PO : Nat) (a_HO : Nat) (a_WA : Nat) (a_GA : Nat) (a_CA : Nat) (a_LW : Nat) (a_WK : Nat) (th : Int32) (tr : Int64) (td : Int32) (nx : Int32) (tk : Int32) (pc : Int32) (vl : Int32) (fa : Int32) (ff : Int32) (bf : Int32) (bm : Int32) (bl : Int32) (ng : Int32) (nc : Int32) (sl : Int32) (nw : Int32) (pe : Int32) (pv : Int32) (pt : Int32) (pu : Int32) (MT : Nat → Int32) : cWi (S := (Nat → Int32)) l G E yX7_day cX7_day 1 (some .int) 8 [(cI, .int), (cZ, .boolean)] [.ref o] [(o, .inr (7, [.int th, .long tr, .ref a_S, .ref a_K, .ref a_IK, .ref a_SV, .ref a_DR, .ref a_TX, .int td, .int nx, .int tk, .int pc, .int vl, .int fa, .int ff, .ref a_WY, .ref a_BE, .int bf, .int bm, .int bl, .ref a_MO, .ref a_DY, .ref a_PO, .ref a_HO, .ref a_WA, .int ng, .ref a_GA, .int nc, .ref a_CA, .int sl, .ref a_MT, .ref a_LW, .int nw, .ref a_WK, .int pe, .int pv, .int pt, .int pu])), (a_S, .inl (cI, 163, .inl (ms zo he go le hd gn la))), (a_MT, .inl (cI, 48, .inl MT))] (fun r _ => r = ((dvM (loM zo he go hd gn ff) 48) - (dvM (loM zo he go hd gn ff) 48) / 100 * 100)) (fun u => [(o, .inr (7, [.int 0, .long tr, .ref a_S, .ref a_K, .ref a_IK, .ref a_SV, .ref a_DR, .ref a_TX, .int td, .int nx, .int tk, .int pc, .int vl, .int fa, .int ff, .ref a_WY, .ref a_BE, .int bf, .int bm, .int bl, .ref a_MO, .ref a_DY, .ref a_PO, .ref a_HO, .ref a_WA, .int ng, .ref a_GA, .int nc, .ref a_CA, .int sl, .ref a_MT, .ref a_LW, .int nw, .ref a_WK, .int pe, .int pv, .int pt, .int pu])), (a_S, .inl (cI, 163, .inl (ms zo he (dyM zo he hd gn ff go) le hd gn la))), (a_MT, .inl (cI, 48, .inl u))]) := by
  refine mkWi (by decide) (Nat.le_of_ble_eq_true rfl) ?_
  intro zp ze s zm args below meth zc hx hb hr hml hown hts hlocks hE hK A hA hlow H locs hP hD hS ls hl
  have hl : lv_has ls 1 [(0, .ref o)] := hl
  refine lv_aload_n hx hb dX7_day_0 rfl (lv_at hl 0 rfl) ?_
  refine lv_iconst (v := 0) hx hb dX7_day_1 (by decide) ?_
  refine va_put (D := G) (ci := 7) (v := .int 0) (ty := .int) (C := RX7) (T := TX7) (N := 38) hx hb hts inlX7 tyX7 tyX7_ok nmX7 hown hK hP hD hS 0 rfl rfl 0 (by decide) (hts (.fieldLink RX7 75 "EarthBanksModel" "thrown" "I") k_7_19) (fun _ h9 => h9) rfl (by decide +kernel) (rfl) (rfl) (Nat.le_of_ble_eq_true rfl) dX7_day_2 (fun H locs hP hD hS => ?_)
  have hP : va_P G vwCl [(o, .inr (7, [.int 0, .long tr, .ref a_S, .ref a_K, .ref a_IK, .ref a_SV, .ref a_DR, .ref a_TX, .int td, .int nx, .int tk, .int pc, .int vl, .int fa, .int ff, .ref a_WY, .ref a_BE, .int bf, .int bm, .int bl, .ref a_MO, .ref a_DY, .ref a_PO, .ref a_HO, .ref a_WA, .int ng, .ref a_GA, .int nc, .ref a_CA, .int sl, .ref a_MT, .ref a_LW, .int nw, .ref a_WK, .int pe, .int pv, .int pt, .int pu])), (a_S, .inl (cI, 163, .inl (ms zo he go le hd gn la))), (a_MT, .inl (cI, 48, .inl MT))] H := hP
  have hD : va_D A [(o, .inr (7, [.int 0, .long tr, .ref a_S, .ref a_K, .ref a_IK, .ref a_SV, .ref a_DR, .ref a_TX, .int td, .int nx, .int tk, .int pc, .int vl, .int fa, .int ff, .ref a_WY, .ref a_BE, .int bf, .int bm, .int bl, .ref a_MO, .ref a_DY, .ref a_PO, .ref a_HO, .ref a_WA, .int ng, .ref a_GA, .int nc, .ref a_CA, .int sl, .ref a_MT, .ref a_LW, .int nw, .ref a_WK, .int pe, .int pv, .int pt, .int pu])), (a_S, .inl (cI, 163, .inl (ms zo he go le hd gn la))), (a_MT, .inl (cI, 48, .inl MT))] := hD
  refine lv_aload_n hx hb dX7_day_5 rfl (lv_at hl 0 rfl) ?_
  refine cWVi (As := []) (rest := []) hx hb hml hown hts (c_X7_days l G E cI cZ zo he go le hd gn la o a_S a_MT ff [.int 0, .long tr, .ref a_S, .ref a_K, .ref a_IK, .ref a_SV, .ref a_DR, .ref a_TX, .int td, .int nx, .int tk, .int pc, .int vl, .int fa, .int ff, .ref a_WY, .ref a_BE, .int bf, .int bm, .int bl, .ref a_MO, .ref a_DY, .ref a_PO, .ref a_HO, .ref a_WA, .int ng, .ref a_GA, .int nc, .ref a_CA, .int sl, .ref a_MT, .ref a_LW, .int nw, .ref a_WK, .int pe, .int pv, .int pt, .int pu] rfl rfl rfl MT) k_29_4 cal_X7_days ⟨Nat.le_of_ble_eq_true rfl, Nat.le_of_ble_eq_true rfl⟩ hE hA hlow hD hS hK [0, 1] rfl hP [0, 1, 2] rfl (by decide) [o, a_S, a_MT] rfl (fun _ => rfl) [] [] (fun u => [(o, .inr (7, [.int 0, .long tr, .ref a_S, .ref a_K, .ref a_IK, .ref a_SV, .ref a_DR, .ref a_TX, .int td, .int nx, .int tk, .int pc, .int vl, .int fa, .int ff, .ref a_WY, .ref a_BE, .int bf, .int bm, .int bl, .ref a_MO, .ref a_DY, .ref a_PO, .ref a_HO, .ref a_WA, .int ng, .ref a_GA, .int nc, .ref a_CA, .int sl, .ref a_MT, .ref a_LW, .int nw, .ref a_WK, .int pe, .int pv, .int pt, .int pu])), (a_S, .inl (cI, 163, .inl (ms zo he (dyM zo he hd gn ff go) le hd gn la))), (a_MT, .inl (cI, 48, .inl u))]) 3 rfl (fun _ => rfl) (fun _ => rfl) (fun _ => rfl) (by decide) (by decide) 0 7 rfl rfl rfl hl.1 rfl (Nat.le_of_ble_eq_true rfl) dX7_day_6 ⟨Nat.zero_le _, Nat.zero_le _⟩ (fun r_ u H locs hr_ hP hD hS => ?_)
  obtain ⟨m2_1, rfl⟩ : ∃ z, z = u := ⟨_, rfl⟩
  subst hr_
  have hP : va_P G vwCl [(o, .inr (7, [.int 0, .long tr, .ref a_S, .ref a_K, .ref a_IK, .ref a_SV, .ref a_DR, .ref a_TX, .int td, .int nx, .int tk, .int pc, .int vl, .int fa, .int ff, .ref a_WY, .ref a_BE, .int bf, .int bm, .int bl, .ref a_MO, .ref a_DY, .ref a_PO, .ref a_HO, .ref a_WA, .int ng, .ref a_GA, .int nc, .ref a_CA, .int sl, .ref a_MT, .ref a_LW, .int nw, .ref a_WK, .int pe, .int pv, .int pt, .int pu])), (a_S, .inl (cI, 163, .inl (ms zo he (dyM zo he hd gn ff go) le hd gn la))), (a_MT, .inl (cI, 48, .inl m2_1))] H := hP
  have hD : va_D A [(o, .inr (7, [.int 0, .long tr, .ref a_S, .ref a_K, .ref a_IK, .ref a_SV, .ref a_DR, .ref a_TX, .int td, .int nx, .int tk, .int pc, .int vl, .int fa, .int ff, .ref a_WY, .ref a_BE, .int bf, .int bm, .int bl, .ref a_MO, .ref a_DY, .ref a_PO, .ref a_HO, .ref a_WA, .int ng, .ref a_GA, .int nc, .ref a_CA, .int sl, .ref a_MT, .ref a_LW, .int nw, .ref a_WK, .int pe, .int pv, .int pt, .int pu])), (a_S, .inl (cI, 163, .inl (ms zo he (dyM zo he hd gn ff go) le hd gn la))), (a_MT, .inl (cI, 48, .inl m2_1))] := hD
  refine lv_bipush (v := 100) hx hb dX7_day_9 (by decide) ?_
  refine lv_irem hx hb dX7_day_11 (by decide) ?_
  exact retWi (m2_1) hx hb hr (rfl) hlocks dX7_day_12 hS (rfl) hP
theorem cal_X7_saves : calV yX7_saves cX7_saves 3 none 1 := ⟨k_30_8, k_1_5, k_30_6, k_30_7, by decide +kernel⟩
set_option maxHeartbeats 4000000 in
set_option maxRecDepth 100000 in
theorem c_X7_saves (l : Launch) (G : va_G) (E : EvT) (cI cZ : ClassId) (qb : Bool) (o : Nat) (a_S : Nat) (a_SV : Nat) (fs_o : List Value) (h_o_SV : fs_o[5]? = some (.ref a_SV)) (h_o_S : fs_o[2]? = some (.ref a_S)) (S : Nat → Int32) (SV : Nat → Int32) : cWv (S := Unit) l G E yX7_saves cX7_saves 3 none 1 [(cI, .int), (cZ, .boolean)] [.ref o, .int (bI qb)] [(o, .inr (7, fs_o)), (a_S, .inl (cI, 163, .inl S)), (a_SV, .inl (cI, 163, .inl SV))] (fun _ => True) (fun _ => [(o, .inr (7, fs_o)), (a_S, .inl (cI, 163, .inl (if qb then SV else S))), (a_SV, .inl (cI, 163, .inl (if qb then SV else S)))]) := by
  refine mkWv (by decide) (Nat.le_of_ble_eq_true rfl) ?_
  intro zp ze s zm args below meth zc hx hb hr hml hown hts hlocks hE hK A hA hlow H locs hP hD hS ls hl
  have hl : lv_has ls 3 [(0, .ref o), (1, .int (bI qb))] := hl
  refine lv_iconst (v := 0) hx hb dX7_saves_0 (by decide) ?_
  refine lv_istore_n (lv' := [(2, .int 0), (0, .ref o), (1, .int (bI qb))]) hx hb dX7_saves_1 rfl hl (by decide) rfl (fun ls hl => ?_)
  suffices lp2 : ∀ zn k2 : Nat, 0 ≤ k2 → k2 ≤ 163 → 163 < k2 + zn → ∀ (H : Heap) (locs : List Loc), va_P G vwCl [(o, .inr (7, fs_o)), (a_S, .inl (cI, 163, .inl (if qb then filS SV S k2 else S))), (a_SV, .inl (cI, 163, .inl (if qb then SV else filS S SV k2)))] H → va_D A [(o, .inr (7, fs_o)), (a_S, .inl (cI, 163, .inl (if qb then filS SV S k2 else S))), (a_SV, .inl (cI, 163, .inl (if qb then SV else filS S SV k2)))] → va_S A s.heap H locs → ∀ ls : Array Slot, lv_has ls 3 [(0, .ref o), (1, .int (bI qb)), (2, .int (nI k2))] → W zp l ze (rmK 1) s zm args below meth zc H locs 0 0 (MQ below (va_Qv (S := Unit) (fun _ => True) (fun u t => va_P G vwCl ((fun _ => [(o, .inr (7, fs_o)), (a_S, .inl (cI, 163, .inl (if qb then SV else S))), (a_SV, .inl (cI, 163, .inl (if qb then SV else S)))]) u) t.heap) A) args s 0 0 A) (F0 zm 2 ls []) by
    have el_1 : (0 : Int32) = nI 0 := rfl
    have er_2 : S = (if qb then filS SV S 0 else S) := by simp [filS_0]
    have er_3 : SV = (if qb then SV else filS S SV 0) := by simp [filS_0]
    exact lp2 (163 + 1 - 0) 0 (by omega) (by omega) (by omega)  H locs (by rw [← er_2, ← er_3]; exact hP) (by rw [← er_2, ← er_3]; exact hD) hS ls (lv_sub hl [1, 2, 0] (show ([(0, .ref o), (1, .int (bI qb)), (2, .int 0)] : List (Nat × Value)) = [(0, .ref o), (1, .int (bI qb)), (2, .int (nI 0))] by rw [← el_1]))
  intro zn
  induction zn with
  | zero => exact fun k2 h1 h2 h3 => absurd h3 (by omega)
  | succ zn ih2 =>
    intro k2 hlo2 hhi2 hn2  H locs hP hD hS ls hl
    refine lv_iload_n hx hb dX7_saves_2 rfl (lv_at hl 2 rfl) ?_
    refine lv_sipush (v := 163) hx hb dX7_saves_3 (by decide) ?_
    refine lv_icmp_ge (tgt := 46) hx hb dX7_saves_6 (by decide) (fun c_4 => ?_) (fun c_4 => ?_)
    · skip
      have c_4 : 163 ≤ k2 := (nI_leI (a := 163) (b := k2) (by omega) (by omega)).mp c_4
      have hk9 : 163 = k2 := by omega
      subst hk9
      have hP := P_swap hP 1 (if qb then SV else S) rfl (fun k h9 => by cases qb <;> simp [filS_in h9])
      have hP : va_P G vwCl [(o, .inr (7, fs_o)), (a_S, .inl (cI, 163, .inl (if qb then SV else S))), (a_SV, .inl (cI, 163, .inl (if qb then SV else filS S SV 163)))] H := hP
      have hP := P_swap hP 2 (if qb then SV else S) rfl (fun k h9 => by cases qb <;> simp [filS_in h9])
      have hP : va_P G vwCl [(o, .inr (7, fs_o)), (a_S, .inl (cI, 163, .inl (if qb then SV else S))), (a_SV, .inl (cI, 163, .inl (if qb then SV else S)))] H := hP
      exact retWv () hx hb hr hlocks dX7_saves_46 hS (trivial) hP
    · skip
      have c_4 : ¬ 163 ≤ k2 := fun h9 => c_4 ((nI_leI (a := 163) (b := k2) (by omega) (by omega)).mpr h9)
      refine lv_iload_n hx hb dX7_saves_9 rfl (lv_at hl 1 rfl) ?_
      refine lv_if_eq (tgt := 28) hx hb dX7_saves_10 (by decide) (fun c_5 => ?_) (fun c_5 => ?_)
      · skip
        have c_5 : qb = false := bI_f c_5
        refine lv_aload_n hx hb dX7_saves_28 rfl (lv_at hl 0 rfl) ?_
        refine va_get (D := G) (ci := 7) (v := .ref a_SV) (C := RX7) (T := TX7) (N := 38) hx hb hts inlX7 hown hK hP 0 rfl rfl 5 (by decide) (hts (.fieldLink RX7 20 "EarthBanksModel" "saved" "[I") k_6_6) (fun _ h9 => h9) h_o_SV dX7_saves_29 ?_
        refine lv_iload_n hx hb dX7_saves_32 rfl (lv_at hl 2 rfl) ?_
        refine lv_aload_n hx hb dX7_saves_33 rfl (lv_at hl 0 rfl) ?_
        refine va_get (D := G) (ci := 7) (v := .ref a_S) (C := RX7) (T := TX7) (N := 38) hx hb hts inlX7 hown hK hP 0 rfl rfl 2 (by decide) (hts (.fieldLink RX7 7 "EarthBanksModel" "s" "[I") k_6_2) (fun _ h9 => h9) h_o_S dX7_saves_34 ?_
        refine lv_iload_n hx hb dX7_saves_37 rfl (lv_at hl 2 rfl) ?_
        refine ialdN (j := k2) hx hb hK hP 1 0 rfl rfl (by omega) (by decide) dX7_saves_38 ?_
        refine top_eq (y := (S k2)) (by simp [c_5]) ?_
        refine iastN (j := k2) hx hb hK hP hD hS 2 0 rfl rfl (by omega) (by decide) dX7_saves_39 (fun H locs hP hD hS => ?_)
        have hP : va_P G vwCl [(o, .inr (7, fs_o)), (a_S, .inl (cI, 163, .inl (if qb then filS SV S k2 else S))), (a_SV, .inl (cI, 163, .inl (upd (if qb then SV else filS S SV k2) k2 (S k2))))] H := hP
        have hD : va_D A [(o, .inr (7, fs_o)), (a_S, .inl (cI, 163, .inl (if qb then filS SV S k2 else S))), (a_SV, .inl (cI, 163, .inl (upd (if qb then SV else filS S SV k2) k2 (S k2))))] := hD
        refine lv_iinc (v := nI (k2 + 1)) (lv' := [(2, .int (nI (k2 + 1))), (0, .ref o), (1, .int (bI qb))]) hx hb dX7_saves_40 hl (k := 2) rfl (nI_add _ _) (by decide) rfl (fun ls hl => ?_)
        refine lv_goto (tgt := 2) hx hb dX7_saves_43 (by decide) ?_
        have er_6 : (if qb then filS SV S k2 else S) = (if qb then filS SV S (k2 + 1) else S) := by simp [c_5, filS_s]
        have er_7 : (upd (if qb then SV else filS S SV k2) k2 (S k2)) = (if qb then SV else filS S SV (k2 + 1)) := by simp [c_5, filS_s]
        exact ih2 (k2 + 1) (by omega) (by omega) (by omega)  H locs (by rw [← er_6, ← er_7]; exact hP) (by rw [← er_6, ← er_7]; exact hD) hS ls (lv_sub hl [1, 2, 0] rfl)
      · skip
        have c_5 : qb = true := bI_t c_5
        refine lv_aload_n hx hb dX7_saves_13 rfl (lv_at hl 0 rfl) ?_
        refine va_get (D := G) (ci := 7) (v := .ref a_S) (C := RX7) (T := TX7) (N := 38) hx hb hts inlX7 hown hK hP 0 rfl rfl 2 (by decide) (hts (.fieldLink RX7 7 "EarthBanksModel" "s" "[I") k_6_2) (fun _ h9 => h9) h_o_S dX7_saves_14 ?_
        refine lv_iload_n hx hb dX7_saves_17 rfl (lv_at hl 2 rfl) ?_
        refine lv_aload_n hx hb dX7_saves_18 rfl (lv_at hl 0 rfl) ?_
        refine va_get (D := G) (ci := 7) (v := .ref a_SV) (C := RX7) (T := TX7) (N := 38) hx hb hts inlX7 hown hK hP 0 rfl rfl 5 (by decide) (hts (.fieldLink RX7 20 "EarthBanksModel" "saved" "[I") k_6_6) (fun _ h9 => h9) h_o_SV dX7_saves_19 ?_
        refine lv_iload_n hx hb dX7_saves_22 rfl (lv_at hl 2 rfl) ?_
        refine ialdN (j := k2) hx hb hK hP 2 0 rfl rfl (by omega) (by decide) dX7_saves_23 ?_
        refine top_eq (y := (SV k2)) (by simp [c_5]) ?_
        refine iastN (j := k2) hx hb hK hP hD hS 1 0 rfl rfl (by omega) (by decide) dX7_saves_24 (fun H locs hP hD hS => ?_)
        have hP : va_P G vwCl [(o, .inr (7, fs_o)), (a_S, .inl (cI, 163, .inl (upd (if qb then filS SV S k2 else S) k2 (SV k2)))), (a_SV, .inl (cI, 163, .inl (if qb then SV else filS S SV k2)))] H := hP
        have hD : va_D A [(o, .inr (7, fs_o)), (a_S, .inl (cI, 163, .inl (upd (if qb then filS SV S k2 else S) k2 (SV k2)))), (a_SV, .inl (cI, 163, .inl (if qb then SV else filS S SV k2)))] := hD
        refine lv_goto (tgt := 40) hx hb dX7_saves_25 (by decide) ?_
        refine lv_iinc (v := nI (k2 + 1)) (lv' := [(2, .int (nI (k2 + 1))), (0, .ref o), (1, .int (bI qb))]) hx hb dX7_saves_40 hl (k := 2) rfl (nI_add _ _) (by decide) rfl (fun ls hl => ?_)
        refine lv_goto (tgt := 2) hx hb dX7_saves_43 (by decide) ?_
        have er_8 : (upd (if qb then filS SV S k2 else S) k2 (SV k2)) = (if qb then filS SV S (k2 + 1) else S) := by simp [c_5, filS_s]
        have er_9 : (if qb then SV else filS S SV k2) = (if qb then SV else filS S SV (k2 + 1)) := by simp [c_5, filS_s]
        exact ih2 (k2 + 1) (by omega) (by omega) (by omega)  H locs (by rw [← er_8, ← er_9]; exact hP) (by rw [← er_8, ← er_9]; exact hD) hS ls (lv_sub hl [1, 2, 0] rfl)
