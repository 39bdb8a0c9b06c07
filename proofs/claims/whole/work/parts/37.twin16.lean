def wdM (TX : Nat → Int32) (tk : Int32) (pl nx : Nat) (a b c d : Int32) : Bool := decide (tk = 1) && (decide (nx - pl = if d = 0 then 3 else 4) && (decide (TX pl = a) && (decide (TX (pl + 1) = b) && (decide (TX (pl + 2) = c) && (decide (d = 0) || decide (TX (pl + 3) = d))))))
theorem cal_X7_isWord : calV yX7_isWord cX7_isWord 6 (some .boolean) 4 := ⟨k_15_4, k_1_5, k_15_2, k_15_3, by decide +kernel⟩
set_option maxHeartbeats 4000000 in
set_option maxRecDepth 100000 in
theorem c_X7_isWord (l : Launch) (G : va_G) (E : EvT) (cI cZ : ClassId) (nx : Nat) (pl : Nat) (a : Int32) (b : Int32) (c : Int32) (d : Int32) (o : Nat) (a_TX : Nat) (tk : Int32) (fs_o : List Value) (h_o_tk : fs_o[10]? = some (.int tk)) (h_o_nx : fs_o[9]? = some (.int (nI nx))) (h_o_pc : fs_o[11]? = some (.int (nI pl))) (h_o_TX : fs_o[7]? = some (.ref a_TX)) (TX : Nat → Int32) (hpn : pl ≤ nx) (hn4 : nx ≤ 400) : cR l G E yX7_isWord cX7_isWord 6 (some .boolean) 1 [(cI, .int), (cZ, .boolean)] [.ref o, .int a, .int b, .int c, .int d] [(o, .inr (7, fs_o)), (a_TX, .inl (cI, 400, .inl TX))] (bI (wdM TX tk pl nx a b c d)) := by
  refine mkR (by decide) (Nat.le_of_ble_eq_true rfl) ?_
  intro zp ze s zm args below meth zc hx hb hr hml hown hts hlocks hE hP hK ls hl
  have hS : va_S (fun _ => False) s.heap s.heap [] := va_S.rf
  have hlow : ∀ q : Nat, (fun _ : Nat => False) q → E.1 ≤ q := fun _ h => h.elim
  have hl : lv_has ls 6 [(0, .ref o), (1, .int a), (2, .int b), (3, .int c), (4, .int d)] := hl
  refine lv_iload hx hb dX7_isWord_0 (lv_at hl 4 rfl) ?_
  refine lv_if_ne (tgt := 9) hx hb dX7_isWord_2 (by decide) (fun c_1 => ?_) (fun c_1 => ?_)
  · skip
    refine lv_iconst (v := 4) hx hb dX7_isWord_9 (by decide) ?_
    refine lv_istore (lv' := [(5, .int 4), (0, .ref o), (1, .int a), (2, .int b), (3, .int c), (4, .int d)]) hx hb dX7_isWord_10 hl (by decide) rfl (fun ls hl => ?_)
    refine lv_aload_n hx hb dX7_isWord_12 rfl (lv_at hl 1 rfl) ?_
    refine va_get (D := G) (ci := 7) (v := .int tk) (C := RX7) (T := TX7) (N := 38) hx hb hts inlX7 hown hK hP 0 rfl rfl 10 (by decide) (hts (.fieldLink RX7 104 "EarthBanksModel" "token" "I") k_14_7) (fun _ h9 => h9) h_o_tk dX7_isWord_13 ?_
    refine lv_iconst (v := 1) hx hb dX7_isWord_16 (by decide) ?_
    refine lv_icmp_ne (tgt := 102) hx hb dX7_isWord_17 (by decide) (fun c_2 => ?_) (fun c_2 => ?_)
    · skip
      refine lv_iconst (v := 0) hx hb dX7_isWord_102 (by decide) ?_
      exact retR hx hb hr (rfl) hlocks dX7_isWord_103 (by simp [wdM, bI, c_1, c_2])
    · skip
      refine lv_aload_n hx hb dX7_isWord_20 rfl (lv_at hl 1 rfl) ?_
      refine va_get (D := G) (ci := 7) (v := .int (nI nx)) (C := RX7) (T := TX7) (N := 38) hx hb hts inlX7 hown hK hP 0 rfl rfl 9 (by decide) (hts (.fieldLink RX7 95 "EarthBanksModel" "next" "I") k_14_6) (fun _ h9 => h9) h_o_nx dX7_isWord_21 ?_
      refine lv_aload_n hx hb dX7_isWord_24 rfl (lv_at hl 1 rfl) ?_
      refine va_get (D := G) (ci := 7) (v := .int (nI pl)) (C := RX7) (T := TX7) (N := 38) hx hb hts inlX7 hown hK hP 0 rfl rfl 11 (by decide) (hts (.fieldLink RX7 101 "EarthBanksModel" "place" "I") k_14_12) (fun _ h9 => h9) h_o_pc dX7_isWord_25 ?_
      refine lv_isub hx hb dX7_isWord_28 ?_
      refine top_eq (y := nI (nx - pl)) (pk_sub (a := nx) (b := pl) (by omega)) ?_
      refine lv_iload hx hb dX7_isWord_29 (lv_at hl 0 rfl) ?_
      refine lv_icmp_ne (tgt := 102) hx hb dX7_isWord_31 (by decide) (fun c_3 => ?_) (fun c_3 => ?_)
      · skip
        have c_3 : ¬ (nx - pl) = 4 := fun h9 => c_3 ((nI_eq (a := (nx - pl)) (b := 4) (by omega) (by omega)).mpr h9)
        refine lv_iconst (v := 0) hx hb dX7_isWord_102 (by decide) ?_
        exact retR hx hb hr (rfl) hlocks dX7_isWord_103 (by simp [wdM, bI, c_1, eq_true c_2, c_3])
      · skip
        have c_3 : (nx - pl) = 4 := (nI_eq (a := (nx - pl)) (b := 4) (by omega) (by omega)).mp c_3
        refine lv_aload_n hx hb dX7_isWord_34 rfl (lv_at hl 1 rfl) ?_
        refine va_get (D := G) (ci := 7) (v := .ref a_TX) (C := RX7) (T := TX7) (N := 38) hx hb hts inlX7 hown hK hP 0 rfl rfl 7 (by decide) (hts (.fieldLink RX7 26 "EarthBanksModel" "text" "[I") k_6_8) (fun _ h9 => h9) h_o_TX dX7_isWord_35 ?_
        refine lv_aload_n hx hb dX7_isWord_38 rfl (lv_at hl 1 rfl) ?_
        refine va_get (D := G) (ci := 7) (v := .int (nI pl)) (C := RX7) (T := TX7) (N := 38) hx hb hts inlX7 hown hK hP 0 rfl rfl 11 (by decide) (hts (.fieldLink RX7 101 "EarthBanksModel" "place" "I") k_14_12) (fun _ h9 => h9) h_o_pc dX7_isWord_39 ?_
        refine ialdN (j := pl) hx hb hK hP 1 0 rfl rfl (by omega) (by decide) dX7_isWord_42 ?_
        refine lv_iload_n hx hb dX7_isWord_43 rfl (lv_at hl 2 rfl) ?_
        refine lv_icmp_ne (tgt := 102) hx hb dX7_isWord_44 (by decide) (fun c_4 => ?_) (fun c_4 => ?_)
        · skip
          refine lv_iconst (v := 0) hx hb dX7_isWord_102 (by decide) ?_
          exact retR hx hb hr (rfl) hlocks dX7_isWord_103 (by simp [wdM, bI, c_1, eq_true c_2, eq_true c_3, c_4])
        · skip
          refine lv_aload_n hx hb dX7_isWord_47 rfl (lv_at hl 1 rfl) ?_
          refine va_get (D := G) (ci := 7) (v := .ref a_TX) (C := RX7) (T := TX7) (N := 38) hx hb hts inlX7 hown hK hP 0 rfl rfl 7 (by decide) (hts (.fieldLink RX7 26 "EarthBanksModel" "text" "[I") k_6_8) (fun _ h9 => h9) h_o_TX dX7_isWord_48 ?_
          refine lv_aload_n hx hb dX7_isWord_51 rfl (lv_at hl 1 rfl) ?_
          refine va_get (D := G) (ci := 7) (v := .int (nI pl)) (C := RX7) (T := TX7) (N := 38) hx hb hts inlX7 hown hK hP 0 rfl rfl 11 (by decide) (hts (.fieldLink RX7 101 "EarthBanksModel" "place" "I") k_14_12) (fun _ h9 => h9) h_o_pc dX7_isWord_52 ?_
          refine lv_iconst (v := 1) hx hb dX7_isWord_55 (by decide) ?_
          refine lv_iadd hx hb dX7_isWord_56 ?_
          refine top_eq (y := nI (pl + 1)) (nI_add _ _) ?_
          refine ialdN (j := (pl + 1)) hx hb hK hP 1 0 rfl rfl (by omega) (by decide) dX7_isWord_57 ?_
          refine lv_iload_n hx hb dX7_isWord_58 rfl (lv_at hl 3 rfl) ?_
          refine lv_icmp_ne (tgt := 102) hx hb dX7_isWord_59 (by decide) (fun c_5 => ?_) (fun c_5 => ?_)
          · skip
            refine lv_iconst (v := 0) hx hb dX7_isWord_102 (by decide) ?_
            exact retR hx hb hr (rfl) hlocks dX7_isWord_103 (by simp [wdM, bI, c_1, eq_true c_2, eq_true c_3, eq_true c_4, c_5])
          · skip
            refine lv_aload_n hx hb dX7_isWord_62 rfl (lv_at hl 1 rfl) ?_
            refine va_get (D := G) (ci := 7) (v := .ref a_TX) (C := RX7) (T := TX7) (N := 38) hx hb hts inlX7 hown hK hP 0 rfl rfl 7 (by decide) (hts (.fieldLink RX7 26 "EarthBanksModel" "text" "[I") k_6_8) (fun _ h9 => h9) h_o_TX dX7_isWord_63 ?_
            refine lv_aload_n hx hb dX7_isWord_66 rfl (lv_at hl 1 rfl) ?_
            refine va_get (D := G) (ci := 7) (v := .int (nI pl)) (C := RX7) (T := TX7) (N := 38) hx hb hts inlX7 hown hK hP 0 rfl rfl 11 (by decide) (hts (.fieldLink RX7 101 "EarthBanksModel" "place" "I") k_14_12) (fun _ h9 => h9) h_o_pc dX7_isWord_67 ?_
            refine lv_iconst (v := 2) hx hb dX7_isWord_70 (by decide) ?_
            refine lv_iadd hx hb dX7_isWord_71 ?_
            refine top_eq (y := nI (pl + 2)) (nI_add _ _) ?_
            refine ialdN (j := (pl + 2)) hx hb hK hP 1 0 rfl rfl (by omega) (by decide) dX7_isWord_72 ?_
            refine lv_iload_n hx hb dX7_isWord_73 rfl (lv_at hl 4 rfl) ?_
            refine lv_icmp_ne (tgt := 102) hx hb dX7_isWord_74 (by decide) (fun c_6 => ?_) (fun c_6 => ?_)
            · skip
              refine lv_iconst (v := 0) hx hb dX7_isWord_102 (by decide) ?_
              exact retR hx hb hr (rfl) hlocks dX7_isWord_103 (by simp [wdM, bI, c_1, eq_true c_2, eq_true c_3, eq_true c_4, eq_true c_5, c_6])
            · skip
              refine lv_iload hx hb dX7_isWord_77 (lv_at hl 5 rfl) ?_
              refine lv_if_eq (tgt := 98) hx hb dX7_isWord_79 (by decide) (fun c_7 => ?_) (fun c_7 => ?_)
              · skip
                exact absurd c_7 c_1
              · skip
                refine lv_aload_n hx hb dX7_isWord_82 rfl (lv_at hl 1 rfl) ?_
                refine va_get (D := G) (ci := 7) (v := .ref a_TX) (C := RX7) (T := TX7) (N := 38) hx hb hts inlX7 hown hK hP 0 rfl rfl 7 (by decide) (hts (.fieldLink RX7 26 "EarthBanksModel" "text" "[I") k_6_8) (fun _ h9 => h9) h_o_TX dX7_isWord_83 ?_
                refine lv_aload_n hx hb dX7_isWord_86 rfl (lv_at hl 1 rfl) ?_
                refine va_get (D := G) (ci := 7) (v := .int (nI pl)) (C := RX7) (T := TX7) (N := 38) hx hb hts inlX7 hown hK hP 0 rfl rfl 11 (by decide) (hts (.fieldLink RX7 101 "EarthBanksModel" "place" "I") k_14_12) (fun _ h9 => h9) h_o_pc dX7_isWord_87 ?_
                refine lv_iconst (v := 3) hx hb dX7_isWord_90 (by decide) ?_
                refine lv_iadd hx hb dX7_isWord_91 ?_
                refine top_eq (y := nI (pl + 3)) (nI_add _ _) ?_
                refine ialdN (j := (pl + 3)) hx hb hK hP 1 0 rfl rfl (by omega) (by decide) dX7_isWord_92 ?_
                refine lv_iload hx hb dX7_isWord_93 (lv_at hl 5 rfl) ?_
                refine lv_icmp_ne (tgt := 102) hx hb dX7_isWord_95 (by decide) (fun c_8 => ?_) (fun c_8 => ?_)
                · skip
                  refine lv_iconst (v := 0) hx hb dX7_isWord_102 (by decide) ?_
                  exact retR hx hb hr (rfl) hlocks dX7_isWord_103 (by simp [wdM, bI, c_1, eq_true c_2, eq_true c_3, eq_true c_4, eq_true c_5, eq_true c_6, c_7, c_8])
                · skip
                  refine lv_iconst (v := 1) hx hb dX7_isWord_98 (by decide) ?_
                  refine lv_goto (tgt := 103) hx hb dX7_isWord_99 (by decide) ?_
                  exact retR hx hb hr (rfl) hlocks dX7_isWord_103 (by simp [wdM, bI, c_1, eq_true c_2, eq_true c_3, eq_true c_4, eq_true c_5, eq_true c_6, c_7, eq_true c_8])
  · skip
    refine lv_iconst (v := 3) hx hb dX7_isWord_5 (by decide) ?_
    refine lv_goto (tgt := 10) hx hb dX7_isWord_6 (by decide) ?_
    refine lv_istore (lv' := [(5, .int 3), (0, .ref o), (1, .int a), (2, .int b), (3, .int c), (4, .int d)]) hx hb dX7_isWord_10 hl (by decide) rfl (fun ls hl => ?_)
    refine lv_aload_n hx hb dX7_isWord_12 rfl (lv_at hl 1 rfl) ?_
    refine va_get (D := G) (ci := 7) (v := .int tk) (C := RX7) (T := TX7) (N := 38) hx hb hts inlX7 hown hK hP 0 rfl rfl 10 (by decide) (hts (.fieldLink RX7 104 "EarthBanksModel" "token" "I") k_14_7) (fun _ h9 => h9) h_o_tk dX7_isWord_13 ?_
    refine lv_iconst (v := 1) hx hb dX7_isWord_16 (by decide) ?_
    refine lv_icmp_ne (tgt := 102) hx hb dX7_isWord_17 (by decide) (fun c_9 => ?_) (fun c_9 => ?_)
    · skip
      refine lv_iconst (v := 0) hx hb dX7_isWord_102 (by decide) ?_
      exact retR hx hb hr (rfl) hlocks dX7_isWord_103 (by simp [wdM, bI, eq_true c_1, c_9])
    · skip
      refine lv_aload_n hx hb dX7_isWord_20 rfl (lv_at hl 1 rfl) ?_
      refine va_get (D := G) (ci := 7) (v := .int (nI nx)) (C := RX7) (T := TX7) (N := 38) hx hb hts inlX7 hown hK hP 0 rfl rfl 9 (by decide) (hts (.fieldLink RX7 95 "EarthBanksModel" "next" "I") k_14_6) (fun _ h9 => h9) h_o_nx dX7_isWord_21 ?_
      refine lv_aload_n hx hb dX7_isWord_24 rfl (lv_at hl 1 rfl) ?_
      refine va_get (D := G) (ci := 7) (v := .int (nI pl)) (C := RX7) (T := TX7) (N := 38) hx hb hts inlX7 hown hK hP 0 rfl rfl 11 (by decide) (hts (.fieldLink RX7 101 "EarthBanksModel" "place" "I") k_14_12) (fun _ h9 => h9) h_o_pc dX7_isWord_25 ?_
      refine lv_isub hx hb dX7_isWord_28 ?_
      refine top_eq (y := nI (nx - pl)) (pk_sub (a := nx) (b := pl) (by omega)) ?_
      refine lv_iload hx hb dX7_isWord_29 (lv_at hl 0 rfl) ?_
      refine lv_icmp_ne (tgt := 102) hx hb dX7_isWord_31 (by decide) (fun c_10 => ?_) (fun c_10 => ?_)
      · skip
        have c_10 : ¬ (nx - pl) = 3 := fun h9 => c_10 ((nI_eq (a := (nx - pl)) (b := 3) (by omega) (by omega)).mpr h9)
        refine lv_iconst (v := 0) hx hb dX7_isWord_102 (by decide) ?_
        exact retR hx hb hr (rfl) hlocks dX7_isWord_103 (by simp [wdM, bI, eq_true c_1, eq_true c_9, c_10])
      · skip
        have c_10 : (nx - pl) = 3 := (nI_eq (a := (nx - pl)) (b := 3) (by omega) (by omega)).mp c_10
        refine lv_aload_n hx hb dX7_isWord_34 rfl (lv_at hl 1 rfl) ?_
        refine va_get (D := G) (ci := 7) (v := .ref a_TX) (C := RX7) (T := TX7) (N := 38) hx hb hts inlX7 hown hK hP 0 rfl rfl 7 (by decide) (hts (.fieldLink RX7 26 "EarthBanksModel" "text" "[I") k_6_8) (fun _ h9 => h9) h_o_TX dX7_isWord_35 ?_
        refine lv_aload_n hx hb dX7_isWord_38 rfl (lv_at hl 1 rfl) ?_
        refine va_get (D := G) (ci := 7) (v := .int (nI pl)) (C := RX7) (T := TX7) (N := 38) hx hb hts inlX7 hown hK hP 0 rfl rfl 11 (by decide) (hts (.fieldLink RX7 101 "EarthBanksModel" "place" "I") k_14_12) (fun _ h9 => h9) h_o_pc dX7_isWord_39 ?_
        refine ialdN (j := pl) hx hb hK hP 1 0 rfl rfl (by omega) (by decide) dX7_isWord_42 ?_
        refine lv_iload_n hx hb dX7_isWord_43 rfl (lv_at hl 2 rfl) ?_
        refine lv_icmp_ne (tgt := 102) hx hb dX7_isWord_44 (by decide) (fun c_11 => ?_) (fun c_11 => ?_)
        · skip
          refine lv_iconst (v := 0) hx hb dX7_isWord_102 (by decide) ?_
          exact retR hx hb hr (rfl) hlocks dX7_isWord_103 (by simp [wdM, bI, eq_true c_1, eq_true c_9, eq_true c_10, c_11])
        · skip
          refine lv_aload_n hx hb dX7_isWord_47 rfl (lv_at hl 1 rfl) ?_
          refine va_get (D := G) (ci := 7) (v := .ref a_TX) (C := RX7) (T := TX7) (N := 38) hx hb hts inlX7 hown hK hP 0 rfl rfl 7 (by decide) (hts (.fieldLink RX7 26 "EarthBanksModel" "text" "[I") k_6_8) (fun _ h9 => h9) h_o_TX dX7_isWord_48 ?_
          refine lv_aload_n hx hb dX7_isWord_51 rfl (lv_at hl 1 rfl) ?_
          refine va_get (D := G) (ci := 7) (v := .int (nI pl)) (C := RX7) (T := TX7) (N := 38) hx hb hts inlX7 hown hK hP 0 rfl rfl 11 (by decide) (hts (.fieldLink RX7 101 "EarthBanksModel" "place" "I") k_14_12) (fun _ h9 => h9) h_o_pc dX7_isWord_52 ?_
          refine lv_iconst (v := 1) hx hb dX7_isWord_55 (by decide) ?_
          refine lv_iadd hx hb dX7_isWord_56 ?_
          refine top_eq (y := nI (pl + 1)) (nI_add _ _) ?_
          refine ialdN (j := (pl + 1)) hx hb hK hP 1 0 rfl rfl (by omega) (by decide) dX7_isWord_57 ?_
          refine lv_iload_n hx hb dX7_isWord_58 rfl (lv_at hl 3 rfl) ?_
          refine lv_icmp_ne (tgt := 102) hx hb dX7_isWord_59 (by decide) (fun c_12 => ?_) (fun c_12 => ?_)
          · skip
            refine lv_iconst (v := 0) hx hb dX7_isWord_102 (by decide) ?_
            exact retR hx hb hr (rfl) hlocks dX7_isWord_103 (by simp [wdM, bI, eq_true c_1, eq_true c_9, eq_true c_10, eq_true c_11, c_12])
          · skip
            refine lv_aload_n hx hb dX7_isWord_62 rfl (lv_at hl 1 rfl) ?_
            refine va_get (D := G) (ci := 7) (v := .ref a_TX) (C := RX7) (T := TX7) (N := 38) hx hb hts inlX7 hown hK hP 0 rfl rfl 7 (by decide) (hts (.fieldLink RX7 26 "EarthBanksModel" "text" "[I") k_6_8) (fun _ h9 => h9) h_o_TX dX7_isWord_63 ?_
            refine lv_aload_n hx hb dX7_isWord_66 rfl (lv_at hl 1 rfl) ?_
            refine va_get (D := G) (ci := 7) (v := .int (nI pl)) (C := RX7) (T := TX7) (N := 38) hx hb hts inlX7 hown hK hP 0 rfl rfl 11 (by decide) (hts (.fieldLink RX7 101 "EarthBanksModel" "place" "I") k_14_12) (fun _ h9 => h9) h_o_pc dX7_isWord_67 ?_
            refine lv_iconst (v := 2) hx hb dX7_isWord_70 (by decide) ?_
            refine lv_iadd hx hb dX7_isWord_71 ?_
            refine top_eq (y := nI (pl + 2)) (nI_add _ _) ?_
            refine ialdN (j := (pl + 2)) hx hb hK hP 1 0 rfl rfl (by omega) (by decide) dX7_isWord_72 ?_
            refine lv_iload_n hx hb dX7_isWord_73 rfl (lv_at hl 4 rfl) ?_
            refine lv_icmp_ne (tgt := 102) hx hb dX7_isWord_74 (by decide) (fun c_13 => ?_) (fun c_13 => ?_)
            · skip
              refine lv_iconst (v := 0) hx hb dX7_isWord_102 (by decide) ?_
              exact retR hx hb hr (rfl) hlocks dX7_isWord_103 (by simp [wdM, bI, eq_true c_1, eq_true c_9, eq_true c_10, eq_true c_11, eq_true c_12, c_13])
            · skip
              refine lv_iload hx hb dX7_isWord_77 (lv_at hl 5 rfl) ?_
              refine lv_if_eq (tgt := 98) hx hb dX7_isWord_79 (by decide) (fun c_14 => ?_) (fun c_14 => ?_)
              · skip
                refine lv_iconst (v := 1) hx hb dX7_isWord_98 (by decide) ?_
                refine lv_goto (tgt := 103) hx hb dX7_isWord_99 (by decide) ?_
                exact retR hx hb hr (rfl) hlocks dX7_isWord_103 (by simp [wdM, bI, eq_true c_1, eq_true c_9, eq_true c_10, eq_true c_11, eq_true c_12, eq_true c_13, eq_true c_14])
              · skip
                exact absurd c_1 c_14
