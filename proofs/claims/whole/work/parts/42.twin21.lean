def tyB (v : Int64) (i : Nat) : Int32 := ((v >>> ((nI (8 * i)).toInt64 &&& 63)) &&& L255).toInt32
def tyD (TX : Nat → Int32) (v : Int64) (n cn : Nat) : Nat → Nat → Int32
  | 0 => TX
  | k + 1 => upd (tyD TX v n cn k) (n + k) (tyB v (cn - 1 - k))
theorem cal_X7_type : calV yX7_type cX7_type 5 (some .int) 2 := ⟨k_7_18, k_1_5, k_7_16, k_7_17, by decide +kernel⟩
set_option maxHeartbeats 4000000 in
set_option maxRecDepth 100000 in
theorem c_X7_type (l : Launch) (G : va_G) (E : EvT) (cI cZ : ClassId) (n : Nat) (v : Int64) (x : Int32) (o : Nat) (a_TX : Nat) (a_S : Nat) (a_K : Nat) (a_IK : Nat) (a_SV : Nat) (a_DR : Nat) (a_WY : Nat) (a_BE : Nat) (a_MO : Nat) (a_DY : Nat) (a_PO : Nat) (a_HO : Nat) (a_WA : Nat) (a_GA : Nat) (a_CA : Nat) (a_MT : Nat) (a_LW : Nat) (a_WK : Nat) (th : Int32) (tr : Int64) (nx : Int32) (tk : Int32) (pc : Int32) (vl : Int32) (fa : Int32) (ff : Int32) (bf : Int32) (bm : Int32) (bl : Int32) (ng : Int32) (nc : Int32) (sl : Int32) (nw : Int32) (pe : Int32) (pv : Int32) (pt : Int32) (pu : Int32) (TX : Nat → Int32) (hn : n ≤ 400) : cWi (S := Unit) l G E yX7_type cX7_type 5 (some .int) 8 [(cI, .int), (cZ, .boolean)] [.ref o, .long v, .int x] [(o, .inr (7, [.int th, .long tr, .ref a_S, .ref a_K, .ref a_IK, .ref a_SV, .ref a_DR, .ref a_TX, .int (nI n), .int nx, .int tk, .int pc, .int vl, .int fa, .int ff, .ref a_WY, .ref a_BE, .int bf, .int bm, .int bl, .ref a_MO, .ref a_DY, .ref a_PO, .ref a_HO, .ref a_WA, .int ng, .ref a_GA, .int nc, .ref a_CA, .int sl, .ref a_MT, .ref a_LW, .int nw, .ref a_WK, .int pe, .int pv, .int pt, .int pu])), (a_TX, .inl (cI, 400, .inl TX))] (fun r _ => r = (if wiB x 1 8 then (if n + x.toNatClampNeg ≤ 400 then nI (n + x.toNatClampNeg) else (-3)) else (-1))) (fun _ => [(o, .inr (7, [.int 0, .long tr, .ref a_S, .ref a_K, .ref a_IK, .ref a_SV, .ref a_DR, .ref a_TX, .int (nI (if wiB x 1 8 then (if n + x.toNatClampNeg ≤ 400 then n + x.toNatClampNeg else n) else n)), .int nx, .int tk, .int pc, .int vl, .int fa, .int ff, .ref a_WY, .ref a_BE, .int bf, .int bm, .int bl, .ref a_MO, .ref a_DY, .ref a_PO, .ref a_HO, .ref a_WA, .int ng, .ref a_GA, .int nc, .ref a_CA, .int sl, .ref a_MT, .ref a_LW, .int nw, .ref a_WK, .int pe, .int pv, .int pt, .int pu])), (a_TX, .inl (cI, 400, .inl (if wiB x 1 8 then (if n + x.toNatClampNeg ≤ 400 then tyD TX v n x.toNatClampNeg x.toNatClampNeg else TX) else TX)))]) := by
  refine mkWi (by decide) (Nat.le_of_ble_eq_true rfl) ?_
  intro zp ze s zm args below meth zc hx hb hr hml hown hts hlocks hE hK A hA hlow H locs hP hD hS ls hl
  have hl : lv_has ls 5 [(0, .ref o), (1, .long v), (3, .int x)] := hl
  refine lv_aload_n hx hb dX7_type_0 rfl (lv_at hl 0 rfl) ?_
  refine lv_iconst (v := 0) hx hb dX7_type_1 (by decide) ?_
  refine va_put (D := G) (ci := 7) (v := .int 0) (ty := .int) (C := RX7) (T := TX7) (N := 38) hx hb hts inlX7 tyX7 tyX7_ok nmX7 hown hK hP hD hS 0 rfl rfl 0 (by decide) (hts (.fieldLink RX7 75 "EarthBanksModel" "thrown" "I") k_7_19) (fun _ h9 => h9) rfl (by decide +kernel) (rfl) (rfl) (Nat.le_of_ble_eq_true rfl) dX7_type_2 (fun H locs hP hD hS => ?_)
  have hP : va_P G vwCl [(o, .inr (7, [.int 0, .long tr, .ref a_S, .ref a_K, .ref a_IK, .ref a_SV, .ref a_DR, .ref a_TX, .int (nI n), .int nx, .int tk, .int pc, .int vl, .int fa, .int ff, .ref a_WY, .ref a_BE, .int bf, .int bm, .int bl, .ref a_MO, .ref a_DY, .ref a_PO, .ref a_HO, .ref a_WA, .int ng, .ref a_GA, .int nc, .ref a_CA, .int sl, .ref a_MT, .ref a_LW, .int nw, .ref a_WK, .int pe, .int pv, .int pt, .int pu])), (a_TX, .inl (cI, 400, .inl TX))] H := hP
  have hD : va_D A [(o, .inr (7, [.int 0, .long tr, .ref a_S, .ref a_K, .ref a_IK, .ref a_SV, .ref a_DR, .ref a_TX, .int (nI n), .int nx, .int tk, .int pc, .int vl, .int fa, .int ff, .ref a_WY, .ref a_BE, .int bf, .int bm, .int bl, .ref a_MO, .ref a_DY, .ref a_PO, .ref a_HO, .ref a_WA, .int ng, .ref a_GA, .int nc, .ref a_CA, .int sl, .ref a_MT, .ref a_LW, .int nw, .ref a_WK, .int pe, .int pv, .int pt, .int pu])), (a_TX, .inl (cI, 400, .inl TX))] := hD
  refine lv_iload_n hx hb dX7_type_5 rfl (lv_at hl 2 rfl) ?_
  refine lv_iconst (v := 1) hx hb dX7_type_6 (by decide) ?_
  refine lv_bipush (v := 8) hx hb dX7_type_7 (by decide) ?_
  refine cRS (As := [.int x, .int 1, .int 8]) (rest := []) hx hb hml hown hts (c_X7_in l G E cI cZ x 1 8) k_7_22 cal_X7_in ⟨Nat.le_of_ble_eq_true rfl, Nat.le_of_ble_eq_true rfl⟩ hE hlow hS hK [0, 1] rfl hP [] rfl rfl hl.1 rfl (Nat.le_of_ble_eq_true rfl) dX7_type_9 ⟨Nat.zero_le _, Nat.zero_le _⟩ ?_
  refine lv_if_ne (tgt := 17) hx hb dX7_type_12 (by decide) (fun c_1 => ?_) (fun c_1 => ?_)
  · skip
    have c_1 : (wiB x 1 8) = true := bI_t c_1
    obtain ⟨cn, hc1, hc8, hcx9, hcx⟩ := wiB_1 (M := 8) (by omega) c_1
    have hl : lv_has ls 5 [(0, .ref o), (1, .long v), (3, .int (nI cn))] := by rw [hcx9] at hl; exact hl
    refine lv_aload_n hx hb dX7_type_17 rfl (lv_at hl 0 rfl) ?_
    refine va_get (D := G) (ci := 7) (v := .int (nI n)) (C := RX7) (T := TX7) (N := 38) hx hb hts inlX7 hown hK hP 0 rfl rfl 8 (by decide) (hts (.fieldLink RX7 90 "EarthBanksModel" "typed" "I") k_7_20) (fun _ h9 => h9) rfl dX7_type_18 ?_
    refine lv_iload_n hx hb dX7_type_21 rfl (lv_at hl 2 rfl) ?_
    refine lv_iadd hx hb dX7_type_22 ?_
    refine top_eq (y := nI (n + cn)) (nI_add _ _) ?_
    refine lv_sipush (v := 400) hx hb dX7_type_23 (by decide) ?_
    refine lv_icmp_le (tgt := 32) hx hb dX7_type_26 (by decide) (fun c_2 => ?_) (fun c_2 => ?_)
    · skip
      have c_2 : (n + cn) ≤ 400 := (nI_leI (a := (n + cn)) (b := 400) (by omega) (by omega)).mp c_2
      refine lv_iload_n hx hb dX7_type_32 rfl (lv_at hl 2 rfl) ?_
      refine lv_iconst (v := 1) hx hb dX7_type_33 (by decide) ?_
      refine lv_isub hx hb dX7_type_34 ?_
      refine top_eq (y := pI cn) (Int32.sub_eq_add_neg _ _) ?_
      refine lv_istore (lv' := [(4, .int (pI cn)), (0, .ref o), (1, .long v), (3, .int (nI cn))]) hx hb dX7_type_35 hl (by decide) rfl (fun ls hl => ?_)
      suffices lp37 : ∀ zn k37 : Nat, 0 ≤ k37 → k37 ≤ cn → cn < k37 + zn → ∀ (H : Heap) (locs : List Loc), va_P G vwCl [(o, .inr (7, [.int 0, .long tr, .ref a_S, .ref a_K, .ref a_IK, .ref a_SV, .ref a_DR, .ref a_TX, .int (nI (n + k37)), .int nx, .int tk, .int pc, .int vl, .int fa, .int ff, .ref a_WY, .ref a_BE, .int bf, .int bm, .int bl, .ref a_MO, .ref a_DY, .ref a_PO, .ref a_HO, .ref a_WA, .int ng, .ref a_GA, .int nc, .ref a_CA, .int sl, .ref a_MT, .ref a_LW, .int nw, .ref a_WK, .int pe, .int pv, .int pt, .int pu])), (a_TX, .inl (cI, 400, .inl (tyD TX v n cn k37)))] H → va_D A [(o, .inr (7, [.int 0, .long tr, .ref a_S, .ref a_K, .ref a_IK, .ref a_SV, .ref a_DR, .ref a_TX, .int (nI (n + k37)), .int nx, .int tk, .int pc, .int vl, .int fa, .int ff, .ref a_WY, .ref a_BE, .int bf, .int bm, .int bl, .ref a_MO, .ref a_DY, .ref a_PO, .ref a_HO, .ref a_WA, .int ng, .ref a_GA, .int nc, .ref a_CA, .int sl, .ref a_MT, .ref a_LW, .int nw, .ref a_WK, .int pe, .int pv, .int pt, .int pu])), (a_TX, .inl (cI, 400, .inl (tyD TX v n cn k37)))] → va_S A s.heap H locs → ∀ ls : Array Slot, lv_has ls 5 [(0, .ref o), (1, .long v), (3, .int (nI cn)), (4, .int (pI (cn - k37)))] → W zp l ze (rmK 8) s zm args below meth zc H locs 0 0 (MQ below (va_Qi (S := Unit) (fun r _ => r = (if wiB x 1 8 then (if n + x.toNatClampNeg ≤ 400 then nI (n + x.toNatClampNeg) else (-3)) else (-1))) (fun u t => va_P G vwCl ((fun _ => [(o, .inr (7, [.int 0, .long tr, .ref a_S, .ref a_K, .ref a_IK, .ref a_SV, .ref a_DR, .ref a_TX, .int (nI (if wiB x 1 8 then (if n + x.toNatClampNeg ≤ 400 then n + x.toNatClampNeg else n) else n)), .int nx, .int tk, .int pc, .int vl, .int fa, .int ff, .ref a_WY, .ref a_BE, .int bf, .int bm, .int bl, .ref a_MO, .ref a_DY, .ref a_PO, .ref a_HO, .ref a_WA, .int ng, .ref a_GA, .int nc, .ref a_CA, .int sl, .ref a_MT, .ref a_LW, .int nw, .ref a_WK, .int pe, .int pv, .int pt, .int pu])), (a_TX, .inl (cI, 400, .inl (if wiB x 1 8 then (if n + x.toNatClampNeg ≤ 400 then tyD TX v n x.toNatClampNeg x.toNatClampNeg else TX) else TX)))]) u) t.heap) A) args s 0 0 A) (F0 zm 37 ls []) by
        have el_3 : (pI cn : Int32) = pI (cn - 0) := rfl
        have er_4 : (nI n : Int32) = nI (n + 0) := rfl
        have er_5 : TX = (tyD TX v n cn 0) := rfl
        exact lp37 (cn + 1 - 0) 0 (by omega) (by omega) (by omega)  H locs (by rw [← er_4, ← er_5]; exact hP) (by rw [← er_4, ← er_5]; exact hD) hS ls (lv_sub hl [1, 2, 3, 0] (show ([(0, .ref o), (1, .long v), (3, .int (nI cn)), (4, .int (pI cn))] : List (Nat × Value)) = [(0, .ref o), (1, .long v), (3, .int (nI cn)), (4, .int (pI (cn - 0)))] by rw [← el_3]))
      intro zn
      induction zn with
      | zero => exact fun k37 h1 h2 h3 => absurd h3 (by omega)
      | succ zn ih37 =>
        intro k37 hlo37 hhi37 hn37  H locs hP hD hS ls hl
        refine lv_iload hx hb dX7_type_37 (lv_at hl 3 rfl) ?_
        refine lv_if_lt (tgt := 79) hx hb dX7_type_39 (by decide) (fun c_6 => ?_) (fun c_6 => ?_)
        · skip
          have hk9 : cn = k37 := by have h8 := pI_lt (m := cn - k37) (by omega) c_6; omega
          subst hk9
          refine lv_aload_n hx hb dX7_type_79 rfl (lv_at hl 0 rfl) ?_
          refine va_get (D := G) (ci := 7) (v := .int (nI (n + cn))) (C := RX7) (T := TX7) (N := 38) hx hb hts inlX7 hown hK hP 0 rfl rfl 8 (by decide) (hts (.fieldLink RX7 90 "EarthBanksModel" "typed" "I") k_7_20) (fun _ h9 => h9) rfl dX7_type_80 ?_
          have ew_7 : (nI (n + cn) : Int32) = nI (if wiB x 1 8 then (if n + x.toNatClampNeg ≤ 400 then n + x.toNatClampNeg else n) else n) := by simp [hcx, c_1, c_2]
          have ew_8 : (tyD TX v n cn cn) = (if wiB x 1 8 then (if n + x.toNatClampNeg ≤ 400 then tyD TX v n x.toNatClampNeg x.toNatClampNeg else TX) else TX) := by simp [hcx, c_1, c_2]
          have hP : va_P G vwCl [(o, .inr (7, [.int 0, .long tr, .ref a_S, .ref a_K, .ref a_IK, .ref a_SV, .ref a_DR, .ref a_TX, .int (nI (if wiB x 1 8 then (if n + x.toNatClampNeg ≤ 400 then n + x.toNatClampNeg else n) else n)), .int nx, .int tk, .int pc, .int vl, .int fa, .int ff, .ref a_WY, .ref a_BE, .int bf, .int bm, .int bl, .ref a_MO, .ref a_DY, .ref a_PO, .ref a_HO, .ref a_WA, .int ng, .ref a_GA, .int nc, .ref a_CA, .int sl, .ref a_MT, .ref a_LW, .int nw, .ref a_WK, .int pe, .int pv, .int pt, .int pu])), (a_TX, .inl (cI, 400, .inl (if wiB x 1 8 then (if n + x.toNatClampNeg ≤ 400 then tyD TX v n x.toNatClampNeg x.toNatClampNeg else TX) else TX)))] H := by rw [← ew_7, ← ew_8]; exact hP
          exact retWi () hx hb hr (rfl) hlocks dX7_type_83 hS (by simp [hcx, c_1, c_2]) hP
        · skip
          have hk8 := pI_k6 (m := cn) (k := k37) c_6 (by omega)
          have hl : lv_has ls 5 [(0, .ref o), (1, .long v), (3, .int (nI cn)), (4, .int (nI (cn - 1 - k37)))] := by rw [show cn - k37 = (cn - 1) + 1 - k37 by omega, pI_b (m := cn - 1) (by omega)] at hl; exact hl
          refine lv_aload_n hx hb dX7_type_42 rfl (lv_at hl 0 rfl) ?_
          refine va_get (D := G) (ci := 7) (v := .ref a_TX) (C := RX7) (T := TX7) (N := 38) hx hb hts inlX7 hown hK hP 0 rfl rfl 7 (by decide) (hts (.fieldLink RX7 26 "EarthBanksModel" "text" "[I") k_6_8) (fun _ h9 => h9) rfl dX7_type_43 ?_
          refine lv_aload_n hx hb dX7_type_46 rfl (lv_at hl 0 rfl) ?_
          refine va_get (D := G) (ci := 7) (v := .int (nI (n + k37))) (C := RX7) (T := TX7) (N := 38) hx hb hts inlX7 hown hK hP 0 rfl rfl 8 (by decide) (hts (.fieldLink RX7 90 "EarthBanksModel" "typed" "I") k_7_20) (fun _ h9 => h9) rfl dX7_type_47 ?_
          refine lv_lload_n hx hb dX7_type_50 rfl (lv_at hl 1 rfl) ?_
          refine lv_bipush (v := 8) hx hb dX7_type_51 (by decide) ?_
          refine lv_iload hx hb dX7_type_53 (lv_at hl 3 rfl) ?_
          refine lv_imul hx hb dX7_type_55 ?_
          refine top_eq (y := nI (8 * (cn - 1 - k37))) (pk_mul _ _) ?_
          refine lv_lshr (v := (v >>> ((nI (8 * (cn - 1 - k37))).toInt64 &&& 63))) hx hb dX7_type_56 rfl ?_
          refine lv_ldc2 (own := RX7) (index := 93) (v := 255) hx hb hown (hts _ k_7_21) dX7_type_57 ?_
          refine topl_eq (y := L255) rfl ?_
          refine lv_land hx hb dX7_type_60 ?_
          refine lv_l2i (v := ((v >>> ((nI (8 * (cn - 1 - k37))).toInt64 &&& 63)) &&& L255).toInt32) hx hb dX7_type_61 rfl ?_
          refine top_eq (y := (tyB v (cn - 1 - k37))) (rfl) ?_
          refine iastN (j := (n + k37)) hx hb hK hP hD hS 1 0 rfl rfl (by omega) (by decide) dX7_type_62 (fun H locs hP hD hS => ?_)
          have hP : va_P G vwCl [(o, .inr (7, [.int 0, .long tr, .ref a_S, .ref a_K, .ref a_IK, .ref a_SV, .ref a_DR, .ref a_TX, .int (nI (n + k37)), .int nx, .int tk, .int pc, .int vl, .int fa, .int ff, .ref a_WY, .ref a_BE, .int bf, .int bm, .int bl, .ref a_MO, .ref a_DY, .ref a_PO, .ref a_HO, .ref a_WA, .int ng, .ref a_GA, .int nc, .ref a_CA, .int sl, .ref a_MT, .ref a_LW, .int nw, .ref a_WK, .int pe, .int pv, .int pt, .int pu])), (a_TX, .inl (cI, 400, .inl (upd (tyD TX v n cn k37) (n + k37) (tyB v (cn - 1 - k37)))))] H := hP
          have hD : va_D A [(o, .inr (7, [.int 0, .long tr, .ref a_S, .ref a_K, .ref a_IK, .ref a_SV, .ref a_DR, .ref a_TX, .int (nI (n + k37)), .int nx, .int tk, .int pc, .int vl, .int fa, .int ff, .ref a_WY, .ref a_BE, .int bf, .int bm, .int bl, .ref a_MO, .ref a_DY, .ref a_PO, .ref a_HO, .ref a_WA, .int ng, .ref a_GA, .int nc, .ref a_CA, .int sl, .ref a_MT, .ref a_LW, .int nw, .ref a_WK, .int pe, .int pv, .int pt, .int pu])), (a_TX, .inl (cI, 400, .inl (upd (tyD TX v n cn k37) (n + k37) (tyB v (cn - 1 - k37)))))] := hD
          refine lv_aload_n hx hb dX7_type_63 rfl (lv_at hl 0 rfl) ?_
          refine lv_dup hx hb dX7_type_64 rfl ?_
          refine va_get (D := G) (ci := 7) (v := .int (nI (n + k37))) (C := RX7) (T := TX7) (N := 38) hx hb hts inlX7 hown hK hP 0 rfl rfl 8 (by decide) (hts (.fieldLink RX7 90 "EarthBanksModel" "typed" "I") k_7_20) (fun _ h9 => h9) rfl dX7_type_65 ?_
          refine lv_iconst (v := 1) hx hb dX7_type_68 (by decide) ?_
          refine lv_iadd hx hb dX7_type_69 ?_
          refine top_eq (y := nI ((n + k37) + 1)) (nI_add _ _) ?_
          refine va_put (D := G) (ci := 7) (v := .int (nI ((n + k37) + 1))) (ty := .int) (C := RX7) (T := TX7) (N := 38) hx hb hts inlX7 tyX7 tyX7_ok nmX7 hown hK hP hD hS 0 rfl rfl 8 (by decide) (hts (.fieldLink RX7 90 "EarthBanksModel" "typed" "I") k_7_20) (fun _ h9 => h9) rfl (by decide +kernel) (rfl) (rfl) (Nat.le_of_ble_eq_true rfl) dX7_type_70 (fun H locs hP hD hS => ?_)
          have hP : va_P G vwCl [(o, .inr (7, [.int 0, .long tr, .ref a_S, .ref a_K, .ref a_IK, .ref a_SV, .ref a_DR, .ref a_TX, .int (nI ((n + k37) + 1)), .int nx, .int tk, .int pc, .int vl, .int fa, .int ff, .ref a_WY, .ref a_BE, .int bf, .int bm, .int bl, .ref a_MO, .ref a_DY, .ref a_PO, .ref a_HO, .ref a_WA, .int ng, .ref a_GA, .int nc, .ref a_CA, .int sl, .ref a_MT, .ref a_LW, .int nw, .ref a_WK, .int pe, .int pv, .int pt, .int pu])), (a_TX, .inl (cI, 400, .inl (upd (tyD TX v n cn k37) (n + k37) (tyB v (cn - 1 - k37)))))] H := hP
          have hD : va_D A [(o, .inr (7, [.int 0, .long tr, .ref a_S, .ref a_K, .ref a_IK, .ref a_SV, .ref a_DR, .ref a_TX, .int (nI ((n + k37) + 1)), .int nx, .int tk, .int pc, .int vl, .int fa, .int ff, .ref a_WY, .ref a_BE, .int bf, .int bm, .int bl, .ref a_MO, .ref a_DY, .ref a_PO, .ref a_HO, .ref a_WA, .int ng, .ref a_GA, .int nc, .ref a_CA, .int sl, .ref a_MT, .ref a_LW, .int nw, .ref a_WK, .int pe, .int pv, .int pt, .int pu])), (a_TX, .inl (cI, 400, .inl (upd (tyD TX v n cn k37) (n + k37) (tyB v (cn - 1 - k37)))))] := hD
          refine lv_iinc (v := pI (cn - 1 - k37)) (lv' := [(4, .int (pI (cn - 1 - k37))), (0, .ref o), (1, .long v), (3, .int (nI cn))]) hx hb dX7_type_73 hl (k := 3) rfl (rfl) (by decide) rfl (fun ls hl => ?_)
          refine lv_goto (tgt := 37) hx hb dX7_type_76 (by decide) ?_
          have el_9 : (pI (cn - 1 - k37) : Int32) = pI (cn - (k37 + 1)) := by congr 1; omega
          have er_10 : (nI ((n + k37) + 1) : Int32) = nI (n + (k37 + 1)) := rfl
          have er_11 : (upd (tyD TX v n cn k37) (n + k37) (tyB v (cn - 1 - k37))) = (tyD TX v n cn (k37 + 1)) := rfl
          exact ih37 (k37 + 1) (by omega) (by omega) (by omega)  H locs (by rw [← er_10, ← er_11]; exact hP) (by rw [← er_10, ← er_11]; exact hD) hS ls (lv_sub hl [1, 2, 3, 0] (show ([(0, .ref o), (1, .long v), (3, .int (nI cn)), (4, .int (pI (cn - 1 - k37)))] : List (Nat × Value)) = [(0, .ref o), (1, .long v), (3, .int (nI cn)), (4, .int (pI (cn - (k37 + 1))))] by rw [← el_9]))
    · skip
      have c_2 : ¬ (n + cn) ≤ 400 := fun h9 => c_2 ((nI_leI (a := (n + cn)) (b := 400) (by omega) (by omega)).mpr h9)
      refine lv_bipush (v := (-3)) hx hb dX7_type_29 (by decide) ?_
      have ew_12 : (nI n : Int32) = nI (if wiB x 1 8 then (if n + x.toNatClampNeg ≤ 400 then n + x.toNatClampNeg else n) else n) := by simp [hcx, c_1, c_2]
      have ew_13 : TX = (if wiB x 1 8 then (if n + x.toNatClampNeg ≤ 400 then tyD TX v n x.toNatClampNeg x.toNatClampNeg else TX) else TX) := by simp [hcx, c_1, c_2]
      have hP : va_P G vwCl [(o, .inr (7, [.int 0, .long tr, .ref a_S, .ref a_K, .ref a_IK, .ref a_SV, .ref a_DR, .ref a_TX, .int (nI (if wiB x 1 8 then (if n + x.toNatClampNeg ≤ 400 then n + x.toNatClampNeg else n) else n)), .int nx, .int tk, .int pc, .int vl, .int fa, .int ff, .ref a_WY, .ref a_BE, .int bf, .int bm, .int bl, .ref a_MO, .ref a_DY, .ref a_PO, .ref a_HO, .ref a_WA, .int ng, .ref a_GA, .int nc, .ref a_CA, .int sl, .ref a_MT, .ref a_LW, .int nw, .ref a_WK, .int pe, .int pv, .int pt, .int pu])), (a_TX, .inl (cI, 400, .inl (if wiB x 1 8 then (if n + x.toNatClampNeg ≤ 400 then tyD TX v n x.toNatClampNeg x.toNatClampNeg else TX) else TX)))] H := by rw [← ew_12, ← ew_13]; exact hP
      exact retWi () hx hb hr (rfl) hlocks dX7_type_31 hS (by simp [hcx, c_1, c_2]) hP
  · skip
    have c_1 : (wiB x 1 8) = false := bI_f c_1
    refine lv_iconst (v := (-1)) hx hb dX7_type_15 (by decide) ?_
    have ew_14 : (nI n : Int32) = nI (if wiB x 1 8 then (if n + x.toNatClampNeg ≤ 400 then n + x.toNatClampNeg else n) else n) := by simp [c_1]
    have ew_15 : TX = (if wiB x 1 8 then (if n + x.toNatClampNeg ≤ 400 then tyD TX v n x.toNatClampNeg x.toNatClampNeg else TX) else TX) := by simp [c_1]
    have hP : va_P G vwCl [(o, .inr (7, [.int 0, .long tr, .ref a_S, .ref a_K, .ref a_IK, .ref a_SV, .ref a_DR, .ref a_TX, .int (nI (if wiB x 1 8 then (if n + x.toNatClampNeg ≤ 400 then n + x.toNatClampNeg else n) else n)), .int nx, .int tk, .int pc, .int vl, .int fa, .int ff, .ref a_WY, .ref a_BE, .int bf, .int bm, .int bl, .ref a_MO, .ref a_DY, .ref a_PO, .ref a_HO, .ref a_WA, .int ng, .ref a_GA, .int nc, .ref a_CA, .int sl, .ref a_MT, .ref a_LW, .int nw, .ref a_WK, .int pe, .int pv, .int pt, .int pu])), (a_TX, .inl (cI, 400, .inl (if wiB x 1 8 then (if n + x.toNatClampNeg ≤ 400 then tyD TX v n x.toNatClampNeg x.toNatClampNeg else TX) else TX)))] H := by rw [← ew_14, ← ew_15]; exact hP
    exact retWi () hx hb hr (rfl) hlocks dX7_type_16 hS (by simp [c_1]) hP
