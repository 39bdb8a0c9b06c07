theorem wiB_0 (v : Int32) : wiB v 0 0 = decide (v = 0) := by
  rw [Bool.eq_iff_iff, decide_eq_true_iff]
  refine ⟨fun h => ?_, fun h => by rw [h]; decide⟩
  obtain ⟨n, h1, h2, -⟩ := wiB_n (M := 0) (by omega) h
  rw [h2, show n = 0 by omega]; rfl
theorem cal_X7_work : calV yX7_work cX7_work 7 (some .int) 5 := ⟨k_39_15, k_1_5, k_39_13, k_39_14, by decide +kernel⟩
set_option maxHeartbeats 4000000 in
set_option maxRecDepth 100000 in
theorem c_X7_work (l : Launch) (G : va_G) (E : EvT) (cI cZ : ClassId) (n : Nat) (kd : Int32) (x : Int32) (y : Int32) (mr : Int32) (pz : Int32) (o : Nat) (a_WK : Nat) (a_S : Nat) (a_K : Nat) (a_IK : Nat) (a_SV : Nat) (a_DR : Nat) (a_TX : Nat) (a_WY : Nat) (a_BE : Nat) (a_MO : Nat) (a_DY : Nat) (a_PO : Nat) (a_HO : Nat) (a_WA : Nat) (a_GA : Nat) (a_CA : Nat) (a_MT : Nat) (a_LW : Nat) (th : Int32) (tr : Int64) (td : Int32) (nx : Int32) (tk : Int32) (pc : Int32) (vl : Int32) (fa : Int32) (ff : Int32) (bf : Int32) (bm : Int32) (bl : Int32) (ng : Int32) (nc : Int32) (sl : Int32) (pe : Int32) (pv : Int32) (pt : Int32) (pu : Int32) (WK : Nat → Int32) (hn : n ≤ 8) : cWi (S := Unit) l G E yX7_work cX7_work 7 (some .int) 8 [(cI, .int), (cZ, .boolean)] [.ref o, .int kd, .int x, .int y, .int mr, .int pz] [(o, .inr (7, [.int th, .long tr, .ref a_S, .ref a_K, .ref a_IK, .ref a_SV, .ref a_DR, .ref a_TX, .int td, .int nx, .int tk, .int pc, .int vl, .int fa, .int ff, .ref a_WY, .ref a_BE, .int bf, .int bm, .int bl, .ref a_MO, .ref a_DY, .ref a_PO, .ref a_HO, .ref a_WA, .int ng, .ref a_GA, .int nc, .ref a_CA, .int sl, .ref a_MT, .ref a_LW, .int (nI n), .ref a_WK, .int pe, .int pv, .int pt, .int pu])), (a_WK, .inl (cI, 40, .inl WK))] (fun r _ => r = (if wkB kd x y mr pz then (if n < 8 then nI n else (-3)) else (-1))) (fun _ => [(o, .inr (7, [.int 0, .long tr, .ref a_S, .ref a_K, .ref a_IK, .ref a_SV, .ref a_DR, .ref a_TX, .int td, .int nx, .int tk, .int pc, .int vl, .int fa, .int ff, .ref a_WY, .ref a_BE, .int bf, .int bm, .int bl, .ref a_MO, .ref a_DY, .ref a_PO, .ref a_HO, .ref a_WA, .int ng, .ref a_GA, .int nc, .ref a_CA, .int sl, .ref a_MT, .ref a_LW, .int (nI (if wkB kd x y mr pz then (if n < 8 then n + 1 else n) else n)), .ref a_WK, .int pe, .int pv, .int pt, .int pu])), (a_WK, .inl (cI, 40, .inl (if wkB kd x y mr pz then (if n < 8 then upd (upd (upd (upd (upd WK (5 * n) kd) (5 * n + 1) x) (5 * n + 2) y) (5 * n + 3) mr) (5 * n + 4) pz else WK) else WK)))]) := by
  refine mkWi (by decide) (Nat.le_of_ble_eq_true rfl) ?_
  intro zp ze s zm args below meth zc hx hb hr hml hown hts hlocks hE hK A hA hlow H locs hP hD hS ls hl
  have hl : lv_has ls 7 [(0, .ref o), (1, .int kd), (2, .int x), (3, .int y), (4, .int mr), (5, .int pz)] := hl
  refine lv_aload_n hx hb dX7_work_0 rfl (lv_at hl 0 rfl) ?_
  refine lv_iconst (v := 0) hx hb dX7_work_1 (by decide) ?_
  refine va_put (D := G) (ci := 7) (v := .int 0) (ty := .int) (C := RX7) (T := TX7) (N := 38) hx hb hts inlX7 tyX7 tyX7_ok nmX7 hown hK hP hD hS 0 rfl rfl 0 (by decide) (hts (.fieldLink RX7 75 "EarthBanksModel" "thrown" "I") k_7_19) (fun _ h9 => h9) rfl (by decide +kernel) (rfl) (rfl) (Nat.le_of_ble_eq_true rfl) dX7_work_2 (fun H locs hP hD hS => ?_)
  have hP : va_P G vwCl [(o, .inr (7, [.int 0, .long tr, .ref a_S, .ref a_K, .ref a_IK, .ref a_SV, .ref a_DR, .ref a_TX, .int td, .int nx, .int tk, .int pc, .int vl, .int fa, .int ff, .ref a_WY, .ref a_BE, .int bf, .int bm, .int bl, .ref a_MO, .ref a_DY, .ref a_PO, .ref a_HO, .ref a_WA, .int ng, .ref a_GA, .int nc, .ref a_CA, .int sl, .ref a_MT, .ref a_LW, .int (nI n), .ref a_WK, .int pe, .int pv, .int pt, .int pu])), (a_WK, .inl (cI, 40, .inl WK))] H := hP
  have hD : va_D A [(o, .inr (7, [.int 0, .long tr, .ref a_S, .ref a_K, .ref a_IK, .ref a_SV, .ref a_DR, .ref a_TX, .int td, .int nx, .int tk, .int pc, .int vl, .int fa, .int ff, .ref a_WY, .ref a_BE, .int bf, .int bm, .int bl, .ref a_MO, .ref a_DY, .ref a_PO, .ref a_HO, .ref a_WA, .int ng, .ref a_GA, .int nc, .ref a_CA, .int sl, .ref a_MT, .ref a_LW, .int (nI n), .ref a_WK, .int pe, .int pv, .int pt, .int pu])), (a_WK, .inl (cI, 40, .inl WK))] := hD
  refine lv_iload_n hx hb dX7_work_5 rfl (lv_at hl 1 rfl) ?_
  refine lv_iconst (v := 0) hx hb dX7_work_6 (by decide) ?_
  refine lv_iconst (v := 1) hx hb dX7_work_7 (by decide) ?_
  refine cRS (As := [.int kd, .int 0, .int 1]) (rest := []) hx hb hml hown hts (c_X7_in l G E cI cZ kd 0 1) k_7_22 cal_X7_in ⟨Nat.le_of_ble_eq_true rfl, Nat.le_of_ble_eq_true rfl⟩ hE hlow hS hK [0, 1] rfl hP [] rfl rfl hl.1 rfl (Nat.le_of_ble_eq_true rfl) dX7_work_8 ⟨Nat.zero_le _, Nat.zero_le _⟩ ?_
  refine lv_if_eq (tgt := 69) hx hb dX7_work_11 (by decide) (fun c_1 => ?_) (fun c_1 => ?_)
  · skip
    have c_1 : (wiB kd 0 1) = false := bI_f c_1
    refine lv_iconst (v := (-1)) hx hb dX7_work_69 (by decide) ?_
    have ew_2 : (nI n : Int32) = nI (if wkB kd x y mr pz then (if n < 8 then n + 1 else n) else n) := by simp [wkB, c_1]
    have ew_3 : WK = (if wkB kd x y mr pz then (if n < 8 then upd (upd (upd (upd (upd WK (5 * n) kd) (5 * n + 1) x) (5 * n + 2) y) (5 * n + 3) mr) (5 * n + 4) pz else WK) else WK) := by simp [wkB, c_1]
    have hP : va_P G vwCl [(o, .inr (7, [.int 0, .long tr, .ref a_S, .ref a_K, .ref a_IK, .ref a_SV, .ref a_DR, .ref a_TX, .int td, .int nx, .int tk, .int pc, .int vl, .int fa, .int ff, .ref a_WY, .ref a_BE, .int bf, .int bm, .int bl, .ref a_MO, .ref a_DY, .ref a_PO, .ref a_HO, .ref a_WA, .int ng, .ref a_GA, .int nc, .ref a_CA, .int sl, .ref a_MT, .ref a_LW, .int (nI (if wkB kd x y mr pz then (if n < 8 then n + 1 else n) else n)), .ref a_WK, .int pe, .int pv, .int pt, .int pu])), (a_WK, .inl (cI, 40, .inl (if wkB kd x y mr pz then (if n < 8 then upd (upd (upd (upd (upd WK (5 * n) kd) (5 * n + 1) x) (5 * n + 2) y) (5 * n + 3) mr) (5 * n + 4) pz else WK) else WK)))] H := by rw [← ew_2, ← ew_3]; exact hP
    exact retWi () hx hb hr (rfl) hlocks dX7_work_70 hS (by simp [wkB, c_1]) hP
  · skip
    have c_1 : (wiB kd 0 1) = true := bI_t c_1
    refine lv_iload_n hx hb dX7_work_14 rfl (lv_at hl 2 rfl) ?_
    refine lv_iload_n hx hb dX7_work_15 rfl (lv_at hl 3 rfl) ?_
    refine cRS (As := [.int x, .int y]) (rest := []) hx hb hml hown hts (c_X7_isCell l G E cI cZ x y) k_17_4 cal_X7_isCell ⟨Nat.le_of_ble_eq_true rfl, Nat.le_of_ble_eq_true rfl⟩ hE hlow hS hK [0, 1] rfl hP [] rfl rfl hl.1 rfl (Nat.le_of_ble_eq_true rfl) dX7_work_16 ⟨Nat.zero_le _, Nat.zero_le _⟩ ?_
    refine lv_if_eq (tgt := 69) hx hb dX7_work_19 (by decide) (fun c_4 => ?_) (fun c_4 => ?_)
    · skip
      have c_4 : (inC x y) = false := bI_f c_4
      refine lv_iconst (v := (-1)) hx hb dX7_work_69 (by decide) ?_
      have ew_5 : (nI n : Int32) = nI (if wkB kd x y mr pz then (if n < 8 then n + 1 else n) else n) := by simp [wkB, c_1, c_4]
      have ew_6 : WK = (if wkB kd x y mr pz then (if n < 8 then upd (upd (upd (upd (upd WK (5 * n) kd) (5 * n + 1) x) (5 * n + 2) y) (5 * n + 3) mr) (5 * n + 4) pz else WK) else WK) := by simp [wkB, c_1, c_4]
      have hP : va_P G vwCl [(o, .inr (7, [.int 0, .long tr, .ref a_S, .ref a_K, .ref a_IK, .ref a_SV, .ref a_DR, .ref a_TX, .int td, .int nx, .int tk, .int pc, .int vl, .int fa, .int ff, .ref a_WY, .ref a_BE, .int bf, .int bm, .int bl, .ref a_MO, .ref a_DY, .ref a_PO, .ref a_HO, .ref a_WA, .int ng, .ref a_GA, .int nc, .ref a_CA, .int sl, .ref a_MT, .ref a_LW, .int (nI (if wkB kd x y mr pz then (if n < 8 then n + 1 else n) else n)), .ref a_WK, .int pe, .int pv, .int pt, .int pu])), (a_WK, .inl (cI, 40, .inl (if wkB kd x y mr pz then (if n < 8 then upd (upd (upd (upd (upd WK (5 * n) kd) (5 * n + 1) x) (5 * n + 2) y) (5 * n + 3) mr) (5 * n + 4) pz else WK) else WK)))] H := by rw [← ew_5, ← ew_6]; exact hP
      exact retWi () hx hb hr (rfl) hlocks dX7_work_70 hS (by simp [wkB, c_1, c_4]) hP
    · skip
      have c_4 : (inC x y) = true := bI_t c_4
      refine lv_iload_n hx hb dX7_work_22 rfl (lv_at hl 1 rfl) ?_
      refine lv_if_ne (tgt := 30) hx hb dX7_work_23 (by decide) (fun c_7 => ?_) (fun c_7 => ?_)
      · skip
        refine lv_iload hx hb dX7_work_30 (lv_at hl 4 rfl) ?_
        refine lv_iload_n hx hb dX7_work_32 rfl (lv_at hl 1 rfl) ?_
        refine lv_if_ne (tgt := 40) hx hb dX7_work_33 (by decide) (fun c_8 => ?_) (fun c_8 => ?_)
        · skip
          refine lv_iconst (v := 0) hx hb dX7_work_40 (by decide) ?_
          refine lv_iload_n hx hb dX7_work_41 rfl (lv_at hl 1 rfl) ?_
          refine lv_if_ne (tgt := 50) hx hb dX7_work_42 (by decide) (fun c_9 => ?_) (fun c_9 => ?_)
          · skip
            refine lv_iconst (v := 0) hx hb dX7_work_50 (by decide) ?_
            refine cRS (As := [.int mr, .int 0, .int 0]) (rest := []) hx hb hml hown hts (c_X7_in l G E cI cZ mr 0 0) k_7_22 cal_X7_in ⟨Nat.le_of_ble_eq_true rfl, Nat.le_of_ble_eq_true rfl⟩ hE hlow hS hK [0, 1] rfl hP [] rfl rfl hl.1 rfl (Nat.le_of_ble_eq_true rfl) dX7_work_51 ⟨Nat.zero_le _, Nat.zero_le _⟩ ?_
            refine top_eq (y := bI (decide (mr = 0))) (by rw [wiB_0]) ?_
            refine lv_if_eq (tgt := 69) hx hb dX7_work_54 (by decide) (fun c_10 => ?_) (fun c_10 => ?_)
            · skip
              have c_10 : ¬ (mr = 0) := of_decide_eq_false (bI_f c_10)
              refine lv_iconst (v := (-1)) hx hb dX7_work_69 (by decide) ?_
              have ew_11 : (nI n : Int32) = nI (if wkB kd x y mr pz then (if n < 8 then n + 1 else n) else n) := by simp [wkB, c_1, c_4, c_7, c_8, c_9, c_10]
              have ew_12 : WK = (if wkB kd x y mr pz then (if n < 8 then upd (upd (upd (upd (upd WK (5 * n) kd) (5 * n + 1) x) (5 * n + 2) y) (5 * n + 3) mr) (5 * n + 4) pz else WK) else WK) := by simp [wkB, c_1, c_4, c_7, c_8, c_9, c_10]
              have hP : va_P G vwCl [(o, .inr (7, [.int 0, .long tr, .ref a_S, .ref a_K, .ref a_IK, .ref a_SV, .ref a_DR, .ref a_TX, .int td, .int nx, .int tk, .int pc, .int vl, .int fa, .int ff, .ref a_WY, .ref a_BE, .int bf, .int bm, .int bl, .ref a_MO, .ref a_DY, .ref a_PO, .ref a_HO, .ref a_WA, .int ng, .ref a_GA, .int nc, .ref a_CA, .int sl, .ref a_MT, .ref a_LW, .int (nI (if wkB kd x y mr pz then (if n < 8 then n + 1 else n) else n)), .ref a_WK, .int pe, .int pv, .int pt, .int pu])), (a_WK, .inl (cI, 40, .inl (if wkB kd x y mr pz then (if n < 8 then upd (upd (upd (upd (upd WK (5 * n) kd) (5 * n + 1) x) (5 * n + 2) y) (5 * n + 3) mr) (5 * n + 4) pz else WK) else WK)))] H := by rw [← ew_11, ← ew_12]; exact hP
              exact retWi () hx hb hr (rfl) hlocks dX7_work_70 hS (by simp [wkB, c_1, c_4, c_7, c_8, c_9, c_10]) hP
            · skip
              have c_10 : (mr = 0) := of_decide_eq_true (bI_t c_10)
              refine lv_iload hx hb dX7_work_57 (lv_at hl 5 rfl) ?_
              refine lv_iconst (v := 0) hx hb dX7_work_59 (by decide) ?_
              refine lv_sipush (v := 999) hx hb dX7_work_60 (by decide) ?_
              refine cRS (As := [.int pz, .int 0, .int 999]) (rest := []) hx hb hml hown hts (c_X7_in l G E cI cZ pz 0 999) k_7_22 cal_X7_in ⟨Nat.le_of_ble_eq_true rfl, Nat.le_of_ble_eq_true rfl⟩ hE hlow hS hK [0, 1] rfl hP [] rfl rfl hl.1 rfl (Nat.le_of_ble_eq_true rfl) dX7_work_63 ⟨Nat.zero_le _, Nat.zero_le _⟩ ?_
              refine lv_if_ne (tgt := 71) hx hb dX7_work_66 (by decide) (fun c_13 => ?_) (fun c_13 => ?_)
              · skip
                have c_13 : (wiB pz 0 999) = true := bI_t c_13
                refine lv_aload_n hx hb dX7_work_71 rfl (lv_at hl 0 rfl) ?_
                refine va_get (D := G) (ci := 7) (v := .int (nI n)) (C := RX7) (T := TX7) (N := 38) hx hb hts inlX7 hown hK hP 0 rfl rfl 32 (by decide) (hts (.fieldLink RX7 251 "EarthBanksModel" "works" "I") k_39_16) (fun _ h9 => h9) rfl dX7_work_72 ?_
                refine lv_bipush (v := 8) hx hb dX7_work_75 (by decide) ?_
                refine lv_icmp_ne (tgt := 83) hx hb dX7_work_77 (by decide) (fun c_14 => ?_) (fun c_14 => ?_)
                · skip
                  have c_14 : ¬ n = 8 := fun h9 => c_14 ((nI_eq (a := n) (b := 8) (by omega) (by omega)).mpr h9)
                  have h8 : n < 8 := by omega
                  refine lv_iconst (v := 5) hx hb dX7_work_83 (by decide) ?_
                  refine lv_aload_n hx hb dX7_work_84 rfl (lv_at hl 0 rfl) ?_
                  refine va_get (D := G) (ci := 7) (v := .int (nI n)) (C := RX7) (T := TX7) (N := 38) hx hb hts inlX7 hown hK hP 0 rfl rfl 32 (by decide) (hts (.fieldLink RX7 251 "EarthBanksModel" "works" "I") k_39_16) (fun _ h9 => h9) rfl dX7_work_85 ?_
                  refine lv_imul hx hb dX7_work_88 ?_
                  refine top_eq (y := nI (5 * n)) (pk_mul _ _) ?_
                  refine lv_istore (lv' := [(6, .int (nI (5 * n))), (0, .ref o), (1, .int kd), (2, .int x), (3, .int y), (4, .int mr), (5, .int pz)]) hx hb dX7_work_89 hl (by decide) rfl (fun ls hl => ?_)
                  refine lv_aload_n hx hb dX7_work_91 rfl (lv_at hl 1 rfl) ?_
                  refine va_get (D := G) (ci := 7) (v := .ref a_WK) (C := RX7) (T := TX7) (N := 38) hx hb hts inlX7 hown hK hP 0 rfl rfl 33 (by decide) (hts (.fieldLink RX7 69 "EarthBanksModel" "work" "[I") k_6_22) (fun _ h9 => h9) rfl dX7_work_92 ?_
                  refine lv_iload hx hb dX7_work_95 (lv_at hl 0 rfl) ?_
                  refine lv_iload_n hx hb dX7_work_97 rfl (lv_at hl 2 rfl) ?_
                  refine iastN (j := (5 * n)) hx hb hK hP hD hS 1 0 rfl rfl (by omega) (by decide) dX7_work_98 (fun H locs hP hD hS => ?_)
                  have hP : va_P G vwCl [(o, .inr (7, [.int 0, .long tr, .ref a_S, .ref a_K, .ref a_IK, .ref a_SV, .ref a_DR, .ref a_TX, .int td, .int nx, .int tk, .int pc, .int vl, .int fa, .int ff, .ref a_WY, .ref a_BE, .int bf, .int bm, .int bl, .ref a_MO, .ref a_DY, .ref a_PO, .ref a_HO, .ref a_WA, .int ng, .ref a_GA, .int nc, .ref a_CA, .int sl, .ref a_MT, .ref a_LW, .int (nI n), .ref a_WK, .int pe, .int pv, .int pt, .int pu])), (a_WK, .inl (cI, 40, .inl (upd WK (5 * n) kd)))] H := hP
                  have hD : va_D A [(o, .inr (7, [.int 0, .long tr, .ref a_S, .ref a_K, .ref a_IK, .ref a_SV, .ref a_DR, .ref a_TX, .int td, .int nx, .int tk, .int pc, .int vl, .int fa, .int ff, .ref a_WY, .ref a_BE, .int bf, .int bm, .int bl, .ref a_MO, .ref a_DY, .ref a_PO, .ref a_HO, .ref a_WA, .int ng, .ref a_GA, .int nc, .ref a_CA, .int sl, .ref a_MT, .ref a_LW, .int (nI n), .ref a_WK, .int pe, .int pv, .int pt, .int pu])), (a_WK, .inl (cI, 40, .inl (upd WK (5 * n) kd)))] := hD
                  refine lv_aload_n hx hb dX7_work_99 rfl (lv_at hl 1 rfl) ?_
                  refine va_get (D := G) (ci := 7) (v := .ref a_WK) (C := RX7) (T := TX7) (N := 38) hx hb hts inlX7 hown hK hP 0 rfl rfl 33 (by decide) (hts (.fieldLink RX7 69 "EarthBanksModel" "work" "[I") k_6_22) (fun _ h9 => h9) rfl dX7_work_100 ?_
                  refine lv_iload hx hb dX7_work_103 (lv_at hl 0 rfl) ?_
                  refine lv_iconst (v := 1) hx hb dX7_work_105 (by decide) ?_
                  refine lv_iadd hx hb dX7_work_106 ?_
                  refine top_eq (y := nI ((5 * n) + 1)) (nI_add _ _) ?_
                  refine lv_iload_n hx hb dX7_work_107 rfl (lv_at hl 3 rfl) ?_
                  refine iastN (j := ((5 * n) + 1)) hx hb hK hP hD hS 1 0 rfl rfl (by omega) (by decide) dX7_work_108 (fun H locs hP hD hS => ?_)
                  have hP : va_P G vwCl [(o, .inr (7, [.int 0, .long tr, .ref a_S, .ref a_K, .ref a_IK, .ref a_SV, .ref a_DR, .ref a_TX, .int td, .int nx, .int tk, .int pc, .int vl, .int fa, .int ff, .ref a_WY, .ref a_BE, .int bf, .int bm, .int bl, .ref a_MO, .ref a_DY, .ref a_PO, .ref a_HO, .ref a_WA, .int ng, .ref a_GA, .int nc, .ref a_CA, .int sl, .ref a_MT, .ref a_LW, .int (nI n), .ref a_WK, .int pe, .int pv, .int pt, .int pu])), (a_WK, .inl (cI, 40, .inl (upd (upd WK (5 * n) kd) ((5 * n) + 1) x)))] H := hP
                  have hD : va_D A [(o, .inr (7, [.int 0, .long tr, .ref a_S, .ref a_K, .ref a_IK, .ref a_SV, .ref a_DR, .ref a_TX, .int td, .int nx, .int tk, .int pc, .int vl, .int fa, .int ff, .ref a_WY, .ref a_BE, .int bf, .int bm, .int bl, .ref a_MO, .ref a_DY, .ref a_PO, .ref a_HO, .ref a_WA, .int ng, .ref a_GA, .int nc, .ref a_CA, .int sl, .ref a_MT, .ref a_LW, .int (nI n), .ref a_WK, .int pe, .int pv, .int pt, .int pu])), (a_WK, .inl (cI, 40, .inl (upd (upd WK (5 * n) kd) ((5 * n) + 1) x)))] := hD
                  refine lv_aload_n hx hb dX7_work_109 rfl (lv_at hl 1 rfl) ?_
                  refine va_get (D := G) (ci := 7) (v := .ref a_WK) (C := RX7) (T := TX7) (N := 38) hx hb hts inlX7 hown hK hP 0 rfl rfl 33 (by decide) (hts (.fieldLink RX7 69 "EarthBanksModel" "work" "[I") k_6_22) (fun _ h9 => h9) rfl dX7_work_110 ?_
                  refine lv_iload hx hb dX7_work_113 (lv_at hl 0 rfl) ?_
                  refine lv_iconst (v := 2) hx hb dX7_work_115 (by decide) ?_
                  refine lv_iadd hx hb dX7_work_116 ?_
                  refine top_eq (y := nI ((5 * n) + 2)) (nI_add _ _) ?_
                  refine lv_iload_n hx hb dX7_work_117 rfl (lv_at hl 4 rfl) ?_
                  refine iastN (j := ((5 * n) + 2)) hx hb hK hP hD hS 1 0 rfl rfl (by omega) (by decide) dX7_work_118 (fun H locs hP hD hS => ?_)
                  have hP : va_P G vwCl [(o, .inr (7, [.int 0, .long tr, .ref a_S, .ref a_K, .ref a_IK, .ref a_SV, .ref a_DR, .ref a_TX, .int td, .int nx, .int tk, .int pc, .int vl, .int fa, .int ff, .ref a_WY, .ref a_BE, .int bf, .int bm, .int bl, .ref a_MO, .ref a_DY, .ref a_PO, .ref a_HO, .ref a_WA, .int ng, .ref a_GA, .int nc, .ref a_CA, .int sl, .ref a_MT, .ref a_LW, .int (nI n), .ref a_WK, .int pe, .int pv, .int pt, .int pu])), (a_WK, .inl (cI, 40, .inl (upd (upd (upd WK (5 * n) kd) ((5 * n) + 1) x) ((5 * n) + 2) y)))] H := hP
                  have hD : va_D A [(o, .inr (7, [.int 0, .long tr, .ref a_S, .ref a_K, .ref a_IK, .ref a_SV, .ref a_DR, .ref a_TX, .int td, .int nx, .int tk, .int pc, .int vl, .int fa, .int ff, .ref a_WY, .ref a_BE, .int bf, .int bm, .int bl, .ref a_MO, .ref a_DY, .ref a_PO, .ref a_HO, .ref a_WA, .int ng, .ref a_GA, .int nc, .ref a_CA, .int sl, .ref a_MT, .ref a_LW, .int (nI n), .ref a_WK, .int pe, .int pv, .int pt, .int pu])), (a_WK, .inl (cI, 40, .inl (upd (upd (upd WK (5 * n) kd) ((5 * n) + 1) x) ((5 * n) + 2) y)))] := hD
                  refine lv_aload_n hx hb dX7_work_119 rfl (lv_at hl 1 rfl) ?_
                  refine va_get (D := G) (ci := 7) (v := .ref a_WK) (C := RX7) (T := TX7) (N := 38) hx hb hts inlX7 hown hK hP 0 rfl rfl 33 (by decide) (hts (.fieldLink RX7 69 "EarthBanksModel" "work" "[I") k_6_22) (fun _ h9 => h9) rfl dX7_work_120 ?_
                  refine lv_iload hx hb dX7_work_123 (lv_at hl 0 rfl) ?_
                  refine lv_iconst (v := 3) hx hb dX7_work_125 (by decide) ?_
                  refine lv_iadd hx hb dX7_work_126 ?_
                  refine top_eq (y := nI ((5 * n) + 3)) (nI_add _ _) ?_
                  refine lv_iload hx hb dX7_work_127 (lv_at hl 5 rfl) ?_
                  refine iastN (j := ((5 * n) + 3)) hx hb hK hP hD hS 1 0 rfl rfl (by omega) (by decide) dX7_work_129 (fun H locs hP hD hS => ?_)
                  have hP : va_P G vwCl [(o, .inr (7, [.int 0, .long tr, .ref a_S, .ref a_K, .ref a_IK, .ref a_SV, .ref a_DR, .ref a_TX, .int td, .int nx, .int tk, .int pc, .int vl, .int fa, .int ff, .ref a_WY, .ref a_BE, .int bf, .int bm, .int bl, .ref a_MO, .ref a_DY, .ref a_PO, .ref a_HO, .ref a_WA, .int ng, .ref a_GA, .int nc, .ref a_CA, .int sl, .ref a_MT, .ref a_LW, .int (nI n), .ref a_WK, .int pe, .int pv, .int pt, .int pu])), (a_WK, .inl (cI, 40, .inl (upd (upd (upd (upd WK (5 * n) kd) ((5 * n) + 1) x) ((5 * n) + 2) y) ((5 * n) + 3) mr)))] H := hP
                  have hD : va_D A [(o, .inr (7, [.int 0, .long tr, .ref a_S, .ref a_K, .ref a_IK, .ref a_SV, .ref a_DR, .ref a_TX, .int td, .int nx, .int tk, .int pc, .int vl, .int fa, .int ff, .ref a_WY, .ref a_BE, .int bf, .int bm, .int bl, .ref a_MO, .ref a_DY, .ref a_PO, .ref a_HO, .ref a_WA, .int ng, .ref a_GA, .int nc, .ref a_CA, .int sl, .ref a_MT, .ref a_LW, .int (nI n), .ref a_WK, .int pe, .int pv, .int pt, .int pu])), (a_WK, .inl (cI, 40, .inl (upd (upd (upd (upd WK (5 * n) kd) ((5 * n) + 1) x) ((5 * n) + 2) y) ((5 * n) + 3) mr)))] := hD
                  refine lv_aload_n hx hb dX7_work_130 rfl (lv_at hl 1 rfl) ?_
                  refine va_get (D := G) (ci := 7) (v := .ref a_WK) (C := RX7) (T := TX7) (N := 38) hx hb hts inlX7 hown hK hP 0 rfl rfl 33 (by decide) (hts (.fieldLink RX7 69 "EarthBanksModel" "work" "[I") k_6_22) (fun _ h9 => h9) rfl dX7_work_131 ?_
                  refine lv_iload hx hb dX7_work_134 (lv_at hl 0 rfl) ?_
                  refine lv_iconst (v := 4) hx hb dX7_work_136 (by decide) ?_
                  refine lv_iadd hx hb dX7_work_137 ?_
                  refine top_eq (y := nI ((5 * n) + 4)) (nI_add _ _) ?_
                  refine lv_iload hx hb dX7_work_138 (lv_at hl 6 rfl) ?_
                  refine iastN (j := ((5 * n) + 4)) hx hb hK hP hD hS 1 0 rfl rfl (by omega) (by decide) dX7_work_140 (fun H locs hP hD hS => ?_)
                  have hP : va_P G vwCl [(o, .inr (7, [.int 0, .long tr, .ref a_S, .ref a_K, .ref a_IK, .ref a_SV, .ref a_DR, .ref a_TX, .int td, .int nx, .int tk, .int pc, .int vl, .int fa, .int ff, .ref a_WY, .ref a_BE, .int bf, .int bm, .int bl, .ref a_MO, .ref a_DY, .ref a_PO, .ref a_HO, .ref a_WA, .int ng, .ref a_GA, .int nc, .ref a_CA, .int sl, .ref a_MT, .ref a_LW, .int (nI n), .ref a_WK, .int pe, .int pv, .int pt, .int pu])), (a_WK, .inl (cI, 40, .inl (upd (upd (upd (upd (upd WK (5 * n) kd) ((5 * n) + 1) x) ((5 * n) + 2) y) ((5 * n) + 3) mr) ((5 * n) + 4) pz)))] H := hP
                  have hD : va_D A [(o, .inr (7, [.int 0, .long tr, .ref a_S, .ref a_K, .ref a_IK, .ref a_SV, .ref a_DR, .ref a_TX, .int td, .int nx, .int tk, .int pc, .int vl, .int fa, .int ff, .ref a_WY, .ref a_BE, .int bf, .int bm, .int bl, .ref a_MO, .ref a_DY, .ref a_PO, .ref a_HO, .ref a_WA, .int ng, .ref a_GA, .int nc, .ref a_CA, .int sl, .ref a_MT, .ref a_LW, .int (nI n), .ref a_WK, .int pe, .int pv, .int pt, .int pu])), (a_WK, .inl (cI, 40, .inl (upd (upd (upd (upd (upd WK (5 * n) kd) ((5 * n) + 1) x) ((5 * n) + 2) y) ((5 * n) + 3) mr) ((5 * n) + 4) pz)))] := hD
                  refine lv_aload_n hx hb dX7_work_141 rfl (lv_at hl 1 rfl) ?_
                  refine lv_dup hx hb dX7_work_142 rfl ?_
                  refine va_get (D := G) (ci := 7) (v := .int (nI n)) (C := RX7) (T := TX7) (N := 38) hx hb hts inlX7 hown hK hP 0 rfl rfl 32 (by decide) (hts (.fieldLink RX7 251 "EarthBanksModel" "works" "I") k_39_16) (fun _ h9 => h9) rfl dX7_work_143 ?_
                  refine lv_iconst (v := 1) hx hb dX7_work_146 (by decide) ?_
                  refine lv_iadd hx hb dX7_work_147 ?_
                  refine top_eq (y := nI (n + 1)) (nI_add _ _) ?_
                  refine va_put (D := G) (ci := 7) (v := .int (nI (n + 1))) (ty := .int) (C := RX7) (T := TX7) (N := 38) hx hb hts inlX7 tyX7 tyX7_ok nmX7 hown hK hP hD hS 0 rfl rfl 32 (by decide) (hts (.fieldLink RX7 251 "EarthBanksModel" "works" "I") k_39_16) (fun _ h9 => h9) rfl (by decide +kernel) (rfl) (rfl) (Nat.le_of_ble_eq_true rfl) dX7_work_148 (fun H locs hP hD hS => ?_)
                  have hP : va_P G vwCl [(o, .inr (7, [.int 0, .long tr, .ref a_S, .ref a_K, .ref a_IK, .ref a_SV, .ref a_DR, .ref a_TX, .int td, .int nx, .int tk, .int pc, .int vl, .int fa, .int ff, .ref a_WY, .ref a_BE, .int bf, .int bm, .int bl, .ref a_MO, .ref a_DY, .ref a_PO, .ref a_HO, .ref a_WA, .int ng, .ref a_GA, .int nc, .ref a_CA, .int sl, .ref a_MT, .ref a_LW, .int (nI (n + 1)), .ref a_WK, .int pe, .int pv, .int pt, .int pu])), (a_WK, .inl (cI, 40, .inl (upd (upd (upd (upd (upd WK (5 * n) kd) ((5 * n) + 1) x) ((5 * n) + 2) y) ((5 * n) + 3) mr) ((5 * n) + 4) pz)))] H := hP
                  have hD : va_D A [(o, .inr (7, [.int 0, .long tr, .ref a_S, .ref a_K, .ref a_IK, .ref a_SV, .ref a_DR, .ref a_TX, .int td, .int nx, .int tk, .int pc, .int vl, .int fa, .int ff, .ref a_WY, .ref a_BE, .int bf, .int bm, .int bl, .ref a_MO, .ref a_DY, .ref a_PO, .ref a_HO, .ref a_WA, .int ng, .ref a_GA, .int nc, .ref a_CA, .int sl, .ref a_MT, .ref a_LW, .int (nI (n + 1)), .ref a_WK, .int pe, .int pv, .int pt, .int pu])), (a_WK, .inl (cI, 40, .inl (upd (upd (upd (upd (upd WK (5 * n) kd) ((5 * n) + 1) x) ((5 * n) + 2) y) ((5 * n) + 3) mr) ((5 * n) + 4) pz)))] := hD
                  refine lv_aload_n hx hb dX7_work_151 rfl (lv_at hl 1 rfl) ?_
                  refine va_get (D := G) (ci := 7) (v := .int (nI (n + 1))) (C := RX7) (T := TX7) (N := 38) hx hb hts inlX7 hown hK hP 0 rfl rfl 32 (by decide) (hts (.fieldLink RX7 251 "EarthBanksModel" "works" "I") k_39_16) (fun _ h9 => h9) rfl dX7_work_152 ?_
                  refine lv_iconst (v := 1) hx hb dX7_work_155 (by decide) ?_
                  refine lv_isub hx hb dX7_work_156 ?_
                  refine top_eq (y := nI ((n + 1) - 1)) (pk_sub (a := (n + 1)) (b := 1) (by omega)) ?_
                  have ew_15 : (nI (n + 1) : Int32) = nI (if wkB kd x y mr pz then (if n < 8 then n + 1 else n) else n) := by simp [wkB, h8, c_1, c_4, c_7, c_8, c_9, c_10, c_13, c_14]
                  have ew_16 : (upd (upd (upd (upd (upd WK (5 * n) kd) ((5 * n) + 1) x) ((5 * n) + 2) y) ((5 * n) + 3) mr) ((5 * n) + 4) pz) = (if wkB kd x y mr pz then (if n < 8 then upd (upd (upd (upd (upd WK (5 * n) kd) (5 * n + 1) x) (5 * n + 2) y) (5 * n + 3) mr) (5 * n + 4) pz else WK) else WK) := by simp [wkB, h8, c_1, c_4, c_7, c_8, c_9, c_10, c_13, c_14]
                  have hP : va_P G vwCl [(o, .inr (7, [.int 0, .long tr, .ref a_S, .ref a_K, .ref a_IK, .ref a_SV, .ref a_DR, .ref a_TX, .int td, .int nx, .int tk, .int pc, .int vl, .int fa, .int ff, .ref a_WY, .ref a_BE, .int bf, .int bm, .int bl, .ref a_MO, .ref a_DY, .ref a_PO, .ref a_HO, .ref a_WA, .int ng, .ref a_GA, .int nc, .ref a_CA, .int sl, .ref a_MT, .ref a_LW, .int (nI (if wkB kd x y mr pz then (if n < 8 then n + 1 else n) else n)), .ref a_WK, .int pe, .int pv, .int pt, .int pu])), (a_WK, .inl (cI, 40, .inl (if wkB kd x y mr pz then (if n < 8 then upd (upd (upd (upd (upd WK (5 * n) kd) (5 * n + 1) x) (5 * n + 2) y) (5 * n + 3) mr) (5 * n + 4) pz else WK) else WK)))] H := by rw [← ew_15, ← ew_16]; exact hP
                  exact retWi () hx hb hr (rfl) hlocks dX7_work_157 hS (by simp [wkB, h8, c_1, c_4, c_7, c_8, c_9, c_10, c_13, c_14]) hP
                · skip
                  have c_14 : n = 8 := (nI_eq (a := n) (b := 8) (by omega) (by omega)).mp c_14
                  have h8 : ¬ n < 8 := by omega
                  refine lv_bipush (v := (-3)) hx hb dX7_work_80 (by decide) ?_
                  have ew_17 : (nI n : Int32) = nI (if wkB kd x y mr pz then (if n < 8 then n + 1 else n) else n) := by simp [wkB, h8, c_1, c_4, c_7, c_8, c_9, c_10, c_13, eq_true c_14]
                  have ew_18 : WK = (if wkB kd x y mr pz then (if n < 8 then upd (upd (upd (upd (upd WK (5 * n) kd) (5 * n + 1) x) (5 * n + 2) y) (5 * n + 3) mr) (5 * n + 4) pz else WK) else WK) := by simp [wkB, h8, c_1, c_4, c_7, c_8, c_9, c_10, c_13, eq_true c_14]
                  have hP : va_P G vwCl [(o, .inr (7, [.int 0, .long tr, .ref a_S, .ref a_K, .ref a_IK, .ref a_SV, .ref a_DR, .ref a_TX, .int td, .int nx, .int tk, .int pc, .int vl, .int fa, .int ff, .ref a_WY, .ref a_BE, .int bf, .int bm, .int bl, .ref a_MO, .ref a_DY, .ref a_PO, .ref a_HO, .ref a_WA, .int ng, .ref a_GA, .int nc, .ref a_CA, .int sl, .ref a_MT, .ref a_LW, .int (nI (if wkB kd x y mr pz then (if n < 8 then n + 1 else n) else n)), .ref a_WK, .int pe, .int pv, .int pt, .int pu])), (a_WK, .inl (cI, 40, .inl (if wkB kd x y mr pz then (if n < 8 then upd (upd (upd (upd (upd WK (5 * n) kd) (5 * n + 1) x) (5 * n + 2) y) (5 * n + 3) mr) (5 * n + 4) pz else WK) else WK)))] H := by rw [← ew_17, ← ew_18]; exact hP
                  exact retWi () hx hb hr (rfl) hlocks dX7_work_82 hS (by simp [wkB, h8, c_1, c_4, c_7, c_8, c_9, c_10, c_13, eq_true c_14]) hP
              · skip
                have c_13 : (wiB pz 0 999) = false := bI_f c_13
                refine lv_iconst (v := (-1)) hx hb dX7_work_69 (by decide) ?_
                have ew_19 : (nI n : Int32) = nI (if wkB kd x y mr pz then (if n < 8 then n + 1 else n) else n) := by simp [wkB, c_1, c_4, c_7, c_8, c_9, c_10, c_13]
                have ew_20 : WK = (if wkB kd x y mr pz then (if n < 8 then upd (upd (upd (upd (upd WK (5 * n) kd) (5 * n + 1) x) (5 * n + 2) y) (5 * n + 3) mr) (5 * n + 4) pz else WK) else WK) := by simp [wkB, c_1, c_4, c_7, c_8, c_9, c_10, c_13]
                have hP : va_P G vwCl [(o, .inr (7, [.int 0, .long tr, .ref a_S, .ref a_K, .ref a_IK, .ref a_SV, .ref a_DR, .ref a_TX, .int td, .int nx, .int tk, .int pc, .int vl, .int fa, .int ff, .ref a_WY, .ref a_BE, .int bf, .int bm, .int bl, .ref a_MO, .ref a_DY, .ref a_PO, .ref a_HO, .ref a_WA, .int ng, .ref a_GA, .int nc, .ref a_CA, .int sl, .ref a_MT, .ref a_LW, .int (nI (if wkB kd x y mr pz then (if n < 8 then n + 1 else n) else n)), .ref a_WK, .int pe, .int pv, .int pt, .int pu])), (a_WK, .inl (cI, 40, .inl (if wkB kd x y mr pz then (if n < 8 then upd (upd (upd (upd (upd WK (5 * n) kd) (5 * n + 1) x) (5 * n + 2) y) (5 * n + 3) mr) (5 * n + 4) pz else WK) else WK)))] H := by rw [← ew_19, ← ew_20]; exact hP
                exact retWi () hx hb hr (rfl) hlocks dX7_work_70 hS (by simp [wkB, c_1, c_4, c_7, c_8, c_9, c_10, c_13]) hP
          · skip
            exact absurd c_9 c_8
        · skip
          exact absurd c_8 c_7
      · skip
        refine lv_iload_n hx hb dX7_work_26 rfl (lv_at hl 3 rfl) ?_
        refine lv_if_ne (tgt := 69) hx hb dX7_work_27 (by decide) (fun c_21 => ?_) (fun c_21 => ?_)
        · skip
          refine lv_iconst (v := (-1)) hx hb dX7_work_69 (by decide) ?_
          have ew_22 : (nI n : Int32) = nI (if wkB kd x y mr pz then (if n < 8 then n + 1 else n) else n) := by simp [wkB, c_1, c_4, eq_true c_7, c_21]
          have ew_23 : WK = (if wkB kd x y mr pz then (if n < 8 then upd (upd (upd (upd (upd WK (5 * n) kd) (5 * n + 1) x) (5 * n + 2) y) (5 * n + 3) mr) (5 * n + 4) pz else WK) else WK) := by simp [wkB, c_1, c_4, eq_true c_7, c_21]
          have hP : va_P G vwCl [(o, .inr (7, [.int 0, .long tr, .ref a_S, .ref a_K, .ref a_IK, .ref a_SV, .ref a_DR, .ref a_TX, .int td, .int nx, .int tk, .int pc, .int vl, .int fa, .int ff, .ref a_WY, .ref a_BE, .int bf, .int bm, .int bl, .ref a_MO, .ref a_DY, .ref a_PO, .ref a_HO, .ref a_WA, .int ng, .ref a_GA, .int nc, .ref a_CA, .int sl, .ref a_MT, .ref a_LW, .int (nI (if wkB kd x y mr pz then (if n < 8 then n + 1 else n) else n)), .ref a_WK, .int pe, .int pv, .int pt, .int pu])), (a_WK, .inl (cI, 40, .inl (if wkB kd x y mr pz then (if n < 8 then upd (upd (upd (upd (upd WK (5 * n) kd) (5 * n + 1) x) (5 * n + 2) y) (5 * n + 3) mr) (5 * n + 4) pz else WK) else WK)))] H := by rw [← ew_22, ← ew_23]; exact hP
          exact retWi () hx hb hr (rfl) hlocks dX7_work_70 hS (by simp [wkB, c_1, c_4, eq_true c_7, c_21]) hP
        · skip
          refine lv_iload hx hb dX7_work_30 (lv_at hl 4 rfl) ?_
          refine lv_iload_n hx hb dX7_work_32 rfl (lv_at hl 1 rfl) ?_
          refine lv_if_ne (tgt := 40) hx hb dX7_work_33 (by decide) (fun c_24 => ?_) (fun c_24 => ?_)
          · skip
            exact absurd c_7 c_24
          · skip
            refine lv_iconst (v := 1) hx hb dX7_work_36 (by decide) ?_
            refine lv_goto (tgt := 41) hx hb dX7_work_37 (by decide) ?_
            refine lv_iload_n hx hb dX7_work_41 rfl (lv_at hl 1 rfl) ?_
            refine lv_if_ne (tgt := 50) hx hb dX7_work_42 (by decide) (fun c_25 => ?_) (fun c_25 => ?_)
            · skip
              exact absurd c_24 c_25
            · skip
              refine lv_bipush (v := 99) hx hb dX7_work_45 (by decide) ?_
              refine lv_goto (tgt := 51) hx hb dX7_work_47 (by decide) ?_
              refine cRS (As := [.int mr, .int 1, .int 99]) (rest := []) hx hb hml hown hts (c_X7_in l G E cI cZ mr 1 99) k_7_22 cal_X7_in ⟨Nat.le_of_ble_eq_true rfl, Nat.le_of_ble_eq_true rfl⟩ hE hlow hS hK [0, 1] rfl hP [] rfl rfl hl.1 rfl (Nat.le_of_ble_eq_true rfl) dX7_work_51 ⟨Nat.zero_le _, Nat.zero_le _⟩ ?_
              refine lv_if_eq (tgt := 69) hx hb dX7_work_54 (by decide) (fun c_26 => ?_) (fun c_26 => ?_)
              · skip
                have c_26 : (wiB mr 1 99) = false := bI_f c_26
                refine lv_iconst (v := (-1)) hx hb dX7_work_69 (by decide) ?_
                have ew_27 : (nI n : Int32) = nI (if wkB kd x y mr pz then (if n < 8 then n + 1 else n) else n) := by simp [wkB, c_1, c_4, eq_true c_7, eq_true c_21, eq_true c_24, eq_true c_25, c_26]
                have ew_28 : WK = (if wkB kd x y mr pz then (if n < 8 then upd (upd (upd (upd (upd WK (5 * n) kd) (5 * n + 1) x) (5 * n + 2) y) (5 * n + 3) mr) (5 * n + 4) pz else WK) else WK) := by simp [wkB, c_1, c_4, eq_true c_7, eq_true c_21, eq_true c_24, eq_true c_25, c_26]
                have hP : va_P G vwCl [(o, .inr (7, [.int 0, .long tr, .ref a_S, .ref a_K, .ref a_IK, .ref a_SV, .ref a_DR, .ref a_TX, .int td, .int nx, .int tk, .int pc, .int vl, .int fa, .int ff, .ref a_WY, .ref a_BE, .int bf, .int bm, .int bl, .ref a_MO, .ref a_DY, .ref a_PO, .ref a_HO, .ref a_WA, .int ng, .ref a_GA, .int nc, .ref a_CA, .int sl, .ref a_MT, .ref a_LW, .int (nI (if wkB kd x y mr pz then (if n < 8 then n + 1 else n) else n)), .ref a_WK, .int pe, .int pv, .int pt, .int pu])), (a_WK, .inl (cI, 40, .inl (if wkB kd x y mr pz then (if n < 8 then upd (upd (upd (upd (upd WK (5 * n) kd) (5 * n + 1) x) (5 * n + 2) y) (5 * n + 3) mr) (5 * n + 4) pz else WK) else WK)))] H := by rw [← ew_27, ← ew_28]; exact hP
                exact retWi () hx hb hr (rfl) hlocks dX7_work_70 hS (by simp [wkB, c_1, c_4, eq_true c_7, eq_true c_21, eq_true c_24, eq_true c_25, c_26]) hP
              · skip
                have c_26 : (wiB mr 1 99) = true := bI_t c_26
                refine lv_iload hx hb dX7_work_57 (lv_at hl 5 rfl) ?_
                refine lv_iconst (v := 0) hx hb dX7_work_59 (by decide) ?_
                refine lv_sipush (v := 999) hx hb dX7_work_60 (by decide) ?_
                refine cRS (As := [.int pz, .int 0, .int 999]) (rest := []) hx hb hml hown hts (c_X7_in l G E cI cZ pz 0 999) k_7_22 cal_X7_in ⟨Nat.le_of_ble_eq_true rfl, Nat.le_of_ble_eq_true rfl⟩ hE hlow hS hK [0, 1] rfl hP [] rfl rfl hl.1 rfl (Nat.le_of_ble_eq_true rfl) dX7_work_63 ⟨Nat.zero_le _, Nat.zero_le _⟩ ?_
                refine lv_if_ne (tgt := 71) hx hb dX7_work_66 (by decide) (fun c_29 => ?_) (fun c_29 => ?_)
                · skip
                  have c_29 : (wiB pz 0 999) = true := bI_t c_29
                  refine lv_aload_n hx hb dX7_work_71 rfl (lv_at hl 0 rfl) ?_
                  refine va_get (D := G) (ci := 7) (v := .int (nI n)) (C := RX7) (T := TX7) (N := 38) hx hb hts inlX7 hown hK hP 0 rfl rfl 32 (by decide) (hts (.fieldLink RX7 251 "EarthBanksModel" "works" "I") k_39_16) (fun _ h9 => h9) rfl dX7_work_72 ?_
                  refine lv_bipush (v := 8) hx hb dX7_work_75 (by decide) ?_
                  refine lv_icmp_ne (tgt := 83) hx hb dX7_work_77 (by decide) (fun c_30 => ?_) (fun c_30 => ?_)
                  · skip
                    have c_30 : ¬ n = 8 := fun h9 => c_30 ((nI_eq (a := n) (b := 8) (by omega) (by omega)).mpr h9)
                    have h8 : n < 8 := by omega
                    refine lv_iconst (v := 5) hx hb dX7_work_83 (by decide) ?_
                    refine lv_aload_n hx hb dX7_work_84 rfl (lv_at hl 0 rfl) ?_
                    refine va_get (D := G) (ci := 7) (v := .int (nI n)) (C := RX7) (T := TX7) (N := 38) hx hb hts inlX7 hown hK hP 0 rfl rfl 32 (by decide) (hts (.fieldLink RX7 251 "EarthBanksModel" "works" "I") k_39_16) (fun _ h9 => h9) rfl dX7_work_85 ?_
                    refine lv_imul hx hb dX7_work_88 ?_
                    refine top_eq (y := nI (5 * n)) (pk_mul _ _) ?_
                    refine lv_istore (lv' := [(6, .int (nI (5 * n))), (0, .ref o), (1, .int kd), (2, .int x), (3, .int y), (4, .int mr), (5, .int pz)]) hx hb dX7_work_89 hl (by decide) rfl (fun ls hl => ?_)
                    refine lv_aload_n hx hb dX7_work_91 rfl (lv_at hl 1 rfl) ?_
                    refine va_get (D := G) (ci := 7) (v := .ref a_WK) (C := RX7) (T := TX7) (N := 38) hx hb hts inlX7 hown hK hP 0 rfl rfl 33 (by decide) (hts (.fieldLink RX7 69 "EarthBanksModel" "work" "[I") k_6_22) (fun _ h9 => h9) rfl dX7_work_92 ?_
                    refine lv_iload hx hb dX7_work_95 (lv_at hl 0 rfl) ?_
                    refine lv_iload_n hx hb dX7_work_97 rfl (lv_at hl 2 rfl) ?_
                    refine iastN (j := (5 * n)) hx hb hK hP hD hS 1 0 rfl rfl (by omega) (by decide) dX7_work_98 (fun H locs hP hD hS => ?_)
                    have hP : va_P G vwCl [(o, .inr (7, [.int 0, .long tr, .ref a_S, .ref a_K, .ref a_IK, .ref a_SV, .ref a_DR, .ref a_TX, .int td, .int nx, .int tk, .int pc, .int vl, .int fa, .int ff, .ref a_WY, .ref a_BE, .int bf, .int bm, .int bl, .ref a_MO, .ref a_DY, .ref a_PO, .ref a_HO, .ref a_WA, .int ng, .ref a_GA, .int nc, .ref a_CA, .int sl, .ref a_MT, .ref a_LW, .int (nI n), .ref a_WK, .int pe, .int pv, .int pt, .int pu])), (a_WK, .inl (cI, 40, .inl (upd WK (5 * n) kd)))] H := hP
                    have hD : va_D A [(o, .inr (7, [.int 0, .long tr, .ref a_S, .ref a_K, .ref a_IK, .ref a_SV, .ref a_DR, .ref a_TX, .int td, .int nx, .int tk, .int pc, .int vl, .int fa, .int ff, .ref a_WY, .ref a_BE, .int bf, .int bm, .int bl, .ref a_MO, .ref a_DY, .ref a_PO, .ref a_HO, .ref a_WA, .int ng, .ref a_GA, .int nc, .ref a_CA, .int sl, .ref a_MT, .ref a_LW, .int (nI n), .ref a_WK, .int pe, .int pv, .int pt, .int pu])), (a_WK, .inl (cI, 40, .inl (upd WK (5 * n) kd)))] := hD
                    refine lv_aload_n hx hb dX7_work_99 rfl (lv_at hl 1 rfl) ?_
                    refine va_get (D := G) (ci := 7) (v := .ref a_WK) (C := RX7) (T := TX7) (N := 38) hx hb hts inlX7 hown hK hP 0 rfl rfl 33 (by decide) (hts (.fieldLink RX7 69 "EarthBanksModel" "work" "[I") k_6_22) (fun _ h9 => h9) rfl dX7_work_100 ?_
                    refine lv_iload hx hb dX7_work_103 (lv_at hl 0 rfl) ?_
                    refine lv_iconst (v := 1) hx hb dX7_work_105 (by decide) ?_
                    refine lv_iadd hx hb dX7_work_106 ?_
                    refine top_eq (y := nI ((5 * n) + 1)) (nI_add _ _) ?_
                    refine lv_iload_n hx hb dX7_work_107 rfl (lv_at hl 3 rfl) ?_
                    refine iastN (j := ((5 * n) + 1)) hx hb hK hP hD hS 1 0 rfl rfl (by omega) (by decide) dX7_work_108 (fun H locs hP hD hS => ?_)
                    have hP : va_P G vwCl [(o, .inr (7, [.int 0, .long tr, .ref a_S, .ref a_K, .ref a_IK, .ref a_SV, .ref a_DR, .ref a_TX, .int td, .int nx, .int tk, .int pc, .int vl, .int fa, .int ff, .ref a_WY, .ref a_BE, .int bf, .int bm, .int bl, .ref a_MO, .ref a_DY, .ref a_PO, .ref a_HO, .ref a_WA, .int ng, .ref a_GA, .int nc, .ref a_CA, .int sl, .ref a_MT, .ref a_LW, .int (nI n), .ref a_WK, .int pe, .int pv, .int pt, .int pu])), (a_WK, .inl (cI, 40, .inl (upd (upd WK (5 * n) kd) ((5 * n) + 1) x)))] H := hP
                    have hD : va_D A [(o, .inr (7, [.int 0, .long tr, .ref a_S, .ref a_K, .ref a_IK, .ref a_SV, .ref a_DR, .ref a_TX, .int td, .int nx, .int tk, .int pc, .int vl, .int fa, .int ff, .ref a_WY, .ref a_BE, .int bf, .int bm, .int bl, .ref a_MO, .ref a_DY, .ref a_PO, .ref a_HO, .ref a_WA, .int ng, .ref a_GA, .int nc, .ref a_CA, .int sl, .ref a_MT, .ref a_LW, .int (nI n), .ref a_WK, .int pe, .int pv, .int pt, .int pu])), (a_WK, .inl (cI, 40, .inl (upd (upd WK (5 * n) kd) ((5 * n) + 1) x)))] := hD
                    refine lv_aload_n hx hb dX7_work_109 rfl (lv_at hl 1 rfl) ?_
                    refine va_get (D := G) (ci := 7) (v := .ref a_WK) (C := RX7) (T := TX7) (N := 38) hx hb hts inlX7 hown hK hP 0 rfl rfl 33 (by decide) (hts (.fieldLink RX7 69 "EarthBanksModel" "work" "[I") k_6_22) (fun _ h9 => h9) rfl dX7_work_110 ?_
                    refine lv_iload hx hb dX7_work_113 (lv_at hl 0 rfl) ?_
                    refine lv_iconst (v := 2) hx hb dX7_work_115 (by decide) ?_
                    refine lv_iadd hx hb dX7_work_116 ?_
                    refine top_eq (y := nI ((5 * n) + 2)) (nI_add _ _) ?_
                    refine lv_iload_n hx hb dX7_work_117 rfl (lv_at hl 4 rfl) ?_
                    refine iastN (j := ((5 * n) + 2)) hx hb hK hP hD hS 1 0 rfl rfl (by omega) (by decide) dX7_work_118 (fun H locs hP hD hS => ?_)
                    have hP : va_P G vwCl [(o, .inr (7, [.int 0, .long tr, .ref a_S, .ref a_K, .ref a_IK, .ref a_SV, .ref a_DR, .ref a_TX, .int td, .int nx, .int tk, .int pc, .int vl, .int fa, .int ff, .ref a_WY, .ref a_BE, .int bf, .int bm, .int bl, .ref a_MO, .ref a_DY, .ref a_PO, .ref a_HO, .ref a_WA, .int ng, .ref a_GA, .int nc, .ref a_CA, .int sl, .ref a_MT, .ref a_LW, .int (nI n), .ref a_WK, .int pe, .int pv, .int pt, .int pu])), (a_WK, .inl (cI, 40, .inl (upd (upd (upd WK (5 * n) kd) ((5 * n) + 1) x) ((5 * n) + 2) y)))] H := hP
                    have hD : va_D A [(o, .inr (7, [.int 0, .long tr, .ref a_S, .ref a_K, .ref a_IK, .ref a_SV, .ref a_DR, .ref a_TX, .int td, .int nx, .int tk, .int pc, .int vl, .int fa, .int ff, .ref a_WY, .ref a_BE, .int bf, .int bm, .int bl, .ref a_MO, .ref a_DY, .ref a_PO, .ref a_HO, .ref a_WA, .int ng, .ref a_GA, .int nc, .ref a_CA, .int sl, .ref a_MT, .ref a_LW, .int (nI n), .ref a_WK, .int pe, .int pv, .int pt, .int pu])), (a_WK, .inl (cI, 40, .inl (upd (upd (upd WK (5 * n) kd) ((5 * n) + 1) x) ((5 * n) + 2) y)))] := hD
                    refine lv_aload_n hx hb dX7_work_119 rfl (lv_at hl 1 rfl) ?_
                    refine va_get (D := G) (ci := 7) (v := .ref a_WK) (C := RX7) (T := TX7) (N := 38) hx hb hts inlX7 hown hK hP 0 rfl rfl 33 (by decide) (hts (.fieldLink RX7 69 "EarthBanksModel" "work" "[I") k_6_22) (fun _ h9 => h9) rfl dX7_work_120 ?_
                    refine lv_iload hx hb dX7_work_123 (lv_at hl 0 rfl) ?_
                    refine lv_iconst (v := 3) hx hb dX7_work_125 (by decide) ?_
                    refine lv_iadd hx hb dX7_work_126 ?_
                    refine top_eq (y := nI ((5 * n) + 3)) (nI_add _ _) ?_
                    refine lv_iload hx hb dX7_work_127 (lv_at hl 5 rfl) ?_
                    refine iastN (j := ((5 * n) + 3)) hx hb hK hP hD hS 1 0 rfl rfl (by omega) (by decide) dX7_work_129 (fun H locs hP hD hS => ?_)
                    have hP : va_P G vwCl [(o, .inr (7, [.int 0, .long tr, .ref a_S, .ref a_K, .ref a_IK, .ref a_SV, .ref a_DR, .ref a_TX, .int td, .int nx, .int tk, .int pc, .int vl, .int fa, .int ff, .ref a_WY, .ref a_BE, .int bf, .int bm, .int bl, .ref a_MO, .ref a_DY, .ref a_PO, .ref a_HO, .ref a_WA, .int ng, .ref a_GA, .int nc, .ref a_CA, .int sl, .ref a_MT, .ref a_LW, .int (nI n), .ref a_WK, .int pe, .int pv, .int pt, .int pu])), (a_WK, .inl (cI, 40, .inl (upd (upd (upd (upd WK (5 * n) kd) ((5 * n) + 1) x) ((5 * n) + 2) y) ((5 * n) + 3) mr)))] H := hP
                    have hD : va_D A [(o, .inr (7, [.int 0, .long tr, .ref a_S, .ref a_K, .ref a_IK, .ref a_SV, .ref a_DR, .ref a_TX, .int td, .int nx, .int tk, .int pc, .int vl, .int fa, .int ff, .ref a_WY, .ref a_BE, .int bf, .int bm, .int bl, .ref a_MO, .ref a_DY, .ref a_PO, .ref a_HO, .ref a_WA, .int ng, .ref a_GA, .int nc, .ref a_CA, .int sl, .ref a_MT, .ref a_LW, .int (nI n), .ref a_WK, .int pe, .int pv, .int pt, .int pu])), (a_WK, .inl (cI, 40, .inl (upd (upd (upd (upd WK (5 * n) kd) ((5 * n) + 1) x) ((5 * n) + 2) y) ((5 * n) + 3) mr)))] := hD
                    refine lv_aload_n hx hb dX7_work_130 rfl (lv_at hl 1 rfl) ?_
                    refine va_get (D := G) (ci := 7) (v := .ref a_WK) (C := RX7) (T := TX7) (N := 38) hx hb hts inlX7 hown hK hP 0 rfl rfl 33 (by decide) (hts (.fieldLink RX7 69 "EarthBanksModel" "work" "[I") k_6_22) (fun _ h9 => h9) rfl dX7_work_131 ?_
                    refine lv_iload hx hb dX7_work_134 (lv_at hl 0 rfl) ?_
                    refine lv_iconst (v := 4) hx hb dX7_work_136 (by decide) ?_
                    refine lv_iadd hx hb dX7_work_137 ?_
                    refine top_eq (y := nI ((5 * n) + 4)) (nI_add _ _) ?_
                    refine lv_iload hx hb dX7_work_138 (lv_at hl 6 rfl) ?_
                    refine iastN (j := ((5 * n) + 4)) hx hb hK hP hD hS 1 0 rfl rfl (by omega) (by decide) dX7_work_140 (fun H locs hP hD hS => ?_)
                    have hP : va_P G vwCl [(o, .inr (7, [.int 0, .long tr, .ref a_S, .ref a_K, .ref a_IK, .ref a_SV, .ref a_DR, .ref a_TX, .int td, .int nx, .int tk, .int pc, .int vl, .int fa, .int ff, .ref a_WY, .ref a_BE, .int bf, .int bm, .int bl, .ref a_MO, .ref a_DY, .ref a_PO, .ref a_HO, .ref a_WA, .int ng, .ref a_GA, .int nc, .ref a_CA, .int sl, .ref a_MT, .ref a_LW, .int (nI n), .ref a_WK, .int pe, .int pv, .int pt, .int pu])), (a_WK, .inl (cI, 40, .inl (upd (upd (upd (upd (upd WK (5 * n) kd) ((5 * n) + 1) x) ((5 * n) + 2) y) ((5 * n) + 3) mr) ((5 * n) + 4) pz)))] H := hP
                    have hD : va_D A [(o, .inr (7, [.int 0, .long tr, .ref a_S, .ref a_K, .ref a_IK, .ref a_SV, .ref a_DR, .ref a_TX, .int td, .int nx, .int tk, .int pc, .int vl, .int fa, .int ff, .ref a_WY, .ref a_BE, .int bf, .int bm, .int bl, .ref a_MO, .ref a_DY, .ref a_PO, .ref a_HO, .ref a_WA, .int ng, .ref a_GA, .int nc, .ref a_CA, .int sl, .ref a_MT, .ref a_LW, .int (nI n), .ref a_WK, .int pe, .int pv, .int pt, .int pu])), (a_WK, .inl (cI, 40, .inl (upd (upd (upd (upd (upd WK (5 * n) kd) ((5 * n) + 1) x) ((5 * n) + 2) y) ((5 * n) + 3) mr) ((5 * n) + 4) pz)))] := hD
                    refine lv_aload_n hx hb dX7_work_141 rfl (lv_at hl 1 rfl) ?_
                    refine lv_dup hx hb dX7_work_142 rfl ?_
                    refine va_get (D := G) (ci := 7) (v := .int (nI n)) (C := RX7) (T := TX7) (N := 38) hx hb hts inlX7 hown hK hP 0 rfl rfl 32 (by decide) (hts (.fieldLink RX7 251 "EarthBanksModel" "works" "I") k_39_16) (fun _ h9 => h9) rfl dX7_work_143 ?_
                    refine lv_iconst (v := 1) hx hb dX7_work_146 (by decide) ?_
                    refine lv_iadd hx hb dX7_work_147 ?_
                    refine top_eq (y := nI (n + 1)) (nI_add _ _) ?_
                    refine va_put (D := G) (ci := 7) (v := .int (nI (n + 1))) (ty := .int) (C := RX7) (T := TX7) (N := 38) hx hb hts inlX7 tyX7 tyX7_ok nmX7 hown hK hP hD hS 0 rfl rfl 32 (by decide) (hts (.fieldLink RX7 251 "EarthBanksModel" "works" "I") k_39_16) (fun _ h9 => h9) rfl (by decide +kernel) (rfl) (rfl) (Nat.le_of_ble_eq_true rfl) dX7_work_148 (fun H locs hP hD hS => ?_)
                    have hP : va_P G vwCl [(o, .inr (7, [.int 0, .long tr, .ref a_S, .ref a_K, .ref a_IK, .ref a_SV, .ref a_DR, .ref a_TX, .int td, .int nx, .int tk, .int pc, .int vl, .int fa, .int ff, .ref a_WY, .ref a_BE, .int bf, .int bm, .int bl, .ref a_MO, .ref a_DY, .ref a_PO, .ref a_HO, .ref a_WA, .int ng, .ref a_GA, .int nc, .ref a_CA, .int sl, .ref a_MT, .ref a_LW, .int (nI (n + 1)), .ref a_WK, .int pe, .int pv, .int pt, .int pu])), (a_WK, .inl (cI, 40, .inl (upd (upd (upd (upd (upd WK (5 * n) kd) ((5 * n) + 1) x) ((5 * n) + 2) y) ((5 * n) + 3) mr) ((5 * n) + 4) pz)))] H := hP
                    have hD : va_D A [(o, .inr (7, [.int 0, .long tr, .ref a_S, .ref a_K, .ref a_IK, .ref a_SV, .ref a_DR, .ref a_TX, .int td, .int nx, .int tk, .int pc, .int vl, .int fa, .int ff, .ref a_WY, .ref a_BE, .int bf, .int bm, .int bl, .ref a_MO, .ref a_DY, .ref a_PO, .ref a_HO, .ref a_WA, .int ng, .ref a_GA, .int nc, .ref a_CA, .int sl, .ref a_MT, .ref a_LW, .int (nI (n + 1)), .ref a_WK, .int pe, .int pv, .int pt, .int pu])), (a_WK, .inl (cI, 40, .inl (upd (upd (upd (upd (upd WK (5 * n) kd) ((5 * n) + 1) x) ((5 * n) + 2) y) ((5 * n) + 3) mr) ((5 * n) + 4) pz)))] := hD
                    refine lv_aload_n hx hb dX7_work_151 rfl (lv_at hl 1 rfl) ?_
                    refine va_get (D := G) (ci := 7) (v := .int (nI (n + 1))) (C := RX7) (T := TX7) (N := 38) hx hb hts inlX7 hown hK hP 0 rfl rfl 32 (by decide) (hts (.fieldLink RX7 251 "EarthBanksModel" "works" "I") k_39_16) (fun _ h9 => h9) rfl dX7_work_152 ?_
                    refine lv_iconst (v := 1) hx hb dX7_work_155 (by decide) ?_
                    refine lv_isub hx hb dX7_work_156 ?_
                    refine top_eq (y := nI ((n + 1) - 1)) (pk_sub (a := (n + 1)) (b := 1) (by omega)) ?_
                    have ew_31 : (nI (n + 1) : Int32) = nI (if wkB kd x y mr pz then (if n < 8 then n + 1 else n) else n) := by simp [wkB, h8, c_1, c_4, eq_true c_7, eq_true c_21, eq_true c_24, eq_true c_25, c_26, c_29, c_30]
                    have ew_32 : (upd (upd (upd (upd (upd WK (5 * n) kd) ((5 * n) + 1) x) ((5 * n) + 2) y) ((5 * n) + 3) mr) ((5 * n) + 4) pz) = (if wkB kd x y mr pz then (if n < 8 then upd (upd (upd (upd (upd WK (5 * n) kd) (5 * n + 1) x) (5 * n + 2) y) (5 * n + 3) mr) (5 * n + 4) pz else WK) else WK) := by simp [wkB, h8, c_1, c_4, eq_true c_7, eq_true c_21, eq_true c_24, eq_true c_25, c_26, c_29, c_30]
                    have hP : va_P G vwCl [(o, .inr (7, [.int 0, .long tr, .ref a_S, .ref a_K, .ref a_IK, .ref a_SV, .ref a_DR, .ref a_TX, .int td, .int nx, .int tk, .int pc, .int vl, .int fa, .int ff, .ref a_WY, .ref a_BE, .int bf, .int bm, .int bl, .ref a_MO, .ref a_DY, .ref a_PO, .ref a_HO, .ref a_WA, .int ng, .ref a_GA, .int nc, .ref a_CA, .int sl, .ref a_MT, .ref a_LW, .int (nI (if wkB kd x y mr pz then (if n < 8 then n + 1 else n) else n)), .ref a_WK, .int pe, .int pv, .int pt, .int pu])), (a_WK, .inl (cI, 40, .inl (if wkB kd x y mr pz then (if n < 8 then upd (upd (upd (upd (upd WK (5 * n) kd) (5 * n + 1) x) (5 * n + 2) y) (5 * n + 3) mr) (5 * n + 4) pz else WK) else WK)))] H := by rw [← ew_31, ← ew_32]; exact hP
                    exact retWi () hx hb hr (rfl) hlocks dX7_work_157 hS (by simp [wkB, h8, c_1, c_4, eq_true c_7, eq_true c_21, eq_true c_24, eq_true c_25, c_26, c_29, c_30]) hP
                  · skip
                    have c_30 : n = 8 := (nI_eq (a := n) (b := 8) (by omega) (by omega)).mp c_30
                    have h8 : ¬ n < 8 := by omega
                    refine lv_bipush (v := (-3)) hx hb dX7_work_80 (by decide) ?_
                    have ew_33 : (nI n : Int32) = nI (if wkB kd x y mr pz then (if n < 8 then n + 1 else n) else n) := by simp [wkB, h8, c_1, c_4, eq_true c_7, eq_true c_21, eq_true c_24, eq_true c_25, c_26, c_29, eq_true c_30]
                    have ew_34 : WK = (if wkB kd x y mr pz then (if n < 8 then upd (upd (upd (upd (upd WK (5 * n) kd) (5 * n + 1) x) (5 * n + 2) y) (5 * n + 3) mr) (5 * n + 4) pz else WK) else WK) := by simp [wkB, h8, c_1, c_4, eq_true c_7, eq_true c_21, eq_true c_24, eq_true c_25, c_26, c_29, eq_true c_30]
                    have hP : va_P G vwCl [(o, .inr (7, [.int 0, .long tr, .ref a_S, .ref a_K, .ref a_IK, .ref a_SV, .ref a_DR, .ref a_TX, .int td, .int nx, .int tk, .int pc, .int vl, .int fa, .int ff, .ref a_WY, .ref a_BE, .int bf, .int bm, .int bl, .ref a_MO, .ref a_DY, .ref a_PO, .ref a_HO, .ref a_WA, .int ng, .ref a_GA, .int nc, .ref a_CA, .int sl, .ref a_MT, .ref a_LW, .int (nI (if wkB kd x y mr pz then (if n < 8 then n + 1 else n) else n)), .ref a_WK, .int pe, .int pv, .int pt, .int pu])), (a_WK, .inl (cI, 40, .inl (if wkB kd x y mr pz then (if n < 8 then upd (upd (upd (upd (upd WK (5 * n) kd) (5 * n + 1) x) (5 * n + 2) y) (5 * n + 3) mr) (5 * n + 4) pz else WK) else WK)))] H := by rw [← ew_33, ← ew_34]; exact hP
                    exact retWi () hx hb hr (rfl) hlocks dX7_work_82 hS (by simp [wkB, h8, c_1, c_4, eq_true c_7, eq_true c_21, eq_true c_24, eq_true c_25, c_26, c_29, eq_true c_30]) hP
                · skip
                  have c_29 : (wiB pz 0 999) = false := bI_f c_29
                  refine lv_iconst (v := (-1)) hx hb dX7_work_69 (by decide) ?_
                  have ew_35 : (nI n : Int32) = nI (if wkB kd x y mr pz then (if n < 8 then n + 1 else n) else n) := by simp [wkB, c_1, c_4, eq_true c_7, eq_true c_21, eq_true c_24, eq_true c_25, c_26, c_29]
                  have ew_36 : WK = (if wkB kd x y mr pz then (if n < 8 then upd (upd (upd (upd (upd WK (5 * n) kd) (5 * n + 1) x) (5 * n + 2) y) (5 * n + 3) mr) (5 * n + 4) pz else WK) else WK) := by simp [wkB, c_1, c_4, eq_true c_7, eq_true c_21, eq_true c_24, eq_true c_25, c_26, c_29]
                  have hP : va_P G vwCl [(o, .inr (7, [.int 0, .long tr, .ref a_S, .ref a_K, .ref a_IK, .ref a_SV, .ref a_DR, .ref a_TX, .int td, .int nx, .int tk, .int pc, .int vl, .int fa, .int ff, .ref a_WY, .ref a_BE, .int bf, .int bm, .int bl, .ref a_MO, .ref a_DY, .ref a_PO, .ref a_HO, .ref a_WA, .int ng, .ref a_GA, .int nc, .ref a_CA, .int sl, .ref a_MT, .ref a_LW, .int (nI (if wkB kd x y mr pz then (if n < 8 then n + 1 else n) else n)), .ref a_WK, .int pe, .int pv, .int pt, .int pu])), (a_WK, .inl (cI, 40, .inl (if wkB kd x y mr pz then (if n < 8 then upd (upd (upd (upd (upd WK (5 * n) kd) (5 * n + 1) x) (5 * n + 2) y) (5 * n + 3) mr) (5 * n + 4) pz else WK) else WK)))] H := by rw [← ew_35, ← ew_36]; exact hP
                  exact retWi () hx hb hr (rfl) hlocks dX7_work_70 hS (by simp [wkB, c_1, c_4, eq_true c_7, eq_true c_21, eq_true c_24, eq_true c_25, c_26, c_29]) hP
