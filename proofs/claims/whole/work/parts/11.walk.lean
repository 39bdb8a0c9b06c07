theorem cal_X3_walkFrom : calV yX3_walkFrom cX3_walkFrom 9 none 4 := ⟨k_26_0, k_2_8, k_25_22, k_25_23, by decide +kernel⟩
def K_X3_walkFrom (l : Launch) (G : va_G) (E : EvT) (cI cZ : ClassId) (d : Nat) : Prop := ∀ (sa : Nat) (w : Nat → Nat) (ac : AccT) (fo : Bool) (x : Nat) (hi : Nat) (dr : Int32) (rs : Int32) (o : Nat) (a_re : Nat) (a_bu : Nat) (a_hg : Nat) (a_lh : Nat) (a_ba : Nat) (am : Int32) (bl : Int32) (lm : Int32) (lt : Int32) (re : Nat → Int32) (bu : Nat → Int32) (hg : Nat → Int32) (lh : Nat → Int32) (hxd : x + d = 7) (hsa : sa ≤ x) (hhi : hi ≤ 5) (hw8 : w 8 = 0) (hhx : x = sa ∨ (sa < x ∧ hi = w (x - 1))) (hhg : ∀ j, sa ≤ j → j < x → hg j = nI (w j)) (hdr : dr = dvS bu w sa (x - sa - 1)) (hrs : rs = rsS re w sa (x - sa)) (hacc0 : accR ac bl fo lm lt lh), cWv (S := (Nat → Int32) × Int32 × Bool × Int32 × Int32 × (Nat → Int32)) l G E yX3_walkFrom cX3_walkFrom 9 none (3 + d) [(cI, .int), (cZ, .boolean)] [.ref o, .int (nI x), .int (nI hi), .int dr, .int rs] [(o, .inr (3, [.ref a_re, .ref a_bu, .ref a_hg, .int (nI sa), .int am, .ref a_ba, .int (bI fo), .int bl, .int lm, .int lt, .ref a_lh])), (a_re, .inl (cI, 48, .inl re)), (a_bu, .inl (cI, 48, .inl bu)), (a_hg, .inl (cI, 8, .inl hg)), (a_lh, .inl (cI, 8, .inl lh))] (fun u => accR (wkS re (metS re bu am sa) d x hi w ac) u.2.1 u.2.2.1 u.2.2.2.1 u.2.2.2.2.1 u.2.2.2.2.2 ∧ ∀ j, j < x → u.1 j = hg j) (fun u => [(o, .inr (3, [.ref a_re, .ref a_bu, .ref a_hg, .int (nI sa), .int am, .ref a_ba, .int (bI u.2.2.1), .int u.2.1, .int u.2.2.2.1, .int u.2.2.2.2.1, .ref a_lh])), (a_re, .inl (cI, 48, .inl re)), (a_bu, .inl (cI, 48, .inl bu)), (a_hg, .inl (cI, 8, .inl u.1)), (a_lh, .inl (cI, 8, .inl u.2.2.2.2.2))])
set_option maxHeartbeats 4000000 in
set_option maxRecDepth 100000 in
theorem c_X3_walkFrom_0 (l : Launch) (G : va_G) (E : EvT) (cI cZ : ClassId) : K_X3_walkFrom l G E cI cZ 0 := by
  intro sa w ac fo x hi dr rs o a_re a_bu a_hg a_lh a_ba am bl lm lt re bu hg lh hxd hsa hhi hw8 hhx hhg hdr hrs hacc0
  refine mkWv (by decide) (Nat.le_of_ble_eq_true rfl) ?_
  intro zp ze s zm args below meth zc hx hb hr hml hown hts hlocks hE hK A hA hlow H locs hP hD hS ls hl
  have hl : lv_has ls 9 [(0, .ref o), (1, .int (nI x)), (2, .int (nI hi)), (3, .int dr), (4, .int rs)] := hl
  have hx7 : x = 7 := by omega
  refine lv_iconst (v := 0) hx hb dX3_walkFrom_0 (by decide) ?_
  refine lv_istore (lv' := [(5, .int 0), (0, .ref o), (1, .int (nI x)), (2, .int (nI hi)), (3, .int dr), (4, .int rs)]) hx hb dX3_walkFrom_1 hl (by decide) rfl (fun ls hl => ?_)
  suffices lp3 : ∀ zn k3 : Nat, ∀ (hgx : Nat → Int32) (blx : Int32) (fox : Bool) (lmx : Int32) (ltx : Int32) (lhx : Nat → Int32) , 0 ≤ k3 → k3 ≤ (hi + 1) → (hi + 1) < k3 + zn → (accR (foldN (fun y a => if re (8 * y + x) = -1 then a else metS re bu am sa (upN w x y) a) k3 ac) blx fox lmx ltx lhx) → (∀ j, j < x → hgx j = hg j) → ∀ (H : Heap) (locs : List Loc), va_P G vwCl [(o, .inr (3, [.ref a_re, .ref a_bu, .ref a_hg, .int (nI sa), .int am, .ref a_ba, .int (bI fox), .int blx, .int lmx, .int ltx, .ref a_lh])), (a_re, .inl (cI, 48, .inl re)), (a_bu, .inl (cI, 48, .inl bu)), (a_hg, .inl (cI, 8, .inl hgx)), (a_lh, .inl (cI, 8, .inl lhx))] H → va_D A [(o, .inr (3, [.ref a_re, .ref a_bu, .ref a_hg, .int (nI sa), .int am, .ref a_ba, .int (bI fox), .int blx, .int lmx, .int ltx, .ref a_lh])), (a_re, .inl (cI, 48, .inl re)), (a_bu, .inl (cI, 48, .inl bu)), (a_hg, .inl (cI, 8, .inl hgx)), (a_lh, .inl (cI, 8, .inl lhx))] → va_S A s.heap H locs → ∀ ls : Array Slot, lv_has ls 9 [(0, .ref o), (1, .int (nI x)), (2, .int (nI hi)), (3, .int dr), (4, .int rs), (5, .int (nI k3))] → W zp l ze (rmK (3 + 0)) s zm args below meth zc H locs 0 0 (MQ below (va_Qv (S := (Nat → Int32) × Int32 × Bool × Int32 × Int32 × (Nat → Int32)) (fun u => accR (wkS re (metS re bu am sa) 0 x hi w ac) u.2.1 u.2.2.1 u.2.2.2.1 u.2.2.2.2.1 u.2.2.2.2.2 ∧ ∀ j, j < x → u.1 j = hg j) (fun u t => va_P G vwCl ((fun u => [(o, .inr (3, [.ref a_re, .ref a_bu, .ref a_hg, .int (nI sa), .int am, .ref a_ba, .int (bI u.2.2.1), .int u.2.1, .int u.2.2.2.1, .int u.2.2.2.2.1, .ref a_lh])), (a_re, .inl (cI, 48, .inl re)), (a_bu, .inl (cI, 48, .inl bu)), (a_hg, .inl (cI, 8, .inl u.1)), (a_lh, .inl (cI, 8, .inl u.2.2.2.2.2))]) u) t.heap) A) args s 0 0 A) (F0 zm 3 ls []) by
    have el_1 : (0 : Int32) = nI 0 := rfl
    exact lp3 ((hi + 1) + 1 - 0) 0 hg bl fo lm lt lh (by omega) (by omega) (by omega) (hacc0) (fun _ _ => rfl) H locs hP hD hS ls (lv_sub hl [1, 2, 3, 4, 5, 0] (show ([(0, .ref o), (1, .int (nI x)), (2, .int (nI hi)), (3, .int dr), (4, .int rs), (5, .int 0)] : List (Nat × Value)) = [(0, .ref o), (1, .int (nI x)), (2, .int (nI hi)), (3, .int dr), (4, .int rs), (5, .int (nI 0))] by rw [← el_1]))
  intro zn
  induction zn with
  | zero => exact fun k3 hgx blx fox lmx ltx lhx h1 h2 h3 => absurd h3 (by omega)
  | succ zn ih3 =>
    intro k3 hgx blx fox lmx ltx lhx hlo3 hhi3 hn3 hacc hpre H locs hP hD hS ls hl
    refine lv_iload hx hb dX3_walkFrom_3 (lv_at hl 5 rfl) ?_
    refine lv_iload_n hx hb dX3_walkFrom_5 rfl (lv_at hl 2 rfl) ?_
    refine lv_icmp_gt (tgt := 122) hx hb dX3_walkFrom_6 (by decide) (fun c_2 => ?_) (fun c_2 => ?_)
    · skip
      have c_2 : hi < k3 := (nI_ltI (a := hi) (b := k3) (by omega) (by omega)).mp c_2
      have hk9 : (hi + 1) = k3 := by omega
      subst hk9
      exact retWv (hgx, blx, fox, lmx, ltx, lhx) hx hb hr hlocks dX3_walkFrom_122 hS (⟨hacc, hpre⟩) hP
    · skip
      have c_2 : ¬ hi < k3 := fun h9 => c_2 ((nI_ltI (a := hi) (b := k3) (by omega) (by omega)).mpr h9)
      refine lv_iload_n hx hb dX3_walkFrom_9 rfl (lv_at hl 1 rfl) ?_
      refine lv_iload hx hb dX3_walkFrom_10 (lv_at hl 5 rfl) ?_
      refine cRSN (As := [.int (nI x), .int (nI k3)]) (rest := []) hx hb hml hown hts (c_X6_placeOf l G E cI cZ x k3) (hE.2.1.2.1 ("EarthBanks$Slides", 53, yX6_placeOf, "EarthBanks") (by decide +kernel)) cal_X6_placeOf ⟨by show 1 + 1 ≤ 3 + 0; omega, by show 8 + (2 + 11) + 64 * (1) ≤ 64 * (3 + 0); omega⟩ hE hlow hS hK [0, 1] rfl hP [] rfl rfl hl.1 rfl (Nat.le_of_ble_eq_true rfl) dX3_walkFrom_12 ⟨Nat.zero_le _, Nat.zero_le _⟩ ?_
      refine lv_istore (lv' := [(6, .int (nI ((8 * k3) + x))), (0, .ref o), (1, .int (nI x)), (2, .int (nI hi)), (3, .int dr), (4, .int rs), (5, .int (nI k3))]) hx hb dX3_walkFrom_15 hl (by decide) rfl (fun ls hl => ?_)
      refine lv_aload_n hx hb dX3_walkFrom_17 rfl (lv_at hl 1 rfl) ?_
      refine va_get (D := G) (ci := 3) (v := .ref a_re) (C := RX3) (T := TX3) (N := 11) hx hb hts inlX3 hown hK hP 0 rfl rfl 0 (by decide) (hts (.fieldLink RX3 9 "EarthBanks$Slides" "rests" "[I") k_4_13) (fun _ h9 => h9) rfl dX3_walkFrom_18 ?_
      refine lv_iload hx hb dX3_walkFrom_21 (lv_at hl 0 rfl) ?_
      refine ialdN (j := ((8 * k3) + x)) hx hb hK hP 1 0 rfl rfl (by omega) (by decide) dX3_walkFrom_23 ?_
      refine lv_iconst (v := (-1)) hx hb dX3_walkFrom_24 (by decide) ?_
      refine lv_icmp_ne (tgt := 31) hx hb dX3_walkFrom_25 (by decide) (fun c_3 => ?_) (fun c_3 => ?_)
      · skip
        refine lv_aload_n hx hb dX3_walkFrom_31 rfl (lv_at hl 1 rfl) ?_
        refine va_get (D := G) (ci := 3) (v := .ref a_hg) (C := RX3) (T := TX3) (N := 11) hx hb hts inlX3 hown hK hP 0 rfl rfl 2 (by decide) (hts (.fieldLink RX3 18 "EarthBanks$Slides" "heights" "[I") k_4_15) (fun _ h9 => h9) rfl dX3_walkFrom_32 ?_
        refine lv_iload_n hx hb dX3_walkFrom_35 rfl (lv_at hl 2 rfl) ?_
        refine lv_iload hx hb dX3_walkFrom_36 (lv_at hl 6 rfl) ?_
        refine iastN (j := x) hx hb hK hP hD hS 3 0 rfl rfl (by omega) (by decide) dX3_walkFrom_38 (fun H locs hP hD hS => ?_)
        have hP : va_P G vwCl [(o, .inr (3, [.ref a_re, .ref a_bu, .ref a_hg, .int (nI sa), .int am, .ref a_ba, .int (bI fox), .int blx, .int lmx, .int ltx, .ref a_lh])), (a_re, .inl (cI, 48, .inl re)), (a_bu, .inl (cI, 48, .inl bu)), (a_hg, .inl (cI, 8, .inl (upd hgx x (nI k3)))), (a_lh, .inl (cI, 8, .inl lhx))] H := hP
        have hD : va_D A [(o, .inr (3, [.ref a_re, .ref a_bu, .ref a_hg, .int (nI sa), .int am, .ref a_ba, .int (bI fox), .int blx, .int lmx, .int ltx, .ref a_lh])), (a_re, .inl (cI, 48, .inl re)), (a_bu, .inl (cI, 48, .inl bu)), (a_hg, .inl (cI, 8, .inl (upd hgx x (nI k3)))), (a_lh, .inl (cI, 8, .inl lhx))] := hD
        refine lv_iload_n hx hb dX3_walkFrom_39 rfl (lv_at hl 2 rfl) ?_
        refine lv_aload_n hx hb dX3_walkFrom_40 rfl (lv_at hl 1 rfl) ?_
        refine va_get (D := G) (ci := 3) (v := .int (nI sa)) (C := RX3) (T := TX3) (N := 11) hx hb hts inlX3 hown hK hP 0 rfl rfl 3 (by decide) (hts (.fieldLink RX3 21 "EarthBanks$Slides" "start" "I") k_4_16) (fun _ h9 => h9) rfl dX3_walkFrom_41 ?_
        refine lv_icmp_ne (tgt := 51) hx hb dX3_walkFrom_44 (by decide) (fun c_4 => ?_) (fun c_4 => ?_)
        · skip
          have c_4 : ¬ x = sa := fun h9 => c_4 ((nI_eq (a := x) (b := sa) (by omega) (by omega)).mpr h9)
          refine lv_iload_n hx hb dX3_walkFrom_51 rfl (lv_at hl 4 rfl) ?_
          refine lv_aload_n hx hb dX3_walkFrom_52 rfl (lv_at hl 1 rfl) ?_
          refine lv_iload_n hx hb dX3_walkFrom_53 rfl (lv_at hl 2 rfl) ?_
          refine lv_iconst (v := 1) hx hb dX3_walkFrom_54 (by decide) ?_
          refine lv_isub hx hb dX3_walkFrom_55 ?_
          refine top_eq (y := nI (x - 1)) (pk_sub (a := x) (b := 1) (by omega)) ?_
          refine lv_iload_n hx hb dX3_walkFrom_56 rfl (lv_at hl 3 rfl) ?_
          refine lv_iload hx hb dX3_walkFrom_57 (lv_at hl 6 rfl) ?_
          refine cRV (As := [.int (nI (x - 1)), .int (nI hi), .int (nI k3)]) (rest := [.int dr]) hx hb hml hown hts (c_X3_driveOf l G E cI cZ (x - 1) hi k3 o a_bu [.ref a_re, .ref a_bu, .ref a_hg, .int (nI sa), .int am, .ref a_ba, .int (bI fox), .int blx, .int lmx, .int ltx, .ref a_lh] rfl bu (by first | assumption | omega | simp [bI, c_2, c_3, c_4]) (by first | assumption | omega | simp [bI, c_2, c_3, c_4])) k_26_1 cal_X3_driveOf ⟨by show 2 + 1 ≤ 3 + 0; omega, by show 8 + (4 + 11) + 64 * (2) ≤ 64 * (3 + 0); omega⟩ hE hlow hS hK [0, 1] rfl hP [0, 2] rfl 0 3 rfl rfl rfl hl.1 rfl (Nat.le_of_ble_eq_true rfl) dX3_walkFrom_59 ⟨Nat.zero_le _, Nat.zero_le _⟩ ?_
          refine lv_iadd hx hb dX3_walkFrom_62 ?_
          refine lv_istore (lv' := [(7, .int (dr + (bu ((8 * hi) + (x - 1)) * (nI (1 + hi) - nI k3)))), (6, .int (nI ((8 * k3) + x))), (0, .ref o), (1, .int (nI x)), (2, .int (nI hi)), (3, .int dr), (4, .int rs), (5, .int (nI k3))]) hx hb dX3_walkFrom_63 hl (by decide) rfl (fun ls hl => ?_)
          refine lv_iload hx hb dX3_walkFrom_65 (lv_at hl 6 rfl) ?_
          refine lv_aload_n hx hb dX3_walkFrom_67 rfl (lv_at hl 2 rfl) ?_
          refine va_get (D := G) (ci := 3) (v := .ref a_re) (C := RX3) (T := TX3) (N := 11) hx hb hts inlX3 hown hK hP 0 rfl rfl 0 (by decide) (hts (.fieldLink RX3 9 "EarthBanks$Slides" "rests" "[I") k_4_13) (fun _ h9 => h9) rfl dX3_walkFrom_68 ?_
          refine lv_iload hx hb dX3_walkFrom_71 (lv_at hl 1 rfl) ?_
          refine ialdN (j := ((8 * k3) + x)) hx hb hK hP 1 0 rfl rfl (by omega) (by decide) dX3_walkFrom_73 ?_
          refine lv_iadd hx hb dX3_walkFrom_74 ?_
          refine lv_istore (lv' := [(8, .int (rs + (re ((8 * k3) + x)))), (7, .int (dr + (bu ((8 * hi) + (x - 1)) * (nI (1 + hi) - nI k3)))), (6, .int (nI ((8 * k3) + x))), (0, .ref o), (1, .int (nI x)), (2, .int (nI hi)), (3, .int dr), (4, .int rs), (5, .int (nI k3))]) hx hb dX3_walkFrom_75 hl (by decide) rfl (fun ls hl => ?_)
          refine lv_iload_n hx hb dX3_walkFrom_77 rfl (lv_at hl 4 rfl) ?_
          refine lv_bipush (v := 7) hx hb dX3_walkFrom_78 (by decide) ?_
          refine lv_icmp_ne (tgt := 103) hx hb dX3_walkFrom_80 (by decide) (fun c_5 => ?_) (fun c_5 => ?_)
          · skip
            have c_5 : ¬ x = 7 := fun h9 => c_5 ((nI_eq (a := x) (b := 7) (by omega) (by omega)).mpr h9)
            exact absurd hx7 c_5
          · skip
            have c_5 : x = 7 := (nI_eq (a := x) (b := 7) (by omega) (by omega)).mp c_5
            refine lv_aload_n hx hb dX3_walkFrom_83 rfl (lv_at hl 3 rfl) ?_
            refine lv_iload hx hb dX3_walkFrom_84 (lv_at hl 1 rfl) ?_
            refine lv_aload_n hx hb dX3_walkFrom_86 rfl (lv_at hl 3 rfl) ?_
            refine lv_iload_n hx hb dX3_walkFrom_87 rfl (lv_at hl 4 rfl) ?_
            refine lv_iload hx hb dX3_walkFrom_88 (lv_at hl 8 rfl) ?_
            refine lv_iconst (v := 0) hx hb dX3_walkFrom_90 (by decide) ?_
            refine cRV (As := [.int (nI x), .int (nI k3), .int 0]) (rest := [.int (dr + (bu ((8 * hi) + (x - 1)) * (nI (1 + hi) - nI k3))), .ref o]) hx hb hml hown hts (c_X3_driveOf l G E cI cZ x k3 0 o a_bu [.ref a_re, .ref a_bu, .ref a_hg, .int (nI sa), .int am, .ref a_ba, .int (bI fox), .int blx, .int lmx, .int ltx, .ref a_lh] rfl bu (by first | assumption | omega | simp [bI, c_2, c_3, c_4, c_5]) (by first | assumption | omega | simp [bI, c_2, c_3, c_4, c_5])) k_26_1 cal_X3_driveOf ⟨by show 2 + 1 ≤ 3 + 0; omega, by show 8 + (4 + 11) + 64 * (2) ≤ 64 * (3 + 0); omega⟩ hE hlow hS hK [0, 1] rfl hP [0, 2] rfl 0 3 rfl rfl rfl hl.1 rfl (Nat.le_of_ble_eq_true rfl) dX3_walkFrom_91 ⟨Nat.zero_le _, Nat.zero_le _⟩ ?_
            refine lv_iadd hx hb dX3_walkFrom_94 ?_
            refine lv_iload hx hb dX3_walkFrom_95 (lv_at hl 0 rfl) ?_
            refine cWVv (As := [.int ((dr + (bu ((8 * hi) + (x - 1)) * (nI (1 + hi) - nI k3))) + (bu ((8 * k3) + x) * (nI (1 + k3) - nI 0))), .int (rs + (re ((8 * k3) + x)))]) (rest := []) hx hb hml hown hts (c_X3_meetWay l G E cI cZ fox ((dr + (bu ((8 * hi) + (x - 1)) * (nI (1 + hi) - nI k3))) + (bu ((8 * k3) + x) * (nI (1 + k3) - nI 0))) (rs + (re ((8 * k3) + x))) o a_hg a_lh a_re a_bu a_ba (nI sa) am blx lmx ltx (upd hgx x (nI k3)) lhx) k_26_5 cal_X3_meetWay ⟨by show 1 + 1 ≤ 3 + 0; omega, by show 8 + (4 + 11) + 64 * (1) ≤ 64 * (3 + 0); omega⟩ hE hA hlow hD hS hK [0, 1] rfl hP [0, 3, 4] rfl (by decide) [o, a_hg, a_lh] rfl (fun _ => rfl) [1, 2] [(a_re, .inl (cI, 48, .inl re)), (a_bu, .inl (cI, 48, .inl bu))] (fun _ => [(o, .inr (3, [.ref a_re, .ref a_bu, .ref a_hg, .int (nI sa), .int am, .ref a_ba, .int (bI true), .int (if am ≤ mgI ((dr + (bu ((8 * hi) + (x - 1)) * (nI (1 + hi) - nI k3))) + (bu ((8 * k3) + x) * (nI (1 + k3) - nI 0))) (rs + (re ((8 * k3) + x))) then blx else blx + 1), .int (if (!fox || decide (mgI ((dr + (bu ((8 * hi) + (x - 1)) * (nI (1 + hi) - nI k3))) + (bu ((8 * k3) + x) * (nI (1 + k3) - nI 0))) (rs + (re ((8 * k3) + x))) < lmx)) = true then mgI ((dr + (bu ((8 * hi) + (x - 1)) * (nI (1 + hi) - nI k3))) + (bu ((8 * k3) + x) * (nI (1 + k3) - nI 0))) (rs + (re ((8 * k3) + x))) else lmx), .int (if (!fox || decide (mgI ((dr + (bu ((8 * hi) + (x - 1)) * (nI (1 + hi) - nI k3))) + (bu ((8 * k3) + x) * (nI (1 + k3) - nI 0))) (rs + (re ((8 * k3) + x))) < lmx)) = true then (nI sa) else ltx), .ref a_lh])), (a_re, .inl (cI, 48, .inl re)), (a_bu, .inl (cI, 48, .inl bu)), (a_hg, .inl (cI, 8, .inl (upd hgx x (nI k3)))), (a_lh, .inl (cI, 8, .inl (if (!fox || decide (mgI ((dr + (bu ((8 * hi) + (x - 1)) * (nI (1 + hi) - nI k3))) + (bu ((8 * k3) + x) * (nI (1 + k3) - nI 0))) (rs + (re ((8 * k3) + x))) < lmx)) = true then (upd hgx x (nI k3)) else lhx)))]) 5 rfl (fun _ => rfl) (fun _ => rfl) (fun _ => rfl) (by decide) (by decide) 0 3 rfl rfl rfl hl.1 rfl (Nat.le_of_ble_eq_true rfl) dX3_walkFrom_97 ⟨Nat.zero_le _, Nat.zero_le _⟩ (fun u H locs hr_ hP hD hS => ?_)
            have hP : va_P G vwCl [(o, .inr (3, [.ref a_re, .ref a_bu, .ref a_hg, .int (nI sa), .int am, .ref a_ba, .int (bI true), .int (if am ≤ mgI ((dr + (bu ((8 * hi) + (x - 1)) * (nI (1 + hi) - nI k3))) + (bu ((8 * k3) + x) * (nI (1 + k3) - nI 0))) (rs + (re ((8 * k3) + x))) then blx else blx + 1), .int (if (!fox || decide (mgI ((dr + (bu ((8 * hi) + (x - 1)) * (nI (1 + hi) - nI k3))) + (bu ((8 * k3) + x) * (nI (1 + k3) - nI 0))) (rs + (re ((8 * k3) + x))) < lmx)) = true then mgI ((dr + (bu ((8 * hi) + (x - 1)) * (nI (1 + hi) - nI k3))) + (bu ((8 * k3) + x) * (nI (1 + k3) - nI 0))) (rs + (re ((8 * k3) + x))) else lmx), .int (if (!fox || decide (mgI ((dr + (bu ((8 * hi) + (x - 1)) * (nI (1 + hi) - nI k3))) + (bu ((8 * k3) + x) * (nI (1 + k3) - nI 0))) (rs + (re ((8 * k3) + x))) < lmx)) = true then (nI sa) else ltx), .ref a_lh])), (a_re, .inl (cI, 48, .inl re)), (a_bu, .inl (cI, 48, .inl bu)), (a_hg, .inl (cI, 8, .inl (upd hgx x (nI k3)))), (a_lh, .inl (cI, 8, .inl (if (!fox || decide (mgI ((dr + (bu ((8 * hi) + (x - 1)) * (nI (1 + hi) - nI k3))) + (bu ((8 * k3) + x) * (nI (1 + k3) - nI 0))) (rs + (re ((8 * k3) + x))) < lmx)) = true then (upd hgx x (nI k3)) else lhx)))] H := hP
            have hD : va_D A [(o, .inr (3, [.ref a_re, .ref a_bu, .ref a_hg, .int (nI sa), .int am, .ref a_ba, .int (bI true), .int (if am ≤ mgI ((dr + (bu ((8 * hi) + (x - 1)) * (nI (1 + hi) - nI k3))) + (bu ((8 * k3) + x) * (nI (1 + k3) - nI 0))) (rs + (re ((8 * k3) + x))) then blx else blx + 1), .int (if (!fox || decide (mgI ((dr + (bu ((8 * hi) + (x - 1)) * (nI (1 + hi) - nI k3))) + (bu ((8 * k3) + x) * (nI (1 + k3) - nI 0))) (rs + (re ((8 * k3) + x))) < lmx)) = true then mgI ((dr + (bu ((8 * hi) + (x - 1)) * (nI (1 + hi) - nI k3))) + (bu ((8 * k3) + x) * (nI (1 + k3) - nI 0))) (rs + (re ((8 * k3) + x))) else lmx), .int (if (!fox || decide (mgI ((dr + (bu ((8 * hi) + (x - 1)) * (nI (1 + hi) - nI k3))) + (bu ((8 * k3) + x) * (nI (1 + k3) - nI 0))) (rs + (re ((8 * k3) + x))) < lmx)) = true then (nI sa) else ltx), .ref a_lh])), (a_re, .inl (cI, 48, .inl re)), (a_bu, .inl (cI, 48, .inl bu)), (a_hg, .inl (cI, 8, .inl (upd hgx x (nI k3)))), (a_lh, .inl (cI, 8, .inl (if (!fox || decide (mgI ((dr + (bu ((8 * hi) + (x - 1)) * (nI (1 + hi) - nI k3))) + (bu ((8 * k3) + x) * (nI (1 + k3) - nI 0))) (rs + (re ((8 * k3) + x))) < lmx)) = true then (upd hgx x (nI k3)) else lhx)))] := hD
            refine lv_goto (tgt := 116) hx hb dX3_walkFrom_100 (by decide) ?_
            refine lv_iinc (v := nI (k3 + 1)) (lv' := [(5, .int (nI (k3 + 1))), (8, .int (rs + (re ((8 * k3) + x)))), (7, .int (dr + (bu ((8 * hi) + (x - 1)) * (nI (1 + hi) - nI k3)))), (6, .int (nI ((8 * k3) + x))), (0, .ref o), (1, .int (nI x)), (2, .int (nI hi)), (3, .int dr), (4, .int rs)]) hx hb dX3_walkFrom_116 hl (k := 8) rfl (nI_add _ _) (by decide) rfl (fun ls hl => ?_)
            refine lv_goto (tgt := 3) hx hb dX3_walkFrom_119 (by decide) ?_
            have er_6 : (if am ≤ mgI ((dr + (bu ((8 * hi) + (x - 1)) * (nI (1 + hi) - nI k3))) + (bu ((8 * k3) + x) * (nI (1 + k3) - nI 0))) (rs + (re ((8 * k3) + x))) then blx else blx + 1 : Int32) = (if am ≤ mgI ((dr + (bu ((8 * hi) + (x - 1)) * (nI (1 + hi) - nI k3))) + (bu ((8 * k3) + x) * (nI (1 + k3) - nI 0))) (rs + (re ((8 * k3) + x))) then blx else blx + 1) := by simp [bI, c_2, c_3, c_4, c_5]
            have er_7 : (if (!fox || decide (mgI ((dr + (bu ((8 * hi) + (x - 1)) * (nI (1 + hi) - nI k3))) + (bu ((8 * k3) + x) * (nI (1 + k3) - nI 0))) (rs + (re ((8 * k3) + x))) < lmx)) = true then mgI ((dr + (bu ((8 * hi) + (x - 1)) * (nI (1 + hi) - nI k3))) + (bu ((8 * k3) + x) * (nI (1 + k3) - nI 0))) (rs + (re ((8 * k3) + x))) else lmx : Int32) = (if (!fox || decide (mgI ((dr + (bu ((8 * hi) + (x - 1)) * (nI (1 + hi) - nI k3))) + (bu ((8 * k3) + x) * (nI (1 + k3) - nI 0))) (rs + (re ((8 * k3) + x))) < lmx)) = true then mgI ((dr + (bu ((8 * hi) + (x - 1)) * (nI (1 + hi) - nI k3))) + (bu ((8 * k3) + x) * (nI (1 + k3) - nI 0))) (rs + (re ((8 * k3) + x))) else lmx) := by simp [bI, c_2, c_3, c_4, c_5]
            have er_8 : (if (!fox || decide (mgI ((dr + (bu ((8 * hi) + (x - 1)) * (nI (1 + hi) - nI k3))) + (bu ((8 * k3) + x) * (nI (1 + k3) - nI 0))) (rs + (re ((8 * k3) + x))) < lmx)) = true then (nI sa) else ltx : Int32) = (if (!fox || decide (mgI ((dr + (bu ((8 * hi) + (x - 1)) * (nI (1 + hi) - nI k3))) + (bu ((8 * k3) + x) * (nI (1 + k3) - nI 0))) (rs + (re ((8 * k3) + x))) < lmx)) = true then (nI sa) else ltx) := by simp [bI, c_2, c_3, c_4, c_5]
            have er_9 : (upd hgx x (nI k3)) = (upd hgx x (nI k3)) := by simp [bI, c_2, c_3, c_4, c_5]
            have er_10 : (if (!fox || decide (mgI ((dr + (bu ((8 * hi) + (x - 1)) * (nI (1 + hi) - nI k3))) + (bu ((8 * k3) + x) * (nI (1 + k3) - nI 0))) (rs + (re ((8 * k3) + x))) < lmx)) = true then (upd hgx x (nI k3)) else lhx) = (if (!fox || decide (mgI ((dr + (bu ((8 * hi) + (x - 1)) * (nI (1 + hi) - nI k3))) + (bu ((8 * k3) + x) * (nI (1 + k3) - nI 0))) (rs + (re ((8 * k3) + x))) < lmx)) = true then (upd hgx x (nI k3)) else lhx) := by simp [bI, c_2, c_3, c_4, c_5]
            exact ih3 (k3 + 1) (upd hgx x (nI k3)) (if am ≤ mgI ((dr + (bu ((8 * hi) + (x - 1)) * (nI (1 + hi) - nI k3))) + (bu ((8 * k3) + x) * (nI (1 + k3) - nI 0))) (rs + (re ((8 * k3) + x))) then blx else blx + 1) true (if (!fox || decide (mgI ((dr + (bu ((8 * hi) + (x - 1)) * (nI (1 + hi) - nI k3))) + (bu ((8 * k3) + x) * (nI (1 + k3) - nI 0))) (rs + (re ((8 * k3) + x))) < lmx)) = true then mgI ((dr + (bu ((8 * hi) + (x - 1)) * (nI (1 + hi) - nI k3))) + (bu ((8 * k3) + x) * (nI (1 + k3) - nI 0))) (rs + (re ((8 * k3) + x))) else lmx) (if (!fox || decide (mgI ((dr + (bu ((8 * hi) + (x - 1)) * (nI (1 + hi) - nI k3))) + (bu ((8 * k3) + x) * (nI (1 + k3) - nI 0))) (rs + (re ((8 * k3) + x))) < lmx)) = true then (nI sa) else ltx) (if (!fox || decide (mgI ((dr + (bu ((8 * hi) + (x - 1)) * (nI (1 + hi) - nI k3))) + (bu ((8 * k3) + x) * (nI (1 + k3) - nI 0))) (rs + (re ((8 * k3) + x))) < lmx)) = true then (upd hgx x (nI k3)) else lhx) (by omega) (by omega) (by omega) (by show accR (if re (8 * k3 + x) = -1 then _ else _) _ _ _ _ _; rw [if_neg c_3]; exact accR_meet (by omega) hacc (fun k h1 h2 => hg_up hhg hpre k h1 (by omega)) (dv_l hx7 hsa hw8 (dv_b (y := k3) c_4 hsa hhx hdr)) ((rs_c hsa hrs).trans (by rw [show x + 1 - sa = 8 - sa by omega]))) (fun j hj => (pk_un (by omega)).trans (hpre j hj)) H locs (by rw [← er_6, ← er_7, ← er_8, ← er_9, ← er_10]; exact hP) (by rw [← er_6, ← er_7, ← er_8, ← er_9, ← er_10]; exact hD) hS ls (lv_sub hl [4, 5, 6, 7, 8, 0] rfl)
        · skip
          have c_4 : x = sa := (nI_eq (a := x) (b := sa) (by omega) (by omega)).mp c_4
          refine lv_iload_n hx hb dX3_walkFrom_47 rfl (lv_at hl 4 rfl) ?_
          refine lv_goto (tgt := 63) hx hb dX3_walkFrom_48 (by decide) ?_
          refine lv_istore (lv' := [(7, .int dr), (6, .int (nI ((8 * k3) + x))), (0, .ref o), (1, .int (nI x)), (2, .int (nI hi)), (3, .int dr), (4, .int rs), (5, .int (nI k3))]) hx hb dX3_walkFrom_63 hl (by decide) rfl (fun ls hl => ?_)
          refine lv_iload hx hb dX3_walkFrom_65 (lv_at hl 6 rfl) ?_
          refine lv_aload_n hx hb dX3_walkFrom_67 rfl (lv_at hl 2 rfl) ?_
          refine va_get (D := G) (ci := 3) (v := .ref a_re) (C := RX3) (T := TX3) (N := 11) hx hb hts inlX3 hown hK hP 0 rfl rfl 0 (by decide) (hts (.fieldLink RX3 9 "EarthBanks$Slides" "rests" "[I") k_4_13) (fun _ h9 => h9) rfl dX3_walkFrom_68 ?_
          refine lv_iload hx hb dX3_walkFrom_71 (lv_at hl 1 rfl) ?_
          refine ialdN (j := ((8 * k3) + x)) hx hb hK hP 1 0 rfl rfl (by omega) (by decide) dX3_walkFrom_73 ?_
          refine lv_iadd hx hb dX3_walkFrom_74 ?_
          refine lv_istore (lv' := [(8, .int (rs + (re ((8 * k3) + x)))), (7, .int dr), (6, .int (nI ((8 * k3) + x))), (0, .ref o), (1, .int (nI x)), (2, .int (nI hi)), (3, .int dr), (4, .int rs), (5, .int (nI k3))]) hx hb dX3_walkFrom_75 hl (by decide) rfl (fun ls hl => ?_)
          refine lv_iload_n hx hb dX3_walkFrom_77 rfl (lv_at hl 4 rfl) ?_
          refine lv_bipush (v := 7) hx hb dX3_walkFrom_78 (by decide) ?_
          refine lv_icmp_ne (tgt := 103) hx hb dX3_walkFrom_80 (by decide) (fun c_11 => ?_) (fun c_11 => ?_)
          · skip
            have c_11 : ¬ x = 7 := fun h9 => c_11 ((nI_eq (a := x) (b := 7) (by omega) (by omega)).mpr h9)
            exact absurd hx7 c_11
          · skip
            have c_11 : x = 7 := (nI_eq (a := x) (b := 7) (by omega) (by omega)).mp c_11
            refine lv_aload_n hx hb dX3_walkFrom_83 rfl (lv_at hl 3 rfl) ?_
            refine lv_iload hx hb dX3_walkFrom_84 (lv_at hl 1 rfl) ?_
            refine lv_aload_n hx hb dX3_walkFrom_86 rfl (lv_at hl 3 rfl) ?_
            refine lv_iload_n hx hb dX3_walkFrom_87 rfl (lv_at hl 4 rfl) ?_
            refine lv_iload hx hb dX3_walkFrom_88 (lv_at hl 8 rfl) ?_
            refine lv_iconst (v := 0) hx hb dX3_walkFrom_90 (by decide) ?_
            refine cRV (As := [.int (nI x), .int (nI k3), .int 0]) (rest := [.int dr, .ref o]) hx hb hml hown hts (c_X3_driveOf l G E cI cZ x k3 0 o a_bu [.ref a_re, .ref a_bu, .ref a_hg, .int (nI sa), .int am, .ref a_ba, .int (bI fox), .int blx, .int lmx, .int ltx, .ref a_lh] rfl bu (by first | assumption | omega | simp [bI, c_2, c_3, c_4, c_11]) (by first | assumption | omega | simp [bI, c_2, c_3, c_4, c_11])) k_26_1 cal_X3_driveOf ⟨by show 2 + 1 ≤ 3 + 0; omega, by show 8 + (4 + 11) + 64 * (2) ≤ 64 * (3 + 0); omega⟩ hE hlow hS hK [0, 1] rfl hP [0, 2] rfl 0 3 rfl rfl rfl hl.1 rfl (Nat.le_of_ble_eq_true rfl) dX3_walkFrom_91 ⟨Nat.zero_le _, Nat.zero_le _⟩ ?_
            refine lv_iadd hx hb dX3_walkFrom_94 ?_
            refine lv_iload hx hb dX3_walkFrom_95 (lv_at hl 0 rfl) ?_
            refine cWVv (As := [.int (dr + (bu ((8 * k3) + x) * (nI (1 + k3) - nI 0))), .int (rs + (re ((8 * k3) + x)))]) (rest := []) hx hb hml hown hts (c_X3_meetWay l G E cI cZ fox (dr + (bu ((8 * k3) + x) * (nI (1 + k3) - nI 0))) (rs + (re ((8 * k3) + x))) o a_hg a_lh a_re a_bu a_ba (nI sa) am blx lmx ltx (upd hgx x (nI k3)) lhx) k_26_5 cal_X3_meetWay ⟨by show 1 + 1 ≤ 3 + 0; omega, by show 8 + (4 + 11) + 64 * (1) ≤ 64 * (3 + 0); omega⟩ hE hA hlow hD hS hK [0, 1] rfl hP [0, 3, 4] rfl (by decide) [o, a_hg, a_lh] rfl (fun _ => rfl) [1, 2] [(a_re, .inl (cI, 48, .inl re)), (a_bu, .inl (cI, 48, .inl bu))] (fun _ => [(o, .inr (3, [.ref a_re, .ref a_bu, .ref a_hg, .int (nI sa), .int am, .ref a_ba, .int (bI true), .int (if am ≤ mgI (dr + (bu ((8 * k3) + x) * (nI (1 + k3) - nI 0))) (rs + (re ((8 * k3) + x))) then blx else blx + 1), .int (if (!fox || decide (mgI (dr + (bu ((8 * k3) + x) * (nI (1 + k3) - nI 0))) (rs + (re ((8 * k3) + x))) < lmx)) = true then mgI (dr + (bu ((8 * k3) + x) * (nI (1 + k3) - nI 0))) (rs + (re ((8 * k3) + x))) else lmx), .int (if (!fox || decide (mgI (dr + (bu ((8 * k3) + x) * (nI (1 + k3) - nI 0))) (rs + (re ((8 * k3) + x))) < lmx)) = true then (nI sa) else ltx), .ref a_lh])), (a_re, .inl (cI, 48, .inl re)), (a_bu, .inl (cI, 48, .inl bu)), (a_hg, .inl (cI, 8, .inl (upd hgx x (nI k3)))), (a_lh, .inl (cI, 8, .inl (if (!fox || decide (mgI (dr + (bu ((8 * k3) + x) * (nI (1 + k3) - nI 0))) (rs + (re ((8 * k3) + x))) < lmx)) = true then (upd hgx x (nI k3)) else lhx)))]) 5 rfl (fun _ => rfl) (fun _ => rfl) (fun _ => rfl) (by decide) (by decide) 0 3 rfl rfl rfl hl.1 rfl (Nat.le_of_ble_eq_true rfl) dX3_walkFrom_97 ⟨Nat.zero_le _, Nat.zero_le _⟩ (fun u H locs hr_ hP hD hS => ?_)
            have hP : va_P G vwCl [(o, .inr (3, [.ref a_re, .ref a_bu, .ref a_hg, .int (nI sa), .int am, .ref a_ba, .int (bI true), .int (if am ≤ mgI (dr + (bu ((8 * k3) + x) * (nI (1 + k3) - nI 0))) (rs + (re ((8 * k3) + x))) then blx else blx + 1), .int (if (!fox || decide (mgI (dr + (bu ((8 * k3) + x) * (nI (1 + k3) - nI 0))) (rs + (re ((8 * k3) + x))) < lmx)) = true then mgI (dr + (bu ((8 * k3) + x) * (nI (1 + k3) - nI 0))) (rs + (re ((8 * k3) + x))) else lmx), .int (if (!fox || decide (mgI (dr + (bu ((8 * k3) + x) * (nI (1 + k3) - nI 0))) (rs + (re ((8 * k3) + x))) < lmx)) = true then (nI sa) else ltx), .ref a_lh])), (a_re, .inl (cI, 48, .inl re)), (a_bu, .inl (cI, 48, .inl bu)), (a_hg, .inl (cI, 8, .inl (upd hgx x (nI k3)))), (a_lh, .inl (cI, 8, .inl (if (!fox || decide (mgI (dr + (bu ((8 * k3) + x) * (nI (1 + k3) - nI 0))) (rs + (re ((8 * k3) + x))) < lmx)) = true then (upd hgx x (nI k3)) else lhx)))] H := hP
            have hD : va_D A [(o, .inr (3, [.ref a_re, .ref a_bu, .ref a_hg, .int (nI sa), .int am, .ref a_ba, .int (bI true), .int (if am ≤ mgI (dr + (bu ((8 * k3) + x) * (nI (1 + k3) - nI 0))) (rs + (re ((8 * k3) + x))) then blx else blx + 1), .int (if (!fox || decide (mgI (dr + (bu ((8 * k3) + x) * (nI (1 + k3) - nI 0))) (rs + (re ((8 * k3) + x))) < lmx)) = true then mgI (dr + (bu ((8 * k3) + x) * (nI (1 + k3) - nI 0))) (rs + (re ((8 * k3) + x))) else lmx), .int (if (!fox || decide (mgI (dr + (bu ((8 * k3) + x) * (nI (1 + k3) - nI 0))) (rs + (re ((8 * k3) + x))) < lmx)) = true then (nI sa) else ltx), .ref a_lh])), (a_re, .inl (cI, 48, .inl re)), (a_bu, .inl (cI, 48, .inl bu)), (a_hg, .inl (cI, 8, .inl (upd hgx x (nI k3)))), (a_lh, .inl (cI, 8, .inl (if (!fox || decide (mgI (dr + (bu ((8 * k3) + x) * (nI (1 + k3) - nI 0))) (rs + (re ((8 * k3) + x))) < lmx)) = true then (upd hgx x (nI k3)) else lhx)))] := hD
            refine lv_goto (tgt := 116) hx hb dX3_walkFrom_100 (by decide) ?_
            refine lv_iinc (v := nI (k3 + 1)) (lv' := [(5, .int (nI (k3 + 1))), (8, .int (rs + (re ((8 * k3) + x)))), (7, .int dr), (6, .int (nI ((8 * k3) + x))), (0, .ref o), (1, .int (nI x)), (2, .int (nI hi)), (3, .int dr), (4, .int rs)]) hx hb dX3_walkFrom_116 hl (k := 8) rfl (nI_add _ _) (by decide) rfl (fun ls hl => ?_)
            refine lv_goto (tgt := 3) hx hb dX3_walkFrom_119 (by decide) ?_
            have er_12 : (if am ≤ mgI (dr + (bu ((8 * k3) + x) * (nI (1 + k3) - nI 0))) (rs + (re ((8 * k3) + x))) then blx else blx + 1 : Int32) = (if am ≤ mgI (dr + (bu ((8 * k3) + x) * (nI (1 + k3) - nI 0))) (rs + (re ((8 * k3) + x))) then blx else blx + 1) := by simp [bI, c_2, c_3, c_4, c_11]
            have er_13 : (if (!fox || decide (mgI (dr + (bu ((8 * k3) + x) * (nI (1 + k3) - nI 0))) (rs + (re ((8 * k3) + x))) < lmx)) = true then mgI (dr + (bu ((8 * k3) + x) * (nI (1 + k3) - nI 0))) (rs + (re ((8 * k3) + x))) else lmx : Int32) = (if (!fox || decide (mgI (dr + (bu ((8 * k3) + x) * (nI (1 + k3) - nI 0))) (rs + (re ((8 * k3) + x))) < lmx)) = true then mgI (dr + (bu ((8 * k3) + x) * (nI (1 + k3) - nI 0))) (rs + (re ((8 * k3) + x))) else lmx) := by simp [bI, c_2, c_3, c_4, c_11]
            have er_14 : (if (!fox || decide (mgI (dr + (bu ((8 * k3) + x) * (nI (1 + k3) - nI 0))) (rs + (re ((8 * k3) + x))) < lmx)) = true then (nI sa) else ltx : Int32) = (if (!fox || decide (mgI (dr + (bu ((8 * k3) + x) * (nI (1 + k3) - nI 0))) (rs + (re ((8 * k3) + x))) < lmx)) = true then (nI sa) else ltx) := by simp [bI, c_2, c_3, c_4, c_11]
            have er_15 : (upd hgx x (nI k3)) = (upd hgx x (nI k3)) := by simp [bI, c_2, c_3, c_4, c_11]
            have er_16 : (if (!fox || decide (mgI (dr + (bu ((8 * k3) + x) * (nI (1 + k3) - nI 0))) (rs + (re ((8 * k3) + x))) < lmx)) = true then (upd hgx x (nI k3)) else lhx) = (if (!fox || decide (mgI (dr + (bu ((8 * k3) + x) * (nI (1 + k3) - nI 0))) (rs + (re ((8 * k3) + x))) < lmx)) = true then (upd hgx x (nI k3)) else lhx) := by simp [bI, c_2, c_3, c_4, c_11]
            exact ih3 (k3 + 1) (upd hgx x (nI k3)) (if am ≤ mgI (dr + (bu ((8 * k3) + x) * (nI (1 + k3) - nI 0))) (rs + (re ((8 * k3) + x))) then blx else blx + 1) true (if (!fox || decide (mgI (dr + (bu ((8 * k3) + x) * (nI (1 + k3) - nI 0))) (rs + (re ((8 * k3) + x))) < lmx)) = true then mgI (dr + (bu ((8 * k3) + x) * (nI (1 + k3) - nI 0))) (rs + (re ((8 * k3) + x))) else lmx) (if (!fox || decide (mgI (dr + (bu ((8 * k3) + x) * (nI (1 + k3) - nI 0))) (rs + (re ((8 * k3) + x))) < lmx)) = true then (nI sa) else ltx) (if (!fox || decide (mgI (dr + (bu ((8 * k3) + x) * (nI (1 + k3) - nI 0))) (rs + (re ((8 * k3) + x))) < lmx)) = true then (upd hgx x (nI k3)) else lhx) (by omega) (by omega) (by omega) (by show accR (if re (8 * k3 + x) = -1 then _ else _) _ _ _ _ _; rw [if_neg c_3]; exact accR_meet (by omega) hacc (fun k h1 h2 => hg_up hhg hpre k h1 (by omega)) (dv_l hx7 hsa hw8 (dv_a (y := k3) c_4 hdr)) ((rs_c hsa hrs).trans (by rw [show x + 1 - sa = 8 - sa by omega]))) (fun j hj => (pk_un (by omega)).trans (hpre j hj)) H locs (by rw [← er_12, ← er_13, ← er_14, ← er_15, ← er_16]; exact hP) (by rw [← er_12, ← er_13, ← er_14, ← er_15, ← er_16]; exact hD) hS ls (lv_sub hl [4, 5, 6, 7, 8, 0] rfl)
      · skip
        refine lv_goto (tgt := 116) hx hb dX3_walkFrom_28 (by decide) ?_
        refine lv_iinc (v := nI (k3 + 1)) (lv' := [(5, .int (nI (k3 + 1))), (6, .int (nI ((8 * k3) + x))), (0, .ref o), (1, .int (nI x)), (2, .int (nI hi)), (3, .int dr), (4, .int rs)]) hx hb dX3_walkFrom_116 hl (k := 6) rfl (nI_add _ _) (by decide) rfl (fun ls hl => ?_)
        refine lv_goto (tgt := 3) hx hb dX3_walkFrom_119 (by decide) ?_
        exact ih3 (k3 + 1) hgx blx fox lmx ltx lhx (by omega) (by omega) (by omega) (by show accR (if re (8 * k3 + x) = -1 then _ else _) _ _ _ _ _; rw [if_pos c_3]; exact hacc) (hpre) H locs hP hD hS ls (lv_sub hl [2, 3, 4, 5, 6, 0] rfl)
set_option maxHeartbeats 4000000 in
set_option maxRecDepth 100000 in
theorem c_X3_walkFrom_s (l : Launch) (G : va_G) (E : EvT) (cI cZ : ClassId) (d : Nat) (ih : K_X3_walkFrom l G E cI cZ d) : K_X3_walkFrom l G E cI cZ (d + 1) := by
  intro sa w ac fo x hi dr rs o a_re a_bu a_hg a_lh a_ba am bl lm lt re bu hg lh hxd hsa hhi hw8 hhx hhg hdr hrs hacc0
  refine mkWv (by decide) (Nat.le_of_ble_eq_true rfl) ?_
  intro zp ze s zm args below meth zc hx hb hr hml hown hts hlocks hE hK A hA hlow H locs hP hD hS ls hl
  have hl : lv_has ls 9 [(0, .ref o), (1, .int (nI x)), (2, .int (nI hi)), (3, .int dr), (4, .int rs)] := hl
  refine lv_iconst (v := 0) hx hb dX3_walkFrom_0 (by decide) ?_
  refine lv_istore (lv' := [(5, .int 0), (0, .ref o), (1, .int (nI x)), (2, .int (nI hi)), (3, .int dr), (4, .int rs)]) hx hb dX3_walkFrom_1 hl (by decide) rfl (fun ls hl => ?_)
  suffices lp3 : ∀ zn k3 : Nat, ∀ (hgx : Nat → Int32) (blx : Int32) (fox : Bool) (lmx : Int32) (ltx : Int32) (lhx : Nat → Int32) , 0 ≤ k3 → k3 ≤ (hi + 1) → (hi + 1) < k3 + zn → (accR (foldN (fun y a => if re (8 * y + x) = -1 then a else wkS re (metS re bu am sa) d (x + 1) y (upN w x y) a) k3 ac) blx fox lmx ltx lhx) → (∀ j, j < x → hgx j = hg j) → ∀ (H : Heap) (locs : List Loc), va_P G vwCl [(o, .inr (3, [.ref a_re, .ref a_bu, .ref a_hg, .int (nI sa), .int am, .ref a_ba, .int (bI fox), .int blx, .int lmx, .int ltx, .ref a_lh])), (a_re, .inl (cI, 48, .inl re)), (a_bu, .inl (cI, 48, .inl bu)), (a_hg, .inl (cI, 8, .inl hgx)), (a_lh, .inl (cI, 8, .inl lhx))] H → va_D A [(o, .inr (3, [.ref a_re, .ref a_bu, .ref a_hg, .int (nI sa), .int am, .ref a_ba, .int (bI fox), .int blx, .int lmx, .int ltx, .ref a_lh])), (a_re, .inl (cI, 48, .inl re)), (a_bu, .inl (cI, 48, .inl bu)), (a_hg, .inl (cI, 8, .inl hgx)), (a_lh, .inl (cI, 8, .inl lhx))] → va_S A s.heap H locs → ∀ ls : Array Slot, lv_has ls 9 [(0, .ref o), (1, .int (nI x)), (2, .int (nI hi)), (3, .int dr), (4, .int rs), (5, .int (nI k3))] → W zp l ze (rmK (3 + (d + 1))) s zm args below meth zc H locs 0 0 (MQ below (va_Qv (S := (Nat → Int32) × Int32 × Bool × Int32 × Int32 × (Nat → Int32)) (fun u => accR (wkS re (metS re bu am sa) (d + 1) x hi w ac) u.2.1 u.2.2.1 u.2.2.2.1 u.2.2.2.2.1 u.2.2.2.2.2 ∧ ∀ j, j < x → u.1 j = hg j) (fun u t => va_P G vwCl ((fun u => [(o, .inr (3, [.ref a_re, .ref a_bu, .ref a_hg, .int (nI sa), .int am, .ref a_ba, .int (bI u.2.2.1), .int u.2.1, .int u.2.2.2.1, .int u.2.2.2.2.1, .ref a_lh])), (a_re, .inl (cI, 48, .inl re)), (a_bu, .inl (cI, 48, .inl bu)), (a_hg, .inl (cI, 8, .inl u.1)), (a_lh, .inl (cI, 8, .inl u.2.2.2.2.2))]) u) t.heap) A) args s 0 0 A) (F0 zm 3 ls []) by
    have el_1 : (0 : Int32) = nI 0 := rfl
    exact lp3 ((hi + 1) + 1 - 0) 0 hg bl fo lm lt lh (by omega) (by omega) (by omega) (hacc0) (fun _ _ => rfl) H locs hP hD hS ls (lv_sub hl [1, 2, 3, 4, 5, 0] (show ([(0, .ref o), (1, .int (nI x)), (2, .int (nI hi)), (3, .int dr), (4, .int rs), (5, .int 0)] : List (Nat × Value)) = [(0, .ref o), (1, .int (nI x)), (2, .int (nI hi)), (3, .int dr), (4, .int rs), (5, .int (nI 0))] by rw [← el_1]))
  intro zn
  induction zn with
  | zero => exact fun k3 hgx blx fox lmx ltx lhx h1 h2 h3 => absurd h3 (by omega)
  | succ zn ih3 =>
    intro k3 hgx blx fox lmx ltx lhx hlo3 hhi3 hn3 hacc hpre H locs hP hD hS ls hl
    refine lv_iload hx hb dX3_walkFrom_3 (lv_at hl 5 rfl) ?_
    refine lv_iload_n hx hb dX3_walkFrom_5 rfl (lv_at hl 2 rfl) ?_
    refine lv_icmp_gt (tgt := 122) hx hb dX3_walkFrom_6 (by decide) (fun c_2 => ?_) (fun c_2 => ?_)
    · skip
      have c_2 : hi < k3 := (nI_ltI (a := hi) (b := k3) (by omega) (by omega)).mp c_2
      have hk9 : (hi + 1) = k3 := by omega
      subst hk9
      exact retWv (hgx, blx, fox, lmx, ltx, lhx) hx hb hr hlocks dX3_walkFrom_122 hS (⟨hacc, hpre⟩) hP
    · skip
      have c_2 : ¬ hi < k3 := fun h9 => c_2 ((nI_ltI (a := hi) (b := k3) (by omega) (by omega)).mpr h9)
      refine lv_iload_n hx hb dX3_walkFrom_9 rfl (lv_at hl 1 rfl) ?_
      refine lv_iload hx hb dX3_walkFrom_10 (lv_at hl 5 rfl) ?_
      refine cRSN (As := [.int (nI x), .int (nI k3)]) (rest := []) hx hb hml hown hts (c_X6_placeOf l G E cI cZ x k3) (hE.2.1.2.1 ("EarthBanks$Slides", 53, yX6_placeOf, "EarthBanks") (by decide +kernel)) cal_X6_placeOf ⟨by show 1 + 1 ≤ 3 + (d + 1); omega, by show 8 + (2 + 11) + 64 * (1) ≤ 64 * (3 + (d + 1)); omega⟩ hE hlow hS hK [0, 1] rfl hP [] rfl rfl hl.1 rfl (Nat.le_of_ble_eq_true rfl) dX3_walkFrom_12 ⟨Nat.zero_le _, Nat.zero_le _⟩ ?_
      refine lv_istore (lv' := [(6, .int (nI ((8 * k3) + x))), (0, .ref o), (1, .int (nI x)), (2, .int (nI hi)), (3, .int dr), (4, .int rs), (5, .int (nI k3))]) hx hb dX3_walkFrom_15 hl (by decide) rfl (fun ls hl => ?_)
      refine lv_aload_n hx hb dX3_walkFrom_17 rfl (lv_at hl 1 rfl) ?_
      refine va_get (D := G) (ci := 3) (v := .ref a_re) (C := RX3) (T := TX3) (N := 11) hx hb hts inlX3 hown hK hP 0 rfl rfl 0 (by decide) (hts (.fieldLink RX3 9 "EarthBanks$Slides" "rests" "[I") k_4_13) (fun _ h9 => h9) rfl dX3_walkFrom_18 ?_
      refine lv_iload hx hb dX3_walkFrom_21 (lv_at hl 0 rfl) ?_
      refine ialdN (j := ((8 * k3) + x)) hx hb hK hP 1 0 rfl rfl (by omega) (by decide) dX3_walkFrom_23 ?_
      refine lv_iconst (v := (-1)) hx hb dX3_walkFrom_24 (by decide) ?_
      refine lv_icmp_ne (tgt := 31) hx hb dX3_walkFrom_25 (by decide) (fun c_3 => ?_) (fun c_3 => ?_)
      · skip
        refine lv_aload_n hx hb dX3_walkFrom_31 rfl (lv_at hl 1 rfl) ?_
        refine va_get (D := G) (ci := 3) (v := .ref a_hg) (C := RX3) (T := TX3) (N := 11) hx hb hts inlX3 hown hK hP 0 rfl rfl 2 (by decide) (hts (.fieldLink RX3 18 "EarthBanks$Slides" "heights" "[I") k_4_15) (fun _ h9 => h9) rfl dX3_walkFrom_32 ?_
        refine lv_iload_n hx hb dX3_walkFrom_35 rfl (lv_at hl 2 rfl) ?_
        refine lv_iload hx hb dX3_walkFrom_36 (lv_at hl 6 rfl) ?_
        refine iastN (j := x) hx hb hK hP hD hS 3 0 rfl rfl (by omega) (by decide) dX3_walkFrom_38 (fun H locs hP hD hS => ?_)
        have hP : va_P G vwCl [(o, .inr (3, [.ref a_re, .ref a_bu, .ref a_hg, .int (nI sa), .int am, .ref a_ba, .int (bI fox), .int blx, .int lmx, .int ltx, .ref a_lh])), (a_re, .inl (cI, 48, .inl re)), (a_bu, .inl (cI, 48, .inl bu)), (a_hg, .inl (cI, 8, .inl (upd hgx x (nI k3)))), (a_lh, .inl (cI, 8, .inl lhx))] H := hP
        have hD : va_D A [(o, .inr (3, [.ref a_re, .ref a_bu, .ref a_hg, .int (nI sa), .int am, .ref a_ba, .int (bI fox), .int blx, .int lmx, .int ltx, .ref a_lh])), (a_re, .inl (cI, 48, .inl re)), (a_bu, .inl (cI, 48, .inl bu)), (a_hg, .inl (cI, 8, .inl (upd hgx x (nI k3)))), (a_lh, .inl (cI, 8, .inl lhx))] := hD
        refine lv_iload_n hx hb dX3_walkFrom_39 rfl (lv_at hl 2 rfl) ?_
        refine lv_aload_n hx hb dX3_walkFrom_40 rfl (lv_at hl 1 rfl) ?_
        refine va_get (D := G) (ci := 3) (v := .int (nI sa)) (C := RX3) (T := TX3) (N := 11) hx hb hts inlX3 hown hK hP 0 rfl rfl 3 (by decide) (hts (.fieldLink RX3 21 "EarthBanks$Slides" "start" "I") k_4_16) (fun _ h9 => h9) rfl dX3_walkFrom_41 ?_
        refine lv_icmp_ne (tgt := 51) hx hb dX3_walkFrom_44 (by decide) (fun c_4 => ?_) (fun c_4 => ?_)
        · skip
          have c_4 : ¬ x = sa := fun h9 => c_4 ((nI_eq (a := x) (b := sa) (by omega) (by omega)).mpr h9)
          refine lv_iload_n hx hb dX3_walkFrom_51 rfl (lv_at hl 4 rfl) ?_
          refine lv_aload_n hx hb dX3_walkFrom_52 rfl (lv_at hl 1 rfl) ?_
          refine lv_iload_n hx hb dX3_walkFrom_53 rfl (lv_at hl 2 rfl) ?_
          refine lv_iconst (v := 1) hx hb dX3_walkFrom_54 (by decide) ?_
          refine lv_isub hx hb dX3_walkFrom_55 ?_
          refine top_eq (y := nI (x - 1)) (pk_sub (a := x) (b := 1) (by omega)) ?_
          refine lv_iload_n hx hb dX3_walkFrom_56 rfl (lv_at hl 3 rfl) ?_
          refine lv_iload hx hb dX3_walkFrom_57 (lv_at hl 6 rfl) ?_
          refine cRV (As := [.int (nI (x - 1)), .int (nI hi), .int (nI k3)]) (rest := [.int dr]) hx hb hml hown hts (c_X3_driveOf l G E cI cZ (x - 1) hi k3 o a_bu [.ref a_re, .ref a_bu, .ref a_hg, .int (nI sa), .int am, .ref a_ba, .int (bI fox), .int blx, .int lmx, .int ltx, .ref a_lh] rfl bu (by first | assumption | omega | simp [bI, c_2, c_3, c_4]) (by first | assumption | omega | simp [bI, c_2, c_3, c_4])) k_26_1 cal_X3_driveOf ⟨by show 2 + 1 ≤ 3 + (d + 1); omega, by show 8 + (4 + 11) + 64 * (2) ≤ 64 * (3 + (d + 1)); omega⟩ hE hlow hS hK [0, 1] rfl hP [0, 2] rfl 0 3 rfl rfl rfl hl.1 rfl (Nat.le_of_ble_eq_true rfl) dX3_walkFrom_59 ⟨Nat.zero_le _, Nat.zero_le _⟩ ?_
          refine lv_iadd hx hb dX3_walkFrom_62 ?_
          refine lv_istore (lv' := [(7, .int (dr + (bu ((8 * hi) + (x - 1)) * (nI (1 + hi) - nI k3)))), (6, .int (nI ((8 * k3) + x))), (0, .ref o), (1, .int (nI x)), (2, .int (nI hi)), (3, .int dr), (4, .int rs), (5, .int (nI k3))]) hx hb dX3_walkFrom_63 hl (by decide) rfl (fun ls hl => ?_)
          refine lv_iload hx hb dX3_walkFrom_65 (lv_at hl 6 rfl) ?_
          refine lv_aload_n hx hb dX3_walkFrom_67 rfl (lv_at hl 2 rfl) ?_
          refine va_get (D := G) (ci := 3) (v := .ref a_re) (C := RX3) (T := TX3) (N := 11) hx hb hts inlX3 hown hK hP 0 rfl rfl 0 (by decide) (hts (.fieldLink RX3 9 "EarthBanks$Slides" "rests" "[I") k_4_13) (fun _ h9 => h9) rfl dX3_walkFrom_68 ?_
          refine lv_iload hx hb dX3_walkFrom_71 (lv_at hl 1 rfl) ?_
          refine ialdN (j := ((8 * k3) + x)) hx hb hK hP 1 0 rfl rfl (by omega) (by decide) dX3_walkFrom_73 ?_
          refine lv_iadd hx hb dX3_walkFrom_74 ?_
          refine lv_istore (lv' := [(8, .int (rs + (re ((8 * k3) + x)))), (7, .int (dr + (bu ((8 * hi) + (x - 1)) * (nI (1 + hi) - nI k3)))), (6, .int (nI ((8 * k3) + x))), (0, .ref o), (1, .int (nI x)), (2, .int (nI hi)), (3, .int dr), (4, .int rs), (5, .int (nI k3))]) hx hb dX3_walkFrom_75 hl (by decide) rfl (fun ls hl => ?_)
          refine lv_iload_n hx hb dX3_walkFrom_77 rfl (lv_at hl 4 rfl) ?_
          refine lv_bipush (v := 7) hx hb dX3_walkFrom_78 (by decide) ?_
          refine lv_icmp_ne (tgt := 103) hx hb dX3_walkFrom_80 (by decide) (fun c_5 => ?_) (fun c_5 => ?_)
          · skip
            have c_5 : ¬ x = 7 := fun h9 => c_5 ((nI_eq (a := x) (b := 7) (by omega) (by omega)).mpr h9)
            refine lv_aload_n hx hb dX3_walkFrom_103 rfl (lv_at hl 3 rfl) ?_
            refine lv_iload_n hx hb dX3_walkFrom_104 rfl (lv_at hl 4 rfl) ?_
            refine lv_iconst (v := 1) hx hb dX3_walkFrom_105 (by decide) ?_
            refine lv_iadd hx hb dX3_walkFrom_106 ?_
            refine top_eq (y := nI (x + 1)) (nI_add _ _) ?_
            refine lv_iload hx hb dX3_walkFrom_107 (lv_at hl 8 rfl) ?_
            refine lv_iload hx hb dX3_walkFrom_109 (lv_at hl 1 rfl) ?_
            refine lv_iload hx hb dX3_walkFrom_111 (lv_at hl 0 rfl) ?_
            refine cWVv (As := [.int (nI (x + 1)), .int (nI k3), .int (dr + (bu ((8 * hi) + (x - 1)) * (nI (1 + hi) - nI k3))), .int (rs + (re ((8 * k3) + x)))]) (rest := []) hx hb hml hown hts (ih sa (upN w x k3) (foldN (fun y a => if re (8 * y + x) = -1 then a else wkS re (metS re bu am sa) d (x + 1) y (upN w x y) a) k3 ac) fox (x + 1) k3 (dr + (bu ((8 * hi) + (x - 1)) * (nI (1 + hi) - nI k3))) (rs + (re ((8 * k3) + x))) o a_re a_bu a_hg a_lh a_ba am blx lmx ltx re bu (upd hgx x (nI k3)) lhx (by omega) (by omega) (by omega) (by rw [upN_n (by omega)]; exact hw8) (Or.inr ⟨by omega, by rw [show x + 1 - 1 = x by omega, upN_s]⟩) (hg_up hhg hpre) ((dv_b (y := k3) c_4 hsa hhx hdr)) (rs_c hsa hrs) (hacc)) k_25_21 cal_X3_walkFrom ⟨by show 3 + d + 1 ≤ 3 + (d + 1); omega, by show 8 + (9 + 11) + 64 * (3 + d) ≤ 64 * (3 + (d + 1)); omega⟩ hE hA hlow hD hS hK [0, 1] rfl hP [0, 1, 2, 3, 4] rfl (by decide) [o, a_re, a_bu, a_hg, a_lh] rfl (fun _ => rfl) [] [] (fun u => [(o, .inr (3, [.ref a_re, .ref a_bu, .ref a_hg, .int (nI sa), .int am, .ref a_ba, .int (bI u.2.2.1), .int u.2.1, .int u.2.2.2.1, .int u.2.2.2.2.1, .ref a_lh])), (a_re, .inl (cI, 48, .inl re)), (a_bu, .inl (cI, 48, .inl bu)), (a_hg, .inl (cI, 8, .inl u.1)), (a_lh, .inl (cI, 8, .inl u.2.2.2.2.2))]) 5 rfl (fun _ => rfl) (fun _ => rfl) (fun _ => rfl) (by decide) (by decide) 0 3 rfl rfl rfl hl.1 rfl (Nat.le_of_ble_eq_true rfl) dX3_walkFrom_113 ⟨Nat.zero_le _, Nat.zero_le _⟩ (fun u H locs hr_ hP hD hS => ?_)
            obtain ⟨hg2_6, bl2_7, fo2_8, lm2_9, lt2_10, lh2_11⟩ := u
            have hp_12 : accR (wkS re (metS re bu am sa) d (x + 1) k3 (upN w x k3) (foldN (fun y a => if re (8 * y + x) = -1 then a else wkS re (metS re bu am sa) d (x + 1) y (upN w x y) a) k3 ac)) bl2_7 fo2_8 lm2_9 lt2_10 lh2_11 ∧ ∀ j, j < (x + 1) → hg2_6 j = (upd hgx x (nI k3)) j := hr_
            have hP : va_P G vwCl [(o, .inr (3, [.ref a_re, .ref a_bu, .ref a_hg, .int (nI sa), .int am, .ref a_ba, .int (bI fo2_8), .int bl2_7, .int lm2_9, .int lt2_10, .ref a_lh])), (a_re, .inl (cI, 48, .inl re)), (a_bu, .inl (cI, 48, .inl bu)), (a_hg, .inl (cI, 8, .inl hg2_6)), (a_lh, .inl (cI, 8, .inl lh2_11))] H := hP
            have hD : va_D A [(o, .inr (3, [.ref a_re, .ref a_bu, .ref a_hg, .int (nI sa), .int am, .ref a_ba, .int (bI fo2_8), .int bl2_7, .int lm2_9, .int lt2_10, .ref a_lh])), (a_re, .inl (cI, 48, .inl re)), (a_bu, .inl (cI, 48, .inl bu)), (a_hg, .inl (cI, 8, .inl hg2_6)), (a_lh, .inl (cI, 8, .inl lh2_11))] := hD
            have hpw := hp_12
            refine lv_iinc (v := nI (k3 + 1)) (lv' := [(5, .int (nI (k3 + 1))), (8, .int (rs + (re ((8 * k3) + x)))), (7, .int (dr + (bu ((8 * hi) + (x - 1)) * (nI (1 + hi) - nI k3)))), (6, .int (nI ((8 * k3) + x))), (0, .ref o), (1, .int (nI x)), (2, .int (nI hi)), (3, .int dr), (4, .int rs)]) hx hb dX3_walkFrom_116 hl (k := 8) rfl (nI_add _ _) (by decide) rfl (fun ls hl => ?_)
            refine lv_goto (tgt := 3) hx hb dX3_walkFrom_119 (by decide) ?_
            exact ih3 (k3 + 1) hg2_6 bl2_7 fo2_8 lm2_9 lt2_10 lh2_11 (by omega) (by omega) (by omega) (by show accR (if re (8 * k3 + x) = -1 then _ else _) _ _ _ _ _; rw [if_neg c_3]; exact hpw.1) (fun j hj => (hpw.2 j (by omega)).trans ((pk_un (by omega)).trans (hpre j hj))) H locs hP hD hS ls (lv_sub hl [4, 5, 6, 7, 8, 0] rfl)
          · skip
            have c_5 : x = 7 := (nI_eq (a := x) (b := 7) (by omega) (by omega)).mp c_5
            exact absurd c_5 (by omega)
        · skip
          have c_4 : x = sa := (nI_eq (a := x) (b := sa) (by omega) (by omega)).mp c_4
          refine lv_iload_n hx hb dX3_walkFrom_47 rfl (lv_at hl 4 rfl) ?_
          refine lv_goto (tgt := 63) hx hb dX3_walkFrom_48 (by decide) ?_
          refine lv_istore (lv' := [(7, .int dr), (6, .int (nI ((8 * k3) + x))), (0, .ref o), (1, .int (nI x)), (2, .int (nI hi)), (3, .int dr), (4, .int rs), (5, .int (nI k3))]) hx hb dX3_walkFrom_63 hl (by decide) rfl (fun ls hl => ?_)
          refine lv_iload hx hb dX3_walkFrom_65 (lv_at hl 6 rfl) ?_
          refine lv_aload_n hx hb dX3_walkFrom_67 rfl (lv_at hl 2 rfl) ?_
          refine va_get (D := G) (ci := 3) (v := .ref a_re) (C := RX3) (T := TX3) (N := 11) hx hb hts inlX3 hown hK hP 0 rfl rfl 0 (by decide) (hts (.fieldLink RX3 9 "EarthBanks$Slides" "rests" "[I") k_4_13) (fun _ h9 => h9) rfl dX3_walkFrom_68 ?_
          refine lv_iload hx hb dX3_walkFrom_71 (lv_at hl 1 rfl) ?_
          refine ialdN (j := ((8 * k3) + x)) hx hb hK hP 1 0 rfl rfl (by omega) (by decide) dX3_walkFrom_73 ?_
          refine lv_iadd hx hb dX3_walkFrom_74 ?_
          refine lv_istore (lv' := [(8, .int (rs + (re ((8 * k3) + x)))), (7, .int dr), (6, .int (nI ((8 * k3) + x))), (0, .ref o), (1, .int (nI x)), (2, .int (nI hi)), (3, .int dr), (4, .int rs), (5, .int (nI k3))]) hx hb dX3_walkFrom_75 hl (by decide) rfl (fun ls hl => ?_)
          refine lv_iload_n hx hb dX3_walkFrom_77 rfl (lv_at hl 4 rfl) ?_
          refine lv_bipush (v := 7) hx hb dX3_walkFrom_78 (by decide) ?_
          refine lv_icmp_ne (tgt := 103) hx hb dX3_walkFrom_80 (by decide) (fun c_13 => ?_) (fun c_13 => ?_)
          · skip
            have c_13 : ¬ x = 7 := fun h9 => c_13 ((nI_eq (a := x) (b := 7) (by omega) (by omega)).mpr h9)
            refine lv_aload_n hx hb dX3_walkFrom_103 rfl (lv_at hl 3 rfl) ?_
            refine lv_iload_n hx hb dX3_walkFrom_104 rfl (lv_at hl 4 rfl) ?_
            refine lv_iconst (v := 1) hx hb dX3_walkFrom_105 (by decide) ?_
            refine lv_iadd hx hb dX3_walkFrom_106 ?_
            refine top_eq (y := nI (x + 1)) (nI_add _ _) ?_
            refine lv_iload hx hb dX3_walkFrom_107 (lv_at hl 8 rfl) ?_
            refine lv_iload hx hb dX3_walkFrom_109 (lv_at hl 1 rfl) ?_
            refine lv_iload hx hb dX3_walkFrom_111 (lv_at hl 0 rfl) ?_
            refine cWVv (As := [.int (nI (x + 1)), .int (nI k3), .int dr, .int (rs + (re ((8 * k3) + x)))]) (rest := []) hx hb hml hown hts (ih sa (upN w x k3) (foldN (fun y a => if re (8 * y + x) = -1 then a else wkS re (metS re bu am sa) d (x + 1) y (upN w x y) a) k3 ac) fox (x + 1) k3 dr (rs + (re ((8 * k3) + x))) o a_re a_bu a_hg a_lh a_ba am blx lmx ltx re bu (upd hgx x (nI k3)) lhx (by omega) (by omega) (by omega) (by rw [upN_n (by omega)]; exact hw8) (Or.inr ⟨by omega, by rw [show x + 1 - 1 = x by omega, upN_s]⟩) (hg_up hhg hpre) ((dv_a (y := k3) c_4 hdr)) (rs_c hsa hrs) (hacc)) k_25_21 cal_X3_walkFrom ⟨by show 3 + d + 1 ≤ 3 + (d + 1); omega, by show 8 + (9 + 11) + 64 * (3 + d) ≤ 64 * (3 + (d + 1)); omega⟩ hE hA hlow hD hS hK [0, 1] rfl hP [0, 1, 2, 3, 4] rfl (by decide) [o, a_re, a_bu, a_hg, a_lh] rfl (fun _ => rfl) [] [] (fun u => [(o, .inr (3, [.ref a_re, .ref a_bu, .ref a_hg, .int (nI sa), .int am, .ref a_ba, .int (bI u.2.2.1), .int u.2.1, .int u.2.2.2.1, .int u.2.2.2.2.1, .ref a_lh])), (a_re, .inl (cI, 48, .inl re)), (a_bu, .inl (cI, 48, .inl bu)), (a_hg, .inl (cI, 8, .inl u.1)), (a_lh, .inl (cI, 8, .inl u.2.2.2.2.2))]) 5 rfl (fun _ => rfl) (fun _ => rfl) (fun _ => rfl) (by decide) (by decide) 0 3 rfl rfl rfl hl.1 rfl (Nat.le_of_ble_eq_true rfl) dX3_walkFrom_113 ⟨Nat.zero_le _, Nat.zero_le _⟩ (fun u H locs hr_ hP hD hS => ?_)
            obtain ⟨hg2_14, bl2_15, fo2_16, lm2_17, lt2_18, lh2_19⟩ := u
            have hp_20 : accR (wkS re (metS re bu am sa) d (x + 1) k3 (upN w x k3) (foldN (fun y a => if re (8 * y + x) = -1 then a else wkS re (metS re bu am sa) d (x + 1) y (upN w x y) a) k3 ac)) bl2_15 fo2_16 lm2_17 lt2_18 lh2_19 ∧ ∀ j, j < (x + 1) → hg2_14 j = (upd hgx x (nI k3)) j := hr_
            have hP : va_P G vwCl [(o, .inr (3, [.ref a_re, .ref a_bu, .ref a_hg, .int (nI sa), .int am, .ref a_ba, .int (bI fo2_16), .int bl2_15, .int lm2_17, .int lt2_18, .ref a_lh])), (a_re, .inl (cI, 48, .inl re)), (a_bu, .inl (cI, 48, .inl bu)), (a_hg, .inl (cI, 8, .inl hg2_14)), (a_lh, .inl (cI, 8, .inl lh2_19))] H := hP
            have hD : va_D A [(o, .inr (3, [.ref a_re, .ref a_bu, .ref a_hg, .int (nI sa), .int am, .ref a_ba, .int (bI fo2_16), .int bl2_15, .int lm2_17, .int lt2_18, .ref a_lh])), (a_re, .inl (cI, 48, .inl re)), (a_bu, .inl (cI, 48, .inl bu)), (a_hg, .inl (cI, 8, .inl hg2_14)), (a_lh, .inl (cI, 8, .inl lh2_19))] := hD
            have hpw := hp_20
            refine lv_iinc (v := nI (k3 + 1)) (lv' := [(5, .int (nI (k3 + 1))), (8, .int (rs + (re ((8 * k3) + x)))), (7, .int dr), (6, .int (nI ((8 * k3) + x))), (0, .ref o), (1, .int (nI x)), (2, .int (nI hi)), (3, .int dr), (4, .int rs)]) hx hb dX3_walkFrom_116 hl (k := 8) rfl (nI_add _ _) (by decide) rfl (fun ls hl => ?_)
            refine lv_goto (tgt := 3) hx hb dX3_walkFrom_119 (by decide) ?_
            exact ih3 (k3 + 1) hg2_14 bl2_15 fo2_16 lm2_17 lt2_18 lh2_19 (by omega) (by omega) (by omega) (by show accR (if re (8 * k3 + x) = -1 then _ else _) _ _ _ _ _; rw [if_neg c_3]; exact hpw.1) (fun j hj => (hpw.2 j (by omega)).trans ((pk_un (by omega)).trans (hpre j hj))) H locs hP hD hS ls (lv_sub hl [4, 5, 6, 7, 8, 0] rfl)
          · skip
            have c_13 : x = 7 := (nI_eq (a := x) (b := 7) (by omega) (by omega)).mp c_13
            exact absurd c_13 (by omega)
      · skip
        refine lv_goto (tgt := 116) hx hb dX3_walkFrom_28 (by decide) ?_
        refine lv_iinc (v := nI (k3 + 1)) (lv' := [(5, .int (nI (k3 + 1))), (6, .int (nI ((8 * k3) + x))), (0, .ref o), (1, .int (nI x)), (2, .int (nI hi)), (3, .int dr), (4, .int rs)]) hx hb dX3_walkFrom_116 hl (k := 6) rfl (nI_add _ _) (by decide) rfl (fun ls hl => ?_)
        refine lv_goto (tgt := 3) hx hb dX3_walkFrom_119 (by decide) ?_
        exact ih3 (k3 + 1) hgx blx fox lmx ltx lhx (by omega) (by omega) (by omega) (by show accR (if re (8 * k3 + x) = -1 then _ else _) _ _ _ _ _; rw [if_pos c_3]; exact hacc) (hpre) H locs hP hD hS ls (lv_sub hl [2, 3, 4, 5, 6, 0] rfl)
theorem c_X3_walkFrom (l : Launch) (G : va_G) (E : EvT) (cI cZ : ClassId) : ∀ d, K_X3_walkFrom l G E cI cZ d
  | 0 => c_X3_walkFrom_0 l G E cI cZ
  | d + 1 => c_X3_walkFrom_s l G E cI cZ d (c_X3_walkFrom l G E cI cZ d)
theorem cal_X3_walkAll : calV yX3_walkAll cX3_walkAll 3 none 1 := ⟨k_25_20, k_2_8, k_25_18, k_25_19, by decide +kernel⟩
set_option maxHeartbeats 4000000 in
set_option maxRecDepth 100000 in
theorem c_X3_walkAll (l : Launch) (G : va_G) (E : EvT) (cI cZ : ClassId) (fo : Bool) (aq : Int32) (o : Nat) (a_re : Nat) (a_bu : Nat) (a_hg : Nat) (a_lh : Nat) (a_ba : Nat) (sa : Int32) (am : Int32) (bl : Int32) (lm : Int32) (lt : Int32) (re : Nat → Int32) (bu : Nat → Int32) (hg : Nat → Int32) (lh : Nat → Int32) : cWv (S := (Nat → Int32) × Int32 × Bool × Int32 × Int32 × (Nat → Int32) × Int32) l G E yX3_walkAll cX3_walkAll 3 none 12 [(cI, .int), (cZ, .boolean)] [.ref o, .int aq] [(o, .inr (3, [.ref a_re, .ref a_bu, .ref a_hg, .int sa, .int am, .ref a_ba, .int (bI fo), .int bl, .int lm, .int lt, .ref a_lh])), (a_re, .inl (cI, 48, .inl re)), (a_bu, .inl (cI, 48, .inl bu)), (a_hg, .inl (cI, 8, .inl hg)), (a_lh, .inl (cI, 8, .inl lh))] (fun u => accR (walS re bu aq 8) u.2.1 u.2.2.1 u.2.2.2.1 u.2.2.2.2.1 u.2.2.2.2.2.1) (fun u => [(o, .inr (3, [.ref a_re, .ref a_bu, .ref a_hg, .int u.2.2.2.2.2.2, .int aq, .ref a_ba, .int (bI u.2.2.1), .int u.2.1, .int u.2.2.2.1, .int u.2.2.2.2.1, .ref a_lh])), (a_re, .inl (cI, 48, .inl re)), (a_bu, .inl (cI, 48, .inl bu)), (a_hg, .inl (cI, 8, .inl u.1)), (a_lh, .inl (cI, 8, .inl u.2.2.2.2.2.1))]) := by
  refine mkWv (by decide) (Nat.le_of_ble_eq_true rfl) ?_
  intro zp ze s zm args below meth zc hx hb hr hml hown hts hlocks hE hK A hA hlow H locs hP hD hS ls hl
  have hl : lv_has ls 3 [(0, .ref o), (1, .int aq)] := hl
  refine lv_aload_n hx hb dX3_walkAll_0 rfl (lv_at hl 0 rfl) ?_
  refine lv_iload_n hx hb dX3_walkAll_1 rfl (lv_at hl 1 rfl) ?_
  refine va_put (D := G) (ci := 3) (v := .int aq) (ty := .int) (C := RX3) (T := TX3) (N := 11) hx hb hts inlX3 tyX3 tyX3_ok nmX3 hown hK hP hD hS 0 rfl rfl 4 (by decide) (hts (.fieldLink RX3 25 "EarthBanks$Slides" "aim" "I") k_4_17) (fun _ h9 => h9) rfl (by decide +kernel) (rfl) (rfl) (Nat.le_of_ble_eq_true rfl) dX3_walkAll_2 (fun H locs hP hD hS => ?_)
  have hP : va_P G vwCl [(o, .inr (3, [.ref a_re, .ref a_bu, .ref a_hg, .int sa, .int aq, .ref a_ba, .int (bI fo), .int bl, .int lm, .int lt, .ref a_lh])), (a_re, .inl (cI, 48, .inl re)), (a_bu, .inl (cI, 48, .inl bu)), (a_hg, .inl (cI, 8, .inl hg)), (a_lh, .inl (cI, 8, .inl lh))] H := hP
  have hD : va_D A [(o, .inr (3, [.ref a_re, .ref a_bu, .ref a_hg, .int sa, .int aq, .ref a_ba, .int (bI fo), .int bl, .int lm, .int lt, .ref a_lh])), (a_re, .inl (cI, 48, .inl re)), (a_bu, .inl (cI, 48, .inl bu)), (a_hg, .inl (cI, 8, .inl hg)), (a_lh, .inl (cI, 8, .inl lh))] := hD
  refine lv_aload_n hx hb dX3_walkAll_5 rfl (lv_at hl 0 rfl) ?_
  refine lv_iconst (v := 0) hx hb dX3_walkAll_6 (by decide) ?_
  refine va_put (D := G) (ci := 3) (v := .int 0) (ty := .int) (C := RX3) (T := TX3) (N := 11) hx hb hts inlX3 tyX3 tyX3_ok nmX3 hown hK hP hD hS 0 rfl rfl 7 (by decide) (hts (.fieldLink RX3 35 "EarthBanks$Slides" "belowAim" "I") k_4_20) (fun _ h9 => h9) rfl (by decide +kernel) (rfl) (rfl) (Nat.le_of_ble_eq_true rfl) dX3_walkAll_7 (fun H locs hP hD hS => ?_)
  have hP : va_P G vwCl [(o, .inr (3, [.ref a_re, .ref a_bu, .ref a_hg, .int sa, .int aq, .ref a_ba, .int (bI fo), .int 0, .int lm, .int lt, .ref a_lh])), (a_re, .inl (cI, 48, .inl re)), (a_bu, .inl (cI, 48, .inl bu)), (a_hg, .inl (cI, 8, .inl hg)), (a_lh, .inl (cI, 8, .inl lh))] H := hP
  have hD : va_D A [(o, .inr (3, [.ref a_re, .ref a_bu, .ref a_hg, .int sa, .int aq, .ref a_ba, .int (bI fo), .int 0, .int lm, .int lt, .ref a_lh])), (a_re, .inl (cI, 48, .inl re)), (a_bu, .inl (cI, 48, .inl bu)), (a_hg, .inl (cI, 8, .inl hg)), (a_lh, .inl (cI, 8, .inl lh))] := hD
  refine lv_aload_n hx hb dX3_walkAll_10 rfl (lv_at hl 0 rfl) ?_
  refine lv_iconst (v := 0) hx hb dX3_walkAll_11 (by decide) ?_
  refine va_put (D := G) (ci := 3) (v := .int 0) (ty := .boolean) (C := RX3) (T := TX3) (N := 11) hx hb hts inlX3 tyX3 tyX3_ok nmX3 hown hK hP hD hS 0 rfl rfl 6 (by decide) (hts (.fieldLink RX3 31 "EarthBanks$Slides" "found" "Z") k_4_19) (fun _ h9 => h9) rfl (by decide +kernel) (rfl) (rfl) (Nat.le_of_ble_eq_true rfl) dX3_walkAll_12 (fun H locs hP hD hS => ?_)
  have hP : va_P G vwCl [(o, .inr (3, [.ref a_re, .ref a_bu, .ref a_hg, .int sa, .int aq, .ref a_ba, .int 0, .int 0, .int lm, .int lt, .ref a_lh])), (a_re, .inl (cI, 48, .inl re)), (a_bu, .inl (cI, 48, .inl bu)), (a_hg, .inl (cI, 8, .inl hg)), (a_lh, .inl (cI, 8, .inl lh))] H := hP
  have hD : va_D A [(o, .inr (3, [.ref a_re, .ref a_bu, .ref a_hg, .int sa, .int aq, .ref a_ba, .int 0, .int 0, .int lm, .int lt, .ref a_lh])), (a_re, .inl (cI, 48, .inl re)), (a_bu, .inl (cI, 48, .inl bu)), (a_hg, .inl (cI, 8, .inl hg)), (a_lh, .inl (cI, 8, .inl lh))] := hD
  refine lv_iconst (v := 0) hx hb dX3_walkAll_15 (by decide) ?_
  refine lv_istore_n (lv' := [(2, .int 0), (0, .ref o), (1, .int aq)]) hx hb dX3_walkAll_16 rfl hl (by decide) rfl (fun ls hl => ?_)
  suffices lp17 : ∀ zn k17 : Nat, ∀ (hgx : Nat → Int32) (blx : Int32) (fox : Bool) (lmx : Int32) (ltx : Int32) (lhx : Nat → Int32) (sax : Int32) , 0 ≤ k17 → k17 ≤ 8 → 8 < k17 + zn → (accR (walS re bu aq k17) blx fox lmx ltx lhx) → ∀ (H : Heap) (locs : List Loc), va_P G vwCl [(o, .inr (3, [.ref a_re, .ref a_bu, .ref a_hg, .int sax, .int aq, .ref a_ba, .int (bI fox), .int blx, .int lmx, .int ltx, .ref a_lh])), (a_re, .inl (cI, 48, .inl re)), (a_bu, .inl (cI, 48, .inl bu)), (a_hg, .inl (cI, 8, .inl hgx)), (a_lh, .inl (cI, 8, .inl lhx))] H → va_D A [(o, .inr (3, [.ref a_re, .ref a_bu, .ref a_hg, .int sax, .int aq, .ref a_ba, .int (bI fox), .int blx, .int lmx, .int ltx, .ref a_lh])), (a_re, .inl (cI, 48, .inl re)), (a_bu, .inl (cI, 48, .inl bu)), (a_hg, .inl (cI, 8, .inl hgx)), (a_lh, .inl (cI, 8, .inl lhx))] → va_S A s.heap H locs → ∀ ls : Array Slot, lv_has ls 3 [(0, .ref o), (1, .int aq), (2, .int (nI k17))] → W zp l ze (rmK 12) s zm args below meth zc H locs 0 0 (MQ below (va_Qv (S := (Nat → Int32) × Int32 × Bool × Int32 × Int32 × (Nat → Int32) × Int32) (fun u => accR (walS re bu aq 8) u.2.1 u.2.2.1 u.2.2.2.1 u.2.2.2.2.1 u.2.2.2.2.2.1) (fun u t => va_P G vwCl ((fun u => [(o, .inr (3, [.ref a_re, .ref a_bu, .ref a_hg, .int u.2.2.2.2.2.2, .int aq, .ref a_ba, .int (bI u.2.2.1), .int u.2.1, .int u.2.2.2.1, .int u.2.2.2.2.1, .ref a_lh])), (a_re, .inl (cI, 48, .inl re)), (a_bu, .inl (cI, 48, .inl bu)), (a_hg, .inl (cI, 8, .inl u.1)), (a_lh, .inl (cI, 8, .inl u.2.2.2.2.2.1))]) u) t.heap) A) args s 0 0 A) (F0 zm 17 ls []) by
    have el_1 : (0 : Int32) = nI 0 := rfl
    have er_2 : (0 : Int32) = bI false := by simp [bI]
    exact lp17 (8 + 1 - 0) 0 hg 0 false lm lt lh sa (by omega) (by omega) (by omega) (⟨rfl, rfl⟩) H locs (by rw [← er_2]; exact hP) (by rw [← er_2]; exact hD) hS ls (lv_sub hl [1, 2, 0] (show ([(0, .ref o), (1, .int aq), (2, .int 0)] : List (Nat × Value)) = [(0, .ref o), (1, .int aq), (2, .int (nI 0))] by rw [← el_1]))
  intro zn
  induction zn with
  | zero => exact fun k17 hgx blx fox lmx ltx lhx sax h1 h2 h3 => absurd h3 (by omega)
  | succ zn ih17 =>
    intro k17 hgx blx fox lmx ltx lhx sax hlo17 hhi17 hn17 hacc H locs hP hD hS ls hl
    refine lv_iload_n hx hb dX3_walkAll_17 rfl (lv_at hl 2 rfl) ?_
    refine lv_bipush (v := 8) hx hb dX3_walkAll_18 (by decide) ?_
    refine lv_icmp_ge (tgt := 42) hx hb dX3_walkAll_20 (by decide) (fun c_3 => ?_) (fun c_3 => ?_)
    · skip
      have c_3 : 8 ≤ k17 := (nI_leI (a := 8) (b := k17) (by omega) (by omega)).mp c_3
      have hk9 : 8 = k17 := by omega
      subst hk9
      exact retWv (hgx, blx, fox, lmx, ltx, lhx, sax) hx hb hr hlocks dX3_walkAll_42 hS (hacc) hP
    · skip
      have c_3 : ¬ 8 ≤ k17 := fun h9 => c_3 ((nI_leI (a := 8) (b := k17) (by omega) (by omega)).mpr h9)
      refine lv_aload_n hx hb dX3_walkAll_23 rfl (lv_at hl 0 rfl) ?_
      refine lv_iload_n hx hb dX3_walkAll_24 rfl (lv_at hl 2 rfl) ?_
      refine va_put (D := G) (ci := 3) (v := .int (nI k17)) (ty := .int) (C := RX3) (T := TX3) (N := 11) hx hb hts inlX3 tyX3 tyX3_ok nmX3 hown hK hP hD hS 0 rfl rfl 3 (by decide) (hts (.fieldLink RX3 21 "EarthBanks$Slides" "start" "I") k_4_16) (fun _ h9 => h9) rfl (by decide +kernel) (rfl) (rfl) (Nat.le_of_ble_eq_true rfl) dX3_walkAll_25 (fun H locs hP hD hS => ?_)
      have hP : va_P G vwCl [(o, .inr (3, [.ref a_re, .ref a_bu, .ref a_hg, .int (nI k17), .int aq, .ref a_ba, .int (bI fox), .int blx, .int lmx, .int ltx, .ref a_lh])), (a_re, .inl (cI, 48, .inl re)), (a_bu, .inl (cI, 48, .inl bu)), (a_hg, .inl (cI, 8, .inl hgx)), (a_lh, .inl (cI, 8, .inl lhx))] H := hP
      have hD : va_D A [(o, .inr (3, [.ref a_re, .ref a_bu, .ref a_hg, .int (nI k17), .int aq, .ref a_ba, .int (bI fox), .int blx, .int lmx, .int ltx, .ref a_lh])), (a_re, .inl (cI, 48, .inl re)), (a_bu, .inl (cI, 48, .inl bu)), (a_hg, .inl (cI, 8, .inl hgx)), (a_lh, .inl (cI, 8, .inl lhx))] := hD
      refine lv_aload_n hx hb dX3_walkAll_28 rfl (lv_at hl 0 rfl) ?_
      refine lv_iload_n hx hb dX3_walkAll_29 rfl (lv_at hl 2 rfl) ?_
      refine lv_iconst (v := 5) hx hb dX3_walkAll_30 (by decide) ?_
      refine lv_iconst (v := 0) hx hb dX3_walkAll_31 (by decide) ?_
      refine lv_iconst (v := 0) hx hb dX3_walkAll_32 (by decide) ?_
      refine cWVv (As := [.int (nI k17), .int 5, .int 0, .int 0]) (rest := []) hx hb hml hown hts (c_X3_walkFrom l G E cI cZ (7 - k17) k17 (fun _ => 0) (walS re bu aq k17) fox k17 5 0 0 o a_re a_bu a_hg a_lh a_ba aq blx lmx ltx re bu hgx lhx (by omega) (by omega) (by omega) (rfl) (Or.inl rfl) (fun j h1 h2 => absurd h1 (by omega)) (by rw [show k17 - k17 - 1 = 0 by omega]; rfl) (by rw [Nat.sub_self]; rfl) (hacc)) k_25_21 cal_X3_walkFrom ⟨by show 3 + (7 - k17) + 1 ≤ 12; omega, by show 8 + (9 + 11) + 64 * (3 + (7 - k17)) ≤ 64 * (12); omega⟩ hE hA hlow hD hS hK [0, 1] rfl hP [0, 1, 2, 3, 4] rfl (by decide) [o, a_re, a_bu, a_hg, a_lh] rfl (fun _ => rfl) [] [] (fun u => [(o, .inr (3, [.ref a_re, .ref a_bu, .ref a_hg, .int (nI k17), .int aq, .ref a_ba, .int (bI u.2.2.1), .int u.2.1, .int u.2.2.2.1, .int u.2.2.2.2.1, .ref a_lh])), (a_re, .inl (cI, 48, .inl re)), (a_bu, .inl (cI, 48, .inl bu)), (a_hg, .inl (cI, 8, .inl u.1)), (a_lh, .inl (cI, 8, .inl u.2.2.2.2.2))]) 5 rfl (fun _ => rfl) (fun _ => rfl) (fun _ => rfl) (by decide) (by decide) 0 3 rfl rfl rfl hl.1 rfl (Nat.le_of_ble_eq_true rfl) dX3_walkAll_33 ⟨Nat.zero_le _, Nat.zero_le _⟩ (fun u H locs hr_ hP hD hS => ?_)
      obtain ⟨hg2_4, bl2_5, fo2_6, lm2_7, lt2_8, lh2_9⟩ := u
      have hp_10 : accR (wkS re (metS re bu aq k17) (7 - k17) k17 5 (fun _ => 0) (walS re bu aq k17)) bl2_5 fo2_6 lm2_7 lt2_8 lh2_9 ∧ ∀ j, j < k17 → hg2_4 j = hgx j := hr_
      have hP : va_P G vwCl [(o, .inr (3, [.ref a_re, .ref a_bu, .ref a_hg, .int (nI k17), .int aq, .ref a_ba, .int (bI fo2_6), .int bl2_5, .int lm2_7, .int lt2_8, .ref a_lh])), (a_re, .inl (cI, 48, .inl re)), (a_bu, .inl (cI, 48, .inl bu)), (a_hg, .inl (cI, 8, .inl hg2_4)), (a_lh, .inl (cI, 8, .inl lh2_9))] H := hP
      have hD : va_D A [(o, .inr (3, [.ref a_re, .ref a_bu, .ref a_hg, .int (nI k17), .int aq, .ref a_ba, .int (bI fo2_6), .int bl2_5, .int lm2_7, .int lt2_8, .ref a_lh])), (a_re, .inl (cI, 48, .inl re)), (a_bu, .inl (cI, 48, .inl bu)), (a_hg, .inl (cI, 8, .inl hg2_4)), (a_lh, .inl (cI, 8, .inl lh2_9))] := hD
      have hpw := hp_10
      refine lv_iinc (v := nI (k17 + 1)) (lv' := [(2, .int (nI (k17 + 1))), (0, .ref o), (1, .int aq)]) hx hb dX3_walkAll_36 hl (k := 2) rfl (nI_add _ _) (by decide) rfl (fun ls hl => ?_)
      refine lv_goto (tgt := 17) hx hb dX3_walkAll_39 (by decide) ?_
      have er_11 : (nI k17 : Int32) = (nI k17) := by simp [bI, c_3]
      exact ih17 (k17 + 1) hg2_4 bl2_5 fo2_6 lm2_7 lt2_8 lh2_9 (nI k17) (by omega) (by omega) (by omega) (hpw.1) H locs (by rw [← er_11]; exact hP) (by rw [← er_11]; exact hD) hS ls (lv_sub hl [1, 2, 0] rfl)
theorem cal_X3_leastBehind : calV yX3_leastBehind cX3_leastBehind 6 (some .int) 3 := ⟨k_40_10, k_2_8, k_40_8, k_40_9, by decide +kernel⟩
set_option maxHeartbeats 4000000 in
set_option maxRecDepth 100000 in
theorem c_X3_leastBehind (l : Launch) (G : va_G) (E : EvT) (cI cZ : ClassId) (x : Nat) (h : Nat) (am9 : Int32) (o : Nat) (a_bu : Nat) (a_ba : Nat) (fs_o : List Value) (h_o_ba : fs_o[5]? = some (.ref a_ba)) (h_o_bu : fs_o[1]? = some (.ref a_bu)) (bu : Nat → Int32) (ba : Nat → Int32) (hx9 : x < 8) (hh9 : h < 6) : cR l G E yX3_leastBehind cX3_leastBehind 6 (some .int) 3 [(cI, .int), (cZ, .boolean)] [.ref o, .int (nI x), .int (nI h), .int am9] [(o, .inr (3, fs_o)), (a_bu, .inl (cI, 48, .inl bu)), (a_ba, .inl (cI, 6, .inl ba))] (lbS ba bu am9 x h (h + 1)) := by
  refine mkR (by decide) (Nat.le_of_ble_eq_true rfl) ?_
  intro zp ze s zm args below meth zc hx hb hr hml hown hts hlocks hE hP hK ls hl
  have hS : va_S (fun _ => False) s.heap s.heap [] := va_S.rf
  have hlow : ∀ q : Nat, (fun _ : Nat => False) q → E.1 ≤ q := fun _ h => h.elim
  have hl : lv_has ls 6 [(0, .ref o), (1, .int (nI x)), (2, .int (nI h)), (3, .int am9)] := hl
  refine lv_ldc (own := RX3) (index := 99) (v := 1000000000) hx hb hown (hts _ k_40_6) dX3_leastBehind_0 ?_
  refine lv_istore (lv' := [(4, .int 1000000000), (0, .ref o), (1, .int (nI x)), (2, .int (nI h)), (3, .int am9)]) hx hb dX3_leastBehind_2 hl (by decide) rfl (fun ls hl => ?_)
  refine lv_iconst (v := 0) hx hb dX3_leastBehind_4 (by decide) ?_
  refine lv_istore (lv' := [(5, .int 0), (4, .int 1000000000), (0, .ref o), (1, .int (nI x)), (2, .int (nI h)), (3, .int am9)]) hx hb dX3_leastBehind_5 hl (by decide) rfl (fun ls hl => ?_)
  suffices lp7 : ∀ zn k7 : Nat, 0 ≤ k7 → k7 ≤ (h + 1) → (h + 1) < k7 + zn → ∀ ls : Array Slot, lv_has ls 6 [(0, .ref o), (1, .int (nI x)), (2, .int (nI h)), (3, .int am9), (4, .int (lbS ba bu am9 x h k7)), (5, .int (nI k7))] → W zp l ze (rmK 3) s zm args below meth zc s.heap [] 0 0 (MQ below (vp_Si (fun zx => zx = (lbS ba bu am9 x h (h + 1)))) args s 0 0 (fun _ => False)) (F0 zm 7 ls []) by
    have el_1 : (1000000000 : Int32) = (lbS ba bu am9 x h 0) := rfl
    have el_2 : (0 : Int32) = nI 0 := rfl
    exact lp7 ((h + 1) + 1 - 0) 0 (by omega) (by omega) (by omega)  ls (lv_sub hl [2, 3, 4, 5, 1, 0] (show ([(0, .ref o), (1, .int (nI x)), (2, .int (nI h)), (3, .int am9), (4, .int 1000000000), (5, .int 0)] : List (Nat × Value)) = [(0, .ref o), (1, .int (nI x)), (2, .int (nI h)), (3, .int am9), (4, .int (lbS ba bu am9 x h 0)), (5, .int (nI 0))] by rw [← el_1, ← el_2]))
  intro zn
  induction zn with
  | zero => exact fun k7 h1 h2 h3 => absurd h3 (by omega)
  | succ zn ih7 =>
    intro k7 hlo7 hhi7 hn7  ls hl
    refine lv_iload hx hb dX3_leastBehind_7 (lv_at hl 5 rfl) ?_
    refine lv_iload_n hx hb dX3_leastBehind_9 rfl (lv_at hl 2 rfl) ?_
    refine lv_icmp_gt (tgt := 59) hx hb dX3_leastBehind_10 (by decide) (fun c_3 => ?_) (fun c_3 => ?_)
    · skip
      have c_3 : h < k7 := (nI_ltI (a := h) (b := k7) (by omega) (by omega)).mp c_3
      have hk9 : (h + 1) = k7 := by omega
      subst hk9
      refine lv_iload hx hb dX3_leastBehind_59 (lv_at hl 4 rfl) ?_
      exact retR hx hb hr (rfl) hlocks dX3_leastBehind_61 (rfl)
    · skip
      have c_3 : ¬ h < k7 := fun h9 => c_3 ((nI_ltI (a := h) (b := k7) (by omega) (by omega)).mpr h9)
      refine lv_aload_n hx hb dX3_leastBehind_13 rfl (lv_at hl 0 rfl) ?_
      refine va_get (D := G) (ci := 3) (v := .ref a_ba) (C := RX3) (T := TX3) (N := 11) hx hb hts inlX3 hown hK hP 0 rfl rfl 5 (by decide) (hts (.fieldLink RX3 28 "EarthBanks$Slides" "balances" "[I") k_4_18) (fun _ h9 => h9) h_o_ba dX3_leastBehind_14 ?_
      refine lv_iload hx hb dX3_leastBehind_17 (lv_at hl 5 rfl) ?_
      refine ialdN (j := k7) hx hb hK hP 2 0 rfl rfl (by omega) (by decide) dX3_leastBehind_19 ?_
      refine lv_ldc (own := RX3) (index := 99) (v := 1000000000) hx hb hown (hts _ k_40_6) dX3_leastBehind_20 ?_
      refine lv_icmp_ne (tgt := 28) hx hb dX3_leastBehind_22 (by decide) (fun c_4 => ?_) (fun c_4 => ?_)
      · skip
        refine lv_iload hx hb dX3_leastBehind_28 (lv_at hl 4 rfl) ?_
        refine lv_aload_n hx hb dX3_leastBehind_30 rfl (lv_at hl 0 rfl) ?_
        refine va_get (D := G) (ci := 3) (v := .ref a_ba) (C := RX3) (T := TX3) (N := 11) hx hb hts inlX3 hown hK hP 0 rfl rfl 5 (by decide) (hts (.fieldLink RX3 28 "EarthBanks$Slides" "balances" "[I") k_4_18) (fun _ h9 => h9) h_o_ba dX3_leastBehind_31 ?_
        refine lv_iload hx hb dX3_leastBehind_34 (lv_at hl 5 rfl) ?_
        refine ialdN (j := k7) hx hb hK hP 2 0 rfl rfl (by omega) (by decide) dX3_leastBehind_36 ?_
        refine lv_iload_n hx hb dX3_leastBehind_37 rfl (lv_at hl 3 rfl) ?_
        refine lv_aload_n hx hb dX3_leastBehind_38 rfl (lv_at hl 0 rfl) ?_
        refine lv_iload_n hx hb dX3_leastBehind_39 rfl (lv_at hl 1 rfl) ?_
        refine lv_iload_n hx hb dX3_leastBehind_40 rfl (lv_at hl 2 rfl) ?_
        refine lv_iload hx hb dX3_leastBehind_41 (lv_at hl 5 rfl) ?_
        refine cRV (As := [.int (nI x), .int (nI h), .int (nI k7)]) (rest := [.int am9, .int (ba k7), .int (lbS ba bu am9 x h k7)]) hx hb hml hown hts (c_X3_driveOf l G E cI cZ x h k7 o a_bu fs_o h_o_bu bu (hx9) (hh9)) k_26_1 cal_X3_driveOf ⟨Nat.le_of_ble_eq_true rfl, Nat.le_of_ble_eq_true rfl⟩ hE hlow hS hK [0, 1] rfl hP [0, 1] rfl 0 3 rfl rfl rfl hl.1 rfl (Nat.le_of_ble_eq_true rfl) dX3_leastBehind_43 ⟨Nat.zero_le _, Nat.zero_le _⟩ ?_
        refine lv_imul hx hb dX3_leastBehind_46 ?_
        refine lv_isub hx hb dX3_leastBehind_47 ?_
        refine va_mmin hx hb (hml.trans hl.1.symm) hown (hts (.methodLink RX3 85 Lib.Math.min.name) k_26_9) (hts (.static Lib.Math.min.name) k_9_18) (hts (.initialized "java/lang/Math") k_9_19) (hts (.code Lib.Math.min.name Lib.Math.min.code 2 (some .int)) k_9_20) (Nat.le_of_ble_eq_true rfl) (Nat.le_of_ble_eq_true rfl) (Nat.zero_le _) (Nat.zero_le _) dX3_leastBehind_48 ?_
        refine lv_istore (lv' := [(4, .int (if ((ba k7) - (am9 * (bu ((8 * h) + x) * (nI (1 + h) - nI k7)))) < (lbS ba bu am9 x h k7) then ((ba k7) - (am9 * (bu ((8 * h) + x) * (nI (1 + h) - nI k7)))) else (lbS ba bu am9 x h k7))), (0, .ref o), (1, .int (nI x)), (2, .int (nI h)), (3, .int am9), (5, .int (nI k7))]) hx hb dX3_leastBehind_51 hl (by decide) rfl (fun ls hl => ?_)
        refine lv_iinc (v := nI (k7 + 1)) (lv' := [(5, .int (nI (k7 + 1))), (4, .int (if ((ba k7) - (am9 * (bu ((8 * h) + x) * (nI (1 + h) - nI k7)))) < (lbS ba bu am9 x h k7) then ((ba k7) - (am9 * (bu ((8 * h) + x) * (nI (1 + h) - nI k7)))) else (lbS ba bu am9 x h k7))), (0, .ref o), (1, .int (nI x)), (2, .int (nI h)), (3, .int am9)]) hx hb dX3_leastBehind_53 hl (k := 5) rfl (nI_add _ _) (by decide) rfl (fun ls hl => ?_)
        refine lv_goto (tgt := 7) hx hb dX3_leastBehind_56 (by decide) ?_
        have el_5 : ((if ((ba k7) - (am9 * (bu ((8 * h) + x) * (nI (1 + h) - nI k7)))) < (lbS ba bu am9 x h k7) then ((ba k7) - (am9 * (bu ((8 * h) + x) * (nI (1 + h) - nI k7)))) else (lbS ba bu am9 x h k7)) : Int32) = (lbS ba bu am9 x h (k7 + 1)) := by simp [lbS, c_3, c_4]
        exact ih7 (k7 + 1) (by omega) (by omega) (by omega)  ls (lv_sub hl [2, 3, 4, 5, 1, 0] (show ([(0, .ref o), (1, .int (nI x)), (2, .int (nI h)), (3, .int am9), (4, .int (if ((ba k7) - (am9 * (bu ((8 * h) + x) * (nI (1 + h) - nI k7)))) < (lbS ba bu am9 x h k7) then ((ba k7) - (am9 * (bu ((8 * h) + x) * (nI (1 + h) - nI k7)))) else (lbS ba bu am9 x h k7))), (5, .int (nI (k7 + 1)))] : List (Nat × Value)) = [(0, .ref o), (1, .int (nI x)), (2, .int (nI h)), (3, .int am9), (4, .int (lbS ba bu am9 x h (k7 + 1))), (5, .int (nI (k7 + 1)))] by rw [← el_5]))
      · skip
        refine lv_goto (tgt := 53) hx hb dX3_leastBehind_25 (by decide) ?_
        refine lv_iinc (v := nI (k7 + 1)) (lv' := [(5, .int (nI (k7 + 1))), (0, .ref o), (1, .int (nI x)), (2, .int (nI h)), (3, .int am9), (4, .int (lbS ba bu am9 x h k7))]) hx hb dX3_leastBehind_53 hl (k := 5) rfl (nI_add _ _) (by decide) rfl (fun ls hl => ?_)
        refine lv_goto (tgt := 7) hx hb dX3_leastBehind_56 (by decide) ?_
        have el_6 : ((lbS ba bu am9 x h k7) : Int32) = (lbS ba bu am9 x h (k7 + 1)) := by simp [lbS, c_3, c_4]
        exact ih7 (k7 + 1) (by omega) (by omega) (by omega)  ls (lv_sub hl [1, 2, 3, 4, 5, 0] (show ([(0, .ref o), (1, .int (nI x)), (2, .int (nI h)), (3, .int am9), (4, .int (lbS ba bu am9 x h k7)), (5, .int (nI (k7 + 1)))] : List (Nat × Value)) = [(0, .ref o), (1, .int (nI x)), (2, .int (nI h)), (3, .int am9), (4, .int (lbS ba bu am9 x h (k7 + 1))), (5, .int (nI (k7 + 1)))] by rw [← el_6]))
