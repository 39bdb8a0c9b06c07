/-- the twin's ways -/
def sumA (f : Nat → Int32) (x k : Nat) : Int32 := sumS (fun i => f (x + i)) (k - x)
theorem sumA_0 (f : Nat → Int32) (x : Nat) : sumA f x x = 0 := by
  rw [sumA, Nat.sub_self]; rfl
theorem sumA_s {f : Nat → Int32} {x k : Nat} (h : x ≤ k) : sumA f x (k + 1) = sumA f x k + f k := by
  rw [sumA, sumA, show k + 1 - x = (k - x) + 1 by omega]
  show sumS _ (k - x) + f (x + (k - x)) = _
  rw [show x + (k - x) = k by omega]
def wtT (zo he go DY : Nat → Int32) (c : Nat) : Bool := wetS zo he go c && decide (DY c = 0)
def buT (er wt : Nat → Bool) (j r : Nat) : Int32 := if er (8 * r + j) then (if wt (8 * r + j) then 2 else 1) else 0
def drT (er wt : Nat → Bool) (w : Nat → Nat) (j : Nat) : Int32 := sumA (buT er wt j) (w j + 1) 6 * (1 + (nI (w j) - (if j = 7 then 0 else nI (w (j + 1)))))
def rsT (ho mo : Nat → Int32) (wt : Nat → Bool) (w : Nat → Nat) (j : Nat) : Int32 := if wt (8 * w j + j) then (ho (8 * w j + j) + mo j) / 2 else ho (8 * w j + j) + mo j
def mgM (dr rs : Int32) : Int32 := if (if dr = 0 then 9999 else 100 * rs / dr) ≤ 9999 then (if dr = 0 then 9999 else 100 * rs / dr) else 9999
theorem cal_X7_marginOf : calV yX7_marginOf cX7_marginOf 9 (some .int) 1 := ⟨k_27_5, k_1_5, k_27_3, k_27_4, by decide +kernel⟩
set_option maxHeartbeats 4000000 in
set_option maxRecDepth 100000 in
theorem c_X7_marginOf (l : Launch) (G : va_G) (E : EvT) (cI cZ : ClassId) (zo : Nat → Int32) (he : Nat → Int32) (go : Nat → Int32) (le : Nat → Int32) (hd : Nat → Int32) (gn : Nat → Int32) (la : Int32) (wN : Nat → Nat) (x : Nat) (o : Nat) (a_S : Nat) (a_WY : Nat) (a_MO : Nat) (a_DY : Nat) (fs_o : List Value) (h_o_WY : fs_o[15]? = some (.ref a_WY)) (h_o_S : fs_o[2]? = some (.ref a_S)) (h_o_MO : fs_o[20]? = some (.ref a_MO)) (h_o_DY : fs_o[21]? = some (.ref a_DY)) (WY : Nat → Int32) (MO : Nat → Int32) (DY : Nat → Int32) (hx8 : x < 8) (hwy : ∀ j, x ≤ j → j < 8 → WY j = nI (wN j)) (hw6 : ∀ j, x ≤ j → j < 8 → wN j < 6) (hwe : ∀ j, x ≤ j → j < 8 → isES zo go (8 * wN j + j) = true) : cR l G E yX7_marginOf cX7_marginOf 9 (some .int) 4 [(cI, .int), (cZ, .boolean)] [.ref o, .int (nI x)] [(o, .inr (7, fs_o)), (a_S, .inl (cI, 163, .inl (ms zo he go le hd gn la))), (a_WY, .inl (cI, 8, .inl WY)), (a_MO, .inl (cI, 8, .inl MO)), (a_DY, .inl (cZ, 48, .inl DY))] (mgM (sumA (drT (isES zo go) (wtT zo he go DY) wN) x 8) (sumA (rsT (atZ zo hd) MO (wtT zo he go DY) wN) x 8)) := by
  refine mkR (by decide) (Nat.le_of_ble_eq_true rfl) ?_
  intro zp ze s zm args below meth zc hx hb hr hml hown hts hlocks hE hP hK ls hl
  have hS : va_S (fun _ => False) s.heap s.heap [] := va_S.rf
  have hlow : ∀ q : Nat, (fun _ : Nat => False) q → E.1 ≤ q := fun _ h => h.elim
  have hl : lv_has ls 9 [(0, .ref o), (1, .int (nI x))] := hl
  refine lv_iconst (v := 0) hx hb dX7_marginOf_0 (by decide) ?_
  refine lv_istore_n (lv' := [(2, .int 0), (0, .ref o), (1, .int (nI x))]) hx hb dX7_marginOf_1 rfl hl (by decide) rfl (fun ls hl => ?_)
  refine lv_iconst (v := 0) hx hb dX7_marginOf_2 (by decide) ?_
  refine lv_istore_n (lv' := [(3, .int 0), (2, .int 0), (0, .ref o), (1, .int (nI x))]) hx hb dX7_marginOf_3 rfl hl (by decide) rfl (fun ls hl => ?_)
  refine lv_iload_n hx hb dX7_marginOf_4 rfl (lv_at hl 3 rfl) ?_
  refine lv_istore (lv' := [(4, .int (nI x)), (3, .int 0), (2, .int 0), (0, .ref o), (1, .int (nI x))]) hx hb dX7_marginOf_5 hl (by decide) rfl (fun ls hl => ?_)
  suffices lp7 : ∀ zn k7 : Nat, x ≤ k7 → k7 ≤ 8 → 8 < k7 + zn → ∀ ls : Array Slot, lv_has ls 9 [(0, .ref o), (1, .int (nI x)), (2, .int (sumA (drT (isES zo go) (wtT zo he go DY) wN) x k7)), (3, .int (sumA (rsT (atZ zo hd) MO (wtT zo he go DY) wN) x k7)), (4, .int (nI k7))] → W zp l ze (rmK 4) s zm args below meth zc s.heap [] 0 0 (MQ below (vp_Si (fun zx => zx = mgM (sumA (drT (isES zo go) (wtT zo he go DY) wN) x 8) (sumA (rsT (atZ zo hd) MO (wtT zo he go DY) wN) x 8))) args s 0 0 (fun _ => False)) (F0 zm 7 ls []) by
    have el_1 : (0 : Int32) = sumA (drT (isES zo go) (wtT zo he go DY) wN) x x := (sumA_0 _ _).symm
    have el_2 : (0 : Int32) = sumA (rsT (atZ zo hd) MO (wtT zo he go DY) wN) x x := (sumA_0 _ _).symm
    exact lp7 (8 + 1 - x) x (by omega) (by omega) (by omega)  ls (lv_sub hl [3, 4, 2, 1, 0] (show ([(0, .ref o), (1, .int (nI x)), (2, .int 0), (3, .int 0), (4, .int (nI x))] : List (Nat × Value)) = [(0, .ref o), (1, .int (nI x)), (2, .int (sumA (drT (isES zo go) (wtT zo he go DY) wN) x x)), (3, .int (sumA (rsT (atZ zo hd) MO (wtT zo he go DY) wN) x x)), (4, .int (nI x))] by rw [← el_1, ← el_2]))
  intro zn
  induction zn with
  | zero => exact fun k7 h1 h2 h3 => absurd h3 (by omega)
  | succ zn ih7 =>
    intro k7 hlo7 hhi7 hn7  ls hl
    refine lv_iload hx hb dX7_marginOf_7 (lv_at hl 4 rfl) ?_
    refine lv_bipush (v := 8) hx hb dX7_marginOf_9 (by decide) ?_
    refine lv_icmp_ge (tgt := 181) hx hb dX7_marginOf_11 (by decide) (fun c_3 => ?_) (fun c_3 => ?_)
    · skip
      have c_3 : 8 ≤ k7 := (nI_leI (a := 8) (b := k7) (by omega) (by omega)).mp c_3
      have hk9 : 8 = k7 := by omega
      subst hk9
      refine lv_iload_n hx hb dX7_marginOf_181 rfl (lv_at hl 2 rfl) ?_
      refine lv_if_ne (tgt := 191) hx hb dX7_marginOf_182 (by decide) (fun c_4 => ?_) (fun c_4 => ?_)
      · skip
        refine lv_bipush (v := 100) hx hb dX7_marginOf_191 (by decide) ?_
        refine lv_iload_n hx hb dX7_marginOf_193 rfl (lv_at hl 3 rfl) ?_
        refine lv_imul hx hb dX7_marginOf_194 ?_
        refine lv_iload_n hx hb dX7_marginOf_195 rfl (lv_at hl 2 rfl) ?_
        refine lv_idiv hx hb dX7_marginOf_196 c_4 ?_
        refine lv_istore (lv' := [(4, .int ((100 * (sumA (rsT (atZ zo hd) MO (wtT zo he go DY) wN) x 8)) / (sumA (drT (isES zo go) (wtT zo he go DY) wN) x 8))), (0, .ref o), (1, .int (nI x)), (2, .int (sumA (drT (isES zo go) (wtT zo he go DY) wN) x 8)), (3, .int (sumA (rsT (atZ zo hd) MO (wtT zo he go DY) wN) x 8))]) hx hb dX7_marginOf_197 hl (by decide) rfl (fun ls hl => ?_)
        refine lv_iload hx hb dX7_marginOf_199 (lv_at hl 0 rfl) ?_
        refine lv_sipush (v := 9999) hx hb dX7_marginOf_201 (by decide) ?_
        refine lv_icmp_le (tgt := 213) hx hb dX7_marginOf_204 (by decide) (fun c_5 => ?_) (fun c_5 => ?_)
        · skip
          refine lv_iload hx hb dX7_marginOf_213 (lv_at hl 0 rfl) ?_
          exact retR hx hb hr (rfl) hlocks dX7_marginOf_215 (by simp [mgM, c_4, c_5])
        · skip
          refine lv_sipush (v := 9999) hx hb dX7_marginOf_207 (by decide) ?_
          refine lv_goto (tgt := 215) hx hb dX7_marginOf_210 (by decide) ?_
          exact retR hx hb hr (rfl) hlocks dX7_marginOf_215 (by simp [mgM, c_4, c_5])
      · skip
        refine lv_sipush (v := 9999) hx hb dX7_marginOf_185 (by decide) ?_
        refine lv_goto (tgt := 197) hx hb dX7_marginOf_188 (by decide) ?_
        refine lv_istore (lv' := [(4, .int 9999), (0, .ref o), (1, .int (nI x)), (2, .int (sumA (drT (isES zo go) (wtT zo he go DY) wN) x 8)), (3, .int (sumA (rsT (atZ zo hd) MO (wtT zo he go DY) wN) x 8))]) hx hb dX7_marginOf_197 hl (by decide) rfl (fun ls hl => ?_)
        refine lv_iload hx hb dX7_marginOf_199 (lv_at hl 0 rfl) ?_
        refine lv_sipush (v := 9999) hx hb dX7_marginOf_201 (by decide) ?_
        refine lv_icmp_le (tgt := 213) hx hb dX7_marginOf_204 (by decide) (fun c_6 => ?_) (fun c_6 => ?_)
        · skip
          refine lv_iload hx hb dX7_marginOf_213 (lv_at hl 0 rfl) ?_
          exact retR hx hb hr (rfl) hlocks dX7_marginOf_215 (by simp [mgM, eq_true c_4, c_6])
        · skip
          exact absurd (by decide) c_6
    · skip
      have c_3 : ¬ 8 ≤ k7 := fun h9 => c_3 ((nI_leI (a := 8) (b := k7) (by omega) (by omega)).mpr h9)
      have hw6a := hw6 k7 (by omega) (by omega)
      refine lv_iconst (v := 0) hx hb dX7_marginOf_14 (by decide) ?_
      refine lv_istore (lv' := [(5, .int 0), (0, .ref o), (1, .int (nI x)), (2, .int (sumA (drT (isES zo go) (wtT zo he go DY) wN) x k7)), (3, .int (sumA (rsT (atZ zo hd) MO (wtT zo he go DY) wN) x k7)), (4, .int (nI k7))]) hx hb dX7_marginOf_15 hl (by decide) rfl (fun ls hl => ?_)
      refine lv_aload_n hx hb dX7_marginOf_17 rfl (lv_at hl 1 rfl) ?_
      refine va_get (D := G) (ci := 7) (v := .ref a_WY) (C := RX7) (T := TX7) (N := 38) hx hb hts inlX7 hown hK hP 0 rfl rfl 15 (by decide) (hts (.fieldLink RX7 33 "EarthBanksModel" "way" "[I") k_6_10) (fun _ h9 => h9) h_o_WY dX7_marginOf_18 ?_
      refine lv_iload hx hb dX7_marginOf_21 (lv_at hl 5 rfl) ?_
      refine ialdN (j := k7) hx hb hK hP 2 0 rfl rfl (by omega) (by decide) dX7_marginOf_23 ?_
      refine top_eq (y := nI (wN k7)) (hwy k7 (by omega) (by omega)) ?_
      refine lv_iconst (v := 1) hx hb dX7_marginOf_24 (by decide) ?_
      refine lv_iadd hx hb dX7_marginOf_25 ?_
      refine top_eq (y := nI ((wN k7) + 1)) (nI_add _ _) ?_
      refine lv_istore (lv' := [(6, .int (nI ((wN k7) + 1))), (5, .int 0), (0, .ref o), (1, .int (nI x)), (2, .int (sumA (drT (isES zo go) (wtT zo he go DY) wN) x k7)), (3, .int (sumA (rsT (atZ zo hd) MO (wtT zo he go DY) wN) x k7)), (4, .int (nI k7))]) hx hb dX7_marginOf_26 hl (by decide) rfl (fun ls hl => ?_)
      suffices lp28 : ∀ zn k28 : Nat, (wN k7 + 1) ≤ k28 → k28 ≤ 6 → 6 < k28 + zn → ∀ ls : Array Slot, lv_has ls 9 [(0, .ref o), (1, .int (nI x)), (2, .int (sumA (drT (isES zo go) (wtT zo he go DY) wN) x k7)), (3, .int (sumA (rsT (atZ zo hd) MO (wtT zo he go DY) wN) x k7)), (4, .int (nI k7)), (5, .int (sumA (buT (isES zo go) (wtT zo he go DY) k7) (wN k7 + 1) k28)), (6, .int (nI k28))] → W zp l ze (rmK 4) s zm args below meth zc s.heap [] 0 0 (MQ below (vp_Si (fun zx => zx = mgM (sumA (drT (isES zo go) (wtT zo he go DY) wN) x 8) (sumA (rsT (atZ zo hd) MO (wtT zo he go DY) wN) x 8))) args s 0 0 (fun _ => False)) (F0 zm 28 ls []) by
        have el_7 : (0 : Int32) = sumA (buT (isES zo go) (wtT zo he go DY) k7) (wN k7 + 1) (wN k7 + 1) := (sumA_0 _ _).symm
        have el_8 : (nI ((wN k7) + 1) : Int32) = nI (wN k7 + 1) := by congr 1 <;> omega
        exact lp28 (6 + 1 - (wN k7 + 1)) (wN k7 + 1) (by omega) (by omega) (by omega)  ls (lv_sub hl [2, 3, 4, 5, 6, 1, 0] (show ([(0, .ref o), (1, .int (nI x)), (2, .int (sumA (drT (isES zo go) (wtT zo he go DY) wN) x k7)), (3, .int (sumA (rsT (atZ zo hd) MO (wtT zo he go DY) wN) x k7)), (4, .int (nI k7)), (5, .int 0), (6, .int (nI ((wN k7) + 1)))] : List (Nat × Value)) = [(0, .ref o), (1, .int (nI x)), (2, .int (sumA (drT (isES zo go) (wtT zo he go DY) wN) x k7)), (3, .int (sumA (rsT (atZ zo hd) MO (wtT zo he go DY) wN) x k7)), (4, .int (nI k7)), (5, .int (sumA (buT (isES zo go) (wtT zo he go DY) k7) (wN k7 + 1) (wN k7 + 1))), (6, .int (nI (wN k7 + 1)))] by rw [← el_7, ← el_8]))
      intro zn
      induction zn with
      | zero => exact fun k28 h1 h2 h3 => absurd h3 (by omega)
      | succ zn ih28 =>
        intro k28 hlo28 hhi28 hn28  ls hl
        refine lv_iload hx hb dX7_marginOf_28 (lv_at hl 6 rfl) ?_
        refine lv_bipush (v := 6) hx hb dX7_marginOf_30 (by decide) ?_
        refine lv_icmp_ge (tgt := 83) hx hb dX7_marginOf_32 (by decide) (fun c_9 => ?_) (fun c_9 => ?_)
        · skip
          have c_9 : 6 ≤ k28 := (nI_leI (a := 6) (b := k28) (by omega) (by omega)).mp c_9
          have hk9 : 6 = k28 := by omega
          subst hk9
          refine lv_aload_n hx hb dX7_marginOf_83 rfl (lv_at hl 0 rfl) ?_
          refine va_get (D := G) (ci := 7) (v := .ref a_WY) (C := RX7) (T := TX7) (N := 38) hx hb hts inlX7 hown hK hP 0 rfl rfl 15 (by decide) (hts (.fieldLink RX7 33 "EarthBanksModel" "way" "[I") k_6_10) (fun _ h9 => h9) h_o_WY dX7_marginOf_84 ?_
          refine lv_iload hx hb dX7_marginOf_87 (lv_at hl 4 rfl) ?_
          refine ialdN (j := k7) hx hb hK hP 2 0 rfl rfl (by omega) (by decide) dX7_marginOf_89 ?_
          refine top_eq (y := nI (wN k7)) (hwy k7 (by omega) (by omega)) ?_
          refine lv_iload hx hb dX7_marginOf_90 (lv_at hl 4 rfl) ?_
          refine lv_bipush (v := 7) hx hb dX7_marginOf_92 (by decide) ?_
          refine lv_icmp_ne (tgt := 101) hx hb dX7_marginOf_94 (by decide) (fun c_10 => ?_) (fun c_10 => ?_)
          · skip
            have c_10 : ¬ k7 = 7 := fun h9 => c_10 ((nI_eq (a := k7) (b := 7) (by omega) (by omega)).mpr h9)
            refine lv_aload_n hx hb dX7_marginOf_101 rfl (lv_at hl 0 rfl) ?_
            refine va_get (D := G) (ci := 7) (v := .ref a_WY) (C := RX7) (T := TX7) (N := 38) hx hb hts inlX7 hown hK hP 0 rfl rfl 15 (by decide) (hts (.fieldLink RX7 33 "EarthBanksModel" "way" "[I") k_6_10) (fun _ h9 => h9) h_o_WY dX7_marginOf_102 ?_
            refine lv_iload hx hb dX7_marginOf_105 (lv_at hl 4 rfl) ?_
            refine lv_iconst (v := 1) hx hb dX7_marginOf_107 (by decide) ?_
            refine lv_iadd hx hb dX7_marginOf_108 ?_
            refine top_eq (y := nI (k7 + 1)) (nI_add _ _) ?_
            refine ialdN (j := (k7 + 1)) hx hb hK hP 2 0 rfl rfl (by omega) (by decide) dX7_marginOf_109 ?_
            refine top_eq (y := nI (wN (k7 + 1))) (hwy (k7 + 1) (by omega) (by omega)) ?_
            refine lv_isub hx hb dX7_marginOf_110 ?_
            refine lv_istore (lv' := [(6, .int ((nI (wN k7)) - (nI (wN (k7 + 1))))), (0, .ref o), (1, .int (nI x)), (2, .int (sumA (drT (isES zo go) (wtT zo he go DY) wN) x k7)), (3, .int (sumA (rsT (atZ zo hd) MO (wtT zo he go DY) wN) x k7)), (4, .int (nI k7)), (5, .int (sumA (buT (isES zo go) (wtT zo he go DY) k7) (wN k7 + 1) 6))]) hx hb dX7_marginOf_111 hl (by decide) rfl (fun ls hl => ?_)
            refine lv_iload_n hx hb dX7_marginOf_113 rfl (lv_at hl 3 rfl) ?_
            refine lv_iload hx hb dX7_marginOf_114 (lv_at hl 6 rfl) ?_
            refine lv_iconst (v := 1) hx hb dX7_marginOf_116 (by decide) ?_
            refine lv_iload hx hb dX7_marginOf_117 (lv_at hl 0 rfl) ?_
            refine lv_iadd hx hb dX7_marginOf_119 ?_
            refine lv_imul hx hb dX7_marginOf_120 ?_
            refine lv_iadd hx hb dX7_marginOf_121 ?_
            refine lv_istore_n (lv' := [(2, .int ((sumA (drT (isES zo go) (wtT zo he go DY) wN) x k7) + ((sumA (buT (isES zo go) (wtT zo he go DY) k7) (wN k7 + 1) 6) * (1 + ((nI (wN k7)) - (nI (wN (k7 + 1)))))))), (6, .int ((nI (wN k7)) - (nI (wN (k7 + 1))))), (0, .ref o), (1, .int (nI x)), (3, .int (sumA (rsT (atZ zo hd) MO (wtT zo he go DY) wN) x k7)), (4, .int (nI k7)), (5, .int (sumA (buT (isES zo go) (wtT zo he go DY) k7) (wN k7 + 1) 6))]) hx hb dX7_marginOf_122 rfl hl (by decide) rfl (fun ls hl => ?_)
            refine lv_bipush (v := 8) hx hb dX7_marginOf_123 (by decide) ?_
            refine lv_aload_n hx hb dX7_marginOf_125 rfl (lv_at hl 2 rfl) ?_
            refine va_get (D := G) (ci := 7) (v := .ref a_WY) (C := RX7) (T := TX7) (N := 38) hx hb hts inlX7 hown hK hP 0 rfl rfl 15 (by decide) (hts (.fieldLink RX7 33 "EarthBanksModel" "way" "[I") k_6_10) (fun _ h9 => h9) h_o_WY dX7_marginOf_126 ?_
            refine lv_iload hx hb dX7_marginOf_129 (lv_at hl 5 rfl) ?_
            refine ialdN (j := k7) hx hb hK hP 2 0 rfl rfl (by omega) (by decide) dX7_marginOf_131 ?_
            refine top_eq (y := nI (wN k7)) (hwy k7 (by omega) (by omega)) ?_
            refine lv_imul hx hb dX7_marginOf_132 ?_
            refine top_eq (y := nI (8 * (wN k7))) (pk_mul _ _) ?_
            refine lv_iload hx hb dX7_marginOf_133 (lv_at hl 5 rfl) ?_
            refine lv_iadd hx hb dX7_marginOf_135 ?_
            refine top_eq (y := nI ((8 * (wN k7)) + k7)) (nI_add _ _) ?_
            refine lv_istore (lv' := [(7, .int (nI ((8 * (wN k7)) + k7))), (2, .int ((sumA (drT (isES zo go) (wtT zo he go DY) wN) x k7) + ((sumA (buT (isES zo go) (wtT zo he go DY) k7) (wN k7 + 1) 6) * (1 + ((nI (wN k7)) - (nI (wN (k7 + 1)))))))), (6, .int ((nI (wN k7)) - (nI (wN (k7 + 1))))), (0, .ref o), (1, .int (nI x)), (3, .int (sumA (rsT (atZ zo hd) MO (wtT zo he go DY) wN) x k7)), (4, .int (nI k7)), (5, .int (sumA (buT (isES zo go) (wtT zo he go DY) k7) (wN k7 + 1) 6))]) hx hb dX7_marginOf_136 hl (by decide) rfl (fun ls hl => ?_)
            refine lv_aload_n hx hb dX7_marginOf_138 rfl (lv_at hl 3 rfl) ?_
            refine lv_iload hx hb dX7_marginOf_139 (lv_at hl 0 rfl) ?_
            refine cRV (As := [.int (nI ((8 * (wN k7)) + k7))]) (rest := []) hx hb hml hown hts (c_X7_holdOf l G E cI cZ zo he go le hd gn la ((8 * (wN k7)) + k7) o a_S fs_o h_o_S (by first | assumption | omega | simp [bI, c_3, c_9, c_10]) (isE_na (hwe k7 (by omega) (by omega)))) k_19_19 cal_X7_holdOf ⟨Nat.le_of_ble_eq_true rfl, Nat.le_of_ble_eq_true rfl⟩ hE hlow hS hK [0, 1] rfl hP [0, 1] rfl 0 7 rfl rfl rfl hl.1 rfl (Nat.le_of_ble_eq_true rfl) dX7_marginOf_141 ⟨Nat.zero_le _, Nat.zero_le _⟩ ?_
            refine lv_aload_n hx hb dX7_marginOf_144 rfl (lv_at hl 3 rfl) ?_
            refine va_get (D := G) (ci := 7) (v := .ref a_MO) (C := RX7) (T := TX7) (N := 38) hx hb hts inlX7 hown hK hP 0 rfl rfl 20 (by decide) (hts (.fieldLink RX7 39 "EarthBanksModel" "more" "[I") k_6_12) (fun _ h9 => h9) h_o_MO dX7_marginOf_145 ?_
            refine lv_iload hx hb dX7_marginOf_148 (lv_at hl 6 rfl) ?_
            refine ialdN (j := k7) hx hb hK hP 3 0 rfl rfl (by omega) (by decide) dX7_marginOf_150 ?_
            refine lv_iadd hx hb dX7_marginOf_151 ?_
            refine lv_istore (lv' := [(8, .int ((atZ zo hd ((8 * (wN k7)) + k7)) + (MO k7))), (7, .int (nI ((8 * (wN k7)) + k7))), (2, .int ((sumA (drT (isES zo go) (wtT zo he go DY) wN) x k7) + ((sumA (buT (isES zo go) (wtT zo he go DY) k7) (wN k7 + 1) 6) * (1 + ((nI (wN k7)) - (nI (wN (k7 + 1)))))))), (6, .int ((nI (wN k7)) - (nI (wN (k7 + 1))))), (0, .ref o), (1, .int (nI x)), (3, .int (sumA (rsT (atZ zo hd) MO (wtT zo he go DY) wN) x k7)), (4, .int (nI k7)), (5, .int (sumA (buT (isES zo go) (wtT zo he go DY) k7) (wN k7 + 1) 6))]) hx hb dX7_marginOf_152 hl (by decide) rfl (fun ls hl => ?_)
            refine lv_iload_n hx hb dX7_marginOf_154 rfl (lv_at hl 6 rfl) ?_
            refine lv_aload_n hx hb dX7_marginOf_155 rfl (lv_at hl 4 rfl) ?_
            refine lv_iload hx hb dX7_marginOf_156 (lv_at hl 1 rfl) ?_
            refine cRV (As := [.int (nI ((8 * (wN k7)) + k7))]) (rest := [.int (sumA (rsT (atZ zo hd) MO (wtT zo he go DY) wN) x k7)]) hx hb hml hown hts (c_X7_counts l G E cI cZ zo he go le hd gn la ((8 * (wN k7)) + k7) o a_S a_DY fs_o h_o_S h_o_DY DY (by first | assumption | omega | simp [bI, c_3, c_9, c_10])) k_27_6 cal_X7_counts ⟨Nat.le_of_ble_eq_true rfl, Nat.le_of_ble_eq_true rfl⟩ hE hlow hS hK [0, 1] rfl hP [0, 1, 4] rfl 0 7 rfl rfl rfl hl.1 rfl (Nat.le_of_ble_eq_true rfl) dX7_marginOf_158 ⟨Nat.zero_le _, Nat.zero_le _⟩ ?_
            refine lv_if_eq (tgt := 171) hx hb dX7_marginOf_161 (by decide) (fun c_11 => ?_) (fun c_11 => ?_)
            · skip
              have c_11 : (wetS zo he go ((8 * (wN k7)) + k7) && decide (DY ((8 * (wN k7)) + k7) = 0)) = false := bI_f c_11
              refine lv_iload hx hb dX7_marginOf_171 (lv_at hl 0 rfl) ?_
              refine lv_iadd hx hb dX7_marginOf_173 ?_
              refine lv_istore_n (lv' := [(3, .int ((sumA (rsT (atZ zo hd) MO (wtT zo he go DY) wN) x k7) + ((atZ zo hd ((8 * (wN k7)) + k7)) + (MO k7)))), (8, .int ((atZ zo hd ((8 * (wN k7)) + k7)) + (MO k7))), (7, .int (nI ((8 * (wN k7)) + k7))), (2, .int ((sumA (drT (isES zo go) (wtT zo he go DY) wN) x k7) + ((sumA (buT (isES zo go) (wtT zo he go DY) k7) (wN k7 + 1) 6) * (1 + ((nI (wN k7)) - (nI (wN (k7 + 1)))))))), (6, .int ((nI (wN k7)) - (nI (wN (k7 + 1))))), (0, .ref o), (1, .int (nI x)), (4, .int (nI k7)), (5, .int (sumA (buT (isES zo go) (wtT zo he go DY) k7) (wN k7 + 1) 6))]) hx hb dX7_marginOf_174 rfl hl (by decide) rfl (fun ls hl => ?_)
              refine lv_iinc (v := nI (k7 + 1)) (lv' := [(4, .int (nI (k7 + 1))), (3, .int ((sumA (rsT (atZ zo hd) MO (wtT zo he go DY) wN) x k7) + ((atZ zo hd ((8 * (wN k7)) + k7)) + (MO k7)))), (8, .int ((atZ zo hd ((8 * (wN k7)) + k7)) + (MO k7))), (7, .int (nI ((8 * (wN k7)) + k7))), (2, .int ((sumA (drT (isES zo go) (wtT zo he go DY) wN) x k7) + ((sumA (buT (isES zo go) (wtT zo he go DY) k7) (wN k7 + 1) 6) * (1 + ((nI (wN k7)) - (nI (wN (k7 + 1)))))))), (6, .int ((nI (wN k7)) - (nI (wN (k7 + 1))))), (0, .ref o), (1, .int (nI x)), (5, .int (sumA (buT (isES zo go) (wtT zo he go DY) k7) (wN k7 + 1) 6))]) hx hb dX7_marginOf_175 hl (k := 7) rfl (nI_add _ _) (by decide) rfl (fun ls hl => ?_)
              refine lv_goto (tgt := 7) hx hb dX7_marginOf_178 (by decide) ?_
              have el_12 : (((sumA (drT (isES zo go) (wtT zo he go DY) wN) x k7) + ((sumA (buT (isES zo go) (wtT zo he go DY) k7) (wN k7 + 1) 6) * (1 + ((nI (wN k7)) - (nI (wN (k7 + 1))))))) : Int32) = sumA (drT (isES zo go) (wtT zo he go DY) wN) x (k7 + 1) := by rw [sumA_s hlo7, drT]; simp [c_9, c_10, c_11]
              have el_13 : (((sumA (rsT (atZ zo hd) MO (wtT zo he go DY) wN) x k7) + ((atZ zo hd ((8 * (wN k7)) + k7)) + (MO k7))) : Int32) = sumA (rsT (atZ zo hd) MO (wtT zo he go DY) wN) x (k7 + 1) := by rw [sumA_s hlo7, rsT]; simp [wtT, c_9, c_10, c_11]
              exact ih7 (k7 + 1) (by omega) (by omega) (by omega)  ls (lv_sub hl [6, 7, 4, 1, 0] (show ([(0, .ref o), (1, .int (nI x)), (2, .int ((sumA (drT (isES zo go) (wtT zo he go DY) wN) x k7) + ((sumA (buT (isES zo go) (wtT zo he go DY) k7) (wN k7 + 1) 6) * (1 + ((nI (wN k7)) - (nI (wN (k7 + 1)))))))), (3, .int ((sumA (rsT (atZ zo hd) MO (wtT zo he go DY) wN) x k7) + ((atZ zo hd ((8 * (wN k7)) + k7)) + (MO k7)))), (4, .int (nI (k7 + 1)))] : List (Nat × Value)) = [(0, .ref o), (1, .int (nI x)), (2, .int (sumA (drT (isES zo go) (wtT zo he go DY) wN) x (k7 + 1))), (3, .int (sumA (rsT (atZ zo hd) MO (wtT zo he go DY) wN) x (k7 + 1))), (4, .int (nI (k7 + 1)))] by rw [← el_12, ← el_13]))
            · skip
              have c_11 : (wetS zo he go ((8 * (wN k7)) + k7) && decide (DY ((8 * (wN k7)) + k7) = 0)) = true := bI_t c_11
              refine lv_iload hx hb dX7_marginOf_164 (lv_at hl 0 rfl) ?_
              refine lv_iconst (v := 2) hx hb dX7_marginOf_166 (by decide) ?_
              refine lv_idiv hx hb dX7_marginOf_167 (by decide) ?_
              refine lv_goto (tgt := 173) hx hb dX7_marginOf_168 (by decide) ?_
              refine lv_iadd hx hb dX7_marginOf_173 ?_
              refine lv_istore_n (lv' := [(3, .int ((sumA (rsT (atZ zo hd) MO (wtT zo he go DY) wN) x k7) + (((atZ zo hd ((8 * (wN k7)) + k7)) + (MO k7)) / 2))), (8, .int ((atZ zo hd ((8 * (wN k7)) + k7)) + (MO k7))), (7, .int (nI ((8 * (wN k7)) + k7))), (2, .int ((sumA (drT (isES zo go) (wtT zo he go DY) wN) x k7) + ((sumA (buT (isES zo go) (wtT zo he go DY) k7) (wN k7 + 1) 6) * (1 + ((nI (wN k7)) - (nI (wN (k7 + 1)))))))), (6, .int ((nI (wN k7)) - (nI (wN (k7 + 1))))), (0, .ref o), (1, .int (nI x)), (4, .int (nI k7)), (5, .int (sumA (buT (isES zo go) (wtT zo he go DY) k7) (wN k7 + 1) 6))]) hx hb dX7_marginOf_174 rfl hl (by decide) rfl (fun ls hl => ?_)
              refine lv_iinc (v := nI (k7 + 1)) (lv' := [(4, .int (nI (k7 + 1))), (3, .int ((sumA (rsT (atZ zo hd) MO (wtT zo he go DY) wN) x k7) + (((atZ zo hd ((8 * (wN k7)) + k7)) + (MO k7)) / 2))), (8, .int ((atZ zo hd ((8 * (wN k7)) + k7)) + (MO k7))), (7, .int (nI ((8 * (wN k7)) + k7))), (2, .int ((sumA (drT (isES zo go) (wtT zo he go DY) wN) x k7) + ((sumA (buT (isES zo go) (wtT zo he go DY) k7) (wN k7 + 1) 6) * (1 + ((nI (wN k7)) - (nI (wN (k7 + 1)))))))), (6, .int ((nI (wN k7)) - (nI (wN (k7 + 1))))), (0, .ref o), (1, .int (nI x)), (5, .int (sumA (buT (isES zo go) (wtT zo he go DY) k7) (wN k7 + 1) 6))]) hx hb dX7_marginOf_175 hl (k := 7) rfl (nI_add _ _) (by decide) rfl (fun ls hl => ?_)
              refine lv_goto (tgt := 7) hx hb dX7_marginOf_178 (by decide) ?_
              have el_14 : (((sumA (drT (isES zo go) (wtT zo he go DY) wN) x k7) + ((sumA (buT (isES zo go) (wtT zo he go DY) k7) (wN k7 + 1) 6) * (1 + ((nI (wN k7)) - (nI (wN (k7 + 1))))))) : Int32) = sumA (drT (isES zo go) (wtT zo he go DY) wN) x (k7 + 1) := by rw [sumA_s hlo7, drT]; simp [c_9, c_10, c_11]
              have el_15 : (((sumA (rsT (atZ zo hd) MO (wtT zo he go DY) wN) x k7) + (((atZ zo hd ((8 * (wN k7)) + k7)) + (MO k7)) / 2)) : Int32) = sumA (rsT (atZ zo hd) MO (wtT zo he go DY) wN) x (k7 + 1) := by rw [sumA_s hlo7, rsT]; simp [wtT, c_9, c_10, c_11]
              exact ih7 (k7 + 1) (by omega) (by omega) (by omega)  ls (lv_sub hl [6, 7, 4, 1, 0] (show ([(0, .ref o), (1, .int (nI x)), (2, .int ((sumA (drT (isES zo go) (wtT zo he go DY) wN) x k7) + ((sumA (buT (isES zo go) (wtT zo he go DY) k7) (wN k7 + 1) 6) * (1 + ((nI (wN k7)) - (nI (wN (k7 + 1)))))))), (3, .int ((sumA (rsT (atZ zo hd) MO (wtT zo he go DY) wN) x k7) + (((atZ zo hd ((8 * (wN k7)) + k7)) + (MO k7)) / 2))), (4, .int (nI (k7 + 1)))] : List (Nat × Value)) = [(0, .ref o), (1, .int (nI x)), (2, .int (sumA (drT (isES zo go) (wtT zo he go DY) wN) x (k7 + 1))), (3, .int (sumA (rsT (atZ zo hd) MO (wtT zo he go DY) wN) x (k7 + 1))), (4, .int (nI (k7 + 1)))] by rw [← el_14, ← el_15]))
          · skip
            have c_10 : k7 = 7 := (nI_eq (a := k7) (b := 7) (by omega) (by omega)).mp c_10
            refine lv_iconst (v := 0) hx hb dX7_marginOf_97 (by decide) ?_
            refine lv_goto (tgt := 110) hx hb dX7_marginOf_98 (by decide) ?_
            refine lv_isub hx hb dX7_marginOf_110 ?_
            refine lv_istore (lv' := [(6, .int ((nI (wN k7)) - 0)), (0, .ref o), (1, .int (nI x)), (2, .int (sumA (drT (isES zo go) (wtT zo he go DY) wN) x k7)), (3, .int (sumA (rsT (atZ zo hd) MO (wtT zo he go DY) wN) x k7)), (4, .int (nI k7)), (5, .int (sumA (buT (isES zo go) (wtT zo he go DY) k7) (wN k7 + 1) 6))]) hx hb dX7_marginOf_111 hl (by decide) rfl (fun ls hl => ?_)
            refine lv_iload_n hx hb dX7_marginOf_113 rfl (lv_at hl 3 rfl) ?_
            refine lv_iload hx hb dX7_marginOf_114 (lv_at hl 6 rfl) ?_
            refine lv_iconst (v := 1) hx hb dX7_marginOf_116 (by decide) ?_
            refine lv_iload hx hb dX7_marginOf_117 (lv_at hl 0 rfl) ?_
            refine lv_iadd hx hb dX7_marginOf_119 ?_
            refine lv_imul hx hb dX7_marginOf_120 ?_
            refine lv_iadd hx hb dX7_marginOf_121 ?_
            refine lv_istore_n (lv' := [(2, .int ((sumA (drT (isES zo go) (wtT zo he go DY) wN) x k7) + ((sumA (buT (isES zo go) (wtT zo he go DY) k7) (wN k7 + 1) 6) * (1 + ((nI (wN k7)) - 0))))), (6, .int ((nI (wN k7)) - 0)), (0, .ref o), (1, .int (nI x)), (3, .int (sumA (rsT (atZ zo hd) MO (wtT zo he go DY) wN) x k7)), (4, .int (nI k7)), (5, .int (sumA (buT (isES zo go) (wtT zo he go DY) k7) (wN k7 + 1) 6))]) hx hb dX7_marginOf_122 rfl hl (by decide) rfl (fun ls hl => ?_)
            refine lv_bipush (v := 8) hx hb dX7_marginOf_123 (by decide) ?_
            refine lv_aload_n hx hb dX7_marginOf_125 rfl (lv_at hl 2 rfl) ?_
            refine va_get (D := G) (ci := 7) (v := .ref a_WY) (C := RX7) (T := TX7) (N := 38) hx hb hts inlX7 hown hK hP 0 rfl rfl 15 (by decide) (hts (.fieldLink RX7 33 "EarthBanksModel" "way" "[I") k_6_10) (fun _ h9 => h9) h_o_WY dX7_marginOf_126 ?_
            refine lv_iload hx hb dX7_marginOf_129 (lv_at hl 5 rfl) ?_
            refine ialdN (j := k7) hx hb hK hP 2 0 rfl rfl (by omega) (by decide) dX7_marginOf_131 ?_
            refine top_eq (y := nI (wN k7)) (hwy k7 (by omega) (by omega)) ?_
            refine lv_imul hx hb dX7_marginOf_132 ?_
            refine top_eq (y := nI (8 * (wN k7))) (pk_mul _ _) ?_
            refine lv_iload hx hb dX7_marginOf_133 (lv_at hl 5 rfl) ?_
            refine lv_iadd hx hb dX7_marginOf_135 ?_
            refine top_eq (y := nI ((8 * (wN k7)) + k7)) (nI_add _ _) ?_
            refine lv_istore (lv' := [(7, .int (nI ((8 * (wN k7)) + k7))), (2, .int ((sumA (drT (isES zo go) (wtT zo he go DY) wN) x k7) + ((sumA (buT (isES zo go) (wtT zo he go DY) k7) (wN k7 + 1) 6) * (1 + ((nI (wN k7)) - 0))))), (6, .int ((nI (wN k7)) - 0)), (0, .ref o), (1, .int (nI x)), (3, .int (sumA (rsT (atZ zo hd) MO (wtT zo he go DY) wN) x k7)), (4, .int (nI k7)), (5, .int (sumA (buT (isES zo go) (wtT zo he go DY) k7) (wN k7 + 1) 6))]) hx hb dX7_marginOf_136 hl (by decide) rfl (fun ls hl => ?_)
            refine lv_aload_n hx hb dX7_marginOf_138 rfl (lv_at hl 3 rfl) ?_
            refine lv_iload hx hb dX7_marginOf_139 (lv_at hl 0 rfl) ?_
            refine cRV (As := [.int (nI ((8 * (wN k7)) + k7))]) (rest := []) hx hb hml hown hts (c_X7_holdOf l G E cI cZ zo he go le hd gn la ((8 * (wN k7)) + k7) o a_S fs_o h_o_S (by first | assumption | omega | simp [bI, c_3, c_9, c_10]) (isE_na (hwe k7 (by omega) (by omega)))) k_19_19 cal_X7_holdOf ⟨Nat.le_of_ble_eq_true rfl, Nat.le_of_ble_eq_true rfl⟩ hE hlow hS hK [0, 1] rfl hP [0, 1] rfl 0 7 rfl rfl rfl hl.1 rfl (Nat.le_of_ble_eq_true rfl) dX7_marginOf_141 ⟨Nat.zero_le _, Nat.zero_le _⟩ ?_
            refine lv_aload_n hx hb dX7_marginOf_144 rfl (lv_at hl 3 rfl) ?_
            refine va_get (D := G) (ci := 7) (v := .ref a_MO) (C := RX7) (T := TX7) (N := 38) hx hb hts inlX7 hown hK hP 0 rfl rfl 20 (by decide) (hts (.fieldLink RX7 39 "EarthBanksModel" "more" "[I") k_6_12) (fun _ h9 => h9) h_o_MO dX7_marginOf_145 ?_
            refine lv_iload hx hb dX7_marginOf_148 (lv_at hl 6 rfl) ?_
            refine ialdN (j := k7) hx hb hK hP 3 0 rfl rfl (by omega) (by decide) dX7_marginOf_150 ?_
            refine lv_iadd hx hb dX7_marginOf_151 ?_
            refine lv_istore (lv' := [(8, .int ((atZ zo hd ((8 * (wN k7)) + k7)) + (MO k7))), (7, .int (nI ((8 * (wN k7)) + k7))), (2, .int ((sumA (drT (isES zo go) (wtT zo he go DY) wN) x k7) + ((sumA (buT (isES zo go) (wtT zo he go DY) k7) (wN k7 + 1) 6) * (1 + ((nI (wN k7)) - 0))))), (6, .int ((nI (wN k7)) - 0)), (0, .ref o), (1, .int (nI x)), (3, .int (sumA (rsT (atZ zo hd) MO (wtT zo he go DY) wN) x k7)), (4, .int (nI k7)), (5, .int (sumA (buT (isES zo go) (wtT zo he go DY) k7) (wN k7 + 1) 6))]) hx hb dX7_marginOf_152 hl (by decide) rfl (fun ls hl => ?_)
            refine lv_iload_n hx hb dX7_marginOf_154 rfl (lv_at hl 6 rfl) ?_
            refine lv_aload_n hx hb dX7_marginOf_155 rfl (lv_at hl 4 rfl) ?_
            refine lv_iload hx hb dX7_marginOf_156 (lv_at hl 1 rfl) ?_
            refine cRV (As := [.int (nI ((8 * (wN k7)) + k7))]) (rest := [.int (sumA (rsT (atZ zo hd) MO (wtT zo he go DY) wN) x k7)]) hx hb hml hown hts (c_X7_counts l G E cI cZ zo he go le hd gn la ((8 * (wN k7)) + k7) o a_S a_DY fs_o h_o_S h_o_DY DY (by first | assumption | omega | simp [bI, c_3, c_9, c_10])) k_27_6 cal_X7_counts ⟨Nat.le_of_ble_eq_true rfl, Nat.le_of_ble_eq_true rfl⟩ hE hlow hS hK [0, 1] rfl hP [0, 1, 4] rfl 0 7 rfl rfl rfl hl.1 rfl (Nat.le_of_ble_eq_true rfl) dX7_marginOf_158 ⟨Nat.zero_le _, Nat.zero_le _⟩ ?_
            refine lv_if_eq (tgt := 171) hx hb dX7_marginOf_161 (by decide) (fun c_16 => ?_) (fun c_16 => ?_)
            · skip
              have c_16 : (wetS zo he go ((8 * (wN k7)) + k7) && decide (DY ((8 * (wN k7)) + k7) = 0)) = false := bI_f c_16
              refine lv_iload hx hb dX7_marginOf_171 (lv_at hl 0 rfl) ?_
              refine lv_iadd hx hb dX7_marginOf_173 ?_
              refine lv_istore_n (lv' := [(3, .int ((sumA (rsT (atZ zo hd) MO (wtT zo he go DY) wN) x k7) + ((atZ zo hd ((8 * (wN k7)) + k7)) + (MO k7)))), (8, .int ((atZ zo hd ((8 * (wN k7)) + k7)) + (MO k7))), (7, .int (nI ((8 * (wN k7)) + k7))), (2, .int ((sumA (drT (isES zo go) (wtT zo he go DY) wN) x k7) + ((sumA (buT (isES zo go) (wtT zo he go DY) k7) (wN k7 + 1) 6) * (1 + ((nI (wN k7)) - 0))))), (6, .int ((nI (wN k7)) - 0)), (0, .ref o), (1, .int (nI x)), (4, .int (nI k7)), (5, .int (sumA (buT (isES zo go) (wtT zo he go DY) k7) (wN k7 + 1) 6))]) hx hb dX7_marginOf_174 rfl hl (by decide) rfl (fun ls hl => ?_)
              refine lv_iinc (v := nI (k7 + 1)) (lv' := [(4, .int (nI (k7 + 1))), (3, .int ((sumA (rsT (atZ zo hd) MO (wtT zo he go DY) wN) x k7) + ((atZ zo hd ((8 * (wN k7)) + k7)) + (MO k7)))), (8, .int ((atZ zo hd ((8 * (wN k7)) + k7)) + (MO k7))), (7, .int (nI ((8 * (wN k7)) + k7))), (2, .int ((sumA (drT (isES zo go) (wtT zo he go DY) wN) x k7) + ((sumA (buT (isES zo go) (wtT zo he go DY) k7) (wN k7 + 1) 6) * (1 + ((nI (wN k7)) - 0))))), (6, .int ((nI (wN k7)) - 0)), (0, .ref o), (1, .int (nI x)), (5, .int (sumA (buT (isES zo go) (wtT zo he go DY) k7) (wN k7 + 1) 6))]) hx hb dX7_marginOf_175 hl (k := 7) rfl (nI_add _ _) (by decide) rfl (fun ls hl => ?_)
              refine lv_goto (tgt := 7) hx hb dX7_marginOf_178 (by decide) ?_
              have el_17 : (((sumA (drT (isES zo go) (wtT zo he go DY) wN) x k7) + ((sumA (buT (isES zo go) (wtT zo he go DY) k7) (wN k7 + 1) 6) * (1 + ((nI (wN k7)) - 0)))) : Int32) = sumA (drT (isES zo go) (wtT zo he go DY) wN) x (k7 + 1) := by rw [sumA_s hlo7, drT]; simp [c_9, eq_true c_10, c_16]
              have el_18 : (((sumA (rsT (atZ zo hd) MO (wtT zo he go DY) wN) x k7) + ((atZ zo hd ((8 * (wN k7)) + k7)) + (MO k7))) : Int32) = sumA (rsT (atZ zo hd) MO (wtT zo he go DY) wN) x (k7 + 1) := by rw [sumA_s hlo7, rsT]; simp [wtT, c_9, eq_true c_10, c_16]
              exact ih7 (k7 + 1) (by omega) (by omega) (by omega)  ls (lv_sub hl [6, 7, 4, 1, 0] (show ([(0, .ref o), (1, .int (nI x)), (2, .int ((sumA (drT (isES zo go) (wtT zo he go DY) wN) x k7) + ((sumA (buT (isES zo go) (wtT zo he go DY) k7) (wN k7 + 1) 6) * (1 + ((nI (wN k7)) - 0))))), (3, .int ((sumA (rsT (atZ zo hd) MO (wtT zo he go DY) wN) x k7) + ((atZ zo hd ((8 * (wN k7)) + k7)) + (MO k7)))), (4, .int (nI (k7 + 1)))] : List (Nat × Value)) = [(0, .ref o), (1, .int (nI x)), (2, .int (sumA (drT (isES zo go) (wtT zo he go DY) wN) x (k7 + 1))), (3, .int (sumA (rsT (atZ zo hd) MO (wtT zo he go DY) wN) x (k7 + 1))), (4, .int (nI (k7 + 1)))] by rw [← el_17, ← el_18]))
            · skip
              have c_16 : (wetS zo he go ((8 * (wN k7)) + k7) && decide (DY ((8 * (wN k7)) + k7) = 0)) = true := bI_t c_16
              refine lv_iload hx hb dX7_marginOf_164 (lv_at hl 0 rfl) ?_
              refine lv_iconst (v := 2) hx hb dX7_marginOf_166 (by decide) ?_
              refine lv_idiv hx hb dX7_marginOf_167 (by decide) ?_
              refine lv_goto (tgt := 173) hx hb dX7_marginOf_168 (by decide) ?_
              refine lv_iadd hx hb dX7_marginOf_173 ?_
              refine lv_istore_n (lv' := [(3, .int ((sumA (rsT (atZ zo hd) MO (wtT zo he go DY) wN) x k7) + (((atZ zo hd ((8 * (wN k7)) + k7)) + (MO k7)) / 2))), (8, .int ((atZ zo hd ((8 * (wN k7)) + k7)) + (MO k7))), (7, .int (nI ((8 * (wN k7)) + k7))), (2, .int ((sumA (drT (isES zo go) (wtT zo he go DY) wN) x k7) + ((sumA (buT (isES zo go) (wtT zo he go DY) k7) (wN k7 + 1) 6) * (1 + ((nI (wN k7)) - 0))))), (6, .int ((nI (wN k7)) - 0)), (0, .ref o), (1, .int (nI x)), (4, .int (nI k7)), (5, .int (sumA (buT (isES zo go) (wtT zo he go DY) k7) (wN k7 + 1) 6))]) hx hb dX7_marginOf_174 rfl hl (by decide) rfl (fun ls hl => ?_)
              refine lv_iinc (v := nI (k7 + 1)) (lv' := [(4, .int (nI (k7 + 1))), (3, .int ((sumA (rsT (atZ zo hd) MO (wtT zo he go DY) wN) x k7) + (((atZ zo hd ((8 * (wN k7)) + k7)) + (MO k7)) / 2))), (8, .int ((atZ zo hd ((8 * (wN k7)) + k7)) + (MO k7))), (7, .int (nI ((8 * (wN k7)) + k7))), (2, .int ((sumA (drT (isES zo go) (wtT zo he go DY) wN) x k7) + ((sumA (buT (isES zo go) (wtT zo he go DY) k7) (wN k7 + 1) 6) * (1 + ((nI (wN k7)) - 0))))), (6, .int ((nI (wN k7)) - 0)), (0, .ref o), (1, .int (nI x)), (5, .int (sumA (buT (isES zo go) (wtT zo he go DY) k7) (wN k7 + 1) 6))]) hx hb dX7_marginOf_175 hl (k := 7) rfl (nI_add _ _) (by decide) rfl (fun ls hl => ?_)
              refine lv_goto (tgt := 7) hx hb dX7_marginOf_178 (by decide) ?_
              have el_19 : (((sumA (drT (isES zo go) (wtT zo he go DY) wN) x k7) + ((sumA (buT (isES zo go) (wtT zo he go DY) k7) (wN k7 + 1) 6) * (1 + ((nI (wN k7)) - 0)))) : Int32) = sumA (drT (isES zo go) (wtT zo he go DY) wN) x (k7 + 1) := by rw [sumA_s hlo7, drT]; simp [c_9, eq_true c_10, c_16]
              have el_20 : (((sumA (rsT (atZ zo hd) MO (wtT zo he go DY) wN) x k7) + (((atZ zo hd ((8 * (wN k7)) + k7)) + (MO k7)) / 2)) : Int32) = sumA (rsT (atZ zo hd) MO (wtT zo he go DY) wN) x (k7 + 1) := by rw [sumA_s hlo7, rsT]; simp [wtT, c_9, eq_true c_10, c_16]
              exact ih7 (k7 + 1) (by omega) (by omega) (by omega)  ls (lv_sub hl [6, 7, 4, 1, 0] (show ([(0, .ref o), (1, .int (nI x)), (2, .int ((sumA (drT (isES zo go) (wtT zo he go DY) wN) x k7) + ((sumA (buT (isES zo go) (wtT zo he go DY) k7) (wN k7 + 1) 6) * (1 + ((nI (wN k7)) - 0))))), (3, .int ((sumA (rsT (atZ zo hd) MO (wtT zo he go DY) wN) x k7) + (((atZ zo hd ((8 * (wN k7)) + k7)) + (MO k7)) / 2))), (4, .int (nI (k7 + 1)))] : List (Nat × Value)) = [(0, .ref o), (1, .int (nI x)), (2, .int (sumA (drT (isES zo go) (wtT zo he go DY) wN) x (k7 + 1))), (3, .int (sumA (rsT (atZ zo hd) MO (wtT zo he go DY) wN) x (k7 + 1))), (4, .int (nI (k7 + 1)))] by rw [← el_19, ← el_20]))
        · skip
          have c_9 : ¬ 6 ≤ k28 := fun h9 => c_9 ((nI_leI (a := 6) (b := k28) (by omega) (by omega)).mpr h9)
          refine lv_bipush (v := 8) hx hb dX7_marginOf_35 (by decide) ?_
          refine lv_iload hx hb dX7_marginOf_37 (lv_at hl 6 rfl) ?_
          refine lv_imul hx hb dX7_marginOf_39 ?_
          refine top_eq (y := nI (8 * k28)) (pk_mul _ _) ?_
          refine lv_iload hx hb dX7_marginOf_40 (lv_at hl 4 rfl) ?_
          refine lv_iadd hx hb dX7_marginOf_42 ?_
          refine top_eq (y := nI ((8 * k28) + k7)) (nI_add _ _) ?_
          refine lv_istore (lv' := [(7, .int (nI ((8 * k28) + k7))), (0, .ref o), (1, .int (nI x)), (2, .int (sumA (drT (isES zo go) (wtT zo he go DY) wN) x k7)), (3, .int (sumA (rsT (atZ zo hd) MO (wtT zo he go DY) wN) x k7)), (4, .int (nI k7)), (5, .int (sumA (buT (isES zo go) (wtT zo he go DY) k7) (wN k7 + 1) k28)), (6, .int (nI k28))]) hx hb dX7_marginOf_43 hl (by decide) rfl (fun ls hl => ?_)
          refine lv_iload hx hb dX7_marginOf_45 (lv_at hl 6 rfl) ?_
          refine lv_aload_n hx hb dX7_marginOf_47 rfl (lv_at hl 1 rfl) ?_
          refine lv_iload hx hb dX7_marginOf_48 (lv_at hl 0 rfl) ?_
          refine cRV (As := [.int (nI ((8 * k28) + k7))]) (rest := [.int (sumA (buT (isES zo go) (wtT zo he go DY) k7) (wN k7 + 1) k28)]) hx hb hml hown hts (c_X7_isEarth l G E cI cZ zo he go le hd gn la ((8 * k28) + k7) o a_S fs_o h_o_S (by first | assumption | omega | simp [bI, c_3, c_9])) k_16_1 cal_X7_isEarth ⟨Nat.le_of_ble_eq_true rfl, Nat.le_of_ble_eq_true rfl⟩ hE hlow hS hK [0, 1] rfl hP [0, 1] rfl 0 7 rfl rfl rfl hl.1 rfl (Nat.le_of_ble_eq_true rfl) dX7_marginOf_50 ⟨Nat.zero_le _, Nat.zero_le _⟩ ?_
          refine lv_if_eq (tgt := 73) hx hb dX7_marginOf_53 (by decide) (fun c_21 => ?_) (fun c_21 => ?_)
          · skip
            have c_21 : (isES zo go ((8 * k28) + k7)) = false := bI_f c_21
            refine lv_iconst (v := 0) hx hb dX7_marginOf_73 (by decide) ?_
            refine lv_iadd hx hb dX7_marginOf_74 ?_
            refine lv_istore (lv' := [(5, .int ((sumA (buT (isES zo go) (wtT zo he go DY) k7) (wN k7 + 1) k28) + 0)), (7, .int (nI ((8 * k28) + k7))), (0, .ref o), (1, .int (nI x)), (2, .int (sumA (drT (isES zo go) (wtT zo he go DY) wN) x k7)), (3, .int (sumA (rsT (atZ zo hd) MO (wtT zo he go DY) wN) x k7)), (4, .int (nI k7)), (6, .int (nI k28))]) hx hb dX7_marginOf_75 hl (by decide) rfl (fun ls hl => ?_)
            refine lv_iinc (v := nI (k28 + 1)) (lv' := [(6, .int (nI (k28 + 1))), (5, .int ((sumA (buT (isES zo go) (wtT zo he go DY) k7) (wN k7 + 1) k28) + 0)), (7, .int (nI ((8 * k28) + k7))), (0, .ref o), (1, .int (nI x)), (2, .int (sumA (drT (isES zo go) (wtT zo he go DY) wN) x k7)), (3, .int (sumA (rsT (atZ zo hd) MO (wtT zo he go DY) wN) x k7)), (4, .int (nI k7))]) hx hb dX7_marginOf_77 hl (k := 7) rfl (nI_add _ _) (by decide) rfl (fun ls hl => ?_)
            refine lv_goto (tgt := 28) hx hb dX7_marginOf_80 (by decide) ?_
            have el_22 : (((sumA (buT (isES zo go) (wtT zo he go DY) k7) (wN k7 + 1) k28) + 0) : Int32) = sumA (buT (isES zo go) (wtT zo he go DY) k7) (wN k7 + 1) (k28 + 1) := by rw [sumA_s hlo28, buT]; simp [wtT, c_9, c_21]
            exact ih28 (k28 + 1) (by omega) (by omega) (by omega)  ls (lv_sub hl [3, 4, 5, 6, 7, 1, 0] (show ([(0, .ref o), (1, .int (nI x)), (2, .int (sumA (drT (isES zo go) (wtT zo he go DY) wN) x k7)), (3, .int (sumA (rsT (atZ zo hd) MO (wtT zo he go DY) wN) x k7)), (4, .int (nI k7)), (5, .int ((sumA (buT (isES zo go) (wtT zo he go DY) k7) (wN k7 + 1) k28) + 0)), (6, .int (nI (k28 + 1)))] : List (Nat × Value)) = [(0, .ref o), (1, .int (nI x)), (2, .int (sumA (drT (isES zo go) (wtT zo he go DY) wN) x k7)), (3, .int (sumA (rsT (atZ zo hd) MO (wtT zo he go DY) wN) x k7)), (4, .int (nI k7)), (5, .int (sumA (buT (isES zo go) (wtT zo he go DY) k7) (wN k7 + 1) (k28 + 1))), (6, .int (nI (k28 + 1)))] by rw [← el_22]))
          · skip
            have c_21 : (isES zo go ((8 * k28) + k7)) = true := bI_t c_21
            refine lv_aload_n hx hb dX7_marginOf_56 rfl (lv_at hl 1 rfl) ?_
            refine lv_iload hx hb dX7_marginOf_57 (lv_at hl 0 rfl) ?_
            refine cRV (As := [.int (nI ((8 * k28) + k7))]) (rest := [.int (sumA (buT (isES zo go) (wtT zo he go DY) k7) (wN k7 + 1) k28)]) hx hb hml hown hts (c_X7_counts l G E cI cZ zo he go le hd gn la ((8 * k28) + k7) o a_S a_DY fs_o h_o_S h_o_DY DY (by first | assumption | omega | simp [bI, c_3, c_9, c_21])) k_27_6 cal_X7_counts ⟨Nat.le_of_ble_eq_true rfl, Nat.le_of_ble_eq_true rfl⟩ hE hlow hS hK [0, 1] rfl hP [0, 1, 4] rfl 0 7 rfl rfl rfl hl.1 rfl (Nat.le_of_ble_eq_true rfl) dX7_marginOf_59 ⟨Nat.zero_le _, Nat.zero_le _⟩ ?_
            refine lv_if_eq (tgt := 69) hx hb dX7_marginOf_62 (by decide) (fun c_23 => ?_) (fun c_23 => ?_)
            · skip
              have c_23 : (wetS zo he go ((8 * k28) + k7) && decide (DY ((8 * k28) + k7) = 0)) = false := bI_f c_23
              refine lv_iconst (v := 1) hx hb dX7_marginOf_69 (by decide) ?_
              refine lv_goto (tgt := 74) hx hb dX7_marginOf_70 (by decide) ?_
              refine lv_iadd hx hb dX7_marginOf_74 ?_
              refine lv_istore (lv' := [(5, .int ((sumA (buT (isES zo go) (wtT zo he go DY) k7) (wN k7 + 1) k28) + 1)), (7, .int (nI ((8 * k28) + k7))), (0, .ref o), (1, .int (nI x)), (2, .int (sumA (drT (isES zo go) (wtT zo he go DY) wN) x k7)), (3, .int (sumA (rsT (atZ zo hd) MO (wtT zo he go DY) wN) x k7)), (4, .int (nI k7)), (6, .int (nI k28))]) hx hb dX7_marginOf_75 hl (by decide) rfl (fun ls hl => ?_)
              refine lv_iinc (v := nI (k28 + 1)) (lv' := [(6, .int (nI (k28 + 1))), (5, .int ((sumA (buT (isES zo go) (wtT zo he go DY) k7) (wN k7 + 1) k28) + 1)), (7, .int (nI ((8 * k28) + k7))), (0, .ref o), (1, .int (nI x)), (2, .int (sumA (drT (isES zo go) (wtT zo he go DY) wN) x k7)), (3, .int (sumA (rsT (atZ zo hd) MO (wtT zo he go DY) wN) x k7)), (4, .int (nI k7))]) hx hb dX7_marginOf_77 hl (k := 7) rfl (nI_add _ _) (by decide) rfl (fun ls hl => ?_)
              refine lv_goto (tgt := 28) hx hb dX7_marginOf_80 (by decide) ?_
              have el_24 : (((sumA (buT (isES zo go) (wtT zo he go DY) k7) (wN k7 + 1) k28) + 1) : Int32) = sumA (buT (isES zo go) (wtT zo he go DY) k7) (wN k7 + 1) (k28 + 1) := by rw [sumA_s hlo28, buT]; simp [wtT, c_9, c_21, c_23]
              exact ih28 (k28 + 1) (by omega) (by omega) (by omega)  ls (lv_sub hl [3, 4, 5, 6, 7, 1, 0] (show ([(0, .ref o), (1, .int (nI x)), (2, .int (sumA (drT (isES zo go) (wtT zo he go DY) wN) x k7)), (3, .int (sumA (rsT (atZ zo hd) MO (wtT zo he go DY) wN) x k7)), (4, .int (nI k7)), (5, .int ((sumA (buT (isES zo go) (wtT zo he go DY) k7) (wN k7 + 1) k28) + 1)), (6, .int (nI (k28 + 1)))] : List (Nat × Value)) = [(0, .ref o), (1, .int (nI x)), (2, .int (sumA (drT (isES zo go) (wtT zo he go DY) wN) x k7)), (3, .int (sumA (rsT (atZ zo hd) MO (wtT zo he go DY) wN) x k7)), (4, .int (nI k7)), (5, .int (sumA (buT (isES zo go) (wtT zo he go DY) k7) (wN k7 + 1) (k28 + 1))), (6, .int (nI (k28 + 1)))] by rw [← el_24]))
            · skip
              have c_23 : (wetS zo he go ((8 * k28) + k7) && decide (DY ((8 * k28) + k7) = 0)) = true := bI_t c_23
              refine lv_iconst (v := 2) hx hb dX7_marginOf_65 (by decide) ?_
              refine lv_goto (tgt := 74) hx hb dX7_marginOf_66 (by decide) ?_
              refine lv_iadd hx hb dX7_marginOf_74 ?_
              refine lv_istore (lv' := [(5, .int ((sumA (buT (isES zo go) (wtT zo he go DY) k7) (wN k7 + 1) k28) + 2)), (7, .int (nI ((8 * k28) + k7))), (0, .ref o), (1, .int (nI x)), (2, .int (sumA (drT (isES zo go) (wtT zo he go DY) wN) x k7)), (3, .int (sumA (rsT (atZ zo hd) MO (wtT zo he go DY) wN) x k7)), (4, .int (nI k7)), (6, .int (nI k28))]) hx hb dX7_marginOf_75 hl (by decide) rfl (fun ls hl => ?_)
              refine lv_iinc (v := nI (k28 + 1)) (lv' := [(6, .int (nI (k28 + 1))), (5, .int ((sumA (buT (isES zo go) (wtT zo he go DY) k7) (wN k7 + 1) k28) + 2)), (7, .int (nI ((8 * k28) + k7))), (0, .ref o), (1, .int (nI x)), (2, .int (sumA (drT (isES zo go) (wtT zo he go DY) wN) x k7)), (3, .int (sumA (rsT (atZ zo hd) MO (wtT zo he go DY) wN) x k7)), (4, .int (nI k7))]) hx hb dX7_marginOf_77 hl (k := 7) rfl (nI_add _ _) (by decide) rfl (fun ls hl => ?_)
              refine lv_goto (tgt := 28) hx hb dX7_marginOf_80 (by decide) ?_
              have el_25 : (((sumA (buT (isES zo go) (wtT zo he go DY) k7) (wN k7 + 1) k28) + 2) : Int32) = sumA (buT (isES zo go) (wtT zo he go DY) k7) (wN k7 + 1) (k28 + 1) := by rw [sumA_s hlo28, buT]; simp [wtT, c_9, c_21, c_23]
              exact ih28 (k28 + 1) (by omega) (by omega) (by omega)  ls (lv_sub hl [3, 4, 5, 6, 7, 1, 0] (show ([(0, .ref o), (1, .int (nI x)), (2, .int (sumA (drT (isES zo go) (wtT zo he go DY) wN) x k7)), (3, .int (sumA (rsT (atZ zo hd) MO (wtT zo he go DY) wN) x k7)), (4, .int (nI k7)), (5, .int ((sumA (buT (isES zo go) (wtT zo he go DY) k7) (wN k7 + 1) k28) + 2)), (6, .int (nI (k28 + 1)))] : List (Nat × Value)) = [(0, .ref o), (1, .int (nI x)), (2, .int (sumA (drT (isES zo go) (wtT zo he go DY) wN) x k7)), (3, .int (sumA (rsT (atZ zo hd) MO (wtT zo he go DY) wN) x k7)), (4, .int (nI k7)), (5, .int (sumA (buT (isES zo go) (wtT zo he go DY) k7) (wN k7 + 1) (k28 + 1))), (6, .int (nI (k28 + 1)))] by rw [← el_25]))
