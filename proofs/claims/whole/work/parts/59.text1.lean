-- THE CLASS'S TEXT: tokens as (sort, first, behind, value)
abbrev CdT : Type := Int32 × Nat × Nat × Int32
theorem by_in {TX : Nat → Int32} {n i : Nat} (h : i < n) : byM TX n i = TX i := by rw [byM, if_neg (by omega)]
theorem by_out {TX : Nat → Int32} {n i : Nat} (h : n ≤ i) : byM TX n i = -1 := by rw [byM, if_pos h]
theorem skB_step1 {TX : Nat → Int32} {n : Nat} {f : Int32 → Bool} {i : Nat} (h : i < n) (hf : f (TX i) = true) : skB TX n f i = skB TX n f (i + 1) := by
  rw [skB, skB, show n - i = (n - (i + 1)) + 1 by omega, skM, if_pos (by rw [by_in h]; exact hf)]
theorem skB_end {TX : Nat → Int32} {n : Nat} {f : Int32 → Bool} {i : Nat} (h : n ≤ i ∨ f (TX i) = false) (h1 : f (-1) = false) : skB TX n f i = i := by
  apply skB_stop
  rcases Nat.lt_or_ge i n with q | q
  · rw [by_in q]
    exact h.resolve_left (by omega)
  · rw [by_out q]
    exact h1
def dgC (BT : Nat → Int32) (P : Nat) : Nat → Int32
  | 0 => 0
  | m + 1 => mnI 100 (10 * dgC BT P m + BT (P + m) - 48)
def dgT (BT : Nat → Int32) (n P : Nat) : Int32 := if (BT P = 48 ∧ 1 < skB BT n f48 P - P) ∨ dgC BT P (skB BT n f48 P - P) = 100 then 4 else 2
def cN (BT : Nat → Int32) (n P : Nat) : Nat := if P < n then (if ltM (BT P) then skB BT n ltM P else if f48 (BT P) then skB BT n f48 P else P + 1) else P
def cT (BT : Nat → Int32) (n P : Nat) : Int32 := if P < n then (if ltM (BT P) then 1 else if f48 (BT P) then dgT BT n P else if BT P = 59 then 3 else 4) else 0
def cV (BT : Nat → Int32) (n P : Nat) (v : Int32) : Int32 := if P < n then (if ltM (BT P) then v else if f48 (BT P) then dgC BT P (skB BT n f48 P - P) else v) else v
def tkR (BT : Nat → Int32) (n b : Nat) (v : Int32) : CdT := (cT BT n (skB BT n f32 b), skB BT n f32 b, cN BT n (skB BT n f32 b), cV BT n (skB BT n f32 b) v)
theorem cN_b {BT : Nat → Int32} {n P : Nat} (h : P ≤ n) : P ≤ cN BT n P ∧ cN BT n P ≤ n := by
  rw [cN]
  split
  · split
    · exact skB_b h
    · split
      · exact skB_b h
      · omega
  · omega
theorem tkR_b {BT : Nat → Int32} {n b : Nat} {v : Int32} (h : b ≤ n) : b ≤ (tkR BT n b v).2.1 ∧ (tkR BT n b v).2.1 ≤ (tkR BT n b v).2.2.1 ∧ (tkR BT n b v).2.2.1 ≤ n := by
  have h1 := skB_b (TX := BT) (f := f32) h
  have h2 := cN_b (BT := BT) h1.2
  exact ⟨h1.1, h2.1, h2.2⟩
def nuB (lo hi : Int32) (r : CdT) : Bool := decide (r.1 = 2) && wiB r.2.2.2 lo hi
def wdC (BT : Nat → Int32) (i : Nat) (r : Int32 × Nat × Nat) : Bool := decide (r.1 = 1) && (decide (r.2.2 - r.2.1 = lnS i) && !anyS (fun k => !decide (BT (r.2.1 + k) = kcS i k)) (lnS i))
def tyK (v : Int64) (i : Nat) : Int32 := ((v.toUInt64 >>> ((nI (8 * i)).toInt64.toUInt64 &&& Int64.toUInt64 63)).toInt64).toInt32 &&& 255
def tyE (BT : Nat → Int32) (v : Int64) (n cn : Nat) : Nat → Nat → Int32
  | 0 => BT
  | k + 1 => upd (tyE BT v n cn k) (n + k) (tyK v (cn - 1 - k))
theorem cal_X0_isWordSign : calS yX0_isWordSign cX0_isWordSign 1 (some .boolean) 1 := ⟨k_9_5, k_1_15, k_9_4, by decide +kernel⟩
set_option maxHeartbeats 4000000 in
set_option maxRecDepth 100000 in
theorem c_X0_isWordSign (l : Launch) (G : va_G) (E : EvT) (cI cZ : ClassId) (v : Int32) : cR l G E yX0_isWordSign cX0_isWordSign 1 (some .boolean) 1 [(cI, .int), (cZ, .boolean)] [.int v] [] (bI (ltM v)) := by
  refine mkR (by decide) (Nat.le_of_ble_eq_true rfl) ?_
  intro zp ze s zm args below meth zc hx hb hr hml hown hts hlocks hE hP hK ls hl
  have hS : va_S (fun _ => False) s.heap s.heap [] := va_S.rf
  have hlow : ∀ q : Nat, (fun _ : Nat => False) q → E.1 ≤ q := fun _ h => h.elim
  have hl : lv_has ls 1 [(0, .int v)] := hl
  refine lv_iload_n hx hb dX0_isWordSign_0 rfl (lv_at hl 0 rfl) ?_
  refine lv_bipush (v := 97) hx hb dX0_isWordSign_1 (by decide) ?_
  refine lv_icmp_lt (tgt := 12) hx hb dX0_isWordSign_3 (by decide) (fun c_1 => ?_) (fun c_1 => ?_)
  · skip
    refine lv_iload_n hx hb dX0_isWordSign_12 rfl (lv_at hl 0 rfl) ?_
    refine lv_bipush (v := 46) hx hb dX0_isWordSign_13 (by decide) ?_
    refine lv_icmp_ne (tgt := 22) hx hb dX0_isWordSign_15 (by decide) (fun c_2 => ?_) (fun c_2 => ?_)
    · skip
      refine lv_iconst (v := 0) hx hb dX0_isWordSign_22 (by decide) ?_
      exact retR hx hb hr (rfl) hlocks dX0_isWordSign_23 (by simp [ltM, wiB, bI, c_1, c_2])
    · skip
      refine lv_iconst (v := 1) hx hb dX0_isWordSign_18 (by decide) ?_
      refine lv_goto (tgt := 23) hx hb dX0_isWordSign_19 (by decide) ?_
      exact retR hx hb hr (rfl) hlocks dX0_isWordSign_23 (by simp [ltM, wiB, bI, c_1, eq_true c_2])
  · skip
    refine lv_iload_n hx hb dX0_isWordSign_6 rfl (lv_at hl 0 rfl) ?_
    refine lv_bipush (v := 122) hx hb dX0_isWordSign_7 (by decide) ?_
    refine lv_icmp_le (tgt := 18) hx hb dX0_isWordSign_9 (by decide) (fun c_3 => ?_) (fun c_3 => ?_)
    · skip
      have c_3 := i_nlt c_3
      refine lv_iconst (v := 1) hx hb dX0_isWordSign_18 (by decide) ?_
      refine lv_goto (tgt := 23) hx hb dX0_isWordSign_19 (by decide) ?_
      exact retR hx hb hr (rfl) hlocks dX0_isWordSign_23 (by simp [ltM, wiB, bI, c_1, c_3])
    · skip
      have c_3 := i_lt c_3
      refine lv_iload_n hx hb dX0_isWordSign_12 rfl (lv_at hl 0 rfl) ?_
      refine lv_bipush (v := 46) hx hb dX0_isWordSign_13 (by decide) ?_
      refine lv_icmp_ne (tgt := 22) hx hb dX0_isWordSign_15 (by decide) (fun c_4 => ?_) (fun c_4 => ?_)
      · skip
        refine lv_iconst (v := 0) hx hb dX0_isWordSign_22 (by decide) ?_
        exact retR hx hb hr (rfl) hlocks dX0_isWordSign_23 (by simp [ltM, wiB, bI, c_1, c_3, c_4])
      · skip
        refine lv_iconst (v := 1) hx hb dX0_isWordSign_18 (by decide) ?_
        refine lv_goto (tgt := 23) hx hb dX0_isWordSign_19 (by decide) ?_
        exact retR hx hb hr (rfl) hlocks dX0_isWordSign_23 (by simp [ltM, wiB, bI, c_1, c_3, eq_true c_4])
theorem cal_X0_isDigit : calS yX0_isDigit cX0_isDigit 1 (some .boolean) 1 := ⟨k_9_12, k_1_15, k_9_11, by decide +kernel⟩
set_option maxHeartbeats 4000000 in
set_option maxRecDepth 100000 in
theorem c_X0_isDigit (l : Launch) (G : va_G) (E : EvT) (cI cZ : ClassId) (v : Int32) : cR l G E yX0_isDigit cX0_isDigit 1 (some .boolean) 1 [(cI, .int), (cZ, .boolean)] [.int v] [] (bI (f48 v)) := by
  refine mkR (by decide) (Nat.le_of_ble_eq_true rfl) ?_
  intro zp ze s zm args below meth zc hx hb hr hml hown hts hlocks hE hP hK ls hl
  have hS : va_S (fun _ => False) s.heap s.heap [] := va_S.rf
  have hlow : ∀ q : Nat, (fun _ : Nat => False) q → E.1 ≤ q := fun _ h => h.elim
  have hl : lv_has ls 1 [(0, .int v)] := hl
  refine lv_iload_n hx hb dX0_isDigit_0 rfl (lv_at hl 0 rfl) ?_
  refine lv_bipush (v := 48) hx hb dX0_isDigit_1 (by decide) ?_
  refine lv_icmp_lt (tgt := 16) hx hb dX0_isDigit_3 (by decide) (fun c_1 => ?_) (fun c_1 => ?_)
  · skip
    refine lv_iconst (v := 0) hx hb dX0_isDigit_16 (by decide) ?_
    exact retR hx hb hr (rfl) hlocks dX0_isDigit_17 (by simp [f48, wiB, bI, c_1])
  · skip
    refine lv_iload_n hx hb dX0_isDigit_6 rfl (lv_at hl 0 rfl) ?_
    refine lv_bipush (v := 57) hx hb dX0_isDigit_7 (by decide) ?_
    refine lv_icmp_gt (tgt := 16) hx hb dX0_isDigit_9 (by decide) (fun c_2 => ?_) (fun c_2 => ?_)
    · skip
      refine lv_iconst (v := 0) hx hb dX0_isDigit_16 (by decide) ?_
      exact retR hx hb hr (rfl) hlocks dX0_isDigit_17 (by simp [f48, wiB, bI, c_1, c_2])
    · skip
      refine lv_iconst (v := 1) hx hb dX0_isDigit_12 (by decide) ?_
      refine lv_goto (tgt := 17) hx hb dX0_isDigit_13 (by decide) ?_
      exact retR hx hb hr (rfl) hlocks dX0_isDigit_17 (by simp [f48, wiB, bI, c_1, c_2])
theorem cal_X0_zoneOf : calS yX0_zoneOf cX0_zoneOf 1 (some .int) 1 := ⟨k_12_11, k_1_15, k_12_10, by decide +kernel⟩
set_option maxHeartbeats 4000000 in
set_option maxRecDepth 100000 in
theorem c_X0_zoneOf (l : Launch) (G : va_G) (E : EvT) (cI cZ : ClassId) (v : Int32) : cR l G E yX0_zoneOf cX0_zoneOf 1 (some .int) 1 [(cI, .int), (cZ, .boolean)] [.int v] [] (v - 97) := by
  refine mkR (by decide) (Nat.le_of_ble_eq_true rfl) ?_
  intro zp ze s zm args below meth zc hx hb hr hml hown hts hlocks hE hP hK ls hl
  have hS : va_S (fun _ => False) s.heap s.heap [] := va_S.rf
  have hlow : ∀ q : Nat, (fun _ : Nat => False) q → E.1 ≤ q := fun _ h => h.elim
  have hl : lv_has ls 1 [(0, .int v)] := hl
  refine lv_iload_n hx hb dX0_zoneOf_0 rfl (lv_at hl 0 rfl) ?_
  refine lv_bipush (v := 97) hx hb dX0_zoneOf_1 (by decide) ?_
  refine lv_isub hx hb dX0_zoneOf_3 ?_
  exact retR hx hb hr (rfl) hlocks dX0_zoneOf_4 (rfl)
theorem cal_X0_takeWord : calV yX0_takeWord cX0_takeWord 1 none 0 := ⟨k_9_9, k_1_15, k_9_7, k_9_8, by decide +kernel⟩
set_option maxHeartbeats 4000000 in
set_option maxRecDepth 100000 in
theorem c_X0_takeWord (l : Launch) (G : va_G) (E : EvT) (cI cZ : ClassId) (n : Nat) (b9 : Nat) (o : Nat) (a_bt : Nat) (so : Int32) (fi : Int32) (vl : Int32) (bt : Nat → Int32) (hn : n ≤ 400) (hbn : b9 ≤ n) : cWv (S := Unit) l G E yX0_takeWord cX0_takeWord 1 none 2 [(cI, .int), (cZ, .boolean)] [.ref o] [(o, .inr (0, [.ref a_bt, .int (nI n), .int so, .int fi, .int (nI b9), .int vl])), (a_bt, .inl (cI, 400, .inl bt))] (fun _ => True) (fun _ => [(o, .inr (0, [.ref a_bt, .int (nI n), .int 1, .int fi, .int (nI (skB bt n ltM b9)), .int vl])), (a_bt, .inl (cI, 400, .inl bt))]) := by
  refine mkWv (by decide) (Nat.le_of_ble_eq_true rfl) ?_
  intro zp ze s zm args below meth zc hx hb hr hml hown hts hlocks hE hK A hA hlow H locs hP hD hS ls hl
  have hl : lv_has ls 1 [(0, .ref o)] := hl
  suffices lp0 : ∀ zn k0 : Nat, b9 ≤ k0 → k0 ≤ n → n < k0 + zn → (skB bt n ltM k0 = skB bt n ltM b9) → ∀ (H : Heap) (locs : List Loc), va_P G vwCl [(o, .inr (0, [.ref a_bt, .int (nI n), .int so, .int fi, .int (nI k0), .int vl])), (a_bt, .inl (cI, 400, .inl bt))] H → va_D A [(o, .inr (0, [.ref a_bt, .int (nI n), .int so, .int fi, .int (nI k0), .int vl])), (a_bt, .inl (cI, 400, .inl bt))] → va_S A s.heap H locs → ∀ ls : Array Slot, lv_has ls 1 [(0, .ref o)] → W zp l ze (rmK 2) s zm args below meth zc H locs 0 0 (MQ below (va_Qv (S := Unit) (fun _ => True) (fun u t => va_P G vwCl ((fun _ => [(o, .inr (0, [.ref a_bt, .int (nI n), .int 1, .int fi, .int (nI (skB bt n ltM b9)), .int vl])), (a_bt, .inl (cI, 400, .inl bt))]) u) t.heap) A) args s 0 0 A) (F0 zm 0 ls []) by
    exact lp0 (n + 1 - b9) b9 (by omega) (by omega) (by omega) (rfl) H locs hP hD hS ls (lv_sub hl [0] rfl)
  intro zn
  induction zn with
  | zero => exact fun k0 h1 h2 h3 => absurd h3 (by omega)
  | succ zn ih0 =>
    intro k0 hlo0 hhi0 hn0 hsk H locs hP hD hS ls hl
    refine lv_aload_n hx hb dX0_takeWord_0 rfl (lv_at hl 0 rfl) ?_
    refine va_get (D := G) (ci := 0) (v := .int (nI k0)) (C := RX0) (T := TX0) (N := 6) hx hb hts inlX0 hown hK hP 0 rfl rfl 4 (by decide) (hts (.fieldLink RX0 25 "EarthBanks$DamText" "behind" "I") k_3_3) (fun _ h9 => h9) rfl dX0_takeWord_1 ?_
    refine lv_aload_n hx hb dX0_takeWord_4 rfl (lv_at hl 0 rfl) ?_
    refine va_get (D := G) (ci := 0) (v := .int (nI n)) (C := RX0) (T := TX0) (N := 6) hx hb hts inlX0 hown hK hP 0 rfl rfl 1 (by decide) (hts (.fieldLink RX0 15 "EarthBanks$DamText" "length" "I") k_3_0) (fun _ h9 => h9) rfl dX0_takeWord_5 ?_
    refine lv_icmp_ge (tgt := 39) hx hb dX0_takeWord_8 (by decide) (fun c_1 => ?_) (fun c_1 => ?_)
    · skip
      have c_1 : n ≤ k0 := (nI_leI (a := n) (b := k0) (by omega) (by omega)).mp c_1
      have hst : skB bt n ltM b9 = k0 := hsk.symm.trans (skB_end (Or.inl (by omega)) (by decide))
      refine lv_aload_n hx hb dX0_takeWord_39 rfl (lv_at hl 0 rfl) ?_
      refine lv_iconst (v := 1) hx hb dX0_takeWord_40 (by decide) ?_
      refine va_put (D := G) (ci := 0) (v := .int 1) (ty := .int) (C := RX0) (T := TX0) (N := 6) hx hb hts inlX0 tyX0 tyX0_ok nmX0 hown hK hP hD hS 0 rfl rfl 2 (by decide) (hts (.fieldLink RX0 19 "EarthBanks$DamText" "sort" "I") k_3_1) (fun _ h9 => h9) rfl (by decide +kernel) (rfl) (rfl) (Nat.le_of_ble_eq_true rfl) dX0_takeWord_41 (fun H locs hP hD hS => ?_)
      have hP : va_P G vwCl [(o, .inr (0, [.ref a_bt, .int (nI n), .int 1, .int fi, .int (nI k0), .int vl])), (a_bt, .inl (cI, 400, .inl bt))] H := hP
      have hD : va_D A [(o, .inr (0, [.ref a_bt, .int (nI n), .int 1, .int fi, .int (nI k0), .int vl])), (a_bt, .inl (cI, 400, .inl bt))] := hD
      have ew_2 : (nI k0 : Int32) = nI (skB bt n ltM b9) := by rw [hst]
      have hP : va_P G vwCl [(o, .inr (0, [.ref a_bt, .int (nI n), .int 1, .int fi, .int (nI (skB bt n ltM b9)), .int vl])), (a_bt, .inl (cI, 400, .inl bt))] H := by rw [← ew_2]; exact hP
      exact retWv () hx hb hr hlocks dX0_takeWord_44 hS (trivial) hP
    · skip
      have c_1 : ¬ n ≤ k0 := fun h9 => c_1 ((nI_leI (a := n) (b := k0) (by omega) (by omega)).mpr h9)
      refine lv_aload_n hx hb dX0_takeWord_11 rfl (lv_at hl 0 rfl) ?_
      refine va_get (D := G) (ci := 0) (v := .ref a_bt) (C := RX0) (T := TX0) (N := 6) hx hb hts inlX0 hown hK hP 0 rfl rfl 0 (by decide) (hts (.fieldLink RX0 11 "EarthBanks$DamText" "bytes" "[I") k_2_23) (fun _ h9 => h9) rfl dX0_takeWord_12 ?_
      refine lv_aload_n hx hb dX0_takeWord_15 rfl (lv_at hl 0 rfl) ?_
      refine va_get (D := G) (ci := 0) (v := .int (nI k0)) (C := RX0) (T := TX0) (N := 6) hx hb hts inlX0 hown hK hP 0 rfl rfl 4 (by decide) (hts (.fieldLink RX0 25 "EarthBanks$DamText" "behind" "I") k_3_3) (fun _ h9 => h9) rfl dX0_takeWord_16 ?_
      refine ialdN (j := k0) hx hb hK hP 1 0 rfl rfl (by omega) (by decide) dX0_takeWord_19 ?_
      refine cRS (As := [.int (bt k0)]) (rest := []) hx hb hml hown hts (c_X0_isWordSign l G E cI cZ (bt k0)) k_9_3 cal_X0_isWordSign ⟨Nat.le_of_ble_eq_true rfl, Nat.le_of_ble_eq_true rfl⟩ hE hlow hS hK [0, 1] rfl hP [] rfl rfl hl.1 rfl (Nat.le_of_ble_eq_true rfl) dX0_takeWord_20 ⟨Nat.zero_le _, Nat.zero_le _⟩ ?_
      refine lv_if_eq (tgt := 39) hx hb dX0_takeWord_23 (by decide) (fun c_3 => ?_) (fun c_3 => ?_)
      · skip
        have c_3 : (ltM (bt k0)) = false := bI_f c_3
        have hst : skB bt n ltM b9 = k0 := hsk.symm.trans (skB_end (Or.inr c_3) (by decide))
        refine lv_aload_n hx hb dX0_takeWord_39 rfl (lv_at hl 0 rfl) ?_
        refine lv_iconst (v := 1) hx hb dX0_takeWord_40 (by decide) ?_
        refine va_put (D := G) (ci := 0) (v := .int 1) (ty := .int) (C := RX0) (T := TX0) (N := 6) hx hb hts inlX0 tyX0 tyX0_ok nmX0 hown hK hP hD hS 0 rfl rfl 2 (by decide) (hts (.fieldLink RX0 19 "EarthBanks$DamText" "sort" "I") k_3_1) (fun _ h9 => h9) rfl (by decide +kernel) (rfl) (rfl) (Nat.le_of_ble_eq_true rfl) dX0_takeWord_41 (fun H locs hP hD hS => ?_)
        have hP : va_P G vwCl [(o, .inr (0, [.ref a_bt, .int (nI n), .int 1, .int fi, .int (nI k0), .int vl])), (a_bt, .inl (cI, 400, .inl bt))] H := hP
        have hD : va_D A [(o, .inr (0, [.ref a_bt, .int (nI n), .int 1, .int fi, .int (nI k0), .int vl])), (a_bt, .inl (cI, 400, .inl bt))] := hD
        have ew_4 : (nI k0 : Int32) = nI (skB bt n ltM b9) := by rw [hst]
        have hP : va_P G vwCl [(o, .inr (0, [.ref a_bt, .int (nI n), .int 1, .int fi, .int (nI (skB bt n ltM b9)), .int vl])), (a_bt, .inl (cI, 400, .inl bt))] H := by rw [← ew_4]; exact hP
        exact retWv () hx hb hr hlocks dX0_takeWord_44 hS (trivial) hP
      · skip
        have c_3 : (ltM (bt k0)) = true := bI_t c_3
        refine lv_aload_n hx hb dX0_takeWord_26 rfl (lv_at hl 0 rfl) ?_
        refine lv_dup hx hb dX0_takeWord_27 rfl ?_
        refine va_get (D := G) (ci := 0) (v := .int (nI k0)) (C := RX0) (T := TX0) (N := 6) hx hb hts inlX0 hown hK hP 0 rfl rfl 4 (by decide) (hts (.fieldLink RX0 25 "EarthBanks$DamText" "behind" "I") k_3_3) (fun _ h9 => h9) rfl dX0_takeWord_28 ?_
        refine lv_iconst (v := 1) hx hb dX0_takeWord_31 (by decide) ?_
        refine lv_iadd hx hb dX0_takeWord_32 ?_
        refine top_eq (y := nI (k0 + 1)) (nI_add _ _) ?_
        refine va_put (D := G) (ci := 0) (v := .int (nI (k0 + 1))) (ty := .int) (C := RX0) (T := TX0) (N := 6) hx hb hts inlX0 tyX0 tyX0_ok nmX0 hown hK hP hD hS 0 rfl rfl 4 (by decide) (hts (.fieldLink RX0 25 "EarthBanks$DamText" "behind" "I") k_3_3) (fun _ h9 => h9) rfl (by decide +kernel) (rfl) (rfl) (Nat.le_of_ble_eq_true rfl) dX0_takeWord_33 (fun H locs hP hD hS => ?_)
        have hP : va_P G vwCl [(o, .inr (0, [.ref a_bt, .int (nI n), .int so, .int fi, .int (nI (k0 + 1)), .int vl])), (a_bt, .inl (cI, 400, .inl bt))] H := hP
        have hD : va_D A [(o, .inr (0, [.ref a_bt, .int (nI n), .int so, .int fi, .int (nI (k0 + 1)), .int vl])), (a_bt, .inl (cI, 400, .inl bt))] := hD
        refine lv_goto (tgt := 0) hx hb dX0_takeWord_36 (by decide) ?_
        exact ih0 (k0 + 1) (by omega) (by omega) (by omega) ((skB_step1 (f := ltM) (by omega) c_3).symm.trans hsk) H locs hP hD hS ls (lv_sub hl [0] rfl)
theorem cal_X0_takeDigits : calV yX0_takeDigits cX0_takeDigits 2 none 0 := ⟨k_9_16, k_1_15, k_9_14, k_9_15, by decide +kernel⟩
set_option maxHeartbeats 4000000 in
set_option maxRecDepth 100000 in
theorem c_X0_takeDigits (l : Launch) (G : va_G) (E : EvT) (cI cZ : ClassId) (n : Nat) (p9 : Nat) (o : Nat) (a_bt : Nat) (so : Int32) (vl : Int32) (bt : Nat → Int32) (hn : n ≤ 400) (hpn : p9 < n) : cWv (S := Unit) l G E yX0_takeDigits cX0_takeDigits 2 none 2 [(cI, .int), (cZ, .boolean)] [.ref o] [(o, .inr (0, [.ref a_bt, .int (nI n), .int so, .int (nI p9), .int (nI p9), .int vl])), (a_bt, .inl (cI, 400, .inl bt))] (fun _ => True) (fun _ => [(o, .inr (0, [.ref a_bt, .int (nI n), .int (dgT bt n p9), .int (nI p9), .int (nI (skB bt n f48 p9)), .int (dgC bt p9 (skB bt n f48 p9 - p9))])), (a_bt, .inl (cI, 400, .inl bt))]) := by
  refine mkWv (by decide) (Nat.le_of_ble_eq_true rfl) ?_
  intro zp ze s zm args below meth zc hx hb hr hml hown hts hlocks hE hK A hA hlow H locs hP hD hS ls hl
  have hl : lv_has ls 2 [(0, .ref o)] := hl
  refine lv_aload_n hx hb dX0_takeDigits_0 rfl (lv_at hl 0 rfl) ?_
  refine lv_iconst (v := 0) hx hb dX0_takeDigits_1 (by decide) ?_
  refine va_put (D := G) (ci := 0) (v := .int 0) (ty := .int) (C := RX0) (T := TX0) (N := 6) hx hb hts inlX0 tyX0 tyX0_ok nmX0 hown hK hP hD hS 0 rfl rfl 5 (by decide) (hts (.fieldLink RX0 28 "EarthBanks$DamText" "value" "I") k_3_4) (fun _ h9 => h9) rfl (by decide +kernel) (rfl) (rfl) (Nat.le_of_ble_eq_true rfl) dX0_takeDigits_2 (fun H locs hP hD hS => ?_)
  have hP : va_P G vwCl [(o, .inr (0, [.ref a_bt, .int (nI n), .int so, .int (nI p9), .int (nI p9), .int 0])), (a_bt, .inl (cI, 400, .inl bt))] H := hP
  have hD : va_D A [(o, .inr (0, [.ref a_bt, .int (nI n), .int so, .int (nI p9), .int (nI p9), .int 0])), (a_bt, .inl (cI, 400, .inl bt))] := hD
  suffices lp5 : ∀ zn k5 : Nat, p9 ≤ k5 → k5 ≤ n → n < k5 + zn → (skB bt n f48 k5 = skB bt n f48 p9) → ∀ (H : Heap) (locs : List Loc), va_P G vwCl [(o, .inr (0, [.ref a_bt, .int (nI n), .int so, .int (nI p9), .int (nI k5), .int (dgC bt p9 (k5 - p9))])), (a_bt, .inl (cI, 400, .inl bt))] H → va_D A [(o, .inr (0, [.ref a_bt, .int (nI n), .int so, .int (nI p9), .int (nI k5), .int (dgC bt p9 (k5 - p9))])), (a_bt, .inl (cI, 400, .inl bt))] → va_S A s.heap H locs → ∀ ls : Array Slot, lv_has ls 2 [(0, .ref o)] → W zp l ze (rmK 2) s zm args below meth zc H locs 0 0 (MQ below (va_Qv (S := Unit) (fun _ => True) (fun u t => va_P G vwCl ((fun _ => [(o, .inr (0, [.ref a_bt, .int (nI n), .int (dgT bt n p9), .int (nI p9), .int (nI (skB bt n f48 p9)), .int (dgC bt p9 (skB bt n f48 p9 - p9))])), (a_bt, .inl (cI, 400, .inl bt))]) u) t.heap) A) args s 0 0 A) (F0 zm 5 ls []) by
    have er_1 : (0 : Int32) = dgC bt p9 (p9 - p9) := by rw [Nat.sub_self]; rfl
    exact lp5 (n + 1 - p9) p9 (by omega) (by omega) (by omega) (rfl) H locs (by rw [← er_1]; exact hP) (by rw [← er_1]; exact hD) hS ls (lv_sub hl [0] rfl)
  intro zn
  induction zn with
  | zero => exact fun k5 h1 h2 h3 => absurd h3 (by omega)
  | succ zn ih5 =>
    intro k5 hlo5 hhi5 hn5 hsk H locs hP hD hS ls hl
    refine lv_aload_n hx hb dX0_takeDigits_5 rfl (lv_at hl 0 rfl) ?_
    refine va_get (D := G) (ci := 0) (v := .int (nI k5)) (C := RX0) (T := TX0) (N := 6) hx hb hts inlX0 hown hK hP 0 rfl rfl 4 (by decide) (hts (.fieldLink RX0 25 "EarthBanks$DamText" "behind" "I") k_3_3) (fun _ h9 => h9) rfl dX0_takeDigits_6 ?_
    refine lv_aload_n hx hb dX0_takeDigits_9 rfl (lv_at hl 0 rfl) ?_
    refine va_get (D := G) (ci := 0) (v := .int (nI n)) (C := RX0) (T := TX0) (N := 6) hx hb hts inlX0 hown hK hP 0 rfl rfl 1 (by decide) (hts (.fieldLink RX0 15 "EarthBanks$DamText" "length" "I") k_3_0) (fun _ h9 => h9) rfl dX0_takeDigits_10 ?_
    refine lv_icmp_ge (tgt := 73) hx hb dX0_takeDigits_13 (by decide) (fun c_2 => ?_) (fun c_2 => ?_)
    · skip
      have c_2 : n ≤ k5 := (nI_leI (a := n) (b := k5) (by omega) (by omega)).mp c_2
      have hst : skB bt n f48 p9 = k5 := hsk.symm.trans (skB_end (Or.inl (by omega)) (by decide))
      refine lv_aload_n hx hb dX0_takeDigits_73 rfl (lv_at hl 0 rfl) ?_
      refine va_get (D := G) (ci := 0) (v := .ref a_bt) (C := RX0) (T := TX0) (N := 6) hx hb hts inlX0 hown hK hP 0 rfl rfl 0 (by decide) (hts (.fieldLink RX0 11 "EarthBanks$DamText" "bytes" "[I") k_2_23) (fun _ h9 => h9) rfl dX0_takeDigits_74 ?_
      refine lv_aload_n hx hb dX0_takeDigits_77 rfl (lv_at hl 0 rfl) ?_
      refine va_get (D := G) (ci := 0) (v := .int (nI p9)) (C := RX0) (T := TX0) (N := 6) hx hb hts inlX0 hown hK hP 0 rfl rfl 3 (by decide) (hts (.fieldLink RX0 22 "EarthBanks$DamText" "first" "I") k_3_2) (fun _ h9 => h9) rfl dX0_takeDigits_78 ?_
      refine ialdN (j := p9) hx hb hK hP 1 0 rfl rfl (by omega) (by decide) dX0_takeDigits_81 ?_
      refine lv_bipush (v := 48) hx hb dX0_takeDigits_82 (by decide) ?_
      refine lv_icmp_ne (tgt := 104) hx hb dX0_takeDigits_84 (by decide) (fun c_3 => ?_) (fun c_3 => ?_)
      · skip
        refine lv_iconst (v := 0) hx hb dX0_takeDigits_104 (by decide) ?_
        refine lv_istore_n (lv' := [(1, .int 0), (0, .ref o)]) hx hb dX0_takeDigits_105 rfl hl (by decide) rfl (fun ls hl => ?_)
        refine lv_aload_n hx hb dX0_takeDigits_106 rfl (lv_at hl 1 rfl) ?_
        refine lv_iload_n hx hb dX0_takeDigits_107 rfl (lv_at hl 0 rfl) ?_
        refine lv_if_ne (tgt := 120) hx hb dX0_takeDigits_108 (by decide) (fun c_4 => ?_) (fun c_4 => ?_)
        · skip
          exact absurd (by decide) c_4
        · skip
          refine lv_aload_n hx hb dX0_takeDigits_111 rfl (lv_at hl 1 rfl) ?_
          refine va_get (D := G) (ci := 0) (v := .int (dgC bt p9 (k5 - p9))) (C := RX0) (T := TX0) (N := 6) hx hb hts inlX0 hown hK hP 0 rfl rfl 5 (by decide) (hts (.fieldLink RX0 28 "EarthBanks$DamText" "value" "I") k_3_4) (fun _ h9 => h9) rfl dX0_takeDigits_112 ?_
          refine lv_bipush (v := 100) hx hb dX0_takeDigits_115 (by decide) ?_
          refine lv_icmp_ne (tgt := 124) hx hb dX0_takeDigits_117 (by decide) (fun c_5 => ?_) (fun c_5 => ?_)
          · skip
            refine lv_iconst (v := 2) hx hb dX0_takeDigits_124 (by decide) ?_
            refine va_put (D := G) (ci := 0) (v := .int 2) (ty := .int) (C := RX0) (T := TX0) (N := 6) hx hb hts inlX0 tyX0 tyX0_ok nmX0 hown hK hP hD hS 0 rfl rfl 2 (by decide) (hts (.fieldLink RX0 19 "EarthBanks$DamText" "sort" "I") k_3_1) (fun _ h9 => h9) rfl (by decide +kernel) (rfl) (rfl) (Nat.le_of_ble_eq_true rfl) dX0_takeDigits_125 (fun H locs hP hD hS => ?_)
            have hP : va_P G vwCl [(o, .inr (0, [.ref a_bt, .int (nI n), .int 2, .int (nI p9), .int (nI k5), .int (dgC bt p9 (k5 - p9))])), (a_bt, .inl (cI, 400, .inl bt))] H := hP
            have hD : va_D A [(o, .inr (0, [.ref a_bt, .int (nI n), .int 2, .int (nI p9), .int (nI k5), .int (dgC bt p9 (k5 - p9))])), (a_bt, .inl (cI, 400, .inl bt))] := hD
            have ew_6 : (2 : Int32) = dgT bt n p9 := by rw [dgT, hst]; simp [c_3, eq_true c_4, c_5]
            have ew_7 : (nI k5 : Int32) = nI (skB bt n f48 p9) := by rw [hst]
            have ew_8 : (dgC bt p9 (k5 - p9) : Int32) = dgC bt p9 (skB bt n f48 p9 - p9) := by rw [hst]
            have hP : va_P G vwCl [(o, .inr (0, [.ref a_bt, .int (nI n), .int (dgT bt n p9), .int (nI p9), .int (nI (skB bt n f48 p9)), .int (dgC bt p9 (skB bt n f48 p9 - p9))])), (a_bt, .inl (cI, 400, .inl bt))] H := by rw [← ew_6, ← ew_7, ← ew_8]; exact hP
            exact retWv () hx hb hr hlocks dX0_takeDigits_128 hS (trivial) hP
          · skip
            refine lv_iconst (v := 4) hx hb dX0_takeDigits_120 (by decide) ?_
            refine lv_goto (tgt := 125) hx hb dX0_takeDigits_121 (by decide) ?_
            refine va_put (D := G) (ci := 0) (v := .int 4) (ty := .int) (C := RX0) (T := TX0) (N := 6) hx hb hts inlX0 tyX0 tyX0_ok nmX0 hown hK hP hD hS 0 rfl rfl 2 (by decide) (hts (.fieldLink RX0 19 "EarthBanks$DamText" "sort" "I") k_3_1) (fun _ h9 => h9) rfl (by decide +kernel) (rfl) (rfl) (Nat.le_of_ble_eq_true rfl) dX0_takeDigits_125 (fun H locs hP hD hS => ?_)
            have hP : va_P G vwCl [(o, .inr (0, [.ref a_bt, .int (nI n), .int 4, .int (nI p9), .int (nI k5), .int (dgC bt p9 (k5 - p9))])), (a_bt, .inl (cI, 400, .inl bt))] H := hP
            have hD : va_D A [(o, .inr (0, [.ref a_bt, .int (nI n), .int 4, .int (nI p9), .int (nI k5), .int (dgC bt p9 (k5 - p9))])), (a_bt, .inl (cI, 400, .inl bt))] := hD
            have ew_9 : (4 : Int32) = dgT bt n p9 := by rw [dgT, hst]; simp [c_3, eq_true c_4, eq_true c_5]
            have ew_10 : (nI k5 : Int32) = nI (skB bt n f48 p9) := by rw [hst]
            have ew_11 : (dgC bt p9 (k5 - p9) : Int32) = dgC bt p9 (skB bt n f48 p9 - p9) := by rw [hst]
            have hP : va_P G vwCl [(o, .inr (0, [.ref a_bt, .int (nI n), .int (dgT bt n p9), .int (nI p9), .int (nI (skB bt n f48 p9)), .int (dgC bt p9 (skB bt n f48 p9 - p9))])), (a_bt, .inl (cI, 400, .inl bt))] H := by rw [← ew_9, ← ew_10, ← ew_11]; exact hP
            exact retWv () hx hb hr hlocks dX0_takeDigits_128 hS (trivial) hP
      · skip
        refine lv_aload_n hx hb dX0_takeDigits_87 rfl (lv_at hl 0 rfl) ?_
        refine va_get (D := G) (ci := 0) (v := .int (nI k5)) (C := RX0) (T := TX0) (N := 6) hx hb hts inlX0 hown hK hP 0 rfl rfl 4 (by decide) (hts (.fieldLink RX0 25 "EarthBanks$DamText" "behind" "I") k_3_3) (fun _ h9 => h9) rfl dX0_takeDigits_88 ?_
        refine lv_aload_n hx hb dX0_takeDigits_91 rfl (lv_at hl 0 rfl) ?_
        refine va_get (D := G) (ci := 0) (v := .int (nI p9)) (C := RX0) (T := TX0) (N := 6) hx hb hts inlX0 hown hK hP 0 rfl rfl 3 (by decide) (hts (.fieldLink RX0 22 "EarthBanks$DamText" "first" "I") k_3_2) (fun _ h9 => h9) rfl dX0_takeDigits_92 ?_
        refine lv_isub hx hb dX0_takeDigits_95 ?_
        refine top_eq (y := nI (k5 - p9)) (pk_sub (a := k5) (b := p9) (by omega)) ?_
        refine lv_iconst (v := 1) hx hb dX0_takeDigits_96 (by decide) ?_
        refine lv_icmp_le (tgt := 104) hx hb dX0_takeDigits_97 (by decide) (fun c_12 => ?_) (fun c_12 => ?_)
        · skip
          have c_12 : (k5 - p9) ≤ 1 := (nI_leI (a := (k5 - p9)) (b := 1) (by omega) (by omega)).mp c_12
          refine lv_iconst (v := 0) hx hb dX0_takeDigits_104 (by decide) ?_
          refine lv_istore_n (lv' := [(1, .int 0), (0, .ref o)]) hx hb dX0_takeDigits_105 rfl hl (by decide) rfl (fun ls hl => ?_)
          refine lv_aload_n hx hb dX0_takeDigits_106 rfl (lv_at hl 1 rfl) ?_
          refine lv_iload_n hx hb dX0_takeDigits_107 rfl (lv_at hl 0 rfl) ?_
          refine lv_if_ne (tgt := 120) hx hb dX0_takeDigits_108 (by decide) (fun c_13 => ?_) (fun c_13 => ?_)
          · skip
            exact absurd (by decide) c_13
          · skip
            refine lv_aload_n hx hb dX0_takeDigits_111 rfl (lv_at hl 1 rfl) ?_
            refine va_get (D := G) (ci := 0) (v := .int (dgC bt p9 (k5 - p9))) (C := RX0) (T := TX0) (N := 6) hx hb hts inlX0 hown hK hP 0 rfl rfl 5 (by decide) (hts (.fieldLink RX0 28 "EarthBanks$DamText" "value" "I") k_3_4) (fun _ h9 => h9) rfl dX0_takeDigits_112 ?_
            refine lv_bipush (v := 100) hx hb dX0_takeDigits_115 (by decide) ?_
            refine lv_icmp_ne (tgt := 124) hx hb dX0_takeDigits_117 (by decide) (fun c_14 => ?_) (fun c_14 => ?_)
            · skip
              refine lv_iconst (v := 2) hx hb dX0_takeDigits_124 (by decide) ?_
              refine va_put (D := G) (ci := 0) (v := .int 2) (ty := .int) (C := RX0) (T := TX0) (N := 6) hx hb hts inlX0 tyX0 tyX0_ok nmX0 hown hK hP hD hS 0 rfl rfl 2 (by decide) (hts (.fieldLink RX0 19 "EarthBanks$DamText" "sort" "I") k_3_1) (fun _ h9 => h9) rfl (by decide +kernel) (rfl) (rfl) (Nat.le_of_ble_eq_true rfl) dX0_takeDigits_125 (fun H locs hP hD hS => ?_)
              have hP : va_P G vwCl [(o, .inr (0, [.ref a_bt, .int (nI n), .int 2, .int (nI p9), .int (nI k5), .int (dgC bt p9 (k5 - p9))])), (a_bt, .inl (cI, 400, .inl bt))] H := hP
              have hD : va_D A [(o, .inr (0, [.ref a_bt, .int (nI n), .int 2, .int (nI p9), .int (nI k5), .int (dgC bt p9 (k5 - p9))])), (a_bt, .inl (cI, 400, .inl bt))] := hD
              have ew_15 : (2 : Int32) = dgT bt n p9 := by rw [dgT, hst]; simp [eq_true c_3, c_12, eq_true c_13, c_14]
              have ew_16 : (nI k5 : Int32) = nI (skB bt n f48 p9) := by rw [hst]
              have ew_17 : (dgC bt p9 (k5 - p9) : Int32) = dgC bt p9 (skB bt n f48 p9 - p9) := by rw [hst]
              have hP : va_P G vwCl [(o, .inr (0, [.ref a_bt, .int (nI n), .int (dgT bt n p9), .int (nI p9), .int (nI (skB bt n f48 p9)), .int (dgC bt p9 (skB bt n f48 p9 - p9))])), (a_bt, .inl (cI, 400, .inl bt))] H := by rw [← ew_15, ← ew_16, ← ew_17]; exact hP
              exact retWv () hx hb hr hlocks dX0_takeDigits_128 hS (trivial) hP
            · skip
              refine lv_iconst (v := 4) hx hb dX0_takeDigits_120 (by decide) ?_
              refine lv_goto (tgt := 125) hx hb dX0_takeDigits_121 (by decide) ?_
              refine va_put (D := G) (ci := 0) (v := .int 4) (ty := .int) (C := RX0) (T := TX0) (N := 6) hx hb hts inlX0 tyX0 tyX0_ok nmX0 hown hK hP hD hS 0 rfl rfl 2 (by decide) (hts (.fieldLink RX0 19 "EarthBanks$DamText" "sort" "I") k_3_1) (fun _ h9 => h9) rfl (by decide +kernel) (rfl) (rfl) (Nat.le_of_ble_eq_true rfl) dX0_takeDigits_125 (fun H locs hP hD hS => ?_)
              have hP : va_P G vwCl [(o, .inr (0, [.ref a_bt, .int (nI n), .int 4, .int (nI p9), .int (nI k5), .int (dgC bt p9 (k5 - p9))])), (a_bt, .inl (cI, 400, .inl bt))] H := hP
              have hD : va_D A [(o, .inr (0, [.ref a_bt, .int (nI n), .int 4, .int (nI p9), .int (nI k5), .int (dgC bt p9 (k5 - p9))])), (a_bt, .inl (cI, 400, .inl bt))] := hD
              have ew_18 : (4 : Int32) = dgT bt n p9 := by rw [dgT, hst]; simp [eq_true c_3, c_12, eq_true c_13, eq_true c_14]
              have ew_19 : (nI k5 : Int32) = nI (skB bt n f48 p9) := by rw [hst]
              have ew_20 : (dgC bt p9 (k5 - p9) : Int32) = dgC bt p9 (skB bt n f48 p9 - p9) := by rw [hst]
              have hP : va_P G vwCl [(o, .inr (0, [.ref a_bt, .int (nI n), .int (dgT bt n p9), .int (nI p9), .int (nI (skB bt n f48 p9)), .int (dgC bt p9 (skB bt n f48 p9 - p9))])), (a_bt, .inl (cI, 400, .inl bt))] H := by rw [← ew_18, ← ew_19, ← ew_20]; exact hP
              exact retWv () hx hb hr hlocks dX0_takeDigits_128 hS (trivial) hP
        · skip
          have c_12 : ¬ (k5 - p9) ≤ 1 := fun h9 => c_12 ((nI_leI (a := (k5 - p9)) (b := 1) (by omega) (by omega)).mpr h9)
          refine lv_iconst (v := 1) hx hb dX0_takeDigits_100 (by decide) ?_
          refine lv_goto (tgt := 105) hx hb dX0_takeDigits_101 (by decide) ?_
          refine lv_istore_n (lv' := [(1, .int 1), (0, .ref o)]) hx hb dX0_takeDigits_105 rfl hl (by decide) rfl (fun ls hl => ?_)
          refine lv_aload_n hx hb dX0_takeDigits_106 rfl (lv_at hl 1 rfl) ?_
          refine lv_iload_n hx hb dX0_takeDigits_107 rfl (lv_at hl 0 rfl) ?_
          refine lv_if_ne (tgt := 120) hx hb dX0_takeDigits_108 (by decide) (fun c_21 => ?_) (fun c_21 => ?_)
          · skip
            refine lv_iconst (v := 4) hx hb dX0_takeDigits_120 (by decide) ?_
            refine lv_goto (tgt := 125) hx hb dX0_takeDigits_121 (by decide) ?_
            refine va_put (D := G) (ci := 0) (v := .int 4) (ty := .int) (C := RX0) (T := TX0) (N := 6) hx hb hts inlX0 tyX0 tyX0_ok nmX0 hown hK hP hD hS 0 rfl rfl 2 (by decide) (hts (.fieldLink RX0 19 "EarthBanks$DamText" "sort" "I") k_3_1) (fun _ h9 => h9) rfl (by decide +kernel) (rfl) (rfl) (Nat.le_of_ble_eq_true rfl) dX0_takeDigits_125 (fun H locs hP hD hS => ?_)
            have hP : va_P G vwCl [(o, .inr (0, [.ref a_bt, .int (nI n), .int 4, .int (nI p9), .int (nI k5), .int (dgC bt p9 (k5 - p9))])), (a_bt, .inl (cI, 400, .inl bt))] H := hP
            have hD : va_D A [(o, .inr (0, [.ref a_bt, .int (nI n), .int 4, .int (nI p9), .int (nI k5), .int (dgC bt p9 (k5 - p9))])), (a_bt, .inl (cI, 400, .inl bt))] := hD
            have ew_22 : (4 : Int32) = dgT bt n p9 := by rw [dgT, hst]; simp [eq_true c_3, c_12, c_21]
            have ew_23 : (nI k5 : Int32) = nI (skB bt n f48 p9) := by rw [hst]
            have ew_24 : (dgC bt p9 (k5 - p9) : Int32) = dgC bt p9 (skB bt n f48 p9 - p9) := by rw [hst]
            have hP : va_P G vwCl [(o, .inr (0, [.ref a_bt, .int (nI n), .int (dgT bt n p9), .int (nI p9), .int (nI (skB bt n f48 p9)), .int (dgC bt p9 (skB bt n f48 p9 - p9))])), (a_bt, .inl (cI, 400, .inl bt))] H := by rw [← ew_22, ← ew_23, ← ew_24]; exact hP
            exact retWv () hx hb hr hlocks dX0_takeDigits_128 hS (trivial) hP
          · skip
            exact absurd c_21 (by decide)
    · skip
      have c_2 : ¬ n ≤ k5 := fun h9 => c_2 ((nI_leI (a := n) (b := k5) (by omega) (by omega)).mpr h9)
      refine lv_aload_n hx hb dX0_takeDigits_16 rfl (lv_at hl 0 rfl) ?_
      refine va_get (D := G) (ci := 0) (v := .ref a_bt) (C := RX0) (T := TX0) (N := 6) hx hb hts inlX0 hown hK hP 0 rfl rfl 0 (by decide) (hts (.fieldLink RX0 11 "EarthBanks$DamText" "bytes" "[I") k_2_23) (fun _ h9 => h9) rfl dX0_takeDigits_17 ?_
      refine lv_aload_n hx hb dX0_takeDigits_20 rfl (lv_at hl 0 rfl) ?_
      refine va_get (D := G) (ci := 0) (v := .int (nI k5)) (C := RX0) (T := TX0) (N := 6) hx hb hts inlX0 hown hK hP 0 rfl rfl 4 (by decide) (hts (.fieldLink RX0 25 "EarthBanks$DamText" "behind" "I") k_3_3) (fun _ h9 => h9) rfl dX0_takeDigits_21 ?_
      refine ialdN (j := k5) hx hb hK hP 1 0 rfl rfl (by omega) (by decide) dX0_takeDigits_24 ?_
      refine cRS (As := [.int (bt k5)]) (rest := []) hx hb hml hown hts (c_X0_isDigit l G E cI cZ (bt k5)) k_9_10 cal_X0_isDigit ⟨Nat.le_of_ble_eq_true rfl, Nat.le_of_ble_eq_true rfl⟩ hE hlow hS hK [0, 1] rfl hP [] rfl rfl hl.1 rfl (Nat.le_of_ble_eq_true rfl) dX0_takeDigits_25 ⟨Nat.zero_le _, Nat.zero_le _⟩ ?_
      refine lv_if_eq (tgt := 73) hx hb dX0_takeDigits_28 (by decide) (fun c_25 => ?_) (fun c_25 => ?_)
      · skip
        have c_25 : (f48 (bt k5)) = false := bI_f c_25
        have hst : skB bt n f48 p9 = k5 := hsk.symm.trans (skB_end (Or.inr c_25) (by decide))
        refine lv_aload_n hx hb dX0_takeDigits_73 rfl (lv_at hl 0 rfl) ?_
        refine va_get (D := G) (ci := 0) (v := .ref a_bt) (C := RX0) (T := TX0) (N := 6) hx hb hts inlX0 hown hK hP 0 rfl rfl 0 (by decide) (hts (.fieldLink RX0 11 "EarthBanks$DamText" "bytes" "[I") k_2_23) (fun _ h9 => h9) rfl dX0_takeDigits_74 ?_
        refine lv_aload_n hx hb dX0_takeDigits_77 rfl (lv_at hl 0 rfl) ?_
        refine va_get (D := G) (ci := 0) (v := .int (nI p9)) (C := RX0) (T := TX0) (N := 6) hx hb hts inlX0 hown hK hP 0 rfl rfl 3 (by decide) (hts (.fieldLink RX0 22 "EarthBanks$DamText" "first" "I") k_3_2) (fun _ h9 => h9) rfl dX0_takeDigits_78 ?_
        refine ialdN (j := p9) hx hb hK hP 1 0 rfl rfl (by omega) (by decide) dX0_takeDigits_81 ?_
        refine lv_bipush (v := 48) hx hb dX0_takeDigits_82 (by decide) ?_
        refine lv_icmp_ne (tgt := 104) hx hb dX0_takeDigits_84 (by decide) (fun c_26 => ?_) (fun c_26 => ?_)
        · skip
          refine lv_iconst (v := 0) hx hb dX0_takeDigits_104 (by decide) ?_
          refine lv_istore_n (lv' := [(1, .int 0), (0, .ref o)]) hx hb dX0_takeDigits_105 rfl hl (by decide) rfl (fun ls hl => ?_)
          refine lv_aload_n hx hb dX0_takeDigits_106 rfl (lv_at hl 1 rfl) ?_
          refine lv_iload_n hx hb dX0_takeDigits_107 rfl (lv_at hl 0 rfl) ?_
          refine lv_if_ne (tgt := 120) hx hb dX0_takeDigits_108 (by decide) (fun c_27 => ?_) (fun c_27 => ?_)
          · skip
            exact absurd (by decide) c_27
          · skip
            refine lv_aload_n hx hb dX0_takeDigits_111 rfl (lv_at hl 1 rfl) ?_
            refine va_get (D := G) (ci := 0) (v := .int (dgC bt p9 (k5 - p9))) (C := RX0) (T := TX0) (N := 6) hx hb hts inlX0 hown hK hP 0 rfl rfl 5 (by decide) (hts (.fieldLink RX0 28 "EarthBanks$DamText" "value" "I") k_3_4) (fun _ h9 => h9) rfl dX0_takeDigits_112 ?_
            refine lv_bipush (v := 100) hx hb dX0_takeDigits_115 (by decide) ?_
            refine lv_icmp_ne (tgt := 124) hx hb dX0_takeDigits_117 (by decide) (fun c_28 => ?_) (fun c_28 => ?_)
            · skip
              refine lv_iconst (v := 2) hx hb dX0_takeDigits_124 (by decide) ?_
              refine va_put (D := G) (ci := 0) (v := .int 2) (ty := .int) (C := RX0) (T := TX0) (N := 6) hx hb hts inlX0 tyX0 tyX0_ok nmX0 hown hK hP hD hS 0 rfl rfl 2 (by decide) (hts (.fieldLink RX0 19 "EarthBanks$DamText" "sort" "I") k_3_1) (fun _ h9 => h9) rfl (by decide +kernel) (rfl) (rfl) (Nat.le_of_ble_eq_true rfl) dX0_takeDigits_125 (fun H locs hP hD hS => ?_)
              have hP : va_P G vwCl [(o, .inr (0, [.ref a_bt, .int (nI n), .int 2, .int (nI p9), .int (nI k5), .int (dgC bt p9 (k5 - p9))])), (a_bt, .inl (cI, 400, .inl bt))] H := hP
              have hD : va_D A [(o, .inr (0, [.ref a_bt, .int (nI n), .int 2, .int (nI p9), .int (nI k5), .int (dgC bt p9 (k5 - p9))])), (a_bt, .inl (cI, 400, .inl bt))] := hD
              have ew_29 : (2 : Int32) = dgT bt n p9 := by rw [dgT, hst]; simp [c_26, eq_true c_27, c_28]
              have ew_30 : (nI k5 : Int32) = nI (skB bt n f48 p9) := by rw [hst]
              have ew_31 : (dgC bt p9 (k5 - p9) : Int32) = dgC bt p9 (skB bt n f48 p9 - p9) := by rw [hst]
              have hP : va_P G vwCl [(o, .inr (0, [.ref a_bt, .int (nI n), .int (dgT bt n p9), .int (nI p9), .int (nI (skB bt n f48 p9)), .int (dgC bt p9 (skB bt n f48 p9 - p9))])), (a_bt, .inl (cI, 400, .inl bt))] H := by rw [← ew_29, ← ew_30, ← ew_31]; exact hP
              exact retWv () hx hb hr hlocks dX0_takeDigits_128 hS (trivial) hP
            · skip
              refine lv_iconst (v := 4) hx hb dX0_takeDigits_120 (by decide) ?_
              refine lv_goto (tgt := 125) hx hb dX0_takeDigits_121 (by decide) ?_
              refine va_put (D := G) (ci := 0) (v := .int 4) (ty := .int) (C := RX0) (T := TX0) (N := 6) hx hb hts inlX0 tyX0 tyX0_ok nmX0 hown hK hP hD hS 0 rfl rfl 2 (by decide) (hts (.fieldLink RX0 19 "EarthBanks$DamText" "sort" "I") k_3_1) (fun _ h9 => h9) rfl (by decide +kernel) (rfl) (rfl) (Nat.le_of_ble_eq_true rfl) dX0_takeDigits_125 (fun H locs hP hD hS => ?_)
              have hP : va_P G vwCl [(o, .inr (0, [.ref a_bt, .int (nI n), .int 4, .int (nI p9), .int (nI k5), .int (dgC bt p9 (k5 - p9))])), (a_bt, .inl (cI, 400, .inl bt))] H := hP
              have hD : va_D A [(o, .inr (0, [.ref a_bt, .int (nI n), .int 4, .int (nI p9), .int (nI k5), .int (dgC bt p9 (k5 - p9))])), (a_bt, .inl (cI, 400, .inl bt))] := hD
              have ew_32 : (4 : Int32) = dgT bt n p9 := by rw [dgT, hst]; simp [c_26, eq_true c_27, eq_true c_28]
              have ew_33 : (nI k5 : Int32) = nI (skB bt n f48 p9) := by rw [hst]
              have ew_34 : (dgC bt p9 (k5 - p9) : Int32) = dgC bt p9 (skB bt n f48 p9 - p9) := by rw [hst]
              have hP : va_P G vwCl [(o, .inr (0, [.ref a_bt, .int (nI n), .int (dgT bt n p9), .int (nI p9), .int (nI (skB bt n f48 p9)), .int (dgC bt p9 (skB bt n f48 p9 - p9))])), (a_bt, .inl (cI, 400, .inl bt))] H := by rw [← ew_32, ← ew_33, ← ew_34]; exact hP
              exact retWv () hx hb hr hlocks dX0_takeDigits_128 hS (trivial) hP
        · skip
          refine lv_aload_n hx hb dX0_takeDigits_87 rfl (lv_at hl 0 rfl) ?_
          refine va_get (D := G) (ci := 0) (v := .int (nI k5)) (C := RX0) (T := TX0) (N := 6) hx hb hts inlX0 hown hK hP 0 rfl rfl 4 (by decide) (hts (.fieldLink RX0 25 "EarthBanks$DamText" "behind" "I") k_3_3) (fun _ h9 => h9) rfl dX0_takeDigits_88 ?_
          refine lv_aload_n hx hb dX0_takeDigits_91 rfl (lv_at hl 0 rfl) ?_
          refine va_get (D := G) (ci := 0) (v := .int (nI p9)) (C := RX0) (T := TX0) (N := 6) hx hb hts inlX0 hown hK hP 0 rfl rfl 3 (by decide) (hts (.fieldLink RX0 22 "EarthBanks$DamText" "first" "I") k_3_2) (fun _ h9 => h9) rfl dX0_takeDigits_92 ?_
          refine lv_isub hx hb dX0_takeDigits_95 ?_
          refine top_eq (y := nI (k5 - p9)) (pk_sub (a := k5) (b := p9) (by omega)) ?_
          refine lv_iconst (v := 1) hx hb dX0_takeDigits_96 (by decide) ?_
          refine lv_icmp_le (tgt := 104) hx hb dX0_takeDigits_97 (by decide) (fun c_35 => ?_) (fun c_35 => ?_)
          · skip
            have c_35 : (k5 - p9) ≤ 1 := (nI_leI (a := (k5 - p9)) (b := 1) (by omega) (by omega)).mp c_35
            refine lv_iconst (v := 0) hx hb dX0_takeDigits_104 (by decide) ?_
            refine lv_istore_n (lv' := [(1, .int 0), (0, .ref o)]) hx hb dX0_takeDigits_105 rfl hl (by decide) rfl (fun ls hl => ?_)
            refine lv_aload_n hx hb dX0_takeDigits_106 rfl (lv_at hl 1 rfl) ?_
            refine lv_iload_n hx hb dX0_takeDigits_107 rfl (lv_at hl 0 rfl) ?_
            refine lv_if_ne (tgt := 120) hx hb dX0_takeDigits_108 (by decide) (fun c_36 => ?_) (fun c_36 => ?_)
            · skip
              exact absurd (by decide) c_36
            · skip
              refine lv_aload_n hx hb dX0_takeDigits_111 rfl (lv_at hl 1 rfl) ?_
              refine va_get (D := G) (ci := 0) (v := .int (dgC bt p9 (k5 - p9))) (C := RX0) (T := TX0) (N := 6) hx hb hts inlX0 hown hK hP 0 rfl rfl 5 (by decide) (hts (.fieldLink RX0 28 "EarthBanks$DamText" "value" "I") k_3_4) (fun _ h9 => h9) rfl dX0_takeDigits_112 ?_
              refine lv_bipush (v := 100) hx hb dX0_takeDigits_115 (by decide) ?_
              refine lv_icmp_ne (tgt := 124) hx hb dX0_takeDigits_117 (by decide) (fun c_37 => ?_) (fun c_37 => ?_)
              · skip
                refine lv_iconst (v := 2) hx hb dX0_takeDigits_124 (by decide) ?_
                refine va_put (D := G) (ci := 0) (v := .int 2) (ty := .int) (C := RX0) (T := TX0) (N := 6) hx hb hts inlX0 tyX0 tyX0_ok nmX0 hown hK hP hD hS 0 rfl rfl 2 (by decide) (hts (.fieldLink RX0 19 "EarthBanks$DamText" "sort" "I") k_3_1) (fun _ h9 => h9) rfl (by decide +kernel) (rfl) (rfl) (Nat.le_of_ble_eq_true rfl) dX0_takeDigits_125 (fun H locs hP hD hS => ?_)
                have hP : va_P G vwCl [(o, .inr (0, [.ref a_bt, .int (nI n), .int 2, .int (nI p9), .int (nI k5), .int (dgC bt p9 (k5 - p9))])), (a_bt, .inl (cI, 400, .inl bt))] H := hP
                have hD : va_D A [(o, .inr (0, [.ref a_bt, .int (nI n), .int 2, .int (nI p9), .int (nI k5), .int (dgC bt p9 (k5 - p9))])), (a_bt, .inl (cI, 400, .inl bt))] := hD
                have ew_38 : (2 : Int32) = dgT bt n p9 := by rw [dgT, hst]; simp [eq_true c_26, c_35, eq_true c_36, c_37]
                have ew_39 : (nI k5 : Int32) = nI (skB bt n f48 p9) := by rw [hst]
                have ew_40 : (dgC bt p9 (k5 - p9) : Int32) = dgC bt p9 (skB bt n f48 p9 - p9) := by rw [hst]
                have hP : va_P G vwCl [(o, .inr (0, [.ref a_bt, .int (nI n), .int (dgT bt n p9), .int (nI p9), .int (nI (skB bt n f48 p9)), .int (dgC bt p9 (skB bt n f48 p9 - p9))])), (a_bt, .inl (cI, 400, .inl bt))] H := by rw [← ew_38, ← ew_39, ← ew_40]; exact hP
                exact retWv () hx hb hr hlocks dX0_takeDigits_128 hS (trivial) hP
              · skip
                refine lv_iconst (v := 4) hx hb dX0_takeDigits_120 (by decide) ?_
                refine lv_goto (tgt := 125) hx hb dX0_takeDigits_121 (by decide) ?_
                refine va_put (D := G) (ci := 0) (v := .int 4) (ty := .int) (C := RX0) (T := TX0) (N := 6) hx hb hts inlX0 tyX0 tyX0_ok nmX0 hown hK hP hD hS 0 rfl rfl 2 (by decide) (hts (.fieldLink RX0 19 "EarthBanks$DamText" "sort" "I") k_3_1) (fun _ h9 => h9) rfl (by decide +kernel) (rfl) (rfl) (Nat.le_of_ble_eq_true rfl) dX0_takeDigits_125 (fun H locs hP hD hS => ?_)
                have hP : va_P G vwCl [(o, .inr (0, [.ref a_bt, .int (nI n), .int 4, .int (nI p9), .int (nI k5), .int (dgC bt p9 (k5 - p9))])), (a_bt, .inl (cI, 400, .inl bt))] H := hP
                have hD : va_D A [(o, .inr (0, [.ref a_bt, .int (nI n), .int 4, .int (nI p9), .int (nI k5), .int (dgC bt p9 (k5 - p9))])), (a_bt, .inl (cI, 400, .inl bt))] := hD
                have ew_41 : (4 : Int32) = dgT bt n p9 := by rw [dgT, hst]; simp [eq_true c_26, c_35, eq_true c_36, eq_true c_37]
                have ew_42 : (nI k5 : Int32) = nI (skB bt n f48 p9) := by rw [hst]
                have ew_43 : (dgC bt p9 (k5 - p9) : Int32) = dgC bt p9 (skB bt n f48 p9 - p9) := by rw [hst]
                have hP : va_P G vwCl [(o, .inr (0, [.ref a_bt, .int (nI n), .int (dgT bt n p9), .int (nI p9), .int (nI (skB bt n f48 p9)), .int (dgC bt p9 (skB bt n f48 p9 - p9))])), (a_bt, .inl (cI, 400, .inl bt))] H := by rw [← ew_41, ← ew_42, ← ew_43]; exact hP
                exact retWv () hx hb hr hlocks dX0_takeDigits_128 hS (trivial) hP
          · skip
            have c_35 : ¬ (k5 - p9) ≤ 1 := fun h9 => c_35 ((nI_leI (a := (k5 - p9)) (b := 1) (by omega) (by omega)).mpr h9)
            refine lv_iconst (v := 1) hx hb dX0_takeDigits_100 (by decide) ?_
            refine lv_goto (tgt := 105) hx hb dX0_takeDigits_101 (by decide) ?_
            refine lv_istore_n (lv' := [(1, .int 1), (0, .ref o)]) hx hb dX0_takeDigits_105 rfl hl (by decide) rfl (fun ls hl => ?_)
            refine lv_aload_n hx hb dX0_takeDigits_106 rfl (lv_at hl 1 rfl) ?_
            refine lv_iload_n hx hb dX0_takeDigits_107 rfl (lv_at hl 0 rfl) ?_
            refine lv_if_ne (tgt := 120) hx hb dX0_takeDigits_108 (by decide) (fun c_44 => ?_) (fun c_44 => ?_)
            · skip
              refine lv_iconst (v := 4) hx hb dX0_takeDigits_120 (by decide) ?_
              refine lv_goto (tgt := 125) hx hb dX0_takeDigits_121 (by decide) ?_
              refine va_put (D := G) (ci := 0) (v := .int 4) (ty := .int) (C := RX0) (T := TX0) (N := 6) hx hb hts inlX0 tyX0 tyX0_ok nmX0 hown hK hP hD hS 0 rfl rfl 2 (by decide) (hts (.fieldLink RX0 19 "EarthBanks$DamText" "sort" "I") k_3_1) (fun _ h9 => h9) rfl (by decide +kernel) (rfl) (rfl) (Nat.le_of_ble_eq_true rfl) dX0_takeDigits_125 (fun H locs hP hD hS => ?_)
              have hP : va_P G vwCl [(o, .inr (0, [.ref a_bt, .int (nI n), .int 4, .int (nI p9), .int (nI k5), .int (dgC bt p9 (k5 - p9))])), (a_bt, .inl (cI, 400, .inl bt))] H := hP
              have hD : va_D A [(o, .inr (0, [.ref a_bt, .int (nI n), .int 4, .int (nI p9), .int (nI k5), .int (dgC bt p9 (k5 - p9))])), (a_bt, .inl (cI, 400, .inl bt))] := hD
              have ew_45 : (4 : Int32) = dgT bt n p9 := by rw [dgT, hst]; simp [eq_true c_26, c_35, c_44]
              have ew_46 : (nI k5 : Int32) = nI (skB bt n f48 p9) := by rw [hst]
              have ew_47 : (dgC bt p9 (k5 - p9) : Int32) = dgC bt p9 (skB bt n f48 p9 - p9) := by rw [hst]
              have hP : va_P G vwCl [(o, .inr (0, [.ref a_bt, .int (nI n), .int (dgT bt n p9), .int (nI p9), .int (nI (skB bt n f48 p9)), .int (dgC bt p9 (skB bt n f48 p9 - p9))])), (a_bt, .inl (cI, 400, .inl bt))] H := by rw [← ew_45, ← ew_46, ← ew_47]; exact hP
              exact retWv () hx hb hr hlocks dX0_takeDigits_128 hS (trivial) hP
            · skip
              exact absurd c_44 (by decide)
      · skip
        have c_25 : (f48 (bt k5)) = true := bI_t c_25
        refine lv_aload_n hx hb dX0_takeDigits_31 rfl (lv_at hl 0 rfl) ?_
        refine lv_bipush (v := 100) hx hb dX0_takeDigits_32 (by decide) ?_
        refine lv_bipush (v := 10) hx hb dX0_takeDigits_34 (by decide) ?_
        refine lv_aload_n hx hb dX0_takeDigits_36 rfl (lv_at hl 0 rfl) ?_
        refine va_get (D := G) (ci := 0) (v := .int (dgC bt p9 (k5 - p9))) (C := RX0) (T := TX0) (N := 6) hx hb hts inlX0 hown hK hP 0 rfl rfl 5 (by decide) (hts (.fieldLink RX0 28 "EarthBanks$DamText" "value" "I") k_3_4) (fun _ h9 => h9) rfl dX0_takeDigits_37 ?_
        refine lv_imul hx hb dX0_takeDigits_40 ?_
        refine lv_aload_n hx hb dX0_takeDigits_41 rfl (lv_at hl 0 rfl) ?_
        refine va_get (D := G) (ci := 0) (v := .ref a_bt) (C := RX0) (T := TX0) (N := 6) hx hb hts inlX0 hown hK hP 0 rfl rfl 0 (by decide) (hts (.fieldLink RX0 11 "EarthBanks$DamText" "bytes" "[I") k_2_23) (fun _ h9 => h9) rfl dX0_takeDigits_42 ?_
        refine lv_aload_n hx hb dX0_takeDigits_45 rfl (lv_at hl 0 rfl) ?_
        refine va_get (D := G) (ci := 0) (v := .int (nI k5)) (C := RX0) (T := TX0) (N := 6) hx hb hts inlX0 hown hK hP 0 rfl rfl 4 (by decide) (hts (.fieldLink RX0 25 "EarthBanks$DamText" "behind" "I") k_3_3) (fun _ h9 => h9) rfl dX0_takeDigits_46 ?_
        refine ialdN (j := k5) hx hb hK hP 1 0 rfl rfl (by omega) (by decide) dX0_takeDigits_49 ?_
        refine lv_iadd hx hb dX0_takeDigits_50 ?_
        refine lv_bipush (v := 48) hx hb dX0_takeDigits_51 (by decide) ?_
        refine lv_isub hx hb dX0_takeDigits_53 ?_
        refine va_mmin hx hb (hml.trans hl.1.symm) hown (hts (.methodLink RX0 111 Lib.Math.min.name) k_9_17) (hts (.static Lib.Math.min.name) k_9_18) (hts (.initialized "java/lang/Math") k_9_19) (hts (.code Lib.Math.min.name Lib.Math.min.code 2 (some .int)) k_9_20) (Nat.le_of_ble_eq_true rfl) (Nat.le_of_ble_eq_true rfl) (Nat.zero_le _) (Nat.zero_le _) dX0_takeDigits_54 ?_
        refine va_put (D := G) (ci := 0) (v := .int (if (((10 * (dgC bt p9 (k5 - p9))) + (bt k5)) - 48) < 100 then (((10 * (dgC bt p9 (k5 - p9))) + (bt k5)) - 48) else 100)) (ty := .int) (C := RX0) (T := TX0) (N := 6) hx hb hts inlX0 tyX0 tyX0_ok nmX0 hown hK hP hD hS 0 rfl rfl 5 (by decide) (hts (.fieldLink RX0 28 "EarthBanks$DamText" "value" "I") k_3_4) (fun _ h9 => h9) rfl (by decide +kernel) (rfl) (rfl) (Nat.le_of_ble_eq_true rfl) dX0_takeDigits_57 (fun H locs hP hD hS => ?_)
        have hP : va_P G vwCl [(o, .inr (0, [.ref a_bt, .int (nI n), .int so, .int (nI p9), .int (nI k5), .int (if (((10 * (dgC bt p9 (k5 - p9))) + (bt k5)) - 48) < 100 then (((10 * (dgC bt p9 (k5 - p9))) + (bt k5)) - 48) else 100)])), (a_bt, .inl (cI, 400, .inl bt))] H := hP
        have hD : va_D A [(o, .inr (0, [.ref a_bt, .int (nI n), .int so, .int (nI p9), .int (nI k5), .int (if (((10 * (dgC bt p9 (k5 - p9))) + (bt k5)) - 48) < 100 then (((10 * (dgC bt p9 (k5 - p9))) + (bt k5)) - 48) else 100)])), (a_bt, .inl (cI, 400, .inl bt))] := hD
        refine lv_aload_n hx hb dX0_takeDigits_60 rfl (lv_at hl 0 rfl) ?_
        refine lv_dup hx hb dX0_takeDigits_61 rfl ?_
        refine va_get (D := G) (ci := 0) (v := .int (nI k5)) (C := RX0) (T := TX0) (N := 6) hx hb hts inlX0 hown hK hP 0 rfl rfl 4 (by decide) (hts (.fieldLink RX0 25 "EarthBanks$DamText" "behind" "I") k_3_3) (fun _ h9 => h9) rfl dX0_takeDigits_62 ?_
        refine lv_iconst (v := 1) hx hb dX0_takeDigits_65 (by decide) ?_
        refine lv_iadd hx hb dX0_takeDigits_66 ?_
        refine top_eq (y := nI (k5 + 1)) (nI_add _ _) ?_
        refine va_put (D := G) (ci := 0) (v := .int (nI (k5 + 1))) (ty := .int) (C := RX0) (T := TX0) (N := 6) hx hb hts inlX0 tyX0 tyX0_ok nmX0 hown hK hP hD hS 0 rfl rfl 4 (by decide) (hts (.fieldLink RX0 25 "EarthBanks$DamText" "behind" "I") k_3_3) (fun _ h9 => h9) rfl (by decide +kernel) (rfl) (rfl) (Nat.le_of_ble_eq_true rfl) dX0_takeDigits_67 (fun H locs hP hD hS => ?_)
        have hP : va_P G vwCl [(o, .inr (0, [.ref a_bt, .int (nI n), .int so, .int (nI p9), .int (nI (k5 + 1)), .int (if (((10 * (dgC bt p9 (k5 - p9))) + (bt k5)) - 48) < 100 then (((10 * (dgC bt p9 (k5 - p9))) + (bt k5)) - 48) else 100)])), (a_bt, .inl (cI, 400, .inl bt))] H := hP
        have hD : va_D A [(o, .inr (0, [.ref a_bt, .int (nI n), .int so, .int (nI p9), .int (nI (k5 + 1)), .int (if (((10 * (dgC bt p9 (k5 - p9))) + (bt k5)) - 48) < 100 then (((10 * (dgC bt p9 (k5 - p9))) + (bt k5)) - 48) else 100)])), (a_bt, .inl (cI, 400, .inl bt))] := hD
        refine lv_goto (tgt := 5) hx hb dX0_takeDigits_70 (by decide) ?_
        have er_48 : ((if (((10 * (dgC bt p9 (k5 - p9))) + (bt k5)) - 48) < 100 then (((10 * (dgC bt p9 (k5 - p9))) + (bt k5)) - 48) else 100) : Int32) = dgC bt p9 ((k5 + 1) - p9) := by rw [show k5 + 1 - p9 = (k5 - p9) + 1 by omega, dgC, show p9 + (k5 - p9) = k5 by omega]; rfl
        exact ih5 (k5 + 1) (by omega) (by omega) (by omega) ((skB_step1 (f := f48) (by omega) c_25).symm.trans hsk) H locs (by rw [← er_48]; exact hP) (by rw [← er_48]; exact hD) hS ls (lv_sub hl [0] rfl)
theorem cal_X0_takeToken : calV yX0_takeToken cX0_takeToken 2 none 0 := ⟨k_9_2, k_1_15, k_9_0, k_9_1, by decide +kernel⟩
set_option maxHeartbeats 4000000 in
set_option maxRecDepth 100000 in
theorem c_X0_takeToken (l : Launch) (G : va_G) (E : EvT) (cI cZ : ClassId) (n : Nat) (b9 : Nat) (o : Nat) (a_bt : Nat) (so : Int32) (fi : Int32) (vl : Int32) (bt : Nat → Int32) (hn : n ≤ 400) (hbn : b9 ≤ n) : cWv (S := Unit) l G E yX0_takeToken cX0_takeToken 2 none 4 [(cI, .int), (cZ, .boolean)] [.ref o] [(o, .inr (0, [.ref a_bt, .int (nI n), .int so, .int fi, .int (nI b9), .int vl])), (a_bt, .inl (cI, 400, .inl bt))] (fun _ => True) (fun _ => [(o, .inr (0, [.ref a_bt, .int (nI n), .int ((tkR bt n b9 vl).1), .int (nI (tkR bt n b9 vl).2.1), .int (nI (tkR bt n b9 vl).2.2.1), .int ((tkR bt n b9 vl).2.2.2)])), (a_bt, .inl (cI, 400, .inl bt))]) := by
  refine mkWv (by decide) (Nat.le_of_ble_eq_true rfl) ?_
  intro zp ze s zm args below meth zc hx hb hr hml hown hts hlocks hE hK A hA hlow H locs hP hD hS ls hl
  have hl : lv_has ls 2 [(0, .ref o)] := hl
  refine lv_aload_n hx hb dX0_takeToken_0 rfl (lv_at hl 0 rfl) ?_
  refine lv_aload_n hx hb dX0_takeToken_1 rfl (lv_at hl 0 rfl) ?_
  refine va_get (D := G) (ci := 0) (v := .int (nI b9)) (C := RX0) (T := TX0) (N := 6) hx hb hts inlX0 hown hK hP 0 rfl rfl 4 (by decide) (hts (.fieldLink RX0 25 "EarthBanks$DamText" "behind" "I") k_3_3) (fun _ h9 => h9) rfl dX0_takeToken_2 ?_
  refine va_put (D := G) (ci := 0) (v := .int (nI b9)) (ty := .int) (C := RX0) (T := TX0) (N := 6) hx hb hts inlX0 tyX0 tyX0_ok nmX0 hown hK hP hD hS 0 rfl rfl 3 (by decide) (hts (.fieldLink RX0 22 "EarthBanks$DamText" "first" "I") k_3_2) (fun _ h9 => h9) rfl (by decide +kernel) (rfl) (rfl) (Nat.le_of_ble_eq_true rfl) dX0_takeToken_5 (fun H locs hP hD hS => ?_)
  have hP : va_P G vwCl [(o, .inr (0, [.ref a_bt, .int (nI n), .int so, .int (nI b9), .int (nI b9), .int vl])), (a_bt, .inl (cI, 400, .inl bt))] H := hP
  have hD : va_D A [(o, .inr (0, [.ref a_bt, .int (nI n), .int so, .int (nI b9), .int (nI b9), .int vl])), (a_bt, .inl (cI, 400, .inl bt))] := hD
  suffices lp8 : ∀ zn k8 : Nat, b9 ≤ k8 → k8 ≤ n → n < k8 + zn → (skB bt n f32 k8 = skB bt n f32 b9) → ∀ (H : Heap) (locs : List Loc), va_P G vwCl [(o, .inr (0, [.ref a_bt, .int (nI n), .int so, .int (nI k8), .int (nI b9), .int vl])), (a_bt, .inl (cI, 400, .inl bt))] H → va_D A [(o, .inr (0, [.ref a_bt, .int (nI n), .int so, .int (nI k8), .int (nI b9), .int vl])), (a_bt, .inl (cI, 400, .inl bt))] → va_S A s.heap H locs → ∀ ls : Array Slot, lv_has ls 2 [(0, .ref o)] → W zp l ze (rmK 4) s zm args below meth zc H locs 0 0 (MQ below (va_Qv (S := Unit) (fun _ => True) (fun u t => va_P G vwCl ((fun _ => [(o, .inr (0, [.ref a_bt, .int (nI n), .int ((tkR bt n b9 vl).1), .int (nI (tkR bt n b9 vl).2.1), .int (nI (tkR bt n b9 vl).2.2.1), .int ((tkR bt n b9 vl).2.2.2)])), (a_bt, .inl (cI, 400, .inl bt))]) u) t.heap) A) args s 0 0 A) (F0 zm 8 ls []) by
    exact lp8 (n + 1 - b9) b9 (by omega) (by omega) (by omega) (rfl) H locs hP hD hS ls (lv_sub hl [0] rfl)
  intro zn
  induction zn with
  | zero => exact fun k8 h1 h2 h3 => absurd h3 (by omega)
  | succ zn ih8 =>
    intro k8 hlo8 hhi8 hn8 hsk H locs hP hD hS ls hl
    refine lv_aload_n hx hb dX0_takeToken_8 rfl (lv_at hl 0 rfl) ?_
    refine va_get (D := G) (ci := 0) (v := .int (nI k8)) (C := RX0) (T := TX0) (N := 6) hx hb hts inlX0 hown hK hP 0 rfl rfl 3 (by decide) (hts (.fieldLink RX0 22 "EarthBanks$DamText" "first" "I") k_3_2) (fun _ h9 => h9) rfl dX0_takeToken_9 ?_
    refine lv_aload_n hx hb dX0_takeToken_12 rfl (lv_at hl 0 rfl) ?_
    refine va_get (D := G) (ci := 0) (v := .int (nI n)) (C := RX0) (T := TX0) (N := 6) hx hb hts inlX0 hown hK hP 0 rfl rfl 1 (by decide) (hts (.fieldLink RX0 15 "EarthBanks$DamText" "length" "I") k_3_0) (fun _ h9 => h9) rfl dX0_takeToken_13 ?_
    refine lv_icmp_ge (tgt := 46) hx hb dX0_takeToken_16 (by decide) (fun c_1 => ?_) (fun c_1 => ?_)
    · skip
      have c_1 : n ≤ k8 := (nI_leI (a := n) (b := k8) (by omega) (by omega)).mp c_1
      have hst : skB bt n f32 b9 = k8 := hsk.symm.trans (skB_end (Or.inl (by omega)) (by decide))
      refine lv_aload_n hx hb dX0_takeToken_46 rfl (lv_at hl 0 rfl) ?_
      refine lv_aload_n hx hb dX0_takeToken_47 rfl (lv_at hl 0 rfl) ?_
      refine va_get (D := G) (ci := 0) (v := .int (nI k8)) (C := RX0) (T := TX0) (N := 6) hx hb hts inlX0 hown hK hP 0 rfl rfl 3 (by decide) (hts (.fieldLink RX0 22 "EarthBanks$DamText" "first" "I") k_3_2) (fun _ h9 => h9) rfl dX0_takeToken_48 ?_
      refine va_put (D := G) (ci := 0) (v := .int (nI k8)) (ty := .int) (C := RX0) (T := TX0) (N := 6) hx hb hts inlX0 tyX0 tyX0_ok nmX0 hown hK hP hD hS 0 rfl rfl 4 (by decide) (hts (.fieldLink RX0 25 "EarthBanks$DamText" "behind" "I") k_3_3) (fun _ h9 => h9) rfl (by decide +kernel) (rfl) (rfl) (Nat.le_of_ble_eq_true rfl) dX0_takeToken_51 (fun H locs hP hD hS => ?_)
      have hP : va_P G vwCl [(o, .inr (0, [.ref a_bt, .int (nI n), .int so, .int (nI k8), .int (nI k8), .int vl])), (a_bt, .inl (cI, 400, .inl bt))] H := hP
      have hD : va_D A [(o, .inr (0, [.ref a_bt, .int (nI n), .int so, .int (nI k8), .int (nI k8), .int vl])), (a_bt, .inl (cI, 400, .inl bt))] := hD
      refine lv_aload_n hx hb dX0_takeToken_54 rfl (lv_at hl 0 rfl) ?_
      refine va_get (D := G) (ci := 0) (v := .int (nI k8)) (C := RX0) (T := TX0) (N := 6) hx hb hts inlX0 hown hK hP 0 rfl rfl 3 (by decide) (hts (.fieldLink RX0 22 "EarthBanks$DamText" "first" "I") k_3_2) (fun _ h9 => h9) rfl dX0_takeToken_55 ?_
      refine lv_aload_n hx hb dX0_takeToken_58 rfl (lv_at hl 0 rfl) ?_
      refine va_get (D := G) (ci := 0) (v := .int (nI n)) (C := RX0) (T := TX0) (N := 6) hx hb hts inlX0 hown hK hP 0 rfl rfl 1 (by decide) (hts (.fieldLink RX0 15 "EarthBanks$DamText" "length" "I") k_3_0) (fun _ h9 => h9) rfl dX0_takeToken_59 ?_
      refine lv_icmp_lt (tgt := 71) hx hb dX0_takeToken_62 (by decide) (fun c_2 => ?_) (fun c_2 => ?_)
      · skip
        have c_2 : k8 < n := (nI_ltI (a := k8) (b := n) (by omega) (by omega)).mp c_2
        refine lv_aload_n hx hb dX0_takeToken_71 rfl (lv_at hl 0 rfl) ?_
        refine va_get (D := G) (ci := 0) (v := .ref a_bt) (C := RX0) (T := TX0) (N := 6) hx hb hts inlX0 hown hK hP 0 rfl rfl 0 (by decide) (hts (.fieldLink RX0 11 "EarthBanks$DamText" "bytes" "[I") k_2_23) (fun _ h9 => h9) rfl dX0_takeToken_72 ?_
        refine lv_aload_n hx hb dX0_takeToken_75 rfl (lv_at hl 0 rfl) ?_
        refine va_get (D := G) (ci := 0) (v := .int (nI k8)) (C := RX0) (T := TX0) (N := 6) hx hb hts inlX0 hown hK hP 0 rfl rfl 3 (by decide) (hts (.fieldLink RX0 22 "EarthBanks$DamText" "first" "I") k_3_2) (fun _ h9 => h9) rfl dX0_takeToken_76 ?_
        refine ialdN (j := k8) hx hb hK hP 1 0 rfl rfl (by omega) (by decide) dX0_takeToken_79 ?_
        refine lv_istore_n (lv' := [(1, .int (bt k8)), (0, .ref o)]) hx hb dX0_takeToken_80 rfl hl (by decide) rfl (fun ls hl => ?_)
        refine lv_iload_n hx hb dX0_takeToken_81 rfl (lv_at hl 0 rfl) ?_
        refine cRS (As := [.int (bt k8)]) (rest := []) hx hb hml hown hts (c_X0_isWordSign l G E cI cZ (bt k8)) k_9_3 cal_X0_isWordSign ⟨Nat.le_of_ble_eq_true rfl, Nat.le_of_ble_eq_true rfl⟩ hE hlow hS hK [0, 1] rfl hP [] rfl rfl hl.1 rfl (Nat.le_of_ble_eq_true rfl) dX0_takeToken_82 ⟨Nat.zero_le _, Nat.zero_le _⟩ ?_
        refine lv_if_eq (tgt := 95) hx hb dX0_takeToken_85 (by decide) (fun c_3 => ?_) (fun c_3 => ?_)
        · skip
          have c_3 : (ltM (bt k8)) = false := bI_f c_3
          refine lv_iload_n hx hb dX0_takeToken_95 rfl (lv_at hl 0 rfl) ?_
          refine cRS (As := [.int (bt k8)]) (rest := []) hx hb hml hown hts (c_X0_isDigit l G E cI cZ (bt k8)) k_9_10 cal_X0_isDigit ⟨Nat.le_of_ble_eq_true rfl, Nat.le_of_ble_eq_true rfl⟩ hE hlow hS hK [0, 1] rfl hP [] rfl rfl hl.1 rfl (Nat.le_of_ble_eq_true rfl) dX0_takeToken_96 ⟨Nat.zero_le _, Nat.zero_le _⟩ ?_
          refine lv_if_eq (tgt := 109) hx hb dX0_takeToken_99 (by decide) (fun c_4 => ?_) (fun c_4 => ?_)
          · skip
            have c_4 : (f48 (bt k8)) = false := bI_f c_4
            refine lv_aload_n hx hb dX0_takeToken_109 rfl (lv_at hl 1 rfl) ?_
            refine lv_aload_n hx hb dX0_takeToken_110 rfl (lv_at hl 1 rfl) ?_
            refine va_get (D := G) (ci := 0) (v := .int (nI k8)) (C := RX0) (T := TX0) (N := 6) hx hb hts inlX0 hown hK hP 0 rfl rfl 3 (by decide) (hts (.fieldLink RX0 22 "EarthBanks$DamText" "first" "I") k_3_2) (fun _ h9 => h9) rfl dX0_takeToken_111 ?_
            refine lv_iconst (v := 1) hx hb dX0_takeToken_114 (by decide) ?_
            refine lv_iadd hx hb dX0_takeToken_115 ?_
            refine top_eq (y := nI (k8 + 1)) (nI_add _ _) ?_
            refine va_put (D := G) (ci := 0) (v := .int (nI (k8 + 1))) (ty := .int) (C := RX0) (T := TX0) (N := 6) hx hb hts inlX0 tyX0 tyX0_ok nmX0 hown hK hP hD hS 0 rfl rfl 4 (by decide) (hts (.fieldLink RX0 25 "EarthBanks$DamText" "behind" "I") k_3_3) (fun _ h9 => h9) rfl (by decide +kernel) (rfl) (rfl) (Nat.le_of_ble_eq_true rfl) dX0_takeToken_116 (fun H locs hP hD hS => ?_)
            have hP : va_P G vwCl [(o, .inr (0, [.ref a_bt, .int (nI n), .int so, .int (nI k8), .int (nI (k8 + 1)), .int vl])), (a_bt, .inl (cI, 400, .inl bt))] H := hP
            have hD : va_D A [(o, .inr (0, [.ref a_bt, .int (nI n), .int so, .int (nI k8), .int (nI (k8 + 1)), .int vl])), (a_bt, .inl (cI, 400, .inl bt))] := hD
            refine lv_aload_n hx hb dX0_takeToken_119 rfl (lv_at hl 1 rfl) ?_
            refine lv_iload_n hx hb dX0_takeToken_120 rfl (lv_at hl 0 rfl) ?_
            refine lv_bipush (v := 59) hx hb dX0_takeToken_121 (by decide) ?_
            refine lv_icmp_ne (tgt := 130) hx hb dX0_takeToken_123 (by decide) (fun c_5 => ?_) (fun c_5 => ?_)
            · skip
              refine lv_iconst (v := 4) hx hb dX0_takeToken_130 (by decide) ?_
              refine va_put (D := G) (ci := 0) (v := .int 4) (ty := .int) (C := RX0) (T := TX0) (N := 6) hx hb hts inlX0 tyX0 tyX0_ok nmX0 hown hK hP hD hS 0 rfl rfl 2 (by decide) (hts (.fieldLink RX0 19 "EarthBanks$DamText" "sort" "I") k_3_1) (fun _ h9 => h9) rfl (by decide +kernel) (rfl) (rfl) (Nat.le_of_ble_eq_true rfl) dX0_takeToken_131 (fun H locs hP hD hS => ?_)
              have hP : va_P G vwCl [(o, .inr (0, [.ref a_bt, .int (nI n), .int 4, .int (nI k8), .int (nI (k8 + 1)), .int vl])), (a_bt, .inl (cI, 400, .inl bt))] H := hP
              have hD : va_D A [(o, .inr (0, [.ref a_bt, .int (nI n), .int 4, .int (nI k8), .int (nI (k8 + 1)), .int vl])), (a_bt, .inl (cI, 400, .inl bt))] := hD
              have ew_6 : (4 : Int32) = (tkR bt n b9 vl).1 := by rw [tkR, hst]; simp [cN, cT, cV, c_2, c_3, c_4, c_5]
              have ew_7 : (nI k8 : Int32) = nI (tkR bt n b9 vl).2.1 := by rw [tkR, hst]
              have ew_8 : (nI (k8 + 1) : Int32) = nI (tkR bt n b9 vl).2.2.1 := by rw [tkR, hst]; simp [cN, cT, cV, c_2, c_3, c_4, c_5]
              have ew_9 : (vl : Int32) = (tkR bt n b9 vl).2.2.2 := by rw [tkR, hst]; simp [cN, cT, cV, c_2, c_3, c_4, c_5]
              have hP : va_P G vwCl [(o, .inr (0, [.ref a_bt, .int (nI n), .int ((tkR bt n b9 vl).1), .int (nI (tkR bt n b9 vl).2.1), .int (nI (tkR bt n b9 vl).2.2.1), .int ((tkR bt n b9 vl).2.2.2)])), (a_bt, .inl (cI, 400, .inl bt))] H := by rw [← ew_6, ← ew_7, ← ew_8, ← ew_9]; exact hP
              exact retWv () hx hb hr hlocks dX0_takeToken_134 hS (trivial) hP
            · skip
              refine lv_iconst (v := 3) hx hb dX0_takeToken_126 (by decide) ?_
              refine lv_goto (tgt := 131) hx hb dX0_takeToken_127 (by decide) ?_
              refine va_put (D := G) (ci := 0) (v := .int 3) (ty := .int) (C := RX0) (T := TX0) (N := 6) hx hb hts inlX0 tyX0 tyX0_ok nmX0 hown hK hP hD hS 0 rfl rfl 2 (by decide) (hts (.fieldLink RX0 19 "EarthBanks$DamText" "sort" "I") k_3_1) (fun _ h9 => h9) rfl (by decide +kernel) (rfl) (rfl) (Nat.le_of_ble_eq_true rfl) dX0_takeToken_131 (fun H locs hP hD hS => ?_)
              have hP : va_P G vwCl [(o, .inr (0, [.ref a_bt, .int (nI n), .int 3, .int (nI k8), .int (nI (k8 + 1)), .int vl])), (a_bt, .inl (cI, 400, .inl bt))] H := hP
              have hD : va_D A [(o, .inr (0, [.ref a_bt, .int (nI n), .int 3, .int (nI k8), .int (nI (k8 + 1)), .int vl])), (a_bt, .inl (cI, 400, .inl bt))] := hD
              have ew_10 : (3 : Int32) = (tkR bt n b9 vl).1 := by rw [tkR, hst]; simp [cN, cT, cV, c_2, c_3, c_4, eq_true c_5]
              have ew_11 : (nI k8 : Int32) = nI (tkR bt n b9 vl).2.1 := by rw [tkR, hst]
              have ew_12 : (nI (k8 + 1) : Int32) = nI (tkR bt n b9 vl).2.2.1 := by rw [tkR, hst]; simp [cN, cT, cV, c_2, c_3, c_4, eq_true c_5]
              have ew_13 : (vl : Int32) = (tkR bt n b9 vl).2.2.2 := by rw [tkR, hst]; simp [cN, cT, cV, c_2, c_3, c_4, eq_true c_5]
              have hP : va_P G vwCl [(o, .inr (0, [.ref a_bt, .int (nI n), .int ((tkR bt n b9 vl).1), .int (nI (tkR bt n b9 vl).2.1), .int (nI (tkR bt n b9 vl).2.2.1), .int ((tkR bt n b9 vl).2.2.2)])), (a_bt, .inl (cI, 400, .inl bt))] H := by rw [← ew_10, ← ew_11, ← ew_12, ← ew_13]; exact hP
              exact retWv () hx hb hr hlocks dX0_takeToken_134 hS (trivial) hP
          · skip
            have c_4 : (f48 (bt k8)) = true := bI_t c_4
            refine lv_aload_n hx hb dX0_takeToken_102 rfl (lv_at hl 1 rfl) ?_
            refine cWVv (As := []) (rest := []) hx hb hml hown hts (c_X0_takeDigits l G E cI cZ n k8 o a_bt so vl bt (hn) (by first | assumption | omega | simp [bI, c_1, c_2, c_3, c_4])) k_9_13 cal_X0_takeDigits ⟨Nat.le_of_ble_eq_true rfl, Nat.le_of_ble_eq_true rfl⟩ hE hA hlow hD hS hK [0, 1] rfl hP [0, 1] rfl (by decide) [o, a_bt] rfl (fun _ => rfl) [] [] (fun _ => [(o, .inr (0, [.ref a_bt, .int (nI n), .int (dgT bt n k8), .int (nI k8), .int (nI (skB bt n f48 k8)), .int (dgC bt k8 (skB bt n f48 k8 - k8))])), (a_bt, .inl (cI, 400, .inl bt))]) 2 rfl (fun _ => rfl) (fun _ => rfl) (fun _ => rfl) (by decide) (by decide) 0 0 rfl rfl rfl hl.1 rfl (Nat.le_of_ble_eq_true rfl) dX0_takeToken_103 ⟨Nat.zero_le _, Nat.zero_le _⟩ (fun u H locs hr_ hP hD hS => ?_)
            have hP : va_P G vwCl [(o, .inr (0, [.ref a_bt, .int (nI n), .int (dgT bt n k8), .int (nI k8), .int (nI (skB bt n f48 k8)), .int (dgC bt k8 (skB bt n f48 k8 - k8))])), (a_bt, .inl (cI, 400, .inl bt))] H := hP
            have hD : va_D A [(o, .inr (0, [.ref a_bt, .int (nI n), .int (dgT bt n k8), .int (nI k8), .int (nI (skB bt n f48 k8)), .int (dgC bt k8 (skB bt n f48 k8 - k8))])), (a_bt, .inl (cI, 400, .inl bt))] := hD
            refine lv_goto (tgt := 134) hx hb dX0_takeToken_106 (by decide) ?_
            have ew_14 : (dgT bt n k8 : Int32) = (tkR bt n b9 vl).1 := by rw [tkR, hst]; simp [cN, cT, cV, c_2, c_3, c_4]
            have ew_15 : (nI k8 : Int32) = nI (tkR bt n b9 vl).2.1 := by rw [tkR, hst]
            have ew_16 : (nI (skB bt n f48 k8) : Int32) = nI (tkR bt n b9 vl).2.2.1 := by rw [tkR, hst]; simp [cN, cT, cV, c_2, c_3, c_4]
            have ew_17 : (dgC bt k8 (skB bt n f48 k8 - k8) : Int32) = (tkR bt n b9 vl).2.2.2 := by rw [tkR, hst]; simp [cN, cT, cV, c_2, c_3, c_4]
            have hP : va_P G vwCl [(o, .inr (0, [.ref a_bt, .int (nI n), .int ((tkR bt n b9 vl).1), .int (nI (tkR bt n b9 vl).2.1), .int (nI (tkR bt n b9 vl).2.2.1), .int ((tkR bt n b9 vl).2.2.2)])), (a_bt, .inl (cI, 400, .inl bt))] H := by rw [← ew_14, ← ew_15, ← ew_16, ← ew_17]; exact hP
            exact retWv () hx hb hr hlocks dX0_takeToken_134 hS (trivial) hP
        · skip
          have c_3 : (ltM (bt k8)) = true := bI_t c_3
          refine lv_aload_n hx hb dX0_takeToken_88 rfl (lv_at hl 1 rfl) ?_
          refine cWVv (As := []) (rest := []) hx hb hml hown hts (c_X0_takeWord l G E cI cZ n k8 o a_bt so (nI k8) vl bt (hn) (by first | assumption | omega | simp [bI, c_1, c_2, c_3])) k_9_6 cal_X0_takeWord ⟨Nat.le_of_ble_eq_true rfl, Nat.le_of_ble_eq_true rfl⟩ hE hA hlow hD hS hK [0, 1] rfl hP [0, 1] rfl (by decide) [o, a_bt] rfl (fun _ => rfl) [] [] (fun _ => [(o, .inr (0, [.ref a_bt, .int (nI n), .int 1, .int (nI k8), .int (nI (skB bt n ltM k8)), .int vl])), (a_bt, .inl (cI, 400, .inl bt))]) 2 rfl (fun _ => rfl) (fun _ => rfl) (fun _ => rfl) (by decide) (by decide) 0 0 rfl rfl rfl hl.1 rfl (Nat.le_of_ble_eq_true rfl) dX0_takeToken_89 ⟨Nat.zero_le _, Nat.zero_le _⟩ (fun u H locs hr_ hP hD hS => ?_)
          have hP : va_P G vwCl [(o, .inr (0, [.ref a_bt, .int (nI n), .int 1, .int (nI k8), .int (nI (skB bt n ltM k8)), .int vl])), (a_bt, .inl (cI, 400, .inl bt))] H := hP
          have hD : va_D A [(o, .inr (0, [.ref a_bt, .int (nI n), .int 1, .int (nI k8), .int (nI (skB bt n ltM k8)), .int vl])), (a_bt, .inl (cI, 400, .inl bt))] := hD
          refine lv_goto (tgt := 134) hx hb dX0_takeToken_92 (by decide) ?_
          have ew_18 : (1 : Int32) = (tkR bt n b9 vl).1 := by rw [tkR, hst]; simp [cN, cT, cV, c_2, c_3]
          have ew_19 : (nI k8 : Int32) = nI (tkR bt n b9 vl).2.1 := by rw [tkR, hst]
          have ew_20 : (nI (skB bt n ltM k8) : Int32) = nI (tkR bt n b9 vl).2.2.1 := by rw [tkR, hst]; simp [cN, cT, cV, c_2, c_3]
          have ew_21 : (vl : Int32) = (tkR bt n b9 vl).2.2.2 := by rw [tkR, hst]; simp [cN, cT, cV, c_2, c_3]
          have hP : va_P G vwCl [(o, .inr (0, [.ref a_bt, .int (nI n), .int ((tkR bt n b9 vl).1), .int (nI (tkR bt n b9 vl).2.1), .int (nI (tkR bt n b9 vl).2.2.1), .int ((tkR bt n b9 vl).2.2.2)])), (a_bt, .inl (cI, 400, .inl bt))] H := by rw [← ew_18, ← ew_19, ← ew_20, ← ew_21]; exact hP
          exact retWv () hx hb hr hlocks dX0_takeToken_134 hS (trivial) hP
      · skip
        have c_2 : ¬ k8 < n := fun h9 => c_2 ((nI_ltI (a := k8) (b := n) (by omega) (by omega)).mpr h9)
        refine lv_aload_n hx hb dX0_takeToken_65 rfl (lv_at hl 0 rfl) ?_
        refine lv_iconst (v := 0) hx hb dX0_takeToken_66 (by decide) ?_
        refine va_put (D := G) (ci := 0) (v := .int 0) (ty := .int) (C := RX0) (T := TX0) (N := 6) hx hb hts inlX0 tyX0 tyX0_ok nmX0 hown hK hP hD hS 0 rfl rfl 2 (by decide) (hts (.fieldLink RX0 19 "EarthBanks$DamText" "sort" "I") k_3_1) (fun _ h9 => h9) rfl (by decide +kernel) (rfl) (rfl) (Nat.le_of_ble_eq_true rfl) dX0_takeToken_67 (fun H locs hP hD hS => ?_)
        have hP : va_P G vwCl [(o, .inr (0, [.ref a_bt, .int (nI n), .int 0, .int (nI k8), .int (nI k8), .int vl])), (a_bt, .inl (cI, 400, .inl bt))] H := hP
        have hD : va_D A [(o, .inr (0, [.ref a_bt, .int (nI n), .int 0, .int (nI k8), .int (nI k8), .int vl])), (a_bt, .inl (cI, 400, .inl bt))] := hD
        have ew_22 : (0 : Int32) = (tkR bt n b9 vl).1 := by rw [tkR, hst]; simp [cN, cT, cV, c_2]
        have ew_23 : (nI k8 : Int32) = nI (tkR bt n b9 vl).2.1 := by rw [tkR, hst]
        have ew_24 : (nI k8 : Int32) = nI (tkR bt n b9 vl).2.2.1 := by rw [tkR, hst]; simp [cN, cT, cV, c_2]
        have ew_25 : (vl : Int32) = (tkR bt n b9 vl).2.2.2 := by rw [tkR, hst]; simp [cN, cT, cV, c_2]
        have hP : va_P G vwCl [(o, .inr (0, [.ref a_bt, .int (nI n), .int ((tkR bt n b9 vl).1), .int (nI (tkR bt n b9 vl).2.1), .int (nI (tkR bt n b9 vl).2.2.1), .int ((tkR bt n b9 vl).2.2.2)])), (a_bt, .inl (cI, 400, .inl bt))] H := by rw [← ew_22, ← ew_23, ← ew_24, ← ew_25]; exact hP
        exact retWv () hx hb hr hlocks dX0_takeToken_70 hS (trivial) hP
    · skip
      have c_1 : ¬ n ≤ k8 := fun h9 => c_1 ((nI_leI (a := n) (b := k8) (by omega) (by omega)).mpr h9)
      refine lv_aload_n hx hb dX0_takeToken_19 rfl (lv_at hl 0 rfl) ?_
      refine va_get (D := G) (ci := 0) (v := .ref a_bt) (C := RX0) (T := TX0) (N := 6) hx hb hts inlX0 hown hK hP 0 rfl rfl 0 (by decide) (hts (.fieldLink RX0 11 "EarthBanks$DamText" "bytes" "[I") k_2_23) (fun _ h9 => h9) rfl dX0_takeToken_20 ?_
      refine lv_aload_n hx hb dX0_takeToken_23 rfl (lv_at hl 0 rfl) ?_
      refine va_get (D := G) (ci := 0) (v := .int (nI k8)) (C := RX0) (T := TX0) (N := 6) hx hb hts inlX0 hown hK hP 0 rfl rfl 3 (by decide) (hts (.fieldLink RX0 22 "EarthBanks$DamText" "first" "I") k_3_2) (fun _ h9 => h9) rfl dX0_takeToken_24 ?_
      refine ialdN (j := k8) hx hb hK hP 1 0 rfl rfl (by omega) (by decide) dX0_takeToken_27 ?_
      refine lv_bipush (v := 32) hx hb dX0_takeToken_28 (by decide) ?_
      refine lv_icmp_ne (tgt := 46) hx hb dX0_takeToken_30 (by decide) (fun c_26 => ?_) (fun c_26 => ?_)
      · skip
        have hst : skB bt n f32 b9 = k8 := hsk.symm.trans (skB_end (Or.inr (by simp [f32, c_26])) (by decide))
        refine lv_aload_n hx hb dX0_takeToken_46 rfl (lv_at hl 0 rfl) ?_
        refine lv_aload_n hx hb dX0_takeToken_47 rfl (lv_at hl 0 rfl) ?_
        refine va_get (D := G) (ci := 0) (v := .int (nI k8)) (C := RX0) (T := TX0) (N := 6) hx hb hts inlX0 hown hK hP 0 rfl rfl 3 (by decide) (hts (.fieldLink RX0 22 "EarthBanks$DamText" "first" "I") k_3_2) (fun _ h9 => h9) rfl dX0_takeToken_48 ?_
        refine va_put (D := G) (ci := 0) (v := .int (nI k8)) (ty := .int) (C := RX0) (T := TX0) (N := 6) hx hb hts inlX0 tyX0 tyX0_ok nmX0 hown hK hP hD hS 0 rfl rfl 4 (by decide) (hts (.fieldLink RX0 25 "EarthBanks$DamText" "behind" "I") k_3_3) (fun _ h9 => h9) rfl (by decide +kernel) (rfl) (rfl) (Nat.le_of_ble_eq_true rfl) dX0_takeToken_51 (fun H locs hP hD hS => ?_)
        have hP : va_P G vwCl [(o, .inr (0, [.ref a_bt, .int (nI n), .int so, .int (nI k8), .int (nI k8), .int vl])), (a_bt, .inl (cI, 400, .inl bt))] H := hP
        have hD : va_D A [(o, .inr (0, [.ref a_bt, .int (nI n), .int so, .int (nI k8), .int (nI k8), .int vl])), (a_bt, .inl (cI, 400, .inl bt))] := hD
        refine lv_aload_n hx hb dX0_takeToken_54 rfl (lv_at hl 0 rfl) ?_
        refine va_get (D := G) (ci := 0) (v := .int (nI k8)) (C := RX0) (T := TX0) (N := 6) hx hb hts inlX0 hown hK hP 0 rfl rfl 3 (by decide) (hts (.fieldLink RX0 22 "EarthBanks$DamText" "first" "I") k_3_2) (fun _ h9 => h9) rfl dX0_takeToken_55 ?_
        refine lv_aload_n hx hb dX0_takeToken_58 rfl (lv_at hl 0 rfl) ?_
        refine va_get (D := G) (ci := 0) (v := .int (nI n)) (C := RX0) (T := TX0) (N := 6) hx hb hts inlX0 hown hK hP 0 rfl rfl 1 (by decide) (hts (.fieldLink RX0 15 "EarthBanks$DamText" "length" "I") k_3_0) (fun _ h9 => h9) rfl dX0_takeToken_59 ?_
        refine lv_icmp_lt (tgt := 71) hx hb dX0_takeToken_62 (by decide) (fun c_27 => ?_) (fun c_27 => ?_)
        · skip
          have c_27 : k8 < n := (nI_ltI (a := k8) (b := n) (by omega) (by omega)).mp c_27
          refine lv_aload_n hx hb dX0_takeToken_71 rfl (lv_at hl 0 rfl) ?_
          refine va_get (D := G) (ci := 0) (v := .ref a_bt) (C := RX0) (T := TX0) (N := 6) hx hb hts inlX0 hown hK hP 0 rfl rfl 0 (by decide) (hts (.fieldLink RX0 11 "EarthBanks$DamText" "bytes" "[I") k_2_23) (fun _ h9 => h9) rfl dX0_takeToken_72 ?_
          refine lv_aload_n hx hb dX0_takeToken_75 rfl (lv_at hl 0 rfl) ?_
          refine va_get (D := G) (ci := 0) (v := .int (nI k8)) (C := RX0) (T := TX0) (N := 6) hx hb hts inlX0 hown hK hP 0 rfl rfl 3 (by decide) (hts (.fieldLink RX0 22 "EarthBanks$DamText" "first" "I") k_3_2) (fun _ h9 => h9) rfl dX0_takeToken_76 ?_
          refine ialdN (j := k8) hx hb hK hP 1 0 rfl rfl (by omega) (by decide) dX0_takeToken_79 ?_
          refine lv_istore_n (lv' := [(1, .int (bt k8)), (0, .ref o)]) hx hb dX0_takeToken_80 rfl hl (by decide) rfl (fun ls hl => ?_)
          refine lv_iload_n hx hb dX0_takeToken_81 rfl (lv_at hl 0 rfl) ?_
          refine cRS (As := [.int (bt k8)]) (rest := []) hx hb hml hown hts (c_X0_isWordSign l G E cI cZ (bt k8)) k_9_3 cal_X0_isWordSign ⟨Nat.le_of_ble_eq_true rfl, Nat.le_of_ble_eq_true rfl⟩ hE hlow hS hK [0, 1] rfl hP [] rfl rfl hl.1 rfl (Nat.le_of_ble_eq_true rfl) dX0_takeToken_82 ⟨Nat.zero_le _, Nat.zero_le _⟩ ?_
          refine lv_if_eq (tgt := 95) hx hb dX0_takeToken_85 (by decide) (fun c_28 => ?_) (fun c_28 => ?_)
          · skip
            have c_28 : (ltM (bt k8)) = false := bI_f c_28
            refine lv_iload_n hx hb dX0_takeToken_95 rfl (lv_at hl 0 rfl) ?_
            refine cRS (As := [.int (bt k8)]) (rest := []) hx hb hml hown hts (c_X0_isDigit l G E cI cZ (bt k8)) k_9_10 cal_X0_isDigit ⟨Nat.le_of_ble_eq_true rfl, Nat.le_of_ble_eq_true rfl⟩ hE hlow hS hK [0, 1] rfl hP [] rfl rfl hl.1 rfl (Nat.le_of_ble_eq_true rfl) dX0_takeToken_96 ⟨Nat.zero_le _, Nat.zero_le _⟩ ?_
            refine lv_if_eq (tgt := 109) hx hb dX0_takeToken_99 (by decide) (fun c_29 => ?_) (fun c_29 => ?_)
            · skip
              have c_29 : (f48 (bt k8)) = false := bI_f c_29
              refine lv_aload_n hx hb dX0_takeToken_109 rfl (lv_at hl 1 rfl) ?_
              refine lv_aload_n hx hb dX0_takeToken_110 rfl (lv_at hl 1 rfl) ?_
              refine va_get (D := G) (ci := 0) (v := .int (nI k8)) (C := RX0) (T := TX0) (N := 6) hx hb hts inlX0 hown hK hP 0 rfl rfl 3 (by decide) (hts (.fieldLink RX0 22 "EarthBanks$DamText" "first" "I") k_3_2) (fun _ h9 => h9) rfl dX0_takeToken_111 ?_
              refine lv_iconst (v := 1) hx hb dX0_takeToken_114 (by decide) ?_
              refine lv_iadd hx hb dX0_takeToken_115 ?_
              refine top_eq (y := nI (k8 + 1)) (nI_add _ _) ?_
              refine va_put (D := G) (ci := 0) (v := .int (nI (k8 + 1))) (ty := .int) (C := RX0) (T := TX0) (N := 6) hx hb hts inlX0 tyX0 tyX0_ok nmX0 hown hK hP hD hS 0 rfl rfl 4 (by decide) (hts (.fieldLink RX0 25 "EarthBanks$DamText" "behind" "I") k_3_3) (fun _ h9 => h9) rfl (by decide +kernel) (rfl) (rfl) (Nat.le_of_ble_eq_true rfl) dX0_takeToken_116 (fun H locs hP hD hS => ?_)
              have hP : va_P G vwCl [(o, .inr (0, [.ref a_bt, .int (nI n), .int so, .int (nI k8), .int (nI (k8 + 1)), .int vl])), (a_bt, .inl (cI, 400, .inl bt))] H := hP
              have hD : va_D A [(o, .inr (0, [.ref a_bt, .int (nI n), .int so, .int (nI k8), .int (nI (k8 + 1)), .int vl])), (a_bt, .inl (cI, 400, .inl bt))] := hD
              refine lv_aload_n hx hb dX0_takeToken_119 rfl (lv_at hl 1 rfl) ?_
              refine lv_iload_n hx hb dX0_takeToken_120 rfl (lv_at hl 0 rfl) ?_
              refine lv_bipush (v := 59) hx hb dX0_takeToken_121 (by decide) ?_
              refine lv_icmp_ne (tgt := 130) hx hb dX0_takeToken_123 (by decide) (fun c_30 => ?_) (fun c_30 => ?_)
              · skip
                refine lv_iconst (v := 4) hx hb dX0_takeToken_130 (by decide) ?_
                refine va_put (D := G) (ci := 0) (v := .int 4) (ty := .int) (C := RX0) (T := TX0) (N := 6) hx hb hts inlX0 tyX0 tyX0_ok nmX0 hown hK hP hD hS 0 rfl rfl 2 (by decide) (hts (.fieldLink RX0 19 "EarthBanks$DamText" "sort" "I") k_3_1) (fun _ h9 => h9) rfl (by decide +kernel) (rfl) (rfl) (Nat.le_of_ble_eq_true rfl) dX0_takeToken_131 (fun H locs hP hD hS => ?_)
                have hP : va_P G vwCl [(o, .inr (0, [.ref a_bt, .int (nI n), .int 4, .int (nI k8), .int (nI (k8 + 1)), .int vl])), (a_bt, .inl (cI, 400, .inl bt))] H := hP
                have hD : va_D A [(o, .inr (0, [.ref a_bt, .int (nI n), .int 4, .int (nI k8), .int (nI (k8 + 1)), .int vl])), (a_bt, .inl (cI, 400, .inl bt))] := hD
                have ew_31 : (4 : Int32) = (tkR bt n b9 vl).1 := by rw [tkR, hst]; simp [cN, cT, cV, c_27, c_28, c_29, c_30]
                have ew_32 : (nI k8 : Int32) = nI (tkR bt n b9 vl).2.1 := by rw [tkR, hst]
                have ew_33 : (nI (k8 + 1) : Int32) = nI (tkR bt n b9 vl).2.2.1 := by rw [tkR, hst]; simp [cN, cT, cV, c_27, c_28, c_29, c_30]
                have ew_34 : (vl : Int32) = (tkR bt n b9 vl).2.2.2 := by rw [tkR, hst]; simp [cN, cT, cV, c_27, c_28, c_29, c_30]
                have hP : va_P G vwCl [(o, .inr (0, [.ref a_bt, .int (nI n), .int ((tkR bt n b9 vl).1), .int (nI (tkR bt n b9 vl).2.1), .int (nI (tkR bt n b9 vl).2.2.1), .int ((tkR bt n b9 vl).2.2.2)])), (a_bt, .inl (cI, 400, .inl bt))] H := by rw [← ew_31, ← ew_32, ← ew_33, ← ew_34]; exact hP
                exact retWv () hx hb hr hlocks dX0_takeToken_134 hS (trivial) hP
              · skip
                refine lv_iconst (v := 3) hx hb dX0_takeToken_126 (by decide) ?_
                refine lv_goto (tgt := 131) hx hb dX0_takeToken_127 (by decide) ?_
                refine va_put (D := G) (ci := 0) (v := .int 3) (ty := .int) (C := RX0) (T := TX0) (N := 6) hx hb hts inlX0 tyX0 tyX0_ok nmX0 hown hK hP hD hS 0 rfl rfl 2 (by decide) (hts (.fieldLink RX0 19 "EarthBanks$DamText" "sort" "I") k_3_1) (fun _ h9 => h9) rfl (by decide +kernel) (rfl) (rfl) (Nat.le_of_ble_eq_true rfl) dX0_takeToken_131 (fun H locs hP hD hS => ?_)
                have hP : va_P G vwCl [(o, .inr (0, [.ref a_bt, .int (nI n), .int 3, .int (nI k8), .int (nI (k8 + 1)), .int vl])), (a_bt, .inl (cI, 400, .inl bt))] H := hP
                have hD : va_D A [(o, .inr (0, [.ref a_bt, .int (nI n), .int 3, .int (nI k8), .int (nI (k8 + 1)), .int vl])), (a_bt, .inl (cI, 400, .inl bt))] := hD
                have ew_35 : (3 : Int32) = (tkR bt n b9 vl).1 := by rw [tkR, hst]; simp [cN, cT, cV, c_27, c_28, c_29, eq_true c_30]
                have ew_36 : (nI k8 : Int32) = nI (tkR bt n b9 vl).2.1 := by rw [tkR, hst]
                have ew_37 : (nI (k8 + 1) : Int32) = nI (tkR bt n b9 vl).2.2.1 := by rw [tkR, hst]; simp [cN, cT, cV, c_27, c_28, c_29, eq_true c_30]
                have ew_38 : (vl : Int32) = (tkR bt n b9 vl).2.2.2 := by rw [tkR, hst]; simp [cN, cT, cV, c_27, c_28, c_29, eq_true c_30]
                have hP : va_P G vwCl [(o, .inr (0, [.ref a_bt, .int (nI n), .int ((tkR bt n b9 vl).1), .int (nI (tkR bt n b9 vl).2.1), .int (nI (tkR bt n b9 vl).2.2.1), .int ((tkR bt n b9 vl).2.2.2)])), (a_bt, .inl (cI, 400, .inl bt))] H := by rw [← ew_35, ← ew_36, ← ew_37, ← ew_38]; exact hP
                exact retWv () hx hb hr hlocks dX0_takeToken_134 hS (trivial) hP
            · skip
              have c_29 : (f48 (bt k8)) = true := bI_t c_29
              refine lv_aload_n hx hb dX0_takeToken_102 rfl (lv_at hl 1 rfl) ?_
              refine cWVv (As := []) (rest := []) hx hb hml hown hts (c_X0_takeDigits l G E cI cZ n k8 o a_bt so vl bt (hn) (by first | assumption | omega | simp [bI, c_1, c_26, c_27, c_28, c_29])) k_9_13 cal_X0_takeDigits ⟨Nat.le_of_ble_eq_true rfl, Nat.le_of_ble_eq_true rfl⟩ hE hA hlow hD hS hK [0, 1] rfl hP [0, 1] rfl (by decide) [o, a_bt] rfl (fun _ => rfl) [] [] (fun _ => [(o, .inr (0, [.ref a_bt, .int (nI n), .int (dgT bt n k8), .int (nI k8), .int (nI (skB bt n f48 k8)), .int (dgC bt k8 (skB bt n f48 k8 - k8))])), (a_bt, .inl (cI, 400, .inl bt))]) 2 rfl (fun _ => rfl) (fun _ => rfl) (fun _ => rfl) (by decide) (by decide) 0 0 rfl rfl rfl hl.1 rfl (Nat.le_of_ble_eq_true rfl) dX0_takeToken_103 ⟨Nat.zero_le _, Nat.zero_le _⟩ (fun u H locs hr_ hP hD hS => ?_)
              have hP : va_P G vwCl [(o, .inr (0, [.ref a_bt, .int (nI n), .int (dgT bt n k8), .int (nI k8), .int (nI (skB bt n f48 k8)), .int (dgC bt k8 (skB bt n f48 k8 - k8))])), (a_bt, .inl (cI, 400, .inl bt))] H := hP
              have hD : va_D A [(o, .inr (0, [.ref a_bt, .int (nI n), .int (dgT bt n k8), .int (nI k8), .int (nI (skB bt n f48 k8)), .int (dgC bt k8 (skB bt n f48 k8 - k8))])), (a_bt, .inl (cI, 400, .inl bt))] := hD
              refine lv_goto (tgt := 134) hx hb dX0_takeToken_106 (by decide) ?_
              have ew_39 : (dgT bt n k8 : Int32) = (tkR bt n b9 vl).1 := by rw [tkR, hst]; simp [cN, cT, cV, c_27, c_28, c_29]
              have ew_40 : (nI k8 : Int32) = nI (tkR bt n b9 vl).2.1 := by rw [tkR, hst]
              have ew_41 : (nI (skB bt n f48 k8) : Int32) = nI (tkR bt n b9 vl).2.2.1 := by rw [tkR, hst]; simp [cN, cT, cV, c_27, c_28, c_29]
              have ew_42 : (dgC bt k8 (skB bt n f48 k8 - k8) : Int32) = (tkR bt n b9 vl).2.2.2 := by rw [tkR, hst]; simp [cN, cT, cV, c_27, c_28, c_29]
              have hP : va_P G vwCl [(o, .inr (0, [.ref a_bt, .int (nI n), .int ((tkR bt n b9 vl).1), .int (nI (tkR bt n b9 vl).2.1), .int (nI (tkR bt n b9 vl).2.2.1), .int ((tkR bt n b9 vl).2.2.2)])), (a_bt, .inl (cI, 400, .inl bt))] H := by rw [← ew_39, ← ew_40, ← ew_41, ← ew_42]; exact hP
              exact retWv () hx hb hr hlocks dX0_takeToken_134 hS (trivial) hP
          · skip
            have c_28 : (ltM (bt k8)) = true := bI_t c_28
            refine lv_aload_n hx hb dX0_takeToken_88 rfl (lv_at hl 1 rfl) ?_
            refine cWVv (As := []) (rest := []) hx hb hml hown hts (c_X0_takeWord l G E cI cZ n k8 o a_bt so (nI k8) vl bt (hn) (by first | assumption | omega | simp [bI, c_1, c_26, c_27, c_28])) k_9_6 cal_X0_takeWord ⟨Nat.le_of_ble_eq_true rfl, Nat.le_of_ble_eq_true rfl⟩ hE hA hlow hD hS hK [0, 1] rfl hP [0, 1] rfl (by decide) [o, a_bt] rfl (fun _ => rfl) [] [] (fun _ => [(o, .inr (0, [.ref a_bt, .int (nI n), .int 1, .int (nI k8), .int (nI (skB bt n ltM k8)), .int vl])), (a_bt, .inl (cI, 400, .inl bt))]) 2 rfl (fun _ => rfl) (fun _ => rfl) (fun _ => rfl) (by decide) (by decide) 0 0 rfl rfl rfl hl.1 rfl (Nat.le_of_ble_eq_true rfl) dX0_takeToken_89 ⟨Nat.zero_le _, Nat.zero_le _⟩ (fun u H locs hr_ hP hD hS => ?_)
            have hP : va_P G vwCl [(o, .inr (0, [.ref a_bt, .int (nI n), .int 1, .int (nI k8), .int (nI (skB bt n ltM k8)), .int vl])), (a_bt, .inl (cI, 400, .inl bt))] H := hP
            have hD : va_D A [(o, .inr (0, [.ref a_bt, .int (nI n), .int 1, .int (nI k8), .int (nI (skB bt n ltM k8)), .int vl])), (a_bt, .inl (cI, 400, .inl bt))] := hD
            refine lv_goto (tgt := 134) hx hb dX0_takeToken_92 (by decide) ?_
            have ew_43 : (1 : Int32) = (tkR bt n b9 vl).1 := by rw [tkR, hst]; simp [cN, cT, cV, c_27, c_28]
            have ew_44 : (nI k8 : Int32) = nI (tkR bt n b9 vl).2.1 := by rw [tkR, hst]
            have ew_45 : (nI (skB bt n ltM k8) : Int32) = nI (tkR bt n b9 vl).2.2.1 := by rw [tkR, hst]; simp [cN, cT, cV, c_27, c_28]
            have ew_46 : (vl : Int32) = (tkR bt n b9 vl).2.2.2 := by rw [tkR, hst]; simp [cN, cT, cV, c_27, c_28]
            have hP : va_P G vwCl [(o, .inr (0, [.ref a_bt, .int (nI n), .int ((tkR bt n b9 vl).1), .int (nI (tkR bt n b9 vl).2.1), .int (nI (tkR bt n b9 vl).2.2.1), .int ((tkR bt n b9 vl).2.2.2)])), (a_bt, .inl (cI, 400, .inl bt))] H := by rw [← ew_43, ← ew_44, ← ew_45, ← ew_46]; exact hP
            exact retWv () hx hb hr hlocks dX0_takeToken_134 hS (trivial) hP
        · skip
          have c_27 : ¬ k8 < n := fun h9 => c_27 ((nI_ltI (a := k8) (b := n) (by omega) (by omega)).mpr h9)
          refine lv_aload_n hx hb dX0_takeToken_65 rfl (lv_at hl 0 rfl) ?_
          refine lv_iconst (v := 0) hx hb dX0_takeToken_66 (by decide) ?_
          refine va_put (D := G) (ci := 0) (v := .int 0) (ty := .int) (C := RX0) (T := TX0) (N := 6) hx hb hts inlX0 tyX0 tyX0_ok nmX0 hown hK hP hD hS 0 rfl rfl 2 (by decide) (hts (.fieldLink RX0 19 "EarthBanks$DamText" "sort" "I") k_3_1) (fun _ h9 => h9) rfl (by decide +kernel) (rfl) (rfl) (Nat.le_of_ble_eq_true rfl) dX0_takeToken_67 (fun H locs hP hD hS => ?_)
          have hP : va_P G vwCl [(o, .inr (0, [.ref a_bt, .int (nI n), .int 0, .int (nI k8), .int (nI k8), .int vl])), (a_bt, .inl (cI, 400, .inl bt))] H := hP
          have hD : va_D A [(o, .inr (0, [.ref a_bt, .int (nI n), .int 0, .int (nI k8), .int (nI k8), .int vl])), (a_bt, .inl (cI, 400, .inl bt))] := hD
          have ew_47 : (0 : Int32) = (tkR bt n b9 vl).1 := by rw [tkR, hst]; simp [cN, cT, cV, c_27]
          have ew_48 : (nI k8 : Int32) = nI (tkR bt n b9 vl).2.1 := by rw [tkR, hst]
          have ew_49 : (nI k8 : Int32) = nI (tkR bt n b9 vl).2.2.1 := by rw [tkR, hst]; simp [cN, cT, cV, c_27]
          have ew_50 : (vl : Int32) = (tkR bt n b9 vl).2.2.2 := by rw [tkR, hst]; simp [cN, cT, cV, c_27]
          have hP : va_P G vwCl [(o, .inr (0, [.ref a_bt, .int (nI n), .int ((tkR bt n b9 vl).1), .int (nI (tkR bt n b9 vl).2.1), .int (nI (tkR bt n b9 vl).2.2.1), .int ((tkR bt n b9 vl).2.2.2)])), (a_bt, .inl (cI, 400, .inl bt))] H := by rw [← ew_47, ← ew_48, ← ew_49, ← ew_50]; exact hP
          exact retWv () hx hb hr hlocks dX0_takeToken_70 hS (trivial) hP
      · skip
        refine lv_aload_n hx hb dX0_takeToken_33 rfl (lv_at hl 0 rfl) ?_
        refine lv_dup hx hb dX0_takeToken_34 rfl ?_
        refine va_get (D := G) (ci := 0) (v := .int (nI k8)) (C := RX0) (T := TX0) (N := 6) hx hb hts inlX0 hown hK hP 0 rfl rfl 3 (by decide) (hts (.fieldLink RX0 22 "EarthBanks$DamText" "first" "I") k_3_2) (fun _ h9 => h9) rfl dX0_takeToken_35 ?_
        refine lv_iconst (v := 1) hx hb dX0_takeToken_38 (by decide) ?_
        refine lv_iadd hx hb dX0_takeToken_39 ?_
        refine top_eq (y := nI (k8 + 1)) (nI_add _ _) ?_
        refine va_put (D := G) (ci := 0) (v := .int (nI (k8 + 1))) (ty := .int) (C := RX0) (T := TX0) (N := 6) hx hb hts inlX0 tyX0 tyX0_ok nmX0 hown hK hP hD hS 0 rfl rfl 3 (by decide) (hts (.fieldLink RX0 22 "EarthBanks$DamText" "first" "I") k_3_2) (fun _ h9 => h9) rfl (by decide +kernel) (rfl) (rfl) (Nat.le_of_ble_eq_true rfl) dX0_takeToken_40 (fun H locs hP hD hS => ?_)
        have hP : va_P G vwCl [(o, .inr (0, [.ref a_bt, .int (nI n), .int so, .int (nI (k8 + 1)), .int (nI b9), .int vl])), (a_bt, .inl (cI, 400, .inl bt))] H := hP
        have hD : va_D A [(o, .inr (0, [.ref a_bt, .int (nI n), .int so, .int (nI (k8 + 1)), .int (nI b9), .int vl])), (a_bt, .inl (cI, 400, .inl bt))] := hD
        refine lv_goto (tgt := 8) hx hb dX0_takeToken_43 (by decide) ?_
        exact ih8 (k8 + 1) (by omega) (by omega) (by omega) ((skB_step1 (f := f32) (by omega) (by simp [f32, c_26])).symm.trans hsk) H locs hP hD hS ls (lv_sub hl [0] rfl)
theorem cal_X0_takeNumber : calV yX0_takeNumber cX0_takeNumber 3 (some .boolean) 2 := ⟨k_12_17, k_1_15, k_12_15, k_12_16, by decide +kernel⟩
set_option maxHeartbeats 4000000 in
set_option maxRecDepth 100000 in
theorem c_X0_takeNumber (l : Launch) (G : va_G) (E : EvT) (cI cZ : ClassId) (n : Nat) (b9 : Nat) (lw : Int32) (hg : Int32) (o : Nat) (a_bt : Nat) (so : Int32) (fi : Int32) (vl : Int32) (bt : Nat → Int32) (hn : n ≤ 400) (hbn : b9 ≤ n) : cWi (S := Unit) l G E yX0_takeNumber cX0_takeNumber 3 (some .boolean) 6 [(cI, .int), (cZ, .boolean)] [.ref o, .int lw, .int hg] [(o, .inr (0, [.ref a_bt, .int (nI n), .int so, .int fi, .int (nI b9), .int vl])), (a_bt, .inl (cI, 400, .inl bt))] (fun r _ => r = bI (nuB lw hg (tkR bt n b9 vl))) (fun _ => [(o, .inr (0, [.ref a_bt, .int (nI n), .int ((tkR bt n b9 vl).1), .int (nI (tkR bt n b9 vl).2.1), .int (nI (tkR bt n b9 vl).2.2.1), .int ((tkR bt n b9 vl).2.2.2)])), (a_bt, .inl (cI, 400, .inl bt))]) := by
  refine mkWi (by decide) (Nat.le_of_ble_eq_true rfl) ?_
  intro zp ze s zm args below meth zc hx hb hr hml hown hts hlocks hE hK A hA hlow H locs hP hD hS ls hl
  have hl : lv_has ls 3 [(0, .ref o), (1, .int lw), (2, .int hg)] := hl
  refine lv_aload_n hx hb dX0_takeNumber_0 rfl (lv_at hl 0 rfl) ?_
  refine cWVv (As := []) (rest := []) hx hb hml hown hts (c_X0_takeToken l G E cI cZ n b9 o a_bt so fi vl bt (hn) (hbn)) k_8_23 cal_X0_takeToken ⟨Nat.le_of_ble_eq_true rfl, Nat.le_of_ble_eq_true rfl⟩ hE hA hlow hD hS hK [0, 1] rfl hP [0, 1] rfl (by decide) [o, a_bt] rfl (fun _ => rfl) [] [] (fun _ => [(o, .inr (0, [.ref a_bt, .int (nI n), .int ((tkR bt n b9 vl).1), .int (nI (tkR bt n b9 vl).2.1), .int (nI (tkR bt n b9 vl).2.2.1), .int ((tkR bt n b9 vl).2.2.2)])), (a_bt, .inl (cI, 400, .inl bt))]) 2 rfl (fun _ => rfl) (fun _ => rfl) (fun _ => rfl) (by decide) (by decide) 0 0 rfl rfl rfl hl.1 rfl (Nat.le_of_ble_eq_true rfl) dX0_takeNumber_1 ⟨Nat.zero_le _, Nat.zero_le _⟩ (fun u H locs hr_ hP hD hS => ?_)
  have hP : va_P G vwCl [(o, .inr (0, [.ref a_bt, .int (nI n), .int ((tkR bt n b9 vl).1), .int (nI (tkR bt n b9 vl).2.1), .int (nI (tkR bt n b9 vl).2.2.1), .int ((tkR bt n b9 vl).2.2.2)])), (a_bt, .inl (cI, 400, .inl bt))] H := hP
  have hD : va_D A [(o, .inr (0, [.ref a_bt, .int (nI n), .int ((tkR bt n b9 vl).1), .int (nI (tkR bt n b9 vl).2.1), .int (nI (tkR bt n b9 vl).2.2.1), .int ((tkR bt n b9 vl).2.2.2)])), (a_bt, .inl (cI, 400, .inl bt))] := hD
  refine lv_aload_n hx hb dX0_takeNumber_4 rfl (lv_at hl 0 rfl) ?_
  refine va_get (D := G) (ci := 0) (v := .int ((tkR bt n b9 vl).1)) (C := RX0) (T := TX0) (N := 6) hx hb hts inlX0 hown hK hP 0 rfl rfl 2 (by decide) (hts (.fieldLink RX0 19 "EarthBanks$DamText" "sort" "I") k_3_1) (fun _ h9 => h9) rfl dX0_takeNumber_5 ?_
  refine lv_iconst (v := 2) hx hb dX0_takeNumber_8 (by decide) ?_
  refine lv_icmp_ne (tgt := 28) hx hb dX0_takeNumber_9 (by decide) (fun c_1 => ?_) (fun c_1 => ?_)
  · skip
    refine lv_iconst (v := 0) hx hb dX0_takeNumber_28 (by decide) ?_
    exact retWi () hx hb hr (rfl) hlocks dX0_takeNumber_29 hS (by simp [nuB, bI, c_1]) hP
  · skip
    refine lv_aload_n hx hb dX0_takeNumber_12 rfl (lv_at hl 0 rfl) ?_
    refine va_get (D := G) (ci := 0) (v := .int ((tkR bt n b9 vl).2.2.2)) (C := RX0) (T := TX0) (N := 6) hx hb hts inlX0 hown hK hP 0 rfl rfl 5 (by decide) (hts (.fieldLink RX0 28 "EarthBanks$DamText" "value" "I") k_3_4) (fun _ h9 => h9) rfl dX0_takeNumber_13 ?_
    refine lv_iload_n hx hb dX0_takeNumber_16 rfl (lv_at hl 1 rfl) ?_
    refine lv_iload_n hx hb dX0_takeNumber_17 rfl (lv_at hl 2 rfl) ?_
    refine cRSN (As := [.int ((tkR bt n b9 vl).2.2.2), .int lw, .int hg]) (rest := []) hx hb hml hown hts (c_X6_within l G E cI cZ ((tkR bt n b9 vl).2.2.2) lw hg) (hE.2.1.2.1 ("EarthBanks$DamText", 86, yX6_within, "EarthBanks") (by decide +kernel)) cal_X6_within ⟨Nat.le_of_ble_eq_true rfl, Nat.le_of_ble_eq_true rfl⟩ hE hlow hS hK [0, 1] rfl hP [] rfl rfl hl.1 rfl (Nat.le_of_ble_eq_true rfl) dX0_takeNumber_18 ⟨Nat.zero_le _, Nat.zero_le _⟩ ?_
    refine lv_if_eq (tgt := 28) hx hb dX0_takeNumber_21 (by decide) (fun c_2 => ?_) (fun c_2 => ?_)
    · skip
      have c_2 : (wiB ((tkR bt n b9 vl).2.2.2) lw hg) = false := bI_f c_2
      refine lv_iconst (v := 0) hx hb dX0_takeNumber_28 (by decide) ?_
      exact retWi () hx hb hr (rfl) hlocks dX0_takeNumber_29 hS (by simp [nuB, bI, eq_true c_1, c_2]) hP
    · skip
      have c_2 : (wiB ((tkR bt n b9 vl).2.2.2) lw hg) = true := bI_t c_2
      refine lv_iconst (v := 1) hx hb dX0_takeNumber_24 (by decide) ?_
      refine lv_goto (tgt := 29) hx hb dX0_takeNumber_25 (by decide) ?_
      exact retWi () hx hb hr (rfl) hlocks dX0_takeNumber_29 hS (by simp [nuB, bI, eq_true c_1, c_2]) hP
theorem cal_X0_takeStop : calV yX0_takeStop cX0_takeStop 1 (some .boolean) 0 := ⟨k_12_21, k_1_15, k_12_19, k_12_20, by decide +kernel⟩
set_option maxHeartbeats 4000000 in
set_option maxRecDepth 100000 in
theorem c_X0_takeStop (l : Launch) (G : va_G) (E : EvT) (cI cZ : ClassId) (n : Nat) (b9 : Nat) (o : Nat) (a_bt : Nat) (so : Int32) (fi : Int32) (vl : Int32) (bt : Nat → Int32) (hn : n ≤ 400) (hbn : b9 ≤ n) : cWi (S := Unit) l G E yX0_takeStop cX0_takeStop 1 (some .boolean) 6 [(cI, .int), (cZ, .boolean)] [.ref o] [(o, .inr (0, [.ref a_bt, .int (nI n), .int so, .int fi, .int (nI b9), .int vl])), (a_bt, .inl (cI, 400, .inl bt))] (fun r _ => r = bI (decide ((tkR bt n b9 vl).1 = 3))) (fun _ => [(o, .inr (0, [.ref a_bt, .int (nI n), .int ((tkR bt n b9 vl).1), .int (nI (tkR bt n b9 vl).2.1), .int (nI (tkR bt n b9 vl).2.2.1), .int ((tkR bt n b9 vl).2.2.2)])), (a_bt, .inl (cI, 400, .inl bt))]) := by
  refine mkWi (by decide) (Nat.le_of_ble_eq_true rfl) ?_
  intro zp ze s zm args below meth zc hx hb hr hml hown hts hlocks hE hK A hA hlow H locs hP hD hS ls hl
  have hl : lv_has ls 1 [(0, .ref o)] := hl
  refine lv_aload_n hx hb dX0_takeStop_0 rfl (lv_at hl 0 rfl) ?_
  refine cWVv (As := []) (rest := []) hx hb hml hown hts (c_X0_takeToken l G E cI cZ n b9 o a_bt so fi vl bt (hn) (hbn)) k_8_23 cal_X0_takeToken ⟨Nat.le_of_ble_eq_true rfl, Nat.le_of_ble_eq_true rfl⟩ hE hA hlow hD hS hK [0, 1] rfl hP [0, 1] rfl (by decide) [o, a_bt] rfl (fun _ => rfl) [] [] (fun _ => [(o, .inr (0, [.ref a_bt, .int (nI n), .int ((tkR bt n b9 vl).1), .int (nI (tkR bt n b9 vl).2.1), .int (nI (tkR bt n b9 vl).2.2.1), .int ((tkR bt n b9 vl).2.2.2)])), (a_bt, .inl (cI, 400, .inl bt))]) 2 rfl (fun _ => rfl) (fun _ => rfl) (fun _ => rfl) (by decide) (by decide) 0 0 rfl rfl rfl hl.1 rfl (Nat.le_of_ble_eq_true rfl) dX0_takeStop_1 ⟨Nat.zero_le _, Nat.zero_le _⟩ (fun u H locs hr_ hP hD hS => ?_)
  have hP : va_P G vwCl [(o, .inr (0, [.ref a_bt, .int (nI n), .int ((tkR bt n b9 vl).1), .int (nI (tkR bt n b9 vl).2.1), .int (nI (tkR bt n b9 vl).2.2.1), .int ((tkR bt n b9 vl).2.2.2)])), (a_bt, .inl (cI, 400, .inl bt))] H := hP
  have hD : va_D A [(o, .inr (0, [.ref a_bt, .int (nI n), .int ((tkR bt n b9 vl).1), .int (nI (tkR bt n b9 vl).2.1), .int (nI (tkR bt n b9 vl).2.2.1), .int ((tkR bt n b9 vl).2.2.2)])), (a_bt, .inl (cI, 400, .inl bt))] := hD
  refine lv_aload_n hx hb dX0_takeStop_4 rfl (lv_at hl 0 rfl) ?_
  refine va_get (D := G) (ci := 0) (v := .int ((tkR bt n b9 vl).1)) (C := RX0) (T := TX0) (N := 6) hx hb hts inlX0 hown hK hP 0 rfl rfl 2 (by decide) (hts (.fieldLink RX0 19 "EarthBanks$DamText" "sort" "I") k_3_1) (fun _ h9 => h9) rfl dX0_takeStop_5 ?_
  refine lv_iconst (v := 3) hx hb dX0_takeStop_8 (by decide) ?_
  refine lv_icmp_ne (tgt := 16) hx hb dX0_takeStop_9 (by decide) (fun c_1 => ?_) (fun c_1 => ?_)
  · skip
    refine lv_iconst (v := 0) hx hb dX0_takeStop_16 (by decide) ?_
    exact retWi () hx hb hr (rfl) hlocks dX0_takeStop_17 hS (by simp [bI, c_1]) hP
  · skip
    refine lv_iconst (v := 1) hx hb dX0_takeStop_12 (by decide) ?_
    refine lv_goto (tgt := 17) hx hb dX0_takeStop_13 (by decide) ?_
    exact retWi () hx hb hr (rfl) hlocks dX0_takeStop_17 hS (by simp [bI, eq_true c_1]) hP
theorem cal_X0_isWord : calV yX0_isWord cX0_isWord 3 (some .boolean) 1 := ⟨k_10_0, k_1_15, k_9_22, k_9_23, by decide +kernel⟩
set_option maxHeartbeats 4000000 in
set_option maxRecDepth 100000 in
theorem c_X0_isWord (l : Launch) (G : va_G) (E : EvT) (cI cZ : ClassId) (i : Nat) (fi9 : Nat) (b9 : Nat) (o : Nat) (a_bt : Nat) (so : Int32) (fs_o : List Value) (h_o_so : fs_o[2]? = some (.int so)) (h_o_bh : fs_o[4]? = some (.int (nI b9))) (h_o_fi : fs_o[3]? = some (.int (nI fi9))) (h_o_bt : fs_o[0]? = some (.ref a_bt)) (bt : Nat → Int32) (hi : i < 2) (hfb : fi9 ≤ b9) (hb4 : b9 ≤ 400) : cR l G E yX0_isWord cX0_isWord 3 (some .boolean) 6 [(cI, .int), (cZ, .boolean)] [.ref o, .ref (E.2.1 i)] [(o, .inr (0, fs_o)), (a_bt, .inl (cI, 400, .inl bt))] (bI (wdC bt i (so, fi9, b9))) := by
  refine mkR (by decide) (Nat.le_of_ble_eq_true rfl) ?_
  intro zp ze s zm args below meth zc hx hb hr hml hown hts hlocks hE hP hK ls hl
  have hS : va_S (fun _ => False) s.heap s.heap [] := va_S.rf
  have hlow : ∀ q : Nat, (fun _ : Nat => False) q → E.1 ≤ q := fun _ h => h.elim
  have hl : lv_has ls 3 [(0, .ref o), (1, .ref (E.2.1 i))] := hl
  have hn4 := lnS_4 i hi
  refine lv_aload_n hx hb dX0_isWord_0 rfl (lv_at hl 0 rfl) ?_
  refine va_get (D := G) (ci := 0) (v := .int so) (C := RX0) (T := TX0) (N := 6) hx hb hts inlX0 hown hK hP 0 rfl rfl 2 (by decide) (hts (.fieldLink RX0 19 "EarthBanks$DamText" "sort" "I") k_3_1) (fun _ h9 => h9) h_o_so dX0_isWord_1 ?_
  refine lv_iconst (v := 1) hx hb dX0_isWord_4 (by decide) ?_
  refine lv_icmp_ne (tgt := 24) hx hb dX0_isWord_5 (by decide) (fun c_1 => ?_) (fun c_1 => ?_)
  · skip
    refine lv_iconst (v := 0) hx hb dX0_isWord_24 (by decide) ?_
    exact retR hx hb hr (rfl) hlocks dX0_isWord_25 (by simp [wdC, bI, c_1])
  · skip
    refine lv_aload_n hx hb dX0_isWord_8 rfl (lv_at hl 0 rfl) ?_
    refine va_get (D := G) (ci := 0) (v := .int (nI b9)) (C := RX0) (T := TX0) (N := 6) hx hb hts inlX0 hown hK hP 0 rfl rfl 4 (by decide) (hts (.fieldLink RX0 25 "EarthBanks$DamText" "behind" "I") k_3_3) (fun _ h9 => h9) h_o_bh dX0_isWord_9 ?_
    refine lv_aload_n hx hb dX0_isWord_12 rfl (lv_at hl 0 rfl) ?_
    refine va_get (D := G) (ci := 0) (v := .int (nI fi9)) (C := RX0) (T := TX0) (N := 6) hx hb hts inlX0 hown hK hP 0 rfl rfl 3 (by decide) (hts (.fieldLink RX0 22 "EarthBanks$DamText" "first" "I") k_3_2) (fun _ h9 => h9) h_o_fi dX0_isWord_13 ?_
    refine lv_isub hx hb dX0_isWord_16 ?_
    refine top_eq (y := nI (b9 - fi9)) (pk_sub (a := b9) (b := fi9) (by omega)) ?_
    refine lv_aload_n hx hb dX0_isWord_17 rfl (lv_at hl 1 rfl) ?_
    refine cRVs (As := []) (rest := [.int (nI (b9 - fi9))]) hx hb hml hown hts (c_J0_length_8abf5 l G E cI cZ i hi) k_10_1 cal_J0_length_8abf5 ⟨Nat.le_of_ble_eq_true rfl, Nat.le_of_ble_eq_true rfl⟩ hE hlow hS hK [0, 1] rfl hP [] rfl (str_recv hi hE hlow hS) rfl hl.1 rfl (Nat.le_of_ble_eq_true rfl) dX0_isWord_18 ⟨Nat.zero_le _, Nat.zero_le _⟩ ?_
    refine lv_icmp_eq (tgt := 26) hx hb dX0_isWord_21 (by decide) (fun c_2 => ?_) (fun c_2 => ?_)
    · skip
      have c_2 : (b9 - fi9) = (lnS i) := (nI_eq (a := (b9 - fi9)) (b := (lnS i)) (by omega) (by omega)).mp c_2
      refine lv_iconst (v := 0) hx hb dX0_isWord_26 (by decide) ?_
      refine lv_istore_n (lv' := [(2, .int 0), (0, .ref o), (1, .ref (E.2.1 i))]) hx hb dX0_isWord_27 rfl hl (by decide) rfl (fun ls hl => ?_)
      suffices lp28 : ∀ zn k28 : Nat, 0 ≤ k28 → k28 ≤ (lnS i) → (lnS i) < k28 + zn → (anyS (fun k => !decide (bt (fi9 + k) = kcS i k)) k28 = false) → ∀ ls : Array Slot, lv_has ls 3 [(0, .ref o), (1, .ref (E.2.1 i)), (2, .int (nI k28))] → W zp l ze (rmK 6) s zm args below meth zc s.heap [] 0 0 (MQ below (vp_Si (fun zx => zx = bI (wdC bt i (so, fi9, b9)))) args s 0 0 (fun _ => False)) (F0 zm 28 ls []) by
        have el_3 : (0 : Int32) = nI 0 := rfl
        exact lp28 ((lnS i) + 1 - 0) 0 (by omega) (by omega) (by omega) (rfl) ls (lv_sub hl [1, 2, 0] (show ([(0, .ref o), (1, .ref (E.2.1 i)), (2, .int 0)] : List (Nat × Value)) = [(0, .ref o), (1, .ref (E.2.1 i)), (2, .int (nI 0))] by rw [← el_3]))
      intro zn
      induction zn with
      | zero => exact fun k28 h1 h2 h3 => absurd h3 (by omega)
      | succ zn ih28 =>
        intro k28 hlo28 hhi28 hn28 hany ls hl
        refine lv_iload_n hx hb dX0_isWord_28 rfl (lv_at hl 2 rfl) ?_
        refine lv_aload_n hx hb dX0_isWord_29 rfl (lv_at hl 1 rfl) ?_
        refine cRVs (As := []) (rest := [.int (nI k28)]) hx hb hml hown hts (c_J0_length_8abf5 l G E cI cZ i hi) k_10_1 cal_J0_length_8abf5 ⟨Nat.le_of_ble_eq_true rfl, Nat.le_of_ble_eq_true rfl⟩ hE hlow hS hK [0, 1] rfl hP [] rfl (str_recv hi hE hlow hS) rfl hl.1 rfl (Nat.le_of_ble_eq_true rfl) dX0_isWord_30 ⟨Nat.zero_le _, Nat.zero_le _⟩ ?_
        refine lv_icmp_ge (tgt := 63) hx hb dX0_isWord_33 (by decide) (fun c_4 => ?_) (fun c_4 => ?_)
        · skip
          have c_4 : (lnS i) ≤ k28 := (nI_leI (a := (lnS i)) (b := k28) (by omega) (by omega)).mp c_4
          have hk9 : (lnS i) = k28 := by omega
          subst hk9
          refine lv_iconst (v := 1) hx hb dX0_isWord_63 (by decide) ?_
          exact retR hx hb hr (rfl) hlocks dX0_isWord_64 (by rw [wdC, hany]; simp [bI, eq_true c_1, eq_true c_2])
        · skip
          have c_4 : ¬ (lnS i) ≤ k28 := fun h9 => c_4 ((nI_leI (a := (lnS i)) (b := k28) (by omega) (by omega)).mpr h9)
          refine lv_aload_n hx hb dX0_isWord_36 rfl (lv_at hl 0 rfl) ?_
          refine va_get (D := G) (ci := 0) (v := .ref a_bt) (C := RX0) (T := TX0) (N := 6) hx hb hts inlX0 hown hK hP 0 rfl rfl 0 (by decide) (hts (.fieldLink RX0 11 "EarthBanks$DamText" "bytes" "[I") k_2_23) (fun _ h9 => h9) h_o_bt dX0_isWord_37 ?_
          refine lv_aload_n hx hb dX0_isWord_40 rfl (lv_at hl 0 rfl) ?_
          refine va_get (D := G) (ci := 0) (v := .int (nI fi9)) (C := RX0) (T := TX0) (N := 6) hx hb hts inlX0 hown hK hP 0 rfl rfl 3 (by decide) (hts (.fieldLink RX0 22 "EarthBanks$DamText" "first" "I") k_3_2) (fun _ h9 => h9) h_o_fi dX0_isWord_41 ?_
          refine lv_iload_n hx hb dX0_isWord_44 rfl (lv_at hl 2 rfl) ?_
          refine lv_iadd hx hb dX0_isWord_45 ?_
          refine top_eq (y := nI (fi9 + k28)) (nI_add _ _) ?_
          refine ialdN (j := (fi9 + k28)) hx hb hK hP 1 0 rfl rfl (by omega) (by decide) dX0_isWord_46 ?_
          refine lv_aload_n hx hb dX0_isWord_47 rfl (lv_at hl 1 rfl) ?_
          refine lv_iload_n hx hb dX0_isWord_48 rfl (lv_at hl 2 rfl) ?_
          refine cRVs (As := [.int (nI k28)]) (rest := [.int (bt (fi9 + k28))]) hx hb hml hown hts (c_J0_charAt_5068e l G E cI cZ i k28 hi (by omega)) k_10_13 cal_J0_charAt_5068e ⟨Nat.le_of_ble_eq_true rfl, Nat.le_of_ble_eq_true rfl⟩ hE hlow hS hK [0, 1] rfl hP [] rfl (str_recv hi hE hlow hS) rfl hl.1 rfl (Nat.le_of_ble_eq_true rfl) dX0_isWord_49 ⟨Nat.zero_le _, Nat.zero_le _⟩ ?_
          refine lv_icmp_eq (tgt := 57) hx hb dX0_isWord_52 (by decide) (fun c_5 => ?_) (fun c_5 => ?_)
          · skip
            refine lv_iinc (v := nI (k28 + 1)) (lv' := [(2, .int (nI (k28 + 1))), (0, .ref o), (1, .ref (E.2.1 i))]) hx hb dX0_isWord_57 hl (k := 2) rfl (nI_add _ _) (by decide) rfl (fun ls hl => ?_)
            refine lv_goto (tgt := 28) hx hb dX0_isWord_60 (by decide) ?_
            exact ih28 (k28 + 1) (by omega) (by omega) (by omega) (by rw [anyS, hany]; simp [eq_true c_1, eq_true c_2, c_4, eq_true c_5]) ls (lv_sub hl [1, 2, 0] rfl)
          · skip
            refine lv_iconst (v := 0) hx hb dX0_isWord_55 (by decide) ?_
            exact retR hx hb hr (rfl) hlocks dX0_isWord_56 (by rw [wdC, anyS_t (k := k28) (by simp [c_5]) (by omega)]; simp [bI])
    · skip
      have c_2 : ¬ (b9 - fi9) = (lnS i) := fun h9 => c_2 ((nI_eq (a := (b9 - fi9)) (b := (lnS i)) (by omega) (by omega)).mpr h9)
      refine lv_iconst (v := 0) hx hb dX0_isWord_24 (by decide) ?_
      exact retR hx hb hr (rfl) hlocks dX0_isWord_25 (by simp [wdC, bI, eq_true c_1, c_2])
theorem cal_X0_drop : calV yX0_drop cX0_drop 2 (some .int) 0 := ⟨k_8_8, k_1_15, k_8_6, k_8_7, by decide +kernel⟩
set_option maxHeartbeats 4000000 in
set_option maxRecDepth 100000 in
theorem c_X0_drop (l : Launch) (G : va_G) (E : EvT) (cI cZ : ClassId) (o : Nat) (a_bt : Nat) (ln : Int32) (so : Int32) (fi : Int32) (bh : Int32) (vl : Int32) : cWi (S := Unit) l G E yX0_drop cX0_drop 2 (some .int) 1 [(cI, .int), (cZ, .boolean)] [.ref o] [(o, .inr (0, [.ref a_bt, .int ln, .int so, .int fi, .int bh, .int vl]))] (fun r _ => r = ln) (fun _ => [(o, .inr (0, [.ref a_bt, .int 0, .int so, .int fi, .int bh, .int vl]))]) := by
  refine mkWi (by decide) (Nat.le_of_ble_eq_true rfl) ?_
  intro zp ze s zm args below meth zc hx hb hr hml hown hts hlocks hE hK A hA hlow H locs hP hD hS ls hl
  have hl : lv_has ls 2 [(0, .ref o)] := hl
  refine lv_aload_n hx hb dX0_drop_0 rfl (lv_at hl 0 rfl) ?_
  refine va_get (D := G) (ci := 0) (v := .int ln) (C := RX0) (T := TX0) (N := 6) hx hb hts inlX0 hown hK hP 0 rfl rfl 1 (by decide) (hts (.fieldLink RX0 15 "EarthBanks$DamText" "length" "I") k_3_0) (fun _ h9 => h9) rfl dX0_drop_1 ?_
  refine lv_istore_n (lv' := [(1, .int ln), (0, .ref o)]) hx hb dX0_drop_4 rfl hl (by decide) rfl (fun ls hl => ?_)
  refine lv_aload_n hx hb dX0_drop_5 rfl (lv_at hl 1 rfl) ?_
  refine lv_iconst (v := 0) hx hb dX0_drop_6 (by decide) ?_
  refine va_put (D := G) (ci := 0) (v := .int 0) (ty := .int) (C := RX0) (T := TX0) (N := 6) hx hb hts inlX0 tyX0 tyX0_ok nmX0 hown hK hP hD hS 0 rfl rfl 1 (by decide) (hts (.fieldLink RX0 15 "EarthBanks$DamText" "length" "I") k_3_0) (fun _ h9 => h9) rfl (by decide +kernel) (rfl) (rfl) (Nat.le_of_ble_eq_true rfl) dX0_drop_7 (fun H locs hP hD hS => ?_)
  have hP : va_P G vwCl [(o, .inr (0, [.ref a_bt, .int 0, .int so, .int fi, .int bh, .int vl]))] H := hP
  have hD : va_D A [(o, .inr (0, [.ref a_bt, .int 0, .int so, .int fi, .int bh, .int vl]))] := hD
  refine lv_iload_n hx hb dX0_drop_10 rfl (lv_at hl 0 rfl) ?_
  exact retWi () hx hb hr (rfl) hlocks dX0_drop_11 hS (rfl) hP
theorem cal_X0_append : calV yX0_append cX0_append 5 (some .boolean) 2 := ⟨k_7_14, k_1_15, k_7_12, k_7_13, by decide +kernel⟩
set_option maxHeartbeats 4000000 in
set_option maxRecDepth 100000 in
theorem c_X0_append (l : Launch) (G : va_G) (E : EvT) (cI cZ : ClassId) (n : Nat) (v : Int64) (cn : Nat) (o : Nat) (a_bt : Nat) (so : Int32) (fi : Int32) (bh : Int32) (vl : Int32) (bt : Nat → Int32) (hn : n ≤ 400) (hc1 : 1 ≤ cn) (hc8 : cn ≤ 8) : cWi (S := Unit) l G E yX0_append cX0_append 5 (some .boolean) 1 [(cI, .int), (cZ, .boolean)] [.ref o, .long v, .int (nI cn)] [(o, .inr (0, [.ref a_bt, .int (nI n), .int so, .int fi, .int bh, .int vl])), (a_bt, .inl (cI, 400, .inl bt))] (fun r _ => r = bI (decide (n + cn ≤ 400))) (fun _ => [(o, .inr (0, [.ref a_bt, .int (nI (if n + cn ≤ 400 then n + cn else n)), .int so, .int fi, .int bh, .int vl])), (a_bt, .inl (cI, 400, .inl (if n + cn ≤ 400 then tyE bt v n cn cn else bt)))]) := by
  refine mkWi (by decide) (Nat.le_of_ble_eq_true rfl) ?_
  intro zp ze s zm args below meth zc hx hb hr hml hown hts hlocks hE hK A hA hlow H locs hP hD hS ls hl
  have hl : lv_has ls 5 [(0, .ref o), (1, .long v), (3, .int (nI cn))] := hl
  refine lv_iload_n hx hb dX0_append_0 rfl (lv_at hl 2 rfl) ?_
  refine lv_sipush (v := 400) hx hb dX0_append_1 (by decide) ?_
  refine lv_aload_n hx hb dX0_append_4 rfl (lv_at hl 0 rfl) ?_
  refine va_get (D := G) (ci := 0) (v := .int (nI n)) (C := RX0) (T := TX0) (N := 6) hx hb hts inlX0 hown hK hP 0 rfl rfl 1 (by decide) (hts (.fieldLink RX0 15 "EarthBanks$DamText" "length" "I") k_3_0) (fun _ h9 => h9) rfl dX0_append_5 ?_
  refine lv_isub hx hb dX0_append_8 ?_
  refine top_eq (y := nI (400 - n)) (pk_sub (a := 400) (b := n) (by omega)) ?_
  refine lv_icmp_le (tgt := 14) hx hb dX0_append_9 (by decide) (fun c_1 => ?_) (fun c_1 => ?_)
  · skip
    have c_1 : cn ≤ (400 - n) := (nI_leI (a := cn) (b := (400 - n)) (by omega) (by omega)).mp c_1
    refine lv_iload_n hx hb dX0_append_14 rfl (lv_at hl 2 rfl) ?_
    refine lv_iconst (v := 1) hx hb dX0_append_15 (by decide) ?_
    refine lv_isub hx hb dX0_append_16 ?_
    refine top_eq (y := pI cn) (Int32.sub_eq_add_neg _ _) ?_
    refine lv_istore (lv' := [(4, .int (pI cn)), (0, .ref o), (1, .long v), (3, .int (nI cn))]) hx hb dX0_append_17 hl (by decide) rfl (fun ls hl => ?_)
    suffices lp19 : ∀ zn k19 : Nat, 0 ≤ k19 → k19 ≤ cn → cn < k19 + zn → ∀ (H : Heap) (locs : List Loc), va_P G vwCl [(o, .inr (0, [.ref a_bt, .int (nI (n + k19)), .int so, .int fi, .int bh, .int vl])), (a_bt, .inl (cI, 400, .inl (tyE bt v n cn k19)))] H → va_D A [(o, .inr (0, [.ref a_bt, .int (nI (n + k19)), .int so, .int fi, .int bh, .int vl])), (a_bt, .inl (cI, 400, .inl (tyE bt v n cn k19)))] → va_S A s.heap H locs → ∀ ls : Array Slot, lv_has ls 5 [(0, .ref o), (1, .long v), (3, .int (nI cn)), (4, .int (pI (cn - k19)))] → W zp l ze (rmK 1) s zm args below meth zc H locs 0 0 (MQ below (va_Qi (S := Unit) (fun r _ => r = bI (decide (n + cn ≤ 400))) (fun u t => va_P G vwCl ((fun _ => [(o, .inr (0, [.ref a_bt, .int (nI (if n + cn ≤ 400 then n + cn else n)), .int so, .int fi, .int bh, .int vl])), (a_bt, .inl (cI, 400, .inl (if n + cn ≤ 400 then tyE bt v n cn cn else bt)))]) u) t.heap) A) args s 0 0 A) (F0 zm 19 ls []) by
      have el_2 : (pI cn : Int32) = pI (cn - 0) := rfl
      have er_3 : (nI n : Int32) = nI (n + 0) := rfl
      have er_4 : bt = (tyE bt v n cn 0) := rfl
      exact lp19 (cn + 1 - 0) 0 (by omega) (by omega) (by omega)  H locs (by rw [← er_3, ← er_4]; exact hP) (by rw [← er_3, ← er_4]; exact hD) hS ls (lv_sub hl [1, 2, 3, 0] (show ([(0, .ref o), (1, .long v), (3, .int (nI cn)), (4, .int (pI cn))] : List (Nat × Value)) = [(0, .ref o), (1, .long v), (3, .int (nI cn)), (4, .int (pI (cn - 0)))] by rw [← el_2]))
    intro zn
    induction zn with
    | zero => exact fun k19 h1 h2 h3 => absurd h3 (by omega)
    | succ zn ih19 =>
      intro k19 hlo19 hhi19 hn19  H locs hP hD hS ls hl
      refine lv_iload hx hb dX0_append_19 (lv_at hl 3 rfl) ?_
      refine lv_if_lt (tgt := 61) hx hb dX0_append_21 (by decide) (fun c_5 => ?_) (fun c_5 => ?_)
      · skip
        have hk9 : cn = k19 := by have h8 := pI_lt (m := cn - k19) (by omega) c_5; omega
        subst hk9
        refine lv_iconst (v := 1) hx hb dX0_append_61 (by decide) ?_
        have ew_6 : (nI (n + cn) : Int32) = nI (if n + cn ≤ 400 then n + cn else n) := by rw [if_pos (by omega)]
        have ew_7 : (tyE bt v n cn cn) = (if n + cn ≤ 400 then tyE bt v n cn cn else bt) := by rw [if_pos (by omega)]
        have hP : va_P G vwCl [(o, .inr (0, [.ref a_bt, .int (nI (if n + cn ≤ 400 then n + cn else n)), .int so, .int fi, .int bh, .int vl])), (a_bt, .inl (cI, 400, .inl (if n + cn ≤ 400 then tyE bt v n cn cn else bt)))] H := by rw [← ew_6, ← ew_7]; exact hP
        exact retWi () hx hb hr (rfl) hlocks dX0_append_62 hS (by rw [decide_eq_true (by omega)]; rfl) hP
      · skip
        have hk8 := pI_k6 (m := cn) (k := k19) c_5 (by omega)
        have hl : lv_has ls 5 [(0, .ref o), (1, .long v), (3, .int (nI cn)), (4, .int (nI (cn - 1 - k19)))] := by rw [show cn - k19 = (cn - 1) + 1 - k19 by omega, pI_b (m := cn - 1) (by omega)] at hl; exact hl
        refine lv_aload_n hx hb dX0_append_24 rfl (lv_at hl 0 rfl) ?_
        refine va_get (D := G) (ci := 0) (v := .ref a_bt) (C := RX0) (T := TX0) (N := 6) hx hb hts inlX0 hown hK hP 0 rfl rfl 0 (by decide) (hts (.fieldLink RX0 11 "EarthBanks$DamText" "bytes" "[I") k_2_23) (fun _ h9 => h9) rfl dX0_append_25 ?_
        refine lv_aload_n hx hb dX0_append_28 rfl (lv_at hl 0 rfl) ?_
        refine va_get (D := G) (ci := 0) (v := .int (nI (n + k19))) (C := RX0) (T := TX0) (N := 6) hx hb hts inlX0 hown hK hP 0 rfl rfl 1 (by decide) (hts (.fieldLink RX0 15 "EarthBanks$DamText" "length" "I") k_3_0) (fun _ h9 => h9) rfl dX0_append_29 ?_
        refine lv_lload_n hx hb dX0_append_32 rfl (lv_at hl 1 rfl) ?_
        refine lv_bipush (v := 8) hx hb dX0_append_33 (by decide) ?_
        refine lv_iload hx hb dX0_append_35 (lv_at hl 3 rfl) ?_
        refine lv_imul hx hb dX0_append_37 ?_
        refine top_eq (y := nI (8 * (cn - 1 - k19))) (pk_mul _ _) ?_
        refine lv_lushr (v := (v.toUInt64 >>> ((nI (8 * (cn - 1 - k19))).toInt64.toUInt64 &&& Int64.toUInt64 63)).toInt64) hx hb dX0_append_38 rfl ?_
        refine lv_l2i (v := ((v.toUInt64 >>> ((nI (8 * (cn - 1 - k19))).toInt64.toUInt64 &&& Int64.toUInt64 63)).toInt64).toInt32) hx hb dX0_append_39 rfl ?_
        refine lv_sipush (v := 255) hx hb dX0_append_40 (by decide) ?_
        refine lv_iand hx hb dX0_append_43 ?_
        refine top_eq (y := (tyK v (cn - 1 - k19))) (rfl) ?_
        refine iastN (j := (n + k19)) hx hb hK hP hD hS 1 0 rfl rfl (by omega) (by decide) dX0_append_44 (fun H locs hP hD hS => ?_)
        have hP : va_P G vwCl [(o, .inr (0, [.ref a_bt, .int (nI (n + k19)), .int so, .int fi, .int bh, .int vl])), (a_bt, .inl (cI, 400, .inl (upd (tyE bt v n cn k19) (n + k19) (tyK v (cn - 1 - k19)))))] H := hP
        have hD : va_D A [(o, .inr (0, [.ref a_bt, .int (nI (n + k19)), .int so, .int fi, .int bh, .int vl])), (a_bt, .inl (cI, 400, .inl (upd (tyE bt v n cn k19) (n + k19) (tyK v (cn - 1 - k19)))))] := hD
        refine lv_aload_n hx hb dX0_append_45 rfl (lv_at hl 0 rfl) ?_
        refine lv_dup hx hb dX0_append_46 rfl ?_
        refine va_get (D := G) (ci := 0) (v := .int (nI (n + k19))) (C := RX0) (T := TX0) (N := 6) hx hb hts inlX0 hown hK hP 0 rfl rfl 1 (by decide) (hts (.fieldLink RX0 15 "EarthBanks$DamText" "length" "I") k_3_0) (fun _ h9 => h9) rfl dX0_append_47 ?_
        refine lv_iconst (v := 1) hx hb dX0_append_50 (by decide) ?_
        refine lv_iadd hx hb dX0_append_51 ?_
        refine top_eq (y := nI ((n + k19) + 1)) (nI_add _ _) ?_
        refine va_put (D := G) (ci := 0) (v := .int (nI ((n + k19) + 1))) (ty := .int) (C := RX0) (T := TX0) (N := 6) hx hb hts inlX0 tyX0 tyX0_ok nmX0 hown hK hP hD hS 0 rfl rfl 1 (by decide) (hts (.fieldLink RX0 15 "EarthBanks$DamText" "length" "I") k_3_0) (fun _ h9 => h9) rfl (by decide +kernel) (rfl) (rfl) (Nat.le_of_ble_eq_true rfl) dX0_append_52 (fun H locs hP hD hS => ?_)
        have hP : va_P G vwCl [(o, .inr (0, [.ref a_bt, .int (nI ((n + k19) + 1)), .int so, .int fi, .int bh, .int vl])), (a_bt, .inl (cI, 400, .inl (upd (tyE bt v n cn k19) (n + k19) (tyK v (cn - 1 - k19)))))] H := hP
        have hD : va_D A [(o, .inr (0, [.ref a_bt, .int (nI ((n + k19) + 1)), .int so, .int fi, .int bh, .int vl])), (a_bt, .inl (cI, 400, .inl (upd (tyE bt v n cn k19) (n + k19) (tyK v (cn - 1 - k19)))))] := hD
        refine lv_iinc (v := pI (cn - 1 - k19)) (lv' := [(4, .int (pI (cn - 1 - k19))), (0, .ref o), (1, .long v), (3, .int (nI cn))]) hx hb dX0_append_55 hl (k := 3) rfl (rfl) (by decide) rfl (fun ls hl => ?_)
        refine lv_goto (tgt := 19) hx hb dX0_append_58 (by decide) ?_
        have el_8 : (pI (cn - 1 - k19) : Int32) = pI (cn - (k19 + 1)) := by congr 1; omega
        have er_9 : (nI ((n + k19) + 1) : Int32) = nI (n + (k19 + 1)) := rfl
        have er_10 : (upd (tyE bt v n cn k19) (n + k19) (tyK v (cn - 1 - k19))) = (tyE bt v n cn (k19 + 1)) := rfl
        exact ih19 (k19 + 1) (by omega) (by omega) (by omega)  H locs (by rw [← er_9, ← er_10]; exact hP) (by rw [← er_9, ← er_10]; exact hD) hS ls (lv_sub hl [1, 2, 3, 0] (show ([(0, .ref o), (1, .long v), (3, .int (nI cn)), (4, .int (pI (cn - 1 - k19)))] : List (Nat × Value)) = [(0, .ref o), (1, .long v), (3, .int (nI cn)), (4, .int (pI (cn - (k19 + 1))))] by rw [← el_8]))
  · skip
    have c_1 : ¬ cn ≤ (400 - n) := fun h9 => c_1 ((nI_leI (a := cn) (b := (400 - n)) (by omega) (by omega)).mpr h9)
    refine lv_iconst (v := 0) hx hb dX0_append_12 (by decide) ?_
    have ew_11 : (nI n : Int32) = nI (if n + cn ≤ 400 then n + cn else n) := by rw [if_neg (by omega)]
    have ew_12 : bt = (if n + cn ≤ 400 then tyE bt v n cn cn else bt) := by rw [if_neg (by omega)]
    have hP : va_P G vwCl [(o, .inr (0, [.ref a_bt, .int (nI (if n + cn ≤ 400 then n + cn else n)), .int so, .int fi, .int bh, .int vl])), (a_bt, .inl (cI, 400, .inl (if n + cn ≤ 400 then tyE bt v n cn cn else bt)))] H := by rw [← ew_11, ← ew_12]; exact hP
    exact retWi () hx hb hr (rfl) hlocks dX0_append_13 hS (by rw [decide_eq_false (by omega)]; rfl) hP
