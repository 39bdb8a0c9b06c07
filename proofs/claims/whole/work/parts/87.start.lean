def R00 : Nat → Nat → Int32 := fun i => match i with
  | 0 => fun _ => (-1)
  | 3 => fun _ => 10
  | 4 => fun _ => 10
  | 5 => fun _ => 10
  | 6 => fun _ => (-1)
  | 9 => fun _ => 10
  | 10 => fun _ => 10
  | 11 => fun _ => 10
  | 12 => fun _ => (-1)
  | 15 => fun _ => 10
  | 16 => fun _ => 10
  | 17 => fun _ => 10
  | 20 => upd (upd (upd (upd (upd (upd (fun _ => 0) 0 50) 1 1000) 2 100) 3 2000) 4 120) 5 0
  | _ => fun _ => 0
def sc00 : Nat → Nat → Int32 := fun i => match i with
  | 0 => fun _ => (-1)
  | 3 => fun _ => 10
  | 4 => fun _ => 10
  | 5 => fun _ => 10
  | _ => fun _ => 0
def V00 : Nat → Int32 := fun i => match i with
  | 3 => 100
  | 4 => 4
  | _ => 0
theorem ev_start {p : Program} {s : State} {m : MethodId} {meth : Method} {c : Code} {b L : Nat} {xs : Nat → Int32} (C0 : lw_At p s m meth c b L xs) : ∃ E : EvT, Ev E s ∧ E.1 = s.heap.size := by
  obtain ⟨-, -, -, -, -, hts, -, -, -, hgv⟩ := C0
  have hs := flat_of_before _ hgv
  have hA0 : ∀ a : Nat, a < s.heap.size → ¬ (fun q : Nat => s.heap.size ≤ q) a := fun a h => Nat.not_le.mpr h
  obtain ⟨tX, eX, hTX⟩ := va_Tof (tm := .static "EarthBanks" "STEP_X" "[I") (ty := .int) (N := 4) (f := fun j => .int (sxI j)) (A := fun q : Nat => s.heap.size ≤ q) (by decide) (hs _ (by decide +kernel)) (va_eqt (z := 4) (hs _ (by decide +kernel))) (fun j hj => match j, hj with
    | 0, _ => va_eqt (t := .elem (.static "EarthBanks" "STEP_X" "[I") (.int 0)) (z := -1) (hs _ (by decide +kernel))
    | 1, _ => va_eqt (t := .elem (.static "EarthBanks" "STEP_X" "[I") (.int 1)) (z := 1) (hs _ (by decide +kernel))
    | 2, _ => va_eqt (t := .elem (.static "EarthBanks" "STEP_X" "[I") (.int 2)) (z := 0) (hs _ (by decide +kernel))
    | 3, _ => va_eqt (t := .elem (.static "EarthBanks" "STEP_X" "[I") (.int 3)) (z := 0) (hs _ (by decide +kernel))) hA0
  obtain ⟨tY, eY, hTY⟩ := va_Tof (tm := .static "EarthBanks" "STEP_Y" "[I") (ty := .int) (N := 4) (f := fun j => .int (syI j)) (A := fun q : Nat => s.heap.size ≤ q) (by decide) (hs _ (by decide +kernel)) (va_eqt (z := 4) (hs _ (by decide +kernel))) (fun j hj => match j, hj with
    | 0, _ => va_eqt (t := .elem (.static "EarthBanks" "STEP_Y" "[I") (.int 0)) (z := 0) (hs _ (by decide +kernel))
    | 1, _ => va_eqt (t := .elem (.static "EarthBanks" "STEP_Y" "[I") (.int 1)) (z := 0) (hs _ (by decide +kernel))
    | 2, _ => va_eqt (t := .elem (.static "EarthBanks" "STEP_Y" "[I") (.int 2)) (z := -1) (hs _ (by decide +kernel))
    | 3, _ => va_eqt (t := .elem (.static "EarthBanks" "STEP_Y" "[I") (.int 3)) (z := 1) (hs _ (by decide +kernel))) hA0
  obtain ⟨adK, adV, hvk, hev⟩ := vk_Sof (args := #[Value.ref b]) (s := s) (N := 2) (tm := fun i => match i with
    | 0 => .string "EarthBanks$DamText" 39
    | _ => .string "EarthBanks$DamText" 49) (len := [4, 3]) (byt := [[122, 111, 110, 101], [114, 111, 119]]) (A := fun q : Nat => s.heap.size ≤ q)
    (fun i hi => match i, hi with
      | 0, _ => (by decide)
      | 1, _ => (by decide))
    (fun i hi => match i, hi with
      | 0, _ => hs (.exactly (.string "EarthBanks$DamText" 39) "java/lang/String") (by decide +kernel)
      | 1, _ => hs (.exactly (.string "EarthBanks$DamText" 49) "java/lang/String") (by decide +kernel))
    (fun i hi => match i, hi with
      | 0, _ => hs (.eq (.field (.string "EarthBanks$DamText" 39) "java/lang/String" "coder" "B") (.int 0)) (by decide +kernel)
      | 1, _ => hs (.eq (.field (.string "EarthBanks$DamText" 49) "java/lang/String" "coder" "B") (.int 0)) (by decide +kernel))
    (fun i hi => match i, hi with
      | 0, _ => hs (.arrayOf (.field (.string "EarthBanks$DamText" 39) "java/lang/String" "value" "[B") .byte) (by decide +kernel)
      | 1, _ => hs (.arrayOf (.field (.string "EarthBanks$DamText" 49) "java/lang/String" "value" "[B") .byte) (by decide +kernel))
    (fun i hi => match i, hi with
      | 0, _ => hs (.eq (.length (.field (.string "EarthBanks$DamText" 39) "java/lang/String" "value" "[B")) (.int 4)) (by decide +kernel)
      | 1, _ => hs (.eq (.length (.field (.string "EarthBanks$DamText" 49) "java/lang/String" "value" "[B")) (.int 3)) (by decide +kernel))
    (fun i hi j hj => match i, hi, j, hj with
      | 0, _, 0, _ => hs (.eq (.elem (.field (.string "EarthBanks$DamText" 39) "java/lang/String" "value" "[B") (.int 0)) (.int 122)) (by decide +kernel)
      | 0, _, 1, _ => hs (.eq (.elem (.field (.string "EarthBanks$DamText" 39) "java/lang/String" "value" "[B") (.int 1)) (.int 111)) (by decide +kernel)
      | 0, _, 2, _ => hs (.eq (.elem (.field (.string "EarthBanks$DamText" 39) "java/lang/String" "value" "[B") (.int 2)) (.int 110)) (by decide +kernel)
      | 0, _, 3, _ => hs (.eq (.elem (.field (.string "EarthBanks$DamText" 39) "java/lang/String" "value" "[B") (.int 3)) (.int 101)) (by decide +kernel)
      | 0, _, j + 4, h => absurd (show j + 4 < 4 from h) (by omega)
      | 1, _, 0, _ => hs (.eq (.elem (.field (.string "EarthBanks$DamText" 49) "java/lang/String" "value" "[B") (.int 0)) (.int 114)) (by decide +kernel)
      | 1, _, 1, _ => hs (.eq (.elem (.field (.string "EarthBanks$DamText" 49) "java/lang/String" "value" "[B") (.int 1)) (.int 111)) (by decide +kernel)
      | 1, _, 2, _ => hs (.eq (.elem (.field (.string "EarthBanks$DamText" 49) "java/lang/String" "value" "[B") (.int 2)) (.int 119)) (by decide +kernel)
      | 1, _, j + 3, h => absurd (show j + 3 < 3 from h) (by omega))
    (fun i j hi hj hne => match i, hi, j, hj with
      | 0, _, 0, _ => absurd rfl hne
      | 0, _, 1, _ => Or.inl (hs (.not (.eq (.string "EarthBanks$DamText" 39) (.string "EarthBanks$DamText" 49))) (by decide +kernel))
      | 1, _, 0, _ => Or.inr (hs (.not (.eq (.string "EarthBanks$DamText" 39) (.string "EarthBanks$DamText" 49))) (by decide +kernel))
      | 1, _, 1, _ => absurd rfl hne) hA0
  refine ⟨(s.heap.size, adK, adV, tX, tY), ⟨Nat.le_refl _, ⟨?_, ?_, vk_R.of (hts (.stringRef "EarthBanks$DamText" 39 "zone") (by decide +kernel)) (hev 0 (by decide)), vk_R.of (hts (.stringRef "EarthBanks$DamText" 49 "row") (by decide +kernel)) (hev 1 (by decide))⟩, va_Zof (hts (.laysStatic "EarthBanks" "STEP_X" "[I") (by decide +kernel)) (hts (.initialized "EarthBanks") (by decide +kernel)) eX hA0, hTX, va_Zof (hts (.laysStatic "EarthBanks" "STEP_Y" "[I") (by decide +kernel)) (hts (.initialized "EarthBanks") (by decide +kernel)) eY hA0, hTY, va_Zof (hts (.laysStatic "java/lang/String" "COMPACT_STRINGS" "Z") (by decide +kernel)) (hts (.initialized "java/lang/String") (by decide +kernel)) (va_eqt (z := 1) (hs _ (by decide +kernel))) hA0, hvk, va_Zqof (hts (.laysStatic "jdk/internal/util/Preconditions" "SIOOBE_FORMATTER" "Ljava/util/function/BiFunction;") (by decide +kernel)) (hts (.initialized "jdk/internal/util/Preconditions") (by decide +kernel)) (hs (.isRef (.static "jdk/internal/util/Preconditions" "SIOOBE_FORMATTER" "Ljava/util/function/BiFunction;")) (by decide +kernel)) hA0⟩, rfl⟩
  · exact List.forall_mem_cons.mpr ⟨va_Nw.of rfl (hts _ (by decide +kernel)), List.forall_mem_cons.mpr ⟨va_Nw.of rfl (hts _ (by decide +kernel)), fun _ h => absurd h List.not_mem_nil⟩⟩
  · exact List.forall_mem_cons.mpr ⟨va_Nw.of rfl (hts _ (by decide +kernel)), List.forall_mem_cons.mpr ⟨va_Nw.of rfl (hts _ (by decide +kernel)), List.forall_mem_cons.mpr ⟨va_Nw.of rfl (hts _ (by decide +kernel)), List.forall_mem_cons.mpr ⟨va_Nw.of rfl (hts _ (by decide +kernel)), List.forall_mem_cons.mpr ⟨va_Nw.of rfl (hts _ (by decide +kernel)), List.forall_mem_cons.mpr ⟨va_Nw.of rfl (hts _ (by decide +kernel)), List.forall_mem_cons.mpr ⟨va_Nw.of rfl (hts _ (by decide +kernel)), List.forall_mem_cons.mpr ⟨va_Nw.of rfl (hts _ (by decide +kernel)), List.forall_mem_cons.mpr ⟨va_Nw.of rfl (hts _ (by decide +kernel)), fun _ h => absurd h List.not_mem_nil⟩⟩⟩⟩⟩⟩⟩⟩⟩
theorem inv00 : Inv R00 V00 (fun _ => 0) := by
  have hb : iSl (fun _ => (-1)) (fun _ => 0) (fun _ => 0) (fun _ => 10) (fun _ => 10) (fun _ => 10) 0 := ⟨z_01 _, z_6k, ten_99, ten_99, ten_99, 0, by omega, rfl⟩
  have hz : ∀ n : Nat, ∀ j : Nat, ∃ v : Nat, v ≤ n ∧ (0 : Int32) = nI v := fun n j => ⟨0, Nat.zero_le _, rfl⟩
  refine ⟨hb, hb, hb, ⟨fun i => ⟨0, by omega, rfl⟩, Nat.zero_le _⟩, ⟨fun i hi => ?_, hz 999, fun _ => 0, fun _ => rfl, fun _ => Nat.zero_le _⟩, ⟨⟨fun _ => 0, fun _ => rfl, fun _ => Nat.lt_of_lt_of_le Nat.zero_lt_one (by decide)⟩, hz 9999, ⟨fun _ => 0, fun _ => rfl, fun _ => Nat.lt_of_lt_of_le Nat.zero_lt_one (by decide)⟩, Nat.zero_le _, Nat.zero_le _, fun j hj => absurd hj (Nat.not_lt_zero j), fun j hj => absurd hj (Nat.not_lt_zero j), 100, by omega, rfl⟩, ⟨Nat.zero_le _, fun _ => 0, fun _ => 0, fun i hi => absurd hi (Nat.not_lt_zero i)⟩, ⟨rfl, fun _ _ _ => rfl, fun h => absurd rfl h⟩, ⟨rfl, fun _ _ _ => rfl, fun h => absurd rfl h⟩⟩
  match i, hi with
  | 0, _ => exact ⟨50, by omega, rfl⟩
  | 1, _ => exact ⟨1000, by omega, rfl⟩
  | 2, _ => exact ⟨100, by omega, rfl⟩
  | 3, _ => exact ⟨2000, by omega, rfl⟩
  | 4, _ => exact ⟨120, by omega, rfl⟩
  | 5, _ => exact ⟨0, by omega, rfl⟩
theorem s00 : ∀ k, k < 163 → bg2 (fun _ => 0) 18 k = ms (fun _ => (-1)) (fun _ => 0) (fun _ => 0) (fun _ => 10) (fun _ => 10) (fun _ => 10) 0 k := by
  intro k hk
  simp only [bg2, bg1, ms]
  by_cases a : k < 48
  · rw [if_neg (by omega), if_pos a, if_pos a, if_pos a]; rfl
  by_cases b : k < 96
  · rw [if_neg (by omega), if_neg a, if_pos b, if_pos (by omega), if_neg a, if_pos b]
  by_cases c : k < 144
  · rw [if_neg (by omega), if_neg a, if_neg b, if_pos c, if_pos (by omega), if_neg a, if_neg b, if_pos c]
  by_cases d : k < 162
  · rw [if_pos ⟨by omega, by omega⟩, if_neg a, if_neg b, if_neg c]
    repeat' split
    all_goals rfl
  · rw [if_neg (by omega), if_neg a, if_neg b, if_neg c, if_neg a, if_neg b, if_neg c, if_neg (by omega), if_neg (by omega), if_neg d]
    split <;> rfl
set_option maxHeartbeats 8000000 in
set_option maxRecDepth 100000 in
/-- from the entry, for every script of at most 3072 ints, the law comes to its end with true -/
theorem whole_start {p : Program} {e : Env} {s : State} {m : MethodId} {below : List Frame} {meth : Method} {c : Code} (l : Launch) {b L : Nat} {xs : Nat → Int32} (hL : L ≤ 3072) (C0 : lw_At p s m meth c b L xs) : W p l e room_1 s m #[Value.ref b] below meth c s.heap [] 0 0 (lw_Z below #[Value.ref b] s) (entryFrame m ([Value.ref b] : List Value).toArray 4) := by
  obtain ⟨E, hE, hE1⟩ := ev_start C0
  obtain ⟨hx, hb, hr, hml, hown, hts0, hX, hbl, hlocks, hgv⟩ := id C0
  have hts : ∀ w ∈ wAll, w.before #[Value.ref b] s = true := fun w h => hts0 w (wAll_in w h)
  have hown : s.vm.findClass RL = some m.cls := hown
  have hA : ∀ q : Nat, s.heap.size ≤ q → (fun q : Nat => s.heap.size ≤ q) q := fun _ h => h
  have hbA : ¬ (fun q : Nat => s.heap.size ≤ q) b := Nat.not_le.mpr hbl
  have hlow : ∀ q : Nat, (fun q : Nat => s.heap.size ≤ q) q → E.1 ≤ q := fun _ h => by rw [hE1]; exact h
  obtain ⟨c0, iS0, hKn0⟩ := u_known (C := RX0) (T := TX0) (N := 6) (n := 6) hts inlX0 (hts (.instantiable RX0 6) k_1_14)
  obtain ⟨c1, iS1, hKn1⟩ := u_known (C := RX1) (T := TX1) (N := 7) (n := 7) hts inlX1 (hts (.instantiable RX1 7) k_2_11)
  obtain ⟨c2, iS2, hKn2⟩ := u_known (C := RX2) (T := TX2) (N := 9) (n := 9) hts inlX2 (hts (.instantiable RX2 9) k_1_18)
  obtain ⟨c3, iS3, hKn3⟩ := u_known (C := RX3) (T := TX3) (N := 11) (n := 11) hts inlX3 (hts (.instantiable RX3 11) k_2_7)
  obtain ⟨c4, iS4, hKn4⟩ := u_known (C := RX4) (T := TX4) (N := 9) (n := 9) hts inlX4 (hts (.instantiable RX4 9) k_2_15)
  obtain ⟨c5, iS5, hKn5⟩ := u_known (C := RX5) (T := TX5) (N := 5) (n := 5) hts inlX5 (hts (.instantiable RX5 5) k_2_3)
  obtain ⟨c6, iS6, hKn6⟩ := u_known (C := RX6) (T := TX6) (N := 12) (n := 12) hts inlX6 (hts (.instantiable RX6 12) k_1_1)
  obtain ⟨c7, iS7, hKn7⟩ := u_known (C := RX7) (T := TX7) (N := 38) (n := 38) hts inlX7 (hts (.instantiable RX7 38) k_1_4)
  obtain ⟨G, hKc⟩ : ∃ G : va_G, ∀ (k : Nat) (q : vw_C), vwCl[k]? = some q → u_Kn s q.1 q.2.1 q.2.2 (G.1 k) (G.2 k) := by
    refine ⟨(fun k => match k with | 0 => c0 | 1 => c1 | 2 => c2 | 3 => c3 | 4 => c4 | 5 => c5 | 6 => c6 | _ => c7, fun k => match k with | 0 => iS0 | 1 => iS1 | 2 => iS2 | 3 => iS3 | 4 => iS4 | 5 => iS5 | 6 => iS6 | _ => iS7), ?_⟩
    intro k q hq
    match k, hq with
    | 0, hq => cases hq; exact hKn0
    | 1, hq => cases hq; exact hKn1
    | 2, hq => cases hq; exact hKn2
    | 3, hq => cases hq; exact hKn3
    | 4, hq => cases hq; exact hKn4
    | 5, hq => cases hq; exact hKn5
    | 6, hq => cases hq; exact hKn6
    | 7, hq => cases hq; exact hKn7
    | k + 8, hq => simp at hq
  obtain ⟨cI, kI, compI, a1, a2, a3⟩ := Cond.arrayClass_spec (hts (.arrayClass .int) k_2_0)
  obtain ⟨cZ, kZ, compZ, b1, b2, b3⟩ := Cond.arrayClass_spec (hts (.arrayClass .boolean) k_6_4)
  have hK : va_K G vwCl [(cI, .int), (cZ, .boolean)] s := ⟨hKc, fun k q h => by
    match k, h with
    | 0, h => cases h; exact ⟨fun n z => ⟨fun k h => (by cases h), kI, a2, compI, a3⟩, a1⟩
    | 1, h => cases h; exact ⟨fun n z => ⟨fun k h => (by cases h), kZ, b2, compZ, b3⟩, b1⟩
    | k + 2, h => simp at h⟩
  have hS : va_S (fun q : Nat => s.heap.size ≤ q) s.heap s.heap [] := va_S.rf
  have hP : va_P G vwCl [] s.heap := fun k q h => by simp at h
  have hD : va_D (fun q : Nat => s.heap.size ≤ q) [] := ⟨fun i j p q h => by simp at h, fun k q h => by simp at h⟩
  have hl := lv_entry ([.ref b]) (n := 4) (Nat.le_of_ble_eq_true rfl)
  rw [lg_entry_eq]
  generalize (lg_sl ([.ref b]) ++ List.replicate (4 - (lg_sl ([.ref b])).length) Slot.unset).toArray = ls at hl ⊢
  have hl : lv_has ls 4 [(0, .ref b)] := hl
  refine va_new (ci := 6) (fs := [.null, .null, .null, .null, .null, .null, .null, .null, .null, .null, .int 0, .long 0]) (C := RX6) (T := TX6) (N := 12) hx hb hts inlX6 tyX6 tyX6_ok hown (hts (.classLink RL 7 RX6) k_1_0) (hts (.instantiable RX6 12) k_1_1) (hts (.initialized RX6) k_1_2) hK hP hD hS hA rfl dflX6 (Nat.le_of_ble_eq_true rfl) (Nat.le_of_ble_eq_true rfl) dL_law_0 (fun qx H hP hD hS => ?_)
  have hP : va_P G vwCl [(qx, .inr (6, [.null, .null, .null, .null, .null, .null, .null, .null, .null, .null, .int 0, .long 0]))] H := hP
  have hD : va_D (fun q : Nat => s.heap.size ≤ q) [(qx, .inr (6, [.null, .null, .null, .null, .null, .null, .null, .null, .null, .null, .int 0, .long 0]))] := hD
  refine lv_dup hx hb dL_law_3 rfl ?_
  refine cNI (rest := [.ref qx]) hx hb hml hown hts (c_X6_init l G E cI cZ qx) k_1_7 cal_X6_init ⟨(Nat.le_of_ble_eq_true rfl), (Nat.le_of_ble_eq_true rfl)⟩ hE hA hlow hD hS hK [0, 1] rfl hP [0] rfl (by decide) [] [] rfl (by decide) (by decide) hl.1 rfl (Nat.le_of_ble_eq_true rfl) dL_law_4 ⟨(Nat.le_of_ble_eq_true rfl), (Nat.le_of_ble_eq_true rfl)⟩ (fun ux H locs hP hD hS => ?_)
  have hP : va_P G vwCl (wX cI cZ (fun i => ([qx, ux.1, ux.2.1, ux.2.2.1, ux.2.2.2.1, ux.2.2.2.2.1, ux.2.2.2.2.2.1, ux.2.2.2.2.2.2.1, ux.2.2.2.2.2.2.2.1, ux.2.2.2.2.2.2.2.2.1, ux.2.2.2.2.2.2.2.2.2.1, ux.2.2.2.2.2.2.2.2.2.2.1, ux.2.2.2.2.2.2.2.2.2.2.2.1, ux.2.2.2.2.2.2.2.2.2.2.2.2.1, ux.2.2.2.2.2.2.2.2.2.2.2.2.2.1, ux.2.2.2.2.2.2.2.2.2.2.2.2.2.2.1, ux.2.2.2.2.2.2.2.2.2.2.2.2.2.2.2.1, ux.2.2.2.2.2.2.2.2.2.2.2.2.2.2.2.2.1, ux.2.2.2.2.2.2.2.2.2.2.2.2.2.2.2.2.2.1, ux.2.2.2.2.2.2.2.2.2.2.2.2.2.2.2.2.2.2.1, ux.2.2.2.2.2.2.2.2.2.2.2.2.2.2.2.2.2.2.2.1, ux.2.2.2.2.2.2.2.2.2.2.2.2.2.2.2.2.2.2.2.2.1, ux.2.2.2.2.2.2.2.2.2.2.2.2.2.2.2.2.2.2.2.2.2.1, ux.2.2.2.2.2.2.2.2.2.2.2.2.2.2.2.2.2.2.2.2.2.2.1, ux.2.2.2.2.2.2.2.2.2.2.2.2.2.2.2.2.2.2.2.2.2.2.2.1, ux.2.2.2.2.2.2.2.2.2.2.2.2.2.2.2.2.2.2.2.2.2.2.2.2.1, ux.2.2.2.2.2.2.2.2.2.2.2.2.2.2.2.2.2.2.2.2.2.2.2.2.2.1, ux.2.2.2.2.2.2.2.2.2.2.2.2.2.2.2.2.2.2.2.2.2.2.2.2.2.2.1, ux.2.2.2.2.2.2.2.2.2.2.2.2.2.2.2.2.2.2.2.2.2.2.2.2.2.2.2.1, ux.2.2.2.2.2.2.2.2.2.2.2.2.2.2.2.2.2.2.2.2.2.2.2.2.2.2.2.2.1, ux.2.2.2.2.2.2.2.2.2.2.2.2.2.2.2.2.2.2.2.2.2.2.2.2.2.2.2.2.2.1, ux.2.2.2.2.2.2.2.2.2.2.2.2.2.2.2.2.2.2.2.2.2.2.2.2.2.2.2.2.2.2.1, ux.2.2.2.2.2.2.2.2.2.2.2.2.2.2.2.2.2.2.2.2.2.2.2.2.2.2.2.2.2.2.2.1, ux.2.2.2.2.2.2.2.2.2.2.2.2.2.2.2.2.2.2.2.2.2.2.2.2.2.2.2.2.2.2.2.2.1, ux.2.2.2.2.2.2.2.2.2.2.2.2.2.2.2.2.2.2.2.2.2.2.2.2.2.2.2.2.2.2.2.2.2.1, ux.2.2.2.2.2.2.2.2.2.2.2.2.2.2.2.2.2.2.2.2.2.2.2.2.2.2.2.2.2.2.2.2.2.2.1, ux.2.2.2.2.2.2.2.2.2.2.2.2.2.2.2.2.2.2.2.2.2.2.2.2.2.2.2.2.2.2.2.2.2.2.2.1, ux.2.2.2.2.2.2.2.2.2.2.2.2.2.2.2.2.2.2.2.2.2.2.2.2.2.2.2.2.2.2.2.2.2.2.2.2.1, ux.2.2.2.2.2.2.2.2.2.2.2.2.2.2.2.2.2.2.2.2.2.2.2.2.2.2.2.2.2.2.2.2.2.2.2.2.2.1, ux.2.2.2.2.2.2.2.2.2.2.2.2.2.2.2.2.2.2.2.2.2.2.2.2.2.2.2.2.2.2.2.2.2.2.2.2.2.2.1, ux.2.2.2.2.2.2.2.2.2.2.2.2.2.2.2.2.2.2.2.2.2.2.2.2.2.2.2.2.2.2.2.2.2.2.2.2.2.2.2.1, ux.2.2.2.2.2.2.2.2.2.2.2.2.2.2.2.2.2.2.2.2.2.2.2.2.2.2.2.2.2.2.2.2.2.2.2.2.2.2.2.2.1, ux.2.2.2.2.2.2.2.2.2.2.2.2.2.2.2.2.2.2.2.2.2.2.2.2.2.2.2.2.2.2.2.2.2.2.2.2.2.2.2.2.2.1, ux.2.2.2.2.2.2.2.2.2.2.2.2.2.2.2.2.2.2.2.2.2.2.2.2.2.2.2.2.2.2.2.2.2.2.2.2.2.2.2.2.2.2.1, ux.2.2.2.2.2.2.2.2.2.2.2.2.2.2.2.2.2.2.2.2.2.2.2.2.2.2.2.2.2.2.2.2.2.2.2.2.2.2.2.2.2.2.2.1, ux.2.2.2.2.2.2.2.2.2.2.2.2.2.2.2.2.2.2.2.2.2.2.2.2.2.2.2.2.2.2.2.2.2.2.2.2.2.2.2.2.2.2.2.2.1, ux.2.2.2.2.2.2.2.2.2.2.2.2.2.2.2.2.2.2.2.2.2.2.2.2.2.2.2.2.2.2.2.2.2.2.2.2.2.2.2.2.2.2.2.2.2.1, ux.2.2.2.2.2.2.2.2.2.2.2.2.2.2.2.2.2.2.2.2.2.2.2.2.2.2.2.2.2.2.2.2.2.2.2.2.2.2.2.2.2.2.2.2.2.2.1, ux.2.2.2.2.2.2.2.2.2.2.2.2.2.2.2.2.2.2.2.2.2.2.2.2.2.2.2.2.2.2.2.2.2.2.2.2.2.2.2.2.2.2.2.2.2.2.2.1, ux.2.2.2.2.2.2.2.2.2.2.2.2.2.2.2.2.2.2.2.2.2.2.2.2.2.2.2.2.2.2.2.2.2.2.2.2.2.2.2.2.2.2.2.2.2.2.2.2.1, ux.2.2.2.2.2.2.2.2.2.2.2.2.2.2.2.2.2.2.2.2.2.2.2.2.2.2.2.2.2.2.2.2.2.2.2.2.2.2.2.2.2.2.2.2.2.2.2.2.2.1, ux.2.2.2.2.2.2.2.2.2.2.2.2.2.2.2.2.2.2.2.2.2.2.2.2.2.2.2.2.2.2.2.2.2.2.2.2.2.2.2.2.2.2.2.2.2.2.2.2.2.2.1, ux.2.2.2.2.2.2.2.2.2.2.2.2.2.2.2.2.2.2.2.2.2.2.2.2.2.2.2.2.2.2.2.2.2.2.2.2.2.2.2.2.2.2.2.2.2.2.2.2.2.2.2.1, ux.2.2.2.2.2.2.2.2.2.2.2.2.2.2.2.2.2.2.2.2.2.2.2.2.2.2.2.2.2.2.2.2.2.2.2.2.2.2.2.2.2.2.2.2.2.2.2.2.2.2.2.2.1, ux.2.2.2.2.2.2.2.2.2.2.2.2.2.2.2.2.2.2.2.2.2.2.2.2.2.2.2.2.2.2.2.2.2.2.2.2.2.2.2.2.2.2.2.2.2.2.2.2.2.2.2.2.2.1, ux.2.2.2.2.2.2.2.2.2.2.2.2.2.2.2.2.2.2.2.2.2.2.2.2.2.2.2.2.2.2.2.2.2.2.2.2.2.2.2.2.2.2.2.2.2.2.2.2.2.2.2.2.2.2.1, ux.2.2.2.2.2.2.2.2.2.2.2.2.2.2.2.2.2.2.2.2.2.2.2.2.2.2.2.2.2.2.2.2.2.2.2.2.2.2.2.2.2.2.2.2.2.2.2.2.2.2.2.2.2.2.2.1, ux.2.2.2.2.2.2.2.2.2.2.2.2.2.2.2.2.2.2.2.2.2.2.2.2.2.2.2.2.2.2.2.2.2.2.2.2.2.2.2.2.2.2.2.2.2.2.2.2.2.2.2.2.2.2.2.2.1, ux.2.2.2.2.2.2.2.2.2.2.2.2.2.2.2.2.2.2.2.2.2.2.2.2.2.2.2.2.2.2.2.2.2.2.2.2.2.2.2.2.2.2.2.2.2.2.2.2.2.2.2.2.2.2.2.2.2.1, ux.2.2.2.2.2.2.2.2.2.2.2.2.2.2.2.2.2.2.2.2.2.2.2.2.2.2.2.2.2.2.2.2.2.2.2.2.2.2.2.2.2.2.2.2.2.2.2.2.2.2.2.2.2.2.2.2.2.2.1, ux.2.2.2.2.2.2.2.2.2.2.2.2.2.2.2.2.2.2.2.2.2.2.2.2.2.2.2.2.2.2.2.2.2.2.2.2.2.2.2.2.2.2.2.2.2.2.2.2.2.2.2.2.2.2.2.2.2.2.2.1, ux.2.2.2.2.2.2.2.2.2.2.2.2.2.2.2.2.2.2.2.2.2.2.2.2.2.2.2.2.2.2.2.2.2.2.2.2.2.2.2.2.2.2.2.2.2.2.2.2.2.2.2.2.2.2.2.2.2.2.2.2] : List Nat).getD i 0) R00 V00 (fun _ => 0) 0 sc00 (fun _ => 0) false) H := hP
  have hD : va_D (fun q : Nat => s.heap.size ≤ q) (wX cI cZ (fun i => ([qx, ux.1, ux.2.1, ux.2.2.1, ux.2.2.2.1, ux.2.2.2.2.1, ux.2.2.2.2.2.1, ux.2.2.2.2.2.2.1, ux.2.2.2.2.2.2.2.1, ux.2.2.2.2.2.2.2.2.1, ux.2.2.2.2.2.2.2.2.2.1, ux.2.2.2.2.2.2.2.2.2.2.1, ux.2.2.2.2.2.2.2.2.2.2.2.1, ux.2.2.2.2.2.2.2.2.2.2.2.2.1, ux.2.2.2.2.2.2.2.2.2.2.2.2.2.1, ux.2.2.2.2.2.2.2.2.2.2.2.2.2.2.1, ux.2.2.2.2.2.2.2.2.2.2.2.2.2.2.2.1, ux.2.2.2.2.2.2.2.2.2.2.2.2.2.2.2.2.1, ux.2.2.2.2.2.2.2.2.2.2.2.2.2.2.2.2.2.1, ux.2.2.2.2.2.2.2.2.2.2.2.2.2.2.2.2.2.2.1, ux.2.2.2.2.2.2.2.2.2.2.2.2.2.2.2.2.2.2.2.1, ux.2.2.2.2.2.2.2.2.2.2.2.2.2.2.2.2.2.2.2.2.1, ux.2.2.2.2.2.2.2.2.2.2.2.2.2.2.2.2.2.2.2.2.2.1, ux.2.2.2.2.2.2.2.2.2.2.2.2.2.2.2.2.2.2.2.2.2.2.1, ux.2.2.2.2.2.2.2.2.2.2.2.2.2.2.2.2.2.2.2.2.2.2.2.1, ux.2.2.2.2.2.2.2.2.2.2.2.2.2.2.2.2.2.2.2.2.2.2.2.2.1, ux.2.2.2.2.2.2.2.2.2.2.2.2.2.2.2.2.2.2.2.2.2.2.2.2.2.1, ux.2.2.2.2.2.2.2.2.2.2.2.2.2.2.2.2.2.2.2.2.2.2.2.2.2.2.1, ux.2.2.2.2.2.2.2.2.2.2.2.2.2.2.2.2.2.2.2.2.2.2.2.2.2.2.2.1, ux.2.2.2.2.2.2.2.2.2.2.2.2.2.2.2.2.2.2.2.2.2.2.2.2.2.2.2.2.1, ux.2.2.2.2.2.2.2.2.2.2.2.2.2.2.2.2.2.2.2.2.2.2.2.2.2.2.2.2.2.1, ux.2.2.2.2.2.2.2.2.2.2.2.2.2.2.2.2.2.2.2.2.2.2.2.2.2.2.2.2.2.2.1, ux.2.2.2.2.2.2.2.2.2.2.2.2.2.2.2.2.2.2.2.2.2.2.2.2.2.2.2.2.2.2.2.1, ux.2.2.2.2.2.2.2.2.2.2.2.2.2.2.2.2.2.2.2.2.2.2.2.2.2.2.2.2.2.2.2.2.1, ux.2.2.2.2.2.2.2.2.2.2.2.2.2.2.2.2.2.2.2.2.2.2.2.2.2.2.2.2.2.2.2.2.2.1, ux.2.2.2.2.2.2.2.2.2.2.2.2.2.2.2.2.2.2.2.2.2.2.2.2.2.2.2.2.2.2.2.2.2.2.1, ux.2.2.2.2.2.2.2.2.2.2.2.2.2.2.2.2.2.2.2.2.2.2.2.2.2.2.2.2.2.2.2.2.2.2.2.1, ux.2.2.2.2.2.2.2.2.2.2.2.2.2.2.2.2.2.2.2.2.2.2.2.2.2.2.2.2.2.2.2.2.2.2.2.2.1, ux.2.2.2.2.2.2.2.2.2.2.2.2.2.2.2.2.2.2.2.2.2.2.2.2.2.2.2.2.2.2.2.2.2.2.2.2.2.1, ux.2.2.2.2.2.2.2.2.2.2.2.2.2.2.2.2.2.2.2.2.2.2.2.2.2.2.2.2.2.2.2.2.2.2.2.2.2.2.1, ux.2.2.2.2.2.2.2.2.2.2.2.2.2.2.2.2.2.2.2.2.2.2.2.2.2.2.2.2.2.2.2.2.2.2.2.2.2.2.2.1, ux.2.2.2.2.2.2.2.2.2.2.2.2.2.2.2.2.2.2.2.2.2.2.2.2.2.2.2.2.2.2.2.2.2.2.2.2.2.2.2.2.1, ux.2.2.2.2.2.2.2.2.2.2.2.2.2.2.2.2.2.2.2.2.2.2.2.2.2.2.2.2.2.2.2.2.2.2.2.2.2.2.2.2.2.1, ux.2.2.2.2.2.2.2.2.2.2.2.2.2.2.2.2.2.2.2.2.2.2.2.2.2.2.2.2.2.2.2.2.2.2.2.2.2.2.2.2.2.2.1, ux.2.2.2.2.2.2.2.2.2.2.2.2.2.2.2.2.2.2.2.2.2.2.2.2.2.2.2.2.2.2.2.2.2.2.2.2.2.2.2.2.2.2.2.1, ux.2.2.2.2.2.2.2.2.2.2.2.2.2.2.2.2.2.2.2.2.2.2.2.2.2.2.2.2.2.2.2.2.2.2.2.2.2.2.2.2.2.2.2.2.1, ux.2.2.2.2.2.2.2.2.2.2.2.2.2.2.2.2.2.2.2.2.2.2.2.2.2.2.2.2.2.2.2.2.2.2.2.2.2.2.2.2.2.2.2.2.2.1, ux.2.2.2.2.2.2.2.2.2.2.2.2.2.2.2.2.2.2.2.2.2.2.2.2.2.2.2.2.2.2.2.2.2.2.2.2.2.2.2.2.2.2.2.2.2.2.1, ux.2.2.2.2.2.2.2.2.2.2.2.2.2.2.2.2.2.2.2.2.2.2.2.2.2.2.2.2.2.2.2.2.2.2.2.2.2.2.2.2.2.2.2.2.2.2.2.1, ux.2.2.2.2.2.2.2.2.2.2.2.2.2.2.2.2.2.2.2.2.2.2.2.2.2.2.2.2.2.2.2.2.2.2.2.2.2.2.2.2.2.2.2.2.2.2.2.2.1, ux.2.2.2.2.2.2.2.2.2.2.2.2.2.2.2.2.2.2.2.2.2.2.2.2.2.2.2.2.2.2.2.2.2.2.2.2.2.2.2.2.2.2.2.2.2.2.2.2.2.1, ux.2.2.2.2.2.2.2.2.2.2.2.2.2.2.2.2.2.2.2.2.2.2.2.2.2.2.2.2.2.2.2.2.2.2.2.2.2.2.2.2.2.2.2.2.2.2.2.2.2.2.1, ux.2.2.2.2.2.2.2.2.2.2.2.2.2.2.2.2.2.2.2.2.2.2.2.2.2.2.2.2.2.2.2.2.2.2.2.2.2.2.2.2.2.2.2.2.2.2.2.2.2.2.2.1, ux.2.2.2.2.2.2.2.2.2.2.2.2.2.2.2.2.2.2.2.2.2.2.2.2.2.2.2.2.2.2.2.2.2.2.2.2.2.2.2.2.2.2.2.2.2.2.2.2.2.2.2.2.1, ux.2.2.2.2.2.2.2.2.2.2.2.2.2.2.2.2.2.2.2.2.2.2.2.2.2.2.2.2.2.2.2.2.2.2.2.2.2.2.2.2.2.2.2.2.2.2.2.2.2.2.2.2.2.1, ux.2.2.2.2.2.2.2.2.2.2.2.2.2.2.2.2.2.2.2.2.2.2.2.2.2.2.2.2.2.2.2.2.2.2.2.2.2.2.2.2.2.2.2.2.2.2.2.2.2.2.2.2.2.2.1, ux.2.2.2.2.2.2.2.2.2.2.2.2.2.2.2.2.2.2.2.2.2.2.2.2.2.2.2.2.2.2.2.2.2.2.2.2.2.2.2.2.2.2.2.2.2.2.2.2.2.2.2.2.2.2.2.1, ux.2.2.2.2.2.2.2.2.2.2.2.2.2.2.2.2.2.2.2.2.2.2.2.2.2.2.2.2.2.2.2.2.2.2.2.2.2.2.2.2.2.2.2.2.2.2.2.2.2.2.2.2.2.2.2.2.1, ux.2.2.2.2.2.2.2.2.2.2.2.2.2.2.2.2.2.2.2.2.2.2.2.2.2.2.2.2.2.2.2.2.2.2.2.2.2.2.2.2.2.2.2.2.2.2.2.2.2.2.2.2.2.2.2.2.2.1, ux.2.2.2.2.2.2.2.2.2.2.2.2.2.2.2.2.2.2.2.2.2.2.2.2.2.2.2.2.2.2.2.2.2.2.2.2.2.2.2.2.2.2.2.2.2.2.2.2.2.2.2.2.2.2.2.2.2.2.1, ux.2.2.2.2.2.2.2.2.2.2.2.2.2.2.2.2.2.2.2.2.2.2.2.2.2.2.2.2.2.2.2.2.2.2.2.2.2.2.2.2.2.2.2.2.2.2.2.2.2.2.2.2.2.2.2.2.2.2.2.1, ux.2.2.2.2.2.2.2.2.2.2.2.2.2.2.2.2.2.2.2.2.2.2.2.2.2.2.2.2.2.2.2.2.2.2.2.2.2.2.2.2.2.2.2.2.2.2.2.2.2.2.2.2.2.2.2.2.2.2.2.2] : List Nat).getD i 0) R00 V00 (fun _ => 0) 0 sc00 (fun _ => 0) false) := hD
  generalize hadx : (fun i => ([qx, ux.1, ux.2.1, ux.2.2.1, ux.2.2.2.1, ux.2.2.2.2.1, ux.2.2.2.2.2.1, ux.2.2.2.2.2.2.1, ux.2.2.2.2.2.2.2.1, ux.2.2.2.2.2.2.2.2.1, ux.2.2.2.2.2.2.2.2.2.1, ux.2.2.2.2.2.2.2.2.2.2.1, ux.2.2.2.2.2.2.2.2.2.2.2.1, ux.2.2.2.2.2.2.2.2.2.2.2.2.1, ux.2.2.2.2.2.2.2.2.2.2.2.2.2.1, ux.2.2.2.2.2.2.2.2.2.2.2.2.2.2.1, ux.2.2.2.2.2.2.2.2.2.2.2.2.2.2.2.1, ux.2.2.2.2.2.2.2.2.2.2.2.2.2.2.2.2.1, ux.2.2.2.2.2.2.2.2.2.2.2.2.2.2.2.2.2.1, ux.2.2.2.2.2.2.2.2.2.2.2.2.2.2.2.2.2.2.1, ux.2.2.2.2.2.2.2.2.2.2.2.2.2.2.2.2.2.2.2.1, ux.2.2.2.2.2.2.2.2.2.2.2.2.2.2.2.2.2.2.2.2.1, ux.2.2.2.2.2.2.2.2.2.2.2.2.2.2.2.2.2.2.2.2.2.1, ux.2.2.2.2.2.2.2.2.2.2.2.2.2.2.2.2.2.2.2.2.2.2.1, ux.2.2.2.2.2.2.2.2.2.2.2.2.2.2.2.2.2.2.2.2.2.2.2.1, ux.2.2.2.2.2.2.2.2.2.2.2.2.2.2.2.2.2.2.2.2.2.2.2.2.1, ux.2.2.2.2.2.2.2.2.2.2.2.2.2.2.2.2.2.2.2.2.2.2.2.2.2.1, ux.2.2.2.2.2.2.2.2.2.2.2.2.2.2.2.2.2.2.2.2.2.2.2.2.2.2.1, ux.2.2.2.2.2.2.2.2.2.2.2.2.2.2.2.2.2.2.2.2.2.2.2.2.2.2.2.1, ux.2.2.2.2.2.2.2.2.2.2.2.2.2.2.2.2.2.2.2.2.2.2.2.2.2.2.2.2.1, ux.2.2.2.2.2.2.2.2.2.2.2.2.2.2.2.2.2.2.2.2.2.2.2.2.2.2.2.2.2.1, ux.2.2.2.2.2.2.2.2.2.2.2.2.2.2.2.2.2.2.2.2.2.2.2.2.2.2.2.2.2.2.1, ux.2.2.2.2.2.2.2.2.2.2.2.2.2.2.2.2.2.2.2.2.2.2.2.2.2.2.2.2.2.2.2.1, ux.2.2.2.2.2.2.2.2.2.2.2.2.2.2.2.2.2.2.2.2.2.2.2.2.2.2.2.2.2.2.2.2.1, ux.2.2.2.2.2.2.2.2.2.2.2.2.2.2.2.2.2.2.2.2.2.2.2.2.2.2.2.2.2.2.2.2.2.1, ux.2.2.2.2.2.2.2.2.2.2.2.2.2.2.2.2.2.2.2.2.2.2.2.2.2.2.2.2.2.2.2.2.2.2.1, ux.2.2.2.2.2.2.2.2.2.2.2.2.2.2.2.2.2.2.2.2.2.2.2.2.2.2.2.2.2.2.2.2.2.2.2.1, ux.2.2.2.2.2.2.2.2.2.2.2.2.2.2.2.2.2.2.2.2.2.2.2.2.2.2.2.2.2.2.2.2.2.2.2.2.1, ux.2.2.2.2.2.2.2.2.2.2.2.2.2.2.2.2.2.2.2.2.2.2.2.2.2.2.2.2.2.2.2.2.2.2.2.2.2.1, ux.2.2.2.2.2.2.2.2.2.2.2.2.2.2.2.2.2.2.2.2.2.2.2.2.2.2.2.2.2.2.2.2.2.2.2.2.2.2.1, ux.2.2.2.2.2.2.2.2.2.2.2.2.2.2.2.2.2.2.2.2.2.2.2.2.2.2.2.2.2.2.2.2.2.2.2.2.2.2.2.1, ux.2.2.2.2.2.2.2.2.2.2.2.2.2.2.2.2.2.2.2.2.2.2.2.2.2.2.2.2.2.2.2.2.2.2.2.2.2.2.2.2.1, ux.2.2.2.2.2.2.2.2.2.2.2.2.2.2.2.2.2.2.2.2.2.2.2.2.2.2.2.2.2.2.2.2.2.2.2.2.2.2.2.2.2.1, ux.2.2.2.2.2.2.2.2.2.2.2.2.2.2.2.2.2.2.2.2.2.2.2.2.2.2.2.2.2.2.2.2.2.2.2.2.2.2.2.2.2.2.1, ux.2.2.2.2.2.2.2.2.2.2.2.2.2.2.2.2.2.2.2.2.2.2.2.2.2.2.2.2.2.2.2.2.2.2.2.2.2.2.2.2.2.2.2.1, ux.2.2.2.2.2.2.2.2.2.2.2.2.2.2.2.2.2.2.2.2.2.2.2.2.2.2.2.2.2.2.2.2.2.2.2.2.2.2.2.2.2.2.2.2.1, ux.2.2.2.2.2.2.2.2.2.2.2.2.2.2.2.2.2.2.2.2.2.2.2.2.2.2.2.2.2.2.2.2.2.2.2.2.2.2.2.2.2.2.2.2.2.1, ux.2.2.2.2.2.2.2.2.2.2.2.2.2.2.2.2.2.2.2.2.2.2.2.2.2.2.2.2.2.2.2.2.2.2.2.2.2.2.2.2.2.2.2.2.2.2.1, ux.2.2.2.2.2.2.2.2.2.2.2.2.2.2.2.2.2.2.2.2.2.2.2.2.2.2.2.2.2.2.2.2.2.2.2.2.2.2.2.2.2.2.2.2.2.2.2.1, ux.2.2.2.2.2.2.2.2.2.2.2.2.2.2.2.2.2.2.2.2.2.2.2.2.2.2.2.2.2.2.2.2.2.2.2.2.2.2.2.2.2.2.2.2.2.2.2.2.1, ux.2.2.2.2.2.2.2.2.2.2.2.2.2.2.2.2.2.2.2.2.2.2.2.2.2.2.2.2.2.2.2.2.2.2.2.2.2.2.2.2.2.2.2.2.2.2.2.2.2.1, ux.2.2.2.2.2.2.2.2.2.2.2.2.2.2.2.2.2.2.2.2.2.2.2.2.2.2.2.2.2.2.2.2.2.2.2.2.2.2.2.2.2.2.2.2.2.2.2.2.2.2.1, ux.2.2.2.2.2.2.2.2.2.2.2.2.2.2.2.2.2.2.2.2.2.2.2.2.2.2.2.2.2.2.2.2.2.2.2.2.2.2.2.2.2.2.2.2.2.2.2.2.2.2.2.1, ux.2.2.2.2.2.2.2.2.2.2.2.2.2.2.2.2.2.2.2.2.2.2.2.2.2.2.2.2.2.2.2.2.2.2.2.2.2.2.2.2.2.2.2.2.2.2.2.2.2.2.2.2.1, ux.2.2.2.2.2.2.2.2.2.2.2.2.2.2.2.2.2.2.2.2.2.2.2.2.2.2.2.2.2.2.2.2.2.2.2.2.2.2.2.2.2.2.2.2.2.2.2.2.2.2.2.2.2.1, ux.2.2.2.2.2.2.2.2.2.2.2.2.2.2.2.2.2.2.2.2.2.2.2.2.2.2.2.2.2.2.2.2.2.2.2.2.2.2.2.2.2.2.2.2.2.2.2.2.2.2.2.2.2.2.1, ux.2.2.2.2.2.2.2.2.2.2.2.2.2.2.2.2.2.2.2.2.2.2.2.2.2.2.2.2.2.2.2.2.2.2.2.2.2.2.2.2.2.2.2.2.2.2.2.2.2.2.2.2.2.2.2.1, ux.2.2.2.2.2.2.2.2.2.2.2.2.2.2.2.2.2.2.2.2.2.2.2.2.2.2.2.2.2.2.2.2.2.2.2.2.2.2.2.2.2.2.2.2.2.2.2.2.2.2.2.2.2.2.2.2.1, ux.2.2.2.2.2.2.2.2.2.2.2.2.2.2.2.2.2.2.2.2.2.2.2.2.2.2.2.2.2.2.2.2.2.2.2.2.2.2.2.2.2.2.2.2.2.2.2.2.2.2.2.2.2.2.2.2.2.1, ux.2.2.2.2.2.2.2.2.2.2.2.2.2.2.2.2.2.2.2.2.2.2.2.2.2.2.2.2.2.2.2.2.2.2.2.2.2.2.2.2.2.2.2.2.2.2.2.2.2.2.2.2.2.2.2.2.2.2.1, ux.2.2.2.2.2.2.2.2.2.2.2.2.2.2.2.2.2.2.2.2.2.2.2.2.2.2.2.2.2.2.2.2.2.2.2.2.2.2.2.2.2.2.2.2.2.2.2.2.2.2.2.2.2.2.2.2.2.2.2.1, ux.2.2.2.2.2.2.2.2.2.2.2.2.2.2.2.2.2.2.2.2.2.2.2.2.2.2.2.2.2.2.2.2.2.2.2.2.2.2.2.2.2.2.2.2.2.2.2.2.2.2.2.2.2.2.2.2.2.2.2.2] : List Nat).getD i 0) = ad at hP hD
  have had0 : ad 0 = qx := by rw [← hadx]; rfl
  refine lv_astore_n (lv' := [(1, .ref qx), (0, .ref b)]) hx hb dL_law_7 rfl hl (by decide) rfl (fun ls hl => ?_)
  refine va_new (ci := 7) (fs := [.int 0, .long 0, .null, .null, .null, .null, .null, .null, .int 0, .int 0, .int 0, .int 0, .int 0, .int 0, .int 0, .null, .null, .int 0, .int 0, .int 0, .null, .null, .null, .null, .null, .int 0, .null, .int 0, .null, .int 0, .null, .null, .int 0, .null, .int 0, .int 0, .int 0, .int 0]) (C := RX7) (T := TX7) (N := 38) hx hb hts inlX7 tyX7 tyX7_ok hown (hts (.classLink RL 10 RX7) k_1_3) (hts (.instantiable RX7 38) k_1_4) (hts (.initialized RX7) k_1_5) hK hP hD hS hA rfl dflX7 (Nat.le_of_ble_eq_true rfl) (Nat.le_of_ble_eq_true rfl) dL_law_8 (fun qm H hP hD hS => ?_)
  refine lv_dup hx hb dL_law_11 rfl ?_
  refine cNI (rest := [.ref qm]) hx hb hml hown hts (c_X7_init l G E cI cZ qm) k_5_22 cal_X7_init ⟨(Nat.le_of_ble_eq_true rfl), (Nat.le_of_ble_eq_true rfl)⟩ hE hA hlow hD hS hK [0, 1] rfl hP [62] rfl (by decide) (List.range 62) (wX cI cZ ad R00 V00 (fun _ => 0) 0 sc00 (fun _ => 0) false) rfl (by decide) (by decide) hl.1 rfl (Nat.le_of_ble_eq_true rfl) dL_law_12 ⟨(Nat.le_of_ble_eq_true rfl), (Nat.le_of_ble_eq_true rfl)⟩ (fun um H locs hP hD hS => ?_)
  have hP : va_P G vwCl (wX cI cZ ad R00 V00 (fun _ => 0) 0 sc00 (fun _ => 0) false ++ wMs cI cZ (fun i => ([qm, um.1, um.2.1, um.2.2.1, um.2.2.2.1, um.2.2.2.2.1, um.2.2.2.2.2.1, um.2.2.2.2.2.2.1, um.2.2.2.2.2.2.2.1, um.2.2.2.2.2.2.2.2.1, um.2.2.2.2.2.2.2.2.2.1, um.2.2.2.2.2.2.2.2.2.2.1, um.2.2.2.2.2.2.2.2.2.2.2.1, um.2.2.2.2.2.2.2.2.2.2.2.2.1, um.2.2.2.2.2.2.2.2.2.2.2.2.2.1, um.2.2.2.2.2.2.2.2.2.2.2.2.2.2.1, um.2.2.2.2.2.2.2.2.2.2.2.2.2.2.2.1, um.2.2.2.2.2.2.2.2.2.2.2.2.2.2.2.2.1, um.2.2.2.2.2.2.2.2.2.2.2.2.2.2.2.2.2] : List Nat).getD i 0) (bg2 (fun _ => 0) 18) (upr R00 20 (upd (upd (upd (upd (upd (fun _ => 0) 0 50) 1 1000) 2 100) 3 2000) 4 120)) V00 (fun _ => 0) 0 (fun _ _ => 0) (fun _ => 0)) H := hP
  have hD : va_D (fun q : Nat => s.heap.size ≤ q) (wX cI cZ ad R00 V00 (fun _ => 0) 0 sc00 (fun _ => 0) false ++ wMs cI cZ (fun i => ([qm, um.1, um.2.1, um.2.2.1, um.2.2.2.1, um.2.2.2.2.1, um.2.2.2.2.2.1, um.2.2.2.2.2.2.1, um.2.2.2.2.2.2.2.1, um.2.2.2.2.2.2.2.2.1, um.2.2.2.2.2.2.2.2.2.1, um.2.2.2.2.2.2.2.2.2.2.1, um.2.2.2.2.2.2.2.2.2.2.2.1, um.2.2.2.2.2.2.2.2.2.2.2.2.1, um.2.2.2.2.2.2.2.2.2.2.2.2.2.1, um.2.2.2.2.2.2.2.2.2.2.2.2.2.2.1, um.2.2.2.2.2.2.2.2.2.2.2.2.2.2.2.1, um.2.2.2.2.2.2.2.2.2.2.2.2.2.2.2.2.1, um.2.2.2.2.2.2.2.2.2.2.2.2.2.2.2.2.2] : List Nat).getD i 0) (bg2 (fun _ => 0) 18) (upr R00 20 (upd (upd (upd (upd (upd (fun _ => 0) 0 50) 1 1000) 2 100) 3 2000) 4 120)) V00 (fun _ => 0) 0 (fun _ _ => 0) (fun _ => 0)) := hD
  have hPm : va_P G vwCl (wMs cI cZ (fun i => ([qm, um.1, um.2.1, um.2.2.1, um.2.2.2.1, um.2.2.2.2.1, um.2.2.2.2.2.1, um.2.2.2.2.2.2.1, um.2.2.2.2.2.2.2.1, um.2.2.2.2.2.2.2.2.1, um.2.2.2.2.2.2.2.2.2.1, um.2.2.2.2.2.2.2.2.2.2.1, um.2.2.2.2.2.2.2.2.2.2.2.1, um.2.2.2.2.2.2.2.2.2.2.2.2.1, um.2.2.2.2.2.2.2.2.2.2.2.2.2.1, um.2.2.2.2.2.2.2.2.2.2.2.2.2.2.1, um.2.2.2.2.2.2.2.2.2.2.2.2.2.2.2.1, um.2.2.2.2.2.2.2.2.2.2.2.2.2.2.2.2.1, um.2.2.2.2.2.2.2.2.2.2.2.2.2.2.2.2.2] : List Nat).getD i 0) (bg2 (fun _ => 0) 18) R00 V00 (fun _ => 0) 0 (fun _ _ => 0) (fun _ => 0)) H := P_swap (P_r hP) 11 (R00 20) rfl (fun k hk => by
    match k, hk with
    | 0, _ => rfl
    | 1, _ => rfl
    | 2, _ => rfl
    | 3, _ => rfl
    | 4, _ => rfl
    | 5, _ => rfl
    )
  have hPm : va_P G vwCl (wM cI cZ (fun i => ([qm, um.1, um.2.1, um.2.2.1, um.2.2.2.1, um.2.2.2.2.1, um.2.2.2.2.2.1, um.2.2.2.2.2.2.1, um.2.2.2.2.2.2.2.1, um.2.2.2.2.2.2.2.2.1, um.2.2.2.2.2.2.2.2.2.1, um.2.2.2.2.2.2.2.2.2.2.1, um.2.2.2.2.2.2.2.2.2.2.2.1, um.2.2.2.2.2.2.2.2.2.2.2.2.1, um.2.2.2.2.2.2.2.2.2.2.2.2.2.1, um.2.2.2.2.2.2.2.2.2.2.2.2.2.2.1, um.2.2.2.2.2.2.2.2.2.2.2.2.2.2.2.1, um.2.2.2.2.2.2.2.2.2.2.2.2.2.2.2.2.1, um.2.2.2.2.2.2.2.2.2.2.2.2.2.2.2.2.2] : List Nat).getD i 0) R00 V00 (fun _ => 0) 0 (fun _ _ => 0) (fun _ => 0)) H := wM_swap s00 hPm
  have hP : va_P G vwCl (wX cI cZ ad R00 V00 (fun _ => 0) 0 sc00 (fun _ => 0) false ++ wM cI cZ (fun i => ([qm, um.1, um.2.1, um.2.2.1, um.2.2.2.1, um.2.2.2.2.1, um.2.2.2.2.2.1, um.2.2.2.2.2.2.1, um.2.2.2.2.2.2.2.1, um.2.2.2.2.2.2.2.2.1, um.2.2.2.2.2.2.2.2.2.1, um.2.2.2.2.2.2.2.2.2.2.1, um.2.2.2.2.2.2.2.2.2.2.2.1, um.2.2.2.2.2.2.2.2.2.2.2.2.1, um.2.2.2.2.2.2.2.2.2.2.2.2.2.1, um.2.2.2.2.2.2.2.2.2.2.2.2.2.2.1, um.2.2.2.2.2.2.2.2.2.2.2.2.2.2.2.1, um.2.2.2.2.2.2.2.2.2.2.2.2.2.2.2.2.1, um.2.2.2.2.2.2.2.2.2.2.2.2.2.2.2.2.2] : List Nat).getD i 0) R00 V00 (fun _ => 0) 0 (fun _ _ => 0) (fun _ => 0)) H := (P_l hP).app hPm
  have hD : va_D (fun q : Nat => s.heap.size ≤ q) (wX cI cZ ad R00 V00 (fun _ => 0) 0 sc00 (fun _ => 0) false ++ wM cI cZ (fun i => ([qm, um.1, um.2.1, um.2.2.1, um.2.2.2.1, um.2.2.2.2.1, um.2.2.2.2.2.1, um.2.2.2.2.2.2.1, um.2.2.2.2.2.2.2.1, um.2.2.2.2.2.2.2.2.1, um.2.2.2.2.2.2.2.2.2.1, um.2.2.2.2.2.2.2.2.2.2.1, um.2.2.2.2.2.2.2.2.2.2.2.1, um.2.2.2.2.2.2.2.2.2.2.2.2.1, um.2.2.2.2.2.2.2.2.2.2.2.2.2.1, um.2.2.2.2.2.2.2.2.2.2.2.2.2.2.1, um.2.2.2.2.2.2.2.2.2.2.2.2.2.2.2.1, um.2.2.2.2.2.2.2.2.2.2.2.2.2.2.2.2.1, um.2.2.2.2.2.2.2.2.2.2.2.2.2.2.2.2.2] : List Nat).getD i 0) R00 V00 (fun _ => 0) 0 (fun _ _ => 0) (fun _ => 0)) := D_law hD
  generalize hadm : (fun i => ([qm, um.1, um.2.1, um.2.2.1, um.2.2.2.1, um.2.2.2.2.1, um.2.2.2.2.2.1, um.2.2.2.2.2.2.1, um.2.2.2.2.2.2.2.1, um.2.2.2.2.2.2.2.2.1, um.2.2.2.2.2.2.2.2.2.1, um.2.2.2.2.2.2.2.2.2.2.1, um.2.2.2.2.2.2.2.2.2.2.2.1, um.2.2.2.2.2.2.2.2.2.2.2.2.1, um.2.2.2.2.2.2.2.2.2.2.2.2.2.1, um.2.2.2.2.2.2.2.2.2.2.2.2.2.2.1, um.2.2.2.2.2.2.2.2.2.2.2.2.2.2.2.1, um.2.2.2.2.2.2.2.2.2.2.2.2.2.2.2.2.1, um.2.2.2.2.2.2.2.2.2.2.2.2.2.2.2.2.2] : List Nat).getD i 0) = am at hP hD
  have ham0 : am 0 = qm := by rw [← hadm]; rfl
  refine lv_astore_n (lv' := [(2, .ref qm), (1, .ref qx), (0, .ref b)]) hx hb dL_law_15 rfl hl (by decide) rfl (fun ls hl => ?_)
  refine lv_iconst (v := 0) hx hb dL_law_16 (by decide) ?_
  refine lv_istore_n (lv' := [(3, .int 0), (2, .ref qm), (1, .ref qx), (0, .ref b)]) hx hb dL_law_17 rfl hl (by decide) rfl (fun ls hl => ?_)
  refine W.widen (k := 81) (n := 3416) (Nat.le_of_ble_eq_true rfl) (Nat.le_of_ble_eq_true rfl) ?_
  rw [← had0, ← ham0] at hl
  exact law_loop hL C0 hE hE1 hK (L + 1) 0 (by omega) (by omega) R00 V00 (fun _ => 0) 0 sc00 (fun _ => 0) false (fun _ _ => 0) (fun _ => 0) inv00 H locs hP hD hS ls (lv_sub hl [3, 2, 1, 0] rfl)
