-- STRING CONSTANTS: the two words and what the JDK says of them
def kcS (i k : Nat) : Int32 := (([[122, 111, 110, 101], [114, 111, 119]] : List (List Int32)).getD i []).getD k 0
def lnS (i : Nat) : Nat := ([4, 3] : List Nat).getD i 0
theorem kcS_ok : ∀ i, i < 2 → ∀ k, k < 4 → ((kcS i k &&& 255).toUInt32 % 65536).toInt32 = kcS i k ∧ narrow .char (.int (kcS i k)) = .int (kcS i k) := by decide +kernel
theorem lnS_4 : ∀ i, i < 2 → lnS i ≤ 4 := by decide +kernel
theorem lnS_sh : ∀ i, i < 2 → nI (lnS i) >>> ((0 : Int32) &&& 31) = nI (lnS i) := by decide +kernel
def Srv : Array Value → State → Outcome → State → Prop := fun _ st o t => o = .returned none ∧ t.heap = st.heap
def cRv (l : Launch) (G : va_G) (E : EvT) (y : MethodName) (cc : ByteArray) (maxL : Nat) (ret : Option FieldType) (k : Nat) (tys : List (ClassId × FieldType)) (av : List Value) (w : va_W) : Prop :=
  Met l y (wOf y cc maxL ret) (rmK k) (va_Pc av (rPre G E tys w)) Srv 0 0 (fun _ => False)
theorem mkRv {l : Launch} {G : va_G} {E : EvT} {y : MethodName} {k : Nat} {tys : List (ClassId × FieldType)} {av : List Value} {w : va_W} {cc : ByteArray} {maxL : Nat} {ret : Option FieldType}
    (hy : plainName y.cls = true) (hlen : (lg_sl av).length ≤ maxL)
    (body : ∀ (p : Program) (e : Env) (s : State) (m : MethodId) (args : Array Value) (below : List Frame) (meth : Method) (c : Code), p.tables.exec = Jvm.exec → c.code = cc → meth.sig.returnType = ret → c.maxLocals = maxL → s.vm.findClass y.cls = some m.cls → (∀ w ∈ wAll, w.before args s = true) → meth.locks = false → Ev E s → va_P G vwCl w s.heap → va_K G vwCl tys s → ∀ ls : Array Slot, lv_has ls maxL (lv_args 0 av) →
      W p l e (rmK k) s m args below meth c s.heap [] 0 0 (MQ below Srv args s 0 0 (fun _ => False)) (F0 m 0 ls [])) : cRv l G E y cc maxL ret k tys av w := by
  refine Met.ofW (cc := cc) (maxL := maxL) (ret := ret) hy rfl ?_
  intro p e s m args below meth c s₁ B hml hv
  obtain ⟨rfl, hE, hP, hK⟩ := hv
  rw [lg_entry_eq]
  exact body p e s m _ below meth c B.exec B.bytes B.returns hml (findClass_of_methodNamed B.named) (fun w h => atoms_spec (ws := wOf y cc maxL ret) B.pre w (List.mem_cons_of_mem _ h)) B.notSynchronized hE hP hK _ (lv_entry av hlen)
section LAY4
variable {p : Program} {l : Launch} {e : Env} {R : Room} {s : State} {m : MethodId} {args : Array Value} {below : List Frame} {meth : Method} {c : Code} {H : Heap} {locs : List Loc} {cells slots : Nat} {Q : State → Prop}
variable {cc : ByteArray} {pc nL : Nat} {ls : Array Slot} {rest : List Value} {G : va_G} {E : EvT} {A : Nat → Prop} {tys tys' : List (ClassId × FieldType)} {ws wc : va_W}
theorem retRv (hx : p.tables.exec = Jvm.exec) (hb : c.code = cc) (hr : meth.sig.returnType = none) (hlocks : meth.locks = false) (hdg : decode cc pc = .ok (.return_, 1)) : W p l e R s m args below meth c s.heap [] 0 0 (MQ below Srv args s 0 0 (fun _ => False)) (F0 m pc ls []) :=
  W.vret hx hb hr (fun t ht _ => ⟨rfl, ht⟩) (fun _ h => by cases h) hdg hlocks
theorem va_rdv {a : Array Value} {st0 : List Value} (hr : CallRun p l e R s m args below meth c H locs cells slots 0 0 (F0 m pc ls st0) rest (Srv a) (fun _ => False))
    (kk : W p l e R s m args below meth c H locs cells slots Q (F0 m (pc + 3) ls rest)) : W p l e R s m args below meth c H locs cells slots Q (F0 m pc ls st0) := by
  intro T hT X
  obtain ⟨v, st₀, t, T', L, h0, X', hL, e1, ⟨hv, hh⟩, st⟩ := hr T hT X
  cases hv
  obtain ⟨t2, a1, b1⟩ := kk T' (by rw [e1, hh, h0]) (Stand.forget X' (fun q h => (hL q h).elim))
  exact ⟨t2, st t2 a1, b1⟩
theorem cRSv {y : MethodName} {k maxL n index : Nat} {bytes : ByteArray} {ret : Option FieldType} {own : String} {As : List Value}
    (hx : p.tables.exec = Jvm.exec) (hb : c.code = cc) (hml : c.maxLocals = nL) (hown : s.vm.findClass own = some m.cls) (hts : ∀ w ∈ wAll, w.before args s = true) (hM : cRv l G E y bytes maxL ret k tys' As wc) (hlk : Cond.methodLink own index y ∈ wAll) (cal : calS y bytes maxL ret n)
    (hR : k + 1 ≤ R.frames ∧ 8 + (maxL + 11) + 64 * k ≤ R.locals) (hE : Ev E s) (hlow : ∀ q, A q → E.1 ≤ q) (hS : va_S A s.heap H locs)
    (hK : va_K G vwCl tys s) (tis : List Nat) (ht : tis.filterMap (fun i => tys[i]?) = tys') (hP : va_P G vwCl ws H) (is : List Nat) (hC : is.map (fun i => ws[i]?) = wc.map some)
    (hn : As.length = n) (hl : ls.size = nL) {st : List Value} (hst : st = As.reverse ++ rest) (hroom : (rest.map fun v => v.category).sum ≤ 8) (hdg : decode cc pc = .ok (.invokestatic index, 3)) (hcs : cells ≤ R.cells ∧ slots ≤ R.slots)
    (kk : W p l e R s m args below meth c H locs cells slots Q (F0 m (pc + 3) ls rest)) : W p l e R s m args below meth c H locs cells slots Q (F0 m pc ls st) :=
  va_rdv (W.runS (rm := rmK k) ⟨hx, hb, hml, hown, hts⟩ hM (va_cwS n hts (cal.good hlk) rfl rfl rfl cal.2.2.2 hR) ⟨rPre.blind, fun U hU hW => ⟨rfl, hE.go hU hW hlow hS, by rw [hU]; exact P_of_map hP is hC, va_K.moved hW.alike (hK.sub tis ht)⟩⟩ rfl hn hl hst (lv_room hroom) hdg hcs) kk
/-- a reading call of a String's method -/
theorem cRVs {y : MethodName} {k maxL n index : Nat} {bytes : ByteArray} {ret : Option FieldType} {own : String} {b : Nat} {As : List Value} {r : Int32}
    (hx : p.tables.exec = Jvm.exec) (hb : c.code = cc) (hml : c.maxLocals = nL) (hown : s.vm.findClass own = some m.cls) (hts : ∀ w ∈ wAll, w.before args s = true) (hM : cR l G E y bytes maxL ret k tys' (.ref b :: As) wc r) (hlk : Cond.methodLink own index y ∈ wAll) (cal : calV y bytes maxL ret n)
    (hR : k + 1 ≤ R.frames ∧ 8 + (maxL + 11) + 64 * k ≤ R.locals) (hE : Ev E s) (hlow : ∀ q, A q → E.1 ≤ q) (hS : va_S A s.heap H locs)
    (hK : va_K G vwCl tys s) (tis : List Nat) (ht : tis.filterMap (fun i => tys[i]?) = tys') (hP : va_P G vwCl ws H) (is : List Nat) (hC : is.map (fun i => ws[i]?) = wc.map some) (hrc : ∃ cell : Cell, H[b]? = some cell ∧ cell.vm.isStatics = false ∧ s.vm.findClass y.cls = some cell.cls)
    (hn : As.length = n) (hl : ls.size = nL) {st : List Value} (hst : st = As.reverse ++ .ref b :: rest) (hroom : (rest.map fun v => v.category).sum ≤ 8) (hdg : decode cc pc = .ok (.invokevirtual index, 3)) (hcs : cells ≤ R.cells ∧ slots ≤ R.slots)
    (kk : W p l e R s m args below meth c H locs cells slots Q (F0 m (pc + 3) ls (.int r :: rest))) : W p l e R s m args below meth c H locs cells slots Q (F0 m pc ls st) := by
  refine vp_callSi (W.runV (rm := rmK k) ⟨hx, hb, hml, hown, hts⟩ hM (cwV n hts (cal.good hlk) rfl rfl rfl cal.2.2.2.2 hR) ⟨rPre.blind, hrc, fun U hU hW => ⟨rfl, hE.go hU hW hlow hS, by rw [hU]; exact P_of_map hP is hC, va_K.moved hW.alike (hK.sub tis ht)⟩⟩ rfl hn hl hst (lv_room hroom) hdg hcs) (fun r' hr' => ?_)
  subst hr'
  exact kk
theorem str_recv {i : Nat} (hi : i < 2) (hE : Ev E s) (hlow : ∀ q, A q → E.1 ≤ q) (hS : va_S A s.heap H locs) : ∃ cell : Cell, H[E.2.1 i]? = some cell ∧ cell.vm.isStatics = false ∧ s.vm.findClass "java/lang/String" = some cell.cls := vk_recv (hE.2.2.2.2.2.2.2.1.narrow hlow) hi hS
end LAY4
theorem cal_J0_coder_7d493 : calV yJ0_coder_7d493 cJ0_coder_7d493 1 (some .byte) 0 := ⟨k_10_10, k_10_4, k_10_8, k_10_9, by decide +kernel⟩
theorem cal_J0_length_8abf5 : calV yJ0_length_8abf5 cJ0_length_8abf5 1 (some .int) 0 := ⟨k_10_5, k_10_4, k_10_2, k_10_3, by decide +kernel⟩
theorem cal_J0_isLatin1_aae02 : calV yJ0_isLatin1_aae02 cJ0_isLatin1_aae02 1 (some .boolean) 0 := ⟨k_10_20, k_10_4, k_10_18, k_10_19, by decide +kernel⟩
theorem cal_J0_checkIndex_df160 : calS yJ0_checkIndex_df160 cJ0_checkIndex_df160 2 none 2 := ⟨k_11_3, k_10_4, k_11_2, by decide +kernel⟩
theorem cal_J0_charAt_5068e : calV yJ0_charAt_5068e cJ0_charAt_5068e 2 (some .char) 1 := ⟨k_10_16, k_10_4, k_10_14, k_10_15, by decide +kernel⟩
theorem cal_J1_charAt_3b067 : calS yJ1_charAt_3b067 cJ1_charAt_3b067 2 (some .char) 2 := ⟨k_11_0, k_10_23, k_10_22, by decide +kernel⟩
theorem cal_J3_checkIndex_8e157 : calS yJ3_checkIndex_8e157 cJ3_checkIndex_8e157 3 (some .int) 3 := ⟨k_11_8, k_11_7, k_11_6, by decide +kernel⟩
theorem c_J0_coder_7d493 (l : Launch) (G : va_G) (E : EvT) (cI cZ : ClassId) (i : Nat) (hi : i < 2) : cR l G E yJ0_coder_7d493 cJ0_coder_7d493 1 (some .byte) 1 [(cI, .int), (cZ, .boolean)] [.ref (E.2.1 i)] [] 0 := by
  refine mkR (by decide) (Nat.le_of_ble_eq_true rfl) ?_
  intro zp ze s zm args below meth zc hx hb hr hml hown hts hlocks hE hP hK ls hl
  have hS : va_S (fun _ => False) s.heap s.heap [] := va_S.rf
  have hlow : ∀ q : Nat, (fun _ : Nat => False) q → E.1 ≤ q := fun _ h => h.elim
  have hl : lv_has ls 1 [(0, .ref (E.2.1 i))] := hl
  refine va_gets (C := "java/lang/String") (n := "COMPACT_STRINGS") (d := "Z") (own := RJ0) (ref := "java/lang/String") (v := .int 1) (index := 38) hx hb (hE.2.2.2.2.2.2.1.narrow hlow) hS hown (hts (.fieldLink RJ0 38 "java/lang/String" "COMPACT_STRINGS" "Z") k_10_11) (fun _ h9 => h9) dJ0_coder_7d493_0 ?_
  refine lv_if_eq (tgt := 13) hx hb dJ0_coder_7d493_3 (by decide) (fun c_1 => ?_) (fun c_1 => ?_)
  · exact absurd c_1 (by decide)
  · refine lv_aload_n hx hb dJ0_coder_7d493_6 rfl (lv_at hl 0 rfl) ?_
    refine vk_getf (o := "java/lang/String") (n := "coder") (d := "B") (own := RJ0) (ref := "java/lang/String") (index := 15) (v := .int 0) hx hb ((hE.2.2.2.2.2.2.2.1.1 i hi).2.1.narrow hlow) hS hown (hts (.fieldLink RJ0 15 "java/lang/String" "coder" "B") k_10_12) (fun _ h9 => h9) dJ0_coder_7d493_7 ?_
    refine lv_goto (tgt := 14) hx hb dJ0_coder_7d493_10 (by decide) ?_
    exact retR hx hb hr rfl hlocks dJ0_coder_7d493_14 rfl
theorem c_J0_isLatin1_aae02 (l : Launch) (G : va_G) (E : EvT) (cI cZ : ClassId) (i : Nat) (hi : i < 2) : cR l G E yJ0_isLatin1_aae02 cJ0_isLatin1_aae02 1 (some .boolean) 1 [(cI, .int), (cZ, .boolean)] [.ref (E.2.1 i)] [] 1 := by
  refine mkR (by decide) (Nat.le_of_ble_eq_true rfl) ?_
  intro zp ze s zm args below meth zc hx hb hr hml hown hts hlocks hE hP hK ls hl
  have hS : va_S (fun _ => False) s.heap s.heap [] := va_S.rf
  have hlow : ∀ q : Nat, (fun _ : Nat => False) q → E.1 ≤ q := fun _ h => h.elim
  have hl : lv_has ls 1 [(0, .ref (E.2.1 i))] := hl
  refine va_gets (C := "java/lang/String") (n := "COMPACT_STRINGS") (d := "Z") (own := RJ0) (ref := "java/lang/String") (v := .int 1) (index := 38) hx hb (hE.2.2.2.2.2.2.1.narrow hlow) hS hown (hts (.fieldLink RJ0 38 "java/lang/String" "COMPACT_STRINGS" "Z") k_10_11) (fun _ h9 => h9) dJ0_isLatin1_aae02_0 ?_
  refine lv_if_eq (tgt := 17) hx hb dJ0_isLatin1_aae02_3 (by decide) (fun c_1 => ?_) (fun c_1 => ?_)
  · exact absurd c_1 (by decide)
  · refine lv_aload_n hx hb dJ0_isLatin1_aae02_6 rfl (lv_at hl 0 rfl) ?_
    refine vk_getf (o := "java/lang/String") (n := "coder") (d := "B") (own := RJ0) (ref := "java/lang/String") (index := 15) (v := .int 0) hx hb ((hE.2.2.2.2.2.2.2.1.1 i hi).2.1.narrow hlow) hS hown (hts (.fieldLink RJ0 15 "java/lang/String" "coder" "B") k_10_12) (fun _ h9 => h9) dJ0_isLatin1_aae02_7 ?_
    refine lv_if_ne (tgt := 17) hx hb dJ0_isLatin1_aae02_10 (by decide) (fun c_2 => ?_) (fun c_2 => ?_)
    · exact absurd rfl c_2
    · refine lv_iconst (v := 1) hx hb dJ0_isLatin1_aae02_13 (by decide) ?_
      refine lv_goto (tgt := 18) hx hb dJ0_isLatin1_aae02_14 (by decide) ?_
      exact retR hx hb hr rfl hlocks dJ0_isLatin1_aae02_18 rfl
theorem c_J0_length_8abf5 (l : Launch) (G : va_G) (E : EvT) (cI cZ : ClassId) (i : Nat) (hi : i < 2) : cR l G E yJ0_length_8abf5 cJ0_length_8abf5 1 (some .int) 2 [(cI, .int), (cZ, .boolean)] [.ref (E.2.1 i)] [] (nI (lnS i)) := by
  refine mkR (by decide) (Nat.le_of_ble_eq_true rfl) ?_
  intro zp ze s zm args below meth zc hx hb hr hml hown hts hlocks hE hP hK ls hl
  have hS : va_S (fun _ => False) s.heap s.heap [] := va_S.rf
  have hlow : ∀ q : Nat, (fun _ : Nat => False) q → E.1 ≤ q := fun _ h => h.elim
  have hl : lv_has ls 1 [(0, .ref (E.2.1 i))] := hl
  refine lv_aload_n hx hb dJ0_length_8abf5_0 rfl (lv_at hl 0 rfl) ?_
  refine vk_getf (o := "java/lang/String") (n := "value") (d := "[B") (own := RJ0) (ref := "java/lang/String") (index := 9) (v := .ref (E.2.2.1 i)) hx hb ((hE.2.2.2.2.2.2.2.1.1 i hi).2.2.1.narrow hlow) hS hown (hts (.fieldLink RJ0 9 "java/lang/String" "value" "[B") k_10_6) (fun _ h9 => h9) dJ0_length_8abf5_1 ?_
  refine va_tlen (v := nI (lnS i)) hx hb ((hE.2.2.2.2.2.2.2.1.1 i hi).2.2.2.narrow hlow) hS rfl dJ0_length_8abf5_4 ?_
  refine lv_aload_n hx hb dJ0_length_8abf5_5 rfl (lv_at hl 0 rfl) ?_
  refine cRVs (As := []) (rest := [.int (nI (lnS i))]) hx hb hml hown hts (c_J0_coder_7d493 l G E cI cZ i hi) k_10_7 cal_J0_coder_7d493 ⟨Nat.le_of_ble_eq_true rfl, Nat.le_of_ble_eq_true rfl⟩ hE hlow hS hK [0, 1] rfl hP [] rfl (str_recv hi hE hlow hS) rfl hl.1 rfl (Nat.le_of_ble_eq_true rfl) dJ0_length_8abf5_6 ⟨Nat.zero_le _, Nat.zero_le _⟩ ?_
  refine lv_ishr hx hb dJ0_length_8abf5_9 ?_
  exact retR hx hb hr rfl hlocks dJ0_length_8abf5_10 (lnS_sh i hi)
theorem c_J3_checkIndex_8e157 (l : Launch) (G : va_G) (E : EvT) (cI cZ : ClassId) (k n q : Nat) (hk : k < n) (hn : n < 1000) : cR l G E yJ3_checkIndex_8e157 cJ3_checkIndex_8e157 3 (some .int) 1 [(cI, .int), (cZ, .boolean)] [.int (nI k), .int (nI n), .ref q] [] (nI k) := by
  refine mkR (by decide) (Nat.le_of_ble_eq_true rfl) ?_
  intro zp ze s zm args below meth zc hx hb hr hml hown hts hlocks hE hP hK ls hl
  have hS : va_S (fun _ => False) s.heap s.heap [] := va_S.rf
  have hlow : ∀ q : Nat, (fun _ : Nat => False) q → E.1 ≤ q := fun _ h => h.elim
  have hl : lv_has ls 3 [(0, .int (nI k)), (1, .int (nI n)), (2, .ref q)] := hl
  refine lv_iload_n hx hb dJ3_checkIndex_8e157_0 rfl (lv_at hl 0 rfl) ?_
  refine lv_if_lt (tgt := 9) hx hb dJ3_checkIndex_8e157_1 (by decide) (fun c_1 => ?_) (fun c_1 => ?_)
  · exact absurd c_1 (nI_pos (by omega))
  · refine lv_iload_n hx hb dJ3_checkIndex_8e157_4 rfl (lv_at hl 0 rfl) ?_
    refine lv_iload_n hx hb dJ3_checkIndex_8e157_5 rfl (lv_at hl 1 rfl) ?_
    refine lv_icmp_lt (tgt := 16) hx hb dJ3_checkIndex_8e157_6 (by decide) (fun c_2 => ?_) (fun c_2 => ?_)
    · refine lv_iload_n hx hb dJ3_checkIndex_8e157_16 rfl (lv_at hl 0 rfl) ?_
      exact retR hx hb hr rfl hlocks dJ3_checkIndex_8e157_17 rfl
    · exact absurd (nI_lt hk (by omega)) c_2
theorem c_J3_checkIndex_8e157_n (l : Launch) (G : va_G) (E : EvT) (cI cZ : ClassId) (k n : Nat) (hk : k < n) (hn : n < 1000) : cR l G E yJ3_checkIndex_8e157 cJ3_checkIndex_8e157 3 (some .int) 1 [(cI, .int), (cZ, .boolean)] [.int (nI k), .int (nI n), .null] [] (nI k) := by
  refine mkR (by decide) (Nat.le_of_ble_eq_true rfl) ?_
  intro zp ze s zm args below meth zc hx hb hr hml hown hts hlocks hE hP hK ls hl
  have hS : va_S (fun _ => False) s.heap s.heap [] := va_S.rf
  have hlow : ∀ q : Nat, (fun _ : Nat => False) q → E.1 ≤ q := fun _ h => h.elim
  have hl : lv_has ls 3 [(0, .int (nI k)), (1, .int (nI n)), (2, .null)] := hl
  refine lv_iload_n hx hb dJ3_checkIndex_8e157_0 rfl (lv_at hl 0 rfl) ?_
  refine lv_if_lt (tgt := 9) hx hb dJ3_checkIndex_8e157_1 (by decide) (fun c_1 => ?_) (fun c_1 => ?_)
  · exact absurd c_1 (nI_pos (by omega))
  · refine lv_iload_n hx hb dJ3_checkIndex_8e157_4 rfl (lv_at hl 0 rfl) ?_
    refine lv_iload_n hx hb dJ3_checkIndex_8e157_5 rfl (lv_at hl 1 rfl) ?_
    refine lv_icmp_lt (tgt := 16) hx hb dJ3_checkIndex_8e157_6 (by decide) (fun c_2 => ?_) (fun c_2 => ?_)
    · refine lv_iload_n hx hb dJ3_checkIndex_8e157_16 rfl (lv_at hl 0 rfl) ?_
      exact retR hx hb hr rfl hlocks dJ3_checkIndex_8e157_17 rfl
    · exact absurd (nI_lt hk (by omega)) c_2
theorem c_J0_checkIndex_df160 (l : Launch) (G : va_G) (E : EvT) (cI cZ : ClassId) (k n : Nat) (hk : k < n) (hn : n < 1000) : cRv l G E yJ0_checkIndex_df160 cJ0_checkIndex_df160 2 none 2 [(cI, .int), (cZ, .boolean)] [.int (nI k), .int (nI n)] [] := by
  refine mkRv (by decide) (Nat.le_of_ble_eq_true rfl) ?_
  intro zp ze s zm args below meth zc hx hb hr hml hown hts hlocks hE hP hK ls hl
  have hS : va_S (fun _ => False) s.heap s.heap [] := va_S.rf
  have hlow : ∀ q : Nat, (fun _ : Nat => False) q → E.1 ≤ q := fun _ h => h.elim
  have hl : lv_has ls 2 [(0, .int (nI k)), (1, .int (nI n))] := hl
  rcases hE.2.2.2.2.2.2.2.2 with hq | ⟨q, hq⟩
  · refine lv_iload_n hx hb dJ0_checkIndex_df160_0 rfl (lv_at hl 0 rfl) ?_
    refine lv_iload_n hx hb dJ0_checkIndex_df160_1 rfl (lv_at hl 1 rfl) ?_
    refine va_gets (C := "jdk/internal/util/Preconditions") (n := "SIOOBE_FORMATTER") (d := "Ljava/util/function/BiFunction;") (own := RJ0) (ref := "jdk/internal/util/Preconditions") (v := .null) (index := 1053) hx hb (hq.narrow hlow) hS hown (hts (.fieldLink RJ0 1053 "jdk/internal/util/Preconditions" "SIOOBE_FORMATTER" "Ljava/util/function/BiFunction;") k_11_4) (fun _ h9 => h9) dJ0_checkIndex_df160_2 ?_
    refine cRS (As := [.int (nI k), .int (nI n), .null]) (rest := []) hx hb hml hown hts (c_J3_checkIndex_8e157_n l G E cI cZ k n hk hn) k_11_5 cal_J3_checkIndex_8e157 ⟨Nat.le_of_ble_eq_true rfl, Nat.le_of_ble_eq_true rfl⟩ hE hlow hS hK [0, 1] rfl hP [] rfl rfl hl.1 rfl (Nat.le_of_ble_eq_true rfl) dJ0_checkIndex_df160_5 ⟨Nat.zero_le _, Nat.zero_le _⟩ ?_
    refine lv_pop hx hb dJ0_checkIndex_df160_8 rfl ?_
    exact retRv hx hb hr hlocks dJ0_checkIndex_df160_9
  · refine lv_iload_n hx hb dJ0_checkIndex_df160_0 rfl (lv_at hl 0 rfl) ?_
    refine lv_iload_n hx hb dJ0_checkIndex_df160_1 rfl (lv_at hl 1 rfl) ?_
    refine va_gets (C := "jdk/internal/util/Preconditions") (n := "SIOOBE_FORMATTER") (d := "Ljava/util/function/BiFunction;") (own := RJ0) (ref := "jdk/internal/util/Preconditions") (v := .ref q) (index := 1053) hx hb (hq.narrow hlow) hS hown (hts (.fieldLink RJ0 1053 "jdk/internal/util/Preconditions" "SIOOBE_FORMATTER" "Ljava/util/function/BiFunction;") k_11_4) (fun _ h9 => h9) dJ0_checkIndex_df160_2 ?_
    refine cRS (As := [.int (nI k), .int (nI n), .ref q]) (rest := []) hx hb hml hown hts (c_J3_checkIndex_8e157 l G E cI cZ k n q hk hn) k_11_5 cal_J3_checkIndex_8e157 ⟨Nat.le_of_ble_eq_true rfl, Nat.le_of_ble_eq_true rfl⟩ hE hlow hS hK [0, 1] rfl hP [] rfl rfl hl.1 rfl (Nat.le_of_ble_eq_true rfl) dJ0_checkIndex_df160_5 ⟨Nat.zero_le _, Nat.zero_le _⟩ ?_
    refine lv_pop hx hb dJ0_checkIndex_df160_8 rfl ?_
    exact retRv hx hb hr hlocks dJ0_checkIndex_df160_9
theorem c_J1_charAt_3b067 (l : Launch) (G : va_G) (E : EvT) (cI cZ : ClassId) (i k : Nat) (hi : i < 2) (hk : k < lnS i) : cR l G E yJ1_charAt_3b067 cJ1_charAt_3b067 2 (some .char) 3 [(cI, .int), (cZ, .boolean)] [.ref (E.2.2.1 i), .int (nI k)] [] (kcS i k) := by
  have hn4 := lnS_4 i hi
  have hch := kcS_ok i hi k (by omega)
  refine mkR (by decide) (Nat.le_of_ble_eq_true rfl) ?_
  intro zp ze s zm args below meth zc hx hb hr hml hown hts hlocks hE hP hK ls hl
  have hS : va_S (fun _ => False) s.heap s.heap [] := va_S.rf
  have hlow : ∀ q : Nat, (fun _ : Nat => False) q → E.1 ≤ q := fun _ h => h.elim
  have hl : lv_has ls 2 [(0, .ref (E.2.2.1 i)), (1, .int (nI k))] := hl
  refine lv_iload_n hx hb dJ1_charAt_3b067_0 rfl (lv_at hl 1 rfl) ?_
  refine lv_aload_n hx hb dJ1_charAt_3b067_1 rfl (lv_at hl 0 rfl) ?_
  refine va_tlen (v := nI (lnS i)) hx hb ((hE.2.2.2.2.2.2.2.1.1 i hi).2.2.2.narrow hlow) hS rfl dJ1_charAt_3b067_2 ?_
  refine cRSv (As := [.int (nI k), .int (nI (lnS i))]) (rest := []) hx hb hml hown hts (c_J0_checkIndex_df160 l G E cI cZ k (lnS i) hk (by omega)) k_11_1 cal_J0_checkIndex_df160 ⟨Nat.le_of_ble_eq_true rfl, Nat.le_of_ble_eq_true rfl⟩ hE hlow hS hK [0, 1] rfl hP [] rfl rfl hl.1 rfl (Nat.le_of_ble_eq_true rfl) dJ1_charAt_3b067_3 ⟨Nat.zero_le _, Nat.zero_le _⟩ ?_
  refine lv_aload_n hx hb dJ1_charAt_3b067_6 rfl (lv_at hl 0 rfl) ?_
  refine lv_iload_n hx hb dJ1_charAt_3b067_7 rfl (lv_at hl 1 rfl) ?_
  refine va_tb (v := .int (kcS i k)) hx hb ((hE.2.2.2.2.2.2.2.1.1 i hi).2.2.2.narrow hlow) hS (show vp_in (nI k) (lnS i) from vp_in_nI hk (by omega)) (by rw [nI_clamp (by omega)]; rfl) dJ1_charAt_3b067_8 ?_
  refine lv_sipush (v := 255) hx hb dJ1_charAt_3b067_9 (by decide) ?_
  refine lv_iand hx hb dJ1_charAt_3b067_12 ?_
  refine lv_i2c (v := kcS i k) hx hb dJ1_charAt_3b067_13 hch.1 ?_
  exact retR hx hb hr hch.2 hlocks dJ1_charAt_3b067_14 rfl
theorem c_J0_charAt_5068e (l : Launch) (G : va_G) (E : EvT) (cI cZ : ClassId) (i k : Nat) (hi : i < 2) (hk : k < lnS i) : cR l G E yJ0_charAt_5068e cJ0_charAt_5068e 2 (some .char) 4 [(cI, .int), (cZ, .boolean)] [.ref (E.2.1 i), .int (nI k)] [] (kcS i k) := by
  have hn4 := lnS_4 i hi
  have hch := kcS_ok i hi k (by omega)
  refine mkR (by decide) (Nat.le_of_ble_eq_true rfl) ?_
  intro zp ze s zm args below meth zc hx hb hr hml hown hts hlocks hE hP hK ls hl
  have hS : va_S (fun _ => False) s.heap s.heap [] := va_S.rf
  have hlow : ∀ q : Nat, (fun _ : Nat => False) q → E.1 ≤ q := fun _ h => h.elim
  have hl : lv_has ls 2 [(0, .ref (E.2.1 i)), (1, .int (nI k))] := hl
  refine lv_aload_n hx hb dJ0_charAt_5068e_0 rfl (lv_at hl 0 rfl) ?_
  refine cRVs (As := []) (rest := []) hx hb hml hown hts (c_J0_isLatin1_aae02 l G E cI cZ i hi) k_10_17 cal_J0_isLatin1_aae02 ⟨Nat.le_of_ble_eq_true rfl, Nat.le_of_ble_eq_true rfl⟩ hE hlow hS hK [0, 1] rfl hP [] rfl (str_recv hi hE hlow hS) rfl hl.1 rfl (Nat.le_of_ble_eq_true rfl) dJ0_charAt_5068e_1 ⟨Nat.zero_le _, Nat.zero_le _⟩ ?_
  refine lv_if_eq (tgt := 16) hx hb dJ0_charAt_5068e_4 (by decide) (fun c_1 => ?_) (fun c_1 => ?_)
  · exact absurd c_1 (by decide)
  · refine lv_aload_n hx hb dJ0_charAt_5068e_7 rfl (lv_at hl 0 rfl) ?_
    refine vk_getf (o := "java/lang/String") (n := "value") (d := "[B") (own := RJ0) (ref := "java/lang/String") (index := 9) (v := .ref (E.2.2.1 i)) hx hb ((hE.2.2.2.2.2.2.2.1.1 i hi).2.2.1.narrow hlow) hS hown (hts (.fieldLink RJ0 9 "java/lang/String" "value" "[B") k_10_6) (fun _ h9 => h9) dJ0_charAt_5068e_8 ?_
    refine lv_iload_n hx hb dJ0_charAt_5068e_11 rfl (lv_at hl 1 rfl) ?_
    refine cRS (As := [.ref (E.2.2.1 i), .int (nI k)]) (rest := []) hx hb hml hown hts (c_J1_charAt_3b067 l G E cI cZ i k hi hk) k_10_21 cal_J1_charAt_3b067 ⟨Nat.le_of_ble_eq_true rfl, Nat.le_of_ble_eq_true rfl⟩ hE hlow hS hK [0, 1] rfl hP [] rfl rfl hl.1 rfl (Nat.le_of_ble_eq_true rfl) dJ0_charAt_5068e_12 ⟨Nat.zero_le _, Nat.zero_le _⟩ ?_
    exact retR hx hb hr hch.2 hlocks dJ0_charAt_5068e_15 rfl
