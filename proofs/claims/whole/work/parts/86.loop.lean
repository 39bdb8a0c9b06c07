/-! THE CLAIM OUT OF ONE WALK OF THE LAW'S BODY. Your part is whole_start (and what it stands on); all else here is the same for every law, but numbers. -/
def R_law : String := "EarthBanksLaw"
def lw_P (b : Addr) (xs : List Int32) (args : Array Value) (s : State) : Prop := args = #[.ref b] ∧ s.IntsAt b xs ∧ xs.length ≤ 3072 ∧ (Jvm.Cond.and given_1 narrow_1).before args s = true
def lw_Q (_ : Array Value) (s : State) (o : Outcome) (t : State) : Prop := o = .returned (some (.int 1)) ∧ Framed s o t [] 600000 7302250
def lw_Z (below : List Frame) (a : Array Value) (s : State) : State → Prop := fun t => ∃ o, t.status = .running ∧ Ended t below o ∧ lw_Q a s o t
/-- the law's own end, with 1 on the stack, nothing written that was there before, its room as the claim has it -/
theorem lw_ret {p : Program} {l : Launch} {e : Env} {s : State} {m : MethodId} {below : List Frame} {meth : Method} {c : Code} {b : Nat} (hx : p.tables.exec = Jvm.exec) (hb : c.code = code) (hr : meth.sig.returnType = ret) (hlocks : meth.locks = false) {pc : Nat} {H : Heap} {ls : Array Slot} (hdg : decode code pc = .ok (.ireturn, 1)) : W p l e room_1 s m #[Value.ref b] below meth c H [] 600000 7302250 (lw_Z below #[Value.ref b] s) (F0 m pc ls [.int 1]) := by
  intro T hT X
  obtain ⟨fs, hret, hrun, hended, hW, hframe⟩ := X.leave (v := some (.int 1)) (hlocks := hlocks) (fun h => by rw [hr] at h; cases h)
  have hmeth' : T.vm.method? m = some meth := X.method'
  refine ⟨T.setFrames fs, ?_, .returned (some (.int 1)), hrun, hended, rfl, ⟨_, rfl⟩, hW, hframe⟩
  jvm_step X.here [X.here.top, hx, hb, hdg, hmeth', hr, ret, narrow_b1]
  (try refine ⟨rfl, ?_⟩); (try refine ⟨rfl, ?_⟩)
  first | (intro acts; rw [hret _ acts rfl rfl rfl]) | rw [hret _ _ rfl rfl rfl]
  exact Steps.refl _
/-- what holds at the law's entry: the machine, the code, the tables' words (any of lw_tbl by 'hts w (by decide +kernel)'), the script of L ints xs at the cell b, what the Statement gives of the start (any of its parts by flat_of_before) -/
def lw_At (p : Program) (s : State) (m : MethodId) (meth : Method) (c : Code) (b L : Nat) (xs : Nat → Int32) : Prop :=
  p.tables.exec = Jvm.exec ∧ c.code = code ∧ meth.sig.returnType = ret ∧ c.maxLocals = 4 ∧ s.vm.findClass R_law = some m.cls ∧ (∀ w ∈ lw_tbl, w.before #[Value.ref b] s = true) ∧ va_X b L xs s s.heap ∧ b < s.heap.size ∧ meth.locks = false ∧ (Jvm.Cond.and given_1 narrow_1).before #[Value.ref b] s = true
theorem and31 (x : Int32) : ∃ k : Nat, k < 32 ∧ x &&& 31 = nI k := by
  have h : (x &&& 31).toBitVec = x.toBitVec &&& 31#32 := rfl
  have hlt : (x.toBitVec &&& 31#32).toNat < 32 := by
    rw [BitVec.toNat_and]
    exact Nat.lt_of_le_of_lt Nat.and_le_right (by decide)
  refine ⟨(x.toBitVec &&& 31#32).toNat, hlt, ?_⟩
  apply Int32.toBitVec_inj.mp
  rw [h]
  show _ = BitVec.ofNat 32 _
  rw [BitVec.ofNat_toNat, BitVec.setWidth_eq]
set_option maxHeartbeats 4000000 in
set_option maxRecDepth 100000 in
theorem law_loop {p : Program} {l : Launch} {e : Env} {s : State} {m : MethodId} {below : List Frame} {meth : Method} {c : Code} {b L : Nat} {xs : Nat → Int32} {G : va_G} {E : EvT} {cI cZ : ClassId} {ad am : Nat → Nat} (hL : L ≤ 3072) (C0 : lw_At p s m meth c b L xs) (hE : Ev E s) (hE1 : E.1 = s.heap.size) (hK : va_K G vwCl [(cI, .int), (cZ, .boolean)] s) : ∀ (n i : Nat), i ≤ 4000 → L + 1 ≤ i + n → ∀ (R : Nat → Nat → Int32) (V : Nat → Int32) (U : Nat → Nat) (tr : Int64) (sc : Nat → Nat → Int32) (sv : Nat → Int32) (sb : Bool) (tc : Nat → Nat → Int32) (tv : Nat → Int32), Inv R V U → ∀ (H : Heap) (locs : List Loc), va_P G vwCl (wX cI cZ ad R V U tr sc sv sb ++ wM cI cZ am R V U tr tc tv) H → va_D (fun q : Nat => s.heap.size ≤ q) (wX cI cZ ad R V U tr sc sv sb ++ wM cI cZ am R V U tr tc tv) → va_S (fun q : Nat => s.heap.size ≤ q) s.heap H locs → ∀ (ls : Array Slot), lv_has ls 4 [(0, .ref b), (1, .ref (ad 0)), (2, .ref (am 0)), (3, .int (nI i))] → W p l e room_1 s m #[Value.ref b] below meth c H locs 81 3416 (lw_Z below #[Value.ref b] s) (F0 m 18 ls []) := by
  obtain ⟨hx, hb, hr, hml, hown, hts0, hX, hbl, hlocks, hgv⟩ := C0
  have hts : ∀ w ∈ wAll, w.before #[Value.ref b] s = true := fun w h => hts0 w (wAll_in w h)
  have hbA : ¬ (fun q : Nat => s.heap.size ≤ q) b := Nat.not_le.mpr hbl
  intro n
  induction n with
  | zero =>
    intro i h1 h2 R V U tr sc sv sb tc tv hI H locs hP hD hS ls hl
    have e6 : (nI L - 6).toInt = (L : Int) - 6 := pk_sub_toInt (a := L) (b := 6) (by omega) (by omega)
    have ei : (nI i).toInt = i := nI_toInt (by omega)
    refine lv_iload_n hx hb dL_law_18 rfl (lv_at hl 3 rfl) ?_
    refine lv_aload_n hx hb dL_law_19 rfl (lv_at hl 0 rfl) ?_
    refine va_slen hx hb hX hbl hbA hS dL_law_20 ?_
    refine lv_bipush (v := 6) hx hb dL_law_21 (by decide) ?_
    refine lv_isub hx hb dL_law_23 ?_
    refine lv_icmp_gt (tgt := 1049) hx hb dL_law_24 (by decide) (fun c1 => ?_) (fun c1 => ?_)
    · refine lv_iconst (v := 1) hx hb dL_law_1049 (by decide) ?_
      refine va_forget (fun q hq => hS.2.2 q hq) ?_
      refine W.widen (k := 600000) (n := 7302250) (Nat.le_of_ble_eq_true rfl) (Nat.le_of_ble_eq_true rfl) ?_
      exact lw_ret hx hb hr hlocks dL_law_1050
    · exact absurd (show (nI L - 6) < nI i by rw [Int32.lt_iff_toInt_lt, e6, ei]; omega) c1
  | succ n ih =>
    intro i h1 h2 R V U tr sc sv sb tc tv hI H locs hP hD hS ls hl
    have e6 : (nI L - 6).toInt = (L : Int) - 6 := pk_sub_toInt (a := L) (b := 6) (by omega) (by omega)
    have ei : (nI i).toInt = i := nI_toInt (by omega)
    refine lv_iload_n hx hb dL_law_18 rfl (lv_at hl 3 rfl) ?_
    refine lv_aload_n hx hb dL_law_19 rfl (lv_at hl 0 rfl) ?_
    refine va_slen hx hb hX hbl hbA hS dL_law_20 ?_
    refine lv_bipush (v := 6) hx hb dL_law_21 (by decide) ?_
    refine lv_isub hx hb dL_law_23 ?_
    refine lv_icmp_gt (tgt := 1049) hx hb dL_law_24 (by decide) (fun c1 => ?_) (fun c1 => ?_)
    · refine lv_iconst (v := 1) hx hb dL_law_1049 (by decide) ?_
      refine va_forget (fun q hq => hS.2.2 q hq) ?_
      refine W.widen (k := 600000) (n := 7302250) (Nat.le_of_ble_eq_true rfl) (Nat.le_of_ble_eq_true rfl) ?_
      exact lw_ret hx hb hr hlocks dL_law_1050
    · have hi : i + 6 ≤ L := by
        rcases Nat.lt_or_ge L (i + 6) with q | q
        · exact absurd (show (nI L - 6) < nI i by rw [Int32.lt_iff_toInt_lt, e6, ei]; omega) c1
        · exact q
      have kk : ∀ (R : Nat → Nat → Int32) (V : Nat → Int32) (U : Nat → Nat) (tr : Int64) (sc : Nat → Nat → Int32) (sv : Nat → Int32) (sb : Bool) (tc : Nat → Nat → Int32) (tv : Nat → Int32), Inv R V U → ∀ (H : Heap) (locs : List Loc), va_P G vwCl (wX cI cZ ad R V U tr sc sv sb ++ wM cI cZ am R V U tr tc tv) H → va_D (fun q : Nat => s.heap.size ≤ q) (wX cI cZ ad R V U tr sc sv sb ++ wM cI cZ am R V U tr tc tv) → va_S (fun q : Nat => s.heap.size ≤ q) s.heap H locs → W p l e room_1 s m #[Value.ref b] below meth c H locs 81 3416 (lw_Z below #[Value.ref b] s) (F0 m 1043 ls []) := by
        intro R V U tr sc sv sb tc tv hI H locs hP hD hS
        refine lv_iinc (v := nI (i + 6)) (lv' := [(3, .int (nI (i + 6))), (0, .ref b), (1, .ref (ad 0)), (2, .ref (am 0))]) hx hb dL_law_1043 hl (k := 3) rfl (nI_add _ _) (by decide) rfl (fun ls hl => ?_)
        refine lv_goto (tgt := 18) hx hb dL_law_1046 (by decide) ?_
        exact ih (i + 6) (by omega) (by omega) R V U tr sc sv sb tc tv hI H locs hP hD hS ls (lv_sub hl [1, 2, 3, 0] rfl)
      refine lv_aload_n hx hb dL_law_27 rfl (lv_at hl 0 rfl) ?_
      refine lv_iload_n hx hb dL_law_28 rfl (lv_at hl 3 rfl) ?_
      refine va_sld hx hb hX hbl hbA hS (vp_in_nI (by omega) (by omega)) dL_law_29 ?_
      refine top_eq (y := xs i) (by rw [nI_clamp (by omega)]) ?_
      refine lv_bipush (v := 31) hx hb dL_law_30 (by decide) ?_
      refine lv_iand hx hb dL_law_32 ?_
      obtain ⟨k, hk32, hk⟩ := and31 (xs i)
      refine top_eq (y := nI k) hk ?_
      match k, hk32 with
      | 0, _ =>
        refine lv_tableIn (tgt := 176) (off := 143) hx hb dL_law_33 (by decide) (by decide) (by decide) (by decide) ?_
        exact L_type hx hb hml hown hts hX hbl hE hE1 hK hL hi R V U tr sc sv sb tc tv hI hP hD hS hl kk
      | 1, _ =>
        refine lv_tableIn (tgt := 239) (off := 206) hx hb dL_law_33 (by decide) (by decide) (by decide) (by decide) ?_
        exact L_clear hx hb hml hown hts hX hbl hE hE1 hK hL hi R V U tr sc sv sb tc tv hI hP hD hS hl kk
      | 2, _ =>
        refine lv_tableIn (tgt := 252) (off := 219) hx hb dL_law_33 (by decide) (by decide) (by decide) (by decide) ?_
        exact L_dam hx hb hml hown hts hX hbl hE hE1 hK hL hi R V U tr sc sv sb tc tv hI hP hD hS hl kk
      | 3, _ =>
        refine lv_tableIn (tgt := 265) (off := 232) hx hb dL_law_33 (by decide) (by decide) (by decide) (by decide) ?_
        exact L_cell hx hb hml hown hts hX hbl hE hE1 hK hL hi R V U tr sc sv sb tc tv hI hP hD hS hl kk
      | 4, _ =>
        refine lv_tableIn (tgt := 308) (off := 275) hx hb dL_law_33 (by decide) (by decide) (by decide) (by decide) ?_
        exact L_zone hx hb hml hown hts hX hbl hE hE1 hK hL hi R V U tr sc sv sb tc tv hI hP hD hS hl kk
      | 5, _ =>
        refine lv_tableIn (tgt := 351) (off := 318) hx hb dL_law_33 (by decide) (by decide) (by decide) (by decide) ?_
        exact L_load hx hb hml hown hts hX hbl hE hE1 hK hL hi R V U tr sc sv sb tc tv hI hP hD hS hl kk
      | 6, _ =>
        refine lv_tableIn (tgt := 394) (off := 361) hx hb dL_law_33 (by decide) (by decide) (by decide) (by decide) ?_
        exact L_lake hx hb hml hown hts hX hbl hE hE1 hK hL hi R V U tr sc sv sb tc tv hI hP hD hS hl kk
      | 7, _ =>
        refine lv_tableIn (tgt := 417) (off := 384) hx hb dL_law_33 (by decide) (by decide) (by decide) (by decide) ?_
        exact L_sweep hx hb hml hown hts hX hbl hE hE1 hK hL hi R V U tr sc sv sb tc tv hI hP hD hS hl kk
      | 8, _ =>
        refine lv_tableIn (tgt := 440) (off := 407) hx hb dL_law_33 (by decide) (by decide) (by decide) (by decide) ?_
        exact L_seep hx hb hml hown hts hX hbl hE hE1 hK hL hi R V U tr sc sv sb tc tv hI hP hD hS hl kk
      | 9, _ =>
        refine lv_tableIn (tgt := 453) (off := 420) hx hb dL_law_33 (by decide) (by decide) (by decide) (by decide) ?_
        exact L_dry hx hb hml hown hts hX hbl hE hE1 hK hL hi R V U tr sc sv sb tc tv hI hP hD hS hl kk
      | 10, _ =>
        refine lv_tableIn (tgt := 466) (off := 433) hx hb dL_law_33 (by decide) (by decide) (by decide) (by decide) ?_
        exact L_least hx hb hml hown hts hX hbl hE hE1 hK hL hi R V U tr sc sv sb tc tv hI hP hD hS hl kk
      | 11, _ =>
        refine lv_tableIn (tgt := 489) (off := 456) hx hb dL_law_33 (by decide) (by decide) (by decide) (by decide) ?_
        exact L_ways hx hb hml hown hts hX hbl hE hE1 hK hL hi R V U tr sc sv sb tc tv hI hP hD hS hl kk
      | 12, _ =>
        refine lv_tableIn (tgt := 512) (off := 479) hx hb dL_law_33 (by decide) (by decide) (by decide) (by decide) ?_
        exact L_filter hx hb hml hown hts hX hbl hE hE1 hK hL hi R V U tr sc sv sb tc tv hI hP hD hS hl kk
      | 13, _ =>
        refine lv_tableIn (tgt := 535) (off := 502) hx hb dL_law_33 (by decide) (by decide) (by decide) (by decide) ?_
        exact L_day hx hb hml hown hts hX hbl hE hE1 hK hL hi R V U tr sc sv sb tc tv hI hP hD hS hl kk
      | 14, _ =>
        refine lv_tableIn (tgt := 548) (off := 515) hx hb dL_law_33 (by decide) (by decide) (by decide) (by decide) ?_
        exact L_breach hx hb hml hown hts hX hbl hE hE1 hK hL hi R V U tr sc sv sb tc tv hI hP hD hS hl kk
      | 15, _ =>
        refine lv_tableIn (tgt := 561) (off := 528) hx hb dL_law_33 (by decide) (by decide) (by decide) (by decide) ?_
        exact L_highest hx hb hml hown hts hX hbl hE hE1 hK hL hi R V U tr sc sv sb tc tv hI hP hD hS hl kk
      | 16, _ =>
        refine lv_tableIn (tgt := 574) (off := 541) hx hb dL_law_33 (by decide) (by decide) (by decide) (by decide) ?_
        exact L_pool hx hb hml hown hts hX hbl hE hE1 hK hL hi R V U tr sc sv sb tc tv hI hP hD hS hl kk
      | 17, _ =>
        refine lv_tableIn (tgt := 607) (off := 574) hx hb dL_law_33 (by decide) (by decide) (by decide) (by decide) ?_
        exact L_flood hx hb hml hown hts hX hbl hE hE1 hK hL hi R V U tr sc sv sb tc tv hI hP hD hS hl kk
      | 18, _ =>
        refine lv_tableIn (tgt := 640) (off := 607) hx hb dL_law_33 (by decide) (by decide) (by decide) (by decide) ?_
        exact L_ebb hx hb hml hown hts hX hbl hE hE1 hK hL hi R V U tr sc sv sb tc tv hI hP hD hS hl kk
      | 19, _ =>
        refine lv_tableIn (tgt := 663) (off := 630) hx hb dL_law_33 (by decide) (by decide) (by decide) (by decide) ?_
        exact L_route hx hb hml hown hts hX hbl hE hE1 hK hL hi R V U tr sc sv sb tc tv hI hP hD hS hl kk
      | 20, _ =>
        refine lv_tableIn (tgt := 706) (off := 673) hx hb dL_law_33 (by decide) (by decide) (by decide) (by decide) ?_
        exact L_best hx hb hml hown hts hX hbl hE hE1 hK hL hi R V U tr sc sv sb tc tv hI hP hD hS hl kk
      | 21, _ =>
        refine lv_tableIn (tgt := 729) (off := 696) hx hb dL_law_33 (by decide) (by decide) (by decide) (by decide) ?_
        exact L_gauge hx hb hml hown hts hX hbl hE hE1 hK hL hi R V U tr sc sv sb tc tv hI hP hD hS hl kk
      | 22, _ =>
        refine lv_tableIn (tgt := 772) (off := 739) hx hb dL_law_33 (by decide) (by decide) (by decide) (by decide) ?_
        exact L_cause hx hb hml hown hts hX hbl hE hE1 hK hL hi R V U tr sc sv sb tc tv hI hP hD hS hl kk
      | 23, _ =>
        refine lv_tableIn (tgt := 805) (off := 772) hx hb dL_law_33 (by decide) (by decide) (by decide) (by decide) ?_
        exact L_slack hx hb hml hown hts hX hbl hE hE1 hK hL hi R V U tr sc sv sb tc tv hI hP hD hS hl kk
      | 24, _ =>
        refine lv_tableIn (tgt := 828) (off := 795) hx hb dL_law_33 (by decide) (by decide) (by decide) (by decide) ?_
        exact L_fits hx hb hml hown hts hX hbl hE hE1 hK hL hi R V U tr sc sv sb tc tv hI hP hD hS hl kk
      | 25, _ =>
        refine lv_tableIn (tgt := 841) (off := 808) hx hb dL_law_33 (by decide) (by decide) (by decide) (by decide) ?_
        exact L_next hx hb hml hown hts hX hbl hE hE1 hK hL hi R V U tr sc sv sb tc tv hI hP hD hS hl kk
      | 26, _ =>
        refine lv_tableIn (tgt := 864) (off := 831) hx hb dL_law_33 (by decide) (by decide) (by decide) (by decide) ?_
        exact L_work hx hb hml hown hts hX hbl hE hE1 hK hL hi R V U tr sc sv sb tc tv hI hP hD hS hl kk
      | 27, _ =>
        refine lv_tableIn (tgt := 927) (off := 894) hx hb dL_law_33 (by decide) (by decide) (by decide) (by decide) ?_
        exact L_cheapest hx hb hml hown hts hX hbl hE hE1 hK hL hi R V U tr sc sv sb tc tv hI hP hD hS hl kk
      | 28, _ =>
        refine lv_tableIn (tgt := 960) (off := 927) hx hb dL_law_33 (by decide) (by decide) (by decide) (by decide) ?_
        exact L_keep hx hb hml hown hts hX hbl hE hE1 hK hL hi R V U tr sc sv sb tc tv hI hP hD hS hl kk
      | 29, _ =>
        refine lv_tableIn (tgt := 983) (off := 950) hx hb dL_law_33 (by decide) (by decide) (by decide) (by decide) ?_
        exact L_back hx hb hml hown hts hX hbl hE hE1 hK hL hi R V U tr sc sv sb tc tv hI hP hD hS hl kk
      | 30, _ =>
        refine lv_tableIn (tgt := 1006) (off := 973) hx hb dL_law_33 (by decide) (by decide) (by decide) (by decide) ?_
        exact L_count hx hb hml hown hts hX hbl hE hE1 hK hL hi R V U tr sc sv sb tc tv hI hP hD hS hl kk
      | 31, _ =>
        refine lv_tableIn (tgt := 1029) (off := 996) hx hb dL_law_33 (by decide) (by decide) (by decide) (by decide) ?_
        exact L_trace hx hb hml hown hts hX hbl hE hE1 hK hL hi R V U tr sc sv sb tc tv hI hP hD hS hl kk
      | k + 32, h => exact absurd h (by omega)
