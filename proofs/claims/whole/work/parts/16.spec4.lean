-- more contracts: methods that answer a long, methods that answer a cell; answers of least, best, cheapest
def cRl (l : Launch) (G : va_G) (E : EvT) (y : MethodName) (cc : ByteArray) (maxL : Nat) (ret : Option FieldType) (k : Nat) (tys : List (ClassId × FieldType)) (av : List Value) (w : va_W) (r : Int64) : Prop :=
  Met l y (wOf y cc maxL ret) (rmK k) (va_Pc av (rPre G E tys w)) (vp_Sl (fun x => x = r)) 0 0 (fun _ => False)
def Sra (a : Nat) : Array Value → State → Outcome → State → Prop := fun _ st o t => o = .returned (some (.ref a)) ∧ t.heap = st.heap
def cRa (l : Launch) (G : va_G) (E : EvT) (y : MethodName) (cc : ByteArray) (maxL : Nat) (ret : Option FieldType) (k : Nat) (tys : List (ClassId × FieldType)) (av : List Value) (w : va_W) (a : Nat) : Prop :=
  Met l y (wOf y cc maxL ret) (rmK k) (va_Pc av (rPre G E tys w)) (Sra a) 0 0 (fun _ => False)
theorem mkRl {l : Launch} {G : va_G} {E : EvT} {y : MethodName} {k : Nat} {tys : List (ClassId × FieldType)} {av : List Value} {w : va_W} {r : Int64} {cc : ByteArray} {maxL : Nat} {ret : Option FieldType}
    (hy : plainName y.cls = true) (hlen : (lg_sl av).length ≤ maxL)
    (body : ∀ (p : Program) (e : Env) (s : State) (m : MethodId) (args : Array Value) (below : List Frame) (meth : Method) (c : Code), p.tables.exec = Jvm.exec → c.code = cc → meth.sig.returnType = ret → c.maxLocals = maxL → s.vm.findClass y.cls = some m.cls → (∀ w ∈ wAll, w.before args s = true) → meth.locks = false → Ev E s → va_P G vwCl w s.heap → va_K G vwCl tys s → ∀ ls : Array Slot, lv_has ls maxL (lv_args 0 av) →
      W p l e (rmK k) s m args below meth c s.heap [] 0 0 (MQ below (vp_Sl (fun x => x = r)) args s 0 0 (fun _ => False)) (F0 m 0 ls [])) : cRl l G E y cc maxL ret k tys av w r := by
  refine Met.ofW (cc := cc) (maxL := maxL) (ret := ret) hy rfl ?_
  intro p e s m args below meth c s₁ B hml hv
  obtain ⟨rfl, hE, hP, hK⟩ := hv
  rw [lg_entry_eq]
  exact body p e s m _ below meth c B.exec B.bytes B.returns hml (findClass_of_methodNamed B.named) (fun w h => atoms_spec (ws := wOf y cc maxL ret) B.pre w (List.mem_cons_of_mem _ h)) B.notSynchronized hE hP hK _ (lv_entry av hlen)
theorem mkRa {l : Launch} {G : va_G} {E : EvT} {y : MethodName} {k : Nat} {tys : List (ClassId × FieldType)} {av : List Value} {w : va_W} {r : Nat} {cc : ByteArray} {maxL : Nat} {ret : Option FieldType}
    (hy : plainName y.cls = true) (hlen : (lg_sl av).length ≤ maxL)
    (body : ∀ (p : Program) (e : Env) (s : State) (m : MethodId) (args : Array Value) (below : List Frame) (meth : Method) (c : Code), p.tables.exec = Jvm.exec → c.code = cc → meth.sig.returnType = ret → c.maxLocals = maxL → s.vm.findClass y.cls = some m.cls → (∀ w ∈ wAll, w.before args s = true) → meth.locks = false → Ev E s → va_P G vwCl w s.heap → va_K G vwCl tys s → ∀ ls : Array Slot, lv_has ls maxL (lv_args 0 av) →
      W p l e (rmK k) s m args below meth c s.heap [] 0 0 (MQ below (Sra r) args s 0 0 (fun _ => False)) (F0 m 0 ls [])) : cRa l G E y cc maxL ret k tys av w r := by
  refine Met.ofW (cc := cc) (maxL := maxL) (ret := ret) hy rfl ?_
  intro p e s m args below meth c s₁ B hml hv
  obtain ⟨rfl, hE, hP, hK⟩ := hv
  rw [lg_entry_eq]
  exact body p e s m _ below meth c B.exec B.bytes B.returns hml (findClass_of_methodNamed B.named) (fun w h => atoms_spec (ws := wOf y cc maxL ret) B.pre w (List.mem_cons_of_mem _ h)) B.notSynchronized hE hP hK _ (lv_entry av hlen)
section LAY2
variable {p : Program} {l : Launch} {e : Env} {R : Room} {s : State} {m : MethodId} {args : Array Value} {below : List Frame} {meth : Method} {c : Code} {H : Heap} {locs : List Loc} {cells slots : Nat} {Q : State → Prop}
variable {cc : ByteArray} {pc nL : Nat} {ls : Array Slot} {rest : List Value} {G : va_G} {E : EvT} {A : Nat → Prop} {tys tys' : List (ClassId × FieldType)} {ws wc : va_W}
theorem retRl {r v : Int64} (hx : p.tables.exec = Jvm.exec) (hb : c.code = cc) (hr : meth.sig.returnType = some .long) (hlocks : meth.locks = false) (hdg : decode cc pc = .ok (.lreturn, 1)) (hv : v = r) : W p l e R s m args below meth c s.heap [] 0 0 (MQ below (vp_Sl (fun x => x = r)) args s 0 0 (fun _ => False)) (F0 m pc ls [.long v]) :=
  W.lret hx hb hr (fun t ht _ => ⟨v, rfl, hv, ht⟩) (fun _ h => by cases h) hdg hlocks
theorem retRa {a : Nat} {rt : FieldType} (hx : p.tables.exec = Jvm.exec) (hb : c.code = cc) (hr : meth.sig.returnType = some rt) (hrt : (∃ n, rt = .object n) ∨ ∃ t, rt = .array t) (hlocks : meth.locks = false) (hdg : decode cc pc = .ok (.areturn, 1)) : W p l e R s m args below meth c s.heap [] 0 0 (MQ below (Sra a) args s 0 0 (fun _ => False)) (F0 m pc ls [.ref a]) :=
  W.aret hx hb hr hrt (Or.inr ⟨a, rfl⟩) (fun t ht _ => ⟨rfl, ht⟩) (fun _ h => by cases h) hdg hlocks
theorem va_rdl {post : Int64 → Prop} {a : Array Value} {st0 : List Value} (hr : CallRun p l e R s m args below meth c H locs cells slots 0 0 (F0 m pc ls st0) rest (vp_Sl post a) (fun _ => False))
    (kk : ∀ r : Int64, post r → W p l e R s m args below meth c H locs cells slots Q (F0 m (pc + 3) ls (.long r :: rest))) : W p l e R s m args below meth c H locs cells slots Q (F0 m pc ls st0) := by
  intro T hT X
  obtain ⟨v, st₀, t, T', L, h0, X', hL, e1, ⟨r, hv, hp, hh⟩, st⟩ := hr T hT X
  cases hv
  obtain ⟨t2, a1, b1⟩ := kk r hp T' (by rw [e1, hh, h0]) (Stand.forget X' (fun q h => (hL q h).elim))
  exact ⟨t2, st t2 a1, b1⟩
theorem va_rda {ra : Nat} {a : Array Value} {st0 : List Value} (hr : CallRun p l e R s m args below meth c H locs cells slots 0 0 (F0 m pc ls st0) rest (Sra ra a) (fun _ => False))
    (kk : W p l e R s m args below meth c H locs cells slots Q (F0 m (pc + 3) ls (.ref ra :: rest))) : W p l e R s m args below meth c H locs cells slots Q (F0 m pc ls st0) := by
  intro T hT X
  obtain ⟨v, st₀, t, T', L, h0, X', hL, e1, ⟨hv, hh⟩, st⟩ := hr T hT X
  cases hv
  obtain ⟨t2, a1, b1⟩ := kk T' (by rw [e1, hh, h0]) (Stand.forget X' (fun q h => (hL q h).elim))
  exact ⟨t2, st t2 a1, b1⟩
theorem cRVl {y : MethodName} {k maxL n index : Nat} {bytes : ByteArray} {ret : Option FieldType} {own : String} {b : Nat} {As : List Value} {r : Int64}
    (hx : p.tables.exec = Jvm.exec) (hb : c.code = cc) (hml : c.maxLocals = nL) (hown : s.vm.findClass own = some m.cls) (hts : ∀ w ∈ wAll, w.before args s = true) (hM : cRl l G E y bytes maxL ret k tys' (.ref b :: As) wc r) (hlk : Cond.methodLink own index y ∈ wAll) (cal : calV y bytes maxL ret n)
    (hR : k + 1 ≤ R.frames ∧ 8 + (maxL + 11) + 64 * k ≤ R.locals) (hE : Ev E s) (hlow : ∀ q, A q → E.1 ≤ q) (hS : va_S A s.heap H locs)
    (hK : va_K G vwCl tys s) (tis : List Nat) (ht : tis.filterMap (fun i => tys[i]?) = tys') (hP : va_P G vwCl ws H) (is : List Nat) (hC : is.map (fun i => ws[i]?) = wc.map some) (q0 ci : Nat) {T : u_T} {N : Nat} {fs : List Value} (hc : vwCl[ci]? = some (y.cls, T, N)) (he : ws[q0]? = some (b, .inr (ci, fs)))
    (hn : As.length = n) (hl : ls.size = nL) {st : List Value} (hst : st = As.reverse ++ .ref b :: rest) (hroom : (rest.map fun v => v.category).sum ≤ 8) (hdg : decode cc pc = .ok (.invokevirtual index, 3)) (hcs : cells ≤ R.cells ∧ slots ≤ R.slots)
    (kk : W p l e R s m args below meth c H locs cells slots Q (F0 m (pc + 3) ls (.long r :: rest))) : W p l e R s m args below meth c H locs cells slots Q (F0 m pc ls st) := by
  refine va_rdl (W.runV (rm := rmK k) ⟨hx, hb, hml, hown, hts⟩ hM (cwV n hts (cal.good hlk) rfl rfl rfl cal.2.2.2.2 hR) ⟨rPre.blind, va_recv hK hP hc he, fun U hU hW => ⟨rfl, hE.go hU hW hlow hS, by rw [hU]; exact P_of_map hP is hC, va_K.moved hW.alike (hK.sub tis ht)⟩⟩ rfl hn hl hst (lv_room hroom) hdg hcs) (fun r' hr' => ?_)
  subst hr'
  exact kk
theorem cRVa {y : MethodName} {k maxL n index : Nat} {bytes : ByteArray} {ret : Option FieldType} {own : String} {b : Nat} {As : List Value} {r : Nat}
    (hx : p.tables.exec = Jvm.exec) (hb : c.code = cc) (hml : c.maxLocals = nL) (hown : s.vm.findClass own = some m.cls) (hts : ∀ w ∈ wAll, w.before args s = true) (hM : cRa l G E y bytes maxL ret k tys' (.ref b :: As) wc r) (hlk : Cond.methodLink own index y ∈ wAll) (cal : calV y bytes maxL ret n)
    (hR : k + 1 ≤ R.frames ∧ 8 + (maxL + 11) + 64 * k ≤ R.locals) (hE : Ev E s) (hlow : ∀ q, A q → E.1 ≤ q) (hS : va_S A s.heap H locs)
    (hK : va_K G vwCl tys s) (tis : List Nat) (ht : tis.filterMap (fun i => tys[i]?) = tys') (hP : va_P G vwCl ws H) (is : List Nat) (hC : is.map (fun i => ws[i]?) = wc.map some) (q0 ci : Nat) {T : u_T} {N : Nat} {fs : List Value} (hc : vwCl[ci]? = some (y.cls, T, N)) (he : ws[q0]? = some (b, .inr (ci, fs)))
    (hn : As.length = n) (hl : ls.size = nL) {st : List Value} (hst : st = As.reverse ++ .ref b :: rest) (hroom : (rest.map fun v => v.category).sum ≤ 8) (hdg : decode cc pc = .ok (.invokevirtual index, 3)) (hcs : cells ≤ R.cells ∧ slots ≤ R.slots)
    (kk : W p l e R s m args below meth c H locs cells slots Q (F0 m (pc + 3) ls (.ref r :: rest))) : W p l e R s m args below meth c H locs cells slots Q (F0 m pc ls st) :=
  va_rda (W.runV (rm := rmK k) ⟨hx, hb, hml, hown, hts⟩ hM (cwV n hts (cal.good hlk) rfl rfl rfl cal.2.2.2.2 hR) ⟨rPre.blind, va_recv hK hP hc he, fun U hU hW => ⟨rfl, hE.go hU hW hlow hS, by rw [hU]; exact P_of_map hP is hC, va_K.moved hW.alike (hK.sub tis ht)⟩⟩ rfl hn hl hst (lv_room hroom) hdg hcs) kk
end LAY2
/-- the answer of least(k) -/
def leaS (a : AccT) (k : Int32) : Int32 := match a.2 with
  | none => -9
  | some q => if k = -1 then q.1 else if k = -2 then nI q.2.1 else if nI q.2.1 ≤ k then nI (q.2.2 k.toNatClampNeg) else -9
theorem leaS_f {a : AccT} {bl : Int32} {fo : Bool} {lm lt : Int32} {lh : Nat → Int32} {k : Int32} (h : accR a bl fo lm lt lh) (hf : fo = false) : leaS a k = -9 := by
  obtain ⟨a1, a2⟩ := a
  cases a2 with
  | none => rfl
  | some q => have := h.2.2.1; rw [hf] at this; cases this
theorem leaS_t {a : AccT} {bl : Int32} {fo : Bool} {lm lt : Int32} {lh : Nat → Int32} {k : Int32} (h : accR a bl fo lm lt lh) (hf : fo = true) (hk : ¬ k = -1 → ¬ k = -2 → ∃ kn : Nat, kn < 8 ∧ k = nI kn) : leaS a k = if k = -1 then lm else if k = -2 then lt else if lt ≤ k then lh k.toNatClampNeg else -9 := by
  obtain ⟨a1, a2⟩ := a
  cases a2 with
  | none => have := h.2; rw [hf] at this; cases this
  | some q =>
    obtain ⟨-, h8, -, h3, h4, h5⟩ := h
    show (if k = -1 then q.1 else if k = -2 then nI q.2.1 else if nI q.2.1 ≤ k then nI (q.2.2 k.toNatClampNeg) else -9) = _
    rw [h3, h4]
    by_cases c1 : k = -1
    · simp [c1]
    by_cases c2 : k = -2
    · simp [c1, c2]
    obtain ⟨kn, h6, h7⟩ := hk c1 c2
    rw [if_neg c1, if_neg c2, if_neg c1, if_neg c2]
    by_cases c3 : nI q.2.1 ≤ k
    · rw [if_pos c3, if_pos c3, h7, nI_clamp (by omega)]
      refine (h5 kn ?_ h6).symm
      rcases Nat.lt_or_ge kn q.2.1 with g | g
      · rw [h7] at c3
        exact absurd c3 (nI_ge g (by omega))
      · exact g
    · rw [if_neg c3, if_neg c3]
theorem wiB_k {k : Int32} (h : wiB k (-2) 7 = true) (h1 : ¬ k = -1) (h2 : ¬ k = -2) : ∃ kn : Nat, kn < 8 ∧ k = nI kn := by
  simp only [wiB, Bool.and_eq_true, Bool.not_eq_true', decide_eq_false_iff_not] at h
  have h0 : ¬ k < 0 := by
    intro q
    have e0 : (0 : Int32).toInt = 0 := by decide
    have e1 : (-1 : Int32).toInt = -1 := by decide
    have e2 : (-2 : Int32).toInt = -2 := by decide
    have a := h.1
    rw [Int32.lt_iff_toInt_lt] at q a
    rw [← Int32.toInt_inj] at h1 h2
    omega
  obtain ⟨j, hj, rfl⟩ := nI_of h0
  have h3 : ¬ 7 < j := fun q => h.2 (nI_lt (a := 7) q hj)
  exact ⟨j, by omega, rfl⟩
theorem wiB_01 {v : Int32} (h : wiB v 0 1 = true) : v = 0 ∨ v = 1 := by
  obtain ⟨n, h1, h2, -⟩ := wiB_n (M := 1) (by omega) h
  rcases Nat.lt_or_ge n 1 with q | q
  · left; rw [h2, show n = 0 by omega]; rfl
  · right; rw [h2, show n = 1 by omega]; rfl
/-- the best rule, by rules so far: (rule, how many are safe) -/
def bruS (se wa : Nat → Int32) (hN : Nat → Nat) : Nat → Int32 × Int32
  | 0 => (0, -1)
  | k + 1 => if cntS (sfS se wa hN (nI (100 * k))) 8 < (bruS se wa hN k).2 then bruS se wa hN k else (nI (100 * k), cntS (sfS se wa hN (nI (100 * k))) 8)
theorem bruS_s (se wa : Nat → Int32) (hN : Nat → Nat) (k : Nat) : bruS se wa hN (k + 1) = if cntS (sfS se wa hN (nI (100 * k))) 8 < (bruS se wa hN k).2 then bruS se wa hN k else (nI (100 * k), cntS (sfS se wa hN (nI (100 * k))) 8) := rfl
/-- the cheapest set so far: (set, price) -/
def chpS (ok : Int32 → Bool) (pri : Int32 → Int32) : Nat → Int32 × Int32
  | 0 => (-9, -9)
  | k + 1 => if (¬ (chpS ok pri k).1 = -9 ∧ ¬ pri (nI k) < (chpS ok pri k).2) ∨ ok (nI k) = false then chpS ok pri k else (nI k, pri (nI k))
theorem chpS_s (ok : Int32 → Bool) (pri : Int32 → Int32) (k : Nat) : chpS ok pri (k + 1) = if (¬ (chpS ok pri k).1 = -9 ∧ ¬ pri (nI k) < (chpS ok pri k).2) ∨ ok (nI k) = false then chpS ok pri k else (nI k, pri (nI k)) := rfl
/-- does every way reach the aim, by a set of works -/
def okS (zo he go hd ki pl mo : Nat → Int32) (n : Nat) (am st : Int32) : Bool := !anyS (negT (reG (isES zo go) (wtD zo he go ki pl st n) (hwD zo hd ki pl mo st n)) (buG (isES zo go) (wtD zo he go ki pl st n)) am) 8
theorem shl_n : ∀ n : Nat, n ≤ 8 → (1 : Int32) <<< (nI n &&& 31) = nI (2 ^ n) := by decide +kernel
theorem pow8 : ∀ n : Nat, n ≤ 8 → 2 ^ n ≤ 256 := by decide +kernel
/-- how many bits, as the machine counts them -/
def bc1 (v : Int32) : Int32 := v - ((v.toUInt32 >>> ((1 : Int32).toUInt32 &&& Int32.toUInt32 31)).toInt32 &&& 1431655765)
def bc2 (v : Int32) : Int32 := (v &&& 858993459) + ((v.toUInt32 >>> ((2 : Int32).toUInt32 &&& Int32.toUInt32 31)).toInt32 &&& 858993459)
def bc3 (v : Int32) : Int32 := (v + (v.toUInt32 >>> ((4 : Int32).toUInt32 &&& Int32.toUInt32 31)).toInt32) &&& 252645135
def bc4 (v : Int32) : Int32 := v + (v.toUInt32 >>> ((8 : Int32).toUInt32 &&& Int32.toUInt32 31)).toInt32
def bc5 (v : Int32) : Int32 := v + (v.toUInt32 >>> ((16 : Int32).toUInt32 &&& Int32.toUInt32 31)).toInt32
def bcS (v : Int32) : Int32 := bc5 (bc4 (bc3 (bc2 (bc1 v)))) &&& 63
