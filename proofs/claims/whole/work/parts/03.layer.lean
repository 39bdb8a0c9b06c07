-- MY LAYER: surroundings that never change (Ev), contracts that read (cR) and contracts that write (cWi, cWv), their entries, calls and returns
/-- E: the heap's size at the law's start; addresses of the two String constants and of their bytes; addresses of the two static rows -/
abbrev EvT : Type := Nat × (Nat → Nat) × (Nat → Nat) × Nat × Nat
abbrev evA (E : EvT) : Nat → Prop := fun q => E.1 ≤ q
def sxI : Nat → Int32 := fun j => if j = 0 then -1 else if j = 1 then 1 else 0
def syI : Nat → Int32 := fun j => if j = 2 then -1 else if j = 3 then 1 else 0
def EvH (E : EvT) (U : State) (H : Heap) : Prop :=
  va_Z "EarthBanks" "STEP_X" "[I" (.ref E.2.2.2.1) (evA E) U H ∧ va_T .int E.2.2.2.1 4 (fun j => .int (sxI j)) (evA E) U H ∧
  va_Z "EarthBanks" "STEP_Y" "[I" (.ref E.2.2.2.2) (evA E) U H ∧ va_T .int E.2.2.2.2 4 (fun j => .int (syI j)) (evA E) U H ∧
  va_Z "java/lang/String" "COMPACT_STRINGS" "Z" (.int 1) (evA E) U H ∧
  vk_S 2 [4, 3] [[122, 111, 110, 101], [114, 111, 119]] E.2.1 E.2.2.1 (evA E) U H ∧
  va_Zq "jdk/internal/util/Preconditions" "SIOOBE_FORMATTER" "Ljava/util/function/BiFunction;" (evA E) U H
def evF : List (String × Nat × String × String × String × String) := [("EarthBanks$Slice", 104, "EarthBanks", "STEP_X", "[I", "EarthBanks"), ("EarthBanks$Slice", 113, "EarthBanks", "STEP_Y", "[I", "EarthBanks")]
def evM : List (String × Nat × MethodName × String) := [("EarthBanks", 11, yX0_init, "EarthBanks"), ("EarthBanks", 38, yX5_init, "EarthBanks"), ("EarthBanks", 45, yX3_init, "EarthBanks"), ("EarthBanks", 52, yX1_init, "EarthBanks"), ("EarthBanks", 59, yX4_init, "EarthBanks"), ("EarthBanks$DamText", 58, yX6_isZone, "EarthBanks"), ("EarthBanks$DamText", 82, yX6_placeOf, "EarthBanks"), ("EarthBanks$DamText", 86, yX6_within, "EarthBanks"), ("EarthBanks$Slides", 53, yX6_placeOf, "EarthBanks")]
def EvV (E : EvT) (U : State) : Prop :=
  (∀ q ∈ evF, va_Nw (.fieldLinkNest q.1 q.2.1 q.2.2.1 q.2.2.2.1 q.2.2.2.2.1 q.2.2.2.2.2) U) ∧
  (∀ q ∈ evM, va_Nw (.methodLinkNest q.1 q.2.1 q.2.2.1 q.2.2.2) U) ∧
  vk_R "EarthBanks$DamText" 39 "zone" (E.2.1 0) U ∧ vk_R "EarthBanks$DamText" 49 "row" (E.2.1 1) U
def Ev (E : EvT) (U : State) : Prop := E.1 ≤ U.heap.size ∧ EvV E U ∧ EvH E U U.heap
theorem EvH.go {E : EvT} {s U : State} {H H1 : Heap} (h : EvH E s H) (hvm : s.vm.Alike U.vm) (hq : ∀ a : Nat, a < H.size → ¬ evA E a → H1[a]? = H[a]?) : EvH E U H1 :=
  ⟨(h.1.kept hq).moved hvm, (h.2.1.kept hq).moved hvm, (h.2.2.1.kept hq).moved hvm, (h.2.2.2.1.kept hq).moved hvm, (h.2.2.2.2.1.kept hq).moved hvm, (h.2.2.2.2.2.1.kept hq).moved hvm, (h.2.2.2.2.2.2.kept hq).moved hvm⟩
theorem Ev.go {E : EvT} {s U : State} {H : Heap} {A : Nat → Prop} {locs : List Loc} (h : Ev E s) (hU : U.heap = H) (hW : s.WarmedH U.vm) (hlow : ∀ q, A q → E.1 ≤ q) (hS : va_S A s.heap H locs) : Ev E U := by
  refine ⟨by rw [hU]; exact Nat.le_trans h.1 hS.1, ⟨fun q hq => va_Nw.warmF hW (h.2.1.1 q hq), fun q hq => va_Nw.warmM hW (h.2.1.2.1 q hq), vk_R.warm hW h.2.1.2.2.1, vk_R.warm hW h.2.1.2.2.2⟩, ?_⟩
  rw [hU]
  exact h.2.2.go hW.alike (fun a h1 h2 => hS.2.1 a h1 (fun h3 => h2 (hlow a h3)))
theorem Ev.blind {E : EvT} {U : State} (g : JFrame) (mk : MethodId) (a : Array Value) (h : Ev E U) : Ev E (U.calling g mk a) := by
  refine ⟨h.1, ⟨fun q hq => va_Nw.same rfl (rfl : U.vm = (U.calling g mk a).vm) (h.2.1.1 q hq), fun q hq => va_Nw.same rfl (rfl : U.vm = (U.calling g mk a).vm) (h.2.1.2.1 q hq), vk_R.same (rfl : (U.calling g mk a).vm = U.vm) h.2.1.2.2.1, vk_R.same (rfl : (U.calling g mk a).vm = U.vm) h.2.1.2.2.2⟩, ?_⟩
  exact h.2.2.go (s := U) (U := U.calling g mk a) (Vm.Alike.refl U.vm) (fun _ _ _ => rfl)
/-- what a reading method starts from -/
def rPre (G : va_G) (E : EvT) (tys : List (ClassId × FieldType)) (w : va_W) (U : State) : Prop := Ev E U ∧ va_P G vwCl w U.heap ∧ va_K G vwCl tys U
/-- what a writing method starts from -/
def wPre (G : va_G) (E : EvT) (tys : List (ClassId × FieldType)) (w : va_W) (sz : Nat) (U : State) : Prop := Ev E U ∧ U.heap.size = sz ∧ va_P G vwCl w U.heap ∧ va_K G vwCl tys U ∧ va_D (evA E) w
theorem rPre.blind {G : va_G} {E : EvT} {tys : List (ClassId × FieldType)} {w : va_W} {av : List Value} : FrameBlind (va_Pc av (rPre G E tys w)) := fun a U g mk q => ⟨q.1, q.2.1.blind g mk a, q.2.2.1, va_K.moved (u := U) (U := U.calling g mk a) (Vm.Alike.refl U.vm) q.2.2.2⟩
theorem wPre.blind {G : va_G} {E : EvT} {tys : List (ClassId × FieldType)} {w : va_W} {sz : Nat} {av : List Value} : FrameBlind (va_Pc av (wPre G E tys w sz)) := fun a U g mk q => ⟨q.1, q.2.1.blind g mk a, q.2.2.1, q.2.2.2.1, va_K.moved (u := U) (U := U.calling g mk a) (Vm.Alike.refl U.vm) q.2.2.2.2.1, q.2.2.2.2.2⟩
abbrev rmK (k : Nat) : Room := { frames := k, cells := 0, slots := 0, locals := 64 * k }
abbrev wOf (y : MethodName) (cc : ByteArray) (maxL : Nat) (ret : Option FieldType) : List Cond := .code y cc maxL ret :: wAll
theorem in_wAll {w : Cond} (h : w ∈ wAll) : w ∈ wAll ∧ ((w.onTables && w.keeps) = true ∨ ∃ ty, w = .arrayClass ty) := ⟨h, good_of_word (List.all_eq_true.mp wAll_good w h)⟩
theorem good_wOf {y : MethodName} {cc : ByteArray} {maxL : Nat} {ret : Option FieldType} (h : Cond.code y cc maxL ret ∈ wAll) : GoodIn wAll (wOf y cc maxL ret) := fun w hw => (List.mem_cons.mp hw).elim (fun e => by rw [e]; exact in_wAll h) in_wAll
/-- what the words say of a method that is called by its receiver (calV), of a static one (calS) -/
def calV (y : MethodName) (cc : ByteArray) (maxL : Nat) (ret : Option FieldType) (n : Nat) : Prop := Cond.code y cc maxL ret ∈ wAll ∧ Cond.initialized y.cls ∈ wAll ∧ Cond.instanceMethod y ∈ wAll ∧ Cond.selects y.cls y y ∈ wAll ∧ (y.cls = y.cls ∧ y.cls ≠ "java/lang/invoke/MethodHandle" ∧ y.cls ≠ "java/lang/invoke/VarHandle" ∧ (parseMethodDescriptor y.desc).map (fun d => d.parameters.length) = some n)
def calS (y : MethodName) (cc : ByteArray) (maxL : Nat) (ret : Option FieldType) (n : Nat) : Prop := Cond.code y cc maxL ret ∈ wAll ∧ Cond.initialized y.cls ∈ wAll ∧ Cond.static y ∈ wAll ∧ (y.cls ≠ "java/lang/invoke/MethodHandle" ∧ y.cls ≠ "java/lang/invoke/VarHandle" ∧ (parseMethodDescriptor y.desc).map (fun d => d.parameters.length) = some n)
theorem calV.good {y : MethodName} {cc : ByteArray} {maxL n : Nat} {ret : Option FieldType} (h : calV y cc maxL ret n) {own : String} {index : Nat} (hl : Cond.methodLink own index y ∈ wAll) : GoodIn wAll (wsV own index y.cls y (wOf y cc maxL ret)) := by
  intro w hw
  unfold wsV at hw
  rcases List.mem_append.mp hw with h1 | h1
  · rcases List.mem_cons.mp h1 with e | h1
    · rw [e]; exact in_wAll hl
    rcases List.mem_cons.mp h1 with e | h1
    · rw [e]; exact in_wAll h.2.2.1
    rcases List.mem_cons.mp h1 with e | h1
    · rw [e]; exact in_wAll h.2.2.2.1
    rcases List.mem_cons.mp h1 with e | h1
    · rw [e]; exact in_wAll h.2.1
    · cases h1
  · exact good_wOf h.1 w h1
theorem calS.good {y : MethodName} {cc : ByteArray} {maxL n : Nat} {ret : Option FieldType} (h : calS y cc maxL ret n) {own : String} {index : Nat} (hl : Cond.methodLink own index y ∈ wAll) : GoodIn wAll (va_wsS own index y (wOf y cc maxL ret)) := by
  intro w hw
  unfold va_wsS at hw
  rcases List.mem_append.mp hw with h1 | h1
  · rcases List.mem_cons.mp h1 with e | h1
    · rw [e]; exact in_wAll hl
    rcases List.mem_cons.mp h1 with e | h1
    · rw [e]; exact in_wAll h.2.2.1
    rcases List.mem_cons.mp h1 with e | h1
    · rw [e]; exact in_wAll h.2.1
    · cases h1
  · exact good_wOf h.1 w h1
/-- y reads the world w and answers r -/
def cR (l : Launch) (G : va_G) (E : EvT) (y : MethodName) (cc : ByteArray) (maxL : Nat) (ret : Option FieldType) (k : Nat) (tys : List (ClassId × FieldType)) (av : List Value) (w : va_W) (r : Int32) : Prop :=
  Met l y (wOf y cc maxL ret) (rmK k) (va_Pc av (rPre G E tys w)) (vp_Si (fun x => x = r)) 0 0 (fun _ => False)
/-- y changes the world w to w1 u and answers an int, with post -/
def cWi (l : Launch) (G : va_G) (E : EvT) (y : MethodName) (cc : ByteArray) (maxL : Nat) (ret : Option FieldType) (k : Nat) (tys : List (ClassId × FieldType)) (av : List Value) (w : va_W) {S : Type} (post : Int32 → S → Prop) (w1 : S → va_W) : Prop :=
  ∀ sz : Nat, Met l y (wOf y cc maxL ret) (rmK k) (va_Pc av (wPre G E tys w sz)) (va_Qi post (fun u t => va_P G vwCl (w1 u) t.heap) (va_A w sz)) 0 0 (va_A w sz)
def cWv (l : Launch) (G : va_G) (E : EvT) (y : MethodName) (cc : ByteArray) (maxL : Nat) (ret : Option FieldType) (k : Nat) (tys : List (ClassId × FieldType)) (av : List Value) (w : va_W) {S : Type} (post : S → Prop) (w1 : S → va_W) : Prop :=
  ∀ sz : Nat, Met l y (wOf y cc maxL ret) (rmK k) (va_Pc av (wPre G E tys w sz)) (va_Qv post (fun u t => va_P G vwCl (w1 u) t.heap) (va_A w sz)) 0 0 (va_A w sz)
theorem mkR {l : Launch} {G : va_G} {E : EvT} {y : MethodName} {k : Nat} {tys : List (ClassId × FieldType)} {av : List Value} {w : va_W} {r : Int32} {cc : ByteArray} {maxL : Nat} {ret : Option FieldType}
    (hy : plainName y.cls = true) (hlen : (lg_sl av).length ≤ maxL)
    (body : ∀ (p : Program) (e : Env) (s : State) (m : MethodId) (args : Array Value) (below : List Frame) (meth : Method) (c : Code), p.tables.exec = Jvm.exec → c.code = cc → meth.sig.returnType = ret → c.maxLocals = maxL → s.vm.findClass y.cls = some m.cls → (∀ w ∈ wAll, w.before args s = true) → meth.locks = false → Ev E s → va_P G vwCl w s.heap → va_K G vwCl tys s → ∀ ls : Array Slot, lv_has ls maxL (lv_args 0 av) →
      W p l e (rmK k) s m args below meth c s.heap [] 0 0 (MQ below (vp_Si (fun x => x = r)) args s 0 0 (fun _ => False)) (F0 m 0 ls [])) : cR l G E y cc maxL ret k tys av w r := by
  refine Met.ofW (cc := cc) (maxL := maxL) (ret := ret) hy rfl ?_
  intro p e s m args below meth c s₁ B hml hv
  obtain ⟨rfl, hE, hP, hK⟩ := hv
  rw [lg_entry_eq]
  exact body p e s m _ below meth c B.exec B.bytes B.returns hml (findClass_of_methodNamed B.named) (fun w h => atoms_spec (ws := wOf y cc maxL ret) B.pre w (List.mem_cons_of_mem _ h)) B.notSynchronized hE hP hK _ (lv_entry av hlen)
theorem mkWi {l : Launch} {G : va_G} {E : EvT} {y : MethodName} {k : Nat} {tys : List (ClassId × FieldType)} {av : List Value} {w : va_W} {S : Type} {post : Int32 → S → Prop} {w1 : S → va_W} {cc : ByteArray} {maxL : Nat} {ret : Option FieldType}
    (hy : plainName y.cls = true) (hlen : (lg_sl av).length ≤ maxL)
    (body : ∀ (p : Program) (e : Env) (s : State) (m : MethodId) (args : Array Value) (below : List Frame) (meth : Method) (c : Code), p.tables.exec = Jvm.exec → c.code = cc → meth.sig.returnType = ret → c.maxLocals = maxL → s.vm.findClass y.cls = some m.cls → (∀ w ∈ wAll, w.before args s = true) → meth.locks = false → Ev E s → va_K G vwCl tys s → ∀ A : Nat → Prop, (∀ q : Nat, s.heap.size ≤ q → A q) → (∀ q : Nat, A q → E.1 ≤ q) → ∀ (H : Heap) (locs : List Loc), va_P G vwCl w H → va_D A w → va_S A s.heap H locs → ∀ ls : Array Slot, lv_has ls maxL (lv_args 0 av) →
      W p l e (rmK k) s m args below meth c H locs 0 0 (MQ below (va_Qi post (fun u t => va_P G vwCl (w1 u) t.heap) A) args s 0 0 A) (F0 m 0 ls [])) : cWi l G E y cc maxL ret k tys av w post w1 := by
  intro sz
  refine Met.ofW (cc := cc) (maxL := maxL) (ret := ret) hy rfl ?_
  intro p e s m args below meth c s₁ B hml hv
  obtain ⟨rfl, hE, hsz, hP, hK, hD⟩ := hv
  subst hsz
  rw [lg_entry_eq]
  refine body p e s m _ below meth c B.exec B.bytes B.returns hml (findClass_of_methodNamed B.named) (fun w h => atoms_spec (ws := wOf y cc maxL ret) B.pre w (List.mem_cons_of_mem _ h)) B.notSynchronized hE hK (va_A w s.heap.size) (fun q h => Or.inr h) (fun q h => ?_) s.heap [] hP hD.self va_S.rf _ (lv_entry av hlen)
  rcases h with ⟨k, e, h⟩ | h
  · exact hD.2 k _ h
  · exact Nat.le_trans hE.1 h
theorem mkWv {l : Launch} {G : va_G} {E : EvT} {y : MethodName} {k : Nat} {tys : List (ClassId × FieldType)} {av : List Value} {w : va_W} {S : Type} {post : S → Prop} {w1 : S → va_W} {cc : ByteArray} {maxL : Nat} {ret : Option FieldType}
    (hy : plainName y.cls = true) (hlen : (lg_sl av).length ≤ maxL)
    (body : ∀ (p : Program) (e : Env) (s : State) (m : MethodId) (args : Array Value) (below : List Frame) (meth : Method) (c : Code), p.tables.exec = Jvm.exec → c.code = cc → meth.sig.returnType = ret → c.maxLocals = maxL → s.vm.findClass y.cls = some m.cls → (∀ w ∈ wAll, w.before args s = true) → meth.locks = false → Ev E s → va_K G vwCl tys s → ∀ A : Nat → Prop, (∀ q : Nat, s.heap.size ≤ q → A q) → (∀ q : Nat, A q → E.1 ≤ q) → ∀ (H : Heap) (locs : List Loc), va_P G vwCl w H → va_D A w → va_S A s.heap H locs → ∀ ls : Array Slot, lv_has ls maxL (lv_args 0 av) →
      W p l e (rmK k) s m args below meth c H locs 0 0 (MQ below (va_Qv post (fun u t => va_P G vwCl (w1 u) t.heap) A) args s 0 0 A) (F0 m 0 ls [])) : cWv l G E y cc maxL ret k tys av w post w1 := by
  intro sz
  refine Met.ofW (cc := cc) (maxL := maxL) (ret := ret) hy rfl ?_
  intro p e s m args below meth c s₁ B hml hv
  obtain ⟨rfl, hE, hsz, hP, hK, hD⟩ := hv
  subst hsz
  rw [lg_entry_eq]
  refine body p e s m _ below meth c B.exec B.bytes B.returns hml (findClass_of_methodNamed B.named) (fun w h => atoms_spec (ws := wOf y cc maxL ret) B.pre w (List.mem_cons_of_mem _ h)) B.notSynchronized hE hK (va_A w s.heap.size) (fun q h => Or.inr h) (fun q h => ?_) s.heap [] hP hD.self va_S.rf _ (lv_entry av hlen)
  rcases h with ⟨k, e, h⟩ | h
  · exact hD.2 k _ h
  · exact Nat.le_trans hE.1 h
/-- a world with some of its cells replaced: by the places of the callee's cells (is) and of the others (ks) -/
theorem put_join {A0 : Nat → Prop} {D : va_G} {cl : List vw_C} {ws wc w1 wn kp : va_W} {H H1 : Heap} (hP : va_P D cl ws H) (hD : va_D A0 ws) (is ks : List Nat) (n : Nat) (hC : is.map (fun i => ws[i]?) = wc.map some) (hk0 : ks.map (fun i => ws[i]?) = kp.map some)
    (hn1 : is.map (fun i => wn[i]?) = w1.map some) (hn2 : ks.map (fun i => wn[i]?) = kp.map some) (hlen : wn.length = n) (hcov : ∀ i, i < n → i ∈ is ∨ i ∈ ks) (hdis : ∀ i ∈ ks, i ∉ is) (ha : w1.map Prod.fst = wc.map Prod.fst)
    (hk : ∀ q : Nat, q < H.size → ¬ va_A wc H.size q → H1[q]? = H[q]?) (hP1 : va_P D cl w1 H1) : va_P D cl wn H1 ∧ va_D A0 wn := by
  have look : ∀ {is : List Nat} {u v : va_W}, is.map (fun i => u[i]?) = v.map some → ∀ (j i : Nat), is[j]? = some i → ∃ q, u[i]? = some q ∧ v[j]? = some q := by
    intro is u v h j i h1
    have h3 : (is.map (fun i => u[i]?))[j]? = (v.map some)[j]? := by rw [h]
    rw [List.getElem?_map, List.getElem?_map, h1] at h3
    cases hv : v[j]? with
    | none => rw [hv] at h3; cases h3
    | some q => rw [hv] at h3; exact ⟨q, Option.some.inj h3, rfl⟩
  have fst : ∀ (j : Nat) (q q' : Nat × va_E), w1[j]? = some q → wc[j]? = some q' → q'.1 = q.1 := by
    intro j q q' h1 h2
    have h3 : (w1.map Prod.fst)[j]? = (wc.map Prod.fst)[j]? := by rw [ha]
    rw [List.getElem?_map, List.getElem?_map, h1, h2] at h3
    exact (Option.some.inj h3).symm
  have key : ∀ (k : Nat) (q : Nat × va_E), wn[k]? = some q → (∃ (j : Nat) (q' : Nat × va_E), is[j]? = some k ∧ w1[j]? = some q ∧ ws[k]? = some q' ∧ q'.1 = q.1) ∨ (k ∉ is ∧ ws[k]? = some q) := by
    intro k q h
    have hkn : k < n := by rw [← hlen]; exact (List.getElem?_eq_some_iff.mp h).1
    rcases hcov k hkn with h1 | h1
    · obtain ⟨j, hj⟩ := List.getElem?_of_mem h1
      obtain ⟨q1, h2, h3⟩ := look hn1 j k hj
      obtain ⟨q2, h4, h5⟩ := look hC j k hj
      rw [h] at h2
      cases h2
      exact Or.inl ⟨j, q2, hj, h3, h4, fst j _ _ h3 h5⟩
    · obtain ⟨j, hj⟩ := List.getElem?_of_mem h1
      obtain ⟨q1, h2, h3⟩ := look hn2 j k hj
      obtain ⟨q2, h4, h5⟩ := look hk0 j k hj
      rw [h] at h2
      cases h2
      rw [h3] at h5
      cases h5
      exact Or.inr ⟨hdis k h1, h4⟩
  have adr : ∀ (k : Nat) (q : Nat × va_E), wn[k]? = some q → ∃ q', ws[k]? = some q' ∧ q'.1 = q.1 := by
    intro k q h
    rcases key k q h with ⟨j, q', _, _, h3, h4⟩ | ⟨_, h2⟩
    · exact ⟨q', h3, h4⟩
    · exact ⟨q, h2, rfl⟩
  refine ⟨fun k q h => ?_, fun i j p q h1 h2 h3 => ?_, fun k q h => ?_⟩
  · rcases key k q h with ⟨j, q', _, h2, _, _⟩ | ⟨h1, h2⟩
    · exact hP1 j q h2
    · refine (hP k q h2).kept (hk q.1 (hP k q h2).lt (fun h3 => ?_))
      rcases h3 with ⟨j, e, h3⟩ | h3
      · have hj : ∃ i, is[j]? = some i := by
          have h4 := congrArg List.length hC
          simp at h4
          have h5 : j < wc.length := (List.getElem?_eq_some_iff.mp h3).1
          exact ⟨is[j]'(by omega), List.getElem?_eq_getElem (by omega)⟩
        obtain ⟨i, hi⟩ := hj
        obtain ⟨q2, h4, h5⟩ := look hC j i hi
        rw [h3] at h5
        cases h5
        have h6 := hD.1 k i q (q.1, e) h2 h4 rfl
        subst h6
        exact h1 (List.mem_of_getElem? hi)
      · exact absurd (hP k q h2).lt (Nat.not_lt.mpr h3)
  · obtain ⟨p', h4, h5⟩ := adr i p h1
    obtain ⟨q', h6, h7⟩ := adr j q h2
    exact hD.1 i j p' q' h4 h6 (by rw [h5, h7, h3])
  · obtain ⟨q', h4, h5⟩ := adr k q h
    rw [← h5]
    exact hD.2 k q' h4
theorem P_of_map {D : va_G} {cl : List vw_C} {ws wc : va_W} {H : Heap} (hP : va_P D cl ws H) (is : List Nat) (hC : is.map (fun i => ws[i]?) = wc.map some) : va_P D cl wc H := by
  intro j q h
  have h3 : (is.map (fun i => ws[i]?))[j]? = (wc.map some)[j]? := by rw [hC]
  rw [List.getElem?_map, List.getElem?_map, h] at h3
  cases hi : is[j]? with
  | none => rw [hi] at h3; cases h3
  | some i => rw [hi] at h3; exact hP i q (Option.some.inj h3)
section LAY
variable {p : Program} {l : Launch} {e : Env} {R : Room} {s : State} {m : MethodId} {args : Array Value} {below : List Frame} {meth : Method} {c : Code} {H : Heap} {locs : List Loc} {cells slots : Nat} {Q : State → Prop}
variable {cc : ByteArray} {pc nL : Nat} {ls : Array Slot} {rest : List Value} {G : va_G} {E : EvT} {A : Nat → Prop} {tys tys' : List (ClassId × FieldType)} {ws wc : va_W}
theorem top_eq {x y : Int32} (h : x = y) (k : W p l e R s m args below meth c H locs cells slots Q (F0 m pc ls (.int y :: rest))) : W p l e R s m args below meth c H locs cells slots Q (F0 m pc ls (.int x :: rest)) := h ▸ k
theorem topl_eq {x y : Int64} (h : x = y) (k : W p l e R s m args below meth c H locs cells slots Q (F0 m pc ls (.long y :: rest))) : W p l e R s m args below meth c H locs cells slots Q (F0 m pc ls (.long x :: rest)) := h ▸ k
/-- a reading call, by the receiver -/
theorem cRV {y : MethodName} {k maxL n index : Nat} {bytes : ByteArray} {ret : Option FieldType} {own : String} {b : Nat} {As : List Value} {r : Int32}
    (hx : p.tables.exec = Jvm.exec) (hb : c.code = cc) (hml : c.maxLocals = nL) (hown : s.vm.findClass own = some m.cls) (hts : ∀ w ∈ wAll, w.before args s = true) (hM : cR l G E y bytes maxL ret k tys' (.ref b :: As) wc r) (hlk : Cond.methodLink own index y ∈ wAll) (cal : calV y bytes maxL ret n)
    (hR : k + 1 ≤ R.frames ∧ 8 + (maxL + 11) + 64 * k ≤ R.locals) (hE : Ev E s) (hlow : ∀ q, A q → E.1 ≤ q) (hS : va_S A s.heap H locs)
    (hK : va_K G vwCl tys s) (tis : List Nat) (ht : tis.filterMap (fun i => tys[i]?) = tys') (hP : va_P G vwCl ws H) (is : List Nat) (hC : is.map (fun i => ws[i]?) = wc.map some) (q0 ci : Nat) {T : u_T} {N : Nat} {fs : List Value} (hc : vwCl[ci]? = some (y.cls, T, N)) (he : ws[q0]? = some (b, .inr (ci, fs)))
    (hn : As.length = n) (hl : ls.size = nL) {st : List Value} (hst : st = As.reverse ++ .ref b :: rest) (hroom : (rest.map fun v => v.category).sum ≤ 8) (hdg : decode cc pc = .ok (.invokevirtual index, 3)) (hcs : cells ≤ R.cells ∧ slots ≤ R.slots)
    (kk : W p l e R s m args below meth c H locs cells slots Q (F0 m (pc + 3) ls (.int r :: rest))) : W p l e R s m args below meth c H locs cells slots Q (F0 m pc ls st) := by
  refine vp_callSi (W.runV (rm := rmK k) ⟨hx, hb, hml, hown, hts⟩ hM (cwV n hts (cal.good hlk) rfl rfl rfl cal.2.2.2.2 hR) ⟨rPre.blind, va_recv hK hP hc he, fun U hU hW => ⟨rfl, hE.go hU hW hlow hS, by rw [hU]; exact P_of_map hP is hC, va_K.moved hW.alike (hK.sub tis ht)⟩⟩ rfl hn hl hst (lv_room hroom) hdg hcs) (fun r' hr' => ?_)
  subst hr'
  exact kk
/-- a reading call of a static method -/
theorem cRS {y : MethodName} {k maxL n index : Nat} {bytes : ByteArray} {ret : Option FieldType} {own : String} {As : List Value} {r : Int32}
    (hx : p.tables.exec = Jvm.exec) (hb : c.code = cc) (hml : c.maxLocals = nL) (hown : s.vm.findClass own = some m.cls) (hts : ∀ w ∈ wAll, w.before args s = true) (hM : cR l G E y bytes maxL ret k tys' As wc r) (hlk : Cond.methodLink own index y ∈ wAll) (cal : calS y bytes maxL ret n)
    (hR : k + 1 ≤ R.frames ∧ 8 + (maxL + 11) + 64 * k ≤ R.locals) (hE : Ev E s) (hlow : ∀ q, A q → E.1 ≤ q) (hS : va_S A s.heap H locs)
    (hK : va_K G vwCl tys s) (tis : List Nat) (ht : tis.filterMap (fun i => tys[i]?) = tys') (hP : va_P G vwCl ws H) (is : List Nat) (hC : is.map (fun i => ws[i]?) = wc.map some)
    (hn : As.length = n) (hl : ls.size = nL) {st : List Value} (hst : st = As.reverse ++ rest) (hroom : (rest.map fun v => v.category).sum ≤ 8) (hdg : decode cc pc = .ok (.invokestatic index, 3)) (hcs : cells ≤ R.cells ∧ slots ≤ R.slots)
    (kk : W p l e R s m args below meth c H locs cells slots Q (F0 m (pc + 3) ls (.int r :: rest))) : W p l e R s m args below meth c H locs cells slots Q (F0 m pc ls st) := by
  refine vp_callSi (W.runS (rm := rmK k) ⟨hx, hb, hml, hown, hts⟩ hM (va_cwS n hts (cal.good hlk) rfl rfl rfl cal.2.2.2 hR) ⟨rPre.blind, fun U hU hW => ⟨rfl, hE.go hU hW hlow hS, by rw [hU]; exact P_of_map hP is hC, va_K.moved hW.alike (hK.sub tis ht)⟩⟩ rfl hn hl hst (lv_room hroom) hdg hcs) (fun r' hr' => ?_)
  subst hr'
  exact kk
/-- a reading call whose contract is of a va_Run (nest mates) -/
theorem va_rdi {post : Int32 → Prop} {a : Array Value} {st0 : List Value} (hr : va_Run p l e R s m args below meth c H locs cells slots 0 0 (F0 m pc ls st0) rest (vp_Si post a) (fun _ => False))
    (kk : ∀ r : Int32, post r → W p l e R s m args below meth c H locs cells slots Q (F0 m (pc + 3) ls (.int r :: rest))) : W p l e R s m args below meth c H locs cells slots Q (F0 m pc ls st0) := by
  intro T hT X
  obtain ⟨v, st₀, t, T', L, h0, X', hL, e1, e2, ⟨r, hv, hp, hh⟩, st⟩ := hr T hT X
  cases hv
  obtain ⟨t2, a1, b1⟩ := kk r hp T' (by rw [e1, hh, h0]) (Stand.forget X' (fun q h => (hL q h).elim))
  exact ⟨t2, st t2 a1, b1⟩
theorem cRSN {y : MethodName} {k maxL n index : Nat} {bytes : ByteArray} {ret : Option FieldType} {own host : String} {As : List Value} {r : Int32}
    (hx : p.tables.exec = Jvm.exec) (hb : c.code = cc) (hml : c.maxLocals = nL) (hown : s.vm.findClass own = some m.cls) (hts : ∀ w ∈ wAll, w.before args s = true) (hM : cR l G E y bytes maxL ret k tys' As wc r) (hnw : va_Nw (.methodLinkNest own index y host) s) (cal : calS y bytes maxL ret n)
    (hR : k + 1 ≤ R.frames ∧ 8 + (maxL + 11) + 64 * k ≤ R.locals) (hE : Ev E s) (hlow : ∀ q, A q → E.1 ≤ q) (hS : va_S A s.heap H locs)
    (hK : va_K G vwCl tys s) (tis : List Nat) (ht : tis.filterMap (fun i => tys[i]?) = tys') (hP : va_P G vwCl ws H) (is : List Nat) (hC : is.map (fun i => ws[i]?) = wc.map some)
    (hn : As.length = n) (hl : ls.size = nL) {st : List Value} (hst : st = As.reverse ++ rest) (hroom : (rest.map fun v => v.category).sum ≤ 8) (hdg : decode cc pc = .ok (.invokestatic index, 3)) (hcs : cells ≤ R.cells ∧ slots ≤ R.slots)
    (kk : W p l e R s m args below meth c H locs cells slots Q (F0 m (pc + 3) ls (.int r :: rest))) : W p l e R s m args below meth c H locs cells slots Q (F0 m pc ls st) := by
  refine va_rdi (va_runSN (rm := rmK k) ⟨hx, hb, hml, hown, hts⟩ hM ⟨va_cnB n hts (good_wOf cal.1) rfl rfl rfl hnw (hts _ cal.2.1) cal.2.2.2 hR, hts _ cal.2.2.1, trivial⟩ ⟨rPre.blind, fun U hU hW => ⟨rfl, hE.go hU hW hlow hS, by rw [hU]; exact P_of_map hP is hC, va_K.moved hW.alike (hK.sub tis ht)⟩⟩ rfl hn hl hst (lv_room hroom) hdg hcs) (fun r' hr' => ?_)
  subst hr'
  exact kk
/-- a writing call, by the receiver, that answers an int -/
theorem cWVi {y : MethodName} {k maxL n index : Nat} {bytes : ByteArray} {ret : Option FieldType} {own : String} {b : Nat} {As : List Value} {S : Type} {post : Int32 → S → Prop} {w1 : S → va_W}
    (hx : p.tables.exec = Jvm.exec) (hb : c.code = cc) (hml : c.maxLocals = nL) (hown : s.vm.findClass own = some m.cls) (hts : ∀ w ∈ wAll, w.before args s = true) (hM : cWi l G E y bytes maxL ret k tys' (.ref b :: As) wc post w1) (hlk : Cond.methodLink own index y ∈ wAll) (cal : calV y bytes maxL ret n)
    (hR : k + 1 ≤ R.frames ∧ 8 + (maxL + 11) + 64 * k ≤ R.locals) (hE : Ev E s) (hA : ∀ q : Nat, s.heap.size ≤ q → A q) (hlow : ∀ q, A q → E.1 ≤ q) (hD : va_D A ws) (hS : va_S A s.heap H locs)
    (hK : va_K G vwCl tys s) (tis : List Nat) (ht : tis.filterMap (fun i => tys[i]?) = tys') (hP : va_P G vwCl ws H) (is : List Nat) (hC : is.map (fun i => ws[i]?) = wc.map some) (hnd : va_nd is = true) (ads : List Nat) (hadc : wc.map Prod.fst = ads) (hadr : ∀ u, (w1 u).map Prod.fst = ads) (ks : List Nat) (kp : va_W) (wn : S → va_W) (nn : Nat) (hk0 : ks.map (fun i => ws[i]?) = kp.map some) (hn1 : ∀ u, is.map (fun i => (wn u)[i]?) = (w1 u).map some) (hn2 : ∀ u, ks.map (fun i => (wn u)[i]?) = kp.map some) (hnl : ∀ u, (wn u).length = nn) (hcov : ∀ i, i < nn → i ∈ is ∨ i ∈ ks) (hdis : ∀ i ∈ ks, i ∉ is) (q0 ci : Nat) {T : u_T} {N : Nat} {fs : List Value} (hc : vwCl[ci]? = some (y.cls, T, N)) (he : ws[q0]? = some (b, .inr (ci, fs)))
    (hn : As.length = n) (hl : ls.size = nL) {st : List Value} (hst : st = As.reverse ++ .ref b :: rest) (hroom : (rest.map fun v => v.category).sum ≤ 8) (hdg : decode cc pc = .ok (.invokevirtual index, 3)) (hcs : cells ≤ R.cells ∧ slots ≤ R.slots)
    (kk : ∀ (r : Int32) (u : S) (H1 : Heap) (locs1 : List Loc), post r u → va_P G vwCl (wn u) H1 → va_D A (wn u) → va_S A s.heap H1 locs1 → W p l e R s m args below meth c H1 locs1 cells slots Q (F0 m (pc + 3) ls (.int r :: rest))) : W p l e R s m args below meth c H locs cells slots Q (F0 m pc ls st) := by
  have hF := va_free (wc := wc) hD hS hA is hC
  refine va_calli (va_runV (rm := rmK k) ⟨hx, hb, hml, hown, hts⟩ (hM H.size) (cwV n hts (cal.good hlk) rfl rfl rfl cal.2.2.2.2 hR) ⟨wPre.blind, va_recv hK hP hc he, fun U hU hW => ⟨rfl, hE.go hU hW hlow hS, by rw [hU], by rw [hU]; exact P_of_map hP is hC, va_K.moved hW.alike (hK.sub tis ht), (hD.sub is hnd hC).weaken (fun _ q _ h => hlow q.1 h)⟩⟩ rfl hn hl hst (lv_room hroom) hdg hcs) hS (fun q _ h => hF q h) hF (fun r u t H1 locs1 ht1 hvm hp hB hz hk hS1 => ?_)
  subst ht1
  obtain ⟨hP1, hD1⟩ := put_join hP hD is ks nn hC hk0 (hn1 u) (hn2 u) (hnl u) hcov hdis ((hadr u).trans hadc.symm) hk hB
  exact kk r u t.heap locs1 hp hP1 hD1 hS1
theorem cWVv {y : MethodName} {k maxL n index : Nat} {bytes : ByteArray} {ret : Option FieldType} {own : String} {b : Nat} {As : List Value} {S : Type} {post : S → Prop} {w1 : S → va_W}
    (hx : p.tables.exec = Jvm.exec) (hb : c.code = cc) (hml : c.maxLocals = nL) (hown : s.vm.findClass own = some m.cls) (hts : ∀ w ∈ wAll, w.before args s = true) (hM : cWv l G E y bytes maxL ret k tys' (.ref b :: As) wc post w1) (hlk : Cond.methodLink own index y ∈ wAll) (cal : calV y bytes maxL ret n)
    (hR : k + 1 ≤ R.frames ∧ 8 + (maxL + 11) + 64 * k ≤ R.locals) (hE : Ev E s) (hA : ∀ q : Nat, s.heap.size ≤ q → A q) (hlow : ∀ q, A q → E.1 ≤ q) (hD : va_D A ws) (hS : va_S A s.heap H locs)
    (hK : va_K G vwCl tys s) (tis : List Nat) (ht : tis.filterMap (fun i => tys[i]?) = tys') (hP : va_P G vwCl ws H) (is : List Nat) (hC : is.map (fun i => ws[i]?) = wc.map some) (hnd : va_nd is = true) (ads : List Nat) (hadc : wc.map Prod.fst = ads) (hadr : ∀ u, (w1 u).map Prod.fst = ads) (ks : List Nat) (kp : va_W) (wn : S → va_W) (nn : Nat) (hk0 : ks.map (fun i => ws[i]?) = kp.map some) (hn1 : ∀ u, is.map (fun i => (wn u)[i]?) = (w1 u).map some) (hn2 : ∀ u, ks.map (fun i => (wn u)[i]?) = kp.map some) (hnl : ∀ u, (wn u).length = nn) (hcov : ∀ i, i < nn → i ∈ is ∨ i ∈ ks) (hdis : ∀ i ∈ ks, i ∉ is) (q0 ci : Nat) {T : u_T} {N : Nat} {fs : List Value} (hc : vwCl[ci]? = some (y.cls, T, N)) (he : ws[q0]? = some (b, .inr (ci, fs)))
    (hn : As.length = n) (hl : ls.size = nL) {st : List Value} (hst : st = As.reverse ++ .ref b :: rest) (hroom : (rest.map fun v => v.category).sum ≤ 8) (hdg : decode cc pc = .ok (.invokevirtual index, 3)) (hcs : cells ≤ R.cells ∧ slots ≤ R.slots)
    (kk : ∀ (u : S) (H1 : Heap) (locs1 : List Loc), post u → va_P G vwCl (wn u) H1 → va_D A (wn u) → va_S A s.heap H1 locs1 → W p l e R s m args below meth c H1 locs1 cells slots Q (F0 m (pc + 3) ls rest)) : W p l e R s m args below meth c H locs cells slots Q (F0 m pc ls st) := by
  have hF := va_free (wc := wc) hD hS hA is hC
  refine va_callv (va_runV (rm := rmK k) ⟨hx, hb, hml, hown, hts⟩ (hM H.size) (cwV n hts (cal.good hlk) rfl rfl rfl cal.2.2.2.2 hR) ⟨wPre.blind, va_recv hK hP hc he, fun U hU hW => ⟨rfl, hE.go hU hW hlow hS, by rw [hU], by rw [hU]; exact P_of_map hP is hC, va_K.moved hW.alike (hK.sub tis ht), (hD.sub is hnd hC).weaken (fun _ q _ h => hlow q.1 h)⟩⟩ rfl hn hl hst (lv_room hroom) hdg hcs) hS (fun q _ h => hF q h) hF (fun u t H1 locs1 ht1 hvm hp hB hz hk hS1 => ?_)
  subst ht1
  obtain ⟨hP1, hD1⟩ := put_join hP hD is ks nn hC hk0 (hn1 u) (hn2 u) (hnl u) hcov hdis ((hadr u).trans hadc.symm) hk hB
  exact kk u t.heap locs1 hp hP1 hD1 hS1
theorem cWSv {y : MethodName} {k maxL n index : Nat} {bytes : ByteArray} {ret : Option FieldType} {own : String} {As : List Value} {S : Type} {post : S → Prop} {w1 : S → va_W}
    (hx : p.tables.exec = Jvm.exec) (hb : c.code = cc) (hml : c.maxLocals = nL) (hown : s.vm.findClass own = some m.cls) (hts : ∀ w ∈ wAll, w.before args s = true) (hM : cWv l G E y bytes maxL ret k tys' As wc post w1) (hlk : Cond.methodLink own index y ∈ wAll) (cal : calS y bytes maxL ret n)
    (hR : k + 1 ≤ R.frames ∧ 8 + (maxL + 11) + 64 * k ≤ R.locals) (hE : Ev E s) (hA : ∀ q : Nat, s.heap.size ≤ q → A q) (hlow : ∀ q, A q → E.1 ≤ q) (hD : va_D A ws) (hS : va_S A s.heap H locs)
    (hK : va_K G vwCl tys s) (tis : List Nat) (ht : tis.filterMap (fun i => tys[i]?) = tys') (hP : va_P G vwCl ws H) (is : List Nat) (hC : is.map (fun i => ws[i]?) = wc.map some) (hnd : va_nd is = true) (ads : List Nat) (hadc : wc.map Prod.fst = ads) (hadr : ∀ u, (w1 u).map Prod.fst = ads) (ks : List Nat) (kp : va_W) (wn : S → va_W) (nn : Nat) (hk0 : ks.map (fun i => ws[i]?) = kp.map some) (hn1 : ∀ u, is.map (fun i => (wn u)[i]?) = (w1 u).map some) (hn2 : ∀ u, ks.map (fun i => (wn u)[i]?) = kp.map some) (hnl : ∀ u, (wn u).length = nn) (hcov : ∀ i, i < nn → i ∈ is ∨ i ∈ ks) (hdis : ∀ i ∈ ks, i ∉ is)
    (hn : As.length = n) (hl : ls.size = nL) {st : List Value} (hst : st = As.reverse ++ rest) (hroom : (rest.map fun v => v.category).sum ≤ 8) (hdg : decode cc pc = .ok (.invokestatic index, 3)) (hcs : cells ≤ R.cells ∧ slots ≤ R.slots)
    (kk : ∀ (u : S) (H1 : Heap) (locs1 : List Loc), post u → va_P G vwCl (wn u) H1 → va_D A (wn u) → va_S A s.heap H1 locs1 → W p l e R s m args below meth c H1 locs1 cells slots Q (F0 m (pc + 3) ls rest)) : W p l e R s m args below meth c H locs cells slots Q (F0 m pc ls st) := by
  have hF := va_free (wc := wc) hD hS hA is hC
  refine va_callv (va_runS (rm := rmK k) ⟨hx, hb, hml, hown, hts⟩ (hM H.size) (va_cwS n hts (cal.good hlk) rfl rfl rfl cal.2.2.2 hR) ⟨wPre.blind, fun U hU hW => ⟨rfl, hE.go hU hW hlow hS, by rw [hU], by rw [hU]; exact P_of_map hP is hC, va_K.moved hW.alike (hK.sub tis ht), (hD.sub is hnd hC).weaken (fun _ q _ h => hlow q.1 h)⟩⟩ rfl hn hl hst (lv_room hroom) hdg hcs) hS (fun q _ h => hF q h) hF (fun u t H1 locs1 ht1 hvm hp hB hz hk hS1 => ?_)
  subst ht1
  obtain ⟨hP1, hD1⟩ := put_join hP hD is ks nn hC hk0 (hn1 u) (hn2 u) (hnl u) hcov hdis ((hadr u).trans hadc.symm) hk hB
  exact kk u t.heap locs1 hp hP1 hD1 hS1
/-- array reads and writes at a place that is a number -/
theorem ialdN (hx : p.tables.exec = Jvm.exec) (hb : c.code = cc) (hK : va_K G vwCl tys s) (hP : va_P G vwCl ws H) (q0 t0 : Nat) {a : Nat} {cA : ClassId} {n : Nat} {f : Nat → Int32} (ha : ws[q0]? = some (a, .inl (cA, n, .inl f))) (ht : tys[t0]? = some (cA, .int)) {j : Nat} (hj : j < n) (hn : n < 2147483648) (hdg : decode cc pc = .ok (.iaload, 1))
    (kk : W p l e R s m args below meth c H locs cells slots Q (F0 m (pc + 1) ls (.int (f j) :: rest))) : W p l e R s m args below meth c H locs cells slots Q (F0 m pc ls (.int (nI j) :: .ref a :: rest)) := by
  refine va_iald hx hb hK hP q0 t0 ha ht (vp_in_nI hj hn) hdg ?_
  rw [nI_clamp (Nat.lt_trans hj hn)]
  exact kk
theorem iastN (hx : p.tables.exec = Jvm.exec) (hb : c.code = cc) (hK : va_K G vwCl tys s) (hP : va_P G vwCl ws H) {H0 : Heap} (hD : va_D A ws) (hS : va_S A H0 H locs) (q0 t0 : Nat) {a : Nat} {cA : ClassId} {n : Nat} {f : Nat → Int32} (ha : ws[q0]? = some (a, .inl (cA, n, .inl f))) (ht : tys[t0]? = some (cA, .int)) {j : Nat} {x : Int32} (hj : j < n) (hn : n < 2147483648) (hdg : decode cc pc = .ok (.iastore, 1))
    (kk : ∀ (H1 : Heap) (locs1 : List Loc), va_P G vwCl (ws.set q0 (a, .inl (cA, n, .inl (upd f j x)))) H1 → va_D A (ws.set q0 (a, .inl (cA, n, .inl (upd f j x)))) → va_S A H0 H1 locs1 → W p l e R s m args below meth c H1 locs1 cells slots Q (F0 m (pc + 1) ls rest)) : W p l e R s m args below meth c H locs cells slots Q (F0 m pc ls (.int x :: .int (nI j) :: .ref a :: rest)) := by
  refine va_iast hx hb hK hP hD hS q0 t0 ha ht (vp_in_nI hj hn) hdg ?_
  rw [nI_clamp (Nat.lt_trans hj hn)]
  exact kk
theorem zaldN (hx : p.tables.exec = Jvm.exec) (hb : c.code = cc) (hK : va_K G vwCl tys s) (hP : va_P G vwCl ws H) (q0 t0 : Nat) {a : Nat} {cA : ClassId} {n : Nat} {f : Nat → Int32} (ha : ws[q0]? = some (a, .inl (cA, n, .inl f))) (ht : tys[t0]? = some (cA, .boolean)) {j : Nat} (hj : j < n) (hn : n < 2147483648) (hdg : decode cc pc = .ok (.baload, 1))
    (kk : W p l e R s m args below meth c H locs cells slots Q (F0 m (pc + 1) ls (.int (f j) :: rest))) : W p l e R s m args below meth c H locs cells slots Q (F0 m pc ls (.int (nI j) :: .ref a :: rest)) := by
  refine va_zald hx hb hK hP q0 t0 ha ht (vp_in_nI hj hn) hdg ?_
  rw [nI_clamp (Nat.lt_trans hj hn)]
  exact kk
theorem zastN (hx : p.tables.exec = Jvm.exec) (hb : c.code = cc) (hK : va_K G vwCl tys s) (hP : va_P G vwCl ws H) {H0 : Heap} (hD : va_D A ws) (hS : va_S A H0 H locs) (q0 t0 : Nat) {a : Nat} {cA : ClassId} {n : Nat} {f : Nat → Int32} (ha : ws[q0]? = some (a, .inl (cA, n, .inl f))) (ht : tys[t0]? = some (cA, .boolean)) {j : Nat} {x : Int32} (hj : j < n) (hn : n < 2147483648) (hnar : vp_nar .boolean x = x) (hdg : decode cc pc = .ok (.bastore, 1))
    (kk : ∀ (H1 : Heap) (locs1 : List Loc), va_P G vwCl (ws.set q0 (a, .inl (cA, n, .inl (upd f j x)))) H1 → va_D A (ws.set q0 (a, .inl (cA, n, .inl (upd f j x)))) → va_S A H0 H1 locs1 → W p l e R s m args below meth c H1 locs1 cells slots Q (F0 m (pc + 1) ls rest)) : W p l e R s m args below meth c H locs cells slots Q (F0 m pc ls (.int x :: .int (nI j) :: .ref a :: rest)) := by
  refine va_zast hx hb hK hP hD hS q0 t0 ha ht (vp_in_nI hj hn) hdg ?_
  rw [nI_clamp (Nat.lt_trans hj hn), hnar]
  exact kk
/-- returns -/
theorem retR {ty : FieldType} {r v : Int32} (hx : p.tables.exec = Jvm.exec) (hb : c.code = cc) (hr : meth.sig.returnType = some ty) (hn : narrow ty (.int v) = .int v) (hlocks : meth.locks = false) (hdg : decode cc pc = .ok (.ireturn, 1)) (hv : v = r) : W p l e R s m args below meth c s.heap [] 0 0 (MQ below (vp_Si (fun x => x = r)) args s 0 0 (fun _ => False)) (F0 m pc ls [.int v]) :=
  W.zret hx hb hr hn (fun t ht _ => ⟨v, rfl, hv, ht⟩) (fun _ h => by cases h) hdg hlocks
theorem retWi {ty : FieldType} {S : Type} {post : Int32 → S → Prop} {w1 : S → va_W} {v : Int32} (u : S) (hx : p.tables.exec = Jvm.exec) (hb : c.code = cc) (hr : meth.sig.returnType = some ty) (hn : narrow ty (.int v) = .int v) (hlocks : meth.locks = false) (hdg : decode cc pc = .ok (.ireturn, 1)) (hS : va_S A s.heap H locs) (hv : post v u) (hP : va_P G vwCl (w1 u) H) : W p l e R s m args below meth c H locs 0 0 (MQ below (va_Qi post (fun u t => va_P G vwCl (w1 u) t.heap) A) args s 0 0 A) (F0 m pc ls [.int v]) :=
  W.zret hx hb hr hn (fun t ht _ => ⟨⟨v, u, rfl, hv, by show va_P G vwCl (w1 u) t.heap; rw [ht]; exact hP⟩, hS.F ht⟩) hS.2.2 hdg hlocks
theorem retWv {S : Type} {post : S → Prop} {w1 : S → va_W} (u : S) (hx : p.tables.exec = Jvm.exec) (hb : c.code = cc) (hr : meth.sig.returnType = none) (hlocks : meth.locks = false) (hdg : decode cc pc = .ok (.return_, 1)) (hS : va_S A s.heap H locs) (hv : post u) (hP : va_P G vwCl (w1 u) H) : W p l e R s m args below meth c H locs 0 0 (MQ below (va_Qv post (fun u t => va_P G vwCl (w1 u) t.heap) A) args s 0 0 A) (F0 m pc ls []) :=
  W.vret hx hb hr (fun t ht _ => ⟨⟨u, rfl, hv, by show va_P G vwCl (w1 u) t.heap; rw [ht]; exact hP⟩, hS.F ht⟩) hS.2.2 hdg hlocks
end LAY
/-- a row's contents count below its length alone -/
theorem cell_congr {cA : ClassId} {n : Nat} {f g : Nat → Int32} (h : ∀ k, k < n → f k = g k) : vp_cell cA (n, .inl f) = vp_cell cA (n, .inl g) := by
  rw [vp_cell_i, vp_cell_i]
  unfold arrV
  congr 1
  apply Array.ext
  · simp
  · intro i h1 h2
    simp at h1
    simp [h i h1]
theorem P_swap {G : va_G} {cl : List vw_C} {ws : va_W} {H : Heap} (hP : va_P G cl ws H) (q0 : Nat) {a : Nat} {cA : ClassId} {n : Nat} {f : Nat → Int32} (g : Nat → Int32) (ha : ws[q0]? = some (a, .inl (cA, n, .inl f))) (h : ∀ k, k < n → f k = g k) : va_P G cl (ws.set q0 (a, .inl (cA, n, .inl g))) H := by
  intro k q hk
  rw [List.getElem?_set] at hk
  split at hk
  · split at hk
    · cases hk
      have h1 := hP q0 _ ha
      show H[a]? = some (vp_cell cA (n, .inl g))
      rw [← cell_congr h]
      exact h1
    · cases hk
  · exact hP k q hk
theorem D_swap {A : Nat → Prop} {ws : va_W} (hD : va_D A ws) (q0 : Nat) {a : Nat} {e : va_E} (e2 : va_E) (ha : ws[q0]? = some (a, e)) : va_D A (ws.set q0 (a, e2)) := by
  have key : ∀ (k : Nat) (q : Nat × va_E), (ws.set q0 (a, e2))[k]? = some q → ∃ q', ws[k]? = some q' ∧ q'.1 = q.1 := by
    intro k q hk
    rw [List.getElem?_set] at hk
    split at hk
    · rename_i h1
      split at hk
      · cases hk
        subst h1
        exact ⟨_, ha, rfl⟩
      · cases hk
    · exact ⟨q, hk, rfl⟩
  refine ⟨fun i j p q h1 h2 h3 => ?_, fun k q h => ?_⟩
  · obtain ⟨p', h4, h5⟩ := key i p h1
    obtain ⟨q', h6, h7⟩ := key j q h2
    exact hD.1 i j p' q' h4 h6 (by rw [h5, h7, h3])
  · obtain ⟨q', h4, h5⟩ := key k q h
    rw [← h5]
    exact hD.2 k q' h4
theorem cpy_all {f g : Nat → Int32} {n k : Nat} (h : k < n) : va_cpy f g 0 0 n k = f k := by
  rw [pk_cpy_in (Nat.zero_le k) (by omega)]
  congr 1
  omega
/-- truth as an int -/
def bI (b : Bool) : Int32 := if b then 1 else 0
theorem bI_f {b : Bool} (h : bI b = 0) : b = false := by cases b with | false => rfl | true => exact absurd h (by decide)
theorem bI_t {b : Bool} (h : ¬ bI b = 0) : b = true := by cases b with | true => rfl | false => exact absurd rfl h
theorem bI_n (b : Bool) : narrow .boolean (.int (bI b)) = .int (bI b) := by cases b <;> rfl
theorem bI_1 : bI true = 1 := rfl
theorem bI_0 : bI false = 0 := rfl
