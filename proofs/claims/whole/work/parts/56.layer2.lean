-- a method that writes and answers a long
def cWl (l : Launch) (G : va_G) (E : EvT) (y : MethodName) (cc : ByteArray) (maxL : Nat) (ret : Option FieldType) (k : Nat) (tys : List (ClassId × FieldType)) (av : List Value) (w : va_W) {S : Type} (post : Int64 → S → Prop) (w1 : S → va_W) : Prop :=
  ∀ sz : Nat, Met l y (wOf y cc maxL ret) (rmK k) (va_Pc av (wPre G E tys w sz)) (va_Ql post (fun u t => va_P G vwCl (w1 u) t.heap) (va_A w sz)) 0 0 (va_A w sz)
theorem mkWl {l : Launch} {G : va_G} {E : EvT} {y : MethodName} {k : Nat} {tys : List (ClassId × FieldType)} {av : List Value} {w : va_W} {S : Type} {post : Int64 → S → Prop} {w1 : S → va_W} {cc : ByteArray} {maxL : Nat} {ret : Option FieldType}
    (hy : plainName y.cls = true) (hlen : (lg_sl av).length ≤ maxL)
    (body : ∀ (p : Program) (e : Env) (s : State) (m : MethodId) (args : Array Value) (below : List Frame) (meth : Method) (c : Code), p.tables.exec = Jvm.exec → c.code = cc → meth.sig.returnType = ret → c.maxLocals = maxL → s.vm.findClass y.cls = some m.cls → (∀ w ∈ wAll, w.before args s = true) → meth.locks = false → Ev E s → va_K G vwCl tys s → ∀ A : Nat → Prop, (∀ q : Nat, s.heap.size ≤ q → A q) → (∀ q : Nat, A q → E.1 ≤ q) → ∀ (H : Heap) (locs : List Loc), va_P G vwCl w H → va_D A w → va_S A s.heap H locs → ∀ ls : Array Slot, lv_has ls maxL (lv_args 0 av) →
      W p l e (rmK k) s m args below meth c H locs 0 0 (MQ below (va_Ql post (fun u t => va_P G vwCl (w1 u) t.heap) A) args s 0 0 A) (F0 m 0 ls [])) : cWl l G E y cc maxL ret k tys av w post w1 := by
  intro sz
  refine Met.ofW (cc := cc) (maxL := maxL) (ret := ret) hy rfl ?_
  intro p e s m args below meth c s₁ B hml hv
  obtain ⟨rfl, hE, hsz, hP, hK, hD⟩ := hv
  subst hsz
  rw [lg_entry_eq]
  refine body p e s m _ below meth c B.exec B.bytes B.returns hml (findClass_of_methodNamed B.named) (fun w h => atoms_spec (ws := wOf y cc maxL ret) B.pre w (List.mem_cons_of_mem _ h)) B.notSynchronized hE hK (va_A w s.heap.size) (fun q h => Or.inr h) (fun q h => ?_) s.heap [] hP hD.self va_S.rf _ (lv_entry av hlen)
  rcases h with ⟨k, e, h⟩ | h
  · exact hD.2 k _ h
  · exact Nat.le_trans hE.1 h
section LAY3
variable {p : Program} {l : Launch} {e : Env} {R : Room} {s : State} {m : MethodId} {args : Array Value} {below : List Frame} {meth : Method} {c : Code} {H : Heap} {locs : List Loc} {cells slots : Nat} {Q : State → Prop}
variable {cc : ByteArray} {pc nL : Nat} {ls : Array Slot} {rest : List Value} {G : va_G} {E : EvT} {A : Nat → Prop} {tys tys' : List (ClassId × FieldType)} {ws wc : va_W}
theorem cWVl {y : MethodName} {k maxL n index : Nat} {bytes : ByteArray} {ret : Option FieldType} {own : String} {b : Nat} {As : List Value} {S : Type} {post : Int64 → S → Prop} {w1 : S → va_W}
    (hx : p.tables.exec = Jvm.exec) (hb : c.code = cc) (hml : c.maxLocals = nL) (hown : s.vm.findClass own = some m.cls) (hts : ∀ w ∈ wAll, w.before args s = true) (hM : cWl l G E y bytes maxL ret k tys' (.ref b :: As) wc post w1) (hlk : Cond.methodLink own index y ∈ wAll) (cal : calV y bytes maxL ret n)
    (hR : k + 1 ≤ R.frames ∧ 8 + (maxL + 11) + 64 * k ≤ R.locals) (hE : Ev E s) (hA : ∀ q : Nat, s.heap.size ≤ q → A q) (hlow : ∀ q, A q → E.1 ≤ q) (hD : va_D A ws) (hS : va_S A s.heap H locs)
    (hK : va_K G vwCl tys s) (tis : List Nat) (ht : tis.filterMap (fun i => tys[i]?) = tys') (hP : va_P G vwCl ws H) (is : List Nat) (hC : is.map (fun i => ws[i]?) = wc.map some) (hnd : va_nd is = true) (ads : List Nat) (hadc : wc.map Prod.fst = ads) (hadr : ∀ u, (w1 u).map Prod.fst = ads) (ks : List Nat) (kp : va_W) (wn : S → va_W) (nn : Nat) (hk0 : ks.map (fun i => ws[i]?) = kp.map some) (hn1 : ∀ u, is.map (fun i => (wn u)[i]?) = (w1 u).map some) (hn2 : ∀ u, ks.map (fun i => (wn u)[i]?) = kp.map some) (hnl : ∀ u, (wn u).length = nn) (hcov : ∀ i, i < nn → i ∈ is ∨ i ∈ ks) (hdis : ∀ i ∈ ks, i ∉ is) (q0 ci : Nat) {T : u_T} {N : Nat} {fs : List Value} (hc : vwCl[ci]? = some (y.cls, T, N)) (he : ws[q0]? = some (b, .inr (ci, fs)))
    (hn : As.length = n) (hl : ls.size = nL) {st : List Value} (hst : st = As.reverse ++ .ref b :: rest) (hroom : (rest.map fun v => v.category).sum ≤ 8) (hdg : decode cc pc = .ok (.invokevirtual index, 3)) (hcs : cells ≤ R.cells ∧ slots ≤ R.slots)
    (kk : ∀ (r : Int64) (u : S) (H1 : Heap) (locs1 : List Loc), post r u → va_P G vwCl (wn u) H1 → va_D A (wn u) → va_S A s.heap H1 locs1 → W p l e R s m args below meth c H1 locs1 cells slots Q (F0 m (pc + 3) ls (.long r :: rest))) : W p l e R s m args below meth c H locs cells slots Q (F0 m pc ls st) := by
  have hF := va_free (wc := wc) hD hS hA is hC
  refine va_calll (va_runV (rm := rmK k) ⟨hx, hb, hml, hown, hts⟩ (hM H.size) (cwV n hts (cal.good hlk) rfl rfl rfl cal.2.2.2.2 hR) ⟨wPre.blind, va_recv hK hP hc he, fun U hU hW => ⟨rfl, hE.go hU hW hlow hS, by rw [hU], by rw [hU]; exact P_of_map hP is hC, va_K.moved hW.alike (hK.sub tis ht), (hD.sub is hnd hC).weaken (fun _ q _ h => hlow q.1 h)⟩⟩ rfl hn hl hst (lv_room hroom) hdg hcs) hS (fun q _ h => hF q h) hF (fun r u t H1 locs1 ht1 hvm hp hB hz hk hS1 => ?_)
  subst ht1
  obtain ⟨hP1, hD1⟩ := put_join hP hD is ks nn hC hk0 (hn1 u) (hn2 u) (hnl u) hcov hdis ((hadr u).trans hadc.symm) hk hB
  exact kk r u t.heap locs1 hp hP1 hD1 hS1
theorem retWl {S : Type} {post : Int64 → S → Prop} {w1 : S → va_W} {v : Int64} (u : S) (hx : p.tables.exec = Jvm.exec) (hb : c.code = cc) (hr : meth.sig.returnType = some .long) (hlocks : meth.locks = false) (hdg : decode cc pc = .ok (.lreturn, 1)) (hS : va_S A s.heap H locs) (hv : post v u) (hP : va_P G vwCl (w1 u) H) : W p l e R s m args below meth c H locs 0 0 (MQ below (va_Ql post (fun u t => va_P G vwCl (w1 u) t.heap) A) args s 0 0 A) (F0 m pc ls [.long v]) :=
  W.lret hx hb hr (fun t ht _ => ⟨⟨v, u, rfl, hv, by show va_P G vwCl (w1 u) t.heap; rw [ht]; exact hP⟩, hS.F ht⟩) hS.2.2 hdg hlocks
end LAY3
