-- THE LAW'S LAYER: contracts over a whole world, calls from a world of two halves
def upr (R : Nat → Nat → Int32) (i : Nat) (f : Nat → Int32) : Nat → Nat → Int32 := fun j => bif Nat.beq j i then f else R j
def upv (V : Nat → Int32) (i : Nat) (x : Int32) : Nat → Int32 := fun j => bif Nat.beq j i then x else V j
def upu (U : Nat → Nat) (i : Nat) (x : Nat) : Nat → Nat := fun j => bif Nat.beq j i then x else U j
theorem vaA_mono {ws wc : va_W} {sz : Nat} (is : List Nat) (hC : is.map (fun i => ws[i]?) = wc.map some) : ∀ q, va_A wc sz q → va_A ws sz q := by
  rintro q (⟨k, e, h⟩ | h)
  · have h1 : (is.map (fun i => ws[i]?))[k]? = some (some (q, e)) := by rw [hC, List.getElem?_map, h]; rfl
    rw [List.getElem?_map] at h1
    cases hi : is[k]? with
    | none => rw [hi] at h1; cases h1
    | some i =>
      rw [hi] at h1
      exact Or.inl ⟨i, e, Option.some.inj h1⟩
  · exact Or.inr h
theorem cWi_frame {l : Launch} {G : va_G} {E : EvT} {y : MethodName} {cc : ByteArray} {maxL : Nat} {ret : Option FieldType} {k : Nat} {tys : List (ClassId × FieldType)} {av : List Value} {ws wc : va_W} {S S' : Type} {post : Int32 → S → Prop} {w1 : S → va_W} {post' : Int32 → S' → Prop} {w1' : S' → va_W}
    (h : cWi l G E y cc maxL ret k tys av wc post w1) (f : S → S') (is ks : List Nat) (kp : va_W) (nn : Nat) (ads : List Nat) (hC : is.map (fun i => ws[i]?) = wc.map some) (hnd : va_nd is = true) (hadc : wc.map Prod.fst = ads) (hadr : ∀ u, (w1 u).map Prod.fst = ads) (hk0 : ks.map (fun i => ws[i]?) = kp.map some)
    (hn1 : ∀ u, is.map (fun i => (w1' (f u))[i]?) = (w1 u).map some) (hn2 : ∀ u, ks.map (fun i => (w1' (f u))[i]?) = kp.map some) (hnl : ∀ u, (w1' (f u)).length = nn) (hcov : ∀ i, i < nn → i ∈ is ∨ i ∈ ks) (hdis : ∀ i ∈ ks, i ∉ is) (hpost : ∀ r u, post r u → post' r (f u)) : cWi l G E y cc maxL ret k tys av ws post' w1' := by
  intro sz
  refine MetFree.mono (h sz) (fun a s q => ?_) (fun _ _ _ _ _ z => z) (fun a s o t q z => ?_)
  · exact ⟨q.1, q.2.1, q.2.2.1, P_of_map q.2.2.2.1 is hC, q.2.2.2.2.1, q.2.2.2.2.2.sub is hnd hC⟩
  · obtain ⟨-, -, hsz, hP, -, hD⟩ := q
    obtain ⟨⟨⟨r, u, e1, e2, e3⟩, hF⟩, L, hL, hfree⟩ := z
    have hm : ∀ q, va_A wc sz q → va_A ws sz q := vaA_mono is hC
    have hj := put_join hP hD is ks nn hC hk0 (hn1 u) (hn2 u) (hnl u) hcov hdis ((hadr u).trans hadc.symm) (fun q h1 h2 => hF.2 q h1 (by rw [hsz] at h2; exact h2)) e3
    exact ⟨⟨⟨r, f u, e1, hpost r u e2, hj.1⟩, hF.1, fun q h1 h2 => hF.2 q h1 (fun z => h2 (hm q z))⟩, L, hL, fun q hq => hm _ (hfree q hq)⟩
theorem cWl_frame {l : Launch} {G : va_G} {E : EvT} {y : MethodName} {cc : ByteArray} {maxL : Nat} {ret : Option FieldType} {k : Nat} {tys : List (ClassId × FieldType)} {av : List Value} {ws wc : va_W} {S S' : Type} {post : Int64 → S → Prop} {w1 : S → va_W} {post' : Int64 → S' → Prop} {w1' : S' → va_W}
    (h : cWl l G E y cc maxL ret k tys av wc post w1) (f : S → S') (is ks : List Nat) (kp : va_W) (nn : Nat) (ads : List Nat) (hC : is.map (fun i => ws[i]?) = wc.map some) (hnd : va_nd is = true) (hadc : wc.map Prod.fst = ads) (hadr : ∀ u, (w1 u).map Prod.fst = ads) (hk0 : ks.map (fun i => ws[i]?) = kp.map some)
    (hn1 : ∀ u, is.map (fun i => (w1' (f u))[i]?) = (w1 u).map some) (hn2 : ∀ u, ks.map (fun i => (w1' (f u))[i]?) = kp.map some) (hnl : ∀ u, (w1' (f u)).length = nn) (hcov : ∀ i, i < nn → i ∈ is ∨ i ∈ ks) (hdis : ∀ i ∈ ks, i ∉ is) (hpost : ∀ r u, post r u → post' r (f u)) : cWl l G E y cc maxL ret k tys av ws post' w1' := by
  intro sz
  refine MetFree.mono (h sz) (fun a s q => ?_) (fun _ _ _ _ _ z => z) (fun a s o t q z => ?_)
  · exact ⟨q.1, q.2.1, q.2.2.1, P_of_map q.2.2.2.1 is hC, q.2.2.2.2.1, q.2.2.2.2.2.sub is hnd hC⟩
  · obtain ⟨-, -, hsz, hP, -, hD⟩ := q
    obtain ⟨⟨⟨r, u, e1, e2, e3⟩, hF⟩, L, hL, hfree⟩ := z
    have hm : ∀ q, va_A wc sz q → va_A ws sz q := vaA_mono is hC
    have hj := put_join hP hD is ks nn hC hk0 (hn1 u) (hn2 u) (hnl u) hcov hdis ((hadr u).trans hadc.symm) (fun q h1 h2 => hF.2 q h1 (by rw [hsz] at h2; exact h2)) e3
    exact ⟨⟨⟨r, f u, e1, hpost r u e2, hj.1⟩, hF.1, fun q h1 h2 => hF.2 q h1 (fun z => h2 (hm q z))⟩, L, hL, fun q hq => hm _ (hfree q hq)⟩
theorem cR_frame {l : Launch} {G : va_G} {E : EvT} {y : MethodName} {cc : ByteArray} {maxL : Nat} {ret : Option FieldType} {k : Nat} {tys : List (ClassId × FieldType)} {av : List Value} {ws wc : va_W} {S' : Type} {r : Int32} {w1' : S' → va_W}
    (h : cR l G E y cc maxL ret k tys av wc r) (u0 : S') (hu : w1' u0 = ws) (is : List Nat) (hC : is.map (fun i => ws[i]?) = wc.map some) : cWi l G E y cc maxL ret k tys av ws (fun x _ => x = r) w1' := by
  intro sz
  have h' : Met l y (wOf y cc maxL ret) (rmK k) (va_Pc av (rPre G E tys wc)) (vp_Si (fun x => x = r)) 0 0 (fun _ => False) := h
  refine MetFree.mono h' (fun a s q => ?_) (fun _ _ _ _ _ z => z) (fun a s o t q z => ?_)
  · exact ⟨q.1, q.2.1, P_of_map q.2.2.2.1 is hC, q.2.2.2.2.1⟩
  · obtain ⟨-, -, hsz, hP, -, hD⟩ := q
    obtain ⟨⟨v, e1, e2, e3⟩, L, hL, hfree⟩ := z
    exact ⟨⟨⟨v, u0, e1, e2, by show va_P G vwCl (w1' u0) t.heap; rw [hu, e3]; exact hP⟩, by rw [e3]; exact Nat.le_refl _, fun q h1 h2 => by rw [e3]⟩, L, hL, fun q hq => (hfree q hq).elim⟩
theorem cRl_frame {l : Launch} {G : va_G} {E : EvT} {y : MethodName} {cc : ByteArray} {maxL : Nat} {ret : Option FieldType} {k : Nat} {tys : List (ClassId × FieldType)} {av : List Value} {ws wc : va_W} {S' : Type} {r : Int64} {w1' : S' → va_W}
    (h : cRl l G E y cc maxL ret k tys av wc r) (u0 : S') (hu : w1' u0 = ws) (is : List Nat) (hC : is.map (fun i => ws[i]?) = wc.map some) : cWl l G E y cc maxL ret k tys av ws (fun x _ => x = r) w1' := by
  intro sz
  have h' : Met l y (wOf y cc maxL ret) (rmK k) (va_Pc av (rPre G E tys wc)) (vp_Sl (fun x => x = r)) 0 0 (fun _ => False) := h
  refine MetFree.mono h' (fun a s q => ?_) (fun _ _ _ _ _ z => z) (fun a s o t q z => ?_)
  · exact ⟨q.1, q.2.1, P_of_map q.2.2.2.1 is hC, q.2.2.2.2.1⟩
  · obtain ⟨-, -, hsz, hP, -, hD⟩ := q
    obtain ⟨⟨v, e1, e2, e3⟩, L, hL, hfree⟩ := z
    exact ⟨⟨⟨v, u0, e1, e2, by show va_P G vwCl (w1' u0) t.heap; rw [hu, e3]; exact hP⟩, by rw [e3]; exact Nat.le_refl _, fun q h1 h2 => by rw [e3]⟩, L, hL, fun q hq => (hfree q hq).elim⟩
/-- a contract's end may be told otherwise, cell by cell the same -/
theorem cWi_post {l : Launch} {G : va_G} {E : EvT} {y : MethodName} {cc : ByteArray} {maxL : Nat} {ret : Option FieldType} {k : Nat} {tys : List (ClassId × FieldType)} {av : List Value} {ws : va_W} {S S' : Type} {post : Int32 → S → Prop} {w1 : S → va_W} {post' : Int32 → S' → Prop} {w1' : S' → va_W}
    (h : cWi l G E y cc maxL ret k tys av ws post w1) (f : S → S') (hp : ∀ r u, post r u → post' r (f u)) (hw : ∀ r u H, post r u → va_P G vwCl (w1 u) H → va_P G vwCl (w1' (f u)) H) : cWi l G E y cc maxL ret k tys av ws post' w1' := by
  intro sz
  refine MetFree.mono (h sz) (fun a s q => q) (fun _ _ _ _ _ z => z) (fun a s o t q z => ?_)
  obtain ⟨⟨⟨r, u, e1, e2, e3⟩, hF⟩, hL⟩ := z
  exact ⟨⟨⟨r, f u, e1, hp r u e2, hw r u _ e2 e3⟩, hF⟩, hL⟩
theorem D_fst {A : Nat → Prop} {ws ws' : va_W} (ha : ws'.map Prod.fst = ws.map Prod.fst) (hD : va_D A ws) : va_D A ws' := by
  have key : ∀ (k : Nat) (q : Nat × va_E), ws'[k]? = some q → ∃ q', ws[k]? = some q' ∧ q'.1 = q.1 := by
    intro k q hk
    have h3 : (ws'.map Prod.fst)[k]? = (ws.map Prod.fst)[k]? := by rw [ha]
    rw [List.getElem?_map, List.getElem?_map, hk] at h3
    cases hw : ws[k]? with
    | none => rw [hw] at h3; cases h3
    | some q' => rw [hw] at h3; exact ⟨q', rfl, (Option.some.inj h3).symm⟩
  refine ⟨fun i j p q h1 h2 h3 => ?_, fun k q h => ?_⟩
  · obtain ⟨p', h4, h5⟩ := key i p h1
    obtain ⟨q', h6, h7⟩ := key j q h2
    exact hD.1 i j p' q' h4 h6 (by rw [h5, h7, h3])
  · obtain ⟨q', h4, h5⟩ := key k q h
    rw [← h5]
    exact hD.2 k q' h4
theorem at_l {wx wm : va_W} {k : Nat} {q : Nat × va_E} (h : wx[k]? = some q) : (wx ++ wm)[k]? = some q := by
  rw [List.getElem?_append_left (List.getElem?_eq_some_iff.mp h).1]; exact h
theorem at_r {wx wm : va_W} {k : Nat} {q : Nat × va_E} (h : wm[k]? = some q) : (wx ++ wm)[wx.length + k]? = some q := by
  rw [List.getElem?_append_right (by omega), Nat.add_sub_cancel_left]; exact h
theorem P_l {G : va_G} {wx wm : va_W} {H : Heap} (h : va_P G vwCl (wx ++ wm) H) : va_P G vwCl wx H := fun k q hk => h k q (at_l hk)
theorem P_r {G : va_G} {wx wm : va_W} {H : Heap} (h : va_P G vwCl (wx ++ wm) H) : va_P G vwCl wm H := fun k q hk => h _ q (at_r hk)
theorem D_l {A : Nat → Prop} {wx wm : va_W} (h : va_D A (wx ++ wm)) : va_D A wx := ⟨fun i j p q h1 h2 h3 => h.1 i j p q (at_l h1) (at_l h2) h3, fun k q hk => h.2 k q (at_l hk)⟩
theorem D_r {A : Nat → Prop} {wx wm : va_W} (h : va_D A (wx ++ wm)) : va_D A wm := ⟨fun i j p q h1 h2 h3 => by have := h.1 _ _ p q (at_r h1) (at_r h2) h3; omega, fun k q hk => h.2 _ q (at_r hk)⟩
theorem join_l {G : va_G} {A : Nat → Prop} {wx wm wx' : va_W} {H H1 : Heap} (hP : va_P G vwCl (wx ++ wm) H) (hD : va_D A (wx ++ wm)) (ha : wx'.map Prod.fst = wx.map Prod.fst) (hk : ∀ q : Nat, q < H.size → ¬ va_A wx H.size q → H1[q]? = H[q]?) (hP1 : va_P G vwCl wx' H1) : va_P G vwCl (wx' ++ wm) H1 ∧ va_D A (wx' ++ wm) := by
  refine ⟨hP1.app ((P_r hP).kept (fun k q h => ?_)), D_fst (by rw [List.map_append, List.map_append, ha]) hD⟩
  have hlt := (P_r hP k q h).lt
  refine hk q.1 hlt ?_
  rintro (⟨j, e, hj⟩ | hz)
  · have h1 := hD.1 j (wx.length + k) _ _ (at_l hj) (at_r h) rfl
    have h2 := (List.getElem?_eq_some_iff.mp hj).1
    omega
  · omega
theorem join_r {G : va_G} {A : Nat → Prop} {wx wm wm' : va_W} {H H1 : Heap} (hP : va_P G vwCl (wx ++ wm) H) (hD : va_D A (wx ++ wm)) (ha : wm'.map Prod.fst = wm.map Prod.fst) (hk : ∀ q : Nat, q < H.size → ¬ va_A wm H.size q → H1[q]? = H[q]?) (hP1 : va_P G vwCl wm' H1) : va_P G vwCl (wx ++ wm') H1 ∧ va_D A (wx ++ wm') := by
  refine ⟨((P_l hP).kept (fun k q h => ?_)).app hP1, D_fst (by rw [List.map_append, List.map_append, ha]) hD⟩
  have hlt := (P_l hP k q h).lt
  refine hk q.1 hlt ?_
  rintro (⟨j, e, hj⟩ | hz)
  · have h1 := hD.1 k (wx.length + j) _ _ (at_l h) (at_r hj) rfl
    have h2 := (List.getElem?_eq_some_iff.mp h).1
    omega
  · omega
theorem A_l {A : Nat → Prop} {wx wm : va_W} {H0 H : Heap} {locs : List Loc} (hD : va_D A (wx ++ wm)) (hS : va_S A H0 H locs) (hA : ∀ q, H0.size ≤ q → A q) : ∀ q, va_A wx H.size q → A q := by
  rintro q (⟨k, e, h⟩ | h)
  · exact hD.2 k _ (at_l h)
  · exact hA q (Nat.le_trans hS.1 h)
theorem A_r {A : Nat → Prop} {wx wm : va_W} {H0 H : Heap} {locs : List Loc} (hD : va_D A (wx ++ wm)) (hS : va_S A H0 H locs) (hA : ∀ q, H0.size ≤ q → A q) : ∀ q, va_A wm H.size q → A q := by
  rintro q (⟨k, e, h⟩ | h)
  · exact hD.2 _ _ (at_r h)
  · exact hA q (Nat.le_trans hS.1 h)
section LAW1
variable {p : Program} {l : Launch} {e : Env} {R : Room} {s : State} {m : MethodId} {args : Array Value} {below : List Frame} {meth : Method} {c : Code} {H : Heap} {locs : List Loc} {cells slots : Nat} {Q : State → Prop}
variable {cc : ByteArray} {pc nL : Nat} {ls : Array Slot} {rest : List Value} {G : va_G} {E : EvT} {A : Nat → Prop} {tys : List (ClassId × FieldType)} {wx wm : va_W}
theorem lawLi {y : MethodName} {k maxL n index : Nat} {bytes : ByteArray} {ret : Option FieldType} {own : String} {b : Nat} {As : List Value} {S : Type} {post : Int32 → S → Prop} {w1 : S → va_W}
    (hx : p.tables.exec = Jvm.exec) (hb : c.code = cc) (hml : c.maxLocals = nL) (hown : s.vm.findClass own = some m.cls) (hts : ∀ w ∈ wAll, w.before args s = true) (hM : cWi l G E y bytes maxL ret k tys (.ref b :: As) wx post w1) (hlk : Cond.methodLink own index y ∈ wAll) (cal : calV y bytes maxL ret n)
    (hR : k + 1 ≤ R.frames ∧ 8 + (maxL + 11) + 64 * k ≤ R.locals) (hE : Ev E s) (hA : ∀ q : Nat, s.heap.size ≤ q → A q) (hlow : ∀ q, A q → E.1 ≤ q) (hD : va_D A (wx ++ wm)) (hS : va_S A s.heap H locs)
    (hK : va_K G vwCl tys s) (hP : va_P G vwCl (wx ++ wm) H) (hadr : ∀ u, (w1 u).map Prod.fst = wx.map Prod.fst) (q0 ci : Nat) {T : u_T} {N : Nat} {fs : List Value} (hc : vwCl[ci]? = some (y.cls, T, N)) (he : wx[q0]? = some (b, .inr (ci, fs)))
    (hn : As.length = n) (hl : ls.size = nL) {st : List Value} (hst : st = As.reverse ++ .ref b :: rest) (hroom : (rest.map fun v => v.category).sum ≤ 8) (hdg : decode cc pc = .ok (.invokevirtual index, 3)) (hcs : cells ≤ R.cells ∧ slots ≤ R.slots)
    (kk : ∀ (r : Int32) (u : S) (H1 : Heap) (locs1 : List Loc), post r u → va_P G vwCl (w1 u ++ wm) H1 → va_D A (w1 u ++ wm) → va_S A s.heap H1 locs1 → W p l e R s m args below meth c H1 locs1 cells slots Q (F0 m (pc + 3) ls (.int r :: rest))) : W p l e R s m args below meth c H locs cells slots Q (F0 m pc ls st) := by
  have hF := A_l hD hS hA
  refine va_calli (va_runV (rm := rmK k) ⟨hx, hb, hml, hown, hts⟩ (hM H.size) (cwV n hts (cal.good hlk) rfl rfl rfl cal.2.2.2.2 hR) ⟨wPre.blind, va_recv hK (P_l hP) hc he, fun U hU hW => ⟨rfl, hE.go hU hW hlow hS, by rw [hU], by rw [hU]; exact P_l hP, va_K.moved hW.alike hK, (D_l hD).weaken (fun _ q _ h => hlow q.1 h)⟩⟩ rfl hn hl hst (lv_room hroom) hdg hcs) hS (fun q _ h => hF q h) hF (fun r u t H1 locs1 ht1 hvm hp hB hz hk hS1 => ?_)
  subst ht1
  obtain ⟨hP1, hD1⟩ := join_l hP hD (hadr u) hk hB
  exact kk r u t.heap locs1 hp hP1 hD1 hS1
theorem lawLl {y : MethodName} {k maxL n index : Nat} {bytes : ByteArray} {ret : Option FieldType} {own : String} {b : Nat} {As : List Value} {S : Type} {post : Int64 → S → Prop} {w1 : S → va_W}
    (hx : p.tables.exec = Jvm.exec) (hb : c.code = cc) (hml : c.maxLocals = nL) (hown : s.vm.findClass own = some m.cls) (hts : ∀ w ∈ wAll, w.before args s = true) (hM : cWl l G E y bytes maxL ret k tys (.ref b :: As) wx post w1) (hlk : Cond.methodLink own index y ∈ wAll) (cal : calV y bytes maxL ret n)
    (hR : k + 1 ≤ R.frames ∧ 8 + (maxL + 11) + 64 * k ≤ R.locals) (hE : Ev E s) (hA : ∀ q : Nat, s.heap.size ≤ q → A q) (hlow : ∀ q, A q → E.1 ≤ q) (hD : va_D A (wx ++ wm)) (hS : va_S A s.heap H locs)
    (hK : va_K G vwCl tys s) (hP : va_P G vwCl (wx ++ wm) H) (hadr : ∀ u, (w1 u).map Prod.fst = wx.map Prod.fst) (q0 ci : Nat) {T : u_T} {N : Nat} {fs : List Value} (hc : vwCl[ci]? = some (y.cls, T, N)) (he : wx[q0]? = some (b, .inr (ci, fs)))
    (hn : As.length = n) (hl : ls.size = nL) {st : List Value} (hst : st = As.reverse ++ .ref b :: rest) (hroom : (rest.map fun v => v.category).sum ≤ 8) (hdg : decode cc pc = .ok (.invokevirtual index, 3)) (hcs : cells ≤ R.cells ∧ slots ≤ R.slots)
    (kk : ∀ (r : Int64) (u : S) (H1 : Heap) (locs1 : List Loc), post r u → va_P G vwCl (w1 u ++ wm) H1 → va_D A (w1 u ++ wm) → va_S A s.heap H1 locs1 → W p l e R s m args below meth c H1 locs1 cells slots Q (F0 m (pc + 3) ls (.long r :: rest))) : W p l e R s m args below meth c H locs cells slots Q (F0 m pc ls st) := by
  have hF := A_l hD hS hA
  refine va_calll (va_runV (rm := rmK k) ⟨hx, hb, hml, hown, hts⟩ (hM H.size) (cwV n hts (cal.good hlk) rfl rfl rfl cal.2.2.2.2 hR) ⟨wPre.blind, va_recv hK (P_l hP) hc he, fun U hU hW => ⟨rfl, hE.go hU hW hlow hS, by rw [hU], by rw [hU]; exact P_l hP, va_K.moved hW.alike hK, (D_l hD).weaken (fun _ q _ h => hlow q.1 h)⟩⟩ rfl hn hl hst (lv_room hroom) hdg hcs) hS (fun q _ h => hF q h) hF (fun r u t H1 locs1 ht1 hvm hp hB hz hk hS1 => ?_)
  subst ht1
  obtain ⟨hP1, hD1⟩ := join_l hP hD (hadr u) hk hB
  exact kk r u t.heap locs1 hp hP1 hD1 hS1
theorem lawRi {y : MethodName} {k maxL n index : Nat} {bytes : ByteArray} {ret : Option FieldType} {own : String} {b : Nat} {As : List Value} {S : Type} {post : Int32 → S → Prop} {w1 : S → va_W}
    (hx : p.tables.exec = Jvm.exec) (hb : c.code = cc) (hml : c.maxLocals = nL) (hown : s.vm.findClass own = some m.cls) (hts : ∀ w ∈ wAll, w.before args s = true) (hM : cWi l G E y bytes maxL ret k tys (.ref b :: As) wm post w1) (hlk : Cond.methodLink own index y ∈ wAll) (cal : calV y bytes maxL ret n)
    (hR : k + 1 ≤ R.frames ∧ 8 + (maxL + 11) + 64 * k ≤ R.locals) (hE : Ev E s) (hA : ∀ q : Nat, s.heap.size ≤ q → A q) (hlow : ∀ q, A q → E.1 ≤ q) (hD : va_D A (wx ++ wm)) (hS : va_S A s.heap H locs)
    (hK : va_K G vwCl tys s) (hP : va_P G vwCl (wx ++ wm) H) (hadr : ∀ u, (w1 u).map Prod.fst = wm.map Prod.fst) (q0 ci : Nat) {T : u_T} {N : Nat} {fs : List Value} (hc : vwCl[ci]? = some (y.cls, T, N)) (he : wm[q0]? = some (b, .inr (ci, fs)))
    (hn : As.length = n) (hl : ls.size = nL) {st : List Value} (hst : st = As.reverse ++ .ref b :: rest) (hroom : (rest.map fun v => v.category).sum ≤ 8) (hdg : decode cc pc = .ok (.invokevirtual index, 3)) (hcs : cells ≤ R.cells ∧ slots ≤ R.slots)
    (kk : ∀ (r : Int32) (u : S) (H1 : Heap) (locs1 : List Loc), post r u → va_P G vwCl (wx ++ w1 u) H1 → va_D A (wx ++ w1 u) → va_S A s.heap H1 locs1 → W p l e R s m args below meth c H1 locs1 cells slots Q (F0 m (pc + 3) ls (.int r :: rest))) : W p l e R s m args below meth c H locs cells slots Q (F0 m pc ls st) := by
  have hF := A_r hD hS hA
  refine va_calli (va_runV (rm := rmK k) ⟨hx, hb, hml, hown, hts⟩ (hM H.size) (cwV n hts (cal.good hlk) rfl rfl rfl cal.2.2.2.2 hR) ⟨wPre.blind, va_recv hK (P_r hP) hc he, fun U hU hW => ⟨rfl, hE.go hU hW hlow hS, by rw [hU], by rw [hU]; exact P_r hP, va_K.moved hW.alike hK, (D_r hD).weaken (fun _ q _ h => hlow q.1 h)⟩⟩ rfl hn hl hst (lv_room hroom) hdg hcs) hS (fun q _ h => hF q h) hF (fun r u t H1 locs1 ht1 hvm hp hB hz hk hS1 => ?_)
  subst ht1
  obtain ⟨hP1, hD1⟩ := join_r hP hD (hadr u) hk hB
  exact kk r u t.heap locs1 hp hP1 hD1 hS1
theorem lawRl {y : MethodName} {k maxL n index : Nat} {bytes : ByteArray} {ret : Option FieldType} {own : String} {b : Nat} {As : List Value} {S : Type} {post : Int64 → S → Prop} {w1 : S → va_W}
    (hx : p.tables.exec = Jvm.exec) (hb : c.code = cc) (hml : c.maxLocals = nL) (hown : s.vm.findClass own = some m.cls) (hts : ∀ w ∈ wAll, w.before args s = true) (hM : cWl l G E y bytes maxL ret k tys (.ref b :: As) wm post w1) (hlk : Cond.methodLink own index y ∈ wAll) (cal : calV y bytes maxL ret n)
    (hR : k + 1 ≤ R.frames ∧ 8 + (maxL + 11) + 64 * k ≤ R.locals) (hE : Ev E s) (hA : ∀ q : Nat, s.heap.size ≤ q → A q) (hlow : ∀ q, A q → E.1 ≤ q) (hD : va_D A (wx ++ wm)) (hS : va_S A s.heap H locs)
    (hK : va_K G vwCl tys s) (hP : va_P G vwCl (wx ++ wm) H) (hadr : ∀ u, (w1 u).map Prod.fst = wm.map Prod.fst) (q0 ci : Nat) {T : u_T} {N : Nat} {fs : List Value} (hc : vwCl[ci]? = some (y.cls, T, N)) (he : wm[q0]? = some (b, .inr (ci, fs)))
    (hn : As.length = n) (hl : ls.size = nL) {st : List Value} (hst : st = As.reverse ++ .ref b :: rest) (hroom : (rest.map fun v => v.category).sum ≤ 8) (hdg : decode cc pc = .ok (.invokevirtual index, 3)) (hcs : cells ≤ R.cells ∧ slots ≤ R.slots)
    (kk : ∀ (r : Int64) (u : S) (H1 : Heap) (locs1 : List Loc), post r u → va_P G vwCl (wx ++ w1 u) H1 → va_D A (wx ++ w1 u) → va_S A s.heap H1 locs1 → W p l e R s m args below meth c H1 locs1 cells slots Q (F0 m (pc + 3) ls (.long r :: rest))) : W p l e R s m args below meth c H locs cells slots Q (F0 m pc ls st) := by
  have hF := A_r hD hS hA
  refine va_calll (va_runV (rm := rmK k) ⟨hx, hb, hml, hown, hts⟩ (hM H.size) (cwV n hts (cal.good hlk) rfl rfl rfl cal.2.2.2.2 hR) ⟨wPre.blind, va_recv hK (P_r hP) hc he, fun U hU hW => ⟨rfl, hE.go hU hW hlow hS, by rw [hU], by rw [hU]; exact P_r hP, va_K.moved hW.alike hK, (D_r hD).weaken (fun _ q _ h => hlow q.1 h)⟩⟩ rfl hn hl hst (lv_room hroom) hdg hcs) hS (fun q _ h => hF q h) hF (fun r u t H1 locs1 ht1 hvm hp hB hz hk hS1 => ?_)
  subst ht1
  obtain ⟨hP1, hD1⟩ := join_r hP hD (hadr u) hk hB
  exact kk r u t.heap locs1 hp hP1 hD1 hS1
end LAW1
