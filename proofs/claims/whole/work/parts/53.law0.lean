/-! METHODS WITH HANDLERS -/
theorem hv_self (vm : Vm) (c : ClassId) : vm.assignable c c = true := by
  show vm.assignableAux _ c c = true
  unfold Vm.assignableAux
  simp
section HVWITH
variable {p : Program} {l : Launch} {e : Env} {R : Room} {s : State} {m : MethodId} {args : Array Value} {below : List Frame} {meth : Method} {c : Code} {H : Heap} {locs : List Loc} {cells slots : Nat} {Q : State → Prop}
variable {cc : ByteArray} {pc : Nat} {ls : Array Slot} {rest : List Value} {D : va_G} {w : hv_W} {s0 : State} {tys : List (ClassId × FieldType)}
variable {post : Option Value → hv_W → Prop} {postT : Nat → hv_W → Prop}
abbrev hv_row (h : ExceptionTableEntry) : Nat × Nat × Nat × Nat := (h.startPc, h.endPc, h.handlerPc, h.catchType)
theorem hv_enterW {y : MethodName} {maxL mc ms : Nat} {ret : Option FieldType} {av : List Value} {hs : List (Nat × Nat × Nat × Nat)} (C : hv_C l s0 D tys) (rm : Room) (hy : plainName y.cls = true) (hlen : (lg_sl av).length ≤ maxL)
    (body : ∀ (p : Program) (e : Env) (s : State) (m : MethodId) (below : List Frame) (meth : Method) (c : Code) (ls : Array Slot) (Q : State → Prop), Q = hv_MQ below (hv_Q s0 D post postT) av.toArray s mc ms (hv_A s0.heap.size) → p.tables.exec = Jvm.exec → c.code = cc → meth.sig.returnType = ret → c.maxLocals = maxL → s.vm.findClass y.cls = some m.cls → (∀ w ∈ hv_Ts, w.before av.toArray s = true) → va_K D classes tys s → hv_Z s0 s → meth.locks = false → meth.name = y.name →
      c.exceptionTable.toList.map hv_row = hs → e.platform.stackTraces = false → hv_P D classes s0.heap.size w s.heap → lv_has ls maxL (lv_args 0 av) →
      W p l e rm s m av.toArray below meth c s.heap [] 0 0 Q (F0 m 0 ls [])) :
    hv_Met l y [.codeWith y cc maxL ret hs] rm (hv_Pc s0 D w av) (hv_Q s0 D post postT) mc ms (hv_A s0.heap.size) := by
  refine MetFree.of_bodyS (code := cc) (maxLocals := maxL) (ret := ret) hy ?_ ?_
  · intro args s m h hn
    obtain ⟨m', meth, c, h0, h1, h2, h3, h4, -, h5, h6, -⟩ := Cond.codeWith_spec (atoms_spec (ws := [.codeWith y cc maxL ret hs]) h _ List.mem_cons_self)
    cases hn.symm.trans h0
    exact ⟨meth, c, h1, h2, h3, h4, h5, h6⟩
  · intro p e s m args below meth c s₁ B hml hPc _
    obtain ⟨rfl, hZ, hP⟩ := hPc
    have hh0 : s₁.heap = s.heap := by rw [B.state]; rfl
    obtain ⟨m', meth', c', g0, g1, g2, -, -, g5, -, -, -⟩ := Cond.codeWith_spec (atoms_spec (ws := [.codeWith y cc maxL ret hs]) B.pre _ List.mem_cons_self)
    cases B.named.symm.trans g0
    cases B.method.symm.trans g1
    cases (Stand.of_body B).code.symm.trans g2
    have htr : e.platform.stackTraces = false := by rw [hv_follows B.admits]; exact C.2.2
    have hl := lv_entry av (n := maxL) hlen
    have K := body p e s m below meth c _ _ rfl B.exec B.bytes B.returns hml (findClass_of_methodNamed B.named) (hv_words C hZ.1) (va_K.moved hZ.1.alike C.1) hZ B.notSynchronized (name_of_methodNamed B.named B.method).1 g5 htr hP hl
    rw [← lg_entry_eq] at K
    obtain ⟨t, a1, o, b1, b2, b3⟩ := K s₁ hh0 (Stand.of_body B)
    exact ⟨t, o, a1, b1, b2, b3⟩
theorem hv_cwW {y : MethodName} {bytes : ByteArray} {maxL mc ms : Nat} {ret : Option FieldType} {hs : List (Nat × Nat × Nat × Nat)} {rm : Room} (C : hv_C l s0 D tys) (hZ : hv_Z s0 s) (hcode : Cond.codeWith y bytes maxL ret hs ∈ hv_Ts) (hini : Cond.initialized y.cls ∈ hv_Ts) (hR : rm.cells = mc ∧ rm.slots = ms ∧ rm.frames + 1 ≤ R.frames ∧ 8 + (maxL + 11) + rm.locals ≤ R.locals) : hv_Cw R s y [.codeWith y bytes maxL ret hs] rm mc ms maxL :=
  ⟨hR.1, hR.2.1, hR.2.2.1, hR.2.2.2, hv_wordsU C hZ.1 (fun w hw => by rw [List.mem_singleton.mp hw]; exact hcode), fun U mk hW hn => by
    obtain ⟨m', mY, cY, h0, h1, h2, -, h4, -⟩ := Cond.codeWith_spec (hv_words (A := #[]) C (State.WarmedH.trans hZ.1 hW) _ hcode)
    cases hn.symm.trans h0
    exact ⟨mY, cY, h1, h2, h4⟩, fun a' U hW => hv_words C (State.WarmedH.trans hZ.1 hW) _ hini⟩
theorem hv_sigW {y : MethodName} {bytes : ByteArray} {maxL : Nat} {ret : Option FieldType} {hs : List (Nat × Nat × Nat × Nat)} (hcode : (Cond.codeWith y bytes maxL ret hs).before args s = true) : ∃ (mk : MethodId) (mY : Method), s.methodNamed? y = some mk ∧ s.vm.method? mk = some mY ∧ parseMethodDescriptor y.desc = some mY.sig := by
  obtain ⟨mk, mY, cY, h0, h1, -, -, -, -, -, -, h8⟩ := Cond.codeWith_spec hcode
  exact ⟨mk, mY, h0, h1, h8⟩
theorem hv_rows {t : List ExceptionTableEntry} {r : Nat × Nat × Nat × Nat} {tl : List (Nat × Nat × Nat × Nat)} (h : t.map hv_row = r :: tl) : ∃ x xs, t = x :: xs ∧ hv_row x = r ∧ xs.map hv_row = tl := by
  cases t with
  | nil => cases h
  | cons x xs => exact ⟨x, xs, rfl, (List.cons.inj h).1, (List.cons.inj h).2⟩
theorem hv_covers {x : ExceptionTableEntry} {st en hp ix : Nat} (e : hv_row x = (st, en, hp, ix)) (h1 : st ≤ pc) (h2 : pc < en) : covers x pc = true := by
  have e1 : x.startPc = st := congrArg (fun z => z.1) e
  have e2 : x.endPc = en := congrArg (fun z => z.2.1) e
  simp [covers, e1, e2, h1, h2]
/-- one row that covers the place, its kind not yet looked up: the tables get warmer, and the row takes what can be assigned to its kind -/
theorem hv_row1 {S : State} {f : JFrame} {a : Addr} {cell : Cell} {k : ClassId} {x : ExceptionTableEntry} (hW : s.WarmedH S.vm) (hcov : covers x f.pc = true) (h0 : x.catchType ≠ 0) (hl : s.vm.ClassLinks e.platform f.method.cls x.catchType k) (hcell : S.heap[a]? = some cell) (hobj : cell.vm.isStatics = false) (hk0 : ∃ q, s.vm.classes[cell.cls]? = some q) :
    ∃ v : Vm, s.WarmedH v ∧ ∀ (t : List ExceptionTableEntry) (Q : Handler → Pre) (E : CtlPost) (d : Bool) (acts : List Action), wp (findHandler.go f a (x :: t)) Q E e d acts S ↔ if s.vm.assignable cell.cls k = true then Q (.found x.handlerPc) d acts (S.setVm v) else wp (findHandler.go f a t) Q E e d acts (S.setVm v) := by
  obtain ⟨dk, _, _, kt, hd, _, _, _, _, hkt, _, hopen⟩ := hl.here
  have hlS := hW.classLinks hl
  have al : S.vm.Alike (S.vm.noted f.method.cls x.catchType (.cls k)) := (Vm.Alike.refl S.vm).noted _ _ _
  obtain ⟨q0, hq0⟩ := hk0
  obtain ⟨q1, hq1, -⟩ := hW.alike.2.2 _ _ hq0
  obtain ⟨q2, hq2, -⟩ := hW.alike.2.2 _ _ hkt
  obtain ⟨q3, hq3, -⟩ := al.2.2 _ _ hq1
  obtain ⟨q4, hq4, -⟩ := al.2.2 _ _ hq2
  have hfit : (S.vm.noted f.method.cls x.catchType (.cls k)).assignable cell.cls k = s.vm.assignable cell.cls k := by rw [al.assignable, hW.alike.assignable]
  obtain ⟨r1, r2⟩ := (resolveClass_links e.toSetting hlS).op (op := VmOp.resolveClass f.method.cls x.catchType) rfl
  refine ⟨_, hW.noted hd hopen (State.rightAt_cls hl), fun t Q E d acts => ?_⟩
  have hns := VmData.ne_statics_of hobj
  simp only [covers] at hcov
  cases hb : s.vm.assignable cell.cls k <;> rw [hb] at hfit <;> simp [findHandler.go, hcov, h0, r1, r2, hcell, hns, hq3, hq4, hfit, VmOp.dirties, VmOp.acts]
/-- the search ended at a place of the method's own -/
theorem hv_land {T : State} {a : Addr} {hp : Nat} {v : Vm} {t : State} (X : Stand p l e R s m args below meth c T locs cells slots) {g : JFrame} (hg : g.method = m)
    (hf : ∀ (Q : Handler → Pre) (E : CtlPost) (d : Bool) (acts : List Action), wp (findHandler g a) Q E e d acts ((T.setTop g).pushFrame (.throwing a)) ↔ Q (.found hp) d acts (((T.setTop g).pushFrame (.throwing a)).setVm v))
    (hgo : Steps p.tables e below ((T.setVm v).setTop { g with pc := hp, stack := [.ref a] }) t) : Steps p.tables e below ((T.setTop g).pushFrame (.throwing a)) t := by
  have hat : At T g.method c below := by rw [hg]; exact X.here
  obtain ⟨z1, z2⟩ := hat.throwing a
  have key : (stepThrowing e ((T.setTop g).pushFrame (.throwing a)) a (.java g :: T.frames.tail)).Is ((((T.setTop g).pushFrame (.throwing a)).setVm v).setFrames (.java { g with pc := hp, stack := [.ref a] } :: T.frames.tail)) [] := by
    simp only [stepThrowing, searchFrame, vmDo]
    generalize hres : Sem.go _ e false [] ((T.setTop g).pushFrame (.throwing a)) = res
    obtain ⟨as, rfl, has⟩ := Sem.eq_ok_of hres (a := Handler.found hp) (s' := ((T.setTop g).pushFrame (.throwing a)).setVm v) (acts' := []) (by simp [hf _ _ _ _])
    exact ⟨rfl, has⟩
  refine Steps.head z1 z2 ?_
  rw [stepThread_throwing (frames_entered hat.top _), key.1]
  obtain ⟨g₀, hg0⟩ := Option.isSome_iff_exists.mp hat.top
  obtain ⟨r, hr⟩ := State.topJava?_eq_some.mp hg0
  have hr2 : (T.setVm v).frames = .java g₀ :: r := hr
  have e1 : (((T.setTop g).pushFrame (.throwing a)).setVm v).setFrames (.java { g with pc := hp, stack := [.ref a] } :: T.frames.tail) = (T.setVm v).setTop { g with pc := hp, stack := [.ref a] } := by
    rw [State.setTop_of_frames _ hr2, hr, State.pushFrame, State.setTop_of_frames _ hr, State.setFrames_setFrames]
    show ((T.setVm v).setFrames _).setFrames _ = _
    rw [State.setFrames_setFrames]
    rfl
  rw [e1]
  exact hgo
/-- the first handler takes it -/
theorem hv_catch0 {a E st en hp ix : Nat} {own name : String} {T0 : u_T} {tl : List (Nat × Nat × Nat × Nat)} (htab : c.exceptionTable.toList.map hv_row = (st, en, hp, ix) :: tl) (h1 : st ≤ pc) (h2 : pc < en) (hix : ix ≠ 0) (hown : s.vm.findClass own = some m.cls) (hlink : (Cond.classLink own ix name).before args s = true) (hK : va_K D classes tys s) (hP : hv_P D classes s0.heap.size w H) (ha : w a = some (.inr (E, []))) (hc : classes[E]? = some (name, T0, 0))
    (k : W p l e R s m args below meth c H locs cells slots Q (F0 m hp ls [.ref a])) : hv_T p l e R s m args below meth c H locs cells slots Q (F0 m pc ls rest) a := by
  intro T hT X
  obtain ⟨cell, hcell, hobj, hfc⟩ := va_recv hK (hv_one hP ha) (ci := E) (q0 := 0) hc rfl
  obtain ⟨x, xs, ht, hr, -⟩ := hv_rows htab
  have e3 : x.handlerPc = hp := congrArg (fun z => z.2.2.1) hr
  have e4 : x.catchType = ix := congrArg (fun z => z.2.2.2) hr
  have hpl : e.platform.magicAccessors = ({} : Platform).magicAccessors := by rw [X.admits.platform]
  obtain ⟨k1, hk1, hcl⟩ := Cond.classLink_spec hown hlink e.platform hpl
  cases hfc.symm.trans hk1
  have hk0 : ∃ q, s.vm.classes[cell.cls]? = some q := by
    obtain ⟨_, _, _, kt, _, _, _, _, _, hkt, _⟩ := hcl.here
    exact ⟨kt, hkt⟩
  obtain ⟨v, hv, hgo⟩ := hv_row1 (e := e) (S := (T.setTop (F0 m pc ls rest)).pushFrame (.throwing a)) (f := F0 m pc ls rest) (a := a) (x := x) (by rw [Stand.throwing_vm]; exact X.warmed) (hv_covers hr h1 h2) (by rw [e4]; exact hix) (by rw [e4]; exact hcl) (by rw [Stand.throwing_heap, hT]; exact hcell) hobj hk0
  obtain ⟨t, a1, b1⟩ := k (T.setVm v) hT (X.noted hv)
  refine ⟨t, hv_land X rfl (v := v) (fun Q9 E9 d9 as9 => ?_) a1, b1⟩
  rw [W.findHandler_eq (meth := meth) (code := c) (by rw [Stand.throwing_vm]; exact X.method') X.code, ht, hgo, if_pos (hv_self s.vm cell.cls), e3]
/-- the second handler takes it -/
theorem hv_catch1 {a E st en hp ix st' en' hp' ix' : Nat} {own name name' : String} {T0 : u_T} {tl : List (Nat × Nat × Nat × Nat)} (htab : c.exceptionTable.toList.map hv_row = (st', en', hp', ix') :: (st, en, hp, ix) :: tl) (h1 : st ≤ pc) (h2 : pc < en) (h1' : st' ≤ pc) (h2' : pc < en') (hix : ix ≠ 0) (hix' : ix' ≠ 0) (hown : s.vm.findClass own = some m.cls) (hlink : (Cond.classLink own ix name).before args s = true) (hlink' : (Cond.classLink own ix' name').before args s = true) (hno : va_Nc name name' s) (hK : va_K D classes tys s) (hP : hv_P D classes s0.heap.size w H) (ha : w a = some (.inr (E, []))) (hc : classes[E]? = some (name, T0, 0))
    (k : W p l e R s m args below meth c H locs cells slots Q (F0 m hp ls [.ref a])) : hv_T p l e R s m args below meth c H locs cells slots Q (F0 m pc ls rest) a := by
  intro T hT X
  obtain ⟨cell, hcell, hobj, hfc⟩ := va_recv hK (hv_one hP ha) (ci := E) (q0 := 0) hc rfl
  obtain ⟨y, ys, ht, hr', htab2⟩ := hv_rows htab
  obtain ⟨x, xs, rfl, hr, -⟩ := hv_rows htab2
  have e3 : x.handlerPc = hp := congrArg (fun z => z.2.2.1) hr
  have e4 : x.catchType = ix := congrArg (fun z => z.2.2.2) hr
  have e4' : y.catchType = ix' := congrArg (fun z => z.2.2.2) hr'
  have hpl : e.platform.magicAccessors = ({} : Platform).magicAccessors := by rw [X.admits.platform]
  obtain ⟨k1, hk1, hcl⟩ := Cond.classLink_spec hown hlink e.platform hpl
  obtain ⟨k2, hk2, hcl'⟩ := Cond.classLink_spec hown hlink' e.platform hpl
  cases hfc.symm.trans hk1
  obtain ⟨c1, t1, n1, n2, n3⟩ := hno
  cases hfc.symm.trans n1
  cases hk2.symm.trans n2
  have hk0 : ∃ q, s.vm.classes[cell.cls]? = some q := by
    obtain ⟨_, _, _, kt, _, _, _, _, _, hkt, _⟩ := hcl.here
    exact ⟨kt, hkt⟩
  obtain ⟨v, hv, hgo⟩ := hv_row1 (e := e) (S := (T.setTop (F0 m pc ls rest)).pushFrame (.throwing a)) (f := F0 m pc ls rest) (a := a) (x := y) (by rw [Stand.throwing_vm]; exact X.warmed) (hv_covers hr' h1' h2') (by rw [e4']; exact hix') (by rw [e4']; exact hcl') (by rw [Stand.throwing_heap, hT]; exact hcell) hobj hk0
  obtain ⟨v2, hv2, hgo2⟩ := hv_row1 (e := e) (S := ((T.setTop (F0 m pc ls rest)).pushFrame (.throwing a)).setVm v) (f := F0 m pc ls rest) (a := a) (x := x) hv (hv_covers hr h1 h2) (by rw [e4]; exact hix) (by rw [e4]; exact hcl) (by show ((T.setTop (F0 m pc ls rest)).pushFrame (.throwing a)).heap[a]? = _; rw [Stand.throwing_heap, hT]; exact hcell) hobj hk0
  obtain ⟨t, a1, b1⟩ := k (T.setVm v2) hT (X.noted hv2)
  refine ⟨t, hv_land X rfl (v := v2) (fun Q9 E9 d9 as9 => ?_) a1, b1⟩
  rw [W.findHandler_eq (meth := meth) (code := c) (by rw [Stand.throwing_vm]; exact X.method') X.code, ht, hgo, if_neg (by rw [n3]; decide), hgo2, if_pos (hv_self s.vm cell.cls), e3]
  exact Iff.rfl
end HVWITH
/-! THE KEEPER'S CELLS ARE SMALL -/
def g_sm : va_E → Prop
  | .inr o => o.1 < 7
  | .inl a => match a.2.2 with
    | .inl _ => a.2.1 ≤ 24
    | .inr (.inl _) => False
    | .inr (.inr _) => True
def g_keepS (Mu : Nat → Prop) (w w' : hv_W) : Prop := ∀ (b : Nat) (e : va_E), ¬ Mu b → g_sm e → w b = some e → w' b = some e
section GKEEPS
variable {ca : Nat → ClassId} {Mu : Nat → Prop} {w w' : hv_W} {a : Nat}
theorem g_txt.kS {xs : List Int32} (h : g_txt ca Mu w a xs) (hl : xs.length ≤ 24) (k : g_keepS Mu w w') : g_txt ca Mu w' a xs := by
  obtain ⟨h1, f, h2, h3⟩ := h
  exact ⟨h1, f, k _ _ h1 hl h2, h3⟩
theorem g_int.kS {xs : List Int32} (h : g_int ca Mu w a xs) (hl : xs.length ≤ 24) (k : g_keepS Mu w w') : g_int ca Mu w' a xs := by
  obtain ⟨h1, f, h2, h3⟩ := h
  exact ⟨h1, f, k _ _ h1 hl h2, h3⟩
theorem g_prop.kS {p : gP} (h : g_prop ca Mu w a p) (hl : p.2.2.2.length ≤ 24) (k : g_keepS Mu w w') : g_prop ca Mu w' a p := by
  obtain ⟨h1, t, h2, h3⟩ := h
  exact ⟨h1, t, k _ _ h1 (show (4 : Nat) < 7 by decide) h2, h3.kS hl k⟩
theorem g_props.kS {ps : List gP} (h : g_props ca Mu w a ps) (hl : ∀ p, p ∈ ps → w_P p) (k : g_keepS Mu w w') : g_props ca Mu w' a ps := by
  obtain ⟨h1, f, h2, h3⟩ := h
  refine ⟨h1, f, k _ _ h1 trivial h2, fun i hi => ?_⟩
  obtain ⟨q, p, e1, e2, e3⟩ := h3 i hi
  exact ⟨q, p, e1, e2, e3.kS (hl p (List.mem_of_getElem? e2)).1 k⟩
theorem g_nodeo.kS {f : Option Nat} {t : Option gT} (h : g_nodeo ca Mu w f t) (hw : ∀ u, t = some u → w_T u) (k : g_keepS Mu w w') : g_nodeo ca Mu w' f t := by
  cases f <;> cases t <;> try exact h
  rename_i b u
  obtain ⟨h1, pa, lb, h2, h3, h4⟩ := h
  have z := hw u rfl
  exact ⟨h1, pa, lb, k _ _ h1 (show (5 : Nat) < 7 by decide) h2, h3.kS (Nat.le_trans z.1 (by decide)) k, h4.kS z.2.2.2.2 k⟩
theorem g_linko.kS {f : Option Nat} {t : Option gT} (h : g_linko ca Mu w f t) (hw : ∀ u, t = some u → w_T u) (k : g_keepS Mu w w') : g_linko ca Mu w' f t := by
  cases f <;> cases t <;> try exact h
  rename_i b u
  obtain ⟨h1, pa, h2, h4⟩ := h
  have z := hw u rfl
  exact ⟨h1, pa, k _ _ h1 (show (6 : Nat) < 7 by decide) h2, h4.kS z.2.2.2.2 k⟩
theorem cG.kS {fN fL : Nat → Option Nat} {γ : Nat → Option gT} (h : cG ca Mu w fN fL γ) (hw : w_G γ) (k : g_keepS Mu w w') : cG ca Mu w' fN fL γ := ⟨fun i hi => (h.1 i hi).kS (fun u hu => hw.1 i (by omega) u hu) k, fun i hi => (h.2 i hi).kS (fun u hu => hw.1 (64 + i) (by omega) u hu) k⟩
theorem cR.kS {L : Nat → Nat} {σ : gS} {P : cT} (h : cR ca L σ P w) (hW : gW σ) (k : g_keepS (cM L) w w') : cR ca L σ P w' := ⟨h.1.kS hW.1.1 k, fun z => (h.2.1 z).kS hW.1.2.1 k, h.2.2.1.kS hW.1.2.2 k, h.2.2.2⟩
/-- cells elsewhere changed -/
theorem cP.kS {L : Nat → Nat} {w0 : hv_W} {σ : gS} (h : cP ca L w0 σ w) (hW : gW σ) (hL : ∀ i, i < 15 → w' (L i) = w (L i)) (k : g_keepS (cM L) w w') : cP ca L w' σ w' := by
  obtain ⟨P, hM, hR⟩ := h
  exact ⟨P, ⟨⟨hM.1.1, fun i hi => (hL i hi).trans (hM.1.2 i hi)⟩, g_keep.refl _⟩, hR.kS hW k⟩
end GKEEPS
/-- what a call of the law's own does: the keeper's call, and its answer laid -/
def cWr (ca : Nat → ClassId) (L : Nat → Nat) (w : hv_W) (o : Nat) (f : Nat → Int64) (k : Nat) (val : Int64) (σ : gS) (v : Option Value) (w' : hv_W) : Prop := v = some (.int (nI k)) ∧ k ≤ 2 ∧ ∃ w1, cP ca L w σ w1 ∧ ((¬ k = 0 ∧ w' = w1) ∨ (k = 0 ∧ w' = va_up w1 o (some (.inl (ca 3, 1, .inr (.inl (vp_updL f 0 val)))))))
theorem cP.keep {ca : Nat → ClassId} {L : Nat → Nat} {w0 w : hv_W} {σ : gS} (h : cP ca L w0 σ w) : g_keep (cM L) w0 w := by
  obtain ⟨P, hM, -⟩ := h
  exact hM.2
