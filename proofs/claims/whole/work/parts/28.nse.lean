/-! NoSuchElementException: its constructor's link to the next one is its thirteenth, not its seventh -/
def hv_nse : String := "java/util/NoSuchElementException"
def hv_nb : ByteArray := ⟨#[0x2a, 0x2b, 0xb7, 0x00, 0x0d, 0xb1]⟩
def hv_nwl (own : String) (ic : Nat) : List Cond := [.methodLink own ic (Bundle.initS hv_nse), .instantiable hv_nse 6, .castable hv_nse hv_nse, .selects hv_nse Bundle.tFill0 Bundle.tFill0, .selects hv_nse Bundle.tFill Bundle.tFill, .lays hv_nse Bundle.tN "cause" "Ljava/lang/Throwable;", .lays hv_nse Bundle.tN "stackTrace" Bundle.steD, .lays hv_nse Bundle.tN "suppressedExceptions" Bundle.listD, .lays hv_nse Bundle.tN "detailMessage" "Ljava/lang/String;", .isRef (.static Bundle.tN "UNASSIGNED_STACK" Bundle.steD), .isRef (.static Bundle.tN "SUPPRESSED_SENTINEL" Bundle.listD), .fieldLink Bundle.tN 198 Bundle.tN "backtrace" "Ljava/lang/Object;", .lays Bundle.tN Bundle.tN "backtrace" "Ljava/lang/Object;", .lays hv_nse Bundle.tN "backtrace" "Ljava/lang/Object;"]
def hv_nws (own : String) (ik ic : Nat) : List Cond := .classLink own ik hv_nse :: .initialized hv_nse :: (Bundle.throwableAtoms ++ (Bundle.throwableSAtoms ++ (Bundle.passSAtoms hv_nse "java/lang/RuntimeException" 13 hv_nb ++ (Bundle.chainSAtoms "java/lang/RuntimeException" ["java/lang/Exception"] ++ hv_nwl own ic))))
theorem hv_nb0 : decode hv_nb 0 = .ok (.aload_n 0, 1) := by decide +kernel
theorem hv_nb1 : decode hv_nb 1 = .ok (.aload_n 1, 1) := by decide +kernel
theorem hv_nb2 : decode hv_nb 2 = .ok (.invokespecial 13, 3) := by decide +kernel
theorem hv_nb5 : decode hv_nb 5 = .ok (.return_, 1) := by decide +kernel
section HVNSE
variable {p : Program} {l : Launch} {e : Env} {R : Room} {s : State} {m : MethodId} {args : Array Value} {below : List Frame} {meth : Method} {c : Code} {H : Heap} {locs : List Loc} {cells slots : Nat} {Q : State → Prop}
set_option maxHeartbeats 2000000 in
theorem hv_ctorN {V : State} (X : Stand p l e R s m args below meth c V locs cells slots) (hexec : p.tables.exec = Jvm.exec) (htr : e.platform.stackTraces = false) {own : String} {ik ic : Nat} (hown : s.vm.findClass own = some m.cls) (h : ∀ x ∈ hv_nws own ik ic, x.before args s = true)
    (hlocs : ∀ x ∈ locs, ∀ cell, s.heap[x.base]? = some cell → cell.vm.isStatics = false) {a : Addr} {cX : ClassId} {kX : Class} (hfX : s.vm.findClass hv_nse = some cX) (hkX : s.vm.classes[cX]? = some kX) (hcell : V.heap[a]? = some (freshCell cX kX)) (hnew : s.heap.size ≤ a)
    {msg : Value} (hmsg : msg.isRef = true) {g : JFrame} (hg : g.method = m) (hsize : g.locals.size = c.maxLocals) (hlocked : g.locked = none) (hentered : g.entered = []) {rest : List Value} (hstack : g.stack = msg :: .ref a :: .ref a :: rest)
    (hd6 : decode c.code g.pc = .ok (.invokespecial ic, 3)) (hd9 : decode c.code (g.pc + 3) = .ok (.athrow, 1)) (hout : ∀ x ∈ c.exceptionTable.toList, covers x (g.pc + 3) = false)
    (hRf : 5 < R.frames) (hRl : 2 * g.monitorRoom + ((Value.ref a :: rest).map fun v => v.category).sum + (13 * 3 + 42) ≤ R.locals) (hlocks : meth.locks = false) :
    ∃ U : State, Steps p.tables e below (V.setTop g) U ∧ U.status = .running ∧ Ended U below (.threw a) ∧ s.WarmedH U.vm ∧ s.sameButNew ({ U with vm := s.vm } : State) locs cells slots ∧ ∃ ce, U.heap[a]? = some ce ∧ s.vm.findClass hv_nse = some ce.cls ∧ ce.vm = .none := by
  have howns : e.platform.frameOwnsMonitors = true := by rw [X.admits.platform]
  have hfin : e.platform.finalization = false := by rw [X.admits.platform]
  have hpl : e.platform.magicAccessors = ({} : Platform).magicAccessors := by rw [X.admits.platform]
  have hl9 : ∀ x ∈ hv_nwl own ic, x.holds args s none s [] = true := fun x hx => h x (by simp [hv_nws, hx])
  obtain ⟨T, Z0, LT, -, Y⟩ := ThrowableC.of_atoms (args := args) howns hfin hpl (fun x hx => h x (by simp [hv_nws, hx]))
  obtain ⟨Z, M, LZ, LM, hnZ⟩ := Init0T.ofS_atoms (args := args) hpl LT Y (fun x hx => h x (by simp [hv_nws, hx]))
  obtain ⟨Pr, Ps, hlen, Lr, hLs, hmr, hsr, hss⟩ := Bundle.chainS (args := args) hpl hnZ ["java/lang/Exception"] "java/lang/RuntimeException" (by decide +kernel) (by decide +kernel) (fun x hx => h x (by simp [hv_nws, hx]))
  obtain ⟨Pn, Ln, hmn, hsn⟩ := PassC.ofS_atoms (args := args) (s := s) hpl (X := hv_nse) (Y := "java/lang/RuntimeException") (by decide +kernel) (by decide) hv_nb0 hv_nb1 hv_nb2 hv_nb5 (fun x hx => h x (by simp [hv_nws, hx]))
  have hsup : Pn.sup = Pr.m := Option.some.inj (hsn.symm.trans hmr)
  have hfN : s.vm.findClass hv_nse = some Pn.m.cls := findClass_of_methodNamed hmn
  have ecX : cX = Pn.m.cls := Option.some.inj (hfX.symm.trans hfN)
  subst ecX
  obtain ⟨c1, k1, hc1, hk1, hord, -, -, -⟩ := Cond.instantiable_spec (hl9 (.instantiable hv_nse 6) (by simp [hv_nwl]))
  have e1 : c1 = Pn.m.cls := Option.some.inj (hc1.symm.trans hfN)
  subst e1
  have e2 : k1 = kX := Option.some.inj (hk1.symm.trans hkX)
  subst e2
  have hsel : ∀ (f : MethodId) (nm : MethodName), s.methodNamed? nm = some f → (nm.cls ≠ "java/lang/invoke/MethodHandle" ∧ nm.cls ≠ "java/lang/invoke/VarHandle") → (Cond.selects hv_nse nm nm).holds args s none s [] = true → selectMethod e.platform s.vm Pn.m.cls f = .method f := fun f nm hf hnm hs => by
    obtain ⟨c2, r2, m2, q1, q2, q3, q4, -⟩ := Cond.selects_spec hs
    have z1 : c2 = Pn.m.cls := Option.some.inj (q1.symm.trans hfN)
    have z2 : r2 = f := Option.some.inj (q2.symm.trans (State.methodFound?_of_named hf hnm))
    have z3 : m2 = f := Option.some.inj (q3.symm.trans hf)
    subst z1; subst z2; subst z3
    rw [Launch.admits_selectMethod X.admits]; exact q4
  have hs0 := hsel T.fill0 Bundle.tFill0 Y.fill0 (by decide) (hl9 _ (by simp [hv_nwl]))
  have hsF := hsel T.fill Bundle.tFill Y.fill (by decide) (hl9 _ (by simp [hv_nwl]))
  obtain ⟨cS0, hcS0, hiss⟩ := Y.statics
  obtain ⟨u0, hu0⟩ := Cond.staticRefV Y.unassigned LT.unassignedStatic LT.statics hcS0 hiss (hl9 (.isRef (.static Bundle.tN "UNASSIGNED_STACK" Bundle.steD)) (by simp [hv_nwl]))
  obtain ⟨sen, hsen⟩ := Cond.staticRefV Y.sentinel LT.sentinelStatic LT.statics hcS0 hiss (hl9 (.isRef (.static Bundle.tN "SUPPRESSED_SENTINEL" Bundle.listD)) (by simp [hv_nwl]))
  obtain ⟨ciB, iB, fB, hkB, hgB, haB, hsB, -, hnB, htB, hffB⟩ := Cond.ownField (t := .object "java/lang/Object") Y.found LT.cls (by decide +kernel) (hl9 (.fieldLink Bundle.tN 198 Bundle.tN "backtrace" "Ljava/lang/Object;") (by simp [hv_nwl])) (hl9 (.lays Bundle.tN Bundle.tN "backtrace" "Ljava/lang/Object;") (by simp [hv_nwl])) e.platform hpl
  obtain ⟨cS, hcS, heS, -, hkeep⟩ := X.same.2.2.2.2.2 T.aS cS0 hcS0
  have hfree : ∀ i, (⟨T.aS, i⟩ : Loc) ∉ locs := fun i hi => by
    have h9 := hlocs _ hi cS0 hcS0
    rw [hiss] at h9
    cases h9
  have hkS : cS.vm ≠ .unknown := by
    rw [heS]
    intro z
    rw [show cS0.vm = .unknown from z] at hiss
    cases hiss
  have hneS : T.aS ≠ a := Nat.ne_of_lt (Nat.lt_of_lt_of_le (Array.getElem?_eq_some_iff.mp hcS0).1 hnew)
  obtain ⟨iM, hffM⟩ := Y.msg
  obtain ⟨tyC, dC, hdC, hdnC⟩ := Cond.laysAt hfN hk1 Y.cause (hl9 (.lays hv_nse Bundle.tN "cause" "Ljava/lang/Throwable;") (by simp [hv_nwl]))
  obtain ⟨tyS, dS, hdS, hdnS⟩ := Cond.laysAt hfN hk1 Y.stack (hl9 (.lays hv_nse Bundle.tN "stackTrace" Bundle.steD) (by simp [hv_nwl]))
  obtain ⟨tyP, dP, hdP, hdnP⟩ := Cond.laysAt hfN hk1 Y.supp (hl9 (.lays hv_nse Bundle.tN "suppressedExceptions" Bundle.listD) (by simp [hv_nwl]))
  obtain ⟨tyM, -, -, -⟩ := Cond.laysAt hfN hk1 hffM (hl9 (.lays hv_nse Bundle.tN "detailMessage" "Ljava/lang/String;") (by simp [hv_nwl]))
  obtain ⟨tyB, dB, hdB, hdnB⟩ := Cond.laysAt hfN hk1 hffB (hl9 (.lays hv_nse Bundle.tN "backtrace" "Ljava/lang/Object;") (by simp [hv_nwl]))
  have bC := Cond.laysApart hdB hdC hdnB hdnC (by rw [hnB, Y.causeName]; decide)
  have bS := Cond.laysApart hdB hdS hdnB hdnS (by rw [hnB, Y.stackName]; decide)
  have bP := Cond.laysApart hdB hdP hdnB hdnP (by rw [hnB, Y.suppName]; decide)
  have hskip : SkipFacts T e.platform s (fun u => u) u0 ((preparedCellV T.toThrowableT (freshCell Pn.m.cls k1) a u0 sen).withEntry V.cur) := ⟨{ ci198 := ciB, i198 := iB, fBack := fB }, ⟨hkB, hgB, haB, hsB⟩, by
    have h9 := fresh_default (c := Pn.m.cls) tyB
    rw [htB] at h9
    simpa [preparedCellV, Cell.setSlot, Cell.withEntry, Array.getElem?_setIfInBounds, bC, bS, bP, bC.symm, bS.symm, bP.symm, defaultValue] using h9, fun _ _ => rfl⟩
  obtain ⟨tm, methN, cdN, kN, vm₁, hnN, -, -, -, -, -, -, -, hW₁, st1⟩ := Steps.initColdS (tb := p.tables) (e := e) (below := below) (s := s) (U := V) X.here hexec X.warmed hpl hown (t := Bundle.initS hv_nse) rfl rfl (by decide) (hl9 (.methodLink own ic (Bundle.initS hv_nse)) (by simp [hv_nwl]))
    (h (.instanceMethod (Bundle.initS hv_nse)) (by simp [hv_nws, Bundle.passSAtoms])) (bytes := hv_nb) (maxL := 2) (h (.code (Bundle.initS hv_nse) hv_nb 2 none) (by simp [hv_nws, Bundle.passSAtoms])) (f := g) hg (a := a) (msg := msg) (rest := .ref a :: rest) hstack hd6
  have e3 : tm = Pn.m := Option.some.inj (hnN.symm.trans hmn)
  subst e3
  have X₁ := X.noted hW₁
  obtain ⟨vm₂, X₂, st2⟩ := X₁.ctorMessageOffV hexec (g := { g with stack := .ref a :: rest }) hg hsize T LT Z LZ M LM (Pn :: Pr :: Ps)
    (fun P hP => by
      rcases List.mem_cons.mp hP with rfl | hP
      · exact Ln
      · rcases List.mem_cons.mp hP with rfl | hP
        · exact Lr
        · exact hLs P hP) ⟨hsup, hsr, hss⟩ (u0 := u0) (sen := sen) (self := a) hmsg (cell := freshCell Pn.m.cls k1) (cellS := cS)
    hcell (fun _ => by simp) (by simp) rfl rfl hs0 hsF hcS hneS hkS (by rw [hkeep _ (hfree _)]; exact hu0) (by rw [hkeep _ (hfree _)]; exact hsen)
    (Takes.of_laid hk1 hord tyC (by rw [Y.causeType]; rfl)) (Takes.of_laid hk1 hord tyS (by rw [Y.stackType]; exact fits_refV_array _ u0)) (Takes.of_laid hk1 hord tyP (by rw [Y.suppType]; exact fits_refV_object _ sen))
    (Takes.of_laid hk1 hord tyM (by rw [Y.msgType]; exact fits_refV_object _ ⟨msg, hmsg⟩)) Y.objLocals hskip htr [] hd6
    (by simp only [List.length_cons, hlen]; exact hRf) (by simp only [List.length_cons, hlen]; exact hRl)
  obtain ⟨hwalk, hrun, hend, hWU, hsame⟩ := X₂.athrowLeaves hexec (g := { g with stack := .ref a :: rest, pc := g.pc + 3 }) hg hlocked hentered hout (a := a) (rest := rest) rfl hd9
  have hlt : a < ((V.setVm vm₁).setVm vm₂).heap.size := (Array.getElem?_eq_some_iff.mp hcell).1
  have hU := heapAt_setCell_self (s := (V.setVm vm₁).setVm vm₂) (plainBareV T.toThrowableT (freshCell Pn.m.cls k1) a u0 sen msg) hlt
  refine ⟨_, st1 _ (fun acts => ?_), hrun, hend, hWU, hsame.weaken (fun y hy hly => ?_) (Nat.le_refl _) (Nat.le_refl _), _, hU, hfN, rfl⟩
  · rw [doInvoke_state]
    exact st2 _ hwalk
  · rcases List.mem_append.mp hy with z | z
    · exact z
    · have hb : y.base = a := by
        simp only [List.mem_cons, List.not_mem_nil, or_false] at z
        rcases z with rfl | rfl | rfl | rfl | rfl <;> rfl
      rw [hb] at hly
      exact absurd hly (Nat.not_lt.mpr hnew)
variable {cc : ByteArray} {pc : Nat} {ls : Array Slot} {rest : List Value} {s0 : State} {D : va_G} {w : hv_W} {tys : List (ClassId × FieldType)} {post : Option Value → hv_W → Prop} {postT : Nat → hv_W → Prop}
set_option maxHeartbeats 1000000 in
/-- 'throw new NoSuchElementException("text")': its constructor hands on by an index of its own -/
theorem hv_throwN (k : Nat) {own text : String} {ik is ic sa ciE : Nat} {T0 : u_T}
    (hexec : p.tables.exec = Jvm.exec) (hb : c.code = cc) (htr : e.platform.stackTraces = false) (hown : s.vm.findClass own = some m.cls)
    (hK : va_K D classes tys s) (hc : classes[ciE]? = some (hv_nse, T0, 0)) (hZ : hv_Z s0 s) (hS : va_S (hv_A s0.heap.size) s.heap H locs) (hP : hv_P D classes s0.heap.size w H)
    (hw : ∀ U : State, hv_Z s0 U → (∀ w ∈ hv_nws own ik ic, w.before args U = true) ∧ (Cond.stringRef own is text).before args U = true ∧ (Term.string own is).eval args U none [] U = some (.ref sa))
    (hsize : ls.size = c.maxLocals) (d0 : decode cc pc = .ok (.new ik, 3)) (d3 : decode cc (pc + 3) = .ok (.dup, 1)) (d4 : (k = 2 ∧ decode cc (pc + 4) = .ok (.ldc is, 2)) ∨ (k = 3 ∧ decode cc (pc + 4) = .ok (.ldc_w is, 3))) (d6 : decode cc (pc + 4 + k) = .ok (.invokespecial ic, 3)) (d9 : decode cc (pc + 4 + k + 3) = .ok (.athrow, 1))
    (hout : ∀ z ∈ c.exceptionTable.toList, covers z (pc + 4 + k + 3) = false) (hlocks : meth.locks = false)
    (hRf : 5 < R.frames) (hRl : (rest.map fun v => v.category).sum + 82 ≤ R.locals) (hRc : cells + 1 ≤ R.cells) (hRs : slots + 6 ≤ R.slots)
    (hQ : Q = hv_MQ below (hv_Q s0 D post postT) args s (cells + 1) (slots + 6) (hv_A s0.heap.size)) (hq : ∀ x : Nat, w x = none → postT x (va_up w x (some (.inr (ciE, []))))) :
    W p l e R s m args below meth c H locs cells slots Q (F0 m pc ls rest) := by
  subst hQ
  intro T hT X
  have X0 := hv_rebase X (R' := { frames := R.frames, locals := R.locals, cells := 1, slots := 6 }) (Nat.le_refl _) (Nat.le_refl _) hRc hRs
  have hZ' : hv_Z s0 (T.setFrames (.invoking m args :: below)) := (hv_Gof hZ hS hP (t := T.setFrames (.invoking m args :: below)) hT X.warmed).1
  obtain ⟨hws, hsr, hse⟩ := hw _ hZ'
  have hown' : (T.setFrames (.invoking m args :: below)).vm.findClass own = some m.cls := by
    show T.vm.findClass own = some m.cls
    rw [X.warmed.alike.findClass]; exact hown
  obtain ⟨vm₁, cX, kX, hfX, hkX, -, -, X₁, st1⟩ := X0.newCold hexec (own := own) (C := hv_nse) (index := ik) (n := 6) hown' (hws _ List.mem_cons_self) (hws (.instantiable hv_nse 6) (by simp [hv_nws, hv_nwl])) (hws (.initialized hv_nse) (by simp [hv_nws])) (g := F0 m pc ls rest) rfl (by rw [hb]; exact d0) (Nat.le_refl _) (Nat.le_refl _)
  generalize hT1 : (T.setVm vm₁).pushCell { cls := cX, slots := kX.instanceTypes.map defaultValue, vm := .none } = T1 at X₁ st1
  have hcellA : T1.heap[T.heap.size]? = some (freshCell cX kX) := by rw [← hT1]; exact State.heap_pushCell_size _ _
  have K : W p l e { frames := R.frames, locals := R.locals, cells := 1, slots := 6 } (T.setFrames (.invoking m args :: below)) m args below meth c T1.heap [] (0 + 1) (0 + 6) (fun U => U.status = .running ∧ Ended U below (.threw T.heap.size) ∧ (T.setFrames (.invoking m args :: below)).WarmedH U.vm ∧ (T.setFrames (.invoking m args :: below)).sameButNew ({ U with vm := (T.setFrames (.invoking m args :: below)).vm } : State) [] (0 + 1) (0 + 6) ∧ ∃ ce, U.heap[T.heap.size]? = some ce ∧ T.vm.findClass hv_nse = some ce.cls ∧ ce.vm = .none) (F0 m (pc + 3) ls (.ref T.heap.size :: rest)) := by
    refine lv_dup hexec hb d3 rfl ?_
    intro T2 hT2 X2
    obtain ⟨U, hsteps, hrun, hend, hW, hsame, ce, hce, Kc⟩ := hv_ctorN X2 hexec htr (own := own) (ik := ik) (ic := ic) hown' hws (fun y hy => by cases hy) hfX hkX (a := T.heap.size) (by rw [hT2]; exact hcellA) (Nat.le_refl _) (msg := .ref sa) rfl
      (g := F0 m (pc + 4 + k) ls (.ref sa :: .ref T.heap.size :: .ref T.heap.size :: rest)) rfl hsize rfl rfl (rest := rest) rfl (by rw [hb]; exact d6) (by rw [hb]; exact d9) hout hRf (by simp only [List.map_cons, List.sum_cons]; show 2 * 0 + (1 + (rest.map fun v => v.category).sum) + (13 * 3 + 42) ≤ R.locals; omega) hlocks
    refine ⟨U, ?_, hrun, hend, hW, hsame, ce, hce, Kc⟩
    rcases d4 with ⟨rfl, d4⟩ | ⟨rfl, d4⟩
    · exact X2.ldcString hexec hown' hsr hse (g := F0 m (pc + 4) ls (.ref T.heap.size :: .ref T.heap.size :: rest)) rfl (by rw [hb]; exact d4) _ hsteps
    · exact X2.ldcStringW hexec hown' hsr hse (g := F0 m (pc + 4) ls (.ref T.heap.size :: .ref T.heap.size :: rest)) rfl (by rw [hb]; exact d4) _ hsteps
  obtain ⟨U, a1, hrun, hend, hW, hsame, ce, hce, Kc⟩ := K T1 rfl X₁
  have hold : ∀ q : Nat, q < T.heap.size → U.heap[q]? = T.heap[q]? := fun q hq => by
    have h9 : (T.setFrames (.invoking m args :: below)).heap[q]? = some T.heap[q] := Array.getElem?_eq_getElem hq
    have h8 : U.heap[q]? = some T.heap[q] := State.sameButNew.old_cell hsame h9
    rw [h8, Array.getElem?_eq_getElem hq]
  have hgrow : T.heap.size ≤ U.heap.size := hsame.2.1
  have hfresh : w T.heap.size = none := by
    cases hw9 : w T.heap.size with
    | none => rfl
    | some f =>
      have h9 := hv_lt hP hw9
      rw [← hT] at h9
      exact absurd h9 (Nat.lt_irrefl _)
  have hZU : hv_Z s0 U := ⟨State.WarmedH.trans hZ'.1 hW, Nat.le_trans hZ'.2.1 hgrow, fun q hq => (hold q (Nat.lt_of_lt_of_le hq hZ'.2.1)).trans (hZ'.2.2 q hq)⟩
  have hPU : hv_P D classes s0.heap.size (va_up w T.heap.size (some (.inr (ciE, [])))) U.heap := by
    intro b f hbf
    by_cases hbx : b = T.heap.size
    · subst hbx
      rw [hv_up_s] at hbf
      cases hbf
      refine ⟨hZ'.2.1, (hv_nse, T0, 0), hc, ce, hce, ?_, Kc.2, fun k hk => absurd hk (Nat.not_lt_zero k)⟩
      have h1 : s.vm.findClass hv_nse = some (D.1 ciE) := (hK.1 ciE _ hc).2.1
      have h2 : T.vm.findClass hv_nse = some ce.cls := Kc.1
      rw [X.warmed.alike.findClass, h1] at h2
      exact (Option.some.inj h2).symm
    · rw [hv_up_n hbx] at hbf
      have h1 := hP b f hbf
      exact ⟨h1.1, h1.2.kept (by rw [← hT]; exact hold b (by rw [hT]; exact h1.2.lt))⟩
  refine ⟨U, st1 _ a1, .threw T.heap.size, hrun, hend, ⟨_, ⟨hZU, hPU⟩, hq _ hfresh⟩, locs, ⟨State.WarmedH.trans X.warmed (show T.WarmedH U.vm from hW), ?_⟩, hS.2.2⟩
  have h2 : (T.setVm s.vm).sameButNew ({ U with vm := s.vm } : State) [] (0 + 1) (0 + 6) := by
    refine ⟨?_, hsame.2⟩
    have h9 := congrArg (fun z : State => z.setVm s.vm) hsame.1
    rw [State.setFrames_setFrames] at h9
    exact h9
  have h3 := X.same.trans h2
  rw [List.append_nil, Nat.zero_add, Nat.zero_add] at h3
  exact h3
end HVNSE
set_option maxRecDepth 20000 in
theorem hv_chkN : hv_chk (hv_nws "GraphKeep" 223 227) [617, 16, 6, 284, 293, 297, 300, 302, 285, 286, 23, 24, 287, 292, 298, 318, 274, 319, 276, 320, 278, 288, 289, 290, 291, 280, 314, 315, 317, 280, 627, 628, 629, 308, 266, 308, 309, 310, 311, 268, 311, 312, 313, 314, 270, 626, 618, 619, 620, 296, 621, 622, 623, 624, 885, 885, 283, 282, 625] = true := by decide +kernel
section HVTHN
variable {p : Program} {l : Launch} {e : Env} {R : Room} {s : State} {m : MethodId} {args : Array Value} {below : List Frame} {meth : Method} {c : Code} {H : Heap} {locs : List Loc} {cells slots : Nat} {Q : State → Prop}
variable {cc : ByteArray} {pc : Nat} {ls : Array Slot} {rest : List Value} {s0 : State} {D : va_G} {w : hv_W} {tys : List (ClassId × FieldType)} {post : Option Value → hv_W → Prop} {postT : Nat → hv_W → Prop}
theorem hv_throwNE (C : hv_C l s0 D tys) (N : hv_N s0) (k : Nat) {text : String} {is : Nat} (hs : Cond.stringRef "GraphKeep" is text ∈ lw_tbl)
    (hexec : p.tables.exec = Jvm.exec) (hb : c.code = cc) (htr : e.platform.stackTraces = false) (hown : s.vm.findClass "GraphKeep" = some m.cls)
    (hK : va_K D classes tys s) (hZ : hv_Z s0 s) (hS : va_S (hv_A s0.heap.size) s.heap H locs) (hP : hv_P D classes s0.heap.size w H)
    (hsize : ls.size = c.maxLocals) (d0 : decode cc pc = .ok (.new 223, 3)) (d3 : decode cc (pc + 3) = .ok (.dup, 1)) (d4 : (k = 2 ∧ decode cc (pc + 4) = .ok (.ldc is, 2)) ∨ (k = 3 ∧ decode cc (pc + 4) = .ok (.ldc_w is, 3))) (d6 : decode cc (pc + 4 + k) = .ok (.invokespecial 227, 3)) (d9 : decode cc (pc + 4 + k + 3) = .ok (.athrow, 1))
    (hout : ∀ (pc : Nat), ∀ z ∈ c.exceptionTable.toList, covers z pc = false) (hlocks : meth.locks = false)
    (hRf : 5 < R.frames) (hRl : (rest.map fun v => v.category).sum + 82 ≤ R.locals) (hRc : cells + 1 ≤ R.cells) (hRs : slots + 6 ≤ R.slots)
    (hQ : Q = hv_MQ below (hv_Q s0 D post postT) args s (cells + 1) (slots + 6) (hv_A s0.heap.size)) (hq : ∀ x : Nat, w x = none → postT x (va_up w x (some (.inr (10, []))))) :
    W p l e R s m args below meth c H locs cells slots Q (F0 m pc ls rest) := by
  obtain ⟨sa, hsa⟩ := hv_strAt C hs
  exact hv_throwN k (text := text) (ciE := 10) (T0 := F_ex) hexec hb htr hown hK rfl hZ hS hP (fun U hU => ⟨hv_exW C N hv_chkN hU, (hv_strW C hU hs hsa).1, (hv_strW C hU hs hsa).2⟩) hsize d0 d3 d4 d6 d9 (hout _) hlocks hRf hRl hRc hRs hQ hq
end HVTHN
theorem gk_lt97 {n : Int32} {N : Nat} (h0 : ¬ n < 0) (h1 : n < nI N) (hN : N < 2 ^ 31) : n.toNatClampNeg < N := by
  have h2 : ¬ nI N ≤ n := fun z => absurd h1 (Int32.not_lt.mpr z)
  obtain ⟨i, hi, e⟩ := vp_in_of (gk_in h0 h2 hN) hN
  subst e
  rw [nI_clamp (by omega)]; exact hi
/-! THE START -/
def gS0 : gS := (fun _ => none, fun _ => none, fun _ => none, fun _ => 0, [], 0, 0, 0, 0, 0, 0, 0, 0, 0, 0)
theorem gL_inj {l : List Nat} (h : l.Nodup) : ∀ i j, i < l.length → j < l.length → l.getD i 0 = l.getD j 0 → i = j := fun i j hi hj e => by
  rw [List.getD_eq_getElem?_getD, List.getD_eq_getElem?_getD, List.getElem?_eq_getElem hi, List.getElem?_eq_getElem hj] at e
  exact (List.getElem_inj h).mp e
def gkx (x : Nat) (w w' : hv_W) : Prop := ∀ (b : Nat) (e : va_E), b ≠ x → w b = some e → w' b = some e
theorem gkx.new {x q : Nat} {w w' : hv_W} {e : va_E} (h : gkx x w w') (hq : w' q = none) : gkx x w (va_up w' q (some e)) := fun b f hb hf => hv_up_f hq (h b f hb hf)
theorem gkx.put {x : Nat} {w w' : hv_W} {e : va_E} (h : gkx x w w') : gkx x w (va_up w' x (some e)) := fun b f hb hf => hv_up_k (h b f hb hf) hb
theorem gkx.fr {x q : Nat} {w w' : hv_W} (h : gkx x w w') (hq : w' q = none) (hx : q ≠ x) : w q = none := by
  cases hw : w q with
  | none => rfl
  | some f => rw [h q f hx hw] at hq; cases hq
