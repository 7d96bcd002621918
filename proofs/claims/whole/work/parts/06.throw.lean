/-! EXCEPTIONS THAT THE PROGRAM MAKES ITSELF (no stack traces) -/
section HVTHROW
variable {p : Program} {l : Launch} {e : Env} {R : Room} {s : State} {m : MethodId} {args : Array Value} {below : List Frame} {meth : Method} {c : Code} {H : Heap} {locs : List Loc} {cells slots : Nat} {Q : State → Prop}
/-- the walk as if the method were entered now, in the heap as it stands -/
theorem hv_rebase {T : State} (X : Stand p l e R s m args below meth c T locs cells slots) {R' : Room} (hf : R'.frames ≤ R.frames) (hl : R'.locals ≤ R.locals) (hc : cells + R'.cells ≤ R.cells) (hs : slots + R'.slots ≤ R.slots) :
    Stand p l e R' (T.setFrames (.invoking m args :: below)) m args below meth c T [] 0 0 := by
  obtain ⟨g₀, hfr⟩ := X.frames_eq
  have hcur : T.cur < T.threads.size := State.cur_lt_of_frames hfr
  obtain ⟨th, hth, -⟩ := State.frames_cons hfr
  have hF : (T.setFrames (.invoking m args :: below)).frames = .invoking m args :: below := State.frames_setFrames _ hcur
  have hlo : (T.setFrames (.invoking m args :: below)).localsInUse = s.localsInUse := by
    rw [State.localsInUse_invoking hF X.method' X.code, State.localsInUse_invoking X.frames X.method X.code]
  have rb := State.hasRoom_plain X.room
  have rr := State.hasRoom_real X.room
  obtain ⟨r1, -, r3, -⟩ := State.hasRoom_stack X.room
  rw [X.frames] at r1
  have hh : (T.setFrames (.invoking m args :: below)).hears m below = true := by
    have h1 : (T.setFrames (.invoking m args :: below)).hears m below = s.hears m below := by
      rcases below with _ | ⟨y, r⟩
      · show ((T.vm.method? m).any _) = ((s.vm.method? m).any _)
        rw [X.warmed.alike.method?]
      · cases y <;> first | rfl | (simp only [State.hears, State.code?_eq]; show _ = _; simp [State.setFrames, X.warmed.alike.method?])
    rw [h1]; exact X.hears
  refine ⟨X.admits, X.cas, X.clock, hF, State.hasRoom_of (by rw [State.stackBytes_setFrames, X.bytes]; exact rb) (by rw [hF]; omega) (by rw [hlo]; omega) (X.cellsAbove hc) (X.slotsAbove hs) X.book (by rw [hlo]; omega), hh, X.method', X.code, X.here, X.tail, State.WarmedH.refl T, by rw [State.stackLimits_setFrames], by rw [State.stackBytes_setFrames], ?_⟩
  have h0 := State.sameButNew.refl T hth
  refine ⟨?_, h0.2⟩
  show T = { (T.setFrames (.invoking m args :: below)).setFrames T.frames with heap := T.heap, slotsUsed := T.slotsUsed }
  rw [State.setFrames_setFrames, State.setFrames_self hth]
theorem hv_lowLays {s0 U : State} (hZ : hv_Z s0 U) {O f d : String} {A A' : Array Value} (h : (Cond.laysStatic O f d).before A s0 = true) : (Cond.laysStatic O f d).before A' U = true := by
  obtain ⟨c, k, i, fd, a, cell, hc, hf, hst, hsta, hcell, hiss, hcls, hlt, hty⟩ := Cond.laysStatic_spec h
  obtain ⟨k', hf', he⟩ := State.fieldFound?_setVm hZ.1.alike hf
  have h1 : U.fieldFound? O f d = some (c, k', i, fd) := hf'
  have h2 : U.vm.findClass O = some c := by rw [hZ.1.alike.findClass]; exact hc
  have h3 : k'.statics = some a := by rw [he]; exact hsta
  have h4 : k'.staticTypes[fd.slot]? = some fd.type := by rw [he]; exact hty
  have h5 : U.heap[a]? = some cell := by rw [hZ.2.2 a (Array.getElem?_eq_some_iff.mp hcell).1]; exact hcell
  simp [Cond.before, Cond.holds, Cond.value, h2, h1, hst, h3, h5, hiss, hcls, hlt, h4]
theorem hv_lowRef {s0 U : State} (hZ : hv_Z s0 U) {C n d : String} {A A' : Array Value} (hl : (Cond.laysStatic C n d).before A s0 = true) (hini : (Cond.initialized C).before A s0 = true) (h : (Cond.isRef (.static C n d)).before A s0 = true) : (Cond.isRef (.static C n d)).before A' U = true := by
  have z0 : va_Zq C n d (hv_A s0.heap.size) s0 s0.heap := va_Zqof hl hini h (fun a h1 h2 => Nat.not_le.mpr h1 h2)
  have z1 : va_Zq C n d (hv_A s0.heap.size) U U.heap := (va_Zq.moved hZ.1.alike z0).kept (fun a h1 _ => hZ.2.2 a h1)
  rcases z1 with ⟨cf, kf, fi, f, a, cell, g1, g2, -, g4, g5, g6, g7, -⟩ | ⟨t, cf, kf, fi, f, a, cell, g1, g2, -, g4, g5, g6, g7, -⟩
  · simp [Cond.before, Cond.holds, Cond.value, Term.eval, State.fieldNamed?, g1, g2, g4, g5, g6, g7]
  · simp [Cond.before, Cond.holds, Cond.value, Term.eval, State.fieldNamed?, g1, g2, g4, g5, g6, g7]
variable {cc : ByteArray} {pc : Nat} {ls : Array Slot} {rest : List Value} {s0 : State} {D : va_G} {w : hv_W} {tys : List (ClassId × FieldType)} {post : Option Value → hv_W → Prop} {postT : Nat → hv_W → Prop}
set_option maxHeartbeats 1000000 in
/-- 'throw new E("text")': the text's constant by an index of one byte (k = 2) or two (k = 3) -/
theorem hv_throwK (k : Nat) {own cls text : String} {names : List String} {ik is ic sa ciE : Nat} {T0 : u_T}
    (hexec : p.tables.exec = Jvm.exec) (hb : c.code = cc) (htr : e.platform.stackTraces = false) (hown : s.vm.findClass own = some m.cls) (hcls : Bundle.fit cls = true) (hnames : ∀ n ∈ names, Bundle.fit n = true)
    (hK : va_K D classes tys s) (hc : classes[ciE]? = some (cls, T0, 0)) (hZ : hv_Z s0 s) (hS : va_S (hv_A s0.heap.size) s.heap H locs) (hP : hv_P D classes s0.heap.size w H)
    (hw : ∀ U : State, hv_Z s0 U → (∀ w ∈ Cond.classLink own ik cls :: Cond.initialized cls :: Bundle.ownAtoms own ic cls names, w.before args U = true) ∧ (Cond.stringRef own is text).before args U = true ∧ (Term.string own is).eval args U none [] U = some (.ref sa))
    (hsize : ls.size = c.maxLocals) (d0 : decode cc pc = .ok (.new ik, 3)) (d3 : decode cc (pc + 3) = .ok (.dup, 1)) (d4 : (k = 2 ∧ decode cc (pc + 4) = .ok (.ldc is, 2)) ∨ (k = 3 ∧ decode cc (pc + 4) = .ok (.ldc_w is, 3))) (d6 : decode cc (pc + 4 + k) = .ok (.invokespecial ic, 3)) (d9 : decode cc (pc + 4 + k + 3) = .ok (.athrow, 1))
    (hout : ∀ z ∈ c.exceptionTable.toList, covers z (pc + 4 + k + 3) = false) (hlocks : meth.locks = false)
    (hRf : names.length + 3 < R.frames) (hRl : (rest.map fun v => v.category).sum + (13 * (names.length + 1) + 43) ≤ R.locals) (hRc : cells + 1 ≤ R.cells) (hRs : slots + 6 ≤ R.slots)
    (hQ : Q = hv_MQ below (hv_Q s0 D post postT) args s (cells + 1) (slots + 6) (hv_A s0.heap.size)) (hq : ∀ x : Nat, w x = none → postT x (va_up w x (some (.inr (ciE, []))))) :
    W p l e R s m args below meth c H locs cells slots Q (F0 m pc ls rest) := by
  subst hQ
  intro T hT X
  have X0 := hv_rebase X (R' := { frames := R.frames, locals := R.locals, cells := 1, slots := 6 }) (Nat.le_refl _) (Nat.le_refl _) hRc hRs
  have hZ' : hv_Z s0 (T.setFrames (.invoking m args :: below)) := (hv_Gof hZ hS hP (t := T.setFrames (.invoking m args :: below)) hT X.warmed).1
  obtain ⟨hws, hsr, hse⟩ := hw _ hZ'
  have hown' : (T.setFrames (.invoking m args :: below)).vm.findClass own = some m.cls := by
    show T.vm.findClass own = some m.cls
    rw [X.warmed.alike.findClass]; exact hown
  obtain ⟨vm₁, cX, kX, hfX, hkX, -, -, X₁, st1⟩ := X0.newCold hexec (own := own) (C := cls) (index := ik) (n := 6) hown' (hws _ List.mem_cons_self) (hws (.instantiable cls 6) (by simp [Bundle.ownAtoms])) (hws (.initialized cls) (by simp)) (g := F0 m pc ls rest) rfl (by rw [hb]; exact d0) (Nat.le_refl _) (Nat.le_refl _)
  generalize hT1 : (T.setVm vm₁).pushCell { cls := cX, slots := kX.instanceTypes.map defaultValue, vm := .none } = T1 at X₁ st1
  have hcellA : T1.heap[T.heap.size]? = some (freshCell cX kX) := by rw [← hT1]; exact State.heap_pushCell_size _ _
  have K : W p l e { frames := R.frames, locals := R.locals, cells := 1, slots := 6 } (T.setFrames (.invoking m args :: below)) m args below meth c T1.heap [] (0 + 1) (0 + 6) (fun U => U.status = .running ∧ Ended U below (.threw T.heap.size) ∧ (T.setFrames (.invoking m args :: below)).WarmedH U.vm ∧ (T.setFrames (.invoking m args :: below)).sameButNew ({ U with vm := (T.setFrames (.invoking m args :: below)).vm } : State) [] (0 + 1) (0 + 6) ∧ ∃ ce, U.heap[T.heap.size]? = some ce ∧ Bundle.OwnCell args (T.setFrames (.invoking m args :: below)) cls T.heap.size (.ref sa) ce) (F0 m (pc + 3) ls (.ref T.heap.size :: rest)) := by
    refine lv_dup hexec hb d3 rfl ?_
    intro T2 hT2 X2
    obtain ⟨U, hsteps, hrun, hend, hW, hsame, ce, hce, Kc⟩ := X2.ctorThrowS hexec htr (own := own) (cls := cls) (names := names) (ic := ic) hown' hcls hnames (fun y hy => hws y (by simp [hy])) (fun y hy => by cases hy) hfX hkX (a := T.heap.size) (by rw [hT2]; exact hcellA) (Nat.le_refl _) (msg := .ref sa) rfl
      (g := F0 m (pc + 4 + k) ls (.ref sa :: .ref T.heap.size :: .ref T.heap.size :: rest)) rfl hsize rfl rfl (rest := rest) rfl (by rw [hb]; exact d6) (by rw [hb]; exact d9) hout hRf (by simp only [List.map_cons, List.sum_cons]; show 2 * 0 + (1 + (rest.map fun v => v.category).sum) + (13 * (names.length + 1) + 42) ≤ R.locals; omega) hlocks
    refine ⟨U, ?_, hrun, hend, hW, hsame, ce, hce, Kc⟩
    rcases d4 with ⟨rfl, d4⟩ | ⟨rfl, d4⟩
    · exact X2.ldcString hexec hown' hsr hse (g := F0 m (pc + 4) ls (.ref T.heap.size :: .ref T.heap.size :: rest)) rfl (by rw [hb]; exact d4) _ hsteps
    · exact X2.ldcStringW hexec hown' hsr hse (g := F0 m (pc + 4) ls (.ref T.heap.size :: .ref T.heap.size :: rest)) rfl (by rw [hb]; exact d4) _ hsteps
  obtain ⟨U, a1, hrun, hend, hW, hsame, ce, hce, Kc⟩ := K T1 rfl X₁
  have hold : ∀ q : Nat, q < T.heap.size → U.heap[q]? = T.heap[q]? := fun q hq => by
    have h9 : (T.setFrames (.invoking m args :: below)).heap[q]? = some T.heap[q] := Array.getElem?_eq_getElem hq
    have h8 : U.heap[q]? = some T.heap[q] := State.sameButNew.old_cell hsame h9
    rw [h8, Array.getElem?_eq_getElem hq]
  have hgrow : T.heap.size ≤ U.heap.size := hsame.2.1
  have hfresh : w T.heap.size = none := by
    cases hw9 : w T.heap.size with
    | none => rfl
    | some f =>
      have h9 := hv_lt hP hw9
      rw [← hT] at h9
      exact absurd h9 (Nat.lt_irrefl _)
  have hZU : hv_Z s0 U := ⟨State.WarmedH.trans hZ'.1 hW, Nat.le_trans hZ'.2.1 hgrow, fun q hq => (hold q (Nat.lt_of_lt_of_le hq hZ'.2.1)).trans (hZ'.2.2 q hq)⟩
  have hPU : hv_P D classes s0.heap.size (va_up w T.heap.size (some (.inr (ciE, [])))) U.heap := by
    intro b f hbf
    by_cases hbx : b = T.heap.size
    · subst hbx
      rw [hv_up_s] at hbf
      cases hbf
      refine ⟨hZ'.2.1, (cls, T0, 0), hc, ce, hce, ?_, Kc.vm, fun k hk => absurd hk (Nat.not_lt_zero k)⟩
      have h1 : s.vm.findClass cls = some (D.1 ciE) := (hK.1 ciE _ hc).2.1
      have h2 : T.vm.findClass cls = some ce.cls := Kc.cls
      rw [X.warmed.alike.findClass, h1] at h2
      exact (Option.some.inj h2).symm
    · rw [hv_up_n hbx] at hbf
      have h1 := hP b f hbf
      exact ⟨h1.1, h1.2.kept (by rw [← hT]; exact hold b (by rw [hT]; exact h1.2.lt))⟩
  refine ⟨U, st1 _ a1, .threw T.heap.size, hrun, hend, ⟨_, ⟨hZU, hPU⟩, hq _ hfresh⟩, locs, ⟨State.WarmedH.trans X.warmed (show T.WarmedH U.vm from hW), ?_⟩, hS.2.2⟩
  have h2 : (T.setVm s.vm).sameButNew ({ U with vm := s.vm } : State) [] (0 + 1) (0 + 6) := by
    refine ⟨?_, hsame.2⟩
    have h9 := congrArg (fun z : State => z.setVm s.vm) hsame.1
    rw [State.setFrames_setFrames] at h9
    exact h9
  have h3 := X.same.trans h2
  rw [List.append_nil, Nat.zero_add, Nat.zero_add] at h3
  exact h3
end HVTHROW
