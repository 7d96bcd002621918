/-! THE CONTEXT OF A WHOLE RUN: s0, the law's start; its words and its kinds of objects stand at every later state -/
theorem hv_follows {l : Launch} {e : Env} (h : l.admits e) : e.platform.stackTraces = l.stackTraces := by rw [h.platform]
/-- what is known for the whole run -/
def hv_C (l : Launch) (s0 : State) (D : va_G) (tys : List (ClassId × FieldType)) : Prop :=
  va_K D classes tys s0 ∧ (∀ w ∈ lw_tbl, ∃ A : Array Value, w.before A s0 = true) ∧ l.stackTraces = false
/-- a state of the run: warmer tables; what was there at the start is as it was -/
def hv_Z (s0 U : State) : Prop := s0.WarmedH U.vm ∧ s0.heap.size ≤ U.heap.size ∧ ∀ q : Nat, q < s0.heap.size → U.heap[q]? = s0.heap[q]?
def hv_G (s0 : State) (D : va_G) (w : hv_W) (U : State) : Prop := hv_Z s0 U ∧ hv_P D classes s0.heap.size w U.heap
def hv_Pc (s0 : State) (D : va_G) (w : hv_W) (av : List Value) : Array Value → State → Prop := va_Pc av (hv_G s0 D w)
def hv_Q (s0 : State) (D : va_G) (post : Option Value → hv_W → Prop) (postT : Nat → hv_W → Prop) : Array Value → State → Outcome → State → Prop := fun _ _ oc t => ∃ w' : hv_W, hv_G s0 D w' t ∧ match oc with
  | .returned v => post v w'
  | .threw x => postT x w'
theorem hv_blind {s0 : State} {D : va_G} {w : hv_W} {av : List Value} : FrameBlind (hv_Pc s0 D w av) := fun _ _ _ _ q => q
theorem hv_words {l : Launch} {s0 s : State} {D : va_G} {tys : List (ClassId × FieldType)} {A : Array Value} (C : hv_C l s0 D tys) (hW : s0.WarmedH s.vm) : ∀ w ∈ hv_Ts, w.before A s = true := fun w hw => by
  obtain ⟨A0, h0⟩ := C.2.1 w (List.mem_filter.mp hw).1
  exact word_at hW (good_of_word (List.mem_filter.mp hw).2) h0
theorem hv_wordsU {l : Launch} {s0 s : State} {D : va_G} {tys : List (ClassId × FieldType)} (C : hv_C l s0 D tys) (hW : s0.WarmedH s.vm) {ws : List Cond} (hws : ∀ w ∈ ws, w ∈ hv_Ts) : ∀ w ∈ ws, ∀ (a' : Array Value) (U : State), s.WarmedH U.vm → w.before a' U = true := fun w hw _ _ h => hv_words C (State.WarmedH.trans hW h) w (hws w hw)
theorem hv_Gof {s0 s t : State} {D : va_G} {w : hv_W} {H : Heap} {locs : List Loc} (hZ : hv_Z s0 s) (hS : va_S (hv_A s0.heap.size) s.heap H locs) (hP : hv_P D classes s0.heap.size w H) (ht : t.heap = H) (hW : s.WarmedH t.vm) : hv_G s0 D w t :=
  ⟨⟨State.WarmedH.trans hZ.1 hW, by rw [ht]; exact Nat.le_trans hZ.2.1 hS.1, fun q hq => by rw [ht, hS.2.1 q (Nat.lt_of_lt_of_le hq hZ.2.1) (Nat.not_le.mpr hq)]; exact hZ.2.2 q hq⟩, by rw [ht]; exact hP⟩
theorem hv_pre {s0 s : State} {D : va_G} {w : hv_W} {H : Heap} {locs : List Loc} {av : List Value} (hZ : hv_Z s0 s) (hS : va_S (hv_A s0.heap.size) s.heap H locs) (hP : hv_P D classes s0.heap.size w H) : ∀ U : State, U.heap = H → s.WarmedH U.vm → hv_Pc s0 D w av av.toArray U := fun _ hU hW => ⟨rfl, hv_Gof hZ hS hP hU hW⟩
/-- the end of a walk, of either kind -/
def hv_MQ (below : List Frame) (Qc : Array Value → State → Outcome → State → Prop) (a : Array Value) (s : State) (mc ms : Nat) (free : Addr → Prop) : State → Prop := fun t =>
  ∃ o, t.status = .running ∧ Ended t below o ∧ Qc a s o t ∧ ∃ L, hv_FE s t L mc ms ∧ ∀ q ∈ L, free q.base
theorem hv_MQof {below : List Frame} {Qc : Array Value → State → Outcome → State → Prop} {a : Array Value} {s : State} {mc ms : Nat} {free : Addr → Prop} (t : State) (h : MQ below Qc a s mc ms free t) : hv_MQ below Qc a s mc ms free t := by
  obtain ⟨o, h1, h2, h3, L, ⟨-, h4, h5⟩, h6⟩ := h
  exact ⟨o, h1, h2, h3, L, ⟨h4, h5⟩, h6⟩
section HVCTX
variable {p : Program} {l : Launch} {e : Env} {R : Room} {s : State} {m : MethodId} {args : Array Value} {below : List Frame} {meth : Method} {c : Code} {H : Heap} {locs : List Loc} {cells slots : Nat} {Q : State → Prop}
variable {cc : ByteArray} {pc : Nat} {ls : Array Slot} {rest st0 : List Value} {D : va_G} {w : hv_W} {s0 : State} {tys : List (ClassId × FieldType)}
variable {post : Option Value → hv_W → Prop} {postT : Nat → hv_W → Prop}
theorem hv_mono {Q' : State → Prop} {g : JFrame} (h : ∀ t, Q t → Q' t) (k : W p l e R s m args below meth c H locs cells slots Q g) : W p l e R s m args below meth c H locs cells slots Q' g := fun T hT X => by
  obtain ⟨t, a, b⟩ := k T hT X
  exact ⟨t, a, h t b⟩
theorem hv_call {mc ms : Nat} {a : Array Value} (hr : hv_Run p l e R s m args below meth c H locs cells slots mc ms (F0 m pc ls st0) rest (hv_Q s0 D post postT a) (hv_A s0.heap.size)) (hZ : hv_Z s0 s) (hS : va_S (hv_A s0.heap.size) s.heap H locs)
    (kk : ∀ (v : Option Value) (w' : hv_W) (H1 : Heap) (locs1 : List Loc), post v w' → hv_P D classes s0.heap.size w' H1 → va_S (hv_A s0.heap.size) s.heap H1 locs1 → W p l e R s m args below meth c H1 locs1 (cells + mc) (slots + ms) Q (F0 m (pc + 3) ls (v.toList ++ rest)))
    (kt : ∀ (x : Nat) (w' : hv_W) (H1 : Heap) (locs1 : List Loc), postT x w' → hv_P D classes s0.heap.size w' H1 → va_S (hv_A s0.heap.size) s.heap H1 locs1 → hv_T p l e R s m args below meth c H1 locs1 (cells + mc) (slots + ms) Q (F0 m pc ls rest) x) : W p l e R s m args below meth c H locs cells slots Q (F0 m pc ls st0) := by
  intro T hT X
  obtain ⟨o, st₀, t, T', L, h0, X', hL, e1, e2, ⟨w', ⟨hz, hp⟩, hq⟩, st⟩ := hr T hT X
  have hsz : s.heap.size ≤ T'.heap.size := X'.same.2.1
  have hS' : va_S (hv_A s0.heap.size) s.heap T'.heap (locs ++ L) := ⟨hsz, fun q h1 h2 => by rw [e1, hz.2.2 q (Nat.not_le.mp h2), hZ.2.2 q (Nat.not_le.mp h2)], fun q hq => by
    rcases List.mem_append.mp hq with h | h
    · exact hS.2.2 q h
    · exact hL q h⟩
  cases o with
  | returned v =>
    obtain ⟨t2, a1, b1⟩ := kk v w' T'.heap (locs ++ L) hq (by rw [e1]; exact hp) hS' T' rfl X'
    exact ⟨t2, st t2 a1, b1⟩
  | threw x =>
    obtain ⟨t2, a1, b1⟩ := kt x w' T'.heap (locs ++ L) hq (by rw [e1]; exact hp) hS' T' rfl X'
    exact ⟨t2, st t2 a1, b1⟩
theorem hv_iret {v : Int32} (hQ : Q = hv_MQ below (hv_Q s0 D post postT) args s cells slots (hv_A s0.heap.size)) (hexec : p.tables.exec = Jvm.exec) (hb : c.code = cc) (hr : meth.sig.returnType = some .int) (hZ : hv_Z s0 s) (hS : va_S (hv_A s0.heap.size) s.heap H locs) (hP : hv_P D classes s0.heap.size w H) (hlocks : meth.locks = false) (hdg : decode cc pc = .ok (.ireturn, 1)) (hq : post (some (.int v)) w) :
    W p l e R s m args below meth c H locs cells slots Q (F0 m pc ls [.int v]) := by
  subst hQ
  exact hv_mono hv_MQof (W.iret hexec hb hr (fun t ht hW => ⟨w, hv_Gof hZ hS hP ht hW, hq⟩) hS.2.2 hdg hlocks)
theorem hv_zret {v : Int32} (hQ : Q = hv_MQ below (hv_Q s0 D post postT) args s cells slots (hv_A s0.heap.size)) (hexec : p.tables.exec = Jvm.exec) (hb : c.code = cc) (hr : meth.sig.returnType = some .boolean) (hn : narrow .boolean (.int v) = .int v) (hZ : hv_Z s0 s) (hS : va_S (hv_A s0.heap.size) s.heap H locs) (hP : hv_P D classes s0.heap.size w H) (hlocks : meth.locks = false) (hdg : decode cc pc = .ok (.ireturn, 1)) (hq : post (some (.int v)) w) :
    W p l e R s m args below meth c H locs cells slots Q (F0 m pc ls [.int v]) := by
  subst hQ
  exact hv_mono hv_MQof (W.zret hexec hb hr hn (fun t ht hW => ⟨w, hv_Gof hZ hS hP ht hW, hq⟩) hS.2.2 hdg hlocks)
theorem hv_lret {v : Int64} (hQ : Q = hv_MQ below (hv_Q s0 D post postT) args s cells slots (hv_A s0.heap.size)) (hexec : p.tables.exec = Jvm.exec) (hb : c.code = cc) (hr : meth.sig.returnType = some .long) (hZ : hv_Z s0 s) (hS : va_S (hv_A s0.heap.size) s.heap H locs) (hP : hv_P D classes s0.heap.size w H) (hlocks : meth.locks = false) (hdg : decode cc pc = .ok (.lreturn, 1)) (hq : post (some (.long v)) w) :
    W p l e R s m args below meth c H locs cells slots Q (F0 m pc ls [.long v]) := by
  subst hQ
  exact hv_mono hv_MQof (W.lret hexec hb hr (fun t ht hW => ⟨w, hv_Gof hZ hS hP ht hW, hq⟩) hS.2.2 hdg hlocks)
theorem hv_vret (hQ : Q = hv_MQ below (hv_Q s0 D post postT) args s cells slots (hv_A s0.heap.size)) (hexec : p.tables.exec = Jvm.exec) (hb : c.code = cc) (hr : meth.sig.returnType = none) (hZ : hv_Z s0 s) (hS : va_S (hv_A s0.heap.size) s.heap H locs) (hP : hv_P D classes s0.heap.size w H) (hlocks : meth.locks = false) (hdg : decode cc pc = .ok (.return_, 1)) (hq : post none w) :
    W p l e R s m args below meth c H locs cells slots Q (F0 m pc ls []) := by
  subst hQ
  exact hv_mono hv_MQof (W.vret hexec hb hr (fun t ht hW => ⟨w, hv_Gof hZ hS hP ht hW, hq⟩) hS.2.2 hdg hlocks)
theorem hv_aret {v : Option Nat} {rt : FieldType} (hQ : Q = hv_MQ below (hv_Q s0 D post postT) args s cells slots (hv_A s0.heap.size)) (hexec : p.tables.exec = Jvm.exec) (hb : c.code = cc) (hr : meth.sig.returnType = some rt) (hrt : (∃ n, rt = .object n) ∨ ∃ t, rt = .array t) (hZ : hv_Z s0 s) (hS : va_S (hv_A s0.heap.size) s.heap H locs) (hP : hv_P D classes s0.heap.size w H) (hlocks : meth.locks = false) (hdg : decode cc pc = .ok (.areturn, 1)) (hq : post (some (va_rf v)) w) :
    W p l e R s m args below meth c H locs cells slots Q (F0 m pc ls [va_rf v]) := by
  subst hQ
  exact hv_mono hv_MQof (W.aret hexec hb hr hrt (va_rf_or v) (fun t ht hW => ⟨w, hv_Gof hZ hS hP ht hW, hq⟩) hS.2.2 hdg hlocks)
/-- an exception leaves the method -/
theorem hv_tleave {x : Nat} (hQ : Q = hv_MQ below (hv_Q s0 D post postT) args s cells slots (hv_A s0.heap.size)) (hZ : hv_Z s0 s) (hS : va_S (hv_A s0.heap.size) s.heap H locs) (hP : hv_P D classes s0.heap.size w H) (hlocks : meth.locks = false) (hout : ∀ z ∈ c.exceptionTable.toList, covers z pc = false) (hq : postT x w) :
    hv_T p l e R s m args below meth c H locs cells slots Q (F0 m pc ls rest) x := by
  subst hQ
  intro T hT X
  obtain ⟨st, hrun, hend, hW, hsame⟩ := X.leaveThrown x (g := F0 m pc ls rest) rfl rfl rfl hout hlocks
  exact ⟨_, st, .threw x, hrun, hend, ⟨w, hv_Gof hZ hS hP hT hW, hq⟩, locs, ⟨hW, hsame⟩, hS.2.2⟩
theorem hv_enter {y : MethodName} {maxL mc ms : Nat} {ret : Option FieldType} {av : List Value} (C : hv_C l s0 D tys) (rm : Room) (hy : plainName y.cls = true) (hlen : (lg_sl av).length ≤ maxL)
    (body : ∀ (p : Program) (e : Env) (s : State) (m : MethodId) (below : List Frame) (meth : Method) (c : Code) (ls : Array Slot) (Q : State → Prop), Q = hv_MQ below (hv_Q s0 D post postT) av.toArray s mc ms (hv_A s0.heap.size) → p.tables.exec = Jvm.exec → c.code = cc → meth.sig.returnType = ret → c.maxLocals = maxL → s.vm.findClass y.cls = some m.cls → (∀ w ∈ hv_Ts, w.before av.toArray s = true) → va_K D classes tys s → hv_Z s0 s → meth.locks = false → meth.name = y.name →
      (∀ (pc : Nat), ∀ z ∈ c.exceptionTable.toList, covers z pc = false) → e.platform.stackTraces = false → hv_P D classes s0.heap.size w s.heap → lv_has ls maxL (lv_args 0 av) →
      W p l e rm s m av.toArray below meth c s.heap [] 0 0 Q (F0 m 0 ls [])) :
    hv_Met l y [.code y cc maxL ret] rm (hv_Pc s0 D w av) (hv_Q s0 D post postT) mc ms (hv_A s0.heap.size) := by
  refine MetFree.of_bodyS (code := cc) (maxLocals := maxL) (ret := ret) hy ?_ ?_
  · intro args s m h hn
    obtain ⟨meth, c, h1, h2, h3, h4, h5, h6, -, -⟩ := Cond.code_spec hn (atoms_spec (ws := [.code y cc maxL ret]) h _ List.mem_cons_self)
    exact ⟨meth, c, h1, h2, h3, h4, h5, h6⟩
  · intro p e s m args below meth c s₁ B hml hPc _
    obtain ⟨rfl, hZ, hP⟩ := hPc
    have hh0 : s₁.heap = s.heap := by rw [B.state]; rfl
    have hcode := atoms_spec (ws := [.code y cc maxL ret]) B.pre _ List.mem_cons_self
    have hempty := B.noHandlers hcode
    have hout : ∀ (pc : Nat), ∀ z ∈ c.exceptionTable.toList, covers z pc = false := fun pc => covers_of_empty hempty pc
    have htr : e.platform.stackTraces = false := by rw [hv_follows B.admits]; exact C.2.2
    have hl := lv_entry av (n := maxL) hlen
    have K := body p e s m below meth c _ _ rfl B.exec B.bytes B.returns hml (findClass_of_methodNamed B.named) (hv_words C hZ.1) (va_K.moved hZ.1.alike C.1) hZ B.notSynchronized (name_of_methodNamed B.named B.method).1 hout htr hP hl
    rw [← lg_entry_eq] at K
    obtain ⟨t, a1, o, b1, b2, b3⟩ := K s₁ hh0 (Stand.of_body B)
    exact ⟨t, o, a1, b1, b2, b3⟩
theorem hv_cw {y : MethodName} {bytes : ByteArray} {maxL mc ms : Nat} {ret : Option FieldType} {rm : Room} (C : hv_C l s0 D tys) (hZ : hv_Z s0 s) (hcode : Cond.code y bytes maxL ret ∈ hv_Ts) (hini : Cond.initialized y.cls ∈ hv_Ts) (hR : rm.cells = mc ∧ rm.slots = ms ∧ rm.frames + 1 ≤ R.frames ∧ 8 + (maxL + 11) + rm.locals ≤ R.locals) : hv_Cw R s y [.code y bytes maxL ret] rm mc ms maxL :=
  ⟨hR.1, hR.2.1, hR.2.2.1, hR.2.2.2, hv_wordsU C hZ.1 (fun w hw => by rw [List.mem_singleton.mp hw]; exact hcode), fun U mk hW hn => by
    obtain ⟨mY, cY, h1, h2, -, h4, -⟩ := Cond.code_spec hn (hv_words (A := #[]) C (State.WarmedH.trans hZ.1 hW) _ hcode)
    exact ⟨mY, cY, h1, h2, h4⟩, fun a' U hW => hv_words C (State.WarmedH.trans hZ.1 hW) _ hini⟩
theorem hv_sig {y : MethodName} {bytes : ByteArray} {maxL : Nat} {ret : Option FieldType} (hcode : (Cond.code y bytes maxL ret).before args s = true) : ∃ (mk : MethodId) (mY : Method), s.methodNamed? y = some mk ∧ s.vm.method? mk = some mY ∧ parseMethodDescriptor y.desc = some mY.sig := by
  obtain ⟨mk, hn⟩ := Cond.code_named hcode
  obtain ⟨mY, cY, h1, -, -, -, -, -, -, h8⟩ := Cond.code_spec hn hcode
  exact ⟨mk, mY, hn, h1, h8⟩
theorem hv_nest {own host : String} {idx : Nat} {y : MethodName} {A : Array Value} (C : hv_C l s0 D tys) (hZ : hv_Z s0 s) (h : Cond.methodLinkNest own idx y host ∈ lw_tbl) : (Cond.methodLinkNest own idx y host).before A s = true := by
  obtain ⟨A0, h0⟩ := C.2.1 _ h
  exact va_Nw.use rfl (va_Nw.warmM hZ.1 (va_Nw.of rfl h0))
theorem hv_over {N : String} (C : hv_C l s0 D tys) (hZ : hv_Z s0 s) (h : Cond.arrayOver (.object N) ∈ lw_tbl) : va_AO N s := by
  obtain ⟨A0, h0⟩ := C.2.1 _ h
  exact va_AO.moved hZ.1.alike (va_AO.of h0)
theorem hv_cast {N M : String} (C : hv_C l s0 D tys) (hZ : hv_Z s0 s) (h : Cond.castable N M ∈ lw_tbl) : va_Nw (.castable N M) s := by
  obtain ⟨A0, h0⟩ := C.2.1 _ h
  exact va_Nw.warmC hZ.1 (va_Nw.of rfl h0)
/-- a method that only its own kind sees is chosen whatever the receiver is: x is another method of the same kind, y the one that is meant -/
theorem hv_selP {N : String} {x y : MethodName} {A : Array Value} (C : hv_C l s0 D tys) (hZ : hv_Z s0 s) (hxy : x.cls = y.cls) (hy : y.cls ≠ "java/lang/invoke/MethodHandle" ∧ y.cls ≠ "java/lang/invoke/VarHandle") (hx : Cond.selects N x x ∈ hv_Ts) (hpr : Cond.privateMethod y ∈ lw_tbl) (hi : Cond.instanceMethod y ∈ hv_Ts) : (Cond.selects N y y).before A s = true := by
  obtain ⟨c, r, mx, h1, -, h3, -, k, h5, h6⟩ := Cond.selects_spec (hv_words (A := A) C hZ.1 _ hx)
  obtain ⟨mk, methM, hnamed, hmethM, -, -⟩ := Cond.instanceMethod_spec (hv_words (A := A) C hZ.1 _ hi)
  obtain ⟨A0, h0⟩ := C.2.1 _ hpr
  have hpr1 : (Cond.privateMethod y).before A s = true := va_tabs rfl (rfl : (s0.setVm s.vm).vm = s.vm) (by rw [Cond.privateMethod_setVm hZ.1.alike]; exact h0)
  have hfound : s.methodFound? y.cls y.name y.desc = some mk := State.methodFound?_of_named hnamed hy
  have hc1 := findClass_of_methodNamed hnamed
  have hc2 := findClass_of_methodNamed h3
  rw [hxy] at hc2
  have hcls : mk.cls = mx.cls := Option.some.inj (hc1.symm.trans hc2)
  have hsel : selectMethod {} s.vm c mk = .method mk := selectMethod_private hmethM (Cond.privateMethod_at hpr1 mk methM hnamed hmethM)
  simp only [Cond.before, Cond.holds, Cond.value, h1, hfound, hnamed, hsel, hcls, h5]
  simp; exact h6
end HVCTX
