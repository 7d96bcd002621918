/-! THE CLAIM OUT OF ONE WALK OF THE LAW'S BODY. Your part is whole_start (and what it stands on); all else here is the same for every law, but numbers. -/
def R_law : String := "GraphKeepLaw"
def lw_P (b : Addr) (xs : List Int32) (args : Array Value) (s : State) : Prop := args = #[.ref b] ∧ s.IntsAt b xs ∧ xs.length ≤ 3584 ∧ (Jvm.Cond.and given_1 narrow_1).before args s = true
def lw_Q (_ : Array Value) (s : State) (o : Outcome) (t : State) : Prop := o = .returned (some (.int 1)) ∧ Framed s o t [] 601024 7293034
def lw_Z (below : List Frame) (a : Array Value) (s : State) : State → Prop := fun t => ∃ o, t.status = .running ∧ Ended t below o ∧ lw_Q a s o t
/-- the law's own end, with 1 on the stack, nothing written that was there before, its room as the claim has it -/
theorem lw_ret {p : Program} {l : Launch} {e : Env} {s : State} {m : MethodId} {below : List Frame} {meth : Method} {c : Code} {b : Nat} (hx : p.tables.exec = Jvm.exec) (hb : c.code = code) (hr : meth.sig.returnType = ret) (hlocks : meth.locks = false) {pc : Nat} {H : Heap} {ls : Array Slot} (hdg : decode code pc = .ok (.ireturn, 1)) : W p l e room_1 s m #[Value.ref b] below meth c H [] 601024 7293034 (lw_Z below #[Value.ref b] s) (F0 m pc ls [.int 1]) := by
  intro T hT X
  obtain ⟨fs, hret, hrun, hended, hW, hframe⟩ := X.leave (v := some (.int 1)) (hlocks := hlocks) (fun h => by rw [hr] at h; cases h)
  have hmeth' : T.vm.method? m = some meth := X.method'
  refine ⟨T.setFrames fs, ?_, .returned (some (.int 1)), hrun, hended, rfl, ⟨_, rfl⟩, hW, hframe⟩
  jvm_step X.here [X.here.top, hx, hb, hdg, hmeth', hr, ret, narrow_b1]
  (try refine ⟨rfl, ?_⟩); (try refine ⟨rfl, ?_⟩)
  first | (intro acts; rw [hret _ acts rfl rfl rfl]) | rw [hret _ _ rfl rfl rfl]
  exact Steps.refl _
/-- what holds at the law's entry: the machine, the code, the tables' words (any of lw_tbl by 'hts w (by decide +kernel)'), the script of L ints xs at the cell b, what the Statement gives of the start (any of its parts by flat_of_before) -/
def lw_At (p : Program) (s : State) (m : MethodId) (meth : Method) (c : Code) (b L : Nat) (xs : Nat → Int32) : Prop :=
  p.tables.exec = Jvm.exec ∧ c.code = code ∧ meth.sig.returnType = ret ∧ c.maxLocals = 8 ∧ s.vm.findClass R_law = some m.cls ∧ (∀ w ∈ lw_tbl, w.before #[Value.ref b] s = true) ∧ va_X b L xs s s.heap ∧ b < s.heap.size ∧ meth.locks = false ∧ (Jvm.Cond.and given_1 narrow_1).before #[Value.ref b] s = true
/-! THE LAW'S START -/
theorem lw_array {s : State} {A : Array Value} {t : FieldType} (h : (Cond.arrayClass t).before A s = true) (ht : ∀ cA, s.vm.findClass ("[" ++ t.toString) = some cA → va_RA s cA t) : ∃ cA : ClassId, ArrOfT s cA t ∧ va_RA s cA t := by
  obtain ⟨c, k, comp, h1, h2, h3⟩ := Cond.arrayClass_spec h
  exact ⟨c, fun n z => ⟨fun k h => (by cases h), k, h2, comp, h3⟩, ht c h1⟩
theorem lw_arrayQ {s : State} {A : Array Value} {n : String} (h : (Cond.arrayOver (.object n)).before A s = true) : ∃ cA : ClassId, ArrOfT s cA (.object n) ∧ va_RA s cA (.object n) := by
  obtain ⟨comp, c, k, h1, -, h2, h3, h4⟩ := Cond.arrayOver_spec h
  exact ⟨c, fun n z => ⟨fun k h => (by cases h), k, h2, comp, h3⟩, k, comp, h2, h3, h1, h4⟩
theorem i_ex {n : String} : ∀ w ∈ u_ws n F_ex 0, w ∈ hv_Ts := fun w hw => by
  obtain ⟨k, hk, -⟩ := List.mem_map.mp hw
  exact absurd (List.mem_range.mp hk) (Nat.not_lt_zero _)
theorem lw_kinds {s : State} {A : Array Value} (hts : ∀ w ∈ hv_Ts, w.before A s = true) (ci : Nat) : ∃ (cC : ClassId) (iS : Nat → Nat), ∀ q, classes[ci]? = some q → u_Kn s q.1 q.2.1 q.2.2 cC iS := by
  by_cases h : ci < 11
  · rcases (show ci = 0 ∨ ci = 1 ∨ ci = 2 ∨ ci = 3 ∨ ci = 4 ∨ ci = 5 ∨ ci = 6 ∨ ci = 7 ∨ ci = 8 ∨ ci = 9 ∨ ci = 10 by omega) with rfl | rfl | rfl | rfl | rfl | rfl | rfl | rfl | rfl | rfl | rfl
    · obtain ⟨cC, iS, h9⟩ := u_known (C := R_GK) (T := F_GK) hts i_GK (hts _ kin_GK)
      exact ⟨cC, iS, fun q hq => by cases hq; exact h9⟩
    · obtain ⟨cC, iS, h9⟩ := u_known (C := R_Gr) (T := F_Gr) hts i_Gr (hts _ kin_Gr)
      exact ⟨cC, iS, fun q hq => by cases hq; exact h9⟩
    · obtain ⟨cC, iS, h9⟩ := u_known (C := R_Lg) (T := F_Lg) hts i_Lg (hts _ kin_Lg)
      exact ⟨cC, iS, fun q hq => by cases hq; exact h9⟩
    · obtain ⟨cC, iS, h9⟩ := u_known (C := R_Tp) (T := F_Tp) hts i_Tp (hts _ kin_Tp)
      exact ⟨cC, iS, fun q hq => by cases hq; exact h9⟩
    · obtain ⟨cC, iS, h9⟩ := u_known (C := R_Pr) (T := F_Pr) hts i_Pr (hts _ kin_Pr)
      exact ⟨cC, iS, fun q hq => by cases hq; exact h9⟩
    · obtain ⟨cC, iS, h9⟩ := u_known (C := R_Nd) (T := F_Nd) hts i_Nd (hts _ kin_Nd)
      exact ⟨cC, iS, fun q hq => by cases hq; exact h9⟩
    · obtain ⟨cC, iS, h9⟩ := u_known (C := R_Lk) (T := F_Lk) hts i_Lk (hts _ kin_Lk)
      exact ⟨cC, iS, fun q hq => by cases hq; exact h9⟩
    · obtain ⟨cC, iS, h9⟩ := u_known (C := R_Model) (T := F_Model) hts i_Model (hts _ kin_Model)
      exact ⟨cC, iS, fun q hq => by cases hq; exact h9⟩
    · obtain ⟨cC, iS, h9⟩ := u_known (C := "java/lang/ArithmeticException") (T := F_ex) (N := 0) hts i_ex (hts _ kin_ArithmeticException)
      exact ⟨cC, iS, fun q hq => by cases hq; exact h9⟩
    · obtain ⟨cC, iS, h9⟩ := u_known (C := "java/lang/IllegalStateException") (T := F_ex) (N := 0) hts i_ex (hts _ kin_IllegalStateException)
      exact ⟨cC, iS, fun q hq => by cases hq; exact h9⟩
    · obtain ⟨cC, iS, h9⟩ := u_known (C := "java/util/NoSuchElementException") (T := F_ex) (N := 0) hts i_ex (hts _ kin_NoSuchElementException)
      exact ⟨cC, iS, fun q hq => by cases hq; exact h9⟩
  · exact ⟨(0 : Nat), fun _ => 0, fun q hq => absurd (List.getElem?_eq_some_iff.mp hq).1 h⟩
theorem lw_tys {s : State} {A : Array Value} (hts : ∀ w ∈ hv_Ts, w.before A s = true) (htl : ∀ w ∈ lw_tbl, w.before A s = true) (k : Nat) : ∃ cA : ClassId, ∀ t, ([FieldType.int, .byte, .boolean, .long, .object "GraphKeep$Property", .object "GraphKeep$Node", .object "GraphKeep$Link"] : List FieldType)[k]? = some t → ArrOfT s cA t ∧ va_RA s cA t := by
  by_cases h : k < 7
  · rcases (show k = 0 ∨ k = 1 ∨ k = 2 ∨ k = 3 ∨ k = 4 ∨ k = 5 ∨ k = 6 by omega) with rfl | rfl | rfl | rfl | rfl | rfl | rfl
    · obtain ⟨cA, h9⟩ := lw_array (hts _ ka_int) (fun _ h => h)
      exact ⟨cA, fun t ht => by cases ht; exact h9⟩
    · obtain ⟨cA, h9⟩ := lw_array (hts _ ka_byte) (fun _ h => h)
      exact ⟨cA, fun t ht => by cases ht; exact h9⟩
    · obtain ⟨cA, h9⟩ := lw_array (hts _ ka_boolean) (fun _ h => h)
      exact ⟨cA, fun t ht => by cases ht; exact h9⟩
    · obtain ⟨cA, h9⟩ := lw_array (hts _ ka_long) (fun _ h => h)
      exact ⟨cA, fun t ht => by cases ht; exact h9⟩
    · obtain ⟨cA, h9⟩ := lw_arrayQ (htl _ ko_Pr)
      exact ⟨cA, fun t ht => by cases ht; exact h9⟩
    · obtain ⟨cA, h9⟩ := lw_arrayQ (htl _ ko_Nd)
      exact ⟨cA, fun t ht => by cases ht; exact h9⟩
    · obtain ⟨cA, h9⟩ := lw_arrayQ (htl _ ko_Lk)
      exact ⟨cA, fun t ht => by cases ht; exact h9⟩
  · exact ⟨(0 : Nat), fun t ht => absurd (List.getElem?_eq_some_iff.mp ht).1 h⟩
theorem lw_ctx {p : Program} {s : State} {m : MethodId} {meth : Method} {c : Code} {b n0 : Nat} {xs : Nat → Int32} (l : Launch) (htr : l.stackTraces = false) (hL : n0 ≤ 3584) (C0 : lw_At p s m meth c b n0 xs) : ∃ D ca, lF l s D ca p m c b n0 xs := by
  obtain ⟨hx, hb, hr, hml, hown, htl, hX, hbl, hlocks, hgv⟩ := C0
  have hts : ∀ w ∈ hv_Ts, w.before #[Value.ref b] s = true := fun w hw => htl w (List.mem_filter.mp hw).1
  have hD := lw_kinds hts
  have hT := lw_tys hts htl
  have hs := flat_of_before _ hgv
  refine ⟨(fun i => Classical.choose (hD i), fun i => Classical.choose (Classical.choose_spec (hD i))), fun k => Classical.choose (hT k), ⟨⟨fun ci q hq => Classical.choose_spec (Classical.choose_spec (hD ci)) q hq, fun k q hq => ?_⟩, fun w hw => ⟨_, htl w hw⟩, htr⟩, ⟨va_Nc.of (hs (Cond.not (.castable "GraphKeep$Link" "GraphKeep$Node")) (by decide +kernel)), va_Nc.of (hs (Cond.not (.castable "GraphKeep$Node" "GraphKeep$Link")) (by decide +kernel)), ⟨_, hs (Cond.isRef (.static "java/lang/Throwable" "UNASSIGNED_STACK" "[Ljava/lang/StackTraceElement;")) (by decide +kernel)⟩, ⟨_, hs (Cond.isRef (.static "java/lang/Throwable" "SUPPRESSED_SENTINEL" "Ljava/util/List;")) (by decide +kernel)⟩, va_Nc.of (hs (Cond.not (.castable "java/lang/IllegalStateException" "java/lang/ArithmeticException")) (by decide +kernel))⟩, hx, hb, hml, hown, hts, hX, hbl, hL⟩
  have hk : k < 7 := (List.getElem?_eq_some_iff.mp hq).1
  rcases (show k = 0 ∨ k = 1 ∨ k = 2 ∨ k = 3 ∨ k = 4 ∨ k = 5 ∨ k = 6 by omega) with rfl | rfl | rfl | rfl | rfl | rfl | rfl <;> cases hq <;> exact Classical.choose_spec (hT _) _ rfl
theorem hv_clean {p : Program} {l : Launch} {e : Env} {R : Room} {s : State} {m : MethodId} {args : Array Value} {below : List Frame} {meth : Method} {c : Code} {H : Heap} {locs : List Loc} {cells slots : Nat} {Q : State → Prop} {g : JFrame} (hS : va_S (hv_A s.heap.size) s.heap H locs) (k : W p l e R s m args below meth c H [] cells slots Q g) : W p l e R s m args below meth c H locs cells slots Q g := fun T hT X => k T hT (Stand.forget (locs := []) (extra := locs) X (fun y hy => hS.2.2 y hy))
theorem whole_start {p : Program} {e : Env} {s : State} {m : MethodId} {below : List Frame} {meth : Method} {c : Code} (l : Launch) (htr : l.stackTraces = false) {b L : Nat} {xs : Nat → Int32} (hL : L ≤ 3584) (C0 : lw_At p s m meth c b L xs) : W p l e room_1 s m #[Value.ref b] below meth c s.heap [] 0 0 (lw_Z below #[Value.ref b] s) (entryFrame m ([Value.ref b] : List Value).toArray 8) := by
  obtain ⟨D, ca, F⟩ := lw_ctx l htr hL C0
  obtain ⟨hx, hb, hr, -, -, -, -, -, hlocks, -⟩ := C0
  have hl := lv_entry ([Value.ref b] : List Value) (n := 8) (Nat.le_of_ble_eq_true rfl)
  have K := lw_body (e := e) (below := below) (meth := meth) (Q := lw_Z below #[Value.ref b] s) F (fun H locs ls cells slots h1 h2 hS => by
    refine lv_iconst (v := 1) hx hb d_Law_law_1120 (by decide) ?_
    refine W.widen h1 h2 ?_
    refine hv_clean hS ?_
    exact lw_ret hx hb hr hlocks d_Law_law_1121) hl
  rw [← lg_entry_eq] at K
  exact K

