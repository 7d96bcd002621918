/-! THE WORLD AS A FUNCTION: what lies at an address; one world for all that a run holds; no cutting out, no joining. -/
abbrev hv_W : Type := Nat → Option va_E
def hv_P (D : va_G) (cl : List vw_C) (lo : Nat) (w : hv_W) (H : Heap) : Prop := ∀ (a : Nat) (e : va_E), w a = some e → lo ≤ a ∧ va_at D cl (a, e) H
abbrev hv_A (lo : Nat) : Nat → Prop := fun q => lo ≤ q
theorem hv_up_s {w : hv_W} {a : Nat} {e : va_E} : va_up w a (some e) a = some e := by simp [va_up]
theorem hv_up_n {w : hv_W} {a b : Nat} {e : va_E} (h : b ≠ a) : va_up w a (some e) b = w b := by simp [va_up, h]
theorem hv_up_k {w : hv_W} {a b : Nat} {e f : va_E} (hb : w b = some f) (h : b ≠ a) : va_up w a (some e) b = some f := by rw [hv_up_n h]; exact hb
/-- new at a: what was known is known -/
theorem hv_up_f {w : hv_W} {a b : Nat} {e f : va_E} (ha : w a = none) (hb : w b = some f) : va_up w a (some e) b = some f := hv_up_k hb (fun z => by rw [z, ha] at hb; cases hb)
theorem hv_ne_f {w : hv_W} {a b : Nat} {f : va_E} (ha : w a = none) (hb : w b = some f) : b ≠ a := fun z => by rw [z, ha] at hb; cases hb
/-- the kind of a cell, by what it holds -/
def hv_tag : va_E → Nat
  | .inr o => o.1
  | .inl a => match a.2.2 with
    | .inl _ => 100
    | .inr (.inl _) => 101
    | .inr (.inr (.inl _)) => 102
    | .inr (.inr (.inr (.inl _))) => 103
    | .inr (.inr (.inr (.inr _))) => 104
theorem hv_ne {w : hv_W} {a b : Nat} {e f : va_E} (ha : w a = some e) (hb : w b = some f) (h : hv_tag e ≠ hv_tag f) : a ≠ b := fun z => by
  subst z
  rw [ha] at hb
  cases hb
  exact h rfl
theorem hv_sl (g : Nat → Option va_E) : ∀ l : List Nat, List.Sublist ((l.filterMap (fun a => (g a).map (fun e => (a, e)))).map (fun x => x.1)) l
  | [] => List.Sublist.slnil
  | a :: l => by
    cases h : g a with
    | none => simp only [List.filterMap_cons, h, Option.map_none]; exact (hv_sl g l).cons a
    | some e => simp only [List.filterMap_cons, h, Option.map_some, List.map_cons]; exact (hv_sl g l).cons₂ a
theorem hv_list {D : va_G} {cl : List vw_C} {lo : Nat} {w : hv_W} {H : Heap} (h : hv_P D cl lo w H) : ∃ ws : va_W, va_P D cl ws H ∧ va_D (hv_A lo) ws ∧ (∀ (a : Nat) (e : va_E), w a = some e → ∃ k : Nat, ws[k]? = some (a, e)) ∧ ∀ (k a : Nat) (e : va_E), ws[k]? = some (a, e) → w a = some e := by
  have hin : ∀ (k a : Nat) (e : va_E), ((List.range H.size).filterMap (fun a => (w a).map (fun e => (a, e))))[k]? = some (a, e) → w a = some e := by
    intro k a e hk
    obtain ⟨b, -, hb⟩ := List.mem_filterMap.mp (List.mem_of_getElem? hk)
    cases hw : w b with
    | none => rw [hw] at hb; cases hb
    | some e' => rw [hw] at hb; cases hb; exact hw
  refine ⟨(List.range H.size).filterMap (fun a => (w a).map (fun e => (a, e))), fun k q hk => ?_, ⟨fun i j p q hi hj hpq => ?_, fun k q hk => ?_⟩, fun a e ha => ?_, hin⟩
  · exact (h q.1 q.2 (hin k q.1 q.2 hk)).2
  · have hnd : (((List.range H.size).filterMap (fun a => (w a).map (fun e => (a, e)))).map (fun x => x.1)).Nodup := (hv_sl w _).nodup List.nodup_range
    have h1 : (((List.range H.size).filterMap (fun a => (w a).map (fun e => (a, e)))).map (fun x => x.1))[i]? = some p.1 := by rw [List.getElem?_map, hi]; rfl
    have h2 : (((List.range H.size).filterMap (fun a => (w a).map (fun e => (a, e)))).map (fun x => x.1))[j]? = some p.1 := by rw [List.getElem?_map, hj, hpq]; rfl
    exact (List.getElem?_inj (List.getElem?_eq_some_iff.mp h1).1 hnd).mp (h1.trans h2.symm)
  · exact (h q.1 q.2 (hin k q.1 q.2 hk)).1
  · have hlt : a < H.size := (h a e ha).2.lt
    exact List.getElem?_of_mem (List.mem_filterMap.mpr ⟨a, List.mem_range.mpr hlt, by rw [ha]; rfl⟩)
theorem hv_set {D : va_G} {cl : List vw_C} {lo : Nat} {w : hv_W} {H H1 : Heap} {ws : va_W} {k a : Nat} {e0 e : va_E} (hP : hv_P D cl lo w H) (h3 : ∀ (a : Nat) (e : va_E), w a = some e → ∃ k : Nat, ws[k]? = some (a, e)) (hk : ws[k]? = some (a, e0)) (ha : w a = some e0) (g : va_P D cl (ws.set k (a, e)) H1) : hv_P D cl lo (va_up w a (some e)) H1 := by
  have hl := (List.getElem?_eq_some_iff.mp hk).1
  intro b f hb
  by_cases hba : b = a
  · subst hba
    rw [hv_up_s] at hb
    cases hb
    exact ⟨(hP b e0 ha).1, g k _ (List.getElem?_set_self hl)⟩
  · rw [hv_up_n hba] at hb
    obtain ⟨j, hj⟩ := h3 b f hb
    have hjk : j ≠ k := fun z => by
      subst z
      rw [hk] at hj
      cases hj
      exact hba rfl
    exact ⟨(hP b f hb).1, g j _ (by rw [List.getElem?_set_ne (Ne.symm hjk)]; exact hj)⟩
theorem hv_push {D : va_G} {cl : List vw_C} {lo : Nat} {w : hv_W} {H H1 : Heap} {ws : va_W} {q : Nat} {e : va_E} (hP : hv_P D cl lo w H) (h3 : ∀ (a : Nat) (e : va_E), w a = some e → ∃ k : Nat, ws[k]? = some (a, e)) (hD : va_D (hv_A lo) (ws ++ [(q, e)])) (g : va_P D cl (ws ++ [(q, e)]) H1) : hv_P D cl lo (va_up w q (some e)) H1 ∧ w q = none := by
  have hlast : (ws ++ [(q, e)])[ws.length]? = some (q, e) := by rw [List.getElem?_append_right (Nat.le_refl _), Nat.sub_self]; rfl
  have hold : ∀ (b : Nat) (f : va_E), w b = some f → ∃ j : Nat, j < ws.length ∧ (ws ++ [(q, e)])[j]? = some (b, f) := fun b f hb => by
    obtain ⟨j, hj⟩ := h3 b f hb
    have hl := (List.getElem?_eq_some_iff.mp hj).1
    exact ⟨j, hl, by rw [List.getElem?_append_left hl]; exact hj⟩
  refine ⟨fun b f hb => ?_, ?_⟩
  · by_cases hba : b = q
    · subst hba
      rw [hv_up_s] at hb
      cases hb
      exact ⟨hD.2 _ _ hlast, g _ _ hlast⟩
    · rw [hv_up_n hba] at hb
      obtain ⟨j, -, hj⟩ := hold b f hb
      exact ⟨(hP b f hb).1, g j _ hj⟩
  · cases hw : w q with
    | none => rfl
    | some f =>
      obtain ⟨j, hl, hj⟩ := hold q f hw
      have := hD.1 _ _ _ _ hj hlast rfl
      omega
theorem hv_one {D : va_G} {cl : List vw_C} {lo : Nat} {w : hv_W} {H : Heap} {a : Nat} {e : va_E} (h : hv_P D cl lo w H) (ha : w a = some e) : va_P D cl [(a, e)] H := by
  intro k q hk
  have hz : k < 1 := (List.getElem?_eq_some_iff.mp hk).1
  rw [show k = 0 by omega] at hk
  cases hk
  exact (h a e ha).2
theorem hv_lt {D : va_G} {cl : List vw_C} {lo : Nat} {w : hv_W} {H : Heap} {a : Nat} {e : va_E} (h : hv_P D cl lo w H) (ha : w a = some e) : a < H.size := (h a e ha).2.lt
theorem hv_RA1 {U : State} {c1 c2 : ClassId} {ty : FieldType} (h1 : va_RA U c1 ty) (h2 : va_RA U c2 ty) : c1 = c2 := by
  cases ty with
  | object C =>
    obtain ⟨_, _, -, -, -, a4⟩ := h1
    obtain ⟨_, _, -, -, -, b4⟩ := h2
    exact Option.some.inj (a4.symm.trans b4)
  | _ => exact Option.some.inj (Eq.trans (Eq.symm h1) h2)
section HVROWS
variable {p : Program} {l : Launch} {e : Env} {R : Room} {s : State} {m : MethodId} {args : Array Value} {below : List Frame} {meth : Method} {c : Code} {H : Heap} {locs : List Loc} {cells slots : Nat} {Q : State → Prop}
variable {cc : ByteArray} {pc : Nat} {ls : Array Slot} {rest : List Value} {D : va_G} {cl : List vw_C} {lo : Nat} {a : Nat} {tys : List (ClassId × FieldType)} {w : hv_W} {H0 : Heap}
theorem hv_put (hexec : p.tables.exec = Jvm.exec) (hb : c.code = cc) {own ref C : String} {T : u_T} {N ci index : Nat} {Ts : List Cond} (hts : ∀ w ∈ Ts, w.before args s = true) (hin : ∀ w ∈ u_ws C T N, w ∈ Ts) (ty0 : Nat → FieldType) (hty : ∀ k, k < N → parseFieldDescriptor (T k).2.2.1 = some (ty0 k)) (hnm : ∀ a, a < N → ∀ b, b < N → a ≠ b → (T a).2.1 ≠ (T b).2.1) (hown : s.vm.findClass own = some m.cls) (hK : va_K D cl tys s) (hP : hv_P D cl lo w H) (hS0 : va_S (hv_A lo) H0 H locs) {fs : List Value} (he : w a = some (.inr (ci, fs))) (hc : cl[ci]? = some (C, T, N)) (k : Nat) (hk : k < N) (hlink : (Cond.fieldLink own index ref (T k).2.1 (T k).2.2.1).before args s = true) (hsame : ∀ x, s.fieldFound? (T k).1 (T k).2.1 (T k).2.2.1 = some x → s.fieldFound? ref (T k).2.1 (T k).2.2.1 = some x) (hfin : (T k).2.2.2 = false) {ty : FieldType} {v : Value} (hd : parseFieldDescriptor (T k).2.2.1 = some ty) (hn : narrow ty v = v) (hfit : fits ty v = true) (hl : k < fs.length)
    (hdg : decode cc pc = .ok (.putfield index, 3)) (kk : ∀ (H1 : Heap) (locs1 : List Loc), hv_P D cl lo (va_up w a (some (.inr (ci, fs.set k v)))) H1 → va_S (hv_A lo) H0 H1 locs1 → W p l e R s m args below meth c H1 locs1 cells slots Q (F0 m (pc + 3) ls rest)) : W p l e R s m args below meth c H locs cells slots Q (F0 m pc ls (v :: .ref a :: rest)) := by
  obtain ⟨ws, g1, g2, g3, -⟩ := hv_list hP
  obtain ⟨q0, hq⟩ := g3 _ _ he
  exact va_put hexec hb hts hin ty0 hty hnm hown hK g1 g2 hS0 q0 hq hc k hk hlink hsame hfin hd hn hfit hl hdg fun H1 locs1 r1 _ r3 => kk H1 locs1 (hv_set hP g3 hq he r1) r3
theorem hv_putF (hexec : p.tables.exec = Jvm.exec) (hb : c.code = cc) {own ref C : String} {T : u_T} {N ci index : Nat} {Ts : List Cond} (hts : ∀ w ∈ Ts, w.before args s = true) (hin : ∀ w ∈ u_ws C T N, w ∈ Ts) (ty0 : Nat → FieldType) (hty : ∀ k, k < N → parseFieldDescriptor (T k).2.2.1 = some (ty0 k)) (hnm : ∀ a, a < N → ∀ b, b < N → a ≠ b → (T a).2.1 ≠ (T b).2.1) (hown : s.vm.findClass own = some m.cls) (hK : va_K D cl tys s) (hP : hv_P D cl lo w H) (hS0 : va_S (hv_A lo) H0 H locs) {fs : List Value} (he : w a = some (.inr (ci, fs))) (hc : cl[ci]? = some (C, T, N)) (k : Nat) (hk : k < N) (hlink : (Cond.fieldLink own index ref (T k).2.1 (T k).2.2.1).before args s = true) (hsame : ∀ x, s.fieldFound? (T k).1 (T k).2.1 (T k).2.2.1 = some x → s.fieldFound? ref (T k).2.1 (T k).2.2.1 = some x) (hfin : (T k).2.2.2 = true) (hin2 : meth.name = "<init>") (hdecl : (T k).1 = own) {ty : FieldType} {v : Value} (hd : parseFieldDescriptor (T k).2.2.1 = some ty) (hn : narrow ty v = v) (hfit : fits ty v = true) (hl : k < fs.length)
    (hdg : decode cc pc = .ok (.putfield index, 3)) (kk : ∀ (H1 : Heap) (locs1 : List Loc), hv_P D cl lo (va_up w a (some (.inr (ci, fs.set k v)))) H1 → va_S (hv_A lo) H0 H1 locs1 → W p l e R s m args below meth c H1 locs1 cells slots Q (F0 m (pc + 3) ls rest)) : W p l e R s m args below meth c H locs cells slots Q (F0 m pc ls (v :: .ref a :: rest)) := by
  obtain ⟨ws, g1, g2, g3, -⟩ := hv_list hP
  obtain ⟨q0, hq⟩ := g3 _ _ he
  exact va_putF hexec hb hts hin ty0 hty hnm hown hK g1 g2 hS0 q0 hq hc k hk hlink hsame hfin hin2 hdecl hd hn hfit hl hdg fun H1 locs1 r1 _ r3 => kk H1 locs1 (hv_set hP g3 hq he r1) r3
theorem hv_putN (hexec : p.tables.exec = Jvm.exec) (hb : c.code = cc) {own ref C host : String} {T : u_T} {N ci index : Nat} {Ts : List Cond} (hts : ∀ w ∈ Ts, w.before args s = true) (hin : ∀ w ∈ u_ws C T N, w ∈ Ts) (ty0 : Nat → FieldType) (hty : ∀ k, k < N → parseFieldDescriptor (T k).2.2.1 = some (ty0 k)) (hnm : ∀ a, a < N → ∀ b, b < N → a ≠ b → (T a).2.1 ≠ (T b).2.1) (hown : s.vm.findClass own = some m.cls) (hK : va_K D cl tys s) (hP : hv_P D cl lo w H) (hS0 : va_S (hv_A lo) H0 H locs) {fs : List Value} (he : w a = some (.inr (ci, fs))) (hc : cl[ci]? = some (C, T, N)) (k : Nat) (hk : k < N) (hlink : (Cond.fieldLinkNest own index ref (T k).2.1 (T k).2.2.1 host).before args s = true) (hsame : ∀ x, s.fieldFound? (T k).1 (T k).2.1 (T k).2.2.1 = some x → s.fieldFound? ref (T k).2.1 (T k).2.2.1 = some x) (hfin : (T k).2.2.2 = false) {ty : FieldType} {v : Value} (hd : parseFieldDescriptor (T k).2.2.1 = some ty) (hn : narrow ty v = v) (hfit : fits ty v = true) (hl : k < fs.length)
    (hdg : decode cc pc = .ok (.putfield index, 3)) (kk : ∀ (H1 : Heap) (locs1 : List Loc), hv_P D cl lo (va_up w a (some (.inr (ci, fs.set k v)))) H1 → va_S (hv_A lo) H0 H1 locs1 → W p l e R s m args below meth c H1 locs1 cells slots Q (F0 m (pc + 3) ls rest)) : W p l e R s m args below meth c H locs cells slots Q (F0 m pc ls (v :: .ref a :: rest)) := by
  obtain ⟨ws, g1, g2, g3, -⟩ := hv_list hP
  obtain ⟨q0, hq⟩ := g3 _ _ he
  exact va_putN hexec hb hts hin ty0 hty hnm hown hK g1 g2 hS0 q0 hq hc k hk hlink hsame hfin hd hn hfit hl hdg fun H1 locs1 r1 _ r3 => kk H1 locs1 (hv_set hP g3 hq he r1) r3
theorem hv_iast (hexec : p.tables.exec = Jvm.exec) (hb : c.code = cc) (hK : va_K D cl tys s) (hP : hv_P D cl lo w H) (hS : va_S (hv_A lo) H0 H locs) (t0 : Nat) {cA : ClassId} {n : Nat} {f : Nat → Int32} (ha : w a = some (.inl (cA, n, .inl f))) (ht : tys[t0]? = some (cA, .int)) {i : Int32} {x : Int32} (hin : vp_in i n) (hdg : decode cc pc = .ok (.iastore, 1))
    (kk : ∀ (H1 : Heap) (locs1 : List Loc), hv_P D cl lo (va_up w a (some (.inl (cA, n, .inl (upd f i.toNatClampNeg x))))) H1 → va_S (hv_A lo) H0 H1 locs1 → W p l e R s m args below meth c H1 locs1 cells slots Q (F0 m (pc + 1) ls rest)) : W p l e R s m args below meth c H locs cells slots Q (F0 m pc ls (.int x :: .int i :: .ref a :: rest)) := by
  obtain ⟨ws, g1, g2, g3, -⟩ := hv_list hP
  obtain ⟨q0, hq⟩ := g3 _ _ ha
  exact va_iast hexec hb hK g1 g2 hS q0 t0 hq ht hin hdg fun H1 locs1 r1 _ r3 => kk H1 locs1 (hv_set hP g3 hq ha r1) r3
theorem hv_bast (hexec : p.tables.exec = Jvm.exec) (hb : c.code = cc) (hK : va_K D cl tys s) (hP : hv_P D cl lo w H) (hS : va_S (hv_A lo) H0 H locs) (t0 : Nat) {cA : ClassId} {n : Nat} {f : Nat → Int32} (ha : w a = some (.inl (cA, n, .inl f))) (ht : tys[t0]? = some (cA, .byte)) {i : Int32} {x : Int32} (hin : vp_in i n) (hdg : decode cc pc = .ok (.bastore, 1))
    (kk : ∀ (H1 : Heap) (locs1 : List Loc), hv_P D cl lo (va_up w a (some (.inl (cA, n, .inl (upd f i.toNatClampNeg (vp_nar .byte x)))))) H1 → va_S (hv_A lo) H0 H1 locs1 → W p l e R s m args below meth c H1 locs1 cells slots Q (F0 m (pc + 1) ls rest)) : W p l e R s m args below meth c H locs cells slots Q (F0 m pc ls (.int x :: .int i :: .ref a :: rest)) := by
  obtain ⟨ws, g1, g2, g3, -⟩ := hv_list hP
  obtain ⟨q0, hq⟩ := g3 _ _ ha
  exact va_bast hexec hb hK g1 g2 hS q0 t0 hq ht hin hdg fun H1 locs1 r1 _ r3 => kk H1 locs1 (hv_set hP g3 hq ha r1) r3
theorem hv_zast (hexec : p.tables.exec = Jvm.exec) (hb : c.code = cc) (hK : va_K D cl tys s) (hP : hv_P D cl lo w H) (hS : va_S (hv_A lo) H0 H locs) (t0 : Nat) {cA : ClassId} {n : Nat} {f : Nat → Int32} (ha : w a = some (.inl (cA, n, .inl f))) (ht : tys[t0]? = some (cA, .boolean)) {i : Int32} {x : Int32} (hin : vp_in i n) (hdg : decode cc pc = .ok (.bastore, 1))
    (kk : ∀ (H1 : Heap) (locs1 : List Loc), hv_P D cl lo (va_up w a (some (.inl (cA, n, .inl (upd f i.toNatClampNeg (vp_nar .boolean x)))))) H1 → va_S (hv_A lo) H0 H1 locs1 → W p l e R s m args below meth c H1 locs1 cells slots Q (F0 m (pc + 1) ls rest)) : W p l e R s m args below meth c H locs cells slots Q (F0 m pc ls (.int x :: .int i :: .ref a :: rest)) := by
  obtain ⟨ws, g1, g2, g3, -⟩ := hv_list hP
  obtain ⟨q0, hq⟩ := g3 _ _ ha
  exact va_zast hexec hb hK g1 g2 hS q0 t0 hq ht hin hdg fun H1 locs1 r1 _ r3 => kk H1 locs1 (hv_set hP g3 hq ha r1) r3
theorem hv_last (hexec : p.tables.exec = Jvm.exec) (hb : c.code = cc) (hK : va_K D cl tys s) (hP : hv_P D cl lo w H) (hS : va_S (hv_A lo) H0 H locs) (t0 : Nat) {cA : ClassId} {n : Nat} {f : Nat → Int64} (ha : w a = some (.inl (cA, n, .inr (.inl f)))) (ht : tys[t0]? = some (cA, .long)) {i : Int32} {x : Int64} (hin : vp_in i n) (hdg : decode cc pc = .ok (.lastore, 1))
    (kk : ∀ (H1 : Heap) (locs1 : List Loc), hv_P D cl lo (va_up w a (some (.inl (cA, n, .inr (.inl (vp_updL f i.toNatClampNeg x)))))) H1 → va_S (hv_A lo) H0 H1 locs1 → W p l e R s m args below meth c H1 locs1 cells slots Q (F0 m (pc + 1) ls rest)) : W p l e R s m args below meth c H locs cells slots Q (F0 m pc ls (.long x :: .int i :: .ref a :: rest)) := by
  obtain ⟨ws, g1, g2, g3, -⟩ := hv_list hP
  obtain ⟨q0, hq⟩ := g3 _ _ ha
  exact va_last hexec hb hK g1 g2 hS q0 t0 hq ht hin hdg fun H1 locs1 r1 _ r3 => kk H1 locs1 (hv_set hP g3 hq ha r1) r3
theorem hv_astq (hexec : p.tables.exec = Jvm.exec) (hb : c.code = cc) (hK : va_K D cl tys s) (hP : hv_P D cl lo w H) (hS : va_S (hv_A lo) H0 H locs) (t0 ci : Nat) {cA : ClassId} {r : vw_C} {n v : Nat} {vs : List Value} {f : Nat → Option Nat} (ha : w a = some (.inl (cA, n, .inr (.inr (.inr (.inr f)))))) (ht : tys[t0]? = some (cA, .object r.1)) (hv : w v = some (.inr (ci, vs))) (hc : cl[ci]? = some r) {i : Int32} (hin : vp_in i n) (hdg : decode cc pc = .ok (.aastore, 1))
    (kk : ∀ (H1 : Heap) (locs1 : List Loc), hv_P D cl lo (va_up w a (some (.inl (cA, n, .inr (.inr (.inr (.inr (va_up f i.toNatClampNeg (some v))))))))) H1 → va_S (hv_A lo) H0 H1 locs1 → W p l e R s m args below meth c H1 locs1 cells slots Q (F0 m (pc + 1) ls rest)) : W p l e R s m args below meth c H locs cells slots Q (F0 m pc ls (.ref v :: .int i :: .ref a :: rest)) := by
  obtain ⟨ws, g1, g2, g3, -⟩ := hv_list hP
  obtain ⟨q0, hq⟩ := g3 _ _ ha
  obtain ⟨qk, hqk⟩ := g3 _ _ hv
  exact va_astq hexec hb hK g1 g2 hS q0 t0 qk ci hq ht hqk hc hin hdg fun H1 locs1 r1 _ r3 => kk H1 locs1 (hv_set hP g3 hq ha r1) r3
theorem hv_astqN (hexec : p.tables.exec = Jvm.exec) (hb : c.code = cc) (hK : va_K D cl tys s) (hP : hv_P D cl lo w H) (hS : va_S (hv_A lo) H0 H locs) (t0 : Nat) {cA : ClassId} {C : String} {n : Nat} {f : Nat → Option Nat} (ha : w a = some (.inl (cA, n, .inr (.inr (.inr (.inr f)))))) (ht : tys[t0]? = some (cA, .object C)) {i : Int32} (hin : vp_in i n) (hdg : decode cc pc = .ok (.aastore, 1))
    (kk : ∀ (H1 : Heap) (locs1 : List Loc), hv_P D cl lo (va_up w a (some (.inl (cA, n, .inr (.inr (.inr (.inr (va_up f i.toNatClampNeg none)))))))) H1 → va_S (hv_A lo) H0 H1 locs1 → W p l e R s m args below meth c H1 locs1 cells slots Q (F0 m (pc + 1) ls rest)) : W p l e R s m args below meth c H locs cells slots Q (F0 m pc ls (.null :: .int i :: .ref a :: rest)) := by
  obtain ⟨ws, g1, g2, g3, -⟩ := hv_list hP
  obtain ⟨q0, hq⟩ := g3 _ _ ha
  exact va_astqN hexec hb hK g1 g2 hS q0 t0 hq ht hin hdg fun H1 locs1 r1 _ r3 => kk H1 locs1 (hv_set hP g3 hq ha r1) r3
theorem hv_new (hexec : p.tables.exec = Jvm.exec) (hb : c.code = cc) {own C : String} {T : u_T} {N ci index : Nat} {Ts : List Cond} (hts : ∀ w ∈ Ts, w.before args s = true) (hin : ∀ w ∈ u_ws C T N, w ∈ Ts) (ty : Nat → FieldType) (hty : ∀ k, k < N → parseFieldDescriptor (T k).2.2.1 = some (ty k)) (hown : s.vm.findClass own = some m.cls) (hcl : (Cond.classLink own index C).before args s = true) (hinst : (Cond.instantiable C N).before args s = true) (hini : (Cond.initialized C).before args s = true)
    (hK : va_K D cl tys s) (hP : hv_P D cl lo w H) (hS : va_S (hv_A lo) H0 H locs) (hA : lo ≤ H0.size) (hc : cl[ci]? = some (C, T, N)) {fs : List Value} (hfs : ∀ j, j < N → defaultValue (ty j) = vp_V fs j) (hcells : cells + 1 ≤ R.cells) (hslots : slots + N ≤ R.slots) (hdg : decode cc pc = .ok (.new index, 3))
    (kk : ∀ (q : Nat) (H1 : Heap), w q = none → hv_P D cl lo (va_up w q (some (.inr (ci, fs)))) H1 → va_S (hv_A lo) H0 H1 locs →
      W p l e R s m args below meth c H1 locs (cells + 1) (slots + N) Q (F0 m (pc + 3) ls (.ref q :: rest))) : W p l e R s m args below meth c H locs cells slots Q (F0 m pc ls rest) := by
  obtain ⟨ws, g1, g2, g3, -⟩ := hv_list hP
  exact va_new hexec hb hts hin ty hty hown hcl hinst hini hK g1 g2 hS (fun q h => Nat.le_trans hA h) hc hfs hcells hslots hdg fun q H1 r1 r2 r3 => kk q H1 (hv_push hP g3 r2 r1).2 (hv_push hP g3 r2 r1).1 r3
theorem hv_newa (hexec : p.tables.exec = Jvm.exec) (hb : c.code = cc) {atype : ArrayType} (harr : (Cond.arrayClass (newarray.typeOf atype)).before args s = true) {ty : FieldType} (hty : newarray.typeOf atype = ty) (hK : va_K D cl tys s) (hP : hv_P D cl lo w H) (hS : va_S (hv_A lo) H0 H locs) (hA : lo ≤ H0.size) (t0 : Nat) {cA : ClassId} (ht : tys[t0]? = some (cA, ty))
    {n : Int32} {N' : Nat} {a0 : vp_A} (ha : ∀ cA : ClassId, vp_cell cA a0 = arrV cA N' (fun _ => defaultValue ty)) (hn : ¬ n < 0) (hN : n.toNatClampNeg = N') (hbytes : N' * componentBytes ty ≤ 536870912) (hcells : cells + 1 ≤ R.cells) (hslots : slots + N' ≤ R.slots) (hdg : decode cc pc = .ok (.newarray atype, 2))
    (kk : ∀ (q : Nat) (H1 : Heap), w q = none → hv_P D cl lo (va_up w q (some (.inl (cA, a0)))) H1 → va_S (hv_A lo) H0 H1 locs →
      W p l e R s m args below meth c H1 locs (cells + 1) (slots + N') Q (F0 m (pc + 2) ls (.ref q :: rest))) : W p l e R s m args below meth c H locs cells slots Q (F0 m pc ls (.int n :: rest)) := by
  obtain ⟨ws, g1, g2, g3, -⟩ := hv_list hP
  refine va_newa hexec hb harr hty hK g1 g2 hS (fun q h => Nat.le_trans hA h) ha hn hN hbytes hcells hslots hdg fun q cB H1 k1 r1 r2 r3 => ?_
  have e1 : cB = cA := hv_RA1 (k1.2 tys.length (cB, ty) (by rw [List.getElem?_append_right (Nat.le_refl _), Nat.sub_self]; rfl)).2 (hK.2 t0 _ ht).2
  subst e1
  exact kk q H1 (hv_push hP g3 r2 r1).2 (hv_push hP g3 r2 r1).1 r3
theorem hv_newq (hexec : p.tables.exec = Jvm.exec) (hb : c.code = cc) {own C : String} {index : Nat} (hown : s.vm.findClass own = some m.cls) (hclink : (Cond.classLink own index C).before args s = true) (hover : va_AO C s) (hK : va_K D cl tys s) (hP : hv_P D cl lo w H) (hS : va_S (hv_A lo) H0 H locs) (hA : lo ≤ H0.size) (t0 : Nat) {cA : ClassId} (ht : tys[t0]? = some (cA, .object C))
    {n : Int32} {N' : Nat} (hn : ¬ n < 0) (hN : n.toNatClampNeg = N') (hbytes : N' * 4 ≤ 536870912) (hcells : cells + 1 ≤ R.cells) (hslots : slots + N' ≤ R.slots) (hdg : decode cc pc = .ok (.anewarray index, 3))
    (kk : ∀ (q : Nat) (H1 : Heap), w q = none → hv_P D cl lo (va_up w q (some (.inl (cA, N', .inr (.inr (.inr (.inr (fun _ => none)))))))) H1 → va_S (hv_A lo) H0 H1 locs →
      W p l e R s m args below meth c H1 locs (cells + 1) (slots + N') Q (F0 m (pc + 3) ls (.ref q :: rest))) : W p l e R s m args below meth c H locs cells slots Q (F0 m pc ls (.int n :: rest)) := by
  obtain ⟨ws, g1, g2, g3, -⟩ := hv_list hP
  refine va_newq hexec hb hown hclink hover hK g1 g2 hS (fun q h => Nat.le_trans hA h) hn hN hbytes hcells hslots hdg fun q cB H1 k1 r1 r2 r3 => ?_
  have e1 : cB = cA := hv_RA1 (k1.2 tys.length (cB, .object C) (by rw [List.getElem?_append_right (Nat.le_refl _), Nat.sub_self]; rfl)).2 (hK.2 t0 _ ht).2
  subst e1
  exact kk q H1 (hv_push hP g3 r2 r1).2 (hv_push hP g3 r2 r1).1 r3
end HVROWS
