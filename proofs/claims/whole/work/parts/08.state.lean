/-! WHAT THE THINGS ARE: contents, and the cells that hold them; Mu: the addresses that are written again and again (none of a thing's cells is one) -/
abbrev gP : Type := Int32 × Int32 × Int64 × List Int32
abbrev gN : Type := List Int32 × List gP
abbrev gL : Type := (Int32 × Int32 × Int32) × List gP
def g_keep (Mu : Nat → Prop) (w w' : hv_W) : Prop := ∀ (b : Nat) (e : va_E), ¬ Mu b → w b = some e → w' b = some e
def g_grow (w w' : hv_W) : Prop := ∀ (b : Nat) (e : va_E), w b = some e → w' b = some e
theorem g_grow.keep {Mu : Nat → Prop} {w w' : hv_W} (h : g_grow w w') : g_keep Mu w w' := fun b e _ hb => h b e hb
theorem g_grow.refl (w : hv_W) : g_grow w w := fun _ _ h => h
theorem g_grow.trans {w w' w'' : hv_W} (h : g_grow w w') (h' : g_grow w' w'') : g_grow w w'' := fun b e hb => h' b e (h b e hb)
theorem g_keep.refl {Mu : Nat → Prop} (w : hv_W) : g_keep Mu w w := fun _ _ _ h => h
theorem g_keep.trans {Mu : Nat → Prop} {w w' w'' : hv_W} (h : g_keep Mu w w') (h' : g_keep Mu w' w'') : g_keep Mu w w'' := fun b e hm hb => h' b e hm (h b e hm hb)
theorem g_grow.new {w : hv_W} {q : Nat} {e : va_E} (h : w q = none) : g_grow w (va_up w q (some e)) := fun b f hb => hv_up_f h hb
/-- a cell that was made since: what was there before is there as it was -/
theorem g_grow.upd {w w' w'' : hv_W} {q : Nat} {e : va_E} (hq : w q = none) (h : g_grow w w') (hU : hv_U q e w' w'') : g_grow w w'' := fun b f hb => (hU.2 b (hv_ne_f hq hb)).trans (h b f hb)
theorem g_keep.upd {Mu : Nat → Prop} {w w' : hv_W} {q : Nat} {e : va_E} (hm : Mu q) (hU : hv_U q e w w') : g_keep Mu w w' := fun b f hb hf => (hU.2 b (fun z => hb (z ▸ hm))).trans hf
def g_txt (ca : Nat → ClassId) (Mu : Nat → Prop) (w : hv_W) (a : Nat) (xs : List Int32) : Prop := ¬ Mu a ∧ ∃ f : Nat → Int32, w a = some (.inl (ca 1, xs.length, .inl f)) ∧ ∀ i, i < xs.length → f i = xs.getD i 0
def g_int (ca : Nat → ClassId) (Mu : Nat → Prop) (w : hv_W) (a : Nat) (xs : List Int32) : Prop := ¬ Mu a ∧ ∃ f : Nat → Int32, w a = some (.inl (ca 0, xs.length, .inl f)) ∧ ∀ i, i < xs.length → f i = xs.getD i 0
def g_prop (ca : Nat → ClassId) (Mu : Nat → Prop) (w : hv_W) (q : Nat) (p : gP) : Prop := ¬ Mu q ∧ ∃ t : Nat, w q = some (.inr (4, [.int p.1, .int p.2.1, .long p.2.2.1, .ref t])) ∧ g_txt ca Mu w t p.2.2.2
def g_props (ca : Nat → ClassId) (Mu : Nat → Prop) (w : hv_W) (a : Nat) (ps : List gP) : Prop := ¬ Mu a ∧ ∃ f : Nat → Option Nat, w a = some (.inl (ca 4, ps.length, .inr (.inr (.inr (.inr f))))) ∧ ∀ i, i < ps.length → ∃ q p, f i = some q ∧ ps[i]? = some p ∧ g_prop ca Mu w q p
def g_node (ca : Nat → ClassId) (Mu : Nat → Prop) (w : hv_W) (a : Nat) (nd : gN) : Prop := ¬ Mu a ∧ ∃ pa lb : Nat, w a = some (.inr (5, [.ref pa, .ref lb])) ∧ g_int ca Mu w lb nd.1 ∧ g_props ca Mu w pa nd.2
def g_link (ca : Nat → ClassId) (Mu : Nat → Prop) (w : hv_W) (a : Nat) (lk : gL) : Prop := ¬ Mu a ∧ ∃ pa : Nat, w a = some (.inr (6, [.ref pa, .int lk.1.1, .int lk.1.2.1, .int lk.1.2.2])) ∧ g_props ca Mu w pa lk.2
section GKEEP
variable {ca : Nat → ClassId} {Mu : Nat → Prop} {w w' : hv_W} {a : Nat}
theorem g_txt.k {xs : List Int32} (h : g_txt ca Mu w a xs) (k : g_keep Mu w w') : g_txt ca Mu w' a xs := by
  obtain ⟨h1, f, h2, h3⟩ := h
  exact ⟨h1, f, k _ _ h1 h2, h3⟩
theorem g_int.k {xs : List Int32} (h : g_int ca Mu w a xs) (k : g_keep Mu w w') : g_int ca Mu w' a xs := by
  obtain ⟨h1, f, h2, h3⟩ := h
  exact ⟨h1, f, k _ _ h1 h2, h3⟩
theorem g_prop.k {p : gP} (h : g_prop ca Mu w a p) (k : g_keep Mu w w') : g_prop ca Mu w' a p := by
  obtain ⟨h1, t, h2, h3⟩ := h
  exact ⟨h1, t, k _ _ h1 h2, h3.k k⟩
theorem g_props.k {ps : List gP} (h : g_props ca Mu w a ps) (k : g_keep Mu w w') : g_props ca Mu w' a ps := by
  obtain ⟨h1, f, h2, h3⟩ := h
  refine ⟨h1, f, k _ _ h1 h2, fun i hi => ?_⟩
  obtain ⟨q, p, e1, e2, e3⟩ := h3 i hi
  exact ⟨q, p, e1, e2, e3.k k⟩
theorem g_node.k {nd : gN} (h : g_node ca Mu w a nd) (k : g_keep Mu w w') : g_node ca Mu w' a nd := by
  obtain ⟨h1, pa, lb, h2, h3, h4⟩ := h
  exact ⟨h1, pa, lb, k _ _ h1 h2, h3.k k, h4.k k⟩
theorem g_link.k {lk : gL} (h : g_link ca Mu w a lk) (k : g_keep Mu w w') : g_link ca Mu w' a lk := by
  obtain ⟨h1, pa, h2, h3⟩ := h
  exact ⟨h1, pa, k _ _ h1 h2, h3.k k⟩
end GKEEP
/-! lists of ints -/
theorem g_fst_mem {xs : List Int32} {x : Int32} {i : Nat} (h : gk_fst (fun j => xs.getD j 0) xs.length x i) : i < xs.length ↔ x ∈ xs := by
  obtain ⟨h1, h2, h3⟩ := h
  dsimp only at h2 h3
  constructor
  · intro hi
    have := h3 hi
    rw [← this, List.getD_eq_getElem?_getD, List.getElem?_eq_getElem hi]
    exact List.getElem_mem hi
  · intro hx
    rcases Nat.lt_or_ge i xs.length with q | q
    · exact q
    · obtain ⟨j, hj, e⟩ := List.getElem_of_mem hx
      exact absurd (by show xs.getD j 0 = x; rw [List.getD_eq_getElem?_getD, List.getElem?_eq_getElem hj]; exact e) (h2 j (by omega))
theorem g_fst_key {ps : List gP} {i : Nat} {p : gP} (h : ps[i]? = some p) : (ps.map (fun q => q.1)).getD i 0 = p.1 := by
  rw [List.getD_eq_getElem?_getD, List.getElem?_map, h]
  rfl
/-- the property of a key -/
def g_look (ps : List gP) (x : Int32) : Option gP := ps.find? (fun q => q.1 == x)
theorem g_look_of {ps : List gP} {x : Int32} {i : Nat} {p : gP} (h : gk_fst (fun j => (ps.map (fun q => q.1)).getD j 0) ps.length x i) (hi : i < ps.length) (hp : ps[i]? = some p) : g_look ps x = some p := by
  obtain ⟨h1, h2, h3⟩ := h
  dsimp only at h2 h3
  have hpi : p = ps[i] := by rw [List.getElem?_eq_getElem hi] at hp; exact (Option.some.inj hp).symm
  refine List.find?_eq_some_iff_getElem.mpr ⟨?_, i, hi, hpi.symm, fun j hj => ?_⟩
  · have e := h3 hi
    rw [g_fst_key hp] at e
    simp [e]
  · have e := h2 j hj
    have hjl : j < ps.length := by omega
    rw [g_fst_key (List.getElem?_eq_getElem hjl)] at e
    simp [e]
theorem g_look_no {ps : List gP} {x : Int32} {i : Nat} (h : gk_fst (fun j => (ps.map (fun q => q.1)).getD j 0) ps.length x i) (hi : ¬ i < ps.length) : g_look ps x = none := by
  obtain ⟨h1, h2, h3⟩ := h
  dsimp only at h2 h3
  refine List.find?_eq_none.mpr fun p hp => ?_
  obtain ⟨j, hj, e⟩ := List.getElem_of_mem hp
  have e2 := h2 j (by omega)
  rw [g_fst_key (List.getElem?_eq_getElem hj), e] at e2
  simp [e2]
theorem gk_bytes {n b : Nat} (h : n * b ≤ 536870912) : n * b ≤ 536870912 := h
/-- a reference to the property of a key, or none -/
def g_lookq (ca : Nat → ClassId) (Mu : Nat → Prop) (w : hv_W) (ps : List gP) (x : Int32) (r : Option Nat) : Prop := match g_look ps x with
  | none => r = none
  | some p => ∃ q, r = some q ∧ g_prop ca Mu w q p
theorem g_grow.none {w w' : hv_W} {q : Nat} (h : g_grow w w') (hq : w' q = none) : w q = none := by
  cases hw : w q with
  | none => rfl
  | some e => rw [h q e hw] at hq; cases hq
theorem gk_fill {α : Type} {g f : Nat → α} {i : Nat} {v : α} (h : ∀ j, j < i → g j = f j) (hv : v = f i) : ∀ j, j < i + 1 → va_up g i v j = f j := fun j hj => by
  by_cases hji : j = i
  · subst hji; simp [va_up, hv]
  · simp only [va_up, if_neg hji]; exact h j (by omega)
theorem gk_fillI {g f : Nat → Int32} {i : Nat} {v : Int32} (h : ∀ j, j < i → g j = f j) (hv : v = f i) : ∀ j, j < i + 1 → upd g i v j = f j := fun j hj => by
  by_cases hji : j = i
  · subst hji; rw [pk_us, hv]
  · rw [pk_un hji]; exact h j (by omega)
theorem g_app {xs : List Int32} {x : Int32} {g f : Nat → Int32} (h : ∀ j, j < xs.length → g j = f j) (hf : ∀ j, j < xs.length → f j = xs.getD j 0) : ∀ j, j < (xs ++ [x]).length → upd g xs.length x j = (xs ++ [x]).getD j 0 := fun j hj => by
  rw [List.length_append, List.length_singleton] at hj
  rw [List.getD_eq_getElem?_getD]
  by_cases hji : j = xs.length
  · subst hji
    rw [pk_us, List.getElem?_append_right (Nat.le_refl _), Nat.sub_self]
    rfl
  · have hlt : j < xs.length := by omega
    rw [pk_un hji, List.getElem?_append_left hlt, h j hlt, hf j hlt, List.getD_eq_getElem?_getD]
theorem g_rem {xs : List Int32} {i : Nat} {g : Nat → Int32} (hi : i < xs.length) (h : ∀ j, j < xs.length - 1 → g j = xs.getD (if j < i then j else j + 1) 0) : ∀ j, j < (xs.eraseIdx i).length → g j = (xs.eraseIdx i).getD j 0 := fun j hj => by
  rw [List.length_eraseIdx_of_lt hi] at hj
  rw [h j hj, List.getD_eq_getElem?_getD, List.getD_eq_getElem?_getD, List.getElem?_eraseIdx]
  split <;> rfl
