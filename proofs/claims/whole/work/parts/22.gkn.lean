/-! A THING IS PUT AGAIN -/
section GKN
variable {ca : Nat → ClassId} {L : Nat → Nat} {w0 w w' : hv_W} {σ σ' : gS} {P P' : cT} {Mu : Nat → Prop}
theorem cK.putNew (h : cK ca L w0 σ P w) (k : Nat) (hk : k < 15) {q : Nat} (hq : w q = none) {a : va_E} (e1 : w' (L k) = some a) (ho : ∀ b, b ≠ L k → b ≠ q → w' b = w b) (he : ccl ca L σ' P' = (ccl ca L σ P).set k a) : cK ca L w0 σ' P' w' := by
  have hqL : ∀ i, i < 15 → L i ≠ q := fun i hi z => h.mu q ⟨i, hi, z.symm⟩ hq
  refine ⟨⟨h.1.1, fun i hi => ?_⟩, fun b f hb hf => (ho b (fun z => hb ⟨k, hk, z⟩) (fun z => ?_)).trans (h.2 b f hb hf)⟩
  · rw [he, List.getElem?_set]
    by_cases h2 : k = i
    · subst h2
      rw [if_pos rfl, if_pos (by show k < 15; exact hk)]
      exact e1
    · rw [if_neg h2, ho _ (h.ne hi hk (Ne.symm h2)) (hqL i hi)]
      exact h.1.2 i hi
  · have h9 := h.2 b f hb hf
    rw [z, hq] at h9
    cases h9
theorem g_keep.putNew {k : Nat} (hk : k < 15) {q : Nat} (hq : w q = none) (ho : ∀ b, b ≠ L k → b ≠ q → w' b = w b) : g_keep (cM L) w w' := fun b f hb hf => (ho b (fun z => hb ⟨k, hk, z⟩) (fun z => by rw [z, hq] at hf; cases hf)).trans hf
theorem cK.fresh (h : cK ca L w0 σ P w) {q : Nat} (hq : w q = none) : ¬ cM L q := fun z => h.mu q z hq
theorem g_lookq_none {ps : List gP} {x : Int32} {r : Option Nat} (h : g_lookq ca Mu w ps x r) (hr : r = none) : g_look ps x = none := by
  unfold g_lookq at h
  cases hl : g_look ps x with
  | none => rfl
  | some p => rw [hl] at h; obtain ⟨q, h1, -⟩ := h; rw [hr] at h1; cases h1
theorem g_lookq_some {ps : List gP} {x : Int32} {r : Option Nat} {q : Nat} (h : g_lookq ca Mu w ps x r) (hr : r = some q) : ∃ p, g_look ps x = some p ∧ g_prop ca Mu w q p := by
  unfold g_lookq at h
  cases hl : g_look ps x with
  | none => rw [hl] at h; rw [hr] at h; cases h
  | some p => rw [hl] at h; obtain ⟨q', h1, h2⟩ := h; rw [hr] at h1; cases h1; exact ⟨p, rfl, h2⟩
end GKN
theorem g_look_none_pos {ps : List gP} {x : Int32} (h : g_look ps x = none) : ¬ g_pos ps x < ps.length := fun q => by rw [g_look_pos q] at h; cases h
theorem g_look_some_pos {ps : List gP} {x : Int32} {p : gP} (h : g_look ps x = some p) : g_pos ps x < ps.length := by
  rcases Nat.lt_or_ge (g_pos ps x) ps.length with q | q
  · exact q
  · rw [g_look_posn (Nat.not_lt.mpr q)] at h; cases h
theorem g_look_mem {ps : List gP} {x : Int32} {p : gP} (h : g_look ps x = some p) : p ∈ ps := List.mem_of_find?_eq_some h
/-- what becomes of a put: 0, it is the same; 1, there are too many; 2, it goes on -/
def x_pk (ps : List gP) (pp : gP) : Nat := match g_look ps pp.1 with
  | none => if 6 ≤ ps.length then 1 else 2
  | some o => if o.2 = pp.2 then 0 else 2
theorem x_pk_n {ps : List gP} {pp : gP} (h : g_look ps pp.1 = none) : x_pk ps pp = if 6 ≤ ps.length then 1 else 2 := by rw [x_pk, h]
theorem x_pk_s {ps : List gP} {pp o : gP} (h : g_look ps pp.1 = some o) : x_pk ps pp = if o.2 = pp.2 then 0 else 2 := by rw [x_pk, h]
def x_nf (γ : Nat → Option gT) (t : gT) (n what : Int32) : Int32 := if what = 1 then nI t.lab.length else if what = 2 then nI (x_cch γ n 1 96) else if what = 3 then nI (x_cch γ n 0 96) else -1
def x_lf (t : gT) (what : Int32) : Int32 := if what = 1 then t.st else if what = 2 then t.en else if what = 3 then t.ty else -1
theorem cThr.tr {ca : Nat → ClassId} {L : Nat → Nat} {w0 w w' : hv_W} {σ σ' : gS} {P : cT} {E x : Nat} (hM : cK ca L w0 σ P w) (h : cThr ca L w E σ' x w') : cThr ca L w0 E σ' x w' := by
  obtain ⟨h1, h2, h3, P', h4, h5⟩ := h
  refine ⟨h1, h2, ?_, P', cK.tr hM.2 h4, h5⟩
  cases h : w0 x with
  | none => rfl
  | some f => rw [hM.2 x f h2 h] at h3; cases h3
