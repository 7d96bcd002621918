/-! THE KEEPER'S CELLS: two at once; looking things up -/
section GKL
variable {ca : Nat → ClassId} {L : Nat → Nat} {w0 w w' : hv_W} {σ σ' : gS} {P P' : cT} {Mu : Nat → Prop} {fN fL : Nat → Option Nat} {γ : Nat → Option gT}
theorem cK.U2 (h : cK ca L w0 σ P w) (k1 k2 : Nat) (hk1 : k1 < 15) (hk2 : k2 < 15) (hn : k1 ≠ k2) {a1 a2 : va_E} (e1 : w' (L k1) = some a1) (e2 : w' (L k2) = some a2) (ho : ∀ b, b ≠ L k1 → b ≠ L k2 → w' b = w b) (he : ccl ca L σ' P' = ((ccl ca L σ P).set k1 a1).set k2 a2) : cK ca L w0 σ' P' w' := by
  refine ⟨⟨h.1.1, fun i hi => ?_⟩, fun b f hb hf => (ho b (fun z => hb ⟨k1, hk1, z⟩) (fun z => hb ⟨k2, hk2, z⟩)).trans (h.2 b f hb hf)⟩
  rw [he, List.getElem?_set]
  by_cases h2 : k2 = i
  · subst h2
    rw [if_pos rfl, if_pos (by rw [List.length_set]; show k2 < 15; exact hk2)]
    exact e2
  · rw [if_neg h2, List.getElem?_set]
    by_cases h1 : k1 = i
    · subst h1
      rw [if_pos rfl, if_pos (by show k1 < 15; exact hk1)]
      exact e1
    · rw [if_neg h1, ho _ (h.ne hi hk1 (Ne.symm h1)) (h.ne hi hk2 (Ne.symm h2))]
      exact h.1.2 i hi
theorem g_keep.U2 {k1 k2 : Nat} (hk1 : k1 < 15) (hk2 : k2 < 15) (ho : ∀ b, b ≠ L k1 → b ≠ L k2 → w' b = w b) : g_keep (cM L) w w' := fun b f hb hf => (ho b (fun z => hb ⟨k1, hk1, z⟩) (fun z => hb ⟨k2, hk2, z⟩)).trans hf
theorem cG_N (h : cG ca Mu w fN fL γ) {i : Nat} (hi : i < 64) : (fN i = none ∧ γ i = none) ∨ ∃ a t, fN i = some a ∧ γ i = some t ∧ g_node ca Mu w a (t.lab, t.ps) := by
  have h1 := h.1 i hi
  cases hf : fN i with
  | none =>
    cases hg : γ i with
    | none => exact Or.inl ⟨rfl, rfl⟩
    | some t => rw [hf, hg] at h1; exact h1.elim
  | some a =>
    cases hg : γ i with
    | none => rw [hf, hg] at h1; exact h1.elim
    | some t => rw [hf, hg] at h1; exact Or.inr ⟨a, t, rfl, rfl, h1⟩
theorem cG_L (h : cG ca Mu w fN fL γ) {i : Nat} (hi : i < 96) : (fL i = none ∧ γ (64 + i) = none) ∨ ∃ a t, fL i = some a ∧ γ (64 + i) = some t ∧ g_link ca Mu w a ((t.st, t.en, t.ty), t.ps) := by
  have h1 := h.2 i hi
  cases hf : fL i with
  | none =>
    cases hg : γ (64 + i) with
    | none => exact Or.inl ⟨rfl, rfl⟩
    | some t => rw [hf, hg] at h1; exact h1.elim
  | some a =>
    cases hg : γ (64 + i) with
    | none => rw [hf, hg] at h1; exact h1.elim
    | some t => rw [hf, hg] at h1; exact Or.inr ⟨a, t, rfl, rfl, h1⟩
theorem cG_nN (h : cG ca Mu w fN fL γ) {i : Nat} (hi : i < 64) : fN i = none ↔ γ i = none := by
  rcases cG_N h hi with ⟨h1, h2⟩ | ⟨a, t, h1, h2, -⟩ <;> simp [h1, h2]
theorem cG_nL (h : cG ca Mu w fN fL γ) {i : Nat} (hi : i < 96) : fL i = none ↔ γ (64 + i) = none := by
  rcases cG_L h hi with ⟨h1, h2⟩ | ⟨a, t, h1, h2, -⟩ <;> simp [h1, h2]
theorem cG_nodeAt (h : cG ca Mu w fN fL γ) {i a : Nat} {t : gT} (hi : i < 64) (ha : fN i = some a) (ht : γ i = some t) : g_node ca Mu w a (t.lab, t.ps) := by
  have h1 := h.1 i hi
  rw [ha, ht] at h1
  exact h1
theorem cG_linkAt (h : cG ca Mu w fN fL γ) {i a : Nat} {t : gT} (hi : i < 96) (ha : fL i = some a) (ht : γ (64 + i) = some t) : g_link ca Mu w a ((t.st, t.en, t.ty), t.ps) := by
  have h1 := h.2 i hi
  rw [ha, ht] at h1
  exact h1
/-- a node is put in place -/
theorem cG_putN (h : cG ca Mu w fN fL γ) {i a : Nat} {t : gT} (hi : i < 64) (hn : g_node ca Mu w a (t.lab, t.ps)) : cG ca Mu w (va_up fN i (some a)) fL (va_up γ i (some t)) := by
  refine ⟨fun j hj => ?_, fun j hj => ?_⟩
  · by_cases q : j = i
    · subst q; simp only [va_up]; exact hn
    · simp only [va_up, if_neg q]; exact h.1 j hj
  · simp only [va_up, if_neg (show ¬ 64 + j = i by omega)]; exact h.2 j hj
theorem cG_putL (h : cG ca Mu w fN fL γ) {i a : Nat} {t : gT} (hi : i < 96) (hn : g_link ca Mu w a ((t.st, t.en, t.ty), t.ps)) : cG ca Mu w fN (va_up fL i (some a)) (va_up γ (64 + i) (some t)) := by
  refine ⟨fun j hj => ?_, fun j hj => ?_⟩
  · simp only [va_up, if_neg (show ¬ j = 64 + i by omega)]; exact h.1 j hj
  · by_cases q : j = i
    · subst q; simp only [va_up]; exact hn
    · simp only [va_up, if_neg q, if_neg (show ¬ 64 + j = 64 + i by omega)]; exact h.2 j hj
theorem cG_delN (h : cG ca Mu w fN fL γ) {i : Nat} (hi : i < 64) : cG ca Mu w (va_up fN i none) fL (va_up γ i none) := by
  refine ⟨fun j hj => ?_, fun j hj => ?_⟩
  · by_cases q : j = i
    · subst q; simp only [va_up]; trivial
    · simp only [va_up, if_neg q]; exact h.1 j hj
  · simp only [va_up, if_neg (show ¬ 64 + j = i by omega)]; exact h.2 j hj
theorem cG_delL (h : cG ca Mu w fN fL γ) {i : Nat} (hi : i < 96) : cG ca Mu w fN (va_up fL i none) (va_up γ (64 + i) none) := by
  refine ⟨fun j hj => ?_, fun j hj => ?_⟩
  · simp only [va_up, if_neg (show ¬ j = 64 + i by omega)]; exact h.1 j hj
  · by_cases q : j = i
    · subst q; simp only [va_up]; trivial
    · simp only [va_up, if_neg q, if_neg (show ¬ 64 + j = 64 + i by omega)]; exact h.2 j hj
end GKL
theorem x_free_some {γ : Nat → Option gT} {gone : Nat → Int32} {lo n i : Nat} (hi : i < n) (h1 : γ (lo + i) = none) (h2 : gone (lo + i) = 0) (h3 : ∀ j, j < i → ¬ (γ (lo + j) = none ∧ gone (lo + j) = 0)) : x_free γ gone lo n = some i := by
  refine List.find?_range_eq_some.mpr ⟨by simp [h1, h2], List.mem_range.mpr hi, fun j hj => ?_⟩
  have := h3 j hj
  simp only [Bool.not_eq_true', decide_eq_false_iff_not]
  exact this
theorem x_free_none {γ : Nat → Option gT} {gone : Nat → Int32} {lo n : Nat} (h3 : ∀ j, j < n → ¬ (γ (lo + j) = none ∧ gone (lo + j) = 0)) : x_free γ gone lo n = none := by
  refine List.find?_eq_none.mpr fun j hj => ?_
  simp only [decide_eq_true_eq]
  exact h3 j (List.mem_range.mp hj)
theorem gk_thing_4 {fN fL : Nat → Option Nat} {i : Nat} (hi : i < 64) : gk_thing fN fL 4 (nI i) = fN i := by rw [gk_thing, if_pos rfl, gk_sel_nI hi (by decide)]
theorem gk_thing_5 {fN fL : Nat → Option Nat} {i : Nat} (hi : i < 96) : gk_thing fN fL 5 (nI i) = fL i := by rw [gk_thing, if_neg (by decide), if_pos rfl, gk_sel_nI hi (by decide)]
/-- a thing of the tables: a node or a link -/
theorem gk_thing_some {fN fL : Nat → Option Nat} {k n : Int32} {a : Nat} (h : gk_thing fN fL k n = some a) : (k = 4 ∧ ∃ i, i < 64 ∧ n = nI i ∧ fN i = some a) ∨ (k = 5 ∧ ∃ i, i < 96 ∧ n = nI i ∧ fL i = some a) := by
  unfold gk_thing at h
  split at h
  · rename_i hk
    exact Or.inl ⟨hk, gk_sel_some h (by decide)⟩
  · split at h
    · rename_i hk
      exact Or.inr ⟨hk, gk_sel_some h (by decide)⟩
    · cases h
theorem x_find_4 {γ : Nat → Option gT} {i : Nat} (hi : i < 64) : x_find γ 4 (nI i) = (γ i).map fun t => (i, t) := by
  have h1 : x_idx 4 (nI i) = some i := by
    rw [x_idx, if_pos rfl, if_neg (fun q => q.elim (nI_pos (by omega)) (nI_ge (b := 64) hi (by decide))), nI_clamp (by omega)]
  rw [x_find, h1]
theorem x_find_5 {γ : Nat → Option gT} {i : Nat} (hi : i < 96) : x_find γ 5 (nI i) = (γ (64 + i)).map fun t => (64 + i, t) := by
  have h1 : x_idx 5 (nI i) = some (64 + i) := by
    rw [x_idx, if_neg (by decide), if_pos rfl, if_neg (fun q => q.elim (nI_pos (by omega)) (nI_ge (b := 96) hi (by decide))), nI_clamp (by omega)]
  rw [x_find, h1]
theorem gk_sel_noneN {ca : Nat → ClassId} {Mu : Nat → Prop} {w : hv_W} {fN fL : Nat → Option Nat} {γ : Nat → Option gT} (h : cG ca Mu w fN fL γ) {n : Int32} (hs : gk_sel fN 64 n = none) : x_find γ 4 n = none := by
  unfold gk_sel at hs
  split at hs
  · rename_i hc
    have h1 : x_idx 4 n = none := by rw [x_idx, if_pos rfl, if_pos (show n < 0 ∨ 64 ≤ n from hc)]
    rw [x_find, h1]
  · rename_i hc
    obtain ⟨i, hi, e⟩ := vp_in_of (gk_in (N := 64) (fun q => hc (Or.inl q)) (fun q => hc (Or.inr q)) (by decide)) (by decide)
    subst e
    rw [nI_clamp (by omega)] at hs
    rw [x_find_4 hi, (cG_nN h hi).mp hs]
    rfl
theorem gk_sel_noneL {ca : Nat → ClassId} {Mu : Nat → Prop} {w : hv_W} {fN fL : Nat → Option Nat} {γ : Nat → Option gT} (h : cG ca Mu w fN fL γ) {n : Int32} (hs : gk_sel fL 96 n = none) : x_find γ 5 n = none := by
  unfold gk_sel at hs
  split at hs
  · rename_i hc
    have h1 : x_idx 5 n = none := by rw [x_idx, if_neg (by decide), if_pos rfl, if_pos (show n < 0 ∨ 96 ≤ n from hc)]
    rw [x_find, h1]
  · rename_i hc
    obtain ⟨i, hi, e⟩ := vp_in_of (gk_in (N := 96) (fun q => hc (Or.inl q)) (fun q => hc (Or.inr q)) (by decide)) (by decide)
    subst e
    rw [nI_clamp (by omega)] at hs
    rw [x_find_5 hi, (cG_nL h hi).mp hs]
    rfl
theorem gk_thing_none {ca : Nat → ClassId} {Mu : Nat → Prop} {w : hv_W} {fN fL : Nat → Option Nat} {γ : Nat → Option gT} (h : cG ca Mu w fN fL γ) {k n : Int32} (hs : gk_thing fN fL k n = none) : x_find γ k n = none := by
  unfold gk_thing at hs
  split at hs
  · rename_i hk; subst hk; exact gk_sel_noneN h hs
  · rename_i hk
    split at hs
    · rename_i hk5; subst hk5; exact gk_sel_noneL h hs
    · rename_i hk5
      rw [x_find, x_idx, if_neg hk, if_neg hk5]
/-- a node's number finds it -/
theorem gk_sel_someN {ca : Nat → ClassId} {Mu : Nat → Prop} {w : hv_W} {fN fL : Nat → Option Nat} {γ : Nat → Option gT} (h : cG ca Mu w fN fL γ) {n : Int32} {a : Nat} (hs : gk_sel fN 64 n = some a) : ∃ i t, i < 64 ∧ n = nI i ∧ fN i = some a ∧ γ i = some t ∧ x_find γ 4 n = some (i, t) ∧ g_node ca Mu w a (t.lab, t.ps) := by
  obtain ⟨i, hi, rfl, ha⟩ := gk_sel_some hs (by decide)
  rcases cG_N h hi with ⟨h1, -⟩ | ⟨b, t, h1, h2, h3⟩
  · rw [h1] at ha; cases ha
  · rw [h1] at ha; cases ha
    exact ⟨i, t, hi, rfl, h1, h2, by rw [x_find_4 hi, h2]; rfl, h3⟩
theorem gk_sel_someL {ca : Nat → ClassId} {Mu : Nat → Prop} {w : hv_W} {fN fL : Nat → Option Nat} {γ : Nat → Option gT} (h : cG ca Mu w fN fL γ) {n : Int32} {a : Nat} (hs : gk_sel fL 96 n = some a) : ∃ i t, i < 96 ∧ n = nI i ∧ fL i = some a ∧ γ (64 + i) = some t ∧ x_find γ 5 n = some (64 + i, t) ∧ g_link ca Mu w a ((t.st, t.en, t.ty), t.ps) := by
  obtain ⟨i, hi, rfl, ha⟩ := gk_sel_some hs (by decide)
  rcases cG_L h hi with ⟨h1, -⟩ | ⟨b, t, h1, h2, h3⟩
  · rw [h1] at ha; cases ha
  · rw [h1] at ha; cases ha
    exact ⟨i, t, hi, rfl, h1, h2, by rw [x_find_5 hi, h2]; rfl, h3⟩
theorem gk_thing_someE {ca : Nat → ClassId} {Mu : Nat → Prop} {w : hv_W} {fN fL : Nat → Option Nat} {γ : Nat → Option gT} (h : cG ca Mu w fN fL γ) {k n : Int32} {a : Nat} (hs : gk_thing fN fL k n = some a) : (k = 4 ∧ gk_sel fN 64 n = some a) ∨ (k = 5 ∧ gk_sel fL 96 n = some a) := by
  unfold gk_thing at hs
  split at hs
  · rename_i hk; exact Or.inl ⟨hk, hs⟩
  · split at hs
    · rename_i hk5; exact Or.inr ⟨hk5, hs⟩
    · cases hs
def x_okv (k : Int32) (y : Int64) : Prop := ¬ k < 0 ∧ ¬ 3 < k ∧ (k = 2 → y = 0 ∨ y = 1)
