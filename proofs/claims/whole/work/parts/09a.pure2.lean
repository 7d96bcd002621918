/-! LISTS: places, removal, putting -/
theorem gk_dec1 {n : Nat} (h : 1 ≤ n) : nI n + (-1) = nI (n - 1) := by
  have e1 : nI n - nI 1 = nI (n - 1) := gk_nsub h
  rw [← e1, Int32.sub_eq_add_neg]
  rfl
theorem g_fst_uniq {f : Nat → Int32} {n i j : Nat} {x : Int32} (h : gk_fst f n x i) (h' : gk_fst f n x j) : i = j := by
  obtain ⟨a1, a2, a3⟩ := h
  obtain ⟨b1, b2, b3⟩ := h'
  rcases Nat.lt_trichotomy i j with q | q | q
  · exact absurd (a3 (by omega)) (b2 i q)
  · exact q
  · exact absurd (b3 (by omega)) (a2 j q)
theorem g_erase : ∀ {xs : List Int32} {x : Int32} {i : Nat}, gk_fst (fun j => xs.getD j 0) xs.length x i → i < xs.length → xs.eraseIdx i = xs.erase x
  | [], _, _, _, h => absurd h (Nat.not_lt_zero _)
  | y :: ys, x, i, ⟨h1, h2, h3⟩, hi => by
    dsimp only at h2 h3
    cases i with
    | zero =>
      have e := h3 hi
      have e2 : y = x := e
      rw [e2, List.eraseIdx_cons_zero, List.erase_cons_head]
    | succ i =>
      have e := h2 0 (Nat.succ_pos _)
      have e2 : ¬ y = x := e
      rw [List.eraseIdx_cons_succ, List.erase_cons_tail (by simpa using e2)]
      congr 1
      exact g_erase ⟨Nat.le_of_succ_le_succ h1, fun j hj => h2 (j + 1) (Nat.succ_lt_succ hj), fun q => h3 (Nat.succ_lt_succ q)⟩ (Nat.lt_of_succ_lt_succ hi)
/-- the place of a key -/
def g_pos (ps : List gP) (x : Int32) : Nat := ps.findIdx (fun q => q.1 == x)
theorem g_pos_fst (ps : List gP) (x : Int32) : gk_fst (fun j => (ps.map (fun q => q.1)).getD j 0) ps.length x (g_pos ps x) := by
  refine ⟨List.findIdx_le_length, fun j hj => ?_, fun h => ?_⟩
  · have hjl : j < ps.length := Nat.lt_of_lt_of_le hj List.findIdx_le_length
    have e := List.not_of_lt_findIdx hj
    show ¬ (ps.map (fun q => q.1)).getD j 0 = x
    rw [g_fst_key (List.getElem?_eq_getElem hjl)]
    simpa using e
  · have e := List.findIdx_getElem (w := h)
    show (ps.map (fun q => q.1)).getD (g_pos ps x) 0 = x
    rw [g_fst_key (List.getElem?_eq_getElem h)]
    have e2 : ps[ps.findIdx (fun q => q.1 == x)].1 = x := by simpa using e
    exact e2
theorem g_pos_of {ps : List gP} {x : Int32} {i : Nat} (h : gk_fst (fun j => (ps.map (fun q => q.1)).getD j 0) ps.length x i) : i = g_pos ps x := g_fst_uniq h (g_pos_fst ps x)
def g_put (ps : List gP) (p : gP) : List gP := if g_pos ps p.1 < ps.length then ps.set (g_pos ps p.1) p else ps ++ [p]
def g_drop (ps : List gP) (x : Int32) : List gP := ps.eraseIdx (g_pos ps x)
theorem g_look_pos {ps : List gP} {x : Int32} (h : g_pos ps x < ps.length) : g_look ps x = some ps[g_pos ps x] := g_look_of (g_pos_fst ps x) h (List.getElem?_eq_getElem h)
theorem g_look_posn {ps : List gP} {x : Int32} (h : ¬ g_pos ps x < ps.length) : g_look ps x = none := g_look_no (g_pos_fst ps x) h
/-- an array's elements, one by one -/
theorem g_props_with {ca : Nat → ClassId} {Mu : Nat → Prop} {w : hv_W} {a q : Nat} {ps : List gP} {p : gP} {pf g : Nat → Option Nat} (hm : ¬ Mu a) {n : Nat} (hn : n = if g_pos ps p.1 < ps.length then ps.length else ps.length + 1) (ha : w a = some (.inl (ca 4, n, .inr (.inr (.inr (.inr g))))))
    (hpe : ∀ i, i < ps.length → ∃ q p, pf i = some q ∧ ps[i]? = some p ∧ g_prop ca Mu w q p) (hq : g_prop ca Mu w q p) (hg : ∀ j, j < n → g j = if j = g_pos ps p.1 then some q else pf j) : g_props ca Mu w a (g_put ps p) := by
  have hle : g_pos ps p.1 ≤ ps.length := List.findIdx_le_length
  unfold g_put
  by_cases hc : g_pos ps p.1 < ps.length
  · rw [if_pos hc] at hn ⊢
    refine ⟨hm, g, by rw [List.length_set, ← hn]; exact ha, fun i hi => ?_⟩
    rw [List.length_set] at hi
    rw [hg i (by omega), List.getElem?_set]
    by_cases hi2 : i = g_pos ps p.1
    · rw [if_pos hi2, if_pos hi2.symm, if_pos hc]
      exact ⟨q, p, rfl, rfl, hq⟩
    · rw [if_neg hi2, if_neg (Ne.symm hi2)]
      exact hpe i hi
  · rw [if_neg hc] at hn ⊢
    refine ⟨hm, g, by rw [List.length_append, List.length_singleton, ← hn]; exact ha, fun i hi => ?_⟩
    rw [List.length_append, List.length_singleton] at hi
    rw [hg i (by omega)]
    by_cases hi2 : i = ps.length
    · rw [if_pos (by omega), hi2, List.getElem?_append_right (Nat.le_refl _), Nat.sub_self]
      exact ⟨q, p, rfl, rfl, hq⟩
    · rw [if_neg (by omega), List.getElem?_append_left (by omega)]
      exact hpe i (by omega)
theorem g_props_without {ca : Nat → ClassId} {Mu : Nat → Prop} {w : hv_W} {a i : Nat} {ps : List gP} {pf g : Nat → Option Nat} (hm : ¬ Mu a) (hi : i < ps.length) (ha : w a = some (.inl (ca 4, ps.length - 1, .inr (.inr (.inr (.inr g))))))
    (hpe : ∀ i, i < ps.length → ∃ q p, pf i = some q ∧ ps[i]? = some p ∧ g_prop ca Mu w q p) (hg : ∀ j, j < ps.length - 1 → g j = pf (if j < i then j else j + 1)) : g_props ca Mu w a (ps.eraseIdx i) := by
  refine ⟨hm, g, by rw [List.length_eraseIdx_of_lt hi]; exact ha, fun j hj => ?_⟩
  rw [List.length_eraseIdx_of_lt hi] at hj
  obtain ⟨q, p, e1, e2, e3⟩ := hpe (if j < i then j else j + 1) (by split <;> omega)
  refine ⟨q, p, (hg j hj).trans e1, ?_, e3⟩
  rw [List.getElem?_eraseIdx]
  split
  · rename_i h; rw [if_pos h] at e2; exact e2
  · rename_i h; rw [if_neg h] at e2; exact e2
theorem g_lcmp_refl (x : Int64) : lg_cmp x x = 0 := by simp [lg_cmp]
theorem g_lcmp_eq {x y : Int64} (h : lg_cmp x y = 0) : x = y := by
  unfold lg_cmp at h
  split at h
  · cases h
  · split at h
    · assumption
    · cases h
theorem g_same {p r : gP} {f f9 : Nat → Int32} (h1 : p.2.1 = r.2.1) (h2 : p.2.2.1 = r.2.2.1) (h3 : p.2.2.2.length = r.2.2.2.length) (hf : ∀ i, i < p.2.2.2.length → f i = p.2.2.2.getD i 0) (hf9 : ∀ i, i < r.2.2.2.length → f9 i = r.2.2.2.getD i 0) (h : ∀ j, j < p.2.2.2.length → f j = f9 j) : p.2 = r.2 := by
  refine Prod.ext h1 (Prod.ext h2 (List.ext_getElem h3 fun i a b => ?_))
  have e := h i a
  rw [hf i a, hf9 i b, List.getD_eq_getElem?_getD, List.getD_eq_getElem?_getD, List.getElem?_eq_getElem a, List.getElem?_eq_getElem b] at e
  exact e
