/-! LABELS OF THE REFERENCE -/
section MODT
variable {B B' : mB} {i : Nat} {t : gT} {y : Int32}
theorem mT_add (hB : mT B i i (some t)) (hi : i < 64) (hl : t.lab.length ≤ 3) : mT ((B.sLabels (upd B.labels (4 * i + t.lab.length) y)).sLabelMany (upd B.labelMany i (nI (t.lab.length + 1)))) i i (some (t.sLab (t.lab ++ [y]))) := by
  obtain ⟨h1, h2, h3, h4⟩ := hB
  refine ⟨h1, h2, fun z => ⟨?_, fun j hj => ?_⟩, fun z => absurd hi z⟩
  · show upd B.labelMany i (nI (t.lab.length + 1)) i = nI (t.lab ++ [y]).length
    rw [pk_us, List.length_append]; rfl
  · have hj : j < (t.lab ++ [y]).length := hj
    show upd B.labels (4 * i + t.lab.length) y (4 * i + j) = (t.lab ++ [y]).getD j 0
    rw [List.length_append, List.length_singleton] at hj
    rw [List.getD_eq_getElem?_getD]
    by_cases q : j = t.lab.length
    · subst q
      rw [pk_us, List.getElem?_append_right (Nat.le_refl _), Nat.sub_self]; rfl
    · rw [pk_un (by omega), List.getElem?_append_left (by omega), (h3 hi).2 j (by omega), List.getD_eq_getElem?_getD]
theorem mEq_add {j n : Nat} (hj : j ≠ i) (hn : n ≤ 3) {v : Int32} : mEq B j ((B.sLabels (upd B.labels (4 * i + n) y)).sLabelMany (upd B.labelMany i v)) j := ⟨⟨rfl, rfl, rfl, rfl, pk_un hj, rfl⟩, fun k hk => pk_un (by omega), fun _ _ => ⟨rfl, rfl, rfl⟩, fun _ _ => rfl⟩
/-- what is left of the first k labels -/
def m_left (xs : List Int32) (y : Int32) (k : Nat) : List Int32 := (xs.take k).filter (fun z => z != y)
theorem m_left_s {xs : List Int32} {y : Int32} {k : Nat} (hk : k < xs.length) : m_left xs y (k + 1) = m_left xs y k ++ (if xs.getD k 0 = y then [] else [xs.getD k 0]) := by
  unfold m_left
  have e : xs.getD k 0 = xs[k] := by rw [List.getD_eq_getElem?_getD, List.getElem?_eq_getElem hk]; rfl
  rw [List.take_add_one, List.filter_append, List.getElem?_eq_getElem hk, e]
  congr 1
  by_cases q : xs[k] = y
  · simp [q]
  · simp [q]
theorem m_left_le {xs : List Int32} {y : Int32} {k : Nat} (hk : k ≤ xs.length) : (m_left xs y k).length ≤ k := by
  unfold m_left
  have h1 := List.length_filter_le (fun z => z != y) (xs.take k)
  rw [List.length_take] at h1
  omega
theorem m_left_all {xs : List Int32} {y : Int32} (hnd : xs.Nodup) : m_left xs y xs.length = xs.erase y := by
  rw [m_left, List.take_length, hnd.erase_eq_filter]
theorem mT_del (hB : mT B i i (some t)) (hi : i < 64) (hnd : t.lab.Nodup) (hy : y ∈ t.lab) {g : Nat → Int32} (hg : ∀ j, j < (m_left t.lab y t.lab.length).length → g (4 * i + j) = (m_left t.lab y t.lab.length).getD j 0) : mT ((B.sLabels g).sLabelMany (upd B.labelMany i (nI (t.lab.length - 1)))) i i (some (t.sLab (t.lab.erase y))) := by
  obtain ⟨h1, h2, h3, h4⟩ := hB
  refine ⟨h1, h2, fun z => ⟨?_, fun j hj => ?_⟩, fun z => absurd hi z⟩
  · show upd B.labelMany i (nI (t.lab.length - 1)) i = nI (t.lab.erase y).length
    rw [pk_us, List.length_erase_of_mem hy]
  · have hj : j < (t.lab.erase y).length := hj
    show g (4 * i + j) = (t.lab.erase y).getD j 0
    rw [m_left_all hnd] at hg
    exact hg j hj
end MODT
theorem x_cch_mono (γ : Nat → Option gT) (d o : Int32) {i j : Nat} (h : i ≤ j) : x_cch γ d o i ≤ x_cch γ d o j := by
  induction h with
  | refl => exact Nat.le_refl _
  | step _ ih => exact Nat.le_trans ih (by rw [x_cch]; exact Nat.le_add_right _ _)
theorem x_kth_none {γ : Nat → Option gT} {d o k : Int32} (h : ∀ j, j < 96 → x_inch γ j d o = 0) : x_kth γ d o k (-1) := Or.inr ⟨rfl, fun j hj q => absurd (h j hj) q⟩
/-- with no node there is no link -/
theorem x_inch_none {σ : gS} (hW : gW σ) {n o : Int32} (hf : x_find σ.now 4 n = none) : ∀ j, j < 96 → x_inch σ.now j n o = 0 := fun j hj => by
  unfold x_inch
  cases hg : σ.now (64 + j) with
  | none => rfl
  | some t =>
    dsimp only
    obtain ⟨a, b, ha, hb, e1, e2, n1, n2⟩ := hW.1.1.2 (64 + j) (by omega) (by omega) t hg
    refine if_neg fun z => ?_
    by_cases ho : o = 0
    · rw [if_pos ho, e2] at z
      rw [← z, x_find_4 hb] at hf
      cases hn : σ.now b with
      | none => exact n2 hn
      | some u => rw [hn] at hf; cases hf
    · rw [if_neg ho, e1] at z
      rw [← z, x_find_4 ha] at hf
      cases hn : σ.now a with
      | none => exact n1 hn
      | some u => rw [hn] at hf; cases hf
theorem m_left_step {xs : List Int32} {y : Int32} {k a : Nat} {g : Nat → Int32} (hj : ∀ j, j < (m_left xs y k).length → g (a + j) = (m_left xs y k).getD j 0) (hko : xs.getD k 0 = g (a + k)) (hc : ¬ g (a + k) = y) (hk : k < xs.length) : ∀ j, j < (m_left xs y (k + 1)).length → upd g (a + (m_left xs y k).length) (g (a + k)) (a + j) = (m_left xs y (k + 1)).getD j 0 := fun j hj9 => by
  rw [m_left_s hk, hko, if_neg hc] at hj9 ⊢
  rw [List.length_append, List.length_singleton] at hj9
  rw [List.getD_eq_getElem?_getD]
  by_cases q : j = (m_left xs y k).length
  · subst q
    rw [pk_us, List.getElem?_append_right (Nat.le_refl _), Nat.sub_self]; rfl
  · rw [pk_un (by omega), List.getElem?_append_left (by omega), hj j (by omega), List.getD_eq_getElem?_getD]
