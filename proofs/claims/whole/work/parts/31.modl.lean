/-! COPYING, COUNTING -/
theorem m_uLs {f : Nat → Int64} {i : Nat} {v : Int64} : vp_updL f i v i = v := by simp [vp_updL]
theorem m_uLn {f : Nat → Int64} {i j : Nat} {v : Int64} (h : j ≠ i) : vp_updL f i v j = f j := by simp [vp_updL, h]
theorem m_cp {α : Type} {g f u : Nat → α} {b a k n : Nat} (hs : u (b + k) = g (a + k)) (hn : ∀ i, i ≠ b + k → u i = g i) (hk : k < n) (hj : ∀ i, i < k → g (b + i) = f (a + i)) (ho : ∀ i, (i < b ∨ b + n ≤ i) → g i = f i) (hd : a + n ≤ b ∨ b + n ≤ a) : (∀ i, i < k + 1 → u (b + i) = f (a + i)) ∧ ∀ i, (i < b ∨ b + n ≤ i) → u i = f i := by
  refine ⟨fun i hi => ?_, fun i hi => ?_⟩
  · by_cases q : i = k
    · subst q
      rw [hs, ho _ (by omega)]
    · rw [hn _ (by omega)]
      exact hj i (by omega)
  · rw [hn _ (by omega)]
    exact ho i hi
def m_find (B : mB) (k n : Int32) : Int32 := match x_idx k n with
  | none => -1
  | some e => if B.there e = 0 then -1 else nI e
theorem m_idx4 {k n : Int32} (h : k = 4) : x_idx k n = if n < 0 ∨ 64 ≤ n then none else some n.toNatClampNeg := if_pos h
theorem m_idx5 {k n : Int32} (h : k = 5) : x_idx k n = if n < 0 ∨ 96 ≤ n then none else some (64 + n.toNatClampNeg) := by rw [x_idx, if_neg (by rw [h]; decide), if_pos h]
theorem m_idxn {k n : Int32} (h : ¬ k = 4) (h5 : ¬ k = 5) : x_idx k n = none := by rw [x_idx, if_neg h, if_neg h5]
theorem m_idx4n {k : Int32} {i : Nat} (h : k = 4) (hi : i < 64) : x_idx k (nI i) = some i := by
  rw [m_idx4 h, if_neg (fun q => q.elim (nI_pos (by omega)) (nI_ge (b := 64) hi (by decide))), nI_clamp (by omega)]
theorem m_idx5n {k : Int32} {i : Nat} (h : k = 5) (hi : i < 96) : x_idx k (nI i) = some (64 + i) := by
  rw [m_idx5 h, if_neg (fun q => q.elim (nI_pos (by omega)) (nI_ge (b := 96) hi (by decide))), nI_clamp (by omega)]
