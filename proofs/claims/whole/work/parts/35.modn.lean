/-! PROPERTIES OF THE REFERENCE -/
def m_same (A : mA) (B : mB) (q : Nat) (kd : Int32) (x : Int64) : Prop := B.kinds q = kd ∧ B.values q = x ∧ (kd = 3 → ∀ k, k < A.tapeSize → m_b (B.texts (3 * q + k / 8)) (k % 8) = m_b (A.tape (k / 8)) (k % 8))
theorem m_sh {α : Type} {g f u : Nat → α} {q k : Nat} (hs : u k = g (k + 1)) (hn : ∀ m, m ≠ k → u m = g m) (hg : ∀ m, g m = if q ≤ m ∧ m < k then f (m + 1) else f m) (hqk : q ≤ k) : ∀ m, u m = if q ≤ m ∧ m < k + 1 then f (m + 1) else f m := fun m => by
  by_cases h : m = k
  · subst h
    rw [hs, hg, if_neg (by omega), if_pos (by omega)]
  · rw [hn m h, hg m]
    by_cases h2 : q ≤ m ∧ m < k
    · rw [if_pos h2, if_pos (by omega)]
    · rw [if_neg h2, if_neg (by omega)]
theorem m_sh3 {α : Type} {g f u : Nat → α} {a k : Nat} (hs : u k = g (k + 3)) (hn : ∀ m, m ≠ k → u m = g m) (hg : ∀ m, g m = if a ≤ m ∧ m < k then f (m + 3) else f m) (hqk : a ≤ k) : ∀ m, u m = if a ≤ m ∧ m < k + 1 then f (m + 3) else f m := fun m => by
  by_cases h : m = k
  · subst h
    rw [hs, hg, if_neg (by omega), if_pos (by omega)]
  · rw [hn m h, hg m]
    by_cases h2 : a ≤ m ∧ m < k
    · rw [if_pos h2, if_pos (by omega)]
    · rw [if_neg h2, if_neg (by omega)]
