/-! NUMBERS AND SMALL FUNCTIONS -/
theorem gk_in {n : Int32} {N : Nat} (h0 : ¬ n < 0) (h1 : ¬ nI N ≤ n) (hN : N < 2 ^ 31) : vp_in n N := by
  rw [vp_in_iff]
  rw [Int32.lt_iff_toInt_lt, Int32.toInt_zero] at h0
  rw [Int32.le_iff_toInt_le, nI_toInt hN] at h1
  omega
theorem gk_ge {N i : Nat} (h : nI N ≤ nI i) (hN : N < 2 ^ 31) (hi : i < 2 ^ 31) : N ≤ i := (nI_leI hN hi).mp h
theorem gk_lt {N i : Nat} (h : ¬ nI N ≤ nI i) (hN : N < 2 ^ 31) (hi : i < 2 ^ 31) : i < N := Nat.not_le.mp fun q => h ((nI_leI hN hi).mpr q)
/-- what a table has at an int: nothing outside of its range -/
def gk_sel (f : Nat → Option Nat) (N : Nat) (n : Int32) : Option Nat := if n < 0 ∨ nI N ≤ n then none else f n.toNatClampNeg
theorem gk_sel_lo {f : Nat → Option Nat} {N : Nat} {n : Int32} (h : n < 0) : gk_sel f N n = none := if_pos (Or.inl h)
theorem gk_sel_hi {f : Nat → Option Nat} {N : Nat} {n : Int32} (h : nI N ≤ n) : gk_sel f N n = none := if_pos (Or.inr h)
theorem gk_sel_in {f : Nat → Option Nat} {N : Nat} {n : Int32} (h0 : ¬ n < 0) (h1 : ¬ nI N ≤ n) : gk_sel f N n = f n.toNatClampNeg := if_neg fun q => q.elim h0 h1
theorem gk_sel_nI {f : Nat → Option Nat} {N i : Nat} (h : i < N) (hN : N < 2 ^ 31) : gk_sel f N (nI i) = f i := by
  rw [gk_sel_in (nI_pos (by omega)) (nI_ge h hN), nI_clamp (by omega)]
/-- how many of the first i are there -/
def gk_cnt (f : Nat → Option Nat) : Nat → Nat
  | 0 => 0
  | i + 1 => gk_cnt f i + (if f i = none then 0 else 1)
theorem gk_cnt_le (f : Nat → Option Nat) : ∀ i, gk_cnt f i ≤ i
  | 0 => Nat.le_refl 0
  | i + 1 => by
    have := gk_cnt_le f i
    unfold gk_cnt
    split <;> omega
theorem gk_cnt_n {f : Nat → Option Nat} {i : Nat} (h : f i = none) : nI (gk_cnt f i) + 0 = nI (gk_cnt f (i + 1)) := by
  rw [gk_cnt, if_pos h, Nat.add_zero]
  exact Int32.add_zero _
theorem gk_cnt_s {f : Nat → Option Nat} {i a : Nat} (h : f i = some a) : nI (gk_cnt f i) + 1 = nI (gk_cnt f (i + 1)) := by
  rw [gk_cnt, if_neg (by rw [h]; exact fun q => nomatch q), nI_1]
/-- one cell is new, the others are as they were -/
def hv_U (a : Nat) (e : va_E) (w w' : hv_W) : Prop := w' a = some e ∧ ∀ b, b ≠ a → w' b = w b
theorem hv_U.k {a b : Nat} {e f : va_E} {w w' : hv_W} (h : hv_U a e w w') (hb : w b = some f) (hn : b ≠ a) : w' b = some f := (h.2 b hn).trans hb
theorem gk_sel_some {f : Nat → Option Nat} {N : Nat} {n : Int32} {a : Nat} (h : gk_sel f N n = some a) (hN : N < 2 ^ 31) : ∃ i, i < N ∧ n = nI i ∧ f i = some a := by
  unfold gk_sel at h
  split at h
  · cases h
  · rename_i hc
    obtain ⟨i, hi, e⟩ := vp_in_of (gk_in (fun q => hc (Or.inl q)) (fun q => hc (Or.inr q)) hN) hN
    subst e
    rw [nI_clamp (by omega)] at h
    exact ⟨i, hi, rfl, h⟩
def gk_thing (fN fL : Nat → Option Nat) (k n : Int32) : Option Nat := if k = 4 then gk_sel fN 64 n else if k = 5 then gk_sel fL 96 n else none
def gk_inch (fL : Nat → Option Nat) (lk : Nat → Nat × Int32 × Int32 × Int32) (n d o : Int32) : Int32 := match gk_sel fL 96 n with
  | none => 0
  | some a => if (if o = 0 then (lk a).2.2.1 else (lk a).2.1) = d then 1 else 0
/-- how many of the first i are in the chain -/
def gk_cch (fL : Nat → Option Nat) (lk : Nat → Nat × Int32 × Int32 × Int32) (d o : Int32) : Nat → Nat
  | 0 => 0
  | i + 1 => gk_cch fL lk d o i + (if gk_inch fL lk (nI i) d o = 0 then 0 else 1)
theorem gk_cch_le (fL : Nat → Option Nat) (lk : Nat → Nat × Int32 × Int32 × Int32) (d o : Int32) : ∀ i, gk_cch fL lk d o i ≤ i
  | 0 => Nat.le_refl 0
  | i + 1 => by
    have := gk_cch_le fL lk d o i
    unfold gk_cch
    split <;> omega
theorem gk_cch_n {fL : Nat → Option Nat} {lk : Nat → Nat × Int32 × Int32 × Int32} {d o : Int32} {i : Nat} (h : gk_inch fL lk (nI i) d o = 0) : nI (gk_cch fL lk d o i) + 0 = nI (gk_cch fL lk d o (i + 1)) := by
  rw [gk_cch, if_pos h, Nat.add_zero]
  exact Int32.add_zero _
theorem gk_cch_s {fL : Nat → Option Nat} {lk : Nat → Nat × Int32 × Int32 × Int32} {d o : Int32} {i : Nat} (h : ¬ gk_inch fL lk (nI i) d o = 0) : nI (gk_cch fL lk d o i) + 1 = nI (gk_cch fL lk d o (i + 1)) := by
  rw [gk_cch, if_neg h, nI_1]
/-! the log's numbers -/
def lg_wf (n : Int32) : Int32 := if n = 0 then 0 else n + 1
def lg_wn (t n : Int32) : Int32 := if t ≤ 0 then n else if n < t then n else t - 1
def lg_wt (t n : Int32) : Int32 := if t ≤ 0 then (if 0 < t - n then t - n else 0) else if n < t then (if 0 < t - n then t - n else 0) else 0
theorem lg_wn_a {t n : Int32} (h : t ≤ 0) : lg_wn t n = n := if_pos h
theorem lg_wn_b {t n : Int32} (h : ¬ t ≤ 0) (h2 : n < t) : lg_wn t n = n := by rw [lg_wn, if_neg h, if_pos h2]
theorem lg_wn_c {t n : Int32} (h : ¬ t ≤ 0) (h2 : ¬ n < t) : lg_wn t n = t - 1 := by rw [lg_wn, if_neg h, if_neg h2]
theorem lg_wt_a {t n : Int32} (h : t ≤ 0) : lg_wt t n = if 0 < t - n then t - n else 0 := if_pos h
theorem lg_wt_b {t n : Int32} (h : ¬ t ≤ 0) (h2 : n < t) : lg_wt t n = if 0 < t - n then t - n else 0 := by rw [lg_wt, if_neg h, if_pos h2]
theorem lg_wt_c {t n : Int32} (h : ¬ t ≤ 0) (h2 : ¬ n < t) : lg_wt t n = 0 := by rw [lg_wt, if_neg h, if_neg h2]
theorem gk_cch_n0 {fL : Nat → Option Nat} {lk : Nat → Nat × Int32 × Int32 × Int32} {d o : Int32} {i : Nat} (h : gk_inch fL lk (nI i) d o = 0) : nI (gk_cch fL lk d o i) = nI (gk_cch fL lk d o (i + 1)) := by
  rw [gk_cch, if_pos h, Nat.add_zero]
/-- the k-th of a chain, or none -/
def gk_kth (fL : Nat → Option Nat) (lk : Nat → Nat × Int32 × Int32 × Int32) (d o k r : Int32) : Prop :=
  (∃ i, i < 96 ∧ r = nI i ∧ ¬ gk_inch fL lk (nI i) d o = 0 ∧ k = nI (gk_cch fL lk d o i) ∧ ∀ j, j < i → ¬ gk_inch fL lk (nI j) d o = 0 → ¬ nI (gk_cch fL lk d o j) = k) ∨
  (r = -1 ∧ ∀ j, j < 96 → ¬ gk_inch fL lk (nI j) d o = 0 → ¬ nI (gk_cch fL lk d o j) = k)
theorem gk_kth_n {fL : Nat → Option Nat} {lk : Nat → Nat × Int32 × Int32 × Int32} {d o k : Int32} {i : Nat} (hj : ∀ j, j < i → ¬ gk_inch fL lk (nI j) d o = 0 → ¬ nI (gk_cch fL lk d o j) = k) (h : gk_inch fL lk (nI i) d o = 0) : ∀ j, j < i + 1 → ¬ gk_inch fL lk (nI j) d o = 0 → ¬ nI (gk_cch fL lk d o j) = k := fun j hji hn => by
  rcases Nat.lt_succ_iff_lt_or_eq.mp hji with q | q
  · exact hj j q hn
  · subst q; exact absurd h hn
theorem gk_kth_s {fL : Nat → Option Nat} {lk : Nat → Nat × Int32 × Int32 × Int32} {d o k : Int32} {i : Nat} (hj : ∀ j, j < i → ¬ gk_inch fL lk (nI j) d o = 0 → ¬ nI (gk_cch fL lk d o j) = k) (_h : ¬ gk_inch fL lk (nI i) d o = 0) (h2 : ¬ nI (gk_cch fL lk d o i) = k) : ∀ j, j < i + 1 → ¬ gk_inch fL lk (nI j) d o = 0 → ¬ nI (gk_cch fL lk d o j) = k := fun j hji hn => by
  rcases Nat.lt_succ_iff_lt_or_eq.mp hji with q | q
  · exact hj j q hn
  · subst q; exact h2
/-- i is the first place of x among the first n of f, or n -/
def gk_fst (f : Nat → Int32) (n : Nat) (x : Int32) (i : Nat) : Prop := i ≤ n ∧ (∀ j, j < i → ¬ f j = x) ∧ (i < n → f i = x)
