/-! FOR THE REFERENCE'S LOOKING -/
theorem x_nl_lo {wh : Int32} {k : Int32} {γ : Nat → Option gT} {t : gT} {n : Int32} (h : wh < 0) : (if wh = 0 then nI t.ps.length else if k = 4 then x_nf γ t n wh else x_lf t wh) = -1 := by
  have h0 : ¬ wh = 0 := fun z => by rw [z] at h; exact absurd h (by decide)
  have h1 : ¬ wh = 1 := fun z => by rw [z] at h; exact absurd h (by decide)
  have h2 : ¬ wh = 2 := fun z => by rw [z] at h; exact absurd h (by decide)
  have h3 : ¬ wh = 3 := fun z => by rw [z] at h; exact absurd h (by decide)
  rw [if_neg h0, x_nf, x_lf, if_neg h1, if_neg h2, if_neg h3, if_neg h1, if_neg h2, if_neg h3]
  split <;> rfl
theorem x_nl_hi {wh : Int32} {k : Int32} {γ : Nat → Option gT} {t : gT} {n : Int32} (h : ¬ wh ≤ 3) : (if wh = 0 then nI t.ps.length else if k = 4 then x_nf γ t n wh else x_lf t wh) = -1 := by
  have h0 : ¬ wh = 0 := fun z => by rw [z] at h; exact absurd h (by decide)
  have h1 : ¬ wh = 1 := fun z => by rw [z] at h; exact absurd h (by decide)
  have h2 : ¬ wh = 2 := fun z => by rw [z] at h; exact absurd h (by decide)
  have h3 : ¬ wh = 3 := fun z => by rw [z] at h; exact absurd h (by decide)
  rw [if_neg h0, x_nf, x_lf, if_neg h1, if_neg h2, if_neg h3, if_neg h1, if_neg h2, if_neg h3]
  split <;> rfl
theorem x_w3 {wh : Int32} (h0 : ¬ wh < 0) (h1 : wh ≤ 3) (h2 : ¬ wh = 0) (h3 : ¬ wh = 1) (h4 : ¬ wh = 2) : wh = 3 := by
  obtain ⟨j, hj, rfl⟩ := nI_of2 (M := 3) (n := 3) (by decide) h0 h1
  have : j = 0 ∨ j = 1 ∨ j = 2 ∨ j = 3 := by omega
  rcases this with rfl | rfl | rfl | rfl
  · exact absurd rfl h2
  · exact absurd rfl h3
  · exact absurd rfl h4
  · rfl
theorem x_in0 {γ : Nat → Option gT} {j : Nat} {d o : Int32} (h : γ (64 + j) = none) : x_inch γ j d o = 0 := by rw [x_inch, h]
theorem x_in1 {γ : Nat → Option gT} {j : Nat} {d o : Int32} {t : gT} (h : γ (64 + j) = some t) (hn : ¬ (if o = 0 then t.en else t.st) = d) : x_inch γ j d o = 0 := by rw [x_inch, h]; exact if_neg hn
theorem x_in2 {γ : Nat → Option gT} {j : Nat} {d o : Int32} {t : gT} (h : γ (64 + j) = some t) (hn : (if o = 0 then t.en else t.st) = d) : x_inch γ j d o = 1 := by rw [x_inch, h]; exact if_pos hn
theorem nI_neg {m : Nat} {M : Int32} (h : m < 2 ^ 31) (hM : M < 0) : ¬ nI m = M := fun z => by
  rw [← z] at hM
  have h1 := Int32.lt_iff_toInt_lt.mp hM
  rw [nI_toInt h] at h1
  have h2 : (0 : Int32).toInt = 0 := rfl
  rw [h2] at h1
  omega
theorem x_kth_neg {γ : Nat → Option gT} {d o k : Int32} (h : k < 0) : x_kth γ d o k (-1) := Or.inr ⟨rfl, fun j hj _ z => nI_neg (by have := x_cch_le γ d o j; omega) h z⟩
theorem x_kth_end {γ : Nat → Option gT} {d o : Int32} {kk : Nat} (hk : kk < 2 ^ 31) (h : x_cch γ d o 96 ≤ kk) : x_kth γ d o (nI kk) (-1) := Or.inr ⟨rfl, fun j hj hn z => by
  have h1 := x_cch_mono γ d o (show j + 1 ≤ 96 by omega)
  have h2 : x_cch γ d o (j + 1) = x_cch γ d o j + x_inch γ j d o := rfl
  have h3 := (nI_eq (by have := x_cch_le γ d o j; omega) hk).mp z
  omega⟩
theorem nI_of31 {k : Int32} (h : ¬ k < 0) : ∃ j : Nat, j < 2 ^ 31 ∧ k = nI j := by
  obtain ⟨j, hj, e⟩ := nI_of2 (x := k) (M := 2147483647) (n := 2147483647) (by decide) h (by
    rw [Int32.le_iff_toInt_le]
    have := Int32.toInt_lt k
    have h2 : (2147483647 : Int32).toInt = 2147483647 := rfl
    rw [h2]; omega)
  exact ⟨j, by omega, e⟩
def mRv (ca : Nat → ClassId) (K : Nat → Nat) (w0 : hv_W) (σ : gS) (r : Nat × Int64) (v : Option Value) (w : hv_W) : Prop := ∃ x, v = some (.long x) ∧ (r.1 = 0 → x = r.2) ∧ mS ca K w0 (nI r.1) σ w
theorem mRv.of {ca : Nat → ClassId} {K : Nat → Nat} {w0 w : hv_W} {σ : gS} {r r' : Nat × Int64} {x : Int64} {A : mA} {B : mB} (e : r = r') (hx : r'.1 = 0 → x = r'.2) (hM : mK ca K w0 A B w) (hR : mRel A B σ) (ht : A.thrown = nI r'.1) : mRv ca K w0 σ r (some (.long x)) w := by
  subst e
  exact ⟨x, rfl, hx, A, B, hM, hR, ht⟩
theorem x_toI64 (a : Int32) : a.toInt64.toInt = a.toInt := Int32.toInt_toInt64 a
theorem x_vlt {v u : Int64} {wh : Int32} {n : Nat} (h1 : v = u) (h2 : u = (nI n).toInt64) (c : ¬ 0 ≤ lg_cmp wh.toInt64 v) : wh < nI n := by
  subst h1; subst h2
  rw [lg_cmp_ge, Int64.le_iff_toInt_le, x_toI64, x_toI64] at c
  rw [Int32.lt_iff_toInt_lt]
  omega
theorem x_vge {v u : Int64} {wh : Int32} {n : Nat} (h1 : v = u) (h2 : u = (nI n).toInt64) (c : 0 ≤ lg_cmp wh.toInt64 v) : nI n ≤ wh := by
  subst h1; subst h2
  rw [lg_cmp_ge, Int64.le_iff_toInt_le, x_toI64, x_toI64] at c
  rw [Int32.le_iff_toInt_le]
  omega
theorem x_vout {xs : List Int32} {wh : Int32} (h : xs = []) : wh < 0 ∨ nI xs.length ≤ wh := by
  subst h
  rcases Classical.em (wh < 0) with z | z
  · exact Or.inl z
  · exact Or.inr (Int32.not_lt.mp z)
