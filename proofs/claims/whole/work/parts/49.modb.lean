/-! LETTERS IN WORDS OF EIGHT -/
theorem m_255 (j : Nat) : (255 : Int64).toBitVec.getLsbD j = decide (j < 8) := by
  by_cases h : j < 64
  · have key : ∀ j, j < 64 → (255 : Int64).toBitVec.getLsbD j = decide (j < 8) := by decide
    exact key j h
  · rw [BitVec.getLsbD_of_ge _ _ (by omega)]
    exact (decide_eq_false (by omega)).symm
theorem m_255' (j : Nat) : (255 : Int32).toBitVec.getLsbD j = decide (j < 8) := by
  by_cases h : j < 32
  · have key : ∀ j, j < 32 → (255 : Int32).toBitVec.getLsbD j = decide (j < 8) := by decide
    exact key j h
  · rw [BitVec.getLsbD_of_ge _ _ (by omega)]
    exact (decide_eq_false (by omega)).symm
theorem m_sft {k : Nat} (hk : k < 8) : (((nI (8 * k)).toInt64 &&& 63 : Int64).toBitVec.smod 64).toNat = 8 * k := by
  have key : ∀ k, k < 8 → (((nI (8 * k)).toInt64 &&& 63 : Int64).toBitVec.smod 64).toNat = 8 * k := by decide
  exact key k hk
theorem m_sft2 {k : Nat} (hk : k < 8) : (((nI (8 * k)).toInt64.toUInt64 &&& Int64.toUInt64 63).toBitVec % 64).toNat = 8 * k := by
  have key : ∀ k, k < 8 → (((nI (8 * k)).toInt64.toUInt64 &&& Int64.toUInt64 63).toBitVec % 64).toNat = 8 * k := by decide
  exact key k hk
theorem m_b_bit (x : Int64) {k : Nat} (hk : k < 8) (j : Nat) : (m_b x k).toBitVec.getLsbD j = (decide (j < 8) && x.toBitVec.getLsbD (8 * k + j)) := by
  unfold m_b
  rw [Int64.toBitVec_and, BitVec.getLsbD_and, m_255, Int64.toBitVec_shiftRight, BitVec.sshiftRight_eq', m_sft hk, BitVec.getLsbD_sshiftRight]
  by_cases h : j < 8
  · rw [if_pos (by omega), decide_eq_true h, Bool.and_true, Bool.true_and, decide_eq_false (show ¬ 64 ≤ j by omega)]
    rfl
  · rw [decide_eq_false h, Bool.and_false, Bool.false_and]
theorem m_shl_bit (x : Int64) {k : Nat} (hk : k < 8) (j : Nat) : (x <<< ((nI (8 * k)).toInt64 &&& 63)).toBitVec.getLsbD j = (decide (j < 64) && !decide (j < 8 * k) && x.toBitVec.getLsbD (j - 8 * k)) := by
  rw [Int64.toBitVec_shiftLeft, BitVec.shiftLeft_eq', m_sft hk, BitVec.getLsbD_shiftLeft]
theorem m_eq_bits {x y : Int64} (h : ∀ j, j < 64 → x.toBitVec.getLsbD j = y.toBitVec.getLsbD j) : x = y := Int64.toBitVec_inj.mp (BitVec.eq_of_getLsbD_eq h)
theorem m_or_self {v y : Int64} {a k : Nat} (ha : a < 8) (hk : k < 8) (h0 : m_b v a = 0) : m_b (v ||| (m_b y k <<< ((nI (8 * a)).toInt64 &&& 63))) a = m_b y k := m_eq_bits fun j _ => by
  have hz := m_b_bit v ha j
  rw [h0] at hz
  have hz : (decide (j < 8) && v.toBitVec.getLsbD (8 * a + j)) = false := by rw [← hz]; exact BitVec.getLsbD_zero
  rw [m_b_bit _ ha, Int64.toBitVec_or, BitVec.getLsbD_or, m_shl_bit _ ha, Bool.and_or_distrib_left, hz, Bool.false_or, show 8 * a + j - 8 * a = j by omega, decide_eq_false (show ¬ 8 * a + j < 8 * a by omega), m_b_bit y hk]
  by_cases h : j < 8
  · rw [decide_eq_true h, decide_eq_true (show 8 * a + j < 64 by omega)]; simp
  · rw [decide_eq_false h]; simp
theorem m_or_other {v y : Int64} {a i k : Nat} (ha : a < 8) (hi : i < 8) (hk : k < 8) (hn : i ≠ a) : m_b (v ||| (m_b y k <<< ((nI (8 * a)).toInt64 &&& 63))) i = m_b v i := m_eq_bits fun j _ => by
  rw [m_b_bit _ hi, Int64.toBitVec_or, BitVec.getLsbD_or, m_shl_bit _ ha, m_b_bit v hi, m_b_bit y hk]
  by_cases h : j < 8
  · by_cases h2 : i < a
    · rw [decide_eq_true (show 8 * i + j < 8 * a by omega)]; simp
    · rw [decide_eq_false (show ¬ 8 * i + j - 8 * a < 8 by omega)]; simp
  · rw [decide_eq_false h]; simp
theorem m_b_zero (k : Nat) (hk : k < 8) : m_b 0 k = 0 := m_eq_bits fun j _ => by
  rw [m_b_bit _ hk]
  have : (0 : Int64).toBitVec.getLsbD (8 * k + j) = false := BitVec.getLsbD_zero
  rw [this, Bool.and_false]
  exact BitVec.getLsbD_zero.symm
theorem m_t_byte (x : Int64) {k : Nat} (hk : k < 8) : m_b x k = (t_byte x k).toInt64 := m_eq_bits fun j hj => by
  have hbit : ∀ j, j < 32 → (t_byte x k).toBitVec.getLsbD j = (decide (j < 8) && x.toBitVec.getLsbD (8 * k + j)) := fun j hj => by
    unfold t_byte
    rw [Int32.toBitVec_and, BitVec.getLsbD_and, m_255', Int64.toBitVec_toInt32, BitVec.getLsbD_signExtend, decide_eq_true hj, if_pos (by omega), UInt64.toBitVec_toInt64, UInt64.toBitVec_shiftRight, Int64.toBitVec_toUInt64, BitVec.ushiftRight_eq', m_sft2 hk, BitVec.getLsbD_ushiftRight, Bool.true_and, Bool.and_comm]
  have hmsb : (t_byte x k).toBitVec.msb = false := by
    rw [BitVec.msb_eq_getLsbD_last]
    exact (hbit 31 (by decide)).trans (by rw [decide_eq_false (by decide), Bool.false_and])
  rw [m_b_bit x hk, Int32.toBitVec_toInt64, BitVec.getLsbD_signExtend, hmsb, decide_eq_true hj, Bool.true_and]
  by_cases h : j < 32
  · rw [if_pos h, hbit j h]
  · rw [if_neg h, decide_eq_false (by omega), Bool.false_and]
theorem m_t_lo {x : Int64} {k : Nat} (hk : k < 8) : lg_cmp (m_b x k) 31 ≤ 0 ↔ ¬ 32 ≤ t_byte x k := by
  rw [lg_cmp_le, m_t_byte x hk, Int64.le_iff_toInt_le, Int32.toInt_toInt64, Int32.le_iff_toInt_le]
  have h1 : (31 : Int64).toInt = 31 := rfl
  have h2 : (32 : Int32).toInt = 32 := rfl
  rw [h1, h2]; omega
theorem m_t_hi {x : Int64} {k : Nat} (hk : k < 8) : 0 ≤ lg_cmp (m_b x k) 127 ↔ ¬ t_byte x k ≤ 126 := by
  rw [lg_cmp_ge, m_t_byte x hk, Int64.le_iff_toInt_le, Int32.toInt_toInt64, Int32.le_iff_toInt_le]
  have h1 : (127 : Int64).toInt = 127 := rfl
  have h2 : (126 : Int32).toInt = 126 := rfl
  rw [h1, h2]; omega
theorem mTp_step {f u : Nat → Int64} {xs : List Int32} {y v : Int64} {k n : Nat} (h : mTp f xs) (hk : k < 8) (hn : n = xs.length) (hv : v = if n % 8 = 0 then 0 else f (n / 8)) (hs : u (n / 8) = v ||| (m_b y k <<< ((nI (8 * (n % 8))).toInt64 &&& 63))) (ho : ∀ i, i ≠ n / 8 → u i = f i) : mTp u (xs ++ [t_byte y k]) := by
  subst hn
  obtain ⟨h1, h2⟩ := h
  have ha : xs.length % 8 < 8 := Nat.mod_lt _ (by decide)
  constructor
  · intro i hi
    rw [List.length_append, List.length_singleton] at hi
    rw [List.getD_eq_getElem?_getD]
    by_cases e : i = xs.length
    · subst e
      have hz : m_b v (xs.length % 8) = 0 := by
        by_cases z : xs.length % 8 = 0
        · rw [hv, if_pos z]; exact m_b_zero _ ha
        · rw [hv, if_neg z]; exact h2 _ (Nat.le_refl _) rfl z
      rw [hs, m_or_self ha hk hz, List.getElem?_append_right (Nat.le_refl _), Nat.sub_self, m_t_byte y hk]; rfl
    · have hlt : i < xs.length := by omega
      rw [List.getElem?_append_left hlt, ← List.getD_eq_getElem?_getD, ← h1 i hlt]
      by_cases q : i / 8 = xs.length / 8
      · have z : ¬ xs.length % 8 = 0 := by omega
        rw [q, hs, m_or_other ha (Nat.mod_lt _ (by decide)) hk (by omega), hv, if_neg z]
      · rw [ho _ q]
  · intro i hi hq hz
    rw [List.length_append, List.length_singleton] at hi hq hz
    have q : i / 8 = xs.length / 8 := by omega
    rw [q, hs, m_or_other ha (Nat.mod_lt _ (by decide)) hk (by omega), hv]
    by_cases z : xs.length % 8 = 0
    · rw [if_pos z]; exact m_b_zero _ (Nat.mod_lt _ (by decide))
    · rw [if_neg z, ← q]; exact h2 i (by omega) q z
theorem mRel.tape1 {A : mA} {B : mB} {σ : gS} (h : mRel A B σ) {f : Nat → Int64} {n : Nat} {xs : List Int32} (hl : n = xs.length) (ht : mTp f xs) : mRel ((A.sTape f).sTapeSize n) B (σ.sTape xs) := ⟨h.1, h.2.1, h.2.2.1, h.2.2.2.1, hl, ht⟩
theorem t_le0 {n : Int32} (h : n ≤ 0) : n < 1 := Int32.lt_of_le_of_lt h (by decide)
theorem t_9 {n : Int32} (h : 9 ≤ n) : 8 < n := Int32.lt_of_lt_of_le (by decide) h
theorem t_of2 {n : Int32} (h1 : ¬ n ≤ 0) (h2 : ¬ 9 ≤ n) : ∃ N, 1 ≤ N ∧ N ≤ 8 ∧ n = nI N := by
  refine t_of (fun z => h1 ?_) (fun z => h2 ?_)
  · rw [Int32.lt_iff_toInt_lt] at z
    rw [Int32.le_iff_toInt_le]
    have e1 : (1 : Int32).toInt = 1 := rfl
    have e0 : (0 : Int32).toInt = 0 := rfl
    omega
  · rw [Int32.lt_iff_toInt_lt] at z
    rw [Int32.le_iff_toInt_le]
    have e1 : (8 : Int32).toInt = 8 := rfl
    have e0 : (9 : Int32).toInt = 9 := rfl
    omega
theorem t_dn {N r : Nat} (h : r + 1 ≤ N) : nI (N - r) - 1 = nI (N - r - 1) := gk_nsub (b := 1) (by omega)
theorem t_dn2 {N r : Nat} : nI (N - r - 1) + (-1) = nI (N - (r + 1)) - 1 := by
  rw [Nat.sub_sub]
  exact (Int32.sub_eq_add_neg _ _).symm
