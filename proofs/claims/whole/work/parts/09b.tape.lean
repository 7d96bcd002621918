/-! THE TAPE -/
def t_byte (word : Int64) (i : Nat) : Int32 := ((word.toUInt64 >>> ((nI (8 * i)).toInt64.toUInt64 &&& Int64.toUInt64 63)).toInt64).toInt32 &&& 255
def t_acc (word : Int64) (N k : Nat) : List Int32 := (List.range k).map (fun i => t_byte word (N - 1 - i))
theorem t_acc_len (word : Int64) (N k : Nat) : (t_acc word N k).length = k := by rw [t_acc, List.length_map, List.length_range]
theorem t_acc_s (word : Int64) (N k : Nat) : t_acc word N (k + 1) = t_acc word N k ++ [t_byte word (N - 1 - k)] := by
  rw [t_acc, List.range_succ, List.map_append]
  rfl
def t_good (word : Int64) (n : Int32) (len : Nat) : Prop := ∃ N, n = nI N ∧ 1 ≤ N ∧ N ≤ 8 ∧ len + N ≤ 24 ∧ ∀ i, i < N → 32 ≤ t_byte word i ∧ t_byte word i ≤ 126
theorem t_nar {x : Int32} (h1 : 32 ≤ x) (h2 : x ≤ 126) : vp_nar .byte x.toInt8.toInt32 = x := by
  obtain ⟨j, hj, rfl⟩ := nI_of2 (M := 126) (n := 126) (by decide) (fun q => absurd (Int32.lt_of_le_of_lt h1 q) (by decide)) h2
  have key : ∀ j, j < 127 → vp_nar .byte (nI j).toInt8.toInt32 = nI j := by decide +kernel
  exact key j (by omega)
theorem t_nar2 {x : Int32} (h1 : 32 ≤ x) (h2 : x ≤ 126) : vp_nar .byte x = x := by
  obtain ⟨j, hj, rfl⟩ := nI_of2 (M := 126) (n := 126) (by decide) (fun q => absurd (Int32.lt_of_le_of_lt h1 q) (by decide)) h2
  have key : ∀ j, j < 127 → vp_nar .byte (nI j) = nI j := by decide +kernel
  exact key j (by omega)
theorem gk_m1 {j : Nat} (hj : j < 2 ^ 31) (h : nI j - 1 < 0) : j = 0 := by
  cases j with
  | zero => rfl
  | succ j => rw [nI_pred] at h; exact absurd h (nI_pos (by omega))
theorem t_len_le {n : Int32} {len : Nat} (hlen : len ≤ 24) {N : Nat} (e : n = nI N) (hN : N ≤ 8) : nI len + n ≤ 24 ↔ len + N ≤ 24 := by
  subst e
  rw [nI_add]
  exact nI_leI (by omega) (b := 24) (by decide)
theorem t_bad1 {word : Int64} {n : Int32} {len : Nat} (h : n < 1) : ¬ t_good word n len := by
  rintro ⟨N, rfl, h1, h2, -⟩
  exact absurd h (nI_nlt (b := 1) h1 (by omega))
theorem t_bad2 {word : Int64} {n : Int32} {len : Nat} (h : 8 < n) : ¬ t_good word n len := by
  rintro ⟨N, rfl, h1, h2, -⟩
  exact absurd h (nI_nlt (a := 8) h2 (by decide))
theorem t_of {n : Int32} (h1 : ¬ n < 1) (h2 : ¬ 8 < n) : ∃ N, 1 ≤ N ∧ N ≤ 8 ∧ n = nI N := by
  obtain ⟨j, hj, rfl⟩ := nI_of2 (x := n) (M := 8) (n := 8) (by decide) (fun q => h1 (Int32.lt_trans q (by decide))) (Int32.not_lt.mp h2)
  refine ⟨j, ?_, hj, rfl⟩
  rcases Nat.eq_zero_or_pos j with q | q
  · subst q; exact absurd (by decide) h1
  · exact q
theorem t_nI_inj {word : Int64} {N : Nat} {len : Nat} (hN : N ≤ 8) (h : t_good word (nI N) len) : 1 ≤ N ∧ len + N ≤ 24 ∧ ∀ i, i < N → 32 ≤ t_byte word i ∧ t_byte word i ≤ 126 := by
  obtain ⟨M, e, h1, h2, h3, h4⟩ := h
  have := (nI_eq (a := N) (b := M) (by omega) (by omega)).mp e
  subst this
  exact ⟨h1, h3, h4⟩
theorem g_getD_app {xs ys : List Int32} {f : Nat → Int32} {v : Int32} {n : Nat} (hn : n = (xs ++ ys).length) (h : ∀ i, i < n → f i = (xs ++ ys).getD i 0) : ∀ i, i < n + 1 → upd f n v i = (xs ++ (ys ++ [v])).getD i 0 := fun i hi => by
  subst hn
  rw [← List.append_assoc, List.getD_eq_getElem?_getD]
  by_cases hji : i = (xs ++ ys).length
  · subst hji
    rw [pk_us, List.getElem?_append_right (Nat.le_refl _), Nat.sub_self]
    rfl
  · have hlt : i < (xs ++ ys).length := by omega
    rw [pk_un hji, List.getElem?_append_left hlt, h i hlt, List.getD_eq_getElem?_getD]
theorem g_getD_mem {xs : List Int32} {i : Nat} (h : i < xs.length) : xs.getD i 0 ∈ xs := by
  rw [List.getD_eq_getElem?_getD, List.getElem?_eq_getElem h]
  exact List.getElem_mem h
