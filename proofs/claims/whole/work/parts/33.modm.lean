/-! LOOKING THINGS UP IN THE REFERENCE -/
def m_pos (j : Nat) (ps : List gP) (y : Int32) : Int32 := if g_pos ps y < ps.length then nI (6 * j + g_pos ps y) else -1
theorem g_pos_key {ps : List gP} {y : Int32} (h : g_pos ps y < ps.length) : (ps.map (fun q => q.1)).getD (g_pos ps y) 0 = y := (g_pos_fst ps y).2.2 h
theorem g_pos_at {ps : List gP} {k : Nat} {pr : gP} {y : Int32} (hnd : (ps.map (fun q => q.1)).Nodup) (e : ps[k]? = some pr) : pr.1 = y ↔ g_pos ps y = k := by
  have hk : k < ps.length := (List.getElem?_eq_some_iff.mp e).1
  have hkey := g_fst_key e
  constructor
  · intro h
    rcases Nat.lt_trichotomy (g_pos ps y) k with q | q | q
    · have h1 := g_pos_key (ps := ps) (y := y) (by omega)
      have hl : g_pos ps y < (ps.map (fun q => q.1)).length := by rw [List.length_map]; omega
      have hl2 : k < (ps.map (fun q => q.1)).length := by rw [List.length_map]; omega
      have h1 := h1.trans (hkey.trans h).symm
      rw [List.getD_eq_getElem?_getD, List.getD_eq_getElem?_getD, List.getElem?_eq_getElem hl, List.getElem?_eq_getElem hl2] at h1
      exact (List.getElem_inj hnd).mp h1
    · exact q
    · exact absurd (hkey.trans h) ((g_pos_fst ps y).2.1 k q)
  · intro h
    subst h
    rw [← hkey]
    exact g_pos_key hk
theorem m_pos_step {j k : Nat} {ps : List gP} {y : Int32} (h : ¬ g_pos ps y = k) : (if g_pos ps y < k + 1 then nI (6 * j + g_pos ps y) else (-1 : Int32)) = if g_pos ps y < k then nI (6 * j + g_pos ps y) else -1 := by
  by_cases q : g_pos ps y < k
  · rw [if_pos q, if_pos (by omega)]
  · rw [if_neg q, if_neg (by omega)]
theorem m_take_s {xs : List Int32} {k : Nat} (hk : k < xs.length) (y : Int32) : y ∈ xs.take (k + 1) ↔ y ∈ xs.take k ∨ xs.getD k 0 = y := by
  rw [List.take_succ, List.mem_append, List.getElem?_eq_getElem hk, List.getD_eq_getElem?_getD, List.getElem?_eq_getElem hk]
  simp [eq_comm]
theorem mG0 {B : mB} {γ : Nat → Option gT} (h : mG B 0 γ) {e : Nat} (he : e < 160) : mT B e e (γ e) := by
  have := h e he
  rw [Nat.mul_zero, Nat.zero_add] at this
  exact this
theorem mT_none {B : mB} {j e : Nat} {o : Option gT} (h : mT B j e o) (hz : B.there j = 0) : o = none := by
  cases o with
  | none => rfl
  | some t => rw [h.1] at hz; exact absurd hz (by decide)
theorem mT_some {B : mB} {j e : Nat} {o : Option gT} (h : mT B j e o) (hz : ¬ B.there j = 0) : ∃ t, o = some t ∧ B.there j = 1 ∧ mPs B j t.ps ∧ (e < 64 → mLs B j t.lab) ∧ (¬ e < 64 → B.starts j = t.st ∧ B.ends j = t.en ∧ B.types j = t.ty) := by
  cases o with
  | none => exact absurd h hz
  | some t => exact ⟨t, rfl, h⟩
def m_fr (γ : Nat → Option gT) (gone : Nat → Int32) (lo n : Nat) : Int32 := match x_free γ gone lo n with
  | none => -1
  | some i => nI (lo + i)
def m_fe (ec sc : Nat) (a b c d e : Int32) : Int32 := if ¬ a = 0 then 8 else if ¬ b = 0 then 2 else if ¬ c = 0 then 7 else if ¬ d = 0 then 6 else if ¬ e = 0 ∧ ec + sc = 249 then 9 else 0
def m_find2 (γ : Nat → Option gT) (k n : Int32) : Int32 := match x_find γ k n with
  | none => -1
  | some (i, _) => nI i
theorem m_find_eq {B : mB} {γ : Nat → Option gT} (h : mG B 0 γ) (k n : Int32) : m_find B k n = m_find2 γ k n := by
  unfold m_find m_find2 x_find
  cases hx : x_idx k n with
  | none => rfl
  | some i =>
    dsimp only
    have hi : i < 160 := by
      unfold x_idx at hx
      split at hx
      · split at hx
        · cases hx
        · rename_i hc
          obtain ⟨j, hj, e⟩ := vp_in_of (gk_in (N := 64) (fun q => hc (Or.inl q)) (fun q => hc (Or.inr q)) (by decide)) (by decide)
          subst e
          rw [nI_clamp (by omega)] at hx
          cases hx; omega
      · split at hx
        · split at hx
          · cases hx
          · rename_i hc
            obtain ⟨j, hj, e⟩ := vp_in_of (gk_in (N := 96) (fun q => hc (Or.inl q)) (fun q => hc (Or.inr q)) (by decide)) (by decide)
            subst e
            rw [nI_clamp (by omega)] at hx
            cases hx; omega
        · cases hx
    by_cases hz : B.there i = 0
    · rw [if_pos hz, mT_none (mG0 h hi) hz]; rfl
    · obtain ⟨t, ht, -⟩ := mT_some (mG0 h hi) hz
      rw [if_neg hz, ht]; rfl
