/-! LOG NUMBERS, CHAINS -/
theorem lg_wf_n {k : Nat} (h0 : 0 < k) (hk : k < 2 ^ 31) : lg_wf (nI k) = nI (k + 1) := by rw [lg_wf, if_neg (nI_ne0 h0 hk), nI_1]
theorem lg_wn_cut {σ : gS} {W : Nat} (h : s_cut σ W) (hd : σ.due ≤ 2000) (hW : W < 2 ^ 31) : lg_wn (nI σ.due) (nI W) = nI (σ.due - 1) := by
  rw [lg_wn_c (nI_nle h.1 (by omega)) (nI_nlt h.2 (by omega))]
  exact gk_nsub (b := 1) h.1
theorem lg_wt_cut {σ : gS} {W : Nat} (h : s_cut σ W) (hd : σ.due ≤ 2000) (hW : W < 2 ^ 31) : lg_wt (nI σ.due) (nI W) = 0 := lg_wt_c (nI_nle h.1 (by omega)) (nI_nlt h.2 (by omega))
theorem lg_wn_no {σ : gS} {W : Nat} (h : ¬ s_cut σ W) (hd : σ.due ≤ 2000) (hW : W < 2 ^ 31) : lg_wn (nI σ.due) (nI W) = nI W := by
  rcases Nat.eq_zero_or_pos σ.due with q | q
  · rw [q]; exact lg_wn_a (by decide)
  · exact lg_wn_b (nI_nle q (by omega)) (nI_lt (Nat.not_le.mp fun z => h ⟨q, z⟩) (by omega))
theorem gk_max0 {d W : Nat} (hd : d ≤ 2000) (hW : W < 2 ^ 30) : (if 0 < nI d - nI W then nI d - nI W else 0) = nI (d - W) := by
  rcases Nat.lt_or_ge W d with q | q
  · rw [gk_nsub (by omega), if_pos (by have := nI_lt (a := 0) (b := d - W) (by omega) (by omega); exact this)]
  · have h1 : ¬ 0 < nI d - nI W := by
      have e : (nI d - nI W).toInt = (d : Int) - W := by
        rw [Int32.toInt_sub, nI_toInt (by omega), nI_toInt (by omega), Int.bmod_eq_of_le_mul_two] <;> omega
      intro z
      rw [Int32.lt_iff_toInt_lt, e, Int32.toInt_zero] at z
      omega
    rw [if_neg h1, Nat.sub_eq_zero_of_le q]
    rfl
theorem lg_wt_no {σ : gS} {W : Nat} (h : ¬ s_cut σ W) (hd : σ.due ≤ 2000) (hW : W < 2 ^ 30) : lg_wt (nI σ.due) (nI W) = nI (σ.due - W) := by
  rcases Nat.eq_zero_or_pos σ.due with q | q
  · have h9 := gk_max0 (d := σ.due) hd hW
    rw [← h9]; exact lg_wt_a (by rw [q]; decide)
  · rw [lg_wt_b (nI_nle q (by omega)) (nI_lt (Nat.not_le.mp fun z => h ⟨q, z⟩) (by omega))]
    exact gk_max0 hd hW
theorem lg_cut_iff {σ : gS} {W : Nat} (hd : σ.due ≤ 2000) (hW : W < 2 ^ 30) : lg_wn (nI σ.due) (nI W) < nI W ↔ s_cut σ W := by
  constructor
  · intro q
    rcases s_cut_dec σ W with z | z
    · exact z
    · rw [lg_wn_no z hd (by omega)] at q; exact (Int32.lt_irrefl q).elim
  · intro q
    rw [lg_wn_cut q hd (by omega)]
    exact nI_lt (by have := q.1; have := q.2; omega) (by omega)
/-! the ends of a link, by its cell -/
def g_lkf (w : hv_W) (a : Nat) : Nat × Int32 × Int32 × Int32 := match w a with
  | some (.inr (_, [.ref p, .int s, .int e, .int t])) => (p, s, e, t)
  | _ => (0, 0, 0, 0)
section GKM
variable {ca : Nat → ClassId} {Mu : Nat → Prop} {w : hv_W} {fN fL : Nat → Option Nat} {γ : Nat → Option gT}
theorem g_lkf_of {a p : Nat} {s e t : Int32} (h : w a = some (.inr (6, [.ref p, .int s, .int e, .int t]))) : g_lkf w a = (p, s, e, t) := by unfold g_lkf; rw [h]
theorem g_lkf_ok (h : cG ca Mu w fN fL γ) : ∀ i, i < 96 → ∀ a, fL i = some a → w a = some (.inr (6, [.ref (g_lkf w a).1, .int (g_lkf w a).2.1, .int (g_lkf w a).2.2.1, .int (g_lkf w a).2.2.2])) := fun i hi a ha => by
  rcases cG_L h hi with ⟨h1, -⟩ | ⟨b, t, h1, h2, -, pa, h3, -⟩
  · rw [h1] at ha; cases ha
  · rw [h1] at ha; cases ha
    rw [g_lkf_of h3]; exact h3
theorem g_inch (h : cG ca Mu w fN fL γ) {i : Nat} (hi : i < 96) (d o : Int32) : gk_inch fL (g_lkf w) (nI i) d o = nI (x_inch γ i d o) := by
  unfold gk_inch x_inch
  rw [gk_sel_nI hi (by decide)]
  rcases cG_L h hi with ⟨h1, h2⟩ | ⟨b, t, h1, h2, -, pa, h3, -⟩
  · rw [h1, h2]; rfl
  · rw [h1, h2]
    show (if (if o = 0 then (g_lkf w b).2.2.1 else (g_lkf w b).2.1) = d then (1 : Int32) else 0) = _
    rw [g_lkf_of h3]
    show (if (if o = 0 then t.en else t.st) = d then (1 : Int32) else 0) = nI (if (if o = 0 then t.en else t.st) = d then 1 else 0)
    split <;> split <;> rfl
theorem x_inch_01 (γ : Nat → Option gT) (i : Nat) (d o : Int32) : x_inch γ i d o = 0 ∨ x_inch γ i d o = 1 := by
  unfold x_inch
  cases γ (64 + i) with
  | none => exact Or.inl rfl
  | some t =>
    by_cases h : (if o = 0 then t.en else t.st) = d
    · exact Or.inr (if_pos h)
    · exact Or.inl (if_neg h)
theorem x_cch_le (γ : Nat → Option gT) (d o : Int32) : ∀ i, x_cch γ d o i ≤ i
  | 0 => Nat.le_refl 0
  | i + 1 => by
    have := x_cch_le γ d o i
    unfold x_cch
    rcases x_inch_01 γ i d o with q | q <;> rw [q] <;> omega
theorem g_cch (h : cG ca Mu w fN fL γ) (d o : Int32) : ∀ i, i ≤ 96 → gk_cch fL (g_lkf w) d o i = x_cch γ d o i
  | 0, _ => rfl
  | i + 1, hi => by
    rw [gk_cch, x_cch, g_cch h d o i (by omega), g_inch h (by omega) d o]
    rcases x_inch_01 γ i d o with q | q
    · rw [q]; rfl
    · rw [q, if_neg (by decide)]
theorem g_cntN (h : cG ca Mu w fN fL γ) : ∀ i, i ≤ 64 → gk_cnt fN i = x_cnt γ 0 i
  | 0, _ => rfl
  | i + 1, hi => by
    rw [gk_cnt, x_cnt, g_cntN h i (by omega), Nat.zero_add]
    have := cG_nN h (i := i) (by omega)
    by_cases q : fN i = none
    · rw [if_pos q, if_pos (this.mp q)]
    · rw [if_neg q, if_neg (fun z => q (this.mpr z))]
theorem g_cntL (h : cG ca Mu w fN fL γ) : ∀ i, i ≤ 96 → gk_cnt fL i = x_cnt γ 64 i
  | 0, _ => rfl
  | i + 1, hi => by
    rw [gk_cnt, x_cnt, g_cntL h i (by omega)]
    have := cG_nL h (i := i) (by omega)
    by_cases q : fL i = none
    · rw [if_pos q, if_pos (this.mp q)]
    · rw [if_neg q, if_neg (fun z => q (this.mpr z))]
end GKM
theorem g_bn1 : vp_nar .boolean 1 = 1 := by decide +kernel
theorem g_bn0 : vp_nar .boolean 0 = 0 := by decide +kernel
theorem g_mark {f g : Nat → Int32} {i j : Nat} (h : f j = g j) : upd f i 1 j = upd g i 1 j := by
  by_cases q : j = i
  · subst q; rw [pk_us, pk_us]
  · rw [pk_un q, pk_un q, h]
theorem g_mark2 {f g : Nat → Int32} {i j : Nat} (h : f j = g (64 + j)) : upd f i 1 j = upd g (64 + i) 1 (64 + j) := by
  by_cases q : j = i
  · subst q; rw [pk_us, pk_us]
  · rw [pk_un q, pk_un (by omega), h]
theorem cR.off1 {ca : Nat → ClassId} {L : Nat → Nat} {σ : gS} {P : cT} {w : hv_W} (h : cR ca L σ P w) : cR ca L (σ.sOff 1) P w := ⟨h.1, fun z => absurd z (show ¬ (1 : Int32) = 0 by decide), h.2.2⟩
