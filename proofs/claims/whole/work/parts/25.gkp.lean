/-! FOR THE PUBLIC CALLS -/
section GKP
variable {ca : Nat → ClassId} {L : Nat → Nat} {w0 w w' : hv_W} {σ σ' : gS} {P P' : cT} {Mu : Nat → Prop}
theorem g_int_nil {a : Nat} {f : Nat → Int32} (hm : ¬ Mu a) (h : w a = some (.inl (ca 0, 0, .inl f))) : g_int ca Mu w a [] := ⟨hm, f, h, fun _ hi => absurd hi (Nat.not_lt_zero _)⟩
theorem g_txt_nil {a : Nat} {f : Nat → Int32} (hm : ¬ Mu a) (h : w a = some (.inl (ca 1, 0, .inl f))) : g_txt ca Mu w a [] := ⟨hm, f, h, fun _ hi => absurd hi (Nat.not_lt_zero _)⟩
theorem g_props_nil {a : Nat} {f : Nat → Option Nat} (hm : ¬ Mu a) (h : w a = some (.inl (ca 4, 0, .inr (.inr (.inr (.inr f)))))) : g_props ca Mu w a [] := ⟨hm, f, h, fun _ hi => absurd hi (Nat.not_lt_zero _)⟩
theorem g_lab_iff {xs : List Int32} {y o : Int32} (ho : o = 0 ∨ o = 1) : (if y ∈ xs then (1 : Int32) else 0) = o ↔ (y ∈ xs ↔ ¬ o = 0) := by
  by_cases h : y ∈ xs
  · rw [if_pos h]
    rcases ho with rfl | rfl
    · simp [h]
    · simp [h]
  · rw [if_neg h]
    rcases ho with rfl | rfl
    · simp [h]
    · simp [h]
theorem x_room_iff {k : Nat} (he : σ.en ≤ 250) (hk : k ≤ 249) : (250 < nI σ.en + lg_wf (nI k)) ↔ ¬ x_room σ k := by
  have e1 : nI σ.en + lg_wf (nI k) = nI (σ.en + x_wf k) := by
    rcases Nat.eq_zero_or_pos k with q | q
    · subst q
      rw [x_wf, if_pos rfl, ← nI_add]; rfl
    · rw [lg_wf_n q (by omega), nI_add, x_wf, if_neg (by omega)]
  have hx : x_wf k ≤ 250 := by unfold x_wf; split <;> omega
  rw [e1]
  have := nI_ltI (a := 250) (b := σ.en + x_wf k) (by decide) (by omega)
  unfold x_room
  constructor
  · intro z; have := this.mp z; omega
  · intro z; exact this.mpr (by omega)
theorem lg_wf_x {k : Nat} (hk : k ≤ 249) : lg_wf (nI k) = nI (x_wf k) := by
  rcases Nat.eq_zero_or_pos k with q | q
  · subst q; rfl
  · rw [lg_wf_n q (by omega), x_wf, if_neg (by omega)]
theorem x_cnt_le (γ : Nat → Option gT) (lo : Nat) : ∀ i, x_cnt γ lo i ≤ i
  | 0 => Nat.le_refl 0
  | i + 1 => by
    have := x_cnt_le γ lo i
    unfold x_cnt
    split <;> omega
theorem t_good_n {y : Int64} {n : Int32} {N len : Nat} (e : n = nI N) (h : t_good y n len) : n.toNatClampNeg = N ∨ True := Or.inr trivial
theorem t_good_cl {y : Int64} {n : Int32} {len : Nat} (h : t_good y n len) : n.toNatClampNeg ≤ 8 ∧ n = nI n.toNatClampNeg := by
  obtain ⟨N, rfl, h1, h2, -⟩ := h
  rw [nI_clamp (by omega)]
  exact ⟨h2, rfl⟩
end GKP
theorem t_clamp {y : Int64} {n : Int32} {N len : Nat} (e : n = nI N) (h : t_good y n len) (hN : N < 2 ^ 31 := by assumption) : n.toNatClampNeg = N := by rw [e, nI_clamp hN]
theorem s_close_ec {σ : gS} (h : σ.ec + σ.sc ≤ 249) : (s_close σ).ec ≤ 249 := by
  unfold s_close s_start
  split <;> split <;> (show _ ≤ 249) <;> first | (show σ.ec ≤ 249; omega) | (show σ.ec + σ.sc ≤ 249; omega)
theorem s_close_en {σ : gS} : (s_close σ).en = σ.en := by
  unfold s_close s_start
  split <;> split <;> rfl
theorem s_close_due {σ : gS} : (s_close σ).due = σ.due := by
  unfold s_close s_start
  split <;> split <;> rfl
/-- the keeper's tables without those of the statement's start -/
def cRx (ca : Nat → ClassId) (L : Nat → Nat) (σ : gS) (P : cT) (w : hv_W) : Prop := cR ca L (σ.sOff 1) P w
theorem cRx.up {ca : Nat → ClassId} {L : Nat → Nat} {σ : gS} {P : cT} {w : hv_W} (h : cRx ca L σ P w) (k : Nat) (hk : k < 15) {e : va_E} : cRx ca L σ P (va_up w (L k) (some e)) := cR.up h k hk
