/-! THE STATE STAYS WELL-FORMED -/
def gX (σ : gS) : Prop := gW σ ∧ (σ.off = 0 → σ.ec = 0 → σ.stm = σ.kept)
theorem gX_mk {a1 : Nat → Option gT} {a2 : Nat → Option gT} {a3 : Nat → Option gT} {a4 : Nat → Int32} {a5 : List Int32} {a6 : Int32} {a7 : Nat} {a8 : Nat} {a9 : Int32} {a10 : Int32} {a11 : Int32} {a12 : Nat} {a13 : Nat} {a14 : Int32} {a15 : Nat} (b1 : w_G a1) (b2 : w_G a2) (b3 : w_G a3) (b4 : a5.length ≤ 24 ∧ ∀ y, y ∈ a5 → 32 ≤ y ∧ y ≤ 126) (b5 : a7 + a8 ≤ 249) (b6 : a12 ≤ 250) (b7 : a13 ≤ 250) (b8 : a15 ≤ 2000) (b9 : a10 = 0 ∨ a10 = 1) (b10 : a9 = 0 ∨ a9 = 1) (b11 : ∀ i, i < 160 → a4 i = 0 ∨ a4 i = 1) (b12 : a10 = 0 → a13 = 0 ∧ (a7 = 0 → a2 = a1) ∧ (a9 = 0 → a2 = a3)) (b13 : a10 = 1 → a7 = 0 ∧ a8 = 0 ∧ a9 = 0 ∧ (∀ i, a1 i = none) ∧ ∀ i, a4 i = 0) (b14 : a9 = 0 → a8 = 0) (b15 : a10 = 0 → a8 = 0 → a2 = a3) : gX (a1, a2, a3, a4, a5, a6, a7, a8, a9, a10, a11, a12, a13, a14, a15) := ⟨⟨⟨b1, b2, b3⟩, b4, ⟨b5, b6, b7, b8⟩, ⟨b9, b10, b11⟩, b12, b13, b14⟩, b15⟩
theorem w_G_none : w_G (fun _ => none) := ⟨fun _ _ _ h => (by cases h), fun _ _ _ _ h => (by cases h)⟩
theorem gX_undo {σ : gS} (h : gX σ) : gX (s_undo σ) := by
  obtain ⟨a1, a2, a3, a4, a5, a6, a7, a8, a9, a10, a11, a12, a13, a14, a15⟩ := σ
  obtain ⟨⟨⟨b1, b2, b3⟩, b4, ⟨b5, b6, b7, b8⟩, ⟨b9, b10, b11⟩, b12, b13, b14⟩, b15⟩ := h
  have b1 : w_G a1 := b1
  have b2 : w_G a2 := b2
  have b3 : w_G a3 := b3
  have b4 : a5.length ≤ 24 ∧ ∀ y, y ∈ a5 → 32 ≤ y ∧ y ≤ 126 := b4
  have b5 : a7 + a8 ≤ 249 := b5
  have b6 : a12 ≤ 250 := b6
  have b7 : a13 ≤ 250 := b7
  have b8 : a15 ≤ 2000 := b8
  have b9 : a10 = 0 ∨ a10 = 1 := b9
  have b10 : a9 = 0 ∨ a9 = 1 := b10
  have b11 : ∀ i, i < 160 → a4 i = 0 ∨ a4 i = 1 := b11
  have b12 : a10 = 0 → a13 = 0 ∧ (a7 = 0 → a2 = a1) ∧ (a9 = 0 → a2 = a3) := b12
  have b13 : a10 = 1 → a7 = 0 ∧ a8 = 0 ∧ a9 = 0 ∧ (∀ i, a1 i = none) ∧ ∀ i, a4 i = 0 := b13
  have b14 : a9 = 0 → a8 = 0 := b14
  have b15 : a10 = 0 → a8 = 0 → a2 = a3 := b15
  by_cases hs : a7 = 0
  · unfold s_undo
    rw [if_pos (show gS.sc (a1, a2, a3, a4, a5, a6, a7, a8, a9, a10, a11, a12, a13, a14, a15) = 0 from hs)]
    show gX (a1, a2, a3, fun _ => 0, a5, a6, 0, a8, a9, a10, a11, a12, a13, a14, a15)
    exact gX_mk (b1) (b2) (b3) (b4) (by omega) (b6) (b7) (b8) (b9) (b10) (fun _ _ => Or.inl rfl) (fun z => ⟨(b12 z).1, fun _ => (b12 z).2.1 hs, (b12 z).2.2⟩) (fun z => ⟨rfl, (b13 z).2.1, (b13 z).2.2.1, (b13 z).2.2.2.1, fun _ => rfl⟩) (b14) (b15)
  · unfold s_undo
    rw [if_neg (show ¬ gS.sc (a1, a2, a3, a4, a5, a6, a7, a8, a9, a10, a11, a12, a13, a14, a15) = 0 from hs)]
    show gX (a2, a2, a3, fun _ => 0, a5, a6, 0, a8, a9, a10, a11, a12, a13, a14, a15)
    exact gX_mk (b2) (b2) (b3) (b4) (by omega) (b6) (b7) (b8) (b9) (b10) (fun _ _ => Or.inl rfl) (fun z => ⟨(b12 z).1, fun _ => rfl, (b12 z).2.2⟩) (fun z => absurd (b13 z).1 hs) (b14) (b15)
theorem gX_close1 {σ : gS} (h : gX σ) (ho : σ.off = 0) (hi : ¬ σ.ins = 0) : gX (s_close σ) := by
  obtain ⟨a1, a2, a3, a4, a5, a6, a7, a8, a9, a10, a11, a12, a13, a14, a15⟩ := σ
  obtain ⟨⟨⟨b1, b2, b3⟩, b4, ⟨b5, b6, b7, b8⟩, ⟨b9, b10, b11⟩, b12, b13, b14⟩, b15⟩ := h
  have b1 : w_G a1 := b1
  have b2 : w_G a2 := b2
  have b3 : w_G a3 := b3
  have b4 : a5.length ≤ 24 ∧ ∀ y, y ∈ a5 → 32 ≤ y ∧ y ≤ 126 := b4
  have b5 : a7 + a8 ≤ 249 := b5
  have b6 : a12 ≤ 250 := b6
  have b7 : a13 ≤ 250 := b7
  have b8 : a15 ≤ 2000 := b8
  have b9 : a10 = 0 ∨ a10 = 1 := b9
  have b10 : a9 = 0 ∨ a9 = 1 := b10
  have b11 : ∀ i, i < 160 → a4 i = 0 ∨ a4 i = 1 := b11
  have b12 : a10 = 0 → a13 = 0 ∧ (a7 = 0 → a2 = a1) ∧ (a9 = 0 → a2 = a3) := b12
  have b13 : a10 = 1 → a7 = 0 ∧ a8 = 0 ∧ a9 = 0 ∧ (∀ i, a1 i = none) ∧ ∀ i, a4 i = 0 := b13
  have b14 : a9 = 0 → a8 = 0 := b14
  have b15 : a10 = 0 → a8 = 0 → a2 = a3 := b15
  have ho : a10 = 0 := ho
  have hi : ¬ a9 = 0 := hi
  by_cases hs : a7 = 0
  · unfold s_close
    rw [if_pos (show gS.sc (a1, a2, a3, a4, a5, a6, a7, a8, a9, a10, a11, a12, a13, a14, a15) = 0 from hs), if_neg (show ¬ gS.ins (a1, a2, a3, a4, a5, a6, a7, a8, a9, a10, a11, a12, a13, a14, a15) = 0 from hi)]
    show gX (a1, a2, a3, fun _ => 0, a5, a6, 0, a8 + a7, a9, a10, a11, a12, a13, a14, a15)
    exact gX_mk (b1) (b2) (b3) (b4) (by omega) (b6) (b7) (b8) (b9) (b10) (fun _ _ => Or.inl rfl) (fun z => ⟨(b12 z).1, fun _ => (b12 z).2.1 hs, (b12 z).2.2⟩) (fun z => absurd (ho.symm.trans z) (by decide)) (fun z => absurd z hi) (fun z q => b15 z (by omega))
  · unfold s_close
    rw [if_neg (show ¬ gS.sc (a1, a2, a3, a4, a5, a6, a7, a8, a9, a10, a11, a12, a13, a14, a15) = 0 from hs), if_neg (show ¬ gS.ins (a1, a2, a3, a4, a5, a6, a7, a8, a9, a10, a11, a12, a13, a14, a15) = 0 from hi)]
    show gX (a1, a1, a3, fun _ => 0, a5, a6, 0, a8 + a7, a9, a10, a11, a12, a13, a14, a15)
    exact gX_mk (b1) (b1) (b3) (b4) (by omega) (b6) (b7) (b8) (b9) (b10) (fun _ _ => Or.inl rfl) (fun z => ⟨(b12 z).1, fun _ => rfl, fun q => absurd q hi⟩) (fun z => absurd (ho.symm.trans z) (by decide)) (fun z => absurd z hi) (fun z q => absurd q (by omega))
theorem gX_close0 {σ : gS} (h : gX σ) (hi : σ.ins = 0) (hs : σ.sc = 0) : gX (s_close σ) := by
  obtain ⟨a1, a2, a3, a4, a5, a6, a7, a8, a9, a10, a11, a12, a13, a14, a15⟩ := σ
  obtain ⟨⟨⟨b1, b2, b3⟩, b4, ⟨b5, b6, b7, b8⟩, ⟨b9, b10, b11⟩, b12, b13, b14⟩, b15⟩ := h
  have b1 : w_G a1 := b1
  have b2 : w_G a2 := b2
  have b3 : w_G a3 := b3
  have b4 : a5.length ≤ 24 ∧ ∀ y, y ∈ a5 → 32 ≤ y ∧ y ≤ 126 := b4
  have b5 : a7 + a8 ≤ 249 := b5
  have b6 : a12 ≤ 250 := b6
  have b7 : a13 ≤ 250 := b7
  have b8 : a15 ≤ 2000 := b8
  have b9 : a10 = 0 ∨ a10 = 1 := b9
  have b10 : a9 = 0 ∨ a9 = 1 := b10
  have b11 : ∀ i, i < 160 → a4 i = 0 ∨ a4 i = 1 := b11
  have b12 : a10 = 0 → a13 = 0 ∧ (a7 = 0 → a2 = a1) ∧ (a9 = 0 → a2 = a3) := b12
  have b13 : a10 = 1 → a7 = 0 ∧ a8 = 0 ∧ a9 = 0 ∧ (∀ i, a1 i = none) ∧ ∀ i, a4 i = 0 := b13
  have b14 : a9 = 0 → a8 = 0 := b14
  have b15 : a10 = 0 → a8 = 0 → a2 = a3 := b15
  have hs : a7 = 0 := hs
  unfold s_close
  rw [if_pos (show gS.sc (a1, a2, a3, a4, a5, a6, a7, a8, a9, a10, a11, a12, a13, a14, a15) = 0 from hs), if_pos (show gS.ins (a1, a2, a3, a4, a5, a6, a7, a8, a9, a10, a11, a12, a13, a14, a15) = 0 from hi)]
  show gX (a1, a2, a3, fun _ => 0, a5, a6, 0, a8, a9, a10, a11, a12, a13, a14, a15)
  exact gX_mk (b1) (b2) (b3) (b4) (by omega) (b6) (b7) (b8) (b9) (b10) (fun _ _ => Or.inl rfl) (fun z => ⟨(b12 z).1, fun _ => (b12 z).2.1 hs, (b12 z).2.2⟩) (fun z => ⟨rfl, (b13 z).2.1, (b13 z).2.2.1, (b13 z).2.2.2.1, fun _ => rfl⟩) (b14) (b15)
theorem gX_closeK {σ : gS} (h : gX σ) (ho : σ.off = 0) (hi : σ.ins = 0) (hs : 0 < σ.sc) (hr : σ.en + (σ.sc + 1) ≤ 250) : gX (s_close (s_keepO σ σ.sc)) := by
  obtain ⟨a1, a2, a3, a4, a5, a6, a7, a8, a9, a10, a11, a12, a13, a14, a15⟩ := σ
  obtain ⟨⟨⟨b1, b2, b3⟩, b4, ⟨b5, b6, b7, b8⟩, ⟨b9, b10, b11⟩, b12, b13, b14⟩, b15⟩ := h
  have b1 : w_G a1 := b1
  have b2 : w_G a2 := b2
  have b3 : w_G a3 := b3
  have b4 : a5.length ≤ 24 ∧ ∀ y, y ∈ a5 → 32 ≤ y ∧ y ≤ 126 := b4
  have b5 : a7 + a8 ≤ 249 := b5
  have b6 : a12 ≤ 250 := b6
  have b7 : a13 ≤ 250 := b7
  have b8 : a15 ≤ 2000 := b8
  have b9 : a10 = 0 ∨ a10 = 1 := b9
  have b10 : a9 = 0 ∨ a9 = 1 := b10
  have b11 : ∀ i, i < 160 → a4 i = 0 ∨ a4 i = 1 := b11
  have b12 : a10 = 0 → a13 = 0 ∧ (a7 = 0 → a2 = a1) ∧ (a9 = 0 → a2 = a3) := b12
  have b13 : a10 = 1 → a7 = 0 ∧ a8 = 0 ∧ a9 = 0 ∧ (∀ i, a1 i = none) ∧ ∀ i, a4 i = 0 := b13
  have b14 : a9 = 0 → a8 = 0 := b14
  have b15 : a10 = 0 → a8 = 0 → a2 = a3 := b15
  have ho : a10 = 0 := ho
  have hi : a9 = 0 := hi
  have hs : 0 < a7 := hs
  have hr : a12 + (a7 + 1) ≤ 250 := hr
  unfold s_close
  rw [if_neg (show ¬ gS.sc (s_keepO (a1, a2, a3, a4, a5, a6, a7, a8, a9, a10, a11, a12, a13, a14, a15) (gS.sc (a1, a2, a3, a4, a5, a6, a7, a8, a9, a10, a11, a12, a13, a14, a15))) = 0 from Nat.ne_of_gt hs), if_pos (show gS.ins (s_keepO (a1, a2, a3, a4, a5, a6, a7, a8, a9, a10, a11, a12, a13, a14, a15) (gS.sc (a1, a2, a3, a4, a5, a6, a7, a8, a9, a10, a11, a12, a13, a14, a15))) = 0 from hi)]
  show gX (a1, a1, a1, fun _ => 0, a5, a6, 0, a8, a9, a10, a11 + nI (a7 + 1), a12 + (a7 + 1), a13, a14 + 1, a15 - (a7 + 1))
  exact gX_mk (b1) (b1) (b1) (b4) (by omega) (hr) (b7) (by omega) (b9) (b10) (fun _ _ => Or.inl rfl) (fun z => ⟨(b12 z).1, fun _ => rfl, fun _ => rfl⟩) (fun z => absurd (ho.symm.trans z) (by decide)) (b14) (fun _ _ => rfl)
theorem gX_keepF {σ : gS} (h : gX σ) (hd : σ.due ≤ 250) : gX (s_keepF σ) := by
  obtain ⟨a1, a2, a3, a4, a5, a6, a7, a8, a9, a10, a11, a12, a13, a14, a15⟩ := σ
  obtain ⟨⟨⟨b1, b2, b3⟩, b4, ⟨b5, b6, b7, b8⟩, ⟨b9, b10, b11⟩, b12, b13, b14⟩, b15⟩ := h
  have b1 : w_G a1 := b1
  have b2 : w_G a2 := b2
  have b3 : w_G a3 := b3
  have b4 : a5.length ≤ 24 ∧ ∀ y, y ∈ a5 → 32 ≤ y ∧ y ≤ 126 := b4
  have b5 : a7 + a8 ≤ 249 := b5
  have b6 : a12 ≤ 250 := b6
  have b7 : a13 ≤ 250 := b7
  have b8 : a15 ≤ 2000 := b8
  have b9 : a10 = 0 ∨ a10 = 1 := b9
  have b10 : a9 = 0 ∨ a9 = 1 := b10
  have b11 : ∀ i, i < 160 → a4 i = 0 ∨ a4 i = 1 := b11
  have b12 : a10 = 0 → a13 = 0 ∧ (a7 = 0 → a2 = a1) ∧ (a9 = 0 → a2 = a3) := b12
  have b13 : a10 = 1 → a7 = 0 ∧ a8 = 0 ∧ a9 = 0 ∧ (∀ i, a1 i = none) ∧ ∀ i, a4 i = 0 := b13
  have b14 : a9 = 0 → a8 = 0 := b14
  have b15 : a10 = 0 → a8 = 0 → a2 = a3 := b15
  have hd : a15 ≤ 250 := hd
  show gX ((fun _ => none), a2, a3, fun _ => 0, a5, a6, 0, 0, 0, 1, a11 + nI (a15 - 1), a12, a15 - 1, a14, 0)
  exact gX_mk (w_G_none) (b2) (b3) (b4) (by omega) (b6) (by omega) (by omega) (Or.inr rfl) (Or.inl rfl) (fun _ _ => Or.inl rfl) (fun z => absurd z (by decide)) (fun _ => ⟨rfl, rfl, rfl, fun _ => rfl, fun _ => rfl⟩) (fun _ => rfl) (fun z => absurd z (by decide))
theorem gX_offF {σ : gS} (h : gX σ) : gX (s_off (s_wrF σ)) := by
  obtain ⟨a1, a2, a3, a4, a5, a6, a7, a8, a9, a10, a11, a12, a13, a14, a15⟩ := σ
  obtain ⟨⟨⟨b1, b2, b3⟩, b4, ⟨b5, b6, b7, b8⟩, ⟨b9, b10, b11⟩, b12, b13, b14⟩, b15⟩ := h
  have b1 : w_G a1 := b1
  have b2 : w_G a2 := b2
  have b3 : w_G a3 := b3
  have b4 : a5.length ≤ 24 ∧ ∀ y, y ∈ a5 → 32 ≤ y ∧ y ≤ 126 := b4
  have b5 : a7 + a8 ≤ 249 := b5
  have b6 : a12 ≤ 250 := b6
  have b7 : a13 ≤ 250 := b7
  have b8 : a15 ≤ 2000 := b8
  have b9 : a10 = 0 ∨ a10 = 1 := b9
  have b10 : a9 = 0 ∨ a9 = 1 := b10
  have b11 : ∀ i, i < 160 → a4 i = 0 ∨ a4 i = 1 := b11
  have b12 : a10 = 0 → a13 = 0 ∧ (a7 = 0 → a2 = a1) ∧ (a9 = 0 → a2 = a3) := b12
  have b13 : a10 = 1 → a7 = 0 ∧ a8 = 0 ∧ a9 = 0 ∧ (∀ i, a1 i = none) ∧ ∀ i, a4 i = 0 := b13
  have b14 : a9 = 0 → a8 = 0 := b14
  have b15 : a10 = 0 → a8 = 0 → a2 = a3 := b15
  show gX ((fun _ => none), a2, a3, fun _ => 0, a5, a6, 0, 0, 0, 1, a11 + nI (a15 - 1), a12, a13, a14, 0)
  exact gX_mk (w_G_none) (b2) (b3) (b4) (by omega) (b6) (b7) (by omega) (Or.inr rfl) (Or.inl rfl) (fun _ _ => Or.inl rfl) (fun z => absurd z (by decide)) (fun _ => ⟨rfl, rfl, rfl, fun _ => rfl, fun _ => rfl⟩) (fun _ => rfl) (fun z => absurd z (by decide))
theorem gX_forgetK {σ : gS} (h : gX σ) (ho : σ.off = 0) (hs : σ.sc = 0) (hr : σ.en + (σ.ec + 1) ≤ 250) : gX (s_forget (s_keepO σ σ.ec)) := by
  obtain ⟨a1, a2, a3, a4, a5, a6, a7, a8, a9, a10, a11, a12, a13, a14, a15⟩ := σ
  obtain ⟨⟨⟨b1, b2, b3⟩, b4, ⟨b5, b6, b7, b8⟩, ⟨b9, b10, b11⟩, b12, b13, b14⟩, b15⟩ := h
  have b1 : w_G a1 := b1
  have b2 : w_G a2 := b2
  have b3 : w_G a3 := b3
  have b4 : a5.length ≤ 24 ∧ ∀ y, y ∈ a5 → 32 ≤ y ∧ y ≤ 126 := b4
  have b5 : a7 + a8 ≤ 249 := b5
  have b6 : a12 ≤ 250 := b6
  have b7 : a13 ≤ 250 := b7
  have b8 : a15 ≤ 2000 := b8
  have b9 : a10 = 0 ∨ a10 = 1 := b9
  have b10 : a9 = 0 ∨ a9 = 1 := b10
  have b11 : ∀ i, i < 160 → a4 i = 0 ∨ a4 i = 1 := b11
  have b12 : a10 = 0 → a13 = 0 ∧ (a7 = 0 → a2 = a1) ∧ (a9 = 0 → a2 = a3) := b12
  have b13 : a10 = 1 → a7 = 0 ∧ a8 = 0 ∧ a9 = 0 ∧ (∀ i, a1 i = none) ∧ ∀ i, a4 i = 0 := b13
  have b14 : a9 = 0 → a8 = 0 := b14
  have b15 : a10 = 0 → a8 = 0 → a2 = a3 := b15
  have ho : a10 = 0 := ho
  have hs : a7 = 0 := hs
  have hr : a12 + (a8 + 1) ≤ 250 := hr
  show gX (a1, a2, a1, fun _ => 0, a5, a6, 0, 0, 0, a10, a11 + nI (a8 + 1), a12 + (a8 + 1), a13, a14 + 1, a15 - (a8 + 1))
  exact gX_mk (b1) (b2) (b1) (b4) (by omega) (hr) (b7) (by omega) (b9) (Or.inl rfl) (fun _ _ => Or.inl rfl) (fun z => ⟨(b12 z).1, fun _ => (b12 z).2.1 hs, fun _ => (b12 z).2.1 hs⟩) (fun z => absurd (ho.symm.trans z) (by decide)) (fun _ => rfl) (fun z _ => (b12 z).2.1 hs)
theorem gX_forget0 {σ : gS} (h : gX σ) (ho : σ.off = 0) (hs : σ.sc = 0) (he : σ.ec = 0) : gX (s_forget σ) := by
  obtain ⟨a1, a2, a3, a4, a5, a6, a7, a8, a9, a10, a11, a12, a13, a14, a15⟩ := σ
  obtain ⟨⟨⟨b1, b2, b3⟩, b4, ⟨b5, b6, b7, b8⟩, ⟨b9, b10, b11⟩, b12, b13, b14⟩, b15⟩ := h
  have b1 : w_G a1 := b1
  have b2 : w_G a2 := b2
  have b3 : w_G a3 := b3
  have b4 : a5.length ≤ 24 ∧ ∀ y, y ∈ a5 → 32 ≤ y ∧ y ≤ 126 := b4
  have b5 : a7 + a8 ≤ 249 := b5
  have b6 : a12 ≤ 250 := b6
  have b7 : a13 ≤ 250 := b7
  have b8 : a15 ≤ 2000 := b8
  have b9 : a10 = 0 ∨ a10 = 1 := b9
  have b10 : a9 = 0 ∨ a9 = 1 := b10
  have b11 : ∀ i, i < 160 → a4 i = 0 ∨ a4 i = 1 := b11
  have b12 : a10 = 0 → a13 = 0 ∧ (a7 = 0 → a2 = a1) ∧ (a9 = 0 → a2 = a3) := b12
  have b13 : a10 = 1 → a7 = 0 ∧ a8 = 0 ∧ a9 = 0 ∧ (∀ i, a1 i = none) ∧ ∀ i, a4 i = 0 := b13
  have b14 : a9 = 0 → a8 = 0 := b14
  have b15 : a10 = 0 → a8 = 0 → a2 = a3 := b15
  have ho : a10 = 0 := ho
  have hs : a7 = 0 := hs
  have he : a8 = 0 := he
  show gX (a1, a2, a3, fun _ => 0, a5, a6, 0, 0, 0, a10, a11, a12, a13, a14, a15)
  exact gX_mk (b1) (b2) (b3) (b4) (by omega) (b6) (b7) (b8) (b9) (Or.inl rfl) (fun _ _ => Or.inl rfl) (fun z => ⟨(b12 z).1, fun _ => (b12 z).2.1 hs, fun _ => b15 z he⟩) (fun z => absurd (ho.symm.trans z) (by decide)) (fun _ => rfl) (fun z _ => b15 z he)
theorem gX_restore {σ : gS} (h : gX σ) (hi : ¬ σ.ins = 0) : gX (s_restore σ) := by
  obtain ⟨a1, a2, a3, a4, a5, a6, a7, a8, a9, a10, a11, a12, a13, a14, a15⟩ := σ
  obtain ⟨⟨⟨b1, b2, b3⟩, b4, ⟨b5, b6, b7, b8⟩, ⟨b9, b10, b11⟩, b12, b13, b14⟩, b15⟩ := h
  have b1 : w_G a1 := b1
  have b2 : w_G a2 := b2
  have b3 : w_G a3 := b3
  have b4 : a5.length ≤ 24 ∧ ∀ y, y ∈ a5 → 32 ≤ y ∧ y ≤ 126 := b4
  have b5 : a7 + a8 ≤ 249 := b5
  have b6 : a12 ≤ 250 := b6
  have b7 : a13 ≤ 250 := b7
  have b8 : a15 ≤ 2000 := b8
  have b9 : a10 = 0 ∨ a10 = 1 := b9
  have b10 : a9 = 0 ∨ a9 = 1 := b10
  have b11 : ∀ i, i < 160 → a4 i = 0 ∨ a4 i = 1 := b11
  have b12 : a10 = 0 → a13 = 0 ∧ (a7 = 0 → a2 = a1) ∧ (a9 = 0 → a2 = a3) := b12
  have b13 : a10 = 1 → a7 = 0 ∧ a8 = 0 ∧ a9 = 0 ∧ (∀ i, a1 i = none) ∧ ∀ i, a4 i = 0 := b13
  have b14 : a9 = 0 → a8 = 0 := b14
  have b15 : a10 = 0 → a8 = 0 → a2 = a3 := b15
  have hi : ¬ a9 = 0 := hi
  have ho : a10 = 0 := b9.resolve_right (fun z => hi (b13 z).2.2.1)
  show gX (a3, a3, a3, fun _ => 0, a5, a6, 0, 0, 0, a10, a11, a12, a13, a14, a15)
  exact gX_mk (b3) (b3) (b3) (b4) (by omega) (b6) (b7) (b8) (b9) (Or.inl rfl) (fun _ _ => Or.inl rfl) (fun z => ⟨(b12 z).1, fun _ => rfl, fun _ => rfl⟩) (fun z => absurd (ho.symm.trans z) (by decide)) (fun _ => rfl) (fun _ _ => rfl)
theorem gX_recover {σ : gS} (h : gX σ) : gX (((s_restore (σ.sOff 0)).sLo 0).sDue 0) := by
  obtain ⟨a1, a2, a3, a4, a5, a6, a7, a8, a9, a10, a11, a12, a13, a14, a15⟩ := σ
  obtain ⟨⟨⟨b1, b2, b3⟩, b4, ⟨b5, b6, b7, b8⟩, ⟨b9, b10, b11⟩, b12, b13, b14⟩, b15⟩ := h
  have b1 : w_G a1 := b1
  have b2 : w_G a2 := b2
  have b3 : w_G a3 := b3
  have b4 : a5.length ≤ 24 ∧ ∀ y, y ∈ a5 → 32 ≤ y ∧ y ≤ 126 := b4
  have b5 : a7 + a8 ≤ 249 := b5
  have b6 : a12 ≤ 250 := b6
  have b7 : a13 ≤ 250 := b7
  have b8 : a15 ≤ 2000 := b8
  have b9 : a10 = 0 ∨ a10 = 1 := b9
  have b10 : a9 = 0 ∨ a9 = 1 := b10
  have b11 : ∀ i, i < 160 → a4 i = 0 ∨ a4 i = 1 := b11
  have b12 : a10 = 0 → a13 = 0 ∧ (a7 = 0 → a2 = a1) ∧ (a9 = 0 → a2 = a3) := b12
  have b13 : a10 = 1 → a7 = 0 ∧ a8 = 0 ∧ a9 = 0 ∧ (∀ i, a1 i = none) ∧ ∀ i, a4 i = 0 := b13
  have b14 : a9 = 0 → a8 = 0 := b14
  have b15 : a10 = 0 → a8 = 0 → a2 = a3 := b15
  show gX (a3, a3, a3, fun _ => 0, a5, a6, 0, 0, 0, 0, a11, a12, 0, a14, 0)
  exact gX_mk (b3) (b3) (b3) (b4) (by omega) (b6) (by omega) (by omega) (Or.inl rfl) (Or.inl rfl) (fun _ _ => Or.inl rfl) (fun _ => ⟨rfl, fun _ => rfl, fun _ => rfl⟩) (fun z => absurd z (by decide)) (fun _ => rfl) (fun _ _ => rfl)
theorem gX_ckpt {σ : gS} (h : gX σ) (n : Nat) : gX (((s_wrO σ n).sEn 0).sTr 0) := by
  obtain ⟨a1, a2, a3, a4, a5, a6, a7, a8, a9, a10, a11, a12, a13, a14, a15⟩ := σ
  obtain ⟨⟨⟨b1, b2, b3⟩, b4, ⟨b5, b6, b7, b8⟩, ⟨b9, b10, b11⟩, b12, b13, b14⟩, b15⟩ := h
  have b1 : w_G a1 := b1
  have b2 : w_G a2 := b2
  have b3 : w_G a3 := b3
  have b4 : a5.length ≤ 24 ∧ ∀ y, y ∈ a5 → 32 ≤ y ∧ y ≤ 126 := b4
  have b5 : a7 + a8 ≤ 249 := b5
  have b6 : a12 ≤ 250 := b6
  have b7 : a13 ≤ 250 := b7
  have b8 : a15 ≤ 2000 := b8
  have b9 : a10 = 0 ∨ a10 = 1 := b9
  have b10 : a9 = 0 ∨ a9 = 1 := b10
  have b11 : ∀ i, i < 160 → a4 i = 0 ∨ a4 i = 1 := b11
  have b12 : a10 = 0 → a13 = 0 ∧ (a7 = 0 → a2 = a1) ∧ (a9 = 0 → a2 = a3) := b12
  have b13 : a10 = 1 → a7 = 0 ∧ a8 = 0 ∧ a9 = 0 ∧ (∀ i, a1 i = none) ∧ ∀ i, a4 i = 0 := b13
  have b14 : a9 = 0 → a8 = 0 := b14
  have b15 : a10 = 0 → a8 = 0 → a2 = a3 := b15
  show gX (a1, a2, a3, a4, a5, a6, a7, a8, a9, a10, a11 + nI n, 0, a13, 0, a15 - n)
  exact gX_mk (b1) (b2) (b3) (b4) (b5) (by omega) (b7) (by omega) (b9) (b10) (b11) (b12) (b13) (b14) (b15)
theorem gX_due {σ : gS} (h : gX σ) (n : Nat) (hn : n ≤ 2000) : gX (σ.sDue n) := by
  obtain ⟨a1, a2, a3, a4, a5, a6, a7, a8, a9, a10, a11, a12, a13, a14, a15⟩ := σ
  obtain ⟨⟨⟨b1, b2, b3⟩, b4, ⟨b5, b6, b7, b8⟩, ⟨b9, b10, b11⟩, b12, b13, b14⟩, b15⟩ := h
  have b1 : w_G a1 := b1
  have b2 : w_G a2 := b2
  have b3 : w_G a3 := b3
  have b4 : a5.length ≤ 24 ∧ ∀ y, y ∈ a5 → 32 ≤ y ∧ y ≤ 126 := b4
  have b5 : a7 + a8 ≤ 249 := b5
  have b6 : a12 ≤ 250 := b6
  have b7 : a13 ≤ 250 := b7
  have b8 : a15 ≤ 2000 := b8
  have b9 : a10 = 0 ∨ a10 = 1 := b9
  have b10 : a9 = 0 ∨ a9 = 1 := b10
  have b11 : ∀ i, i < 160 → a4 i = 0 ∨ a4 i = 1 := b11
  have b12 : a10 = 0 → a13 = 0 ∧ (a7 = 0 → a2 = a1) ∧ (a9 = 0 → a2 = a3) := b12
  have b13 : a10 = 1 → a7 = 0 ∧ a8 = 0 ∧ a9 = 0 ∧ (∀ i, a1 i = none) ∧ ∀ i, a4 i = 0 := b13
  have b14 : a9 = 0 → a8 = 0 := b14
  have b15 : a10 = 0 → a8 = 0 → a2 = a3 := b15
  show gX (a1, a2, a3, a4, a5, a6, a7, a8, a9, a10, a11, a12, a13, a14, n)
  exact gX_mk (b1) (b2) (b3) (b4) (b5) (b6) (b7) (hn) (b9) (b10) (b11) (b12) (b13) (b14) (b15)
theorem gX_ins1 {σ : gS} (h : gX σ) (ho : σ.off = 0) : gX (σ.sIns 1) := by
  obtain ⟨a1, a2, a3, a4, a5, a6, a7, a8, a9, a10, a11, a12, a13, a14, a15⟩ := σ
  obtain ⟨⟨⟨b1, b2, b3⟩, b4, ⟨b5, b6, b7, b8⟩, ⟨b9, b10, b11⟩, b12, b13, b14⟩, b15⟩ := h
  have b1 : w_G a1 := b1
  have b2 : w_G a2 := b2
  have b3 : w_G a3 := b3
  have b4 : a5.length ≤ 24 ∧ ∀ y, y ∈ a5 → 32 ≤ y ∧ y ≤ 126 := b4
  have b5 : a7 + a8 ≤ 249 := b5
  have b6 : a12 ≤ 250 := b6
  have b7 : a13 ≤ 250 := b7
  have b8 : a15 ≤ 2000 := b8
  have b9 : a10 = 0 ∨ a10 = 1 := b9
  have b10 : a9 = 0 ∨ a9 = 1 := b10
  have b11 : ∀ i, i < 160 → a4 i = 0 ∨ a4 i = 1 := b11
  have b12 : a10 = 0 → a13 = 0 ∧ (a7 = 0 → a2 = a1) ∧ (a9 = 0 → a2 = a3) := b12
  have b13 : a10 = 1 → a7 = 0 ∧ a8 = 0 ∧ a9 = 0 ∧ (∀ i, a1 i = none) ∧ ∀ i, a4 i = 0 := b13
  have b14 : a9 = 0 → a8 = 0 := b14
  have b15 : a10 = 0 → a8 = 0 → a2 = a3 := b15
  have ho : a10 = 0 := ho
  show gX (a1, a2, a3, a4, a5, a6, a7, a8, 1, a10, a11, a12, a13, a14, a15)
  exact gX_mk (b1) (b2) (b3) (b4) (b5) (b6) (b7) (b8) (b9) (Or.inr rfl) (b11) (fun z => ⟨(b12 z).1, (b12 z).2.1, fun q => absurd q (by decide)⟩) (fun z => absurd (ho.symm.trans z) (by decide)) (fun q => absurd q (by decide)) (b15)
theorem gX_err {σ : gS} (h : gX σ) (v : Int32) : gX (σ.sErr v) := by
  obtain ⟨a1, a2, a3, a4, a5, a6, a7, a8, a9, a10, a11, a12, a13, a14, a15⟩ := σ
  obtain ⟨⟨⟨b1, b2, b3⟩, b4, ⟨b5, b6, b7, b8⟩, ⟨b9, b10, b11⟩, b12, b13, b14⟩, b15⟩ := h
  have b1 : w_G a1 := b1
  have b2 : w_G a2 := b2
  have b3 : w_G a3 := b3
  have b4 : a5.length ≤ 24 ∧ ∀ y, y ∈ a5 → 32 ≤ y ∧ y ≤ 126 := b4
  have b5 : a7 + a8 ≤ 249 := b5
  have b6 : a12 ≤ 250 := b6
  have b7 : a13 ≤ 250 := b7
  have b8 : a15 ≤ 2000 := b8
  have b9 : a10 = 0 ∨ a10 = 1 := b9
  have b10 : a9 = 0 ∨ a9 = 1 := b10
  have b11 : ∀ i, i < 160 → a4 i = 0 ∨ a4 i = 1 := b11
  have b12 : a10 = 0 → a13 = 0 ∧ (a7 = 0 → a2 = a1) ∧ (a9 = 0 → a2 = a3) := b12
  have b13 : a10 = 1 → a7 = 0 ∧ a8 = 0 ∧ a9 = 0 ∧ (∀ i, a1 i = none) ∧ ∀ i, a4 i = 0 := b13
  have b14 : a9 = 0 → a8 = 0 := b14
  have b15 : a10 = 0 → a8 = 0 → a2 = a3 := b15
  show gX (a1, a2, a3, a4, a5, v, a7, a8, a9, a10, a11, a12, a13, a14, a15)
  exact gX_mk (b1) (b2) (b3) (b4) (b5) (b6) (b7) (b8) (b9) (b10) (b11) (b12) (b13) (b14) (b15)
theorem gX_tape {σ : gS} (h : gX σ) (xs : List Int32) (hl : xs.length ≤ 24) (ha : ∀ y, y ∈ xs → 32 ≤ y ∧ y ≤ 126) : gX (σ.sTape xs) := by
  obtain ⟨a1, a2, a3, a4, a5, a6, a7, a8, a9, a10, a11, a12, a13, a14, a15⟩ := σ
  obtain ⟨⟨⟨b1, b2, b3⟩, b4, ⟨b5, b6, b7, b8⟩, ⟨b9, b10, b11⟩, b12, b13, b14⟩, b15⟩ := h
  have b1 : w_G a1 := b1
  have b2 : w_G a2 := b2
  have b3 : w_G a3 := b3
  have b4 : a5.length ≤ 24 ∧ ∀ y, y ∈ a5 → 32 ≤ y ∧ y ≤ 126 := b4
  have b5 : a7 + a8 ≤ 249 := b5
  have b6 : a12 ≤ 250 := b6
  have b7 : a13 ≤ 250 := b7
  have b8 : a15 ≤ 2000 := b8
  have b9 : a10 = 0 ∨ a10 = 1 := b9
  have b10 : a9 = 0 ∨ a9 = 1 := b10
  have b11 : ∀ i, i < 160 → a4 i = 0 ∨ a4 i = 1 := b11
  have b12 : a10 = 0 → a13 = 0 ∧ (a7 = 0 → a2 = a1) ∧ (a9 = 0 → a2 = a3) := b12
  have b13 : a10 = 1 → a7 = 0 ∧ a8 = 0 ∧ a9 = 0 ∧ (∀ i, a1 i = none) ∧ ∀ i, a4 i = 0 := b13
  have b14 : a9 = 0 → a8 = 0 := b14
  have b15 : a10 = 0 → a8 = 0 → a2 = a3 := b15
  show gX (a1, a2, a3, a4, xs, a6, a7, a8, a9, a10, a11, a12, a13, a14, a15)
  exact gX_mk (b1) (b2) (b3) (⟨hl, ha⟩) (b5) (b6) (b7) (b8) (b9) (b10) (b11) (b12) (b13) (b14) (b15)
theorem gX_one {σ : gS} (h : gX σ) (i : Nat) (t : Option gT) (ho : σ.off = 0) (hc : ¬ 249 ≤ σ.ec + σ.sc) (hg : w_G (va_up σ.now i t)) : gX (x_one σ i t) := by
  obtain ⟨a1, a2, a3, a4, a5, a6, a7, a8, a9, a10, a11, a12, a13, a14, a15⟩ := σ
  obtain ⟨⟨⟨b1, b2, b3⟩, b4, ⟨b5, b6, b7, b8⟩, ⟨b9, b10, b11⟩, b12, b13, b14⟩, b15⟩ := h
  have b1 : w_G a1 := b1
  have b2 : w_G a2 := b2
  have b3 : w_G a3 := b3
  have b4 : a5.length ≤ 24 ∧ ∀ y, y ∈ a5 → 32 ≤ y ∧ y ≤ 126 := b4
  have b5 : a7 + a8 ≤ 249 := b5
  have b6 : a12 ≤ 250 := b6
  have b7 : a13 ≤ 250 := b7
  have b8 : a15 ≤ 2000 := b8
  have b9 : a10 = 0 ∨ a10 = 1 := b9
  have b10 : a9 = 0 ∨ a9 = 1 := b10
  have b11 : ∀ i, i < 160 → a4 i = 0 ∨ a4 i = 1 := b11
  have b12 : a10 = 0 → a13 = 0 ∧ (a7 = 0 → a2 = a1) ∧ (a9 = 0 → a2 = a3) := b12
  have b13 : a10 = 1 → a7 = 0 ∧ a8 = 0 ∧ a9 = 0 ∧ (∀ i, a1 i = none) ∧ ∀ i, a4 i = 0 := b13
  have b14 : a9 = 0 → a8 = 0 := b14
  have b15 : a10 = 0 → a8 = 0 → a2 = a3 := b15
  have ho : a10 = 0 := ho
  have hc : ¬ 249 ≤ a8 + a7 := hc
  show gX (va_up a1 i t, a2, a3, a4, a5, a6, a7 + 1, a8, a9, a10, a11, a12, a13, a14, a15)
  exact gX_mk (hg) (b2) (b3) (b4) (by omega) (b6) (b7) (b8) (b9) (b10) (b11) (fun z => ⟨(b12 z).1, fun q => absurd q (by omega), (b12 z).2.2⟩) (fun z => absurd (ho.symm.trans z) (by decide)) (b14) (b15)
theorem gX_gone {σ : gS} (h : gX σ) (g : Nat → Int32) (ho : σ.off = 0) (hg : ∀ i, i < 160 → g i = 0 ∨ g i = 1) : gX (σ.sGone g) := by
  obtain ⟨a1, a2, a3, a4, a5, a6, a7, a8, a9, a10, a11, a12, a13, a14, a15⟩ := σ
  obtain ⟨⟨⟨b1, b2, b3⟩, b4, ⟨b5, b6, b7, b8⟩, ⟨b9, b10, b11⟩, b12, b13, b14⟩, b15⟩ := h
  have b1 : w_G a1 := b1
  have b2 : w_G a2 := b2
  have b3 : w_G a3 := b3
  have b4 : a5.length ≤ 24 ∧ ∀ y, y ∈ a5 → 32 ≤ y ∧ y ≤ 126 := b4
  have b5 : a7 + a8 ≤ 249 := b5
  have b6 : a12 ≤ 250 := b6
  have b7 : a13 ≤ 250 := b7
  have b8 : a15 ≤ 2000 := b8
  have b9 : a10 = 0 ∨ a10 = 1 := b9
  have b10 : a9 = 0 ∨ a9 = 1 := b10
  have b11 : ∀ i, i < 160 → a4 i = 0 ∨ a4 i = 1 := b11
  have b12 : a10 = 0 → a13 = 0 ∧ (a7 = 0 → a2 = a1) ∧ (a9 = 0 → a2 = a3) := b12
  have b13 : a10 = 1 → a7 = 0 ∧ a8 = 0 ∧ a9 = 0 ∧ (∀ i, a1 i = none) ∧ ∀ i, a4 i = 0 := b13
  have b14 : a9 = 0 → a8 = 0 := b14
  have b15 : a10 = 0 → a8 = 0 → a2 = a3 := b15
  have ho : a10 = 0 := ho
  show gX (a1, a2, a3, g, a5, a6, a7, a8, a9, a10, a11, a12, a13, a14, a15)
  exact gX_mk (b1) (b2) (b3) (b4) (b5) (b6) (b7) (b8) (b9) (b10) (hg) (b12) (fun z => absurd (ho.symm.trans z) (by decide)) (b14) (b15)
theorem gX_0 : gX gS0 := gX_mk w_G_none w_G_none w_G_none ⟨Nat.zero_le _, fun _ h => (by cases h)⟩ (Nat.zero_le _) (Nat.zero_le _) (Nat.zero_le _) (Nat.zero_le _) (Or.inl rfl) (Or.inl rfl) (fun _ _ => Or.inl rfl) (fun _ => ⟨rfl, fun _ => rfl, fun _ => rfl⟩) (fun z => absurd z (by decide)) (fun _ => rfl) (fun _ _ => rfl)
theorem vu_at {α : Type} (f : Nat → α) (i : Nat) (v : α) : va_up f i v i = v := by simp [va_up]
theorem vu_ne {α : Type} (f : Nat → α) {i j : Nat} (v : α) (h : j ≠ i) : va_up f i v j = f j := by simp [va_up, h]
theorem w_G_some {γ : Nat → Option gT} (h : w_G γ) {i : Nat} {t : gT} (ht : w_T t) (hl : 64 ≤ i → i < 160 → ∃ a b, a < 64 ∧ b < 64 ∧ t.st = nI a ∧ t.en = nI b ∧ γ a ≠ none ∧ γ b ≠ none) : w_G (va_up γ i (some t)) := by
  have key : ∀ a, γ a ≠ none → va_up γ i (some t) a ≠ none := fun a ha => by
    by_cases q : a = i
    · subst q; rw [vu_at]; exact fun z => by cases z
    · rw [vu_ne _ _ q]; exact ha
  refine ⟨fun j hj u hu => ?_, fun j h1 h2 u hu => ?_⟩
  · by_cases q : j = i
    · subst q; rw [vu_at] at hu; cases hu; exact ht
    · rw [vu_ne _ _ q] at hu; exact h.1 j hj u hu
  · by_cases q : j = i
    · subst q; rw [vu_at] at hu; cases hu
      obtain ⟨a, b, x1, x2, x3, x4, x5, x6⟩ := hl h1 h2
      exact ⟨a, b, x1, x2, x3, x4, key a x5, key b x6⟩
    · rw [vu_ne _ _ q] at hu
      obtain ⟨a, b, x1, x2, x3, x4, x5, x6⟩ := h.2 j h1 h2 u hu
      exact ⟨a, b, x1, x2, x3, x4, key a x5, key b x6⟩
theorem w_G_take {γ : Nat → Option gT} (h : w_G γ) {i : Nat} (hn : ∀ j, 64 ≤ j → j < 160 → ∀ u, γ j = some u → i < 64 → u.st ≠ nI i ∧ u.en ≠ nI i) : w_G (va_up γ i none) := by
  refine ⟨fun j hj u hu => ?_, fun j h1 h2 u hu => ?_⟩
  · by_cases q : j = i
    · subst q; rw [vu_at] at hu; cases hu
    · rw [vu_ne _ _ q] at hu; exact h.1 j hj u hu
  · by_cases q : j = i
    · subst q; rw [vu_at] at hu; cases hu
    · rw [vu_ne _ _ q] at hu
      obtain ⟨a, b, x1, x2, x3, x4, x5, x6⟩ := h.2 j h1 h2 u hu
      have na : a ≠ i := fun z => by subst z; exact (hn j h1 h2 u hu x1).1 x3
      have nb : b ≠ i := fun z => by subst z; exact (hn j h1 h2 u hu x2).2 x4
      exact ⟨a, b, x1, x2, x3, x4, by rw [vu_ne _ _ na]; exact x5, by rw [vu_ne _ _ nb]; exact x6⟩
theorem w_e_T : w_T e_T := ⟨Nat.zero_le _, List.nodup_nil, Nat.zero_le _, List.nodup_nil, fun _ h => (by cases h)⟩
theorem w_T_link (a b ty : Int32) : w_T ([], a, b, ty, []) := ⟨Nat.zero_le _, List.nodup_nil, Nat.zero_le _, List.nodup_nil, fun _ h => (by cases h)⟩
theorem w_T_lab {t : gT} (h : w_T t) {xs : List Int32} (h1 : xs.length ≤ 4) (h2 : xs.Nodup) : w_T (t.sLab xs) := ⟨h1, h2, h.2.2⟩
theorem w_T_ps {t : gT} (h : w_T t) {ps : List gP} (h1 : ps.length ≤ 6) (h2 : (ps.map (fun q => q.1)).Nodup) (h3 : ∀ p, p ∈ ps → w_P p) : w_T (t.sPs ps) := ⟨h.1, h.2.1, h1, h2, h3⟩
/-- a link's ends, seen from its place -/
theorem w_ends {γ : Nat → Option gT} (h : w_G γ) {i : Nat} {t : gT} (ht : γ i = some t) {u : gT} (e1 : u.st = t.st) (e2 : u.en = t.en) : 64 ≤ i → i < 160 → ∃ a b, a < 64 ∧ b < 64 ∧ u.st = nI a ∧ u.en = nI b ∧ γ a ≠ none ∧ γ b ≠ none := fun h1 h2 => by
  obtain ⟨a, b, x1, x2, x3, x4, x5, x6⟩ := h.2 i h1 h2 t ht
  exact ⟨a, b, x1, x2, e1.trans x3, e2.trans x4, x5, x6⟩
theorem gX_node {σ : gS} (h : gX σ) : gX (x_node σ).1 := by
  unfold x_node
  by_cases ho : σ.off = 0
  · rw [cif_pos ho]
    cases hf : x_free σ.now σ.gone 0 64 with
    | none => exact gX_err h 6
    | some i =>
      dsimp only
      by_cases hc : 249 ≤ σ.ec + σ.sc
      · rw [cif_pos hc]; exact gX_err h 9
      · rw [cif_neg hc]
        have hi := x_free_lt hf
        exact gX_one h i _ ho hc (w_G_some h.1.1.1 w_e_T (fun z => absurd hi (by omega)))
  · rw [cif_neg ho]; exact h
theorem gX_label {σ : gS} (h : gX σ) (n y o : Int32) : gX (x_label σ n y o).1 := by
  unfold x_label
  by_cases ho : σ.off = 0
  · rw [cif_pos ho]
    cases hf : x_find σ.now 4 n with
    | none => exact gX_err h 8
    | some it =>
      obtain ⟨i, t⟩ := it
      dsimp only
      obtain ⟨ht, hi⟩ := x_find_some hf
      have hi : i < 64 := hi.elim (fun z => z.2.1) (fun z => absurd z.1 (by decide))
      have hw := h.1.1.1.1 i (by omega) t ht
      by_cases h1 : (y ∈ t.lab ↔ ¬ o = 0)
      · rw [cif_pos h1]; exact h
      · rw [cif_neg h1]
        by_cases h2 : ¬ o = 0 ∧ 4 ≤ t.lab.length
        · rw [cif_pos h2]; exact gX_err h 6
        · rw [cif_neg h2]
          by_cases hc : 249 ≤ σ.ec + σ.sc
          · rw [cif_pos hc]; exact gX_err h 9
          · rw [cif_neg hc]
            refine gX_one h i _ ho hc (w_G_some h.1.1.1 ?_ (fun z => absurd hi (by omega)))
            by_cases h3 : o = 0
            · rw [cif_pos h3]
              exact w_T_lab hw (Nat.le_trans (List.length_erase_le) hw.1) (hw.2.1.erase y)
            · rw [cif_neg h3]
              refine w_T_lab hw ?_ ?_
              · rw [List.length_append, List.length_singleton]
                have : ¬ 4 ≤ t.lab.length := fun z => h2 ⟨h3, z⟩
                omega
              · have hny : ¬ y ∈ t.lab := fun z => h1 ⟨fun _ => h3, fun _ => z⟩
                rw [List.nodup_append]
                exact ⟨hw.2.1, by simp, fun a ha b hb e => by rw [List.mem_singleton] at hb; subst hb; subst e; exact hny ha⟩
  · rw [cif_neg ho]; exact h
theorem gX_link {σ : gS} (h : gX σ) (a b ty : Int32) : gX (x_link σ a b ty).1 := by
  unfold x_link
  by_cases ho : σ.off = 0
  · rw [cif_pos ho]
    by_cases hn : x_find σ.now 4 a = none ∨ x_find σ.now 4 b = none
    · rw [cif_pos hn]; exact gX_err h 8
    · rw [cif_neg hn]
      cases hf : x_free σ.now σ.gone 64 96 with
      | none => exact gX_err h 6
      | some i =>
        dsimp only
        by_cases hc : 249 ≤ σ.ec + σ.sc
        · rw [cif_pos hc]; exact gX_err h 9
        · rw [cif_neg hc]
          refine gX_one h _ _ ho hc (w_G_some h.1.1.1 (w_T_link a b ty) (fun _ _ => ?_))
          have key : ∀ a, ¬ x_find σ.now 4 a = none → ∃ j, j < 64 ∧ a = nI j ∧ σ.now j ≠ none := fun a ha => by
            cases hx : x_find σ.now 4 a with
            | none => exact absurd hx ha
            | some it =>
              obtain ⟨j, t⟩ := it
              obtain ⟨h1, h2⟩ := x_find_some hx
              rcases h2 with ⟨-, h3, h4⟩ | ⟨h3, -⟩
              · exact ⟨j, h3, h4, by rw [h1]; exact fun z => by cases z⟩
              · exact absurd h3 (by decide)
          obtain ⟨ia, x1, x2, x3⟩ := key a (fun z => hn (Or.inl z))
          obtain ⟨ib, y1, y2, y3⟩ := key b (fun z => hn (Or.inr z))
          exact ⟨ia, ib, x1, y1, x2, y2, x3, y3⟩
  · rw [cif_neg ho]; exact h
theorem x_cch_0 {γ : Nat → Option gT} {d o : Int32} : ∀ n, x_cch γ d o n = 0 → ∀ j, j < n → x_inch γ j d o = 0
  | 0, _, j, hj => absurd hj (Nat.not_lt_zero _)
  | n + 1, e, j, hj => by
    have e : x_cch γ d o n + x_inch γ n d o = 0 := e
    by_cases q : j = n
    · subst q; omega
    · exact x_cch_0 n (by omega) j (by omega)
theorem x_inch_0 {γ : Nat → Option gT} {d o : Int32} {j : Nat} {u : gT} (hu : γ (64 + j) = some u) (e : x_inch γ j d o = 0) : ¬ (if o = 0 then u.en else u.st) = d := fun z => by
  rw [x_in2 hu z] at e
  cases e
