/-! MORE STEPS OF THE RELATION -/
section MODU
variable {A : mA} {B B' : mB} {σ : gS}
theorem mRel.start0 (h : mRel A B σ) (h0 : σ.sc = 0) (hg : ∀ i, σ.gone i = 0) : mRel A B (s_start σ) := ⟨⟨h.1.1, fun z => absurd rfl z, h.1.2.2⟩, ⟨h.2.1.1, h.2.1.2.1, h.2.1.2.2.1, h.2.1.2.2.2.1.trans h0, h.2.1.2.2.2.2⟩, h.2.2.1, fun i hi => (h.2.2.2.1 i hi).trans (hg i), h.2.2.2.2⟩
theorem gW.offs (h : gW σ) (ho : ¬ σ.off = 0) : σ.sc = 0 ∧ σ.ec = 0 ∧ σ.ins = 0 ∧ (∀ i, σ.now i = none) ∧ ∀ i, σ.gone i = 0 := h.2.2.2.2.2.1 (h.2.2.2.1.1.resolve_left ho)
theorem mRel.ec0 (h : mRel A B σ) {v : Nat} (hv : σ.ec = v) : mRel (A.sEarlier v) B σ := ⟨h.1, ⟨h.2.1.1, h.2.1.2.1, h.2.1.2.2.1, h.2.1.2.2.2.1, hv.symm⟩, h.2.2⟩
theorem mRel.cp2 (h : mRel A B σ) (h0 : σ.ins = 0) (hc : mCopy B B' 0 2) (hw : w_G σ.now ∧ w_G σ.stm ∧ w_G σ.kept) : mRel A B' σ := ⟨⟨hc.other h.1.1 hw.1 (by decide), fun z => hc.other (h.1.2.1 z) hw.2.1 (by decide), fun z => absurd h0 z, hc.other h.1.2.2.2.1 hw.2.2 (by decide), hc.bo h.1.2.2.2.2 (by decide)⟩, h.2⟩
theorem s_undo_now (hW : gW σ) (ho : σ.off = 0) (hi : σ.ins = 0) : (s_undo σ).now = σ.kept := by
  have h1 := hW.2.2.2.2.1 ho
  unfold s_undo
  by_cases hs : σ.sc = 0
  · rw [if_pos hs]
    show σ.now = σ.kept
    rw [← h1.2.1 hs, h1.2.2 hi]
  · rw [if_neg hs]
    show σ.stm = σ.kept
    exact h1.2.2 hi
theorem s_undo_rest : (s_undo σ).ec = σ.ec ∧ (s_undo σ).ins = σ.ins ∧ (s_undo σ).kept = σ.kept ∧ (s_undo σ).stm = σ.stm ∧ (s_undo σ).err = σ.err := by
  unfold s_undo
  split <;> exact ⟨rfl, rfl, rfl, rfl, rfl⟩
theorem s_close_I (hi : ¬ σ.ins = 0) : (s_close σ).ec = σ.ec + σ.sc ∧ (s_close σ).sc = 0 ∧ (∀ i, (s_close σ).gone i = 0) ∧ (s_close σ).ins = σ.ins ∧ (s_close σ).off = σ.off ∧ (s_close σ).lo = σ.lo ∧ (s_close σ).en = σ.en ∧ (s_close σ).due = σ.due ∧ (s_close σ).now = σ.now ∧ (s_close σ).kept = σ.kept ∧ (s_close σ).wr = σ.wr ∧ (s_close σ).tr = σ.tr := by
  unfold s_close
  by_cases hs : σ.sc = 0
  · rw [if_pos hs, if_neg hi]; exact ⟨rfl, rfl, fun _ => rfl, rfl, rfl, rfl, rfl, rfl, rfl, rfl, rfl, rfl⟩
  · rw [if_neg hs, if_neg hi]; exact ⟨rfl, rfl, fun _ => rfl, rfl, rfl, rfl, rfl, rfl, rfl, rfl, rfl, rfl⟩
end MODU
theorem x_cnt_add (γ : Nat → Option gT) (lo n : Nat) : ∀ m, x_cnt γ lo (n + m) = x_cnt γ lo n + x_cnt γ (lo + n) m
  | 0 => rfl
  | m + 1 => by
    show x_cnt γ lo (n + m) + (if γ (lo + (n + m)) = none then 0 else 1) = x_cnt γ lo n + (x_cnt γ (lo + n) m + (if γ (lo + n + m) = none then 0 else 1))
    rw [x_cnt_add γ lo n m, Nat.add_assoc lo n m, Nat.add_assoc]
/-- after i writes -/
def s_wr2 (σ : gS) (i : Nat) : gS := (σ.sWr (σ.wr + nI i)).sDue (σ.due - i)
theorem s_wr2_next (σ : gS) (i : Nat) : (((s_wr2 σ i).sDue ((s_wr2 σ i).due - 1)).sWr ((s_wr2 σ i).wr + 1)) = s_wr2 σ (i + 1) := by
  obtain ⟨a1, a2, a3, a4, a5, a6, a7, a8, a9, a10, a11, a12, a13, a14, a15⟩ := σ
  simp only [s_wr2, gS.wr, gS.due, gS.sNow, gS.sStm, gS.sKept, gS.sGone, gS.sTape, gS.sErr, gS.sSc, gS.sEc, gS.sIns, gS.sOff, gS.sWr, gS.sEn, gS.sLo, gS.sTr, gS.sDue]
  rw [Int32.add_assoc, nI_1, Nat.sub_sub]
theorem s_wr2_fail {σ : gS} {i : Nat} (h : σ.due = i + 1) : s_off ((s_wr2 σ i).sDue 0) = s_off (s_wrF σ) := by
  have e1 : σ.due - 1 = i := by omega
  unfold s_wrF
  rw [e1]
  obtain ⟨a1, a2, a3, a4, a5, a6, a7, a8, a9, a10, a11, a12, a13, a14, a15⟩ := σ
  simp only [s_wr2, gS.wr, gS.due, gS.sNow, gS.sStm, gS.sKept, gS.sGone, gS.sTape, gS.sErr, gS.sSc, gS.sEc, gS.sIns, gS.sOff, gS.sWr, gS.sEn, gS.sLo, gS.sTr, gS.sDue]
theorem s_wr2_0 (σ : gS) : s_wr2 σ 0 = σ := by
  obtain ⟨a1, a2, a3, a4, a5, a6, a7, a8, a9, a10, a11, a12, a13, a14, a15⟩ := σ
  simp only [s_wr2, gS.wr, gS.due, gS.sNow, gS.sStm, gS.sKept, gS.sGone, gS.sTape, gS.sErr, gS.sSc, gS.sEc, gS.sIns, gS.sOff, gS.sWr, gS.sEn, gS.sLo, gS.sTr, gS.sDue, nI_0, Nat.sub_zero]
  rw [show a11 + 0 = a11 from Int32.add_zero _]
theorem s_wr2_all (σ : gS) (n : Nat) : s_wr2 σ n = s_wrO σ n := rfl
theorem mRel.un0 {A : mA} {B : mB} {σ : gS} (h : mRel (A.sInside 0) B (σ.sIns 0)) (h1 : A.inside = 0) (h2 : σ.ins = 0) : mRel A B σ := ⟨⟨h.1.1, h.1.2.1, fun z => absurd h2 z, h.1.2.2.2⟩, ⟨h.2.1.1, h.2.1.2.1, h1.trans h2.symm, h.2.1.2.2.2⟩, h.2.2⟩
theorem mRel.forget2 {A : mA} {B : mB} {σ : gS} (h : mRel (A.sInside 0) B (σ.sIns 0)) (hs : σ.sc = 0) (hg : ∀ i, σ.gone i = 0) : mRel ((A.sInside 0).sEarlier 0) B (s_forget σ) := ⟨⟨h.1.1, fun z => absurd rfl z, fun z => absurd rfl z, h.1.2.2.2⟩, ⟨h.2.1.1, h.2.1.2.1, rfl, h.2.1.2.2.2.1.trans hs, rfl⟩, h.2.2.1, fun i hi => (h.2.2.2.1 i hi).trans (hg i), h.2.2.2.2⟩
theorem mRel.forget {A A' : mA} {B : mB} {σ : gS} (h : mRel A B σ) (hs : σ.sc = 0) (hg : ∀ i, σ.gone i = 0) (e : A' = (A.sInside 0).sEarlier 0) : mRel A' B (s_forget σ) := by
  rw [e]
  exact mRel.forget2 h.ins0 hs hg
theorem gW_close {σ : gS} (hW : gW σ) (hi : ¬ σ.ins = 0) (ho : σ.off = 0) : gW (s_close σ) := by
  obtain ⟨a1, a2, a3, a4, a5, a6, a7, a8, a9, a10, a11, a12, a13, a14, a15⟩ := σ
  obtain ⟨⟨b1, b2, b3⟩, b4, ⟨b5, b6⟩, ⟨b7, b8, b9⟩, b10, b11, b12⟩ := hW
  unfold s_close s_start gW
  have hi : ¬ a9 = 0 := hi
  have ho : a10 = 0 := ho
  have hb := b10 ho
  have b5 : a7 + a8 ≤ 249 := b5
  by_cases hs : a7 = 0
  · rw [if_pos hs, if_neg hi]
    simp only [gS.now, gS.stm, gS.kept, gS.gone, gS.tape, gS.err, gS.sc, gS.ec, gS.ins, gS.off, gS.wr, gS.en, gS.lo, gS.tr, gS.due, gS.sEc, gS.sSc, gS.sGone] at *
    exact ⟨⟨b1, b2, b3⟩, b4, ⟨by omega, b6⟩, ⟨b7, b8, fun _ _ => Or.inl trivial⟩, fun _ => ⟨hb.1, fun _ => hb.2.1 hs, fun z => absurd z hi⟩, fun z => absurd (ho.symm.trans z) (by decide), fun z => absurd z hi⟩
  · rw [if_neg hs, if_neg hi]
    simp only [gS.now, gS.stm, gS.kept, gS.gone, gS.tape, gS.err, gS.sc, gS.ec, gS.ins, gS.off, gS.wr, gS.en, gS.lo, gS.tr, gS.due, gS.sEc, gS.sSc, gS.sGone, gS.sStm] at *
    exact ⟨⟨b1, b1, b3⟩, b4, ⟨by omega, b6⟩, ⟨b7, b8, fun _ _ => Or.inl trivial⟩, fun _ => ⟨hb.1, fun _ => trivial, fun z => absurd z hi⟩, fun z => absurd (ho.symm.trans z) (by decide), fun z => absurd z hi⟩
