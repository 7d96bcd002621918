/-! THE REFERENCE KEEPS THE STATE -/
def mCopy (B B' : mB) (f t : Nat) : Prop := (∀ k, k < 160 → mEq B (160 * f + k) B' (160 * t + k)) ∧ ∀ j, (j < 160 * t ∨ 160 * t + 160 ≤ j) → mEq B j B' j
section MODR
variable {A A' : mA} {B B' : mB} {σ : gS} {γ : Nat → Option gT} {f t s : Nat}
theorem mCopy.to (h : mCopy B B' f t) (hg : mG B f γ) (hw : w_G γ) : mG B' t γ := hg.eq h.1 hw
theorem mCopy.other (h : mCopy B B' f t) (hg : mG B s γ) (hw : w_G γ) (hs : s ≠ t) : mG B' s γ := hg.eq (fun e he => h.2 _ (by omega)) hw
theorem mCopy.bo (h : mCopy B B' f t) (hb : mBo B) (hf : f < 4) : mBo B' := hb.eq fun j hj => by
  by_cases q : j < 160 * t ∨ 160 * t + 160 ≤ j
  · exact ⟨j, hj, h.2 j q⟩
  · refine ⟨160 * f + (j - 160 * t), by omega, ?_⟩
    have h9 := h.1 (j - 160 * t) (by omega)
    rw [show 160 * t + (j - 160 * t) = j by omega] at h9
    exact h9
theorem mRel.settle (h : mRel A B σ) {g : Nat → Int32} (hg : ∀ i, i < 160 → g i = 0) : mRel ((A.sChanges 0).sTaken g) B (s_start σ) := by
  obtain ⟨⟨a1, a2, a3, a4, a5⟩, ⟨b1, b2, b3, b4, b5⟩, c, d, e, f⟩ := h
  exact ⟨⟨a1, fun z => absurd rfl z, a3, a4, a5⟩, ⟨b1, b2, b3, rfl, b5⟩, c, hg, e, f⟩
/-- one place is new -/
theorem mRel.set (h : mRel A B σ) (hW : w_G σ.now ∧ w_G σ.stm ∧ w_G σ.kept) {i : Nat} {o : Option gT} (hi : i < 160) (hq : ∀ j, j ≠ i → mEq B j B' j) (hT : mT B' i i o) (hb : B'.there i = 0 ∨ B'.there i = 1) : mRel A B' (σ.sNow (va_up σ.now i o)) := by
  obtain ⟨⟨a1, a2, a3, a4, a5⟩, r⟩ := h
  refine ⟨⟨fun e he => ?_, fun z => (a2 z).eq (fun e he => hq _ (by omega)) hW.2.1, fun z => (a3 z).eq (fun e he => hq _ (by omega)) hW.2.2, a4.eq (fun e he => hq _ (by omega)) hW.2.2, fun j hj => ?_⟩, r⟩
  · by_cases z : e = i
    · subst z
      rw [Nat.mul_zero, Nat.zero_add]
      show mT B' e e (va_up σ.now e o e)
      rw [show va_up σ.now e o e = o by simp [va_up]]
      exact hT
    · show mT B' (160 * 0 + e) e (va_up σ.now i o e)
      rw [show va_up σ.now i o e = σ.now e by simp [va_up, z]]
      exact (a1 e he).eq (hq _ (by omega)) (fun t ht => hW.1.1 e he t ht)
  · by_cases z : j = i
    · subst z; exact hb
    · rw [(hq j z).1.1]; exact a5 j hj
theorem mEq_there {g : Nat → Int32} {j : Nat} (h : g j = B.there j) : mEq B j (B.sThere g) j := ⟨⟨h, rfl, rfl, rfl, rfl, rfl⟩, fun _ _ => rfl, fun _ _ => ⟨rfl, rfl, rfl⟩, fun _ _ => rfl⟩
theorem mRel.erase (h : mRel A B σ) (hW : w_G σ.kept) {g g2 : Nat → Int32} (hg : ∀ i, i < 160 → g i = 0) (hg2 : ∀ i, i < 160 → g2 i = 0) (ho : ∀ i, 160 ≤ i → g i = B.there i) : mRel ((((((A.sOff 1).sDue 0).sInside 0).sEarlier 0).sChanges 0).sTaken g2) (B.sThere g) (s_off (σ.sDue 0)) := by
  obtain ⟨⟨a1, a2, a3, a4, a5⟩, ⟨b1, b2, b3, b4, b5⟩, ⟨c1, c2, c3, c4, c5⟩, d, e, f⟩ := h
  have hb : mBo (B.sThere g) := fun j hj => by
    show g j = 0 ∨ g j = 1
    by_cases z : j < 160
    · exact Or.inl (hg j z)
    · rw [ho j (by omega)]; exact a5 j hj
  have h3 : mG (B.sThere g) 3 σ.kept := a4.eq (fun e he => mEq_there (ho _ (by omega))) hW
  have h0 : mG (B.sThere g) 0 (fun _ => none) := fun i hi => by
    show g (160 * 0 + i) = 0
    exact hg _ (by omega)
  unfold mRel s_off s_forget s_start
  simp only [mA.pThrown, mA.pTaken, mA.pTapeSize, mA.pTape, mA.pError, mA.pOff, mA.pInside, mA.pChanges, mA.pEarlier, mA.pLogged, mA.pOver, mA.pLoose, mA.pWritten, mA.pDue, gS.pNow, gS.pStm, gS.pKept, gS.pGone, gS.pTape, gS.pErr, gS.pSc, gS.pEc, gS.pIns, gS.pOff, gS.pWr, gS.pEn, gS.pLo, gS.pTr, gS.pDue]
  exact ⟨⟨h0, fun z => absurd trivial z, fun z => absurd trivial z, h3, hb⟩, ⟨b1, trivial, trivial, trivial, trivial⟩, ⟨c1, c2, c3, c4, trivial⟩, hg2, e, f⟩
end MODR
/-- after i writes of a transaction that didn't fail -/
def s_wrt (σ : gS) (i : Nat) : gS := ((σ.sDue (σ.due - i)).sWr (σ.wr + nI i)).sLo i
theorem s_wrt_next (σ : gS) (i : Nat) : (((s_wrt σ i).sDue ((s_wrt σ i).due - 1)).sWr ((s_wrt σ i).wr + 1)) = (s_wrt σ (i + 1)).sLo i := by
  obtain ⟨a1, a2, a3, a4, a5, a6, a7, a8, a9, a10, a11, a12, a13, a14, a15⟩ := σ
  simp only [s_wrt, gS.wr, gS.due, gS.sNow, gS.sStm, gS.sKept, gS.sGone, gS.sTape, gS.sErr, gS.sSc, gS.sEc, gS.sIns, gS.sOff, gS.sWr, gS.sEn, gS.sLo, gS.sTr, gS.sDue]
  rw [Int32.add_assoc, nI_1, Nat.sub_sub]
theorem s_wrt_fail {σ : gS} {i : Nat} (h : σ.due = i + 1) : s_off ((s_wrt σ i).sDue 0) = s_keepF σ := by
  have e1 : σ.due - 1 = i := by omega
  unfold s_keepF s_wrF
  rw [e1]
  obtain ⟨a1, a2, a3, a4, a5, a6, a7, a8, a9, a10, a11, a12, a13, a14, a15⟩ := σ
  simp only [s_wrt, gS.wr, gS.due, gS.sNow, gS.sStm, gS.sKept, gS.sGone, gS.sTape, gS.sErr, gS.sSc, gS.sEc, gS.sIns, gS.sOff, gS.sWr, gS.sEn, gS.sLo, gS.sTr, gS.sDue]
theorem s_wrt_0 {σ : gS} (h : σ.lo = 0) : s_wrt σ 0 = σ := by
  obtain ⟨a1, a2, a3, a4, a5, a6, a7, a8, a9, a10, a11, a12, a13, a14, a15⟩ := σ
  simp only [gS.lo] at h
  subst h
  simp only [s_wrt, gS.wr, gS.due, gS.sNow, gS.sStm, gS.sKept, gS.sGone, gS.sTape, gS.sErr, gS.sSc, gS.sEc, gS.sIns, gS.sOff, gS.sWr, gS.sEn, gS.sLo, gS.sTr, gS.sDue, nI_0, Nat.sub_zero]
  rw [show a11 + 0 = a11 from Int32.add_zero _]
theorem gW_parts {σ : gS} (h : gW σ) : w_G σ.now ∧ w_G σ.stm ∧ w_G σ.kept := h.1
theorem s_keepO_eq {σ : gS} {k : Nat} (h : σ.lo = 0) : ((((((s_wrt σ (k + 1)).sLo k).sLo 0).sEn (σ.en + (k + 1))).sTr (σ.tr + 1)).sKept σ.now) = s_keepO σ k := by
  obtain ⟨a1, a2, a3, a4, a5, a6, a7, a8, a9, a10, a11, a12, a13, a14, a15⟩ := σ
  simp only [gS.lo] at h
  subst h
  simp only [s_wrt, s_keepO, s_wrO, gS.wr, gS.due, gS.en, gS.tr, gS.now, gS.sNow, gS.sStm, gS.sKept, gS.sGone, gS.sTape, gS.sErr, gS.sSc, gS.sEc, gS.sIns, gS.sOff, gS.sWr, gS.sEn, gS.sLo, gS.sTr, gS.sDue]
theorem s_wrt_lo (σ : gS) (i : Nat) : ((s_wrt σ (i + 1)).sLo i).sLo (i + 1) = s_wrt σ (i + 1) := by
  obtain ⟨a1, a2, a3, a4, a5, a6, a7, a8, a9, a10, a11, a12, a13, a14, a15⟩ := σ
  simp only [s_wrt, gS.wr, gS.due, gS.sNow, gS.sStm, gS.sKept, gS.sGone, gS.sTape, gS.sErr, gS.sSc, gS.sEc, gS.sIns, gS.sOff, gS.sWr, gS.sEn, gS.sLo, gS.sTr, gS.sDue]
theorem s_keepO_eq2 {σ : gS} {k : Nat} (h : σ.lo = 0) : ((((((((s_wrt σ (k + 1)).sLo k).sEn (σ.en + (k + 1))).sTr (σ.tr + 1)).sLo 0).sIns 0).sKept σ.now)) = (s_keepO σ k).sIns 0 := by
  obtain ⟨a1, a2, a3, a4, a5, a6, a7, a8, a9, a10, a11, a12, a13, a14, a15⟩ := σ
  simp only [gS.lo] at h
  subst h
  simp only [s_wrt, s_keepO, s_wrO, gS.wr, gS.due, gS.en, gS.tr, gS.now, gS.sNow, gS.sStm, gS.sKept, gS.sGone, gS.sTape, gS.sErr, gS.sSc, gS.sEc, gS.sIns, gS.sOff, gS.sWr, gS.sEn, gS.sLo, gS.sTr, gS.sDue]
theorem mRel.keep {A : mA} {B B' : mB} {σ : gS} (h : mRel A B σ) (h0 : σ.ins = 0) (hc : mCopy B B' 0 3) {γ δ : Nat → Option gT} (hn : σ.now = γ) (hs : σ.stm = δ) (hw1 : w_G γ) (hw2 : w_G δ) : mRel A B' (σ.sKept γ) := by
  subst hn
  subst hs
  exact ⟨⟨hc.other h.1.1 hw1 (by decide), fun z => hc.other (h.1.2.1 z) hw2 (by decide), fun z => absurd h0 z, hc.to h.1.1 hw1, hc.bo h.1.2.2.2.2 (by decide)⟩, h.2⟩
