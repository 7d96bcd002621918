/-! STEPS OF THE RELATION -/
def mAo (t : Int32) (k : Nat → Int32) (p : Nat → Int64) (σ : gS) : mA := (t, k, σ.tape.length, p, σ.err, σ.off, σ.ins, σ.sc, σ.ec, σ.en, σ.tr, σ.lo, σ.wr, σ.due)
section MODS
variable {A : mA} {B B' : mB} {σ : gS}
theorem mAo_of (h : mRel A B σ) : ∃ t k p, A = mAo t k p σ := by
  obtain ⟨-, ⟨b1, b2, b3, b4, b5⟩, ⟨c1, c2, c3, c4, c5⟩, -, e, -⟩ := h
  obtain ⟨a1, a2, a3, a4, a5, a6, a7, a8, a9, a10, a11, a12, a13, a14⟩ := A
  refine ⟨a1, a2, a4, ?_⟩
  unfold mAo
  rw [← b1, ← b2, ← b3, ← b4, ← b5, ← c1, ← c2, ← c3, ← c4, ← c5, ← e]
theorem mRel.thr (h : mRel A B σ) (v : Int32) : mRel (A.sThrown v) B σ := h
theorem mRel.err (h : mRel A B σ) (v : Int32) : mRel (A.sError v) B (σ.sErr v) := ⟨h.1, ⟨rfl, h.2.1.2⟩, h.2.2⟩
theorem mRel.ins0 (h : mRel A B σ) : mRel (A.sInside 0) B (σ.sIns 0) := ⟨⟨h.1.1, h.1.2.1, fun z => absurd rfl z, h.1.2.2.2⟩, ⟨h.2.1.1, h.2.1.2.1, rfl, h.2.1.2.2.2⟩, h.2.2⟩
theorem mRel.ins1 (h : mRel A B σ) {v : Int32} (hg : mG B 2 σ.kept) : mRel (A.sInside v) B (σ.sIns v) := ⟨⟨h.1.1, h.1.2.1, fun _ => hg, h.1.2.2.2⟩, ⟨h.2.1.1, h.2.1.2.1, rfl, h.2.1.2.2.2⟩, h.2.2⟩
theorem mRel.ec (h : mRel A B σ) (v : Nat) : mRel (A.sEarlier v) B (σ.sEc v) := ⟨h.1, ⟨h.2.1.1, h.2.1.2.1, h.2.1.2.2.1, h.2.1.2.2.2.1, rfl⟩, h.2.2⟩
theorem mRel.off (h : mRel A B σ) (v : Int32) : mRel (A.sOff v) B (σ.sOff v) := ⟨h.1, ⟨h.2.1.1, rfl, h.2.1.2.2⟩, h.2.2⟩
theorem mRel.en (h : mRel A B σ) (v : Nat) : mRel (A.sLogged v) B (σ.sEn v) := ⟨h.1, h.2.1, ⟨rfl, h.2.2.1.2⟩, h.2.2.2⟩
theorem mRel.tr (h : mRel A B σ) (v : Int32) : mRel (A.sOver v) B (σ.sTr v) := ⟨h.1, h.2.1, ⟨h.2.2.1.1, rfl, h.2.2.1.2.2⟩, h.2.2.2⟩
theorem mRel.lo (h : mRel A B σ) (v : Nat) : mRel (A.sLoose v) B (σ.sLo v) := ⟨h.1, h.2.1, ⟨h.2.2.1.1, h.2.2.1.2.1, rfl, h.2.2.1.2.2.2⟩, h.2.2.2⟩
theorem mRel.wr (h : mRel A B σ) (v : Int32) : mRel (A.sWritten v) B (σ.sWr v) := ⟨h.1, h.2.1, ⟨h.2.2.1.1, h.2.2.1.2.1, h.2.2.1.2.2.1, rfl, h.2.2.1.2.2.2.2⟩, h.2.2.2⟩
theorem mRel.du (h : mRel A B σ) (v : Nat) : mRel (A.sDue v) B (σ.sDue v) := ⟨h.1, h.2.1, ⟨h.2.2.1.1, h.2.2.1.2.1, h.2.2.1.2.2.1, h.2.2.1.2.2.2.1, rfl⟩, h.2.2.2⟩
theorem mRel.gone (h : mRel A B σ) {g k : Nat → Int32} (hg : ∀ i, i < 160 → g i = k i) : mRel (A.sTaken g) B (σ.sGone k) := ⟨h.1, h.2.1, h.2.2.1, hg, h.2.2.2.2⟩
theorem mRel.tape0 (h : mRel A B σ) : mRel (A.sTapeSize 0) B (σ.sTape []) := ⟨h.1, h.2.1, h.2.2.1, h.2.2.2.1, rfl, fun _ hi => absurd hi (Nat.not_lt_zero _), fun _ _ _ hz => absurd rfl hz⟩
theorem m_fr_n {γ : Nat → Option gT} {gone : Nat → Int32} {lo n : Nat} (h : x_free γ gone lo n = none) : m_fr γ gone lo n = -1 := by rw [m_fr, h]
theorem m_fr_s {γ : Nat → Option gT} {gone : Nat → Int32} {lo n i : Nat} (h : x_free γ gone lo n = some i) : m_fr γ gone lo n = nI (lo + i) := by rw [m_fr, h]
theorem x_free_lt {γ : Nat → Option gT} {gone : Nat → Int32} {lo n i : Nat} (h : x_free γ gone lo n = some i) : i < n := List.mem_range.mp (List.mem_of_find?_eq_some h)
theorem m_find2_n {γ : Nat → Option gT} {k n : Int32} (h : x_find γ k n = none) : m_find2 γ k n = -1 := by rw [m_find2, h]
theorem m_find2_s {γ : Nat → Option gT} {k n : Int32} {i : Nat} {t : gT} (h : x_find γ k n = some (i, t)) : m_find2 γ k n = nI i := by rw [m_find2, h]
theorem x_find_some {γ : Nat → Option gT} {k n : Int32} {i : Nat} {t : gT} (h : x_find γ k n = some (i, t)) : γ i = some t ∧ ((k = 4 ∧ i < 64 ∧ n = nI i) ∨ (k = 5 ∧ 64 ≤ i ∧ i < 160 ∧ n = nI (i - 64))) := by
  unfold x_find at h
  cases hx : x_idx k n with
  | none => rw [hx] at h; cases h
  | some e =>
    rw [hx] at h
    dsimp only at h
    cases hg : γ e with
    | none => rw [hg] at h; cases h
    | some u =>
      rw [hg] at h
      cases h
      refine ⟨hg, ?_⟩
      unfold x_idx at hx
      split at hx
      · rename_i hk
        split at hx
        · cases hx
        · rename_i hc
          obtain ⟨j, hj, e⟩ := vp_in_of (gk_in (N := 64) (fun q => hc (Or.inl q)) (fun q => hc (Or.inr q)) (by decide)) (by decide)
          subst e
          rw [nI_clamp (by omega)] at hx
          cases hx
          exact Or.inl ⟨hk, hj, rfl⟩
      · split at hx
        · rename_i hk
          split at hx
          · cases hx
          · rename_i hc
            obtain ⟨j, hj, e⟩ := vp_in_of (gk_in (N := 96) (fun q => hc (Or.inl q)) (fun q => hc (Or.inr q)) (by decide)) (by decide)
            subst e
            rw [nI_clamp (by omega)] at hx
            cases hx
            exact Or.inr ⟨hk, by omega, by omega, by rw [show 64 + j - 64 = j by omega]⟩
        · cases hx
theorem x_find_lt {γ : Nat → Option gT} {k n : Int32} {i : Nat} {t : gT} (h : x_find γ k n = some (i, t)) : i < 160 := by
  rcases (x_find_some h).2 with ⟨-, h1, -⟩ | ⟨-, -, h1, -⟩ <;> omega
theorem mRel.at (h : mRel A B σ) {i : Nat} {t : gT} (hi : i < 160) (ht : σ.now i = some t) : B.there i = 1 ∧ mPs B i t.ps ∧ (i < 64 → mLs B i t.lab) ∧ (¬ i < 64 → B.starts i = t.st ∧ B.ends i = t.en ∧ B.types i = t.ty) := by
  have h9 := mG0 h.1.1 hi
  rw [ht] at h9
  exact h9
end MODS
def mRet (ca : Nat → ClassId) (K : Nat → Nat) (w0 : hv_W) (r : gO) (v : Option Value) (w : hv_W) : Prop := ∃ x, v = some (.int x) ∧ (r.2.1 = 0 → x = r.2.2) ∧ mS ca K w0 (nI r.2.1) r.1 w
theorem mRet.of {ca : Nat → ClassId} {K : Nat → Nat} {w0 w : hv_W} {r : gO} {x : Int32} {A : mA} {B : mB} {r' : gO} (e : r = r') (hx : r'.2.1 = 0 → x = r'.2.2) (hM : mK ca K w0 A B w) (hR : mRel A B r'.1) (ht : A.thrown = nI r'.2.1) : mRet ca K w0 r (some (.int x)) w := by
  subst e
  exact ⟨x, rfl, hx, A, B, hM, hR, ht⟩
/-- a new thing at a place -/
theorem mT_new {B B' : mB} {i : Nat} {t : gT} (h1 : B'.there i = 1) (h2 : B'.propertyMany i = 0) (h3 : t.ps = []) (h4 : i < 64 → B'.labelMany i = 0 ∧ t.lab = []) (h5 : ¬ i < 64 → B'.starts i = t.st ∧ B'.ends i = t.en ∧ B'.types i = t.ty) : mT B' i i (some t) := by
  refine ⟨h1, ⟨by rw [h2, h3]; rfl, fun j hj => ?_⟩, fun z => ⟨by rw [(h4 z).1, (h4 z).2]; rfl, fun j hj => ?_⟩, h5⟩
  · rw [h3] at hj; exact absurd hj (Nat.not_lt_zero _)
  · rw [(h4 z).2] at hj; exact absurd hj (Nat.not_lt_zero _)
section MODS2
variable {A : mA} {B B' : mB} {σ : gS}
theorem mRel.stm0 (h : mRel A B σ) (h0 : σ.sc = 0) (γ : Nat → Option gT) : mRel A B (σ.sStm γ) := ⟨⟨h.1.1, fun z => absurd h0 z, h.1.2.2⟩, h.2⟩
theorem s_start_stm (σ : gS) (γ : Nat → Option gT) : s_start (σ.sStm γ) = (s_start σ).sStm γ := by
  obtain ⟨a1, a2, a3, a4, a5, a6, a7, a8, a9, a10, a11, a12, a13, a14, a15⟩ := σ
  rfl
theorem mRel.closeI (h : mRel A B σ) (hi : ¬ σ.ins = 0) {g : Nat → Int32} (hg : ∀ i, i < 160 → g i = 0) : mRel (((A.sEarlier (σ.ec + σ.sc)).sChanges 0).sTaken g) B (s_close σ) := by
  have h1 := (h.ec (σ.ec + σ.sc)).settle hg
  unfold s_close
  by_cases hs : σ.sc = 0
  · rw [if_pos hs, if_neg hi]; exact h1
  · rw [if_neg hs, if_neg hi, s_start_stm]; exact h1.stm0 rfl _
theorem mRel.closeO (h : mRel A B σ) (hi : σ.ins = 0) {g : Nat → Int32} (hg : ∀ i, i < 160 → g i = 0) : mRel ((A.sChanges 0).sTaken g) B (s_close σ) := by
  have h1 := h.settle hg
  unfold s_close
  by_cases hs : σ.sc = 0
  · rw [if_pos hs, if_pos hi]; exact h1
  · rw [if_neg hs, if_pos hi, s_start_stm]; exact h1.stm0 rfl _
end MODS2
theorem mS_of {ca : Nat → ClassId} {K : Nat → Nat} {w0 w : hv_W} {r : gO} {A : mA} {B : mB} {r' : gO} (e : r = r') (hM : mK ca K w0 A B w) (hR : mRel A B r'.1) (ht : A.thrown = nI r'.2.1) : mS ca K w0 (nI r.2.1) r.1 w := by
  subst e
  exact ⟨A, B, hM, hR, ht⟩
