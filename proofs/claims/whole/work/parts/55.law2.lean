/-! WHAT HOLDS BETWEEN TWO CALLS OF THE LAW: the keeper at L, the reference at K, the answer's cell o -/
section LAW2
variable {ca : Nat → ClassId} {L K : Nat → Nat} {o : Nat} {σ τ σ' τ' : gS} {f f' : Nat → Int64} {w w' w0 : hv_W} {A : mA} {B : mB}
def lAp (L K : Nat → Nat) (o : Nat) : Prop := (∀ i, i < 15 → ¬ mM K (L i)) ∧ (∀ j, j < 14 → ¬ cM L (K j)) ∧ ¬ cM L o ∧ ¬ mM K o
def lJ (ca : Nat → ClassId) (L K : Nat → Nat) (o : Nat) (σ τ : gS) (f : Nat → Int64) (w : hv_W) : Prop := cP ca L w σ w ∧ (∃ t, mS ca K w t τ w) ∧ w o = some (.inl (ca 3, 1, .inr (.inl f))) ∧ lAp L K o
def lI (ca : Nat → ClassId) (L K : Nat → Nat) (o : Nat) (σ : gS) (f : Nat → Int64) (w : hv_W) : Prop := gX σ ∧ lJ ca L K o σ σ f w
theorem mK.cell (h : mK ca K w0 A B w) {i : Nat} (hi : i < 14) : ∃ e, w (K i) = some e := by
  refine ⟨(mcl ca K A B)[i]'(by show i < 14; exact hi), ?_⟩
  rw [h.1.2 i hi, List.getElem?_eq_getElem]
theorem mcl_big {i : Nat} (hi : i < 14) {e : va_E} (h : (mcl ca K A B)[i]? = some e) : ¬ g_sm e := by
  rcases (show i = 0 ∨ i = 1 ∨ i = 2 ∨ i = 3 ∨ i = 4 ∨ i = 5 ∨ i = 6 ∨ i = 7 ∨ i = 8 ∨ i = 9 ∨ i = 10 ∨ i = 11 ∨ i = 12 ∨ i = 13 by omega) with rfl | rfl | rfl | rfl | rfl | rfl | rfl | rfl | rfl | rfl | rfl | rfl | rfl | rfl <;> cases h
  · exact fun z => absurd z (show ¬ (7 : Nat) < 7 by decide)
  · exact fun z => absurd z (show ¬ (640 : Nat) ≤ 24 by decide)
  · exact fun z => absurd z (show ¬ (640 : Nat) ≤ 24 by decide)
  · exact fun z => absurd z (show ¬ (640 : Nat) ≤ 24 by decide)
  · exact fun z => absurd z (show ¬ (640 : Nat) ≤ 24 by decide)
  · exact fun z => absurd z (show ¬ (640 : Nat) ≤ 24 by decide)
  · exact fun z => absurd z (show ¬ (2560 : Nat) ≤ 24 by decide)
  · exact fun z => absurd z (show ¬ (640 : Nat) ≤ 24 by decide)
  · exact fun z => absurd z (show ¬ (3840 : Nat) ≤ 24 by decide)
  · exact fun z => absurd z (show ¬ (3840 : Nat) ≤ 24 by decide)
  · exact fun z => z
  · exact fun z => z
  · exact fun z => absurd z (show ¬ (160 : Nat) ≤ 24 by decide)
  · exact fun z => z
theorem cP.re (h : cP ca L w0 σ w) : cP ca L w σ w := by
  obtain ⟨P, hM, hR⟩ := h
  exact ⟨P, hM.re, hR⟩
theorem lJ.cls (I : lJ ca L K o σ τ f w) (h : cP ca L w σ' w') : lJ ca L K o σ' τ f w' := by
  obtain ⟨-, ⟨t, A, B, hK, hR, ht⟩, ho, hap⟩ := I
  refine ⟨h.re, ⟨t, A, B, ⟨⟨hK.1.1, fun i hi => ?_⟩, fun _ _ => rfl⟩, hR, ht⟩, h.keep o _ hap.2.2.1 ho, hap⟩
  obtain ⟨e, he⟩ := hK.cell hi
  rw [h.keep (K i) e (hap.2.1 i hi) he, ← he]
  exact hK.1.2 i hi
theorem lJ.out (I : lJ ca L K o σ τ f w) (hW : gW σ) : lJ ca L K o σ τ f' (va_up w o (some (.inl (ca 3, 1, .inr (.inl f'))))) := by
  obtain ⟨hc, ⟨t, A, B, hK, hR, ht⟩, ho, hap⟩ := I
  refine ⟨hc.kS hW (fun i hi => hv_up_n (fun z => hap.2.2.1 ⟨i, hi, z.symm⟩)) (fun b e hb hs he => ?_), ⟨t, A, B, ⟨⟨hK.1.1, fun i hi => ?_⟩, fun _ _ => rfl⟩, hR, ht⟩, hv_up_s, hap⟩
  · have hbo : b ≠ o := fun z => by
      subst z
      rw [ho] at he
      cases he
      exact hs
    rw [hv_up_n hbo]; exact he
  · rw [hv_up_n (fun z => hap.2.2.2 ⟨i, hi, z.symm⟩)]
    exact hK.1.2 i hi
theorem lJ.mod (I : lJ ca L K o σ τ f w) (hW : gW σ) {t : Int32} (h : mS ca K w t τ' w') : lJ ca L K o σ τ' f w' := by
  obtain ⟨hc, ⟨t0, A0, B0, hK0, -, -⟩, ho, hap⟩ := I
  obtain ⟨A, B, hK, hR, ht⟩ := h
  refine ⟨hc.kS hW (fun i hi => hK.2 _ (hap.1 i hi)) (fun b e hb hs he => ?_), ⟨t, A, B, ⟨hK.1, fun _ _ => rfl⟩, hR, ht⟩, (hK.2 o hap.2.2.2).trans ho, hap⟩
  refine (hK.2 b ?_).trans he
  rintro ⟨j, hj, e1⟩
  subst e1
  rw [hK0.1.2 j hj] at he
  exact mcl_big hj he hs
end LAW2
/-- the machine under the law's walk -/
def lF (l : Launch) (s : State) (D : va_G) (ca : Nat → ClassId) (p : Program) (m : MethodId) (c : Code) (b n0 : Nat) (xs : Nat → Int32) : Prop :=
  hv_C l s D (hv_tys ca) ∧ hv_N s ∧ p.tables.exec = Jvm.exec ∧ c.code = b_Law_law ∧ c.maxLocals = 8 ∧ s.vm.findClass R_Law = some m.cls ∧ (∀ w ∈ hv_Ts, w.before #[Value.ref b] s = true) ∧ va_X b n0 xs s s.heap ∧ b < s.heap.size ∧ n0 ≤ 3584
abbrev lLoc (b : Nat) (L K : Nat → Nat) (o i : Nat) : List (Nat × Value) := [(0, .ref b), (1, .ref (L 0)), (2, .ref (K 0)), (3, .ref o), (4, .int (nI i))]
/-- how it goes on behind a call -/
def lKK (p : Program) (l : Launch) (e : Env) (s : State) (m : MethodId) (below : List Frame) (meth : Method) (c : Code) (D : va_G) (ca : Nat → ClassId) (L K : Nat → Nat) (o b i cells slots : Nat) (Q : State → Prop) : Prop :=
  ∀ (w : hv_W) (σ : gS) (f : Nat → Int64), lI ca L K o σ f w → ∀ (H : Heap) (locs : List Loc) (ls : Array Slot), hv_P D classes s.heap.size w H → va_S (hv_A s.heap.size) s.heap H locs → lv_has ls 8 (lLoc b L K o i) → W p l e room_1 s m #[Value.ref b] below meth c H locs (cells + 9) (slots + 69) Q (F0 m 1114 ls [])
