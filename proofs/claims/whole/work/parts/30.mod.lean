/-! THE REFERENCE: its scalars (mA), its tables of things (mB) -/
abbrev mB : Type := (Nat → Int32) × (Nat → Int32) × (Nat → Int32) × (Nat → Int32) × (Nat → Int32) × (Nat → Int32) × (Nat → Int32) × (Nat → Int32) × (Nat → Int32) × (Nat → Int64) × (Nat → Int64)
abbrev mB.there (x : mB) : Nat → Int32 := x.1
abbrev mB.starts (x : mB) : Nat → Int32 := x.2.1
abbrev mB.ends (x : mB) : Nat → Int32 := x.2.2.1
abbrev mB.types (x : mB) : Nat → Int32 := x.2.2.2.1
abbrev mB.labelMany (x : mB) : Nat → Int32 := x.2.2.2.2.1
abbrev mB.labels (x : mB) : Nat → Int32 := x.2.2.2.2.2.1
abbrev mB.propertyMany (x : mB) : Nat → Int32 := x.2.2.2.2.2.2.1
abbrev mB.keys (x : mB) : Nat → Int32 := x.2.2.2.2.2.2.2.1
abbrev mB.kinds (x : mB) : Nat → Int32 := x.2.2.2.2.2.2.2.2.1
abbrev mB.values (x : mB) : Nat → Int64 := x.2.2.2.2.2.2.2.2.2.1
abbrev mB.texts (x : mB) : Nat → Int64 := x.2.2.2.2.2.2.2.2.2.2
def mB.sThere (x : mB) (v : Nat → Int32) : mB := (v, x.2.1, x.2.2.1, x.2.2.2.1, x.2.2.2.2.1, x.2.2.2.2.2.1, x.2.2.2.2.2.2.1, x.2.2.2.2.2.2.2.1, x.2.2.2.2.2.2.2.2.1, x.2.2.2.2.2.2.2.2.2.1, x.2.2.2.2.2.2.2.2.2.2)
def mB.sStarts (x : mB) (v : Nat → Int32) : mB := (x.1, v, x.2.2.1, x.2.2.2.1, x.2.2.2.2.1, x.2.2.2.2.2.1, x.2.2.2.2.2.2.1, x.2.2.2.2.2.2.2.1, x.2.2.2.2.2.2.2.2.1, x.2.2.2.2.2.2.2.2.2.1, x.2.2.2.2.2.2.2.2.2.2)
def mB.sEnds (x : mB) (v : Nat → Int32) : mB := (x.1, x.2.1, v, x.2.2.2.1, x.2.2.2.2.1, x.2.2.2.2.2.1, x.2.2.2.2.2.2.1, x.2.2.2.2.2.2.2.1, x.2.2.2.2.2.2.2.2.1, x.2.2.2.2.2.2.2.2.2.1, x.2.2.2.2.2.2.2.2.2.2)
def mB.sTypes (x : mB) (v : Nat → Int32) : mB := (x.1, x.2.1, x.2.2.1, v, x.2.2.2.2.1, x.2.2.2.2.2.1, x.2.2.2.2.2.2.1, x.2.2.2.2.2.2.2.1, x.2.2.2.2.2.2.2.2.1, x.2.2.2.2.2.2.2.2.2.1, x.2.2.2.2.2.2.2.2.2.2)
def mB.sLabelMany (x : mB) (v : Nat → Int32) : mB := (x.1, x.2.1, x.2.2.1, x.2.2.2.1, v, x.2.2.2.2.2.1, x.2.2.2.2.2.2.1, x.2.2.2.2.2.2.2.1, x.2.2.2.2.2.2.2.2.1, x.2.2.2.2.2.2.2.2.2.1, x.2.2.2.2.2.2.2.2.2.2)
def mB.sLabels (x : mB) (v : Nat → Int32) : mB := (x.1, x.2.1, x.2.2.1, x.2.2.2.1, x.2.2.2.2.1, v, x.2.2.2.2.2.2.1, x.2.2.2.2.2.2.2.1, x.2.2.2.2.2.2.2.2.1, x.2.2.2.2.2.2.2.2.2.1, x.2.2.2.2.2.2.2.2.2.2)
def mB.sPropertyMany (x : mB) (v : Nat → Int32) : mB := (x.1, x.2.1, x.2.2.1, x.2.2.2.1, x.2.2.2.2.1, x.2.2.2.2.2.1, v, x.2.2.2.2.2.2.2.1, x.2.2.2.2.2.2.2.2.1, x.2.2.2.2.2.2.2.2.2.1, x.2.2.2.2.2.2.2.2.2.2)
def mB.sKeys (x : mB) (v : Nat → Int32) : mB := (x.1, x.2.1, x.2.2.1, x.2.2.2.1, x.2.2.2.2.1, x.2.2.2.2.2.1, x.2.2.2.2.2.2.1, v, x.2.2.2.2.2.2.2.2.1, x.2.2.2.2.2.2.2.2.2.1, x.2.2.2.2.2.2.2.2.2.2)
def mB.sKinds (x : mB) (v : Nat → Int32) : mB := (x.1, x.2.1, x.2.2.1, x.2.2.2.1, x.2.2.2.2.1, x.2.2.2.2.2.1, x.2.2.2.2.2.2.1, x.2.2.2.2.2.2.2.1, v, x.2.2.2.2.2.2.2.2.2.1, x.2.2.2.2.2.2.2.2.2.2)
def mB.sValues (x : mB) (v : Nat → Int64) : mB := (x.1, x.2.1, x.2.2.1, x.2.2.2.1, x.2.2.2.2.1, x.2.2.2.2.2.1, x.2.2.2.2.2.2.1, x.2.2.2.2.2.2.2.1, x.2.2.2.2.2.2.2.2.1, v, x.2.2.2.2.2.2.2.2.2.2)
def mB.sTexts (x : mB) (v : Nat → Int64) : mB := (x.1, x.2.1, x.2.2.1, x.2.2.2.1, x.2.2.2.2.1, x.2.2.2.2.2.1, x.2.2.2.2.2.2.1, x.2.2.2.2.2.2.2.1, x.2.2.2.2.2.2.2.2.1, x.2.2.2.2.2.2.2.2.2.1, v)
abbrev mA : Type := Int32 × (Nat → Int32) × Nat × (Nat → Int64) × Int32 × Int32 × Int32 × Nat × Nat × Nat × Int32 × Nat × Int32 × Nat
abbrev mA.thrown (x : mA) : Int32 := x.1
abbrev mA.taken (x : mA) : Nat → Int32 := x.2.1
abbrev mA.tapeSize (x : mA) : Nat := x.2.2.1
abbrev mA.tape (x : mA) : Nat → Int64 := x.2.2.2.1
abbrev mA.error (x : mA) : Int32 := x.2.2.2.2.1
abbrev mA.off (x : mA) : Int32 := x.2.2.2.2.2.1
abbrev mA.inside (x : mA) : Int32 := x.2.2.2.2.2.2.1
abbrev mA.changes (x : mA) : Nat := x.2.2.2.2.2.2.2.1
abbrev mA.earlier (x : mA) : Nat := x.2.2.2.2.2.2.2.2.1
abbrev mA.logged (x : mA) : Nat := x.2.2.2.2.2.2.2.2.2.1
abbrev mA.over (x : mA) : Int32 := x.2.2.2.2.2.2.2.2.2.2.1
abbrev mA.loose (x : mA) : Nat := x.2.2.2.2.2.2.2.2.2.2.2.1
abbrev mA.written (x : mA) : Int32 := x.2.2.2.2.2.2.2.2.2.2.2.2.1
abbrev mA.due (x : mA) : Nat := x.2.2.2.2.2.2.2.2.2.2.2.2.2
def mA.sThrown (x : mA) (v : Int32) : mA := (v, x.2.1, x.2.2.1, x.2.2.2.1, x.2.2.2.2.1, x.2.2.2.2.2.1, x.2.2.2.2.2.2.1, x.2.2.2.2.2.2.2.1, x.2.2.2.2.2.2.2.2.1, x.2.2.2.2.2.2.2.2.2.1, x.2.2.2.2.2.2.2.2.2.2.1, x.2.2.2.2.2.2.2.2.2.2.2.1, x.2.2.2.2.2.2.2.2.2.2.2.2.1, x.2.2.2.2.2.2.2.2.2.2.2.2.2)
def mA.sTaken (x : mA) (v : Nat → Int32) : mA := (x.1, v, x.2.2.1, x.2.2.2.1, x.2.2.2.2.1, x.2.2.2.2.2.1, x.2.2.2.2.2.2.1, x.2.2.2.2.2.2.2.1, x.2.2.2.2.2.2.2.2.1, x.2.2.2.2.2.2.2.2.2.1, x.2.2.2.2.2.2.2.2.2.2.1, x.2.2.2.2.2.2.2.2.2.2.2.1, x.2.2.2.2.2.2.2.2.2.2.2.2.1, x.2.2.2.2.2.2.2.2.2.2.2.2.2)
def mA.sTapeSize (x : mA) (v : Nat) : mA := (x.1, x.2.1, v, x.2.2.2.1, x.2.2.2.2.1, x.2.2.2.2.2.1, x.2.2.2.2.2.2.1, x.2.2.2.2.2.2.2.1, x.2.2.2.2.2.2.2.2.1, x.2.2.2.2.2.2.2.2.2.1, x.2.2.2.2.2.2.2.2.2.2.1, x.2.2.2.2.2.2.2.2.2.2.2.1, x.2.2.2.2.2.2.2.2.2.2.2.2.1, x.2.2.2.2.2.2.2.2.2.2.2.2.2)
def mA.sTape (x : mA) (v : Nat → Int64) : mA := (x.1, x.2.1, x.2.2.1, v, x.2.2.2.2.1, x.2.2.2.2.2.1, x.2.2.2.2.2.2.1, x.2.2.2.2.2.2.2.1, x.2.2.2.2.2.2.2.2.1, x.2.2.2.2.2.2.2.2.2.1, x.2.2.2.2.2.2.2.2.2.2.1, x.2.2.2.2.2.2.2.2.2.2.2.1, x.2.2.2.2.2.2.2.2.2.2.2.2.1, x.2.2.2.2.2.2.2.2.2.2.2.2.2)
def mA.sError (x : mA) (v : Int32) : mA := (x.1, x.2.1, x.2.2.1, x.2.2.2.1, v, x.2.2.2.2.2.1, x.2.2.2.2.2.2.1, x.2.2.2.2.2.2.2.1, x.2.2.2.2.2.2.2.2.1, x.2.2.2.2.2.2.2.2.2.1, x.2.2.2.2.2.2.2.2.2.2.1, x.2.2.2.2.2.2.2.2.2.2.2.1, x.2.2.2.2.2.2.2.2.2.2.2.2.1, x.2.2.2.2.2.2.2.2.2.2.2.2.2)
def mA.sOff (x : mA) (v : Int32) : mA := (x.1, x.2.1, x.2.2.1, x.2.2.2.1, x.2.2.2.2.1, v, x.2.2.2.2.2.2.1, x.2.2.2.2.2.2.2.1, x.2.2.2.2.2.2.2.2.1, x.2.2.2.2.2.2.2.2.2.1, x.2.2.2.2.2.2.2.2.2.2.1, x.2.2.2.2.2.2.2.2.2.2.2.1, x.2.2.2.2.2.2.2.2.2.2.2.2.1, x.2.2.2.2.2.2.2.2.2.2.2.2.2)
def mA.sInside (x : mA) (v : Int32) : mA := (x.1, x.2.1, x.2.2.1, x.2.2.2.1, x.2.2.2.2.1, x.2.2.2.2.2.1, v, x.2.2.2.2.2.2.2.1, x.2.2.2.2.2.2.2.2.1, x.2.2.2.2.2.2.2.2.2.1, x.2.2.2.2.2.2.2.2.2.2.1, x.2.2.2.2.2.2.2.2.2.2.2.1, x.2.2.2.2.2.2.2.2.2.2.2.2.1, x.2.2.2.2.2.2.2.2.2.2.2.2.2)
def mA.sChanges (x : mA) (v : Nat) : mA := (x.1, x.2.1, x.2.2.1, x.2.2.2.1, x.2.2.2.2.1, x.2.2.2.2.2.1, x.2.2.2.2.2.2.1, v, x.2.2.2.2.2.2.2.2.1, x.2.2.2.2.2.2.2.2.2.1, x.2.2.2.2.2.2.2.2.2.2.1, x.2.2.2.2.2.2.2.2.2.2.2.1, x.2.2.2.2.2.2.2.2.2.2.2.2.1, x.2.2.2.2.2.2.2.2.2.2.2.2.2)
def mA.sEarlier (x : mA) (v : Nat) : mA := (x.1, x.2.1, x.2.2.1, x.2.2.2.1, x.2.2.2.2.1, x.2.2.2.2.2.1, x.2.2.2.2.2.2.1, x.2.2.2.2.2.2.2.1, v, x.2.2.2.2.2.2.2.2.2.1, x.2.2.2.2.2.2.2.2.2.2.1, x.2.2.2.2.2.2.2.2.2.2.2.1, x.2.2.2.2.2.2.2.2.2.2.2.2.1, x.2.2.2.2.2.2.2.2.2.2.2.2.2)
def mA.sLogged (x : mA) (v : Nat) : mA := (x.1, x.2.1, x.2.2.1, x.2.2.2.1, x.2.2.2.2.1, x.2.2.2.2.2.1, x.2.2.2.2.2.2.1, x.2.2.2.2.2.2.2.1, x.2.2.2.2.2.2.2.2.1, v, x.2.2.2.2.2.2.2.2.2.2.1, x.2.2.2.2.2.2.2.2.2.2.2.1, x.2.2.2.2.2.2.2.2.2.2.2.2.1, x.2.2.2.2.2.2.2.2.2.2.2.2.2)
def mA.sOver (x : mA) (v : Int32) : mA := (x.1, x.2.1, x.2.2.1, x.2.2.2.1, x.2.2.2.2.1, x.2.2.2.2.2.1, x.2.2.2.2.2.2.1, x.2.2.2.2.2.2.2.1, x.2.2.2.2.2.2.2.2.1, x.2.2.2.2.2.2.2.2.2.1, v, x.2.2.2.2.2.2.2.2.2.2.2.1, x.2.2.2.2.2.2.2.2.2.2.2.2.1, x.2.2.2.2.2.2.2.2.2.2.2.2.2)
def mA.sLoose (x : mA) (v : Nat) : mA := (x.1, x.2.1, x.2.2.1, x.2.2.2.1, x.2.2.2.2.1, x.2.2.2.2.2.1, x.2.2.2.2.2.2.1, x.2.2.2.2.2.2.2.1, x.2.2.2.2.2.2.2.2.1, x.2.2.2.2.2.2.2.2.2.1, x.2.2.2.2.2.2.2.2.2.2.1, v, x.2.2.2.2.2.2.2.2.2.2.2.2.1, x.2.2.2.2.2.2.2.2.2.2.2.2.2)
def mA.sWritten (x : mA) (v : Int32) : mA := (x.1, x.2.1, x.2.2.1, x.2.2.2.1, x.2.2.2.2.1, x.2.2.2.2.2.1, x.2.2.2.2.2.2.1, x.2.2.2.2.2.2.2.1, x.2.2.2.2.2.2.2.2.1, x.2.2.2.2.2.2.2.2.2.1, x.2.2.2.2.2.2.2.2.2.2.1, x.2.2.2.2.2.2.2.2.2.2.2.1, v, x.2.2.2.2.2.2.2.2.2.2.2.2.2)
def mA.sDue (x : mA) (v : Nat) : mA := (x.1, x.2.1, x.2.2.1, x.2.2.2.1, x.2.2.2.2.1, x.2.2.2.2.2.1, x.2.2.2.2.2.2.1, x.2.2.2.2.2.2.2.1, x.2.2.2.2.2.2.2.2.1, x.2.2.2.2.2.2.2.2.2.1, x.2.2.2.2.2.2.2.2.2.2.1, x.2.2.2.2.2.2.2.2.2.2.2.1, x.2.2.2.2.2.2.2.2.2.2.2.2.1, v)
def mcl (ca : Nat → ClassId) (K : Nat → Nat) (A : mA) (B : mB) : List va_E := [
  .inr (7, [.int A.thrown, .ref (K 1), .ref (K 2), .ref (K 3), .ref (K 4), .ref (K 5), .ref (K 6), .ref (K 7), .ref (K 8), .ref (K 9), .ref (K 10), .ref (K 11), .ref (K 12), .int (nI A.tapeSize), .ref (K 13), .int A.error, .int A.off, .int A.inside, .int (nI A.changes), .int (nI A.earlier), .int (nI A.logged), .int A.over, .int (nI A.loose), .int A.written, .int (nI A.due)]),
  .inl (ca 2, 640, .inl B.there), .inl (ca 0, 640, .inl B.starts), .inl (ca 0, 640, .inl B.ends), .inl (ca 0, 640, .inl B.types), .inl (ca 0, 640, .inl B.labelMany), .inl (ca 0, 2560, .inl B.labels), .inl (ca 0, 640, .inl B.propertyMany), .inl (ca 0, 3840, .inl B.keys), .inl (ca 0, 3840, .inl B.kinds),
  .inl (ca 3, 3840, .inr (.inl B.values)), .inl (ca 3, 11520, .inr (.inl B.texts)), .inl (ca 2, 160, .inl A.taken), .inl (ca 3, 3, .inr (.inl A.tape))]
def mM (K : Nat → Nat) (b : Nat) : Prop := ∃ i, i < 14 ∧ b = K i
def mK (ca : Nat → ClassId) (K : Nat → Nat) (w0 : hv_W) (A : mA) (B : mB) (w : hv_W) : Prop := ((∀ i j, i < 14 → j < 14 → K i = K j → i = j) ∧ ∀ i, i < 14 → w (K i) = (mcl ca K A B)[i]?) ∧ ∀ b, ¬ mM K b → w b = w0 b
section MK
variable {ca : Nat → ClassId} {K : Nat → Nat} {w0 w w' : hv_W} {A A' : mA} {B B' : mB}
theorem mK.ne (h : mK ca K w0 A B w) {i j : Nat} (hi : i < 14) (hj : j < 14) (hn : i ≠ j) : K i ≠ K j := fun e => hn (h.1.1 i j hi hj e)
theorem mK.put (h : mK ca K w0 A B w) (k : Nat) (hk : k < 14) {e : va_E} (he : mcl ca K A' B' = (mcl ca K A B).set k e) : mK ca K w0 A' B' (va_up w (K k) (some e)) := by
  refine ⟨⟨h.1.1, fun i hi => ?_⟩, fun b hb => (hv_up_n (fun z => hb ⟨k, hk, z⟩)).trans (h.2 b hb)⟩
  rw [he, List.getElem?_set]
  by_cases hik : k = i
  · subst hik
    rw [if_pos rfl, if_pos (by show k < 14; exact hk)]
    exact hv_up_s
  · rw [if_neg hik, hv_up_n (h.ne hi hk (Ne.symm hik))]
    exact h.1.2 i hi
end MK
/-! a thing's place holds what another's did -/
def mEq (B : mB) (j : Nat) (B' : mB) (j' : Nat) : Prop := (B'.there j' = B.there j ∧ B'.starts j' = B.starts j ∧ B'.ends j' = B.ends j ∧ B'.types j' = B.types j ∧ B'.labelMany j' = B.labelMany j ∧ B'.propertyMany j' = B.propertyMany j) ∧ (∀ k, k < 4 → B'.labels (4 * j' + k) = B.labels (4 * j + k)) ∧
  (∀ k, k < 6 → B'.keys (6 * j' + k) = B.keys (6 * j + k) ∧ B'.kinds (6 * j' + k) = B.kinds (6 * j + k) ∧ B'.values (6 * j' + k) = B.values (6 * j + k)) ∧ ∀ k, k < 18 → B'.texts (18 * j' + k) = B.texts (18 * j + k)
theorem mEq.refl (B : mB) (j : Nat) : mEq B j B j := ⟨⟨rfl, rfl, rfl, rfl, rfl, rfl⟩, fun _ _ => rfl, fun _ _ => ⟨rfl, rfl, rfl⟩, fun _ _ => rfl⟩
theorem mEq.trans {B B' B'' : mB} {j j' j'' : Nat} (h : mEq B j B' j') (h' : mEq B' j' B'' j'') : mEq B j B'' j'' := by
  obtain ⟨⟨a1, a2, a3, a4, a5, a6⟩, a7, a8, a9⟩ := h
  obtain ⟨⟨b1, b2, b3, b4, b5, b6⟩, b7, b8, b9⟩ := h'
  exact ⟨⟨b1.trans a1, b2.trans a2, b3.trans a3, b4.trans a4, b5.trans a5, b6.trans a6⟩, fun k hk => (b7 k hk).trans (a7 k hk), fun k hk => ⟨(b8 k hk).1.trans (a8 k hk).1, (b8 k hk).2.1.trans (a8 k hk).2.1, (b8 k hk).2.2.trans (a8 k hk).2.2⟩, fun k hk => (b9 k hk).trans (a9 k hk)⟩
def mBo (B : mB) : Prop := ∀ j, j < 640 → B.there j = 0 ∨ B.there j = 1
theorem m_nar {v : Int32} (h : v = 0 ∨ v = 1) : vp_nar .boolean v = v := by rcases h with rfl | rfl <;> decide +kernel
theorem gk_dead {a b : Nat} : True := trivial
/-- one letter of a word of eight -/
def m_b (x : Int64) (k : Nat) : Int64 := (x >>> ((nI (8 * k)).toInt64 &&& 63)) &&& 255
/-! the relation -/
def mP (B : mB) (p : Nat) (pr : gP) : Prop := B.keys p = pr.1 ∧ B.kinds p = pr.2.1 ∧ B.values p = pr.2.2.1 ∧ ∀ i, i < pr.2.2.2.length → m_b (B.texts (3 * p + i / 8)) (i % 8) = (pr.2.2.2.getD i 0).toInt64
def mPs (B : mB) (j : Nat) (ps : List gP) : Prop := B.propertyMany j = nI ps.length ∧ ∀ i, i < ps.length → ∃ pr, ps[i]? = some pr ∧ mP B (6 * j + i) pr
def mLs (B : mB) (j : Nat) (xs : List Int32) : Prop := B.labelMany j = nI xs.length ∧ ∀ i, i < xs.length → B.labels (4 * j + i) = xs.getD i 0
/-- what stands at the place j; e: its number among the 160 -/
def mT (B : mB) (j e : Nat) : Option gT → Prop
  | none => B.there j = 0
  | some t => B.there j = 1 ∧ mPs B j t.ps ∧ (e < 64 → mLs B j t.lab) ∧ (¬ e < 64 → B.starts j = t.st ∧ B.ends j = t.en ∧ B.types j = t.ty)
def mG (B : mB) (s : Nat) (γ : Nat → Option gT) : Prop := ∀ e, e < 160 → mT B (160 * s + e) e (γ e)
def mTp (f : Nat → Int64) (xs : List Int32) : Prop := (∀ i, i < xs.length → m_b (f (i / 8)) (i % 8) = (xs.getD i 0).toInt64) ∧ ∀ i, xs.length ≤ i → i / 8 = xs.length / 8 → ¬ xs.length % 8 = 0 → m_b (f (i / 8)) (i % 8) = 0
def mRel (A : mA) (B : mB) (σ : gS) : Prop := (mG B 0 σ.now ∧ (¬ σ.sc = 0 → mG B 1 σ.stm) ∧ (¬ σ.ins = 0 → mG B 2 σ.kept) ∧ mG B 3 σ.kept ∧ mBo B) ∧ (A.error = σ.err ∧ A.off = σ.off ∧ A.inside = σ.ins ∧ A.changes = σ.sc ∧ A.earlier = σ.ec) ∧ (A.logged = σ.en ∧ A.over = σ.tr ∧ A.loose = σ.lo ∧ A.written = σ.wr ∧ A.due = σ.due) ∧
  (∀ i, i < 160 → A.taken i = σ.gone i) ∧ A.tapeSize = σ.tape.length ∧ mTp A.tape σ.tape
def mS (ca : Nat → ClassId) (K : Nat → Nat) (w0 : hv_W) (t : Int32) (σ : gS) (w : hv_W) : Prop := ∃ A B, mK ca K w0 A B w ∧ mRel A B σ ∧ A.thrown = t
section MREL
variable {A A' : mA} {B B' : mB} {σ : gS} {γ : Nat → Option gT} {j j' e s s' : Nat}
theorem mPs.eq {ps : List gP} (h : mPs B j ps) (q : mEq B j B' j') (hl : ps.length ≤ 6) (ht : ∀ p, p ∈ ps → p.2.2.2.length ≤ 24) : mPs B' j' ps := by
  obtain ⟨h1, h2⟩ := h
  obtain ⟨⟨a1, a2, a3, a4, a5, a6⟩, a7, a8, a9⟩ := q
  refine ⟨a6.trans h1, fun i hi => ?_⟩
  obtain ⟨pr, e1, b1, b2, b3, b4⟩ := h2 i hi
  have hi6 : i < 6 := by omega
  refine ⟨pr, e1, (a8 i hi6).1.trans b1, (a8 i hi6).2.1.trans b2, (a8 i hi6).2.2.trans b3, fun k hk => ?_⟩
  have hk24 := ht pr (List.mem_of_getElem? e1)
  have e2 : 3 * (6 * j' + i) + k / 8 = 18 * j' + (3 * i + k / 8) := by omega
  have e3 : 3 * (6 * j + i) + k / 8 = 18 * j + (3 * i + k / 8) := by omega
  rw [e2, a9 (3 * i + k / 8) (by omega), ← e3]
  exact b4 k hk
theorem mLs.eq {xs : List Int32} (h : mLs B j xs) (q : mEq B j B' j') (hl : xs.length ≤ 4) : mLs B' j' xs := ⟨q.1.2.2.2.2.1.trans h.1, fun i hi => (q.2.1 i (by omega)).trans (h.2 i hi)⟩
theorem mT.eq {o : Option gT} (h : mT B j e o) (q : mEq B j B' j') (hw : ∀ t, o = some t → w_T t) : mT B' j' e o := by
  cases o with
  | none => exact q.1.1.trans h
  | some t =>
    obtain ⟨h1, h2, h3, h4⟩ := h
    have w := hw t rfl
    exact ⟨q.1.1.trans h1, h2.eq q w.2.2.1 (fun p hp => (w.2.2.2.2 p hp).1), fun z => (h3 z).eq q w.1, fun z => ⟨q.1.2.1.trans (h4 z).1, q.1.2.2.1.trans (h4 z).2.1, q.1.2.2.2.1.trans (h4 z).2.2⟩⟩
theorem mG.eq (h : mG B s γ) (q : ∀ e, e < 160 → mEq B (160 * s + e) B' (160 * s' + e)) (hw : w_G γ) : mG B' s' γ := fun e he => (h e he).eq (q e he) (fun t ht => hw.1 e he t ht)
theorem mBo.eq (h : mBo B) (q : ∀ j, j < 640 → ∃ j', j' < 640 ∧ mEq B j' B' j) : mBo B' := fun j hj => by
  obtain ⟨j', h1, h2⟩ := q j hj
  rw [h2.1.1]
  exact h j' h1
end MREL
