/-! PROPERTIES OF THE REFERENCE: laid, dropped, compared -/
theorem mRel.tp {A : mA} {B : mB} {σ : gS} (h : mRel A B σ) {n : Nat} (e : n = σ.tape.length) : mRel (A.sTapeSize n) B σ := ⟨h.1, h.2.1, h.2.2.1, h.2.2.2.1, e, h.2.2.2.2.2⟩
theorem mP_other {B B' : mB} {q q' : Nat} {pr : gP} (h : mP B q pr) (e1 : B'.keys q' = B.keys q) (e2 : B'.kinds q' = B.kinds q) (e3 : B'.values q' = B.values q) (e4 : ∀ k, k < 3 → B'.texts (3 * q' + k) = B.texts (3 * q + k)) (hl : pr.2.2.2.length ≤ 24) : mP B' q' pr :=
  ⟨e1.trans h.1, e2.trans h.2.1, e3.trans h.2.2.1, fun i hi => by rw [e4 (i / 8) (by omega)]; exact h.2.2.2 i hi⟩
def mLaid (B : mB) (pm : Nat → Int32) (q : Nat) (y kd : Int32) (x : Int64) (g : Nat → Int64) : mB := ((((B.sPropertyMany pm).sKeys (upd B.keys q y)).sKinds (upd B.kinds q kd)).sValues (vp_updL B.values q x)).sTexts g
theorem mT_ps {B : mB} {i m : Nat} {t : gT} {ps' : List gP} {pm : Nat → Int32} {y kd : Int32} {x : Int64} {tx : List Int32} {g : Nat → Int64} (hT : mT B i i (some t)) (hm : m < 6) (hw : w_T t) (hl6 : ps'.length ≤ 6) (hpm : pm i = nI ps'.length) (h1 : ps'[m]? = some (y, kd, x, tx)) (h2 : ∀ j, j < ps'.length → j ≠ m → j < t.ps.length ∧ ps'[j]? = t.ps[j]?)
    (hg1 : ∀ k, k < tx.length → m_b (g (3 * (6 * i + m) + k / 8)) (k % 8) = (tx.getD k 0).toInt64) (hg2 : ∀ j, (j < 3 * (6 * i + m) ∨ 3 * (6 * i + m) + 3 ≤ j) → g j = B.texts j) : mT (mLaid B pm (6 * i + m) y kd x g) i i (some (t.sPs ps')) := by
  obtain ⟨k1, k2, k3, k4⟩ := hT
  refine ⟨k1, ⟨hpm, fun j hj => ?_⟩, k3, k4⟩
  by_cases e : j = m
  · subst e
    exact ⟨_, h1, pk_us, pk_us, m_uLs, hg1⟩
  · have hj : j < ps'.length := hj
    obtain ⟨z1, z2⟩ := h2 j hj e
    obtain ⟨pr, e1, b⟩ := k2.2 j z1
    exact ⟨pr, z2.trans e1, mP_other b (pk_un (by omega)) (pk_un (by omega)) (m_uLn (by omega)) (fun k hk => hg2 _ (by omega)) (hw.2.2.2.2 pr (List.mem_of_getElem? e1)).1⟩
theorem mEq_laid {B : mB} {i j m : Nat} {pm : Nat → Int32} {y kd : Int32} {x : Int64} {g : Nat → Int64} (hj : j ≠ i) (hm : m < 6) (hpm : ∀ j, j ≠ i → pm j = B.propertyMany j) (hg2 : ∀ j, (j < 3 * (6 * i + m) ∨ 3 * (6 * i + m) + 3 ≤ j) → g j = B.texts j) : mEq B j (mLaid B pm (6 * i + m) y kd x g) j :=
  ⟨⟨rfl, rfl, rfl, rfl, rfl, hpm j hj⟩, fun _ _ => rfl, fun k hk => ⟨pk_un (by omega), pk_un (by omega), m_uLn (by omega)⟩, fun k hk => hg2 _ (by omega)⟩
theorem ps_set1 {ps : List gP} {m : Nat} {pp : gP} (hm : m < ps.length) : (ps.set m pp)[m]? = some pp := by rw [List.getElem?_set, if_pos rfl, if_pos hm]
theorem ps_set2 {ps : List gP} {m : Nat} {pp : gP} : ∀ j, j < (ps.set m pp).length → j ≠ m → j < ps.length ∧ (ps.set m pp)[j]? = ps[j]? := fun j hj hn => by
  rw [List.length_set] at hj
  exact ⟨hj, by rw [List.getElem?_set, if_neg (Ne.symm hn)]⟩
theorem ps_app1 {ps : List gP} {pp : gP} : (ps ++ [pp])[ps.length]? = some pp := by rw [List.getElem?_append_right (Nat.le_refl _), Nat.sub_self]; rfl
theorem ps_app2 {ps : List gP} {pp : gP} : ∀ j, j < (ps ++ [pp]).length → j ≠ ps.length → j < ps.length ∧ (ps ++ [pp])[j]? = ps[j]? := fun j hj hn => by
  rw [List.length_append, List.length_singleton] at hj
  have h1 : j < ps.length := by omega
  exact ⟨h1, List.getElem?_append_left h1⟩
theorem g_put_set {ps : List gP} {pp : gP} (h : g_pos ps pp.1 < ps.length) : g_put ps pp = ps.set (g_pos ps pp.1) pp := if_pos h
theorem g_put_app {ps : List gP} {pp : gP} (h : ¬ g_pos ps pp.1 < ps.length) : g_put ps pp = ps ++ [pp] := if_neg h
def mDropt (B : mB) (i n : Nat) (g1 g2 : Nat → Int32) (g3 g4 : Nat → Int64) : mB := ((((B.sKeys g1).sKinds g2).sValues g3).sTexts g4).sPropertyMany (upd B.propertyMany i (nI (n - 1)))
theorem mT_drop {B : mB} {i m n : Nat} {t : gT} {g1 g2 : Nat → Int32} {g3 g4 : Nat → Int64} (e1 : ∀ m9, g1 m9 = if 6 * i + m ≤ m9 ∧ m9 < 6 * i + n - 1 then B.keys (m9 + 1) else B.keys m9) (e2 : ∀ m9, g2 m9 = if 6 * i + m ≤ m9 ∧ m9 < 6 * i + n - 1 then B.kinds (m9 + 1) else B.kinds m9) (e3 : ∀ m9, g3 m9 = if 6 * i + m ≤ m9 ∧ m9 < 6 * i + n - 1 then B.values (m9 + 1) else B.values m9) (e4 : ∀ m9, g4 m9 = if 3 * (6 * i + m) ≤ m9 ∧ m9 < 3 * (6 * i + n - 1) then B.texts (m9 + 3) else B.texts m9) (hT : mT B i i (some t)) (hw : w_T t) (hn : n = t.ps.length) (hm : m < n) : mT (mDropt B i n g1 g2 g3 g4) i i (some (t.sPs (t.ps.eraseIdx m))) := by
  obtain ⟨k1, k2, k3, k4⟩ := hT
  have hlen : (t.ps.eraseIdx m).length = n - 1 := by rw [List.length_eraseIdx_of_lt (by omega), hn]
  refine ⟨k1, ⟨?_, fun j hj => ?_⟩, k3, k4⟩
  · show upd B.propertyMany i (nI (n - 1)) i = nI (t.ps.eraseIdx m).length
    rw [pk_us, hlen]
  · have hj : j < (t.ps.eraseIdx m).length := hj
    rw [hlen] at hj
    show ∃ pr, (t.ps.eraseIdx m)[j]? = some pr ∧ _
    rw [List.getElem?_eraseIdx]
    by_cases e : j < m
    · rw [if_pos e]
      obtain ⟨pr, q1, b⟩ := k2.2 j (by omega)
      refine ⟨pr, q1, mP_other b ?_ ?_ ?_ (fun k hk => ?_) (hw.2.2.2.2 pr (List.mem_of_getElem? q1)).1⟩
      · exact (e1 _).trans (if_neg (by omega))
      · exact (e2 _).trans (if_neg (by omega))
      · exact (e3 _).trans (if_neg (by omega))
      · exact (e4 _).trans (if_neg (by omega))
    · rw [if_neg e]
      obtain ⟨pr, q1, b⟩ := k2.2 (j + 1) (by omega)
      refine ⟨pr, q1, mP_other b ?_ ?_ ?_ (fun k hk => ?_) (hw.2.2.2.2 pr (List.mem_of_getElem? q1)).1⟩
      · exact (e1 _).trans (if_pos (by omega))
      · exact (e2 _).trans (if_pos (by omega))
      · exact (e3 _).trans (if_pos (by omega))
      · refine ((e4 _).trans (if_pos (by omega))).trans ?_
        rw [show 3 * (6 * i + j) + k + 3 = 3 * (6 * i + (j + 1)) + k by omega]
theorem mEq_drop {B : mB} {i m n : Nat} {g1 g2 : Nat → Int32} {g3 g4 : Nat → Int64} (e1 : ∀ m9, g1 m9 = if 6 * i + m ≤ m9 ∧ m9 < 6 * i + n - 1 then B.keys (m9 + 1) else B.keys m9) (e2 : ∀ m9, g2 m9 = if 6 * i + m ≤ m9 ∧ m9 < 6 * i + n - 1 then B.kinds (m9 + 1) else B.kinds m9) (e3 : ∀ m9, g3 m9 = if 6 * i + m ≤ m9 ∧ m9 < 6 * i + n - 1 then B.values (m9 + 1) else B.values m9) (e4 : ∀ m9, g4 m9 = if 3 * (6 * i + m) ≤ m9 ∧ m9 < 3 * (6 * i + n - 1) then B.texts (m9 + 3) else B.texts m9) {j : Nat} (hj : j ≠ i) (hn : n ≤ 6) : mEq B j (mDropt B i n g1 g2 g3 g4) j :=
  ⟨⟨rfl, rfl, rfl, rfl, rfl, pk_un hj⟩, fun _ _ => rfl, fun k hk => ⟨(e1 _).trans (if_neg (by omega)), (e2 _).trans (if_neg (by omega)), (e3 _).trans (if_neg (by omega))⟩, fun k hk => (e4 _).trans (if_neg (by omega))⟩
theorem x_i64inj {a b : Int32} (h : a.toInt64 = b.toInt64) : a = b := by
  have h1 := congrArg Int64.toInt h
  rw [x_toI64, x_toI64] at h1
  exact Int32.toInt_inj.mp h1
section SAME
variable {A : mA} {B : mB} {σ : gS} {q : Nat} {pr : gP} {kd : Int32} {x : Int64}
theorem m_same3 (hk : kd = 3) (hR : mRel A B σ) (hp : mP B q pr) (hw : w_P pr) (htl : σ.tape.length ≤ 24) : m_same A B q kd (nI σ.tape.length).toInt64 ↔ pr.2 = (kd, (nI σ.tape.length).toInt64, σ.tape) := by
  subst hk
  have hs := hR.2.2.2.2.1
  have hT := hR.2.2.2.2.2.1
  constructor
  · rintro ⟨k1, k2, k3⟩
    have e1 : pr.2.1 = 3 := hp.2.1.symm.trans k1
    have e2 : pr.2.2.1 = (nI σ.tape.length).toInt64 := hp.2.2.1.symm.trans k2
    have e3 : pr.2.2.2.length = σ.tape.length := by
      have z := x_i64inj ((hw.2.2.1 e1).symm.trans e2)
      exact (nI_eq (by have := hw.1; omega) (by omega)).mp z
    have e4 : pr.2.2.2 = σ.tape := List.ext_getElem e3 (fun i h1 h2 => by
      have z := k3 rfl i (by rw [hs]; exact h2)
      rw [hp.2.2.2 i h1, hT i h2] at z
      have z := x_i64inj z
      rw [List.getD_eq_getElem?_getD, List.getD_eq_getElem?_getD, List.getElem?_eq_getElem h1, List.getElem?_eq_getElem h2] at z
      exact z)
    obtain ⟨a, b, c, d⟩ := pr
    simp only at e1 e2 e4 ⊢
    rw [e1, e2, e4]
  · intro e
    have e1 : pr.2.1 = 3 := by rw [e]
    have e2 : pr.2.2.1 = (nI σ.tape.length).toInt64 := by rw [e]
    have e4 : pr.2.2.2 = σ.tape := by rw [e]
    refine ⟨hp.2.1.trans e1, hp.2.2.1.trans e2, fun _ k hk => ?_⟩
    rw [hs] at hk
    rw [hp.2.2.2 k (by rw [e4]; exact hk), hT k hk, e4]
theorem m_same0 (hk : ¬ kd = 3) (hp : mP B q pr) (hw : w_P pr) : m_same A B q kd x ↔ pr.2 = (kd, x, []) := by
  constructor
  · rintro ⟨k1, k2, -⟩
    have e1 : pr.2.1 = kd := hp.2.1.symm.trans k1
    have e2 : pr.2.2.1 = x := hp.2.2.1.symm.trans k2
    have e4 : pr.2.2.2 = [] := hw.2.2.2.1 (fun z => hk (e1.symm.trans z))
    obtain ⟨a, b, c, d⟩ := pr
    simp only at e1 e2 e4 ⊢
    rw [e1, e2, e4]
  · intro e
    exact ⟨hp.2.1.trans (by rw [e]), hp.2.2.1.trans (by rw [e]), fun z => absurd z hk⟩
end SAME
theorem x_okv3 {kd : Int32} (h : kd = 3) (x : Int64) : x_okv kd x := by
  subst h
  exact ⟨by decide, by decide, fun z => absurd z (by decide)⟩
