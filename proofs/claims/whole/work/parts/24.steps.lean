/-! THE CALLS, AS BOTH SIDES ANSWER THEM: new state, 0 or which exception, answer -/
noncomputable def cif {α : Type} (p : Prop) (a b : α) : α := @ite α p (Classical.propDecidable p) a b
theorem cif_pos {α : Type} {p : Prop} {a b : α} (h : p) : cif p a b = a := @if_pos p (Classical.propDecidable p) h α a b
theorem cif_neg {α : Type} {p : Prop} {a b : α} (h : ¬ p) : cif p a b = b := @if_neg p (Classical.propDecidable p) h α a b
abbrev gO : Type := gS × Nat × Int32
def e_T : gT := ([], 0, 0, 0, [])
noncomputable def x_type (σ : gS) (y : Int64) (n : Int32) : gO := cif (t_good y n σ.tape.length) (σ.sTape (σ.tape ++ t_acc y n.toNatClampNeg n.toNatClampNeg), 0, 1) (σ, 0, 0)
def x_one (σ : gS) (i : Nat) (t : Option gT) : gS := (σ.sSc (σ.sc + 1)).sNow (va_up σ.now i t)
noncomputable def x_node (σ : gS) : gO := cif (σ.off = 0) (match x_free σ.now σ.gone 0 64 with
  | none => (σ.sErr 6, 1, 0)
  | some i => cif (249 ≤ σ.ec + σ.sc) (σ.sErr 9, 1, 0) (x_one σ i (some e_T), 0, nI i)) (σ, 2, 0)
noncomputable def x_label (σ : gS) (n y o : Int32) : gO := cif (σ.off = 0) (match x_find σ.now 4 n with
  | none => (σ.sErr 8, 1, 0)
  | some (i, t) => cif (y ∈ t.lab ↔ ¬ o = 0) (σ, 0, 0) (cif (¬ o = 0 ∧ 4 ≤ t.lab.length) (σ.sErr 6, 1, 0) (cif (249 ≤ σ.ec + σ.sc) (σ.sErr 9, 1, 0) (x_one σ i (some (t.sLab (cif (o = 0) (t.lab.erase y) (t.lab ++ [y])))), 0, 1)))) (σ, 2, 0)
noncomputable def x_put (σ : gS) (i : Nat) (t : gT) (pp : gP) : gO := cif (x_pk t.ps pp = 0) (σ, 0, 0) (cif (x_pk t.ps pp = 1) (σ.sErr 6, 1, 0) (cif (249 ≤ σ.ec + σ.sc) (σ.sErr 9, 1, 0) (x_one σ i (some (t.sPs (g_put t.ps pp))), 0, 1)))
noncomputable def x_drp (σ : gS) (i : Nat) (t : gT) (y : Int32) : gO := match g_look t.ps y with
  | none => (σ, 0, 0)
  | some _ => cif (249 ≤ σ.ec + σ.sc) (σ.sErr 9, 1, 0) (x_one σ i (some (t.sPs (g_drop t.ps y))), 0, 1)
noncomputable def x_property (σ : gS) (k n y kd : Int32) (v : Int64) : gO := cif (σ.off = 0) (match x_find σ.now k n with
  | none => (σ.sErr 8, 1, 0)
  | some (i, t) => cif (x_okv kd v) (cif (kd = 0) (x_drp σ i t y) (cif (kd = 3) (x_put (σ.sTape []) i t (y, kd, (nI σ.tape.length).toInt64, σ.tape)) (x_put σ i t (y, kd, v, [])))) (σ.sErr 2, 1, 0)) (σ, 2, 0)
noncomputable def x_link (σ : gS) (a b ty : Int32) : gO := cif (σ.off = 0) (cif (x_find σ.now 4 a = none ∨ x_find σ.now 4 b = none) (σ.sErr 8, 1, 0) (match x_free σ.now σ.gone 64 96 with
  | none => (σ.sErr 6, 1, 0)
  | some i => cif (249 ≤ σ.ec + σ.sc) (σ.sErr 9, 1, 0) (x_one σ (64 + i) (some ([], a, b, ty, [])), 0, nI i))) (σ, 2, 0)
noncomputable def x_take (σ : gS) (k n : Int32) : gO := cif (σ.off = 0) (match x_find σ.now k n with
  | none => (σ.sErr 8, 1, 0)
  | some (i, _) => cif (k = 4 ∧ ¬ x_cch σ.now n 1 96 + x_cch σ.now n 0 96 = 0) (σ.sErr 7, 1, 0) (cif (249 ≤ σ.ec + σ.sc) (σ.sErr 9, 1, 0) ((x_one σ i none).sGone (upd σ.gone i 1), 0, 0))) (σ, 2, 0)
def x_wf (k : Nat) : Nat := if k = 0 then 0 else k + 1
def x_room (σ : gS) (k : Nat) : Prop := σ.en + x_wf k ≤ 250
noncomputable def x_done (σ : gS) : gO := cif (σ.off = 0) (cif (σ.ins = 0 ∧ ¬ x_room σ σ.sc) ((s_undo σ).sErr 9, 1, 0) (cif (σ.ins = 0 ∧ 0 < σ.sc ∧ s_cut σ (σ.sc + 1)) (s_keepF σ, 2, 0) (s_close (cif (σ.ins = 0 ∧ 0 < σ.sc) (s_keepO σ σ.sc) σ), 0, nI σ.sc))) (σ, 2, 0)
def x_undo (σ : gS) : gO := (s_undo σ, 0, nI σ.sc)
noncomputable def x_begin (σ : gS) : gO := cif (σ.off = 0 ∧ σ.ins = 0) ((s_undo σ).sIns 1, 0, 1) (σ, 0, 0)
noncomputable def x_com1 (σ : gS) : gO := cif (x_room σ σ.ec) (cif (0 < σ.ec ∧ s_cut σ (σ.ec + 1)) (s_keepF σ, 1, 0) (s_forget (cif (0 < σ.ec) (s_keepO σ σ.ec) σ), 0, nI (x_wf σ.ec))) (σ, 0, -2)
noncomputable def x_commit (σ : gS) : gO := cif (σ.off = 0) (cif (σ.ins = 0) (σ, 0, -1) (x_com1 (s_close σ))) (σ, 1, 0)
noncomputable def x_rollback (σ : gS) : gO := cif (σ.ins = 0) (σ, 0, 0) (s_restore σ, 0, 1)
def x_many (σ : gS) : Nat := x_cnt σ.now 0 64 + x_cnt σ.now 64 96 + 1
noncomputable def x_checkpoint (σ : gS) : gO := cif (σ.off = 0) (cif (σ.ins = 0 ∧ σ.sc = 0) (cif (s_cut σ (x_many σ)) (s_off (s_wrF σ), 1, 0) (((s_wrO σ (x_many σ)).sEn 0).sTr 0, 0, nI (x_many σ))) (σ, 0, -1)) (σ, 1, 0)
noncomputable def x_cut (σ : gS) (n : Int32) : gO := cif (σ.off = 0 ∧ ¬ n < 0 ∧ n ≤ 2000) (σ.sDue n.toNatClampNeg, 0, 1) (σ, 0, 0)
def x_recover (σ : gS) : gO := (((s_restore (σ.sOff 0)).sLo 0).sDue 0, 0, σ.tr)
def x_thing (σ : gS) (k n wh : Int32) : Int32 := match x_find σ.now k n with
  | none => -1
  | some (_, t) => if wh = 0 then nI t.ps.length else if k = 4 then x_nf σ.now t n wh else x_lf t wh
/-- the k-th link of a chain, or none -/
def x_kth (γ : Nat → Option gT) (d o k r : Int32) : Prop :=
  (∃ i, i < 96 ∧ r = nI i ∧ ¬ x_inch γ i d o = 0 ∧ k = nI (x_cch γ d o i)) ∨ (r = -1 ∧ ∀ j, j < 96 → ¬ x_inch γ j d o = 0 → ¬ nI (x_cch γ d o j) = k)
def x_has (σ : gS) (n y : Int32) : Int32 := match x_find σ.now 4 n with
  | none => 0
  | some (_, t) => if y ∈ t.lab then 1 else 0
def x_val (p : gP) (wh : Int32) : Nat × Int64 := if wh = -1 then (0, p.2.1.toInt64) else if wh = -2 then (0, p.2.2.1) else if wh < 0 ∨ nI p.2.2.2.length ≤ wh then (1, 0) else (0, (p.2.2.2.getD wh.toNatClampNeg 0).toInt64)
def x_value (σ : gS) (k n y wh : Int32) : Nat × Int64 := match x_find σ.now k n with
  | none => (1, 0)
  | some (_, t) => match g_look t.ps y with
    | none => if wh = -1 then (0, 0) else (1, 0)
    | some p => x_val p wh
def x_state (σ : gS) (wh : Int32) : Int32 := if wh = 0 then nI (x_cnt σ.now 0 64) else if wh = 1 then nI (x_cnt σ.now 64 96) else if wh = 2 then σ.wr else if wh = 3 then nI (σ.en + σ.lo) else if wh = 4 then (if σ.off = 0 then 0 else 1) else if wh = 5 then (if σ.ins = 0 then 0 else 1) else if wh = 6 then nI (σ.ec + σ.sc) else -1
section STEPS
variable (ca : Nat → ClassId) (L : Nat → Nat) (w0 : hv_W)
def cRet (r : gO) (v : Option Value) (w : hv_W) : Prop := r.2.1 = 0 ∧ v = some (.int r.2.2) ∧ cP ca L w0 r.1 w
def cEx (r : gO) (x : Nat) (w : hv_W) : Prop := (r.2.1 = 1 ∧ cThr ca L w0 8 r.1 x w) ∨ (r.2.1 = 2 ∧ cThr ca L w0 9 r.1 x w)
def cEx1 (r : gO) (x : Nat) (w : hv_W) : Prop := r.2.1 = 1 ∧ cThr ca L w0 9 r.1 x w
end STEPS
theorem gW.hb {σ : gS} (h : gW σ) : σ.ec + σ.sc ≤ 249 := by have := h.2.2.1.1; omega
theorem gW.tape {σ : gS} (h : gW σ) : σ.tape.length ≤ 24 := h.2.1.1
theorem gW.asc {σ : gS} (h : gW σ) : ∀ y, y ∈ σ.tape → 32 ≤ y ∧ y ≤ 126 := h.2.1.2
theorem gW.un {σ : gS} (h : gW σ) : ¬ σ.sc = 0 → σ.off = 0 := fun q => by
  rcases h.2.2.2.1.1 with z | z
  · exact z
  · exact absurd (h.2.2.2.2.2.1 z).1 q
theorem gW.t {σ : gS} (h : gW σ) {i : Nat} {t : gT} (hi : i < 160) (ht : σ.now i = some t) : w_T t := h.1.1.1 i hi t ht
theorem x_kth_of {ca : Nat → ClassId} {Mu : Nat → Prop} {w : hv_W} {fN fL : Nat → Option Nat} {γ : Nat → Option gT} (h : cG ca Mu w fN fL γ) {d o k r : Int32} (hk : gk_kth fL (g_lkf w) d o k r) : x_kth γ d o k r := by
  rcases hk with ⟨i, hi, h1, h2, h3, -⟩ | ⟨h1, h2⟩
  · refine Or.inl ⟨i, hi, h1, fun q => h2 ?_, ?_⟩
    · rw [g_inch h hi, q]; rfl
    · rw [h3, g_cch h d o i (by omega)]
  · refine Or.inr ⟨h1, fun j hj q z => h2 j hj (fun y => q ?_) ?_⟩
    · rw [g_inch h hj] at y
      rcases x_inch_01 γ j d o with e | e
      · exact e
      · rw [e] at y; exact absurd y (by decide)
    · rw [g_cch h d o j (by omega)]; exact z
