/-! THE STATE THAT BOTH SIDES KEEP -/
abbrev gT : Type := (List Int32) × Int32 × Int32 × Int32 × (List gP)
abbrev gT.lab (x : gT) : List Int32 := x.1
abbrev gT.st (x : gT) : Int32 := x.2.1
abbrev gT.en (x : gT) : Int32 := x.2.2.1
abbrev gT.ty (x : gT) : Int32 := x.2.2.2.1
abbrev gT.ps (x : gT) : List gP := x.2.2.2.2
def gT.sLab (x : gT) (v : List Int32) : gT := (v, x.2.1, x.2.2.1, x.2.2.2.1, x.2.2.2.2)
def gT.sSt (x : gT) (v : Int32) : gT := (x.1, v, x.2.2.1, x.2.2.2.1, x.2.2.2.2)
def gT.sEn (x : gT) (v : Int32) : gT := (x.1, x.2.1, v, x.2.2.2.1, x.2.2.2.2)
def gT.sTy (x : gT) (v : Int32) : gT := (x.1, x.2.1, x.2.2.1, v, x.2.2.2.2)
def gT.sPs (x : gT) (v : List gP) : gT := (x.1, x.2.1, x.2.2.1, x.2.2.2.1, v)
abbrev gS : Type := (Nat → Option gT) × (Nat → Option gT) × (Nat → Option gT) × (Nat → Int32) × (List Int32) × Int32 × Nat × Nat × Int32 × Int32 × Int32 × Nat × Nat × Int32 × Nat
abbrev gS.now (x : gS) : Nat → Option gT := x.1
abbrev gS.stm (x : gS) : Nat → Option gT := x.2.1
abbrev gS.kept (x : gS) : Nat → Option gT := x.2.2.1
abbrev gS.gone (x : gS) : Nat → Int32 := x.2.2.2.1
abbrev gS.tape (x : gS) : List Int32 := x.2.2.2.2.1
abbrev gS.err (x : gS) : Int32 := x.2.2.2.2.2.1
abbrev gS.sc (x : gS) : Nat := x.2.2.2.2.2.2.1
abbrev gS.ec (x : gS) : Nat := x.2.2.2.2.2.2.2.1
abbrev gS.ins (x : gS) : Int32 := x.2.2.2.2.2.2.2.2.1
abbrev gS.off (x : gS) : Int32 := x.2.2.2.2.2.2.2.2.2.1
abbrev gS.wr (x : gS) : Int32 := x.2.2.2.2.2.2.2.2.2.2.1
abbrev gS.en (x : gS) : Nat := x.2.2.2.2.2.2.2.2.2.2.2.1
abbrev gS.lo (x : gS) : Nat := x.2.2.2.2.2.2.2.2.2.2.2.2.1
abbrev gS.tr (x : gS) : Int32 := x.2.2.2.2.2.2.2.2.2.2.2.2.2.1
abbrev gS.due (x : gS) : Nat := x.2.2.2.2.2.2.2.2.2.2.2.2.2.2
def gS.sNow (x : gS) (v : Nat → Option gT) : gS := (v, x.2.1, x.2.2.1, x.2.2.2.1, x.2.2.2.2.1, x.2.2.2.2.2.1, x.2.2.2.2.2.2.1, x.2.2.2.2.2.2.2.1, x.2.2.2.2.2.2.2.2.1, x.2.2.2.2.2.2.2.2.2.1, x.2.2.2.2.2.2.2.2.2.2.1, x.2.2.2.2.2.2.2.2.2.2.2.1, x.2.2.2.2.2.2.2.2.2.2.2.2.1, x.2.2.2.2.2.2.2.2.2.2.2.2.2.1, x.2.2.2.2.2.2.2.2.2.2.2.2.2.2)
def gS.sStm (x : gS) (v : Nat → Option gT) : gS := (x.1, v, x.2.2.1, x.2.2.2.1, x.2.2.2.2.1, x.2.2.2.2.2.1, x.2.2.2.2.2.2.1, x.2.2.2.2.2.2.2.1, x.2.2.2.2.2.2.2.2.1, x.2.2.2.2.2.2.2.2.2.1, x.2.2.2.2.2.2.2.2.2.2.1, x.2.2.2.2.2.2.2.2.2.2.2.1, x.2.2.2.2.2.2.2.2.2.2.2.2.1, x.2.2.2.2.2.2.2.2.2.2.2.2.2.1, x.2.2.2.2.2.2.2.2.2.2.2.2.2.2)
def gS.sKept (x : gS) (v : Nat → Option gT) : gS := (x.1, x.2.1, v, x.2.2.2.1, x.2.2.2.2.1, x.2.2.2.2.2.1, x.2.2.2.2.2.2.1, x.2.2.2.2.2.2.2.1, x.2.2.2.2.2.2.2.2.1, x.2.2.2.2.2.2.2.2.2.1, x.2.2.2.2.2.2.2.2.2.2.1, x.2.2.2.2.2.2.2.2.2.2.2.1, x.2.2.2.2.2.2.2.2.2.2.2.2.1, x.2.2.2.2.2.2.2.2.2.2.2.2.2.1, x.2.2.2.2.2.2.2.2.2.2.2.2.2.2)
def gS.sGone (x : gS) (v : Nat → Int32) : gS := (x.1, x.2.1, x.2.2.1, v, x.2.2.2.2.1, x.2.2.2.2.2.1, x.2.2.2.2.2.2.1, x.2.2.2.2.2.2.2.1, x.2.2.2.2.2.2.2.2.1, x.2.2.2.2.2.2.2.2.2.1, x.2.2.2.2.2.2.2.2.2.2.1, x.2.2.2.2.2.2.2.2.2.2.2.1, x.2.2.2.2.2.2.2.2.2.2.2.2.1, x.2.2.2.2.2.2.2.2.2.2.2.2.2.1, x.2.2.2.2.2.2.2.2.2.2.2.2.2.2)
def gS.sTape (x : gS) (v : List Int32) : gS := (x.1, x.2.1, x.2.2.1, x.2.2.2.1, v, x.2.2.2.2.2.1, x.2.2.2.2.2.2.1, x.2.2.2.2.2.2.2.1, x.2.2.2.2.2.2.2.2.1, x.2.2.2.2.2.2.2.2.2.1, x.2.2.2.2.2.2.2.2.2.2.1, x.2.2.2.2.2.2.2.2.2.2.2.1, x.2.2.2.2.2.2.2.2.2.2.2.2.1, x.2.2.2.2.2.2.2.2.2.2.2.2.2.1, x.2.2.2.2.2.2.2.2.2.2.2.2.2.2)
def gS.sErr (x : gS) (v : Int32) : gS := (x.1, x.2.1, x.2.2.1, x.2.2.2.1, x.2.2.2.2.1, v, x.2.2.2.2.2.2.1, x.2.2.2.2.2.2.2.1, x.2.2.2.2.2.2.2.2.1, x.2.2.2.2.2.2.2.2.2.1, x.2.2.2.2.2.2.2.2.2.2.1, x.2.2.2.2.2.2.2.2.2.2.2.1, x.2.2.2.2.2.2.2.2.2.2.2.2.1, x.2.2.2.2.2.2.2.2.2.2.2.2.2.1, x.2.2.2.2.2.2.2.2.2.2.2.2.2.2)
def gS.sSc (x : gS) (v : Nat) : gS := (x.1, x.2.1, x.2.2.1, x.2.2.2.1, x.2.2.2.2.1, x.2.2.2.2.2.1, v, x.2.2.2.2.2.2.2.1, x.2.2.2.2.2.2.2.2.1, x.2.2.2.2.2.2.2.2.2.1, x.2.2.2.2.2.2.2.2.2.2.1, x.2.2.2.2.2.2.2.2.2.2.2.1, x.2.2.2.2.2.2.2.2.2.2.2.2.1, x.2.2.2.2.2.2.2.2.2.2.2.2.2.1, x.2.2.2.2.2.2.2.2.2.2.2.2.2.2)
def gS.sEc (x : gS) (v : Nat) : gS := (x.1, x.2.1, x.2.2.1, x.2.2.2.1, x.2.2.2.2.1, x.2.2.2.2.2.1, x.2.2.2.2.2.2.1, v, x.2.2.2.2.2.2.2.2.1, x.2.2.2.2.2.2.2.2.2.1, x.2.2.2.2.2.2.2.2.2.2.1, x.2.2.2.2.2.2.2.2.2.2.2.1, x.2.2.2.2.2.2.2.2.2.2.2.2.1, x.2.2.2.2.2.2.2.2.2.2.2.2.2.1, x.2.2.2.2.2.2.2.2.2.2.2.2.2.2)
def gS.sIns (x : gS) (v : Int32) : gS := (x.1, x.2.1, x.2.2.1, x.2.2.2.1, x.2.2.2.2.1, x.2.2.2.2.2.1, x.2.2.2.2.2.2.1, x.2.2.2.2.2.2.2.1, v, x.2.2.2.2.2.2.2.2.2.1, x.2.2.2.2.2.2.2.2.2.2.1, x.2.2.2.2.2.2.2.2.2.2.2.1, x.2.2.2.2.2.2.2.2.2.2.2.2.1, x.2.2.2.2.2.2.2.2.2.2.2.2.2.1, x.2.2.2.2.2.2.2.2.2.2.2.2.2.2)
def gS.sOff (x : gS) (v : Int32) : gS := (x.1, x.2.1, x.2.2.1, x.2.2.2.1, x.2.2.2.2.1, x.2.2.2.2.2.1, x.2.2.2.2.2.2.1, x.2.2.2.2.2.2.2.1, x.2.2.2.2.2.2.2.2.1, v, x.2.2.2.2.2.2.2.2.2.2.1, x.2.2.2.2.2.2.2.2.2.2.2.1, x.2.2.2.2.2.2.2.2.2.2.2.2.1, x.2.2.2.2.2.2.2.2.2.2.2.2.2.1, x.2.2.2.2.2.2.2.2.2.2.2.2.2.2)
def gS.sWr (x : gS) (v : Int32) : gS := (x.1, x.2.1, x.2.2.1, x.2.2.2.1, x.2.2.2.2.1, x.2.2.2.2.2.1, x.2.2.2.2.2.2.1, x.2.2.2.2.2.2.2.1, x.2.2.2.2.2.2.2.2.1, x.2.2.2.2.2.2.2.2.2.1, v, x.2.2.2.2.2.2.2.2.2.2.2.1, x.2.2.2.2.2.2.2.2.2.2.2.2.1, x.2.2.2.2.2.2.2.2.2.2.2.2.2.1, x.2.2.2.2.2.2.2.2.2.2.2.2.2.2)
def gS.sEn (x : gS) (v : Nat) : gS := (x.1, x.2.1, x.2.2.1, x.2.2.2.1, x.2.2.2.2.1, x.2.2.2.2.2.1, x.2.2.2.2.2.2.1, x.2.2.2.2.2.2.2.1, x.2.2.2.2.2.2.2.2.1, x.2.2.2.2.2.2.2.2.2.1, x.2.2.2.2.2.2.2.2.2.2.1, v, x.2.2.2.2.2.2.2.2.2.2.2.2.1, x.2.2.2.2.2.2.2.2.2.2.2.2.2.1, x.2.2.2.2.2.2.2.2.2.2.2.2.2.2)
def gS.sLo (x : gS) (v : Nat) : gS := (x.1, x.2.1, x.2.2.1, x.2.2.2.1, x.2.2.2.2.1, x.2.2.2.2.2.1, x.2.2.2.2.2.2.1, x.2.2.2.2.2.2.2.1, x.2.2.2.2.2.2.2.2.1, x.2.2.2.2.2.2.2.2.2.1, x.2.2.2.2.2.2.2.2.2.2.1, x.2.2.2.2.2.2.2.2.2.2.2.1, v, x.2.2.2.2.2.2.2.2.2.2.2.2.2.1, x.2.2.2.2.2.2.2.2.2.2.2.2.2.2)
def gS.sTr (x : gS) (v : Int32) : gS := (x.1, x.2.1, x.2.2.1, x.2.2.2.1, x.2.2.2.2.1, x.2.2.2.2.2.1, x.2.2.2.2.2.2.1, x.2.2.2.2.2.2.2.1, x.2.2.2.2.2.2.2.2.1, x.2.2.2.2.2.2.2.2.2.1, x.2.2.2.2.2.2.2.2.2.2.1, x.2.2.2.2.2.2.2.2.2.2.2.1, x.2.2.2.2.2.2.2.2.2.2.2.2.1, v, x.2.2.2.2.2.2.2.2.2.2.2.2.2.2)
def gS.sDue (x : gS) (v : Nat) : gS := (x.1, x.2.1, x.2.2.1, x.2.2.2.1, x.2.2.2.2.1, x.2.2.2.2.2.1, x.2.2.2.2.2.2.1, x.2.2.2.2.2.2.2.1, x.2.2.2.2.2.2.2.2.1, x.2.2.2.2.2.2.2.2.2.1, x.2.2.2.2.2.2.2.2.2.2.1, x.2.2.2.2.2.2.2.2.2.2.2.1, x.2.2.2.2.2.2.2.2.2.2.2.2.1, x.2.2.2.2.2.2.2.2.2.2.2.2.2.1, v)
abbrev cT : Type := (Nat → Int32) × (Nat → Int32) × (Nat → Int32) × (Nat → Option Nat) × (Nat → Option Nat) × (Nat → Option Nat) × (Nat → Option Nat) × (Nat → Option Nat) × (Nat → Option Nat)
abbrev cT.gN (x : cT) : Nat → Int32 := x.1
abbrev cT.gL (x : cT) : Nat → Int32 := x.2.1
abbrev cT.tb (x : cT) : Nat → Int32 := x.2.2.1
abbrev cT.nN (x : cT) : Nat → Option Nat := x.2.2.2.1
abbrev cT.nL (x : cT) : Nat → Option Nat := x.2.2.2.2.1
abbrev cT.aN (x : cT) : Nat → Option Nat := x.2.2.2.2.2.1
abbrev cT.aL (x : cT) : Nat → Option Nat := x.2.2.2.2.2.2.1
abbrev cT.kN (x : cT) : Nat → Option Nat := x.2.2.2.2.2.2.2.1
abbrev cT.kL (x : cT) : Nat → Option Nat := x.2.2.2.2.2.2.2.2
def cT.sGN (x : cT) (v : Nat → Int32) : cT := (v, x.2.1, x.2.2.1, x.2.2.2.1, x.2.2.2.2.1, x.2.2.2.2.2.1, x.2.2.2.2.2.2.1, x.2.2.2.2.2.2.2.1, x.2.2.2.2.2.2.2.2)
def cT.sGL (x : cT) (v : Nat → Int32) : cT := (x.1, v, x.2.2.1, x.2.2.2.1, x.2.2.2.2.1, x.2.2.2.2.2.1, x.2.2.2.2.2.2.1, x.2.2.2.2.2.2.2.1, x.2.2.2.2.2.2.2.2)
def cT.sTb (x : cT) (v : Nat → Int32) : cT := (x.1, x.2.1, v, x.2.2.2.1, x.2.2.2.2.1, x.2.2.2.2.2.1, x.2.2.2.2.2.2.1, x.2.2.2.2.2.2.2.1, x.2.2.2.2.2.2.2.2)
def cT.sNN (x : cT) (v : Nat → Option Nat) : cT := (x.1, x.2.1, x.2.2.1, v, x.2.2.2.2.1, x.2.2.2.2.2.1, x.2.2.2.2.2.2.1, x.2.2.2.2.2.2.2.1, x.2.2.2.2.2.2.2.2)
def cT.sNL (x : cT) (v : Nat → Option Nat) : cT := (x.1, x.2.1, x.2.2.1, x.2.2.2.1, v, x.2.2.2.2.2.1, x.2.2.2.2.2.2.1, x.2.2.2.2.2.2.2.1, x.2.2.2.2.2.2.2.2)
def cT.sAN (x : cT) (v : Nat → Option Nat) : cT := (x.1, x.2.1, x.2.2.1, x.2.2.2.1, x.2.2.2.2.1, v, x.2.2.2.2.2.2.1, x.2.2.2.2.2.2.2.1, x.2.2.2.2.2.2.2.2)
def cT.sAL (x : cT) (v : Nat → Option Nat) : cT := (x.1, x.2.1, x.2.2.1, x.2.2.2.1, x.2.2.2.2.1, x.2.2.2.2.2.1, v, x.2.2.2.2.2.2.2.1, x.2.2.2.2.2.2.2.2)
def cT.sKN (x : cT) (v : Nat → Option Nat) : cT := (x.1, x.2.1, x.2.2.1, x.2.2.2.1, x.2.2.2.2.1, x.2.2.2.2.2.1, x.2.2.2.2.2.2.1, v, x.2.2.2.2.2.2.2.2)
def cT.sKL (x : cT) (v : Nat → Option Nat) : cT := (x.1, x.2.1, x.2.2.1, x.2.2.2.1, x.2.2.2.2.1, x.2.2.2.2.2.1, x.2.2.2.2.2.2.1, x.2.2.2.2.2.2.2.1, v)
/-! well-formed -/
def w_P (p : gP) : Prop := p.2.2.2.length ≤ 24 ∧ (∀ y, y ∈ p.2.2.2 → 32 ≤ y ∧ y ≤ 126) ∧ (p.2.1 = 3 → p.2.2.1 = (nI p.2.2.2.length).toInt64) ∧ (¬ p.2.1 = 3 → p.2.2.2 = []) ∧ (p.2.1 = 1 ∨ p.2.1 = 2 ∨ p.2.1 = 3)
def w_T (t : gT) : Prop := t.lab.length ≤ 4 ∧ t.lab.Nodup ∧ t.ps.length ≤ 6 ∧ (t.ps.map (fun q => q.1)).Nodup ∧ ∀ p, p ∈ t.ps → w_P p
def w_G (γ : Nat → Option gT) : Prop := (∀ i, i < 160 → ∀ t, γ i = some t → w_T t) ∧ ∀ i, 64 ≤ i → i < 160 → ∀ t, γ i = some t → ∃ a b, a < 64 ∧ b < 64 ∧ t.st = nI a ∧ t.en = nI b ∧ γ a ≠ none ∧ γ b ≠ none
def gW (σ : gS) : Prop := (w_G σ.now ∧ w_G σ.stm ∧ w_G σ.kept) ∧ (σ.tape.length ≤ 24 ∧ ∀ y, y ∈ σ.tape → 32 ≤ y ∧ y ≤ 126) ∧ (σ.sc + σ.ec ≤ 249 ∧ σ.en ≤ 250 ∧ σ.lo ≤ 250 ∧ σ.due ≤ 2000) ∧ ((σ.off = 0 ∨ σ.off = 1) ∧ (σ.ins = 0 ∨ σ.ins = 1) ∧ ∀ i, i < 160 → σ.gone i = 0 ∨ σ.gone i = 1) ∧
  (σ.off = 0 → σ.lo = 0 ∧ (σ.sc = 0 → σ.stm = σ.now) ∧ (σ.ins = 0 → σ.stm = σ.kept)) ∧ (σ.off = 1 → σ.sc = 0 ∧ σ.ec = 0 ∧ σ.ins = 0 ∧ (∀ i, σ.now i = none) ∧ ∀ i, σ.gone i = 0) ∧ (σ.ins = 0 → σ.ec = 0)
/-! WHAT THE CALLS DO -/
def x_idx (k n : Int32) : Option Nat := if k = 4 then (if n < 0 ∨ 64 ≤ n then none else some n.toNatClampNeg) else if k = 5 then (if n < 0 ∨ 96 ≤ n then none else some (64 + n.toNatClampNeg)) else none
def x_find (γ : Nat → Option gT) (k n : Int32) : Option (Nat × gT) := match x_idx k n with
  | none => none
  | some i => (γ i).map fun t => (i, t)
def x_free (γ : Nat → Option gT) (gone : Nat → Int32) (lo n : Nat) : Option Nat := (List.range n).find? fun i => decide (γ (lo + i) = none ∧ gone (lo + i) = 0)
def x_inch (γ : Nat → Option gT) (i : Nat) (d o : Int32) : Nat := match γ (64 + i) with
  | none => 0
  | some t => if (if o = 0 then t.en else t.st) = d then 1 else 0
def x_cch (γ : Nat → Option gT) (d o : Int32) : Nat → Nat
  | 0 => 0
  | i + 1 => x_cch γ d o i + x_inch γ i d o
def x_cnt (γ : Nat → Option gT) (lo : Nat) : Nat → Nat
  | 0 => 0
  | i + 1 => x_cnt γ lo i + (if γ (lo + i) = none then 0 else 1)
def s_start (σ : gS) : gS := (σ.sSc 0).sGone (fun _ => 0)
def s_undo (σ : gS) : gS := s_start (if σ.sc = 0 then σ else σ.sNow σ.stm)
def s_forget (σ : gS) : gS := ((s_start σ).sEc 0).sIns 0
def s_off (σ : gS) : gS := s_forget ((σ.sOff 1).sNow (fun _ => none))
def s_close (σ : gS) : gS := s_start (if σ.sc = 0 then (if σ.ins = 0 then σ else σ.sEc (σ.ec + σ.sc)) else (if σ.ins = 0 then σ.sStm σ.now else (σ.sEc (σ.ec + σ.sc)).sStm σ.now))
def s_restore (σ : gS) : gS := s_forget ((σ.sNow σ.kept).sStm σ.kept)
/-- the n-th write fails: -/
def s_cut (σ : gS) (n : Nat) : Prop := 0 < σ.due ∧ σ.due ≤ n
theorem s_cut_dec (σ : gS) (n : Nat) : s_cut σ n ∨ ¬ s_cut σ n := Classical.em _
def s_wrF (σ : gS) : gS := (σ.sWr (σ.wr + nI (σ.due - 1))).sDue 0
def s_wrO (σ : gS) (n : Nat) : gS := (σ.sWr (σ.wr + nI n)).sDue (σ.due - n)
def s_keepF (σ : gS) : gS := s_off ((s_wrF σ).sLo (σ.due - 1))
def s_keepO (σ : gS) (n : Nat) : gS := (((s_wrO σ (n + 1)).sEn (σ.en + (n + 1))).sTr (σ.tr + 1)).sKept σ.now
/-! THE CELLS OF THE KEEPER -/
def ccl (ca : Nat → ClassId) (L : Nat → Nat) (σ : gS) (P : cT) : List va_E := [
  .inr (0, [.ref (L 1), .ref (L 2), .ref (L 3), .ref (L 4), .ref (L 5), .ref (L 6), .ref (L 7), .int σ.err, .int (nI σ.sc), .int (nI σ.ec), .int σ.ins, .int σ.off]),
  .inr (1, [.ref (L 8), .ref (L 9)]), .inr (1, [.ref (L 10), .ref (L 11)]), .inr (1, [.ref (L 12), .ref (L 13)]),
  .inr (2, [.int σ.wr, .int (nI σ.en), .int (nI σ.lo), .int σ.tr, .int (nI σ.due)]),
  .inr (3, [.ref (L 14), .int (nI σ.tape.length)]),
  .inl (ca 2, 64, .inl P.gN), .inl (ca 2, 96, .inl P.gL),
  .inl (ca 5, 64, .inr (.inr (.inr (.inr P.nN)))), .inl (ca 6, 96, .inr (.inr (.inr (.inr P.nL)))),
  .inl (ca 5, 64, .inr (.inr (.inr (.inr P.aN)))), .inl (ca 6, 96, .inr (.inr (.inr (.inr P.aL)))),
  .inl (ca 5, 64, .inr (.inr (.inr (.inr P.kN)))), .inl (ca 6, 96, .inr (.inr (.inr (.inr P.kL)))),
  .inl (ca 1, 24, .inl P.tb)]
def cM (L : Nat → Nat) (b : Nat) : Prop := ∃ i, i < 15 ∧ b = L i
def cK (ca : Nat → ClassId) (L : Nat → Nat) (w0 : hv_W) (σ : gS) (P : cT) (w : hv_W) : Prop := ((∀ i j, i < 15 → j < 15 → L i = L j → i = j) ∧ ∀ i, i < 15 → w (L i) = (ccl ca L σ P)[i]?) ∧ g_keep (cM L) w0 w
section CK
variable {ca : Nat → ClassId} {L : Nat → Nat} {w0 w w' : hv_W} {σ σ' : gS} {P P' : cT}
theorem cK.ne (h : cK ca L w0 σ P w) {i j : Nat} (hi : i < 15) (hj : j < 15) (hn : i ≠ j) : L i ≠ L j := fun e => hn (h.1.1 i j hi hj e)
theorem cK.cell (h : cK ca L w0 σ P w) {i : Nat} (hi : i < 15) : ∃ e, w (L i) = some e := by
  refine ⟨(ccl ca L σ P)[i]'(by show i < 15; exact hi), ?_⟩
  rw [h.1.2 i hi, List.getElem?_eq_getElem]
theorem cK.mu (h : cK ca L w0 σ P w) : ∀ b, cM L b → w b ≠ none := fun b ⟨i, hi, e⟩ q => by
  obtain ⟨x, hx⟩ := h.cell hi
  rw [← e, q] at hx
  cases hx
theorem cK.U (h : cK ca L w0 σ P w) (k : Nat) (hk : k < 15) {e : va_E} (hU : hv_U (L k) e w w') (he : ccl ca L σ' P' = (ccl ca L σ P).set k e) : cK ca L w0 σ' P' w' := by
  refine ⟨⟨h.1.1, fun i hi => ?_⟩, fun b f hb hf => (hU.2 b (fun z => hb ⟨k, hk, z⟩)).trans (h.2 b f hb hf)⟩
  rw [he, List.getElem?_set]
  by_cases hik : k = i
  · subst hik
    rw [if_pos rfl, if_pos (by show k < 15; exact hk)]
    exact hU.1
  · rw [if_neg hik, hU.2 _ (h.ne hi hk (Ne.symm hik))]
    exact h.1.2 i hi
theorem hv_Uup {a : Nat} {e : va_E} (w : hv_W) : hv_U a e w (va_up w a (some e)) := ⟨hv_up_s, fun _ hb => hv_up_n hb⟩
theorem cK.put (h : cK ca L w0 σ P w) (k : Nat) (hk : k < 15) {e : va_E} (he : ccl ca L σ' P' = (ccl ca L σ P).set k e) : cK ca L w0 σ' P' (va_up w (L k) (some e)) := h.U k hk (hv_Uup w) he
/-- cells elsewhere are as they were, or new -/
theorem cK.grow (h : cK ca L w0 σ P w) (hg : g_grow w w') : cK ca L w0 σ P w' := by
  refine ⟨⟨h.1.1, fun i hi => ?_⟩, fun b f hb hf => hg b f (h.2 b f hb hf)⟩
  obtain ⟨x, hx⟩ := h.cell hi
  rw [← h.1.2 i hi, hx]
  exact hg _ _ hx
theorem cK.new (h : cK ca L w0 σ P w) {q : Nat} {e : va_E} (hq : w q = none) : cK ca L w0 σ P (va_up w q (some e)) := h.grow (g_grow.new hq)
theorem cK.re (h : cK ca L w0 σ P w) : cK ca L w σ P w := ⟨h.1, g_keep.refl w⟩
theorem cK.tr {w1 : hv_W} (h : g_keep (cM L) w1 w0) (h' : cK ca L w0 σ P w) : cK ca L w1 σ P w := ⟨h'.1, h.trans h'.2⟩
end CK
/-! what the tables of the keeper's graphs hold -/
def g_nodeo (ca : Nat → ClassId) (Mu : Nat → Prop) (w : hv_W) : Option Nat → Option gT → Prop
  | none, none => True
  | some a, some t => g_node ca Mu w a (t.lab, t.ps)
  | _, _ => False
def g_linko (ca : Nat → ClassId) (Mu : Nat → Prop) (w : hv_W) : Option Nat → Option gT → Prop
  | none, none => True
  | some a, some t => g_link ca Mu w a ((t.st, t.en, t.ty), t.ps)
  | _, _ => False
def cG (ca : Nat → ClassId) (Mu : Nat → Prop) (w : hv_W) (fN fL : Nat → Option Nat) (γ : Nat → Option gT) : Prop := (∀ i, i < 64 → g_nodeo ca Mu w (fN i) (γ i)) ∧ ∀ i, i < 96 → g_linko ca Mu w (fL i) (γ (64 + i))
def cR (ca : Nat → ClassId) (L : Nat → Nat) (σ : gS) (P : cT) (w : hv_W) : Prop := cG ca (cM L) w P.nN P.nL σ.now ∧ (σ.off = 0 → cG ca (cM L) w P.aN P.aL σ.stm) ∧ cG ca (cM L) w P.kN P.kL σ.kept ∧ (∀ i, i < 64 → P.gN i = σ.gone i) ∧ (∀ i, i < 96 → P.gL i = σ.gone (64 + i)) ∧ ∀ i, i < σ.tape.length → P.tb i = σ.tape.getD i 0
section CR
variable {ca : Nat → ClassId} {L : Nat → Nat} {w0 w w' : hv_W} {σ σ' : gS} {P P' : cT} {Mu : Nat → Prop} {fN fL : Nat → Option Nat} {γ : Nat → Option gT}
theorem g_nodeo.k {f : Option Nat} {t : Option gT} (h : g_nodeo ca Mu w f t) (k : g_keep Mu w w') : g_nodeo ca Mu w' f t := by
  cases f <;> cases t <;> first | exact h | exact g_node.k h k
theorem g_linko.k {f : Option Nat} {t : Option gT} (h : g_linko ca Mu w f t) (k : g_keep Mu w w') : g_linko ca Mu w' f t := by
  cases f <;> cases t <;> first | exact h | exact g_link.k h k
theorem cG.k (h : cG ca Mu w fN fL γ) (k : g_keep Mu w w') : cG ca Mu w' fN fL γ := ⟨fun i hi => (h.1 i hi).k k, fun i hi => (h.2 i hi).k k⟩
theorem cR.k (h : cR ca L σ P w) (k : g_keep (cM L) w w') : cR ca L σ P w' := ⟨h.1.k k, fun z => (h.2.1 z).k k, h.2.2.1.k k, h.2.2.2⟩
theorem g_keep.U {k : Nat} (hk : k < 15) {e : va_E} (hU : hv_U (L k) e w w') : g_keep (cM L) w w' := fun b f hb hf => (hU.2 b (fun z => hb ⟨k, hk, z⟩)).trans hf
theorem cR.up (h : cR ca L σ P w) (k : Nat) (hk : k < 15) {e : va_E} : cR ca L σ P (va_up w (L k) (some e)) := h.k (g_keep.U hk (hv_Uup w))
theorem cR.new (h : cR ca L σ P w) {q : Nat} {e : va_E} (hq : w q = none) : cR ca L σ P (va_up w q (some e)) := h.k (g_grow.new hq).keep
/-- the keeper is in the state σ -/
def cP (ca : Nat → ClassId) (L : Nat → Nat) (w0 : hv_W) (σ : gS) (w : hv_W) : Prop := ∃ P, cK ca L w0 σ P w ∧ cR ca L σ P w
/-- an exception of the kind E came -/
def cThr (ca : Nat → ClassId) (L : Nat → Nat) (w0 : hv_W) (E : Nat) (σ : gS) (x : Nat) (w : hv_W) : Prop := w x = some (.inr (E, [])) ∧ ¬ cM L x ∧ w0 x = none ∧ cP ca L w0 σ w
theorem cThr.of (hM : cK ca L w0 σ P w) (hR : cR ca L σ P w) {E x : Nat} (hx : w x = none) : cThr ca L w0 E σ x (va_up w x (some (.inr (E, [])))) := by
  have hm : ¬ cM L x := fun q => hM.mu x q hx
  refine ⟨hv_up_s, hm, ?_, P, hM.new hx, hR.new hx⟩
  cases h : w0 x with
  | none => rfl
  | some f => rw [hM.2 x f hm h] at hx; cases hx
theorem cG_kdN (h : cG ca Mu w fN fL γ) : gk_kd w 5 64 fN := fun i hi a ha => by
  have h1 := h.1 i hi
  rw [ha] at h1
  cases hg : γ i with
  | none => rw [hg] at h1; exact h1.elim
  | some t => rw [hg] at h1; obtain ⟨-, pa, lb, h2, -⟩ := h1; exact ⟨_, h2⟩
theorem cG_kdL (h : cG ca Mu w fN fL γ) : gk_kd w 6 96 fL := fun i hi a ha => by
  have h1 := h.2 i hi
  rw [ha] at h1
  cases hg : γ (64 + i) with
  | none => rw [hg] at h1; exact h1.elim
  | some t => rw [hg] at h1; obtain ⟨-, pa, h2, -⟩ := h1; exact ⟨_, h2⟩
theorem cG_copy {fN' fL' : Nat → Option Nat} (h : cG ca Mu w fN fL γ) (h1 : ∀ i, i < 64 → fN' i = fN i) (h2 : ∀ i, i < 96 → fL' i = fL i) : cG ca Mu w fN' fL' γ := ⟨fun i hi => by rw [h1 i hi]; exact h.1 i hi, fun i hi => by rw [h2 i hi]; exact h.2 i hi⟩
theorem cG_none {fN' fL' : Nat → Option Nat} (h1 : ∀ i, i < 64 → fN' i = none) (h2 : ∀ i, i < 96 → fL' i = none) : cG ca Mu w fN' fL' (fun _ => none) := ⟨fun i hi => by rw [h1 i hi]; trivial, fun i hi => by rw [h2 i hi]; trivial⟩
end CR
