/-! THE TWO COMMON EXCEPTIONS: their words at every state of the run -/
def hv_kind : Cond → Bool
  | .castable _ _ => true
  | .declares _ => true
  | .laysStatic _ _ _ => true
  | w => goodWord w
def hv_rA : Cond := .isRef (.static "java/lang/Throwable" "UNASSIGNED_STACK" "[Ljava/lang/StackTraceElement;")
def hv_rB : Cond := .isRef (.static "java/lang/Throwable" "SUPPRESSED_SENTINEL" "Ljava/util/List;")
def hv_chk : List Cond → List Nat → Bool
  | [], _ => true
  | _ :: _, [] => false
  | w :: ws, i :: is => ((decide (tables_1[i]? = some w) && hv_kind w) || decide (w = hv_rA) || decide (w = hv_rB)) && hv_chk ws is
theorem hv_chk_of : ∀ {ws : List Cond} {is : List Nat}, hv_chk ws is = true → ∀ w ∈ ws, (w ∈ lw_tbl ∧ hv_kind w = true) ∨ w = hv_rA ∨ w = hv_rB
  | [], _, _, w, hw => by cases hw
  | _ :: _, [], h, _, _ => by cases h
  | w0 :: ws, i :: is, h, w, hw => by
    simp only [hv_chk, Bool.and_eq_true, Bool.or_eq_true, decide_eq_true_eq] at h
    rcases List.mem_cons.mp hw with rfl | hw
    · rcases h.1 with (h1 | h1) | h1
      · exact Or.inl ⟨hv_memL i h1.1, h1.2⟩
      · exact Or.inr (Or.inl h1)
      · exact Or.inr (Or.inr h1)
    · exact hv_chk_of h.2 w hw
theorem hv_Z.refl (s0 : State) : hv_Z s0 s0 := ⟨State.WarmedH.refl s0, Nat.le_refl _, fun _ _ => rfl⟩
section HVEXC
variable {l : Launch} {s0 U : State} {D : va_G} {tys : List (ClassId × FieldType)} {args : Array Value}
theorem hv_kword (C : hv_C l s0 D tys) (hZ : hv_Z s0 U) {w : Cond} (hw : w ∈ lw_tbl) (hk : hv_kind w = true) : w.before args U = true := by
  obtain ⟨A, h0⟩ := C.2.1 w hw
  by_cases hg : goodWord w = true
  · exact word_at hZ.1 (good_of_word hg) h0
  · cases w with
    | castable a b => exact va_Nw.use rfl (va_Nw.warmC hZ.1 (va_Nw.of rfl h0))
    | declares x => exact va_Nw.use rfl (va_Nw.warmD hZ.1 (va_Nw.of rfl h0))
    | laysStatic O f d => exact hv_lowLays hZ h0
    | _ => exact absurd hk hg
theorem hv_refW (C : hv_C l s0 D tys) (hZ : hv_Z s0 U) {f d : String} (hl : Cond.laysStatic "java/lang/Throwable" f d ∈ lw_tbl) (h : ∃ A : Array Value, (Cond.isRef (.static "java/lang/Throwable" f d)).before A s0 = true) : (Cond.isRef (.static "java/lang/Throwable" f d)).before args U = true := by
  obtain ⟨A, h0⟩ := h
  exact hv_lowRef hZ (A := A) (hv_kword C (hv_Z.refl s0) hl rfl) (hv_words C (State.WarmedH.refl s0) _ kn_Throwable) h0
theorem kls_A : Cond.laysStatic "java/lang/Throwable" "UNASSIGNED_STACK" "[Ljava/lang/StackTraceElement;" ∈ lw_tbl := hv_memL 289 (by decide +kernel)
theorem kls_B : Cond.laysStatic "java/lang/Throwable" "SUPPRESSED_SENTINEL" "Ljava/util/List;" ∈ lw_tbl := hv_memL 291 (by decide +kernel)
theorem hv_exW (C : hv_C l s0 D tys) (N : hv_N s0) {ws : List Cond} {is : List Nat} (h : hv_chk ws is = true) (hZ : hv_Z s0 U) : ∀ w ∈ ws, w.before args U = true := fun w hw => by
  rcases hv_chk_of h w hw with ⟨h1, h2⟩ | rfl | rfl
  · exact hv_kword C hZ h1 h2
  · exact hv_refW C hZ kls_A N.2.2.1
  · exact hv_refW C hZ kls_B N.2.2.2.1
theorem hv_strW (C : hv_C l s0 D tys) (hZ : hv_Z s0 U) {is : Nat} {text : String} (hs : Cond.stringRef "GraphKeep" is text ∈ lw_tbl) {sa : Addr} (he : (Term.string "GraphKeep" is).eval #[] s0 none [] s0 = some (.ref sa)) : (Cond.stringRef "GraphKeep" is text).before args U = true ∧ (Term.string "GraphKeep" is).eval args U none [] U = some (.ref sa) := by
  obtain ⟨A, h0⟩ := C.2.1 _ hs
  have h1 := Cond.stringRef_warmed hZ.1 h0
  have hcls : ∃ c, s0.vm.findClass "GraphKeep" = some c := by
    cases hc : s0.vm.findClass "GraphKeep" with
    | some c => exact ⟨c, rfl⟩
    | none => simp [Cond.before, Cond.holds, Cond.value, hc] at h0
  obtain ⟨c, hc⟩ := hcls
  have he' : (Term.string "GraphKeep" is).eval A s0 none [] s0 = some (.ref sa) := by rw [← he]; exact Term.string_eval_of_vm rfl
  have h2 := Term.string_eval_warmed hZ.1 hc h0 he'
  exact ⟨h1, by rw [← h2]; exact Term.string_eval_of_vm rfl⟩
theorem hv_strAt (C : hv_C l s0 D tys) {is : Nat} {text : String} (hs : Cond.stringRef "GraphKeep" is text ∈ lw_tbl) : ∃ sa : Addr, (Term.string "GraphKeep" is).eval #[] s0 none [] s0 = some (.ref sa) := by
  obtain ⟨A, h0⟩ := C.2.1 _ hs
  cases hc : s0.vm.findClass "GraphKeep" with
  | none => simp [Cond.before, Cond.holds, Cond.value, hc] at h0
  | some c =>
    obtain ⟨k, cf, i, a, -, -, -, -, -, h6⟩ := Cond.stringRef_spec hc h0
    exact ⟨a, by rw [← h6]; exact Term.string_eval_of_vm rfl⟩
end HVEXC
def hv_up2 : List String := ["java/lang/RuntimeException", "java/lang/Exception"]
def hv_ik : Nat → Nat | 8 => 146 | _ => 188
def hv_ic : Nat → Nat | 8 => 150 | _ => 192
def hv_ecls : Nat → String | 8 => "java/lang/ArithmeticException" | _ => "java/lang/IllegalStateException"
def hv_ews (E : Nat) : List Cond := Cond.classLink "GraphKeep" (hv_ik E) (hv_ecls E) :: Cond.initialized (hv_ecls E) :: Bundle.ownAtoms "GraphKeep" (hv_ic E) (hv_ecls E) hv_up2
set_option maxRecDepth 20000 in
theorem hv_chk8 : hv_chk (hv_ews 8) [341, 10, 6, 284, 293, 297, 300, 302, 285, 286, 23, 24, 287, 292, 298, 318, 274, 319, 276, 320, 278, 288, 289, 290, 291, 280, 314, 315, 317, 280, 352, 353, 354, 308, 266, 308, 309, 310, 311, 268, 311, 312, 313, 314, 270, 351, 342, 343, 344, 295, 345, 346, 347, 348, 885, 885, 283, 282, 349] = true := by decide +kernel
set_option maxRecDepth 20000 in
theorem hv_chk9 : hv_chk (hv_ews 9) [262, 9, 6, 284, 293, 297, 300, 302, 285, 286, 23, 24, 287, 292, 298, 318, 274, 319, 276, 320, 278, 288, 289, 290, 291, 280, 314, 315, 317, 280, 305, 306, 307, 308, 266, 308, 309, 310, 311, 268, 311, 312, 313, 314, 270, 304, 263, 264, 271, 272, 273, 275, 277, 279, 885, 885, 283, 282, 281] = true := by decide +kernel
theorem hv_exE {l : Launch} {s0 : State} {D : va_G} {tys : List (ClassId × FieldType)} {args : Array Value} (C : hv_C l s0 D tys) (N : hv_N s0) {E : Nat} (hE : E = 8 ∨ E = 9) : ∀ U : State, hv_Z s0 U → ∀ w ∈ hv_ews E, w.before args U = true := fun U hZ => by
  rcases hE with rfl | rfl
  · exact hv_exW C N hv_chk8 hZ
  · exact hv_exW C N hv_chk9 hZ
section HVTHR
variable {p : Program} {l : Launch} {e : Env} {R : Room} {s : State} {m : MethodId} {args : Array Value} {below : List Frame} {meth : Method} {c : Code} {H : Heap} {locs : List Loc} {cells slots : Nat} {Q : State → Prop}
variable {cc : ByteArray} {pc : Nat} {ls : Array Slot} {rest : List Value} {s0 : State} {D : va_G} {w : hv_W} {tys : List (ClassId × FieldType)} {post : Option Value → hv_W → Prop} {postT : Nat → hv_W → Prop}
/-- 'throw new E("text")' in GraphKeep: E is 8 or 9 -/
theorem hv_throwE (C : hv_C l s0 D tys) (N : hv_N s0) {E : Nat} (hE : E = 8 ∨ E = 9) (k : Nat) {text : String} {is : Nat} (hs : Cond.stringRef "GraphKeep" is text ∈ lw_tbl)
    (hexec : p.tables.exec = Jvm.exec) (hb : c.code = cc) (htr : e.platform.stackTraces = false) (hown : s.vm.findClass "GraphKeep" = some m.cls)
    (hK : va_K D classes tys s) (hZ : hv_Z s0 s) (hS : va_S (hv_A s0.heap.size) s.heap H locs) (hP : hv_P D classes s0.heap.size w H)
    (hsize : ls.size = c.maxLocals) (d0 : decode cc pc = .ok (.new (hv_ik E), 3)) (d3 : decode cc (pc + 3) = .ok (.dup, 1)) (d4 : (k = 2 ∧ decode cc (pc + 4) = .ok (.ldc is, 2)) ∨ (k = 3 ∧ decode cc (pc + 4) = .ok (.ldc_w is, 3))) (d6 : decode cc (pc + 4 + k) = .ok (.invokespecial (hv_ic E), 3)) (d9 : decode cc (pc + 4 + k + 3) = .ok (.athrow, 1))
    (hout : ∀ (pc : Nat), ∀ z ∈ c.exceptionTable.toList, covers z pc = false) (hlocks : meth.locks = false)
    (hRf : 5 < R.frames) (hRl : (rest.map fun v => v.category).sum + 82 ≤ R.locals) (hRc : cells + 1 ≤ R.cells) (hRs : slots + 6 ≤ R.slots)
    (hQ : Q = hv_MQ below (hv_Q s0 D post postT) args s (cells + 1) (slots + 6) (hv_A s0.heap.size)) (hq : ∀ x : Nat, w x = none → postT x (va_up w x (some (.inr (E, []))))) :
    W p l e R s m args below meth c H locs cells slots Q (F0 m pc ls rest) := by
  obtain ⟨sa, hsa⟩ := hv_strAt C hs
  have hc : classes[E]? = some (hv_ecls E, F_ex, 0) := by rcases hE with rfl | rfl <;> rfl
  have hfit : Bundle.fit (hv_ecls E) = true := by rcases hE with rfl | rfl <;> decide +kernel
  exact hv_throwK k (text := text) (names := hv_up2) hexec hb htr hown hfit (by decide +kernel) hK hc hZ hS hP (fun U hU => ⟨hv_exE C N hE U hU, (hv_strW C hU hs hsa).1, (hv_strW C hU hs hsa).2⟩) hsize d0 d3 d4 d6 d9 (hout _) hlocks hRf hRl hRc hRs hQ hq
end HVTHR
theorem kstr_256 : Cond.stringRef "GraphKeep" 256 "the house is OFF" ∈ lw_tbl := hv_memL 303 (by decide +kernel)
theorem kstr_258 : Cond.stringRef "GraphKeep" 258 "an ERROR, which error() tells" ∈ lw_tbl := hv_memL 350 (by decide +kernel)
theorem kstr_260 : Cond.stringRef "GraphKeep" 260 "no such NODE" ∈ lw_tbl := hv_memL 398 (by decide +kernel)
theorem kstr_225 : Cond.stringRef "GraphKeep" 225 "no such thing" ∈ lw_tbl := hv_memL 420 (by decide +kernel)
theorem kstr_148 : Cond.stringRef "GraphKeep" 148 "no room in the LOG" ∈ lw_tbl := hv_memL 560 (by decide +kernel)
theorem kstr_295 : Cond.stringRef "GraphKeep" 295 "the power failed at a WRITE to the LOG" ∈ lw_tbl := hv_memL 584 (by decide +kernel)
theorem kstr_190 : Cond.stringRef "GraphKeep" 190 "the power failed at a WRITE of the CHECKPOINT" ∈ lw_tbl := hv_memL 608 (by decide +kernel)
theorem kstr_235 : Cond.stringRef "GraphKeep" 235 "no such PROPERTY" ∈ lw_tbl := hv_memL 632 (by decide +kernel)
theorem kstr_245 : Cond.stringRef "GraphKeep" 245 "no such character" ∈ lw_tbl := hv_memL 633 (by decide +kernel)
theorem hv_Tw {p : Program} {l : Launch} {e : Env} {R : Room} {s : State} {m : MethodId} {args : Array Value} {below : List Frame} {meth : Method} {c : Code} {H : Heap} {locs : List Loc} {cells slots : Nat} {Q : State → Prop} {g : JFrame} {x : Addr} {k n : Nat} (h1 : cells ≤ k) (h2 : slots ≤ n) (kk : hv_T p l e R s m args below meth c H locs k n Q g x) : hv_T p l e R s m args below meth c H locs cells slots Q g x := fun T hT X => kk T hT (stand_widen X h1 h2)
