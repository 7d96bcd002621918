/-! WHAT THE STATEMENT SAYS OF THE START BESIDE THE TABLES -/
def hv_N (s0 : State) : Prop := va_Nc "GraphKeep$Link" "GraphKeep$Node" s0 ∧ va_Nc "GraphKeep$Node" "GraphKeep$Link" s0 ∧ (∃ A : Array Value, (Cond.isRef (.static "java/lang/Throwable" "UNASSIGNED_STACK" "[Ljava/lang/StackTraceElement;")).before A s0 = true) ∧ (∃ A : Array Value, (Cond.isRef (.static "java/lang/Throwable" "SUPPRESSED_SENTINEL" "Ljava/util/List;")).before A s0 = true) ∧
  va_Nc "java/lang/IllegalStateException" "java/lang/ArithmeticException" s0
/-- kinds of a table's elements -/
def gk_kd (w : hv_W) (ci N : Nat) (f : Nat → Option Nat) : Prop := ∀ i, i < N → ∀ a, f i = some a → ∃ fs, w a = some (.inr (ci, fs))
theorem g_up_none {w : hv_W} {a q : Nat} {e : va_E} (h : va_up w a (some e) q = none) : w q = none := by
  by_cases z : q = a
  · subst z; rw [hv_up_s] at h; cases h
  · rw [hv_up_n z] at h; exact h
