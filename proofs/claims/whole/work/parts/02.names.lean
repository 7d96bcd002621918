/-! NAMES: written by program out of the listing and the tables -/
abbrev R_Gr : String := "GraphKeep$Graph"
abbrev R_Lk : String := "GraphKeep$Link"
abbrev R_Lg : String := "GraphKeep$Log"
abbrev R_Nd : String := "GraphKeep$Node"
abbrev R_Pr : String := "GraphKeep$Property"
abbrev R_Tp : String := "GraphKeep$Tape"
abbrev R_Th : String := "GraphKeep$Thing"
abbrev R_GK : String := "GraphKeep"
abbrev R_Law : String := "GraphKeepLaw"
abbrev R_Model : String := "GraphKeepModel"
def F_GK : u_T := fun k => match k with
  | 0 => ("GraphKeep", "now", "LGraphKeep$Graph;", true)
  | 1 => ("GraphKeep", "atStatement", "LGraphKeep$Graph;", true)
  | 2 => ("GraphKeep", "kept", "LGraphKeep$Graph;", true)
  | 3 => ("GraphKeep", "log", "LGraphKeep$Log;", true)
  | 4 => ("GraphKeep", "tape", "LGraphKeep$Tape;", true)
  | 5 => ("GraphKeep", "goneNodes", "[Z", true)
  | 6 => ("GraphKeep", "goneLinks", "[Z", true)
  | 7 => ("GraphKeep", "latestError", "I", false)
  | 8 => ("GraphKeep", "statementChanges", "I", false)
  | 9 => ("GraphKeep", "earlierChanges", "I", false)
  | 10 => ("GraphKeep", "inTransaction", "Z", false)
  | _ => ("GraphKeep", "off", "Z", false)
def t_GK : Nat → FieldType := fun k => match k with
  | 0 => .object "GraphKeep$Graph"
  | 1 => .object "GraphKeep$Graph"
  | 2 => .object "GraphKeep$Graph"
  | 3 => .object "GraphKeep$Log"
  | 4 => .object "GraphKeep$Tape"
  | 5 => .array .boolean
  | 6 => .array .boolean
  | 7 => .int
  | 8 => .int
  | 9 => .int
  | 10 => .boolean
  | _ => .boolean
theorem n_GK : ∀ a, a < 12 → ∀ b, b < 12 → a ≠ b → (F_GK a).2.1 ≠ (F_GK b).2.1 := by decide +kernel
theorem t_GK_ok : ∀ k, k < 12 → parseFieldDescriptor (F_GK k).2.2.1 = some (t_GK k) := by decide +kernel
theorem z_GK : ∀ j, j < 12 → defaultValue (t_GK j) = vp_V [.null, .null, .null, .null, .null, .null, .null, .int 0, .int 0, .int 0, .int 0, .int 0] j := fun j hj => by
  rcases (show j = 0 ∨ j = 1 ∨ j = 2 ∨ j = 3 ∨ j = 4 ∨ j = 5 ∨ j = 6 ∨ j = 7 ∨ j = 8 ∨ j = 9 ∨ j = 10 ∨ j = 11 by omega) with rfl | rfl | rfl | rfl | rfl | rfl | rfl | rfl | rfl | rfl | rfl | rfl <;> rfl
def F_Gr : u_T := fun k => match k with
  | 0 => ("GraphKeep$Graph", "nodes", "[LGraphKeep$Node;", true)
  | _ => ("GraphKeep$Graph", "links", "[LGraphKeep$Link;", true)
def t_Gr : Nat → FieldType := fun k => match k with
  | 0 => .array (.object "GraphKeep$Node")
  | _ => .array (.object "GraphKeep$Link")
theorem n_Gr : ∀ a, a < 2 → ∀ b, b < 2 → a ≠ b → (F_Gr a).2.1 ≠ (F_Gr b).2.1 := by decide +kernel
theorem t_Gr_ok : ∀ k, k < 2 → parseFieldDescriptor (F_Gr k).2.2.1 = some (t_Gr k) := by decide +kernel
theorem z_Gr : ∀ j, j < 2 → defaultValue (t_Gr j) = vp_V [.null, .null] j := fun j hj => by
  rcases (show j = 0 ∨ j = 1 by omega) with rfl | rfl <;> rfl
def F_Lg : u_T := fun k => match k with
  | 0 => ("GraphKeep$Log", "writes", "I", false)
  | 1 => ("GraphKeep$Log", "ended", "I", false)
  | 2 => ("GraphKeep$Log", "loose", "I", false)
  | 3 => ("GraphKeep$Log", "transactions", "I", false)
  | _ => ("GraphKeep$Log", "writesTillFailure", "I", false)
def t_Lg : Nat → FieldType := fun k => match k with
  | 0 => .int
  | 1 => .int
  | 2 => .int
  | 3 => .int
  | _ => .int
theorem n_Lg : ∀ a, a < 5 → ∀ b, b < 5 → a ≠ b → (F_Lg a).2.1 ≠ (F_Lg b).2.1 := by decide +kernel
theorem t_Lg_ok : ∀ k, k < 5 → parseFieldDescriptor (F_Lg k).2.2.1 = some (t_Lg k) := by decide +kernel
theorem z_Lg : ∀ j, j < 5 → defaultValue (t_Lg j) = vp_V [.int 0, .int 0, .int 0, .int 0, .int 0] j := fun j hj => by
  rcases (show j = 0 ∨ j = 1 ∨ j = 2 ∨ j = 3 ∨ j = 4 by omega) with rfl | rfl | rfl | rfl | rfl <;> rfl
def F_Tp : u_T := fun k => match k with
  | 0 => ("GraphKeep$Tape", "characters", "[B", true)
  | _ => ("GraphKeep$Tape", "length", "I", false)
def t_Tp : Nat → FieldType := fun k => match k with
  | 0 => .array .byte
  | _ => .int
theorem n_Tp : ∀ a, a < 2 → ∀ b, b < 2 → a ≠ b → (F_Tp a).2.1 ≠ (F_Tp b).2.1 := by decide +kernel
theorem t_Tp_ok : ∀ k, k < 2 → parseFieldDescriptor (F_Tp k).2.2.1 = some (t_Tp k) := by decide +kernel
theorem z_Tp : ∀ j, j < 2 → defaultValue (t_Tp j) = vp_V [.null, .int 0] j := fun j hj => by
  rcases (show j = 0 ∨ j = 1 by omega) with rfl | rfl <;> rfl
def F_Pr : u_T := fun k => match k with
  | 0 => ("GraphKeep$Property", "key", "I", true)
  | 1 => ("GraphKeep$Property", "kind", "I", true)
  | 2 => ("GraphKeep$Property", "number", "J", true)
  | _ => ("GraphKeep$Property", "text", "[B", true)
def t_Pr : Nat → FieldType := fun k => match k with
  | 0 => .int
  | 1 => .int
  | 2 => .long
  | _ => .array .byte
theorem n_Pr : ∀ a, a < 4 → ∀ b, b < 4 → a ≠ b → (F_Pr a).2.1 ≠ (F_Pr b).2.1 := by decide +kernel
theorem t_Pr_ok : ∀ k, k < 4 → parseFieldDescriptor (F_Pr k).2.2.1 = some (t_Pr k) := by decide +kernel
theorem z_Pr : ∀ j, j < 4 → defaultValue (t_Pr j) = vp_V [.int 0, .int 0, .long 0, .null] j := fun j hj => by
  rcases (show j = 0 ∨ j = 1 ∨ j = 2 ∨ j = 3 by omega) with rfl | rfl | rfl | rfl <;> rfl
def F_Nd : u_T := fun k => match k with
  | 0 => ("GraphKeep$Thing", "properties", "[LGraphKeep$Property;", true)
  | _ => ("GraphKeep$Node", "labels", "[I", true)
def t_Nd : Nat → FieldType := fun k => match k with
  | 0 => .array (.object "GraphKeep$Property")
  | _ => .array .int
theorem n_Nd : ∀ a, a < 2 → ∀ b, b < 2 → a ≠ b → (F_Nd a).2.1 ≠ (F_Nd b).2.1 := by decide +kernel
theorem t_Nd_ok : ∀ k, k < 2 → parseFieldDescriptor (F_Nd k).2.2.1 = some (t_Nd k) := by decide +kernel
theorem z_Nd : ∀ j, j < 2 → defaultValue (t_Nd j) = vp_V [.null, .null] j := fun j hj => by
  rcases (show j = 0 ∨ j = 1 by omega) with rfl | rfl <;> rfl
def F_Lk : u_T := fun k => match k with
  | 0 => ("GraphKeep$Thing", "properties", "[LGraphKeep$Property;", true)
  | 1 => ("GraphKeep$Link", "start", "I", true)
  | 2 => ("GraphKeep$Link", "end", "I", true)
  | _ => ("GraphKeep$Link", "type", "I", true)
def t_Lk : Nat → FieldType := fun k => match k with
  | 0 => .array (.object "GraphKeep$Property")
  | 1 => .int
  | 2 => .int
  | _ => .int
theorem n_Lk : ∀ a, a < 4 → ∀ b, b < 4 → a ≠ b → (F_Lk a).2.1 ≠ (F_Lk b).2.1 := by decide +kernel
theorem t_Lk_ok : ∀ k, k < 4 → parseFieldDescriptor (F_Lk k).2.2.1 = some (t_Lk k) := by decide +kernel
theorem z_Lk : ∀ j, j < 4 → defaultValue (t_Lk j) = vp_V [.null, .int 0, .int 0, .int 0] j := fun j hj => by
  rcases (show j = 0 ∨ j = 1 ∨ j = 2 ∨ j = 3 by omega) with rfl | rfl | rfl | rfl <;> rfl
def F_Model : u_T := fun k => match k with
  | 0 => ("GraphKeepModel", "thrown", "I", false)
  | 1 => ("GraphKeepModel", "there", "[Z", true)
  | 2 => ("GraphKeepModel", "starts", "[I", true)
  | 3 => ("GraphKeepModel", "ends", "[I", true)
  | 4 => ("GraphKeepModel", "types", "[I", true)
  | 5 => ("GraphKeepModel", "labelMany", "[I", true)
  | 6 => ("GraphKeepModel", "labels", "[I", true)
  | 7 => ("GraphKeepModel", "propertyMany", "[I", true)
  | 8 => ("GraphKeepModel", "keys", "[I", true)
  | 9 => ("GraphKeepModel", "kinds", "[I", true)
  | 10 => ("GraphKeepModel", "values", "[J", true)
  | 11 => ("GraphKeepModel", "texts", "[J", true)
  | 12 => ("GraphKeepModel", "taken", "[Z", true)
  | 13 => ("GraphKeepModel", "tapeSize", "I", false)
  | 14 => ("GraphKeepModel", "tape", "[J", true)
  | 15 => ("GraphKeepModel", "error", "I", false)
  | 16 => ("GraphKeepModel", "off", "Z", false)
  | 17 => ("GraphKeepModel", "inside", "Z", false)
  | 18 => ("GraphKeepModel", "changes", "I", false)
  | 19 => ("GraphKeepModel", "earlier", "I", false)
  | 20 => ("GraphKeepModel", "logged", "I", false)
  | 21 => ("GraphKeepModel", "over", "I", false)
  | 22 => ("GraphKeepModel", "loose", "I", false)
  | 23 => ("GraphKeepModel", "written", "I", false)
  | _ => ("GraphKeepModel", "due", "I", false)
def t_Model : Nat → FieldType := fun k => match k with
  | 0 => .int
  | 1 => .array .boolean
  | 2 => .array .int
  | 3 => .array .int
  | 4 => .array .int
  | 5 => .array .int
  | 6 => .array .int
  | 7 => .array .int
  | 8 => .array .int
  | 9 => .array .int
  | 10 => .array .long
  | 11 => .array .long
  | 12 => .array .boolean
  | 13 => .int
  | 14 => .array .long
  | 15 => .int
  | 16 => .boolean
  | 17 => .boolean
  | 18 => .int
  | 19 => .int
  | 20 => .int
  | 21 => .int
  | 22 => .int
  | 23 => .int
  | _ => .int
theorem n_Model : ∀ a, a < 25 → ∀ b, b < 25 → a ≠ b → (F_Model a).2.1 ≠ (F_Model b).2.1 := by decide +kernel
theorem t_Model_ok : ∀ k, k < 25 → parseFieldDescriptor (F_Model k).2.2.1 = some (t_Model k) := by decide +kernel
theorem z_Model : ∀ j, j < 25 → defaultValue (t_Model j) = vp_V [.int 0, .null, .null, .null, .null, .null, .null, .null, .null, .null, .null, .null, .null, .int 0, .null, .int 0, .int 0, .int 0, .int 0, .int 0, .int 0, .int 0, .int 0, .int 0, .int 0] j := fun j hj => by
  rcases (show j = 0 ∨ j = 1 ∨ j = 2 ∨ j = 3 ∨ j = 4 ∨ j = 5 ∨ j = 6 ∨ j = 7 ∨ j = 8 ∨ j = 9 ∨ j = 10 ∨ j = 11 ∨ j = 12 ∨ j = 13 ∨ j = 14 ∨ j = 15 ∨ j = 16 ∨ j = 17 ∨ j = 18 ∨ j = 19 ∨ j = 20 ∨ j = 21 ∨ j = 22 ∨ j = 23 ∨ j = 24 by omega) with rfl | rfl | rfl | rfl | rfl | rfl | rfl | rfl | rfl | rfl | rfl | rfl | rfl | rfl | rfl | rfl | rfl | rfl | rfl | rfl | rfl | rfl | rfl | rfl | rfl <;> rfl
def F_ex : u_T := fun _ => ("", "", "", false)
abbrev classes : List vw_C := [(R_GK, F_GK, 12), (R_Gr, F_Gr, 2), (R_Lg, F_Lg, 5), (R_Tp, F_Tp, 2), (R_Pr, F_Pr, 4), (R_Nd, F_Nd, 2), (R_Lk, F_Lk, 4), (R_Model, F_Model, 25), ("java/lang/ArithmeticException", F_ex, 0), ("java/lang/IllegalStateException", F_ex, 0), ("java/util/NoSuchElementException", F_ex, 0)]
def hv_tys (ca : Nat → ClassId) : List (ClassId × FieldType) := [(ca 0, .int), (ca 1, .byte), (ca 2, .boolean), (ca 3, .long), (ca 4, .object "GraphKeep$Property"), (ca 5, .object "GraphKeep$Node"), (ca 6, .object "GraphKeep$Link")]
def hv_Ts : List Cond := lw_tbl.filter goodWord
theorem hv_mem {w : Cond} (i : Nat) (h : tables_1[i]? = some w) (ho : goodWord w = true) : w ∈ hv_Ts := List.mem_filter.mpr ⟨List.mem_append_right _ (List.mem_of_getElem? h), ho⟩
theorem hv_memL {w : Cond} (i : Nat) (h : tables_1[i]? = some w) : w ∈ lw_tbl := List.mem_append_right _ (List.mem_of_getElem? h)
theorem hv_memP {q : MethodName × Nat} (i : Nat) (h : lw_privs[i]? = some q) : Cond.selects q.1.cls q.1 q.1 ∈ hv_Ts := List.mem_filter.mpr ⟨List.mem_append_left _ (List.mem_map.mpr ⟨q, List.mem_of_getElem? h, rfl⟩), rfl⟩
abbrev b_Gr_init : ByteArray := prog_2_method_1_code
abbrev y_Gr_init : MethodName := ⟨"GraphKeep$Graph", "<init>", "()V"⟩
theorem hy_Gr_init : (y_Gr_init.cls ≠ "java/lang/invoke/MethodHandle" ∧ y_Gr_init.cls ≠ "java/lang/invoke/VarHandle") ∧ (parseMethodDescriptor y_Gr_init.desc).map (fun d => d.parameters.length) = some 0 := by decide +kernel
abbrev b_Gr_nodeAt : ByteArray := prog_2_method_2_code
abbrev y_Gr_nodeAt : MethodName := ⟨"GraphKeep$Graph", "nodeAt", "(I)LGraphKeep$Node;"⟩
theorem hy_Gr_nodeAt : (y_Gr_nodeAt.cls ≠ "java/lang/invoke/MethodHandle" ∧ y_Gr_nodeAt.cls ≠ "java/lang/invoke/VarHandle") ∧ (parseMethodDescriptor y_Gr_nodeAt.desc).map (fun d => d.parameters.length) = some 1 := by decide +kernel
abbrev b_Gr_linkAt : ByteArray := prog_2_method_3_code
abbrev y_Gr_linkAt : MethodName := ⟨"GraphKeep$Graph", "linkAt", "(I)LGraphKeep$Link;"⟩
theorem hy_Gr_linkAt : (y_Gr_linkAt.cls ≠ "java/lang/invoke/MethodHandle" ∧ y_Gr_linkAt.cls ≠ "java/lang/invoke/VarHandle") ∧ (parseMethodDescriptor y_Gr_linkAt.desc).map (fun d => d.parameters.length) = some 1 := by decide +kernel
abbrev b_Gr_thingAt : ByteArray := prog_2_method_4_code
abbrev y_Gr_thingAt : MethodName := ⟨"GraphKeep$Graph", "thingAt", "(II)LGraphKeep$Thing;"⟩
theorem hy_Gr_thingAt : (y_Gr_thingAt.cls ≠ "java/lang/invoke/MethodHandle" ∧ y_Gr_thingAt.cls ≠ "java/lang/invoke/VarHandle") ∧ (parseMethodDescriptor y_Gr_thingAt.desc).map (fun d => d.parameters.length) = some 2 := by decide +kernel
abbrev b_Gr_putNode : ByteArray := prog_2_method_5_code
abbrev y_Gr_putNode : MethodName := ⟨"GraphKeep$Graph", "putNode", "(ILGraphKeep$Node;)V"⟩
theorem hy_Gr_putNode : (y_Gr_putNode.cls ≠ "java/lang/invoke/MethodHandle" ∧ y_Gr_putNode.cls ≠ "java/lang/invoke/VarHandle") ∧ (parseMethodDescriptor y_Gr_putNode.desc).map (fun d => d.parameters.length) = some 2 := by decide +kernel
abbrev b_Gr_putLink : ByteArray := prog_2_method_6_code
abbrev y_Gr_putLink : MethodName := ⟨"GraphKeep$Graph", "putLink", "(ILGraphKeep$Link;)V"⟩
theorem hy_Gr_putLink : (y_Gr_putLink.cls ≠ "java/lang/invoke/MethodHandle" ∧ y_Gr_putLink.cls ≠ "java/lang/invoke/VarHandle") ∧ (parseMethodDescriptor y_Gr_putLink.desc).map (fun d => d.parameters.length) = some 2 := by decide +kernel
abbrev b_Gr_putAgain : ByteArray := prog_2_method_7_code
abbrev y_Gr_putAgain : MethodName := ⟨"GraphKeep$Graph", "putAgain", "(LGraphKeep$Thing;I[LGraphKeep$Property;)V"⟩
theorem hy_Gr_putAgain : (y_Gr_putAgain.cls ≠ "java/lang/invoke/MethodHandle" ∧ y_Gr_putAgain.cls ≠ "java/lang/invoke/VarHandle") ∧ (parseMethodDescriptor y_Gr_putAgain.desc).map (fun d => d.parameters.length) = some 3 := by decide +kernel
abbrev b_Gr_countNodes : ByteArray := prog_2_method_8_code
abbrev y_Gr_countNodes : MethodName := ⟨"GraphKeep$Graph", "countNodes", "()I"⟩
theorem hy_Gr_countNodes : (y_Gr_countNodes.cls ≠ "java/lang/invoke/MethodHandle" ∧ y_Gr_countNodes.cls ≠ "java/lang/invoke/VarHandle") ∧ (parseMethodDescriptor y_Gr_countNodes.desc).map (fun d => d.parameters.length) = some 0 := by decide +kernel
abbrev b_Gr_countLinks : ByteArray := prog_2_method_9_code
abbrev y_Gr_countLinks : MethodName := ⟨"GraphKeep$Graph", "countLinks", "()I"⟩
theorem hy_Gr_countLinks : (y_Gr_countLinks.cls ≠ "java/lang/invoke/MethodHandle" ∧ y_Gr_countLinks.cls ≠ "java/lang/invoke/VarHandle") ∧ (parseMethodDescriptor y_Gr_countLinks.desc).map (fun d => d.parameters.length) = some 0 := by decide +kernel
abbrev b_Gr_countChain : ByteArray := prog_2_method_10_code
abbrev y_Gr_countChain : MethodName := ⟨"GraphKeep$Graph", "countChain", "(IZ)I"⟩
theorem hy_Gr_countChain : (y_Gr_countChain.cls ≠ "java/lang/invoke/MethodHandle" ∧ y_Gr_countChain.cls ≠ "java/lang/invoke/VarHandle") ∧ (parseMethodDescriptor y_Gr_countChain.desc).map (fun d => d.parameters.length) = some 2 := by decide +kernel
abbrev b_Gr_linkInChain : ByteArray := prog_2_method_11_code
abbrev y_Gr_linkInChain : MethodName := ⟨"GraphKeep$Graph", "linkInChain", "(IZI)I"⟩
theorem hy_Gr_linkInChain : (y_Gr_linkInChain.cls ≠ "java/lang/invoke/MethodHandle" ∧ y_Gr_linkInChain.cls ≠ "java/lang/invoke/VarHandle") ∧ (parseMethodDescriptor y_Gr_linkInChain.desc).map (fun d => d.parameters.length) = some 3 := by decide +kernel
abbrev b_Gr_isInChain : ByteArray := prog_2_method_12_code
abbrev y_Gr_isInChain : MethodName := ⟨"GraphKeep$Graph", "isInChain", "(IIZ)Z"⟩
theorem hy_Gr_isInChain : (y_Gr_isInChain.cls ≠ "java/lang/invoke/MethodHandle" ∧ y_Gr_isInChain.cls ≠ "java/lang/invoke/VarHandle") ∧ (parseMethodDescriptor y_Gr_isInChain.desc).map (fun d => d.parameters.length) = some 3 := by decide +kernel
abbrev b_Gr_copyFrom : ByteArray := prog_2_method_13_code
abbrev y_Gr_copyFrom : MethodName := ⟨"GraphKeep$Graph", "copyFrom", "(LGraphKeep$Graph;)V"⟩
theorem hy_Gr_copyFrom : (y_Gr_copyFrom.cls ≠ "java/lang/invoke/MethodHandle" ∧ y_Gr_copyFrom.cls ≠ "java/lang/invoke/VarHandle") ∧ (parseMethodDescriptor y_Gr_copyFrom.desc).map (fun d => d.parameters.length) = some 1 := by decide +kernel
abbrev b_Gr_clear : ByteArray := prog_2_method_14_code
abbrev y_Gr_clear : MethodName := ⟨"GraphKeep$Graph", "clear", "()V"⟩
theorem hy_Gr_clear : (y_Gr_clear.cls ≠ "java/lang/invoke/MethodHandle" ∧ y_Gr_clear.cls ≠ "java/lang/invoke/VarHandle") ∧ (parseMethodDescriptor y_Gr_clear.desc).map (fun d => d.parameters.length) = some 0 := by decide +kernel
abbrev b_Lk_init : ByteArray := prog_3_method_1_code
abbrev y_Lk_init : MethodName := ⟨"GraphKeep$Link", "<init>", "(III[LGraphKeep$Property;)V"⟩
theorem hy_Lk_init : (y_Lk_init.cls ≠ "java/lang/invoke/MethodHandle" ∧ y_Lk_init.cls ≠ "java/lang/invoke/VarHandle") ∧ (parseMethodDescriptor y_Lk_init.desc).map (fun d => d.parameters.length) = some 4 := by decide +kernel
abbrev b_Lg_init : ByteArray := prog_4_method_1_code
abbrev y_Lg_init : MethodName := ⟨"GraphKeep$Log", "<init>", "()V"⟩
theorem hy_Lg_init : (y_Lg_init.cls ≠ "java/lang/invoke/MethodHandle" ∧ y_Lg_init.cls ≠ "java/lang/invoke/VarHandle") ∧ (parseMethodDescriptor y_Lg_init.desc).map (fun d => d.parameters.length) = some 0 := by decide +kernel
abbrev b_Lg_writesFor : ByteArray := prog_4_method_2_code
abbrev y_Lg_writesFor : MethodName := ⟨"GraphKeep$Log", "writesFor", "(I)I"⟩
theorem hy_Lg_writesFor : (y_Lg_writesFor.cls ≠ "java/lang/invoke/MethodHandle" ∧ y_Lg_writesFor.cls ≠ "java/lang/invoke/VarHandle") ∧ (parseMethodDescriptor y_Lg_writesFor.desc).map (fun d => d.parameters.length) = some 1 := by decide +kernel
abbrev b_Lg_hasRoom : ByteArray := prog_4_method_3_code
abbrev y_Lg_hasRoom : MethodName := ⟨"GraphKeep$Log", "hasRoom", "(I)Z"⟩
theorem hy_Lg_hasRoom : (y_Lg_hasRoom.cls ≠ "java/lang/invoke/MethodHandle" ∧ y_Lg_hasRoom.cls ≠ "java/lang/invoke/VarHandle") ∧ (parseMethodDescriptor y_Lg_hasRoom.desc).map (fun d => d.parameters.length) = some 1 := by decide +kernel
abbrev b_Lg_failAt : ByteArray := prog_4_method_4_code
abbrev y_Lg_failAt : MethodName := ⟨"GraphKeep$Log", "failAt", "(I)V"⟩
theorem hy_Lg_failAt : (y_Lg_failAt.cls ≠ "java/lang/invoke/MethodHandle" ∧ y_Lg_failAt.cls ≠ "java/lang/invoke/VarHandle") ∧ (parseMethodDescriptor y_Lg_failAt.desc).map (fun d => d.parameters.length) = some 1 := by decide +kernel
abbrev b_Lg_writeTransaction : ByteArray := prog_4_method_5_code
abbrev y_Lg_writeTransaction : MethodName := ⟨"GraphKeep$Log", "writeTransaction", "(I)Z"⟩
theorem hy_Lg_writeTransaction : (y_Lg_writeTransaction.cls ≠ "java/lang/invoke/MethodHandle" ∧ y_Lg_writeTransaction.cls ≠ "java/lang/invoke/VarHandle") ∧ (parseMethodDescriptor y_Lg_writeTransaction.desc).map (fun d => d.parameters.length) = some 1 := by decide +kernel
abbrev b_Lg_writeCheckpoint : ByteArray := prog_4_method_6_code
abbrev y_Lg_writeCheckpoint : MethodName := ⟨"GraphKeep$Log", "writeCheckpoint", "(I)Z"⟩
theorem hy_Lg_writeCheckpoint : (y_Lg_writeCheckpoint.cls ≠ "java/lang/invoke/MethodHandle" ∧ y_Lg_writeCheckpoint.cls ≠ "java/lang/invoke/VarHandle") ∧ (parseMethodDescriptor y_Lg_writeCheckpoint.desc).map (fun d => d.parameters.length) = some 1 := by decide +kernel
abbrev b_Lg_reopen : ByteArray := prog_4_method_7_code
abbrev y_Lg_reopen : MethodName := ⟨"GraphKeep$Log", "reopen", "()I"⟩
theorem hy_Lg_reopen : (y_Lg_reopen.cls ≠ "java/lang/invoke/MethodHandle" ∧ y_Lg_reopen.cls ≠ "java/lang/invoke/VarHandle") ∧ (parseMethodDescriptor y_Lg_reopen.desc).map (fun d => d.parameters.length) = some 0 := by decide +kernel
abbrev b_Lg_write : ByteArray := prog_4_method_8_code
abbrev y_Lg_write : MethodName := ⟨"GraphKeep$Log", "write", "(I)I"⟩
theorem hy_Lg_write : (y_Lg_write.cls ≠ "java/lang/invoke/MethodHandle" ∧ y_Lg_write.cls ≠ "java/lang/invoke/VarHandle") ∧ (parseMethodDescriptor y_Lg_write.desc).map (fun d => d.parameters.length) = some 1 := by decide +kernel
abbrev b_Nd_init : ByteArray := prog_5_method_1_code
abbrev y_Nd_init : MethodName := ⟨"GraphKeep$Node", "<init>", "([I[LGraphKeep$Property;)V"⟩
theorem hy_Nd_init : (y_Nd_init.cls ≠ "java/lang/invoke/MethodHandle" ∧ y_Nd_init.cls ≠ "java/lang/invoke/VarHandle") ∧ (parseMethodDescriptor y_Nd_init.desc).map (fun d => d.parameters.length) = some 2 := by decide +kernel
abbrev b_Nd_isLabelled : ByteArray := prog_5_method_2_code
abbrev y_Nd_isLabelled : MethodName := ⟨"GraphKeep$Node", "isLabelled", "(I)Z"⟩
theorem hy_Nd_isLabelled : (y_Nd_isLabelled.cls ≠ "java/lang/invoke/MethodHandle" ∧ y_Nd_isLabelled.cls ≠ "java/lang/invoke/VarHandle") ∧ (parseMethodDescriptor y_Nd_isLabelled.desc).map (fun d => d.parameters.length) = some 1 := by decide +kernel
abbrev b_Nd_withLabel : ByteArray := prog_5_method_3_code
abbrev y_Nd_withLabel : MethodName := ⟨"GraphKeep$Node", "withLabel", "(I)LGraphKeep$Node;"⟩
theorem hy_Nd_withLabel : (y_Nd_withLabel.cls ≠ "java/lang/invoke/MethodHandle" ∧ y_Nd_withLabel.cls ≠ "java/lang/invoke/VarHandle") ∧ (parseMethodDescriptor y_Nd_withLabel.desc).map (fun d => d.parameters.length) = some 1 := by decide +kernel
abbrev b_Nd_withoutLabel : ByteArray := prog_5_method_4_code
abbrev y_Nd_withoutLabel : MethodName := ⟨"GraphKeep$Node", "withoutLabel", "(I)LGraphKeep$Node;"⟩
theorem hy_Nd_withoutLabel : (y_Nd_withoutLabel.cls ≠ "java/lang/invoke/MethodHandle" ∧ y_Nd_withoutLabel.cls ≠ "java/lang/invoke/VarHandle") ∧ (parseMethodDescriptor y_Nd_withoutLabel.desc).map (fun d => d.parameters.length) = some 1 := by decide +kernel
abbrev b_Nd_placeOfLabel : ByteArray := prog_5_method_5_code
abbrev y_Nd_placeOfLabel : MethodName := ⟨"GraphKeep$Node", "placeOfLabel", "(I)I"⟩
theorem hy_Nd_placeOfLabel : (y_Nd_placeOfLabel.cls ≠ "java/lang/invoke/MethodHandle" ∧ y_Nd_placeOfLabel.cls ≠ "java/lang/invoke/VarHandle") ∧ (parseMethodDescriptor y_Nd_placeOfLabel.desc).map (fun d => d.parameters.length) = some 1 := by decide +kernel
abbrev b_Pr_init : ByteArray := prog_6_method_1_code
abbrev y_Pr_init : MethodName := ⟨"GraphKeep$Property", "<init>", "(IIJ[B)V"⟩
theorem hy_Pr_init : (y_Pr_init.cls ≠ "java/lang/invoke/MethodHandle" ∧ y_Pr_init.cls ≠ "java/lang/invoke/VarHandle") ∧ (parseMethodDescriptor y_Pr_init.desc).map (fun d => d.parameters.length) = some 4 := by decide +kernel
abbrev b_Pr_isSameValue : ByteArray := prog_6_method_2_code
abbrev y_Pr_isSameValue : MethodName := ⟨"GraphKeep$Property", "isSameValue", "(LGraphKeep$Property;)Z"⟩
theorem hy_Pr_isSameValue : (y_Pr_isSameValue.cls ≠ "java/lang/invoke/MethodHandle" ∧ y_Pr_isSameValue.cls ≠ "java/lang/invoke/VarHandle") ∧ (parseMethodDescriptor y_Pr_isSameValue.desc).map (fun d => d.parameters.length) = some 1 := by decide +kernel
abbrev b_Tp_init : ByteArray := prog_7_method_1_code
abbrev y_Tp_init : MethodName := ⟨"GraphKeep$Tape", "<init>", "()V"⟩
theorem hy_Tp_init : (y_Tp_init.cls ≠ "java/lang/invoke/MethodHandle" ∧ y_Tp_init.cls ≠ "java/lang/invoke/VarHandle") ∧ (parseMethodDescriptor y_Tp_init.desc).map (fun d => d.parameters.length) = some 0 := by decide +kernel
abbrev b_Tp_append : ByteArray := prog_7_method_2_code
abbrev y_Tp_append : MethodName := ⟨"GraphKeep$Tape", "append", "(JI)Z"⟩
theorem hy_Tp_append : (y_Tp_append.cls ≠ "java/lang/invoke/MethodHandle" ∧ y_Tp_append.cls ≠ "java/lang/invoke/VarHandle") ∧ (parseMethodDescriptor y_Tp_append.desc).map (fun d => d.parameters.length) = some 2 := by decide +kernel
abbrev b_Tp_pull : ByteArray := prog_7_method_3_code
abbrev y_Tp_pull : MethodName := ⟨"GraphKeep$Tape", "pull", "()[B"⟩
theorem hy_Tp_pull : (y_Tp_pull.cls ≠ "java/lang/invoke/MethodHandle" ∧ y_Tp_pull.cls ≠ "java/lang/invoke/VarHandle") ∧ (parseMethodDescriptor y_Tp_pull.desc).map (fun d => d.parameters.length) = some 0 := by decide +kernel
abbrev b_Tp_byteOf : ByteArray := prog_7_method_4_code
abbrev y_Tp_byteOf : MethodName := ⟨"GraphKeep$Tape", "byteOf", "(JI)I"⟩
theorem hy_Tp_byteOf : (y_Tp_byteOf.cls ≠ "java/lang/invoke/MethodHandle" ∧ y_Tp_byteOf.cls ≠ "java/lang/invoke/VarHandle") ∧ (parseMethodDescriptor y_Tp_byteOf.desc).map (fun d => d.parameters.length) = some 2 := by decide +kernel
abbrev b_Th_init : ByteArray := prog_8_method_1_code
abbrev y_Th_init : MethodName := ⟨"GraphKeep$Thing", "<init>", "([LGraphKeep$Property;)V"⟩
theorem hy_Th_init : (y_Th_init.cls ≠ "java/lang/invoke/MethodHandle" ∧ y_Th_init.cls ≠ "java/lang/invoke/VarHandle") ∧ (parseMethodDescriptor y_Th_init.desc).map (fun d => d.parameters.length) = some 1 := by decide +kernel
abbrev b_Th_propertyOf : ByteArray := prog_8_method_2_code
abbrev y_Th_propertyOf : MethodName := ⟨"GraphKeep$Thing", "propertyOf", "(I)LGraphKeep$Property;"⟩
theorem hy_Th_propertyOf : (y_Th_propertyOf.cls ≠ "java/lang/invoke/MethodHandle" ∧ y_Th_propertyOf.cls ≠ "java/lang/invoke/VarHandle") ∧ (parseMethodDescriptor y_Th_propertyOf.desc).map (fun d => d.parameters.length) = some 1 := by decide +kernel
abbrev b_Th_propertiesWith : ByteArray := prog_8_method_3_code
abbrev y_Th_propertiesWith : MethodName := ⟨"GraphKeep$Thing", "propertiesWith", "(LGraphKeep$Property;)[LGraphKeep$Property;"⟩
theorem hy_Th_propertiesWith : (y_Th_propertiesWith.cls ≠ "java/lang/invoke/MethodHandle" ∧ y_Th_propertiesWith.cls ≠ "java/lang/invoke/VarHandle") ∧ (parseMethodDescriptor y_Th_propertiesWith.desc).map (fun d => d.parameters.length) = some 1 := by decide +kernel
abbrev b_Th_propertiesWithout : ByteArray := prog_8_method_4_code
abbrev y_Th_propertiesWithout : MethodName := ⟨"GraphKeep$Thing", "propertiesWithout", "(I)[LGraphKeep$Property;"⟩
theorem hy_Th_propertiesWithout : (y_Th_propertiesWithout.cls ≠ "java/lang/invoke/MethodHandle" ∧ y_Th_propertiesWithout.cls ≠ "java/lang/invoke/VarHandle") ∧ (parseMethodDescriptor y_Th_propertiesWithout.desc).map (fun d => d.parameters.length) = some 1 := by decide +kernel
abbrev b_Th_placeOf : ByteArray := prog_8_method_5_code
abbrev y_Th_placeOf : MethodName := ⟨"GraphKeep$Thing", "placeOf", "(I)I"⟩
theorem hy_Th_placeOf : (y_Th_placeOf.cls ≠ "java/lang/invoke/MethodHandle" ∧ y_Th_placeOf.cls ≠ "java/lang/invoke/VarHandle") ∧ (parseMethodDescriptor y_Th_placeOf.desc).map (fun d => d.parameters.length) = some 1 := by decide +kernel
abbrev b_GK_init : ByteArray := prog_1_method_1_code
abbrev y_GK_init : MethodName := ⟨"GraphKeep", "<init>", "()V"⟩
theorem hy_GK_init : (y_GK_init.cls ≠ "java/lang/invoke/MethodHandle" ∧ y_GK_init.cls ≠ "java/lang/invoke/VarHandle") ∧ (parseMethodDescriptor y_GK_init.desc).map (fun d => d.parameters.length) = some 0 := by decide +kernel
abbrev b_GK_type : ByteArray := prog_1_method_2_code
abbrev y_GK_type : MethodName := ⟨"GraphKeep", "type", "(JI)Z"⟩
theorem hy_GK_type : (y_GK_type.cls ≠ "java/lang/invoke/MethodHandle" ∧ y_GK_type.cls ≠ "java/lang/invoke/VarHandle") ∧ (parseMethodDescriptor y_GK_type.desc).map (fun d => d.parameters.length) = some 2 := by decide +kernel
abbrev b_GK_node : ByteArray := prog_1_method_3_code
abbrev y_GK_node : MethodName := ⟨"GraphKeep", "node", "()I"⟩
theorem hy_GK_node : (y_GK_node.cls ≠ "java/lang/invoke/MethodHandle" ∧ y_GK_node.cls ≠ "java/lang/invoke/VarHandle") ∧ (parseMethodDescriptor y_GK_node.desc).map (fun d => d.parameters.length) = some 0 := by decide +kernel
abbrev b_GK_label : ByteArray := prog_1_method_4_code
abbrev y_GK_label : MethodName := ⟨"GraphKeep", "label", "(IIZ)Z"⟩
theorem hy_GK_label : (y_GK_label.cls ≠ "java/lang/invoke/MethodHandle" ∧ y_GK_label.cls ≠ "java/lang/invoke/VarHandle") ∧ (parseMethodDescriptor y_GK_label.desc).map (fun d => d.parameters.length) = some 3 := by decide +kernel
abbrev b_GK_property : ByteArray := prog_1_method_5_code
abbrev y_GK_property : MethodName := ⟨"GraphKeep", "property", "(IIIIJ)Z"⟩
theorem hy_GK_property : (y_GK_property.cls ≠ "java/lang/invoke/MethodHandle" ∧ y_GK_property.cls ≠ "java/lang/invoke/VarHandle") ∧ (parseMethodDescriptor y_GK_property.desc).map (fun d => d.parameters.length) = some 5 := by decide +kernel
abbrev b_GK_link : ByteArray := prog_1_method_6_code
abbrev y_GK_link : MethodName := ⟨"GraphKeep", "link", "(III)I"⟩
theorem hy_GK_link : (y_GK_link.cls ≠ "java/lang/invoke/MethodHandle" ∧ y_GK_link.cls ≠ "java/lang/invoke/VarHandle") ∧ (parseMethodDescriptor y_GK_link.desc).map (fun d => d.parameters.length) = some 3 := by decide +kernel
abbrev b_GK_take : ByteArray := prog_1_method_7_code
abbrev y_GK_take : MethodName := ⟨"GraphKeep", "take", "(II)V"⟩
theorem hy_GK_take : (y_GK_take.cls ≠ "java/lang/invoke/MethodHandle" ∧ y_GK_take.cls ≠ "java/lang/invoke/VarHandle") ∧ (parseMethodDescriptor y_GK_take.desc).map (fun d => d.parameters.length) = some 2 := by decide +kernel
abbrev b_GK_error : ByteArray := prog_1_method_8_code
abbrev y_GK_error : MethodName := ⟨"GraphKeep", "error", "()I"⟩
theorem hy_GK_error : (y_GK_error.cls ≠ "java/lang/invoke/MethodHandle" ∧ y_GK_error.cls ≠ "java/lang/invoke/VarHandle") ∧ (parseMethodDescriptor y_GK_error.desc).map (fun d => d.parameters.length) = some 0 := by decide +kernel
abbrev b_GK_done : ByteArray := prog_1_method_9_code
abbrev y_GK_done : MethodName := ⟨"GraphKeep", "done", "()I"⟩
theorem hy_GK_done : (y_GK_done.cls ≠ "java/lang/invoke/MethodHandle" ∧ y_GK_done.cls ≠ "java/lang/invoke/VarHandle") ∧ (parseMethodDescriptor y_GK_done.desc).map (fun d => d.parameters.length) = some 0 := by decide +kernel
abbrev b_GK_undo : ByteArray := prog_1_method_10_code
abbrev y_GK_undo : MethodName := ⟨"GraphKeep", "undo", "()I"⟩
theorem hy_GK_undo : (y_GK_undo.cls ≠ "java/lang/invoke/MethodHandle" ∧ y_GK_undo.cls ≠ "java/lang/invoke/VarHandle") ∧ (parseMethodDescriptor y_GK_undo.desc).map (fun d => d.parameters.length) = some 0 := by decide +kernel
abbrev b_GK_begin : ByteArray := prog_1_method_11_code
abbrev y_GK_begin : MethodName := ⟨"GraphKeep", "begin", "()Z"⟩
theorem hy_GK_begin : (y_GK_begin.cls ≠ "java/lang/invoke/MethodHandle" ∧ y_GK_begin.cls ≠ "java/lang/invoke/VarHandle") ∧ (parseMethodDescriptor y_GK_begin.desc).map (fun d => d.parameters.length) = some 0 := by decide +kernel
abbrev b_GK_commit : ByteArray := prog_1_method_12_code
abbrev y_GK_commit : MethodName := ⟨"GraphKeep", "commit", "()I"⟩
theorem hy_GK_commit : (y_GK_commit.cls ≠ "java/lang/invoke/MethodHandle" ∧ y_GK_commit.cls ≠ "java/lang/invoke/VarHandle") ∧ (parseMethodDescriptor y_GK_commit.desc).map (fun d => d.parameters.length) = some 0 := by decide +kernel
abbrev b_GK_rollback : ByteArray := prog_1_method_13_code
abbrev y_GK_rollback : MethodName := ⟨"GraphKeep", "rollback", "()Z"⟩
theorem hy_GK_rollback : (y_GK_rollback.cls ≠ "java/lang/invoke/MethodHandle" ∧ y_GK_rollback.cls ≠ "java/lang/invoke/VarHandle") ∧ (parseMethodDescriptor y_GK_rollback.desc).map (fun d => d.parameters.length) = some 0 := by decide +kernel
abbrev b_GK_checkpoint : ByteArray := prog_1_method_14_code
abbrev y_GK_checkpoint : MethodName := ⟨"GraphKeep", "checkpoint", "()I"⟩
theorem hy_GK_checkpoint : (y_GK_checkpoint.cls ≠ "java/lang/invoke/MethodHandle" ∧ y_GK_checkpoint.cls ≠ "java/lang/invoke/VarHandle") ∧ (parseMethodDescriptor y_GK_checkpoint.desc).map (fun d => d.parameters.length) = some 0 := by decide +kernel
abbrev b_GK_cut : ByteArray := prog_1_method_15_code
abbrev y_GK_cut : MethodName := ⟨"GraphKeep", "cut", "(I)Z"⟩
theorem hy_GK_cut : (y_GK_cut.cls ≠ "java/lang/invoke/MethodHandle" ∧ y_GK_cut.cls ≠ "java/lang/invoke/VarHandle") ∧ (parseMethodDescriptor y_GK_cut.desc).map (fun d => d.parameters.length) = some 1 := by decide +kernel
abbrev b_GK_recover : ByteArray := prog_1_method_16_code
abbrev y_GK_recover : MethodName := ⟨"GraphKeep", "recover", "()I"⟩
theorem hy_GK_recover : (y_GK_recover.cls ≠ "java/lang/invoke/MethodHandle" ∧ y_GK_recover.cls ≠ "java/lang/invoke/VarHandle") ∧ (parseMethodDescriptor y_GK_recover.desc).map (fun d => d.parameters.length) = some 0 := by decide +kernel
abbrev b_GK_thing : ByteArray := prog_1_method_17_code
abbrev y_GK_thing : MethodName := ⟨"GraphKeep", "thing", "(III)I"⟩
theorem hy_GK_thing : (y_GK_thing.cls ≠ "java/lang/invoke/MethodHandle" ∧ y_GK_thing.cls ≠ "java/lang/invoke/VarHandle") ∧ (parseMethodDescriptor y_GK_thing.desc).map (fun d => d.parameters.length) = some 3 := by decide +kernel
abbrev b_GK_chain : ByteArray := prog_1_method_18_code
abbrev y_GK_chain : MethodName := ⟨"GraphKeep", "chain", "(IZI)I"⟩
theorem hy_GK_chain : (y_GK_chain.cls ≠ "java/lang/invoke/MethodHandle" ∧ y_GK_chain.cls ≠ "java/lang/invoke/VarHandle") ∧ (parseMethodDescriptor y_GK_chain.desc).map (fun d => d.parameters.length) = some 3 := by decide +kernel
abbrev b_GK_has : ByteArray := prog_1_method_19_code
abbrev y_GK_has : MethodName := ⟨"GraphKeep", "has", "(II)Z"⟩
theorem hy_GK_has : (y_GK_has.cls ≠ "java/lang/invoke/MethodHandle" ∧ y_GK_has.cls ≠ "java/lang/invoke/VarHandle") ∧ (parseMethodDescriptor y_GK_has.desc).map (fun d => d.parameters.length) = some 2 := by decide +kernel
abbrev b_GK_value : ByteArray := prog_1_method_20_code
abbrev y_GK_value : MethodName := ⟨"GraphKeep", "value", "(IIII)J"⟩
theorem hy_GK_value : (y_GK_value.cls ≠ "java/lang/invoke/MethodHandle" ∧ y_GK_value.cls ≠ "java/lang/invoke/VarHandle") ∧ (parseMethodDescriptor y_GK_value.desc).map (fun d => d.parameters.length) = some 4 := by decide +kernel
abbrev b_GK_state : ByteArray := prog_1_method_21_code
abbrev y_GK_state : MethodName := ⟨"GraphKeep", "state", "(I)I"⟩
theorem hy_GK_state : (y_GK_state.cls ≠ "java/lang/invoke/MethodHandle" ∧ y_GK_state.cls ≠ "java/lang/invoke/VarHandle") ∧ (parseMethodDescriptor y_GK_state.desc).map (fun d => d.parameters.length) = some 1 := by decide +kernel
abbrev b_GK_mustBeOn : ByteArray := prog_1_method_22_code
abbrev y_GK_mustBeOn : MethodName := ⟨"GraphKeep", "mustBeOn", "()V"⟩
theorem hy_GK_mustBeOn : (y_GK_mustBeOn.cls ≠ "java/lang/invoke/MethodHandle" ∧ y_GK_mustBeOn.cls ≠ "java/lang/invoke/VarHandle") ∧ (parseMethodDescriptor y_GK_mustBeOn.desc).map (fun d => d.parameters.length) = some 0 := by decide +kernel
abbrev b_GK_refuse : ByteArray := prog_1_method_23_code
abbrev y_GK_refuse : MethodName := ⟨"GraphKeep", "refuse", "(I)V"⟩
theorem hy_GK_refuse : (y_GK_refuse.cls ≠ "java/lang/invoke/MethodHandle" ∧ y_GK_refuse.cls ≠ "java/lang/invoke/VarHandle") ∧ (parseMethodDescriptor y_GK_refuse.desc).map (fun d => d.parameters.length) = some 1 := by decide +kernel
abbrev b_GK_wantedNode : ByteArray := prog_1_method_24_code
abbrev y_GK_wantedNode : MethodName := ⟨"GraphKeep", "wantedNode", "(I)LGraphKeep$Node;"⟩
theorem hy_GK_wantedNode : (y_GK_wantedNode.cls ≠ "java/lang/invoke/MethodHandle" ∧ y_GK_wantedNode.cls ≠ "java/lang/invoke/VarHandle") ∧ (parseMethodDescriptor y_GK_wantedNode.desc).map (fun d => d.parameters.length) = some 1 := by decide +kernel
abbrev b_GK_wantedThing : ByteArray := prog_1_method_25_code
abbrev y_GK_wantedThing : MethodName := ⟨"GraphKeep", "wantedThing", "(II)LGraphKeep$Thing;"⟩
theorem hy_GK_wantedThing : (y_GK_wantedThing.cls ≠ "java/lang/invoke/MethodHandle" ∧ y_GK_wantedThing.cls ≠ "java/lang/invoke/VarHandle") ∧ (parseMethodDescriptor y_GK_wantedThing.desc).map (fun d => d.parameters.length) = some 2 := by decide +kernel
abbrev b_GK_mustBeValue : ByteArray := prog_1_method_26_code
abbrev y_GK_mustBeValue : MethodName := ⟨"GraphKeep", "mustBeValue", "(IJ)V"⟩
theorem hy_GK_mustBeValue : (y_GK_mustBeValue.cls ≠ "java/lang/invoke/MethodHandle" ∧ y_GK_mustBeValue.cls ≠ "java/lang/invoke/VarHandle") ∧ (parseMethodDescriptor y_GK_mustBeValue.desc).map (fun d => d.parameters.length) = some 2 := by decide +kernel
abbrev b_GK_mustBeLess : ByteArray := prog_1_method_27_code
abbrev y_GK_mustBeLess : MethodName := ⟨"GraphKeep", "mustBeLess", "(II)V"⟩
theorem hy_GK_mustBeLess : (y_GK_mustBeLess.cls ≠ "java/lang/invoke/MethodHandle" ∧ y_GK_mustBeLess.cls ≠ "java/lang/invoke/VarHandle") ∧ (parseMethodDescriptor y_GK_mustBeLess.desc).map (fun d => d.parameters.length) = some 2 := by decide +kernel
abbrev b_GK_freeNumber : ByteArray := prog_1_method_28_code
abbrev y_GK_freeNumber : MethodName := ⟨"GraphKeep", "freeNumber", "(I[Z)I"⟩
theorem hy_GK_freeNumber : (y_GK_freeNumber.cls ≠ "java/lang/invoke/MethodHandle" ∧ y_GK_freeNumber.cls ≠ "java/lang/invoke/VarHandle") ∧ (parseMethodDescriptor y_GK_freeNumber.desc).map (fun d => d.parameters.length) = some 2 := by decide +kernel
abbrev b_GK_countChange : ByteArray := prog_1_method_29_code
abbrev y_GK_countChange : MethodName := ⟨"GraphKeep", "countChange", "()V"⟩
theorem hy_GK_countChange : (y_GK_countChange.cls ≠ "java/lang/invoke/MethodHandle" ∧ y_GK_countChange.cls ≠ "java/lang/invoke/VarHandle") ∧ (parseMethodDescriptor y_GK_countChange.desc).map (fun d => d.parameters.length) = some 0 := by decide +kernel
abbrev b_GK_dropProperty : ByteArray := prog_1_method_30_code
abbrev y_GK_dropProperty : MethodName := ⟨"GraphKeep", "dropProperty", "(LGraphKeep$Thing;II)Z"⟩
theorem hy_GK_dropProperty : (y_GK_dropProperty.cls ≠ "java/lang/invoke/MethodHandle" ∧ y_GK_dropProperty.cls ≠ "java/lang/invoke/VarHandle") ∧ (parseMethodDescriptor y_GK_dropProperty.desc).map (fun d => d.parameters.length) = some 3 := by decide +kernel
abbrev b_GK_putProperty : ByteArray := prog_1_method_31_code
abbrev y_GK_putProperty : MethodName := ⟨"GraphKeep", "putProperty", "(LGraphKeep$Thing;ILGraphKeep$Property;)Z"⟩
theorem hy_GK_putProperty : (y_GK_putProperty.cls ≠ "java/lang/invoke/MethodHandle" ∧ y_GK_putProperty.cls ≠ "java/lang/invoke/VarHandle") ∧ (parseMethodDescriptor y_GK_putProperty.desc).map (fun d => d.parameters.length) = some 3 := by decide +kernel
abbrev b_GK_takeNode : ByteArray := prog_1_method_32_code
abbrev y_GK_takeNode : MethodName := ⟨"GraphKeep", "takeNode", "(I)V"⟩
theorem hy_GK_takeNode : (y_GK_takeNode.cls ≠ "java/lang/invoke/MethodHandle" ∧ y_GK_takeNode.cls ≠ "java/lang/invoke/VarHandle") ∧ (parseMethodDescriptor y_GK_takeNode.desc).map (fun d => d.parameters.length) = some 1 := by decide +kernel
abbrev b_GK_takeLink : ByteArray := prog_1_method_33_code
abbrev y_GK_takeLink : MethodName := ⟨"GraphKeep", "takeLink", "(I)V"⟩
theorem hy_GK_takeLink : (y_GK_takeLink.cls ≠ "java/lang/invoke/MethodHandle" ∧ y_GK_takeLink.cls ≠ "java/lang/invoke/VarHandle") ∧ (parseMethodDescriptor y_GK_takeLink.desc).map (fun d => d.parameters.length) = some 1 := by decide +kernel
abbrev b_GK_mark : ByteArray := prog_1_method_34_code
abbrev y_GK_mark : MethodName := ⟨"GraphKeep", "mark", "([ZI)V"⟩
theorem hy_GK_mark : (y_GK_mark.cls ≠ "java/lang/invoke/MethodHandle" ∧ y_GK_mark.cls ≠ "java/lang/invoke/VarHandle") ∧ (parseMethodDescriptor y_GK_mark.desc).map (fun d => d.parameters.length) = some 2 := by decide +kernel
abbrev b_GK_keep : ByteArray := prog_1_method_35_code
abbrev y_GK_keep : MethodName := ⟨"GraphKeep", "keep", "(I)V"⟩
theorem hy_GK_keep : (y_GK_keep.cls ≠ "java/lang/invoke/MethodHandle" ∧ y_GK_keep.cls ≠ "java/lang/invoke/VarHandle") ∧ (parseMethodDescriptor y_GK_keep.desc).map (fun d => d.parameters.length) = some 1 := by decide +kernel
abbrev b_GK_goOff : ByteArray := prog_1_method_36_code
abbrev y_GK_goOff : MethodName := ⟨"GraphKeep", "goOff", "()V"⟩
theorem hy_GK_goOff : (y_GK_goOff.cls ≠ "java/lang/invoke/MethodHandle" ∧ y_GK_goOff.cls ≠ "java/lang/invoke/VarHandle") ∧ (parseMethodDescriptor y_GK_goOff.desc).map (fun d => d.parameters.length) = some 0 := by decide +kernel
abbrev b_GK_closeStatement : ByteArray := prog_1_method_37_code
abbrev y_GK_closeStatement : MethodName := ⟨"GraphKeep", "closeStatement", "()V"⟩
theorem hy_GK_closeStatement : (y_GK_closeStatement.cls ≠ "java/lang/invoke/MethodHandle" ∧ y_GK_closeStatement.cls ≠ "java/lang/invoke/VarHandle") ∧ (parseMethodDescriptor y_GK_closeStatement.desc).map (fun d => d.parameters.length) = some 0 := by decide +kernel
abbrev b_GK_undoStatement : ByteArray := prog_1_method_38_code
abbrev y_GK_undoStatement : MethodName := ⟨"GraphKeep", "undoStatement", "()V"⟩
theorem hy_GK_undoStatement : (y_GK_undoStatement.cls ≠ "java/lang/invoke/MethodHandle" ∧ y_GK_undoStatement.cls ≠ "java/lang/invoke/VarHandle") ∧ (parseMethodDescriptor y_GK_undoStatement.desc).map (fun d => d.parameters.length) = some 0 := by decide +kernel
abbrev b_GK_startStatement : ByteArray := prog_1_method_39_code
abbrev y_GK_startStatement : MethodName := ⟨"GraphKeep", "startStatement", "()V"⟩
theorem hy_GK_startStatement : (y_GK_startStatement.cls ≠ "java/lang/invoke/MethodHandle" ∧ y_GK_startStatement.cls ≠ "java/lang/invoke/VarHandle") ∧ (parseMethodDescriptor y_GK_startStatement.desc).map (fun d => d.parameters.length) = some 0 := by decide +kernel
abbrev b_GK_forgetUnderWay : ByteArray := prog_1_method_40_code
abbrev y_GK_forgetUnderWay : MethodName := ⟨"GraphKeep", "forgetUnderWay", "()V"⟩
theorem hy_GK_forgetUnderWay : (y_GK_forgetUnderWay.cls ≠ "java/lang/invoke/MethodHandle" ∧ y_GK_forgetUnderWay.cls ≠ "java/lang/invoke/VarHandle") ∧ (parseMethodDescriptor y_GK_forgetUnderWay.desc).map (fun d => d.parameters.length) = some 0 := by decide +kernel
abbrev b_GK_restoreKept : ByteArray := prog_1_method_41_code
abbrev y_GK_restoreKept : MethodName := ⟨"GraphKeep", "restoreKept", "()V"⟩
theorem hy_GK_restoreKept : (y_GK_restoreKept.cls ≠ "java/lang/invoke/MethodHandle" ∧ y_GK_restoreKept.cls ≠ "java/lang/invoke/VarHandle") ∧ (parseMethodDescriptor y_GK_restoreKept.desc).map (fun d => d.parameters.length) = some 0 := by decide +kernel
abbrev b_GK_nodeFact : ByteArray := prog_1_method_42_code
abbrev y_GK_nodeFact : MethodName := ⟨"GraphKeep", "nodeFact", "(LGraphKeep$Node;II)I"⟩
theorem hy_GK_nodeFact : (y_GK_nodeFact.cls ≠ "java/lang/invoke/MethodHandle" ∧ y_GK_nodeFact.cls ≠ "java/lang/invoke/VarHandle") ∧ (parseMethodDescriptor y_GK_nodeFact.desc).map (fun d => d.parameters.length) = some 3 := by decide +kernel
abbrev b_GK_linkFact : ByteArray := prog_1_method_43_code
abbrev y_GK_linkFact : MethodName := ⟨"GraphKeep", "linkFact", "(LGraphKeep$Link;I)I"⟩
theorem hy_GK_linkFact : (y_GK_linkFact.cls ≠ "java/lang/invoke/MethodHandle" ∧ y_GK_linkFact.cls ≠ "java/lang/invoke/VarHandle") ∧ (parseMethodDescriptor y_GK_linkFact.desc).map (fun d => d.parameters.length) = some 2 := by decide +kernel
abbrev b_Law_node : ByteArray := method_3_code
abbrev y_Law_node : MethodName := ⟨"GraphKeepLaw", "node", "(LGraphKeep;[J)I"⟩
theorem hy_Law_node : (y_Law_node.cls ≠ "java/lang/invoke/MethodHandle" ∧ y_Law_node.cls ≠ "java/lang/invoke/VarHandle") ∧ (parseMethodDescriptor y_Law_node.desc).map (fun d => d.parameters.length) = some 2 := by decide +kernel
abbrev b_Law_label : ByteArray := method_4_code
abbrev y_Law_label : MethodName := ⟨"GraphKeepLaw", "label", "(LGraphKeep;IIZ[J)I"⟩
theorem hy_Law_label : (y_Law_label.cls ≠ "java/lang/invoke/MethodHandle" ∧ y_Law_label.cls ≠ "java/lang/invoke/VarHandle") ∧ (parseMethodDescriptor y_Law_label.desc).map (fun d => d.parameters.length) = some 5 := by decide +kernel
abbrev b_Law_property : ByteArray := method_5_code
abbrev y_Law_property : MethodName := ⟨"GraphKeepLaw", "property", "(LGraphKeep;IIIIJ[J)I"⟩
theorem hy_Law_property : (y_Law_property.cls ≠ "java/lang/invoke/MethodHandle" ∧ y_Law_property.cls ≠ "java/lang/invoke/VarHandle") ∧ (parseMethodDescriptor y_Law_property.desc).map (fun d => d.parameters.length) = some 7 := by decide +kernel
abbrev b_Law_link : ByteArray := method_6_code
abbrev y_Law_link : MethodName := ⟨"GraphKeepLaw", "link", "(LGraphKeep;III[J)I"⟩
theorem hy_Law_link : (y_Law_link.cls ≠ "java/lang/invoke/MethodHandle" ∧ y_Law_link.cls ≠ "java/lang/invoke/VarHandle") ∧ (parseMethodDescriptor y_Law_link.desc).map (fun d => d.parameters.length) = some 5 := by decide +kernel
abbrev b_Law_take : ByteArray := method_7_code
abbrev y_Law_take : MethodName := ⟨"GraphKeepLaw", "take", "(LGraphKeep;II)I"⟩
theorem hy_Law_take : (y_Law_take.cls ≠ "java/lang/invoke/MethodHandle" ∧ y_Law_take.cls ≠ "java/lang/invoke/VarHandle") ∧ (parseMethodDescriptor y_Law_take.desc).map (fun d => d.parameters.length) = some 3 := by decide +kernel
abbrev b_Law_done : ByteArray := method_8_code
abbrev y_Law_done : MethodName := ⟨"GraphKeepLaw", "done", "(LGraphKeep;[J)I"⟩
theorem hy_Law_done : (y_Law_done.cls ≠ "java/lang/invoke/MethodHandle" ∧ y_Law_done.cls ≠ "java/lang/invoke/VarHandle") ∧ (parseMethodDescriptor y_Law_done.desc).map (fun d => d.parameters.length) = some 2 := by decide +kernel
abbrev b_Law_commit : ByteArray := method_9_code
abbrev y_Law_commit : MethodName := ⟨"GraphKeepLaw", "commit", "(LGraphKeep;[J)I"⟩
theorem hy_Law_commit : (y_Law_commit.cls ≠ "java/lang/invoke/MethodHandle" ∧ y_Law_commit.cls ≠ "java/lang/invoke/VarHandle") ∧ (parseMethodDescriptor y_Law_commit.desc).map (fun d => d.parameters.length) = some 2 := by decide +kernel
abbrev b_Law_checkpoint : ByteArray := method_10_code
abbrev y_Law_checkpoint : MethodName := ⟨"GraphKeepLaw", "checkpoint", "(LGraphKeep;[J)I"⟩
theorem hy_Law_checkpoint : (y_Law_checkpoint.cls ≠ "java/lang/invoke/MethodHandle" ∧ y_Law_checkpoint.cls ≠ "java/lang/invoke/VarHandle") ∧ (parseMethodDescriptor y_Law_checkpoint.desc).map (fun d => d.parameters.length) = some 2 := by decide +kernel
abbrev b_Law_value : ByteArray := method_11_code
abbrev y_Law_value : MethodName := ⟨"GraphKeepLaw", "value", "(LGraphKeep;IIII[J)I"⟩
theorem hy_Law_value : (y_Law_value.cls ≠ "java/lang/invoke/MethodHandle" ∧ y_Law_value.cls ≠ "java/lang/invoke/VarHandle") ∧ (parseMethodDescriptor y_Law_value.desc).map (fun d => d.parameters.length) = some 6 := by decide +kernel
abbrev b_Law_law : ByteArray := code
abbrev y_Law_law : MethodName := ⟨"GraphKeepLaw", "law", "([I)Z"⟩
theorem hy_Law_law : (y_Law_law.cls ≠ "java/lang/invoke/MethodHandle" ∧ y_Law_law.cls ≠ "java/lang/invoke/VarHandle") ∧ (parseMethodDescriptor y_Law_law.desc).map (fun d => d.parameters.length) = some 1 := by decide +kernel
abbrev b_Model_init : ByteArray := prog_10_method_1_code
abbrev y_Model_init : MethodName := ⟨"GraphKeepModel", "<init>", "()V"⟩
theorem hy_Model_init : (y_Model_init.cls ≠ "java/lang/invoke/MethodHandle" ∧ y_Model_init.cls ≠ "java/lang/invoke/VarHandle") ∧ (parseMethodDescriptor y_Model_init.desc).map (fun d => d.parameters.length) = some 0 := by decide +kernel
abbrev b_Model_thrown : ByteArray := prog_10_method_2_code
abbrev y_Model_thrown : MethodName := ⟨"GraphKeepModel", "thrown", "()I"⟩
theorem hy_Model_thrown : (y_Model_thrown.cls ≠ "java/lang/invoke/MethodHandle" ∧ y_Model_thrown.cls ≠ "java/lang/invoke/VarHandle") ∧ (parseMethodDescriptor y_Model_thrown.desc).map (fun d => d.parameters.length) = some 0 := by decide +kernel
abbrev b_Model_copyThing : ByteArray := prog_10_method_3_code
abbrev y_Model_copyThing : MethodName := ⟨"GraphKeepModel", "copyThing", "(II)V"⟩
theorem hy_Model_copyThing : (y_Model_copyThing.cls ≠ "java/lang/invoke/MethodHandle" ∧ y_Model_copyThing.cls ≠ "java/lang/invoke/VarHandle") ∧ (parseMethodDescriptor y_Model_copyThing.desc).map (fun d => d.parameters.length) = some 2 := by decide +kernel
abbrev b_Model_copy : ByteArray := prog_10_method_4_code
abbrev y_Model_copy : MethodName := ⟨"GraphKeepModel", "copy", "(II)V"⟩
theorem hy_Model_copy : (y_Model_copy.cls ≠ "java/lang/invoke/MethodHandle" ∧ y_Model_copy.cls ≠ "java/lang/invoke/VarHandle") ∧ (parseMethodDescriptor y_Model_copy.desc).map (fun d => d.parameters.length) = some 2 := by decide +kernel
abbrev b_Model_erase : ByteArray := prog_10_method_5_code
abbrev y_Model_erase : MethodName := ⟨"GraphKeepModel", "erase", "()V"⟩
theorem hy_Model_erase : (y_Model_erase.cls ≠ "java/lang/invoke/MethodHandle" ∧ y_Model_erase.cls ≠ "java/lang/invoke/VarHandle") ∧ (parseMethodDescriptor y_Model_erase.desc).map (fun d => d.parameters.length) = some 0 := by decide +kernel
abbrev b_Model_find : ByteArray := prog_10_method_6_code
abbrev y_Model_find : MethodName := ⟨"GraphKeepModel", "find", "(II)I"⟩
theorem hy_Model_find : (y_Model_find.cls ≠ "java/lang/invoke/MethodHandle" ∧ y_Model_find.cls ≠ "java/lang/invoke/VarHandle") ∧ (parseMethodDescriptor y_Model_find.desc).map (fun d => d.parameters.length) = some 2 := by decide +kernel
abbrev b_Model_propertyOf : ByteArray := prog_10_method_7_code
abbrev y_Model_propertyOf : MethodName := ⟨"GraphKeepModel", "propertyOf", "(II)I"⟩
theorem hy_Model_propertyOf : (y_Model_propertyOf.cls ≠ "java/lang/invoke/MethodHandle" ∧ y_Model_propertyOf.cls ≠ "java/lang/invoke/VarHandle") ∧ (parseMethodDescriptor y_Model_propertyOf.desc).map (fun d => d.parameters.length) = some 2 := by decide +kernel
abbrev b_Model_isLabeled : ByteArray := prog_10_method_8_code
abbrev y_Model_isLabeled : MethodName := ⟨"GraphKeepModel", "isLabeled", "(II)Z"⟩
theorem hy_Model_isLabeled : (y_Model_isLabeled.cls ≠ "java/lang/invoke/MethodHandle" ∧ y_Model_isLabeled.cls ≠ "java/lang/invoke/VarHandle") ∧ (parseMethodDescriptor y_Model_isLabeled.desc).map (fun d => d.parameters.length) = some 2 := by decide +kernel
abbrev b_Model_links : ByteArray := prog_10_method_9_code
abbrev y_Model_links : MethodName := ⟨"GraphKeepModel", "links", "(IZ)I"⟩
theorem hy_Model_links : (y_Model_links.cls ≠ "java/lang/invoke/MethodHandle" ∧ y_Model_links.cls ≠ "java/lang/invoke/VarHandle") ∧ (parseMethodDescriptor y_Model_links.desc).map (fun d => d.parameters.length) = some 2 := by decide +kernel
abbrev b_Model_free : ByteArray := prog_10_method_10_code
abbrev y_Model_free : MethodName := ⟨"GraphKeepModel", "free", "(II)I"⟩
theorem hy_Model_free : (y_Model_free.cls ≠ "java/lang/invoke/MethodHandle" ∧ y_Model_free.cls ≠ "java/lang/invoke/VarHandle") ∧ (parseMethodDescriptor y_Model_free.desc).map (fun d => d.parameters.length) = some 2 := by decide +kernel
abbrev b_Model_settle : ByteArray := prog_10_method_11_code
abbrev y_Model_settle : MethodName := ⟨"GraphKeepModel", "settle", "()V"⟩
theorem hy_Model_settle : (y_Model_settle.cls ≠ "java/lang/invoke/MethodHandle" ∧ y_Model_settle.cls ≠ "java/lang/invoke/VarHandle") ∧ (parseMethodDescriptor y_Model_settle.desc).map (fun d => d.parameters.length) = some 0 := by decide +kernel
abbrev b_Model_fails : ByteArray := prog_10_method_12_code
abbrev y_Model_fails : MethodName := ⟨"GraphKeepModel", "fails", "(ZZZZZ)Z"⟩
theorem hy_Model_fails : (y_Model_fails.cls ≠ "java/lang/invoke/MethodHandle" ∧ y_Model_fails.cls ≠ "java/lang/invoke/VarHandle") ∧ (parseMethodDescriptor y_Model_fails.desc).map (fun d => d.parameters.length) = some 5 := by decide +kernel
abbrev b_Model_begins : ByteArray := prog_10_method_13_code
abbrev y_Model_begins : MethodName := ⟨"GraphKeepModel", "begins", "()V"⟩
theorem hy_Model_begins : (y_Model_begins.cls ≠ "java/lang/invoke/MethodHandle" ∧ y_Model_begins.cls ≠ "java/lang/invoke/VarHandle") ∧ (parseMethodDescriptor y_Model_begins.desc).map (fun d => d.parameters.length) = some 0 := by decide +kernel
abbrev b_Model_back : ByteArray := prog_10_method_14_code
abbrev y_Model_back : MethodName := ⟨"GraphKeepModel", "back", "()V"⟩
theorem hy_Model_back : (y_Model_back.cls ≠ "java/lang/invoke/MethodHandle" ∧ y_Model_back.cls ≠ "java/lang/invoke/VarHandle") ∧ (parseMethodDescriptor y_Model_back.desc).map (fun d => d.parameters.length) = some 0 := by decide +kernel
abbrev b_Model_write : ByteArray := prog_10_method_15_code
abbrev y_Model_write : MethodName := ⟨"GraphKeepModel", "write", "()Z"⟩
theorem hy_Model_write : (y_Model_write.cls ≠ "java/lang/invoke/MethodHandle" ∧ y_Model_write.cls ≠ "java/lang/invoke/VarHandle") ∧ (parseMethodDescriptor y_Model_write.desc).map (fun d => d.parameters.length) = some 0 := by decide +kernel
abbrev b_Model_log : ByteArray := prog_10_method_16_code
abbrev y_Model_log : MethodName := ⟨"GraphKeepModel", "log", "(I)Z"⟩
theorem hy_Model_log : (y_Model_log.cls ≠ "java/lang/invoke/MethodHandle" ∧ y_Model_log.cls ≠ "java/lang/invoke/VarHandle") ∧ (parseMethodDescriptor y_Model_log.desc).map (fun d => d.parameters.length) = some 1 := by decide +kernel
abbrev b_Model_fits : ByteArray := prog_10_method_17_code
abbrev y_Model_fits : MethodName := ⟨"GraphKeepModel", "fits", "(I)Z"⟩
theorem hy_Model_fits : (y_Model_fits.cls ≠ "java/lang/invoke/MethodHandle" ∧ y_Model_fits.cls ≠ "java/lang/invoke/VarHandle") ∧ (parseMethodDescriptor y_Model_fits.desc).map (fun d => d.parameters.length) = some 1 := by decide +kernel
abbrev b_Model_type : ByteArray := prog_10_method_18_code
abbrev y_Model_type : MethodName := ⟨"GraphKeepModel", "type", "(JI)Z"⟩
theorem hy_Model_type : (y_Model_type.cls ≠ "java/lang/invoke/MethodHandle" ∧ y_Model_type.cls ≠ "java/lang/invoke/VarHandle") ∧ (parseMethodDescriptor y_Model_type.desc).map (fun d => d.parameters.length) = some 2 := by decide +kernel
abbrev b_Model_node : ByteArray := prog_10_method_19_code
abbrev y_Model_node : MethodName := ⟨"GraphKeepModel", "node", "()I"⟩
theorem hy_Model_node : (y_Model_node.cls ≠ "java/lang/invoke/MethodHandle" ∧ y_Model_node.cls ≠ "java/lang/invoke/VarHandle") ∧ (parseMethodDescriptor y_Model_node.desc).map (fun d => d.parameters.length) = some 0 := by decide +kernel
abbrev b_Model_label : ByteArray := prog_10_method_20_code
abbrev y_Model_label : MethodName := ⟨"GraphKeepModel", "label", "(IIZ)Z"⟩
theorem hy_Model_label : (y_Model_label.cls ≠ "java/lang/invoke/MethodHandle" ∧ y_Model_label.cls ≠ "java/lang/invoke/VarHandle") ∧ (parseMethodDescriptor y_Model_label.desc).map (fun d => d.parameters.length) = some 3 := by decide +kernel
abbrev b_Model_isSame : ByteArray := prog_10_method_21_code
abbrev y_Model_isSame : MethodName := ⟨"GraphKeepModel", "isSame", "(IIJ)Z"⟩
theorem hy_Model_isSame : (y_Model_isSame.cls ≠ "java/lang/invoke/MethodHandle" ∧ y_Model_isSame.cls ≠ "java/lang/invoke/VarHandle") ∧ (parseMethodDescriptor y_Model_isSame.desc).map (fun d => d.parameters.length) = some 3 := by decide +kernel
abbrev b_Model_lay : ByteArray := prog_10_method_22_code
abbrev y_Model_lay : MethodName := ⟨"GraphKeepModel", "lay", "(IIIJ)V"⟩
theorem hy_Model_lay : (y_Model_lay.cls ≠ "java/lang/invoke/MethodHandle" ∧ y_Model_lay.cls ≠ "java/lang/invoke/VarHandle") ∧ (parseMethodDescriptor y_Model_lay.desc).map (fun d => d.parameters.length) = some 4 := by decide +kernel
abbrev b_Model_dropProperty : ByteArray := prog_10_method_23_code
abbrev y_Model_dropProperty : MethodName := ⟨"GraphKeepModel", "dropProperty", "(II)V"⟩
theorem hy_Model_dropProperty : (y_Model_dropProperty.cls ≠ "java/lang/invoke/MethodHandle" ∧ y_Model_dropProperty.cls ≠ "java/lang/invoke/VarHandle") ∧ (parseMethodDescriptor y_Model_dropProperty.desc).map (fun d => d.parameters.length) = some 2 := by decide +kernel
abbrev b_Model_property : ByteArray := prog_10_method_24_code
abbrev y_Model_property : MethodName := ⟨"GraphKeepModel", "property", "(IIIIJ)Z"⟩
theorem hy_Model_property : (y_Model_property.cls ≠ "java/lang/invoke/MethodHandle" ∧ y_Model_property.cls ≠ "java/lang/invoke/VarHandle") ∧ (parseMethodDescriptor y_Model_property.desc).map (fun d => d.parameters.length) = some 5 := by decide +kernel
abbrev b_Model_link : ByteArray := prog_10_method_25_code
abbrev y_Model_link : MethodName := ⟨"GraphKeepModel", "link", "(III)I"⟩
theorem hy_Model_link : (y_Model_link.cls ≠ "java/lang/invoke/MethodHandle" ∧ y_Model_link.cls ≠ "java/lang/invoke/VarHandle") ∧ (parseMethodDescriptor y_Model_link.desc).map (fun d => d.parameters.length) = some 3 := by decide +kernel
abbrev b_Model_take : ByteArray := prog_10_method_26_code
abbrev y_Model_take : MethodName := ⟨"GraphKeepModel", "take", "(II)V"⟩
theorem hy_Model_take : (y_Model_take.cls ≠ "java/lang/invoke/MethodHandle" ∧ y_Model_take.cls ≠ "java/lang/invoke/VarHandle") ∧ (parseMethodDescriptor y_Model_take.desc).map (fun d => d.parameters.length) = some 2 := by decide +kernel
abbrev b_Model_error : ByteArray := prog_10_method_27_code
abbrev y_Model_error : MethodName := ⟨"GraphKeepModel", "error", "()I"⟩
theorem hy_Model_error : (y_Model_error.cls ≠ "java/lang/invoke/MethodHandle" ∧ y_Model_error.cls ≠ "java/lang/invoke/VarHandle") ∧ (parseMethodDescriptor y_Model_error.desc).map (fun d => d.parameters.length) = some 0 := by decide +kernel
abbrev b_Model_done : ByteArray := prog_10_method_28_code
abbrev y_Model_done : MethodName := ⟨"GraphKeepModel", "done", "()I"⟩
theorem hy_Model_done : (y_Model_done.cls ≠ "java/lang/invoke/MethodHandle" ∧ y_Model_done.cls ≠ "java/lang/invoke/VarHandle") ∧ (parseMethodDescriptor y_Model_done.desc).map (fun d => d.parameters.length) = some 0 := by decide +kernel
abbrev b_Model_undo : ByteArray := prog_10_method_29_code
abbrev y_Model_undo : MethodName := ⟨"GraphKeepModel", "undo", "()I"⟩
theorem hy_Model_undo : (y_Model_undo.cls ≠ "java/lang/invoke/MethodHandle" ∧ y_Model_undo.cls ≠ "java/lang/invoke/VarHandle") ∧ (parseMethodDescriptor y_Model_undo.desc).map (fun d => d.parameters.length) = some 0 := by decide +kernel
abbrev b_Model_begin : ByteArray := prog_10_method_30_code
abbrev y_Model_begin : MethodName := ⟨"GraphKeepModel", "begin", "()Z"⟩
theorem hy_Model_begin : (y_Model_begin.cls ≠ "java/lang/invoke/MethodHandle" ∧ y_Model_begin.cls ≠ "java/lang/invoke/VarHandle") ∧ (parseMethodDescriptor y_Model_begin.desc).map (fun d => d.parameters.length) = some 0 := by decide +kernel
abbrev b_Model_commit : ByteArray := prog_10_method_31_code
abbrev y_Model_commit : MethodName := ⟨"GraphKeepModel", "commit", "()I"⟩
theorem hy_Model_commit : (y_Model_commit.cls ≠ "java/lang/invoke/MethodHandle" ∧ y_Model_commit.cls ≠ "java/lang/invoke/VarHandle") ∧ (parseMethodDescriptor y_Model_commit.desc).map (fun d => d.parameters.length) = some 0 := by decide +kernel
abbrev b_Model_rollback : ByteArray := prog_10_method_32_code
abbrev y_Model_rollback : MethodName := ⟨"GraphKeepModel", "rollback", "()Z"⟩
theorem hy_Model_rollback : (y_Model_rollback.cls ≠ "java/lang/invoke/MethodHandle" ∧ y_Model_rollback.cls ≠ "java/lang/invoke/VarHandle") ∧ (parseMethodDescriptor y_Model_rollback.desc).map (fun d => d.parameters.length) = some 0 := by decide +kernel
abbrev b_Model_count : ByteArray := prog_10_method_33_code
abbrev y_Model_count : MethodName := ⟨"GraphKeepModel", "count", "(II)I"⟩
theorem hy_Model_count : (y_Model_count.cls ≠ "java/lang/invoke/MethodHandle" ∧ y_Model_count.cls ≠ "java/lang/invoke/VarHandle") ∧ (parseMethodDescriptor y_Model_count.desc).map (fun d => d.parameters.length) = some 2 := by decide +kernel
abbrev b_Model_checkpoint : ByteArray := prog_10_method_34_code
abbrev y_Model_checkpoint : MethodName := ⟨"GraphKeepModel", "checkpoint", "()I"⟩
theorem hy_Model_checkpoint : (y_Model_checkpoint.cls ≠ "java/lang/invoke/MethodHandle" ∧ y_Model_checkpoint.cls ≠ "java/lang/invoke/VarHandle") ∧ (parseMethodDescriptor y_Model_checkpoint.desc).map (fun d => d.parameters.length) = some 0 := by decide +kernel
abbrev b_Model_cut : ByteArray := prog_10_method_35_code
abbrev y_Model_cut : MethodName := ⟨"GraphKeepModel", "cut", "(I)Z"⟩
theorem hy_Model_cut : (y_Model_cut.cls ≠ "java/lang/invoke/MethodHandle" ∧ y_Model_cut.cls ≠ "java/lang/invoke/VarHandle") ∧ (parseMethodDescriptor y_Model_cut.desc).map (fun d => d.parameters.length) = some 1 := by decide +kernel
abbrev b_Model_recover : ByteArray := prog_10_method_36_code
abbrev y_Model_recover : MethodName := ⟨"GraphKeepModel", "recover", "()I"⟩
theorem hy_Model_recover : (y_Model_recover.cls ≠ "java/lang/invoke/MethodHandle" ∧ y_Model_recover.cls ≠ "java/lang/invoke/VarHandle") ∧ (parseMethodDescriptor y_Model_recover.desc).map (fun d => d.parameters.length) = some 0 := by decide +kernel
abbrev b_Model_thing : ByteArray := prog_10_method_37_code
abbrev y_Model_thing : MethodName := ⟨"GraphKeepModel", "thing", "(III)I"⟩
theorem hy_Model_thing : (y_Model_thing.cls ≠ "java/lang/invoke/MethodHandle" ∧ y_Model_thing.cls ≠ "java/lang/invoke/VarHandle") ∧ (parseMethodDescriptor y_Model_thing.desc).map (fun d => d.parameters.length) = some 3 := by decide +kernel
abbrev b_Model_chain : ByteArray := prog_10_method_38_code
abbrev y_Model_chain : MethodName := ⟨"GraphKeepModel", "chain", "(IZI)I"⟩
theorem hy_Model_chain : (y_Model_chain.cls ≠ "java/lang/invoke/MethodHandle" ∧ y_Model_chain.cls ≠ "java/lang/invoke/VarHandle") ∧ (parseMethodDescriptor y_Model_chain.desc).map (fun d => d.parameters.length) = some 3 := by decide +kernel
abbrev b_Model_has : ByteArray := prog_10_method_39_code
abbrev y_Model_has : MethodName := ⟨"GraphKeepModel", "has", "(II)Z"⟩
theorem hy_Model_has : (y_Model_has.cls ≠ "java/lang/invoke/MethodHandle" ∧ y_Model_has.cls ≠ "java/lang/invoke/VarHandle") ∧ (parseMethodDescriptor y_Model_has.desc).map (fun d => d.parameters.length) = some 2 := by decide +kernel
abbrev b_Model_value : ByteArray := prog_10_method_40_code
abbrev y_Model_value : MethodName := ⟨"GraphKeepModel", "value", "(IIII)J"⟩
theorem hy_Model_value : (y_Model_value.cls ≠ "java/lang/invoke/MethodHandle" ∧ y_Model_value.cls ≠ "java/lang/invoke/VarHandle") ∧ (parseMethodDescriptor y_Model_value.desc).map (fun d => d.parameters.length) = some 4 := by decide +kernel
abbrev b_Model_state : ByteArray := prog_10_method_41_code
abbrev y_Model_state : MethodName := ⟨"GraphKeepModel", "state", "(I)I"⟩
theorem hy_Model_state : (y_Model_state.cls ≠ "java/lang/invoke/MethodHandle" ∧ y_Model_state.cls ≠ "java/lang/invoke/VarHandle") ∧ (parseMethodDescriptor y_Model_state.desc).map (fun d => d.parameters.length) = some 1 := by decide +kernel
