/-! WORDS: their places in the tables -/
theorem kn_Law : Cond.initialized "GraphKeepLaw" ∈ hv_Ts := hv_mem 0 (by decide +kernel) rfl
theorem kn_GK : Cond.initialized "GraphKeep" ∈ hv_Ts := hv_mem 1 (by decide +kernel) rfl
theorem kn_Gr : Cond.initialized "GraphKeep$Graph" ∈ hv_Ts := hv_mem 2 (by decide +kernel) rfl
theorem kn_Lg : Cond.initialized "GraphKeep$Log" ∈ hv_Ts := hv_mem 3 (by decide +kernel) rfl
theorem kn_Tp : Cond.initialized "GraphKeep$Tape" ∈ hv_Ts := hv_mem 4 (by decide +kernel) rfl
theorem kn_Model : Cond.initialized "GraphKeepModel" ∈ hv_Ts := hv_mem 5 (by decide +kernel) rfl
theorem kn_Throwable : Cond.initialized "java/lang/Throwable" ∈ hv_Ts := hv_mem 6 (by decide +kernel) rfl
theorem kn_Exception : Cond.initialized "java/lang/Exception" ∈ hv_Ts := hv_mem 7 (by decide +kernel) rfl
theorem kn_RuntimeException : Cond.initialized "java/lang/RuntimeException" ∈ hv_Ts := hv_mem 8 (by decide +kernel) rfl
theorem kn_IllegalStateException : Cond.initialized "java/lang/IllegalStateException" ∈ hv_Ts := hv_mem 9 (by decide +kernel) rfl
theorem kn_ArithmeticException : Cond.initialized "java/lang/ArithmeticException" ∈ hv_Ts := hv_mem 10 (by decide +kernel) rfl
theorem kn_Th : Cond.initialized "GraphKeep$Thing" ∈ hv_Ts := hv_mem 11 (by decide +kernel) rfl
theorem kn_Nd : Cond.initialized "GraphKeep$Node" ∈ hv_Ts := hv_mem 12 (by decide +kernel) rfl
theorem kn_Lk : Cond.initialized "GraphKeep$Link" ∈ hv_Ts := hv_mem 13 (by decide +kernel) rfl
theorem kn_Pr : Cond.initialized "GraphKeep$Property" ∈ hv_Ts := hv_mem 14 (by decide +kernel) rfl
theorem kn_Math : Cond.initialized "java/lang/Math" ∈ hv_Ts := hv_mem 15 (by decide +kernel) rfl
theorem kn_NoSuchElementException : Cond.initialized "java/util/NoSuchElementException" ∈ hv_Ts := hv_mem 16 (by decide +kernel) rfl
theorem k_Law_8 : Cond.classLink "GraphKeepLaw" 8 "GraphKeep" ∈ hv_Ts := hv_mem 17 (by decide +kernel) rfl
theorem kin_GK : Cond.instantiable "GraphKeep" 12 ∈ hv_Ts := hv_mem 18 (by decide +kernel) rfl
theorem k_Law_48 : Cond.methodLink "GraphKeepLaw" 48 ⟨"GraphKeep", "<init>", "()V"⟩ ∈ hv_Ts := hv_mem 19 (by decide +kernel) rfl
theorem ki_GK_init : Cond.instanceMethod ⟨"GraphKeep", "<init>", "()V"⟩ ∈ hv_Ts := hv_mem 20 (by decide +kernel) rfl
theorem kc_GK_init : Cond.code ⟨"GraphKeep", "<init>", "()V"⟩ prog_1_method_1_code 1 none ∈ hv_Ts := hv_mem 21 (by decide +kernel) rfl
theorem k_GK_1 : Cond.methodLink "GraphKeep" 1 ⟨"java/lang/Object", "<init>", "()V"⟩ ∈ hv_Ts := hv_mem 22 (by decide +kernel) rfl
theorem ki_objInit : Cond.instanceMethod Lib.objectInit ∈ hv_Ts := hv_mem 23 (by decide +kernel) rfl
theorem kc_objInit : Cond.code Lib.objectInit ⟨#[0xb1]⟩ 1 none ∈ hv_Ts := hv_mem 24 (by decide +kernel) rfl
theorem k_GK_7 : Cond.classLink "GraphKeep" 7 "GraphKeep$Graph" ∈ hv_Ts := hv_mem 25 (by decide +kernel) rfl
theorem kin_Gr : Cond.instantiable "GraphKeep$Graph" 2 ∈ hv_Ts := hv_mem 26 (by decide +kernel) rfl
theorem k_GK_9 : Cond.methodLinkNest "GraphKeep" 9 ⟨"GraphKeep$Graph", "<init>", "()V"⟩ "GraphKeep" ∈ lw_tbl := hv_memL 27 (by decide +kernel)
theorem ki_Gr_init : Cond.instanceMethod ⟨"GraphKeep$Graph", "<init>", "()V"⟩ ∈ hv_Ts := hv_mem 28 (by decide +kernel) rfl
theorem kc_Gr_init : Cond.code ⟨"GraphKeep$Graph", "<init>", "()V"⟩ prog_2_method_1_code 1 none ∈ hv_Ts := hv_mem 29 (by decide +kernel) rfl
theorem k_Gr_3 : Cond.methodLink "GraphKeep$Graph" 3 ⟨"java/lang/Object", "<init>", "()V"⟩ ∈ hv_Ts := hv_mem 30 (by decide +kernel) rfl
theorem k_Gr_9 : Cond.classLink "GraphKeep$Graph" 9 "GraphKeep$Node" ∈ hv_Ts := hv_mem 31 (by decide +kernel) rfl
theorem ko_Nd : Cond.arrayOver (.object "GraphKeep$Node") ∈ lw_tbl := hv_memL 32 (by decide +kernel)
theorem k_Gr_17 : Cond.classLink "GraphKeep$Graph" 17 "GraphKeep$Link" ∈ hv_Ts := hv_mem 33 (by decide +kernel) rfl
theorem ko_Lk : Cond.arrayOver (.object "GraphKeep$Link") ∈ lw_tbl := hv_memL 34 (by decide +kernel)
theorem k_Gr_11 : Cond.fieldLink "GraphKeep$Graph" 11 "GraphKeep$Graph" "nodes" "[LGraphKeep$Node;" ∈ hv_Ts := hv_mem 35 (by decide +kernel) rfl
theorem k_Gr_19 : Cond.fieldLink "GraphKeep$Graph" 19 "GraphKeep$Graph" "links" "[LGraphKeep$Link;" ∈ hv_Ts := hv_mem 36 (by decide +kernel) rfl
theorem k_GK_22 : Cond.classLink "GraphKeep" 22 "GraphKeep$Log" ∈ hv_Ts := hv_mem 42 (by decide +kernel) rfl
theorem kin_Lg : Cond.instantiable "GraphKeep$Log" 5 ∈ hv_Ts := hv_mem 43 (by decide +kernel) rfl
theorem k_GK_24 : Cond.methodLinkNest "GraphKeep" 24 ⟨"GraphKeep$Log", "<init>", "()V"⟩ "GraphKeep" ∈ lw_tbl := hv_memL 44 (by decide +kernel)
theorem ki_Lg_init : Cond.instanceMethod ⟨"GraphKeep$Log", "<init>", "()V"⟩ ∈ hv_Ts := hv_mem 45 (by decide +kernel) rfl
theorem kc_Lg_init : Cond.code ⟨"GraphKeep$Log", "<init>", "()V"⟩ prog_4_method_1_code 1 none ∈ hv_Ts := hv_mem 46 (by decide +kernel) rfl
theorem k_Lg_3 : Cond.methodLink "GraphKeep$Log" 3 ⟨"java/lang/Object", "<init>", "()V"⟩ ∈ hv_Ts := hv_mem 47 (by decide +kernel) rfl
theorem k_Lg_37 : Cond.fieldLink "GraphKeep$Log" 37 "GraphKeep$Log" "writes" "I" ∈ hv_Ts := hv_mem 48 (by decide +kernel) rfl
theorem k_GK_247 : Cond.fieldLink "GraphKeep" 247 "GraphKeep$Log" "writes" "I" ∈ hv_Ts := hv_mem 49 (by decide +kernel) rfl
theorem k_Lg_9 : Cond.fieldLink "GraphKeep$Log" 9 "GraphKeep$Log" "ended" "I" ∈ hv_Ts := hv_mem 50 (by decide +kernel) rfl
theorem k_GK_250 : Cond.fieldLink "GraphKeep" 250 "GraphKeep$Log" "ended" "I" ∈ hv_Ts := hv_mem 51 (by decide +kernel) rfl
theorem k_Lg_25 : Cond.fieldLink "GraphKeep$Log" 25 "GraphKeep$Log" "loose" "I" ∈ hv_Ts := hv_mem 52 (by decide +kernel) rfl
theorem k_GK_253 : Cond.fieldLink "GraphKeep" 253 "GraphKeep$Log" "loose" "I" ∈ hv_Ts := hv_mem 53 (by decide +kernel) rfl
theorem k_Lg_28 : Cond.fieldLink "GraphKeep$Log" 28 "GraphKeep$Log" "transactions" "I" ∈ hv_Ts := hv_mem 54 (by decide +kernel) rfl
theorem k_Lg_19 : Cond.fieldLink "GraphKeep$Log" 19 "GraphKeep$Log" "writesTillFailure" "I" ∈ hv_Ts := hv_mem 55 (by decide +kernel) rfl
theorem k_GK_29 : Cond.classLink "GraphKeep" 29 "GraphKeep$Tape" ∈ hv_Ts := hv_mem 67 (by decide +kernel) rfl
theorem kin_Tp : Cond.instantiable "GraphKeep$Tape" 2 ∈ hv_Ts := hv_mem 68 (by decide +kernel) rfl
theorem k_GK_31 : Cond.methodLinkNest "GraphKeep" 31 ⟨"GraphKeep$Tape", "<init>", "()V"⟩ "GraphKeep" ∈ lw_tbl := hv_memL 69 (by decide +kernel)
theorem ki_Tp_init : Cond.instanceMethod ⟨"GraphKeep$Tape", "<init>", "()V"⟩ ∈ hv_Ts := hv_mem 70 (by decide +kernel) rfl
theorem kc_Tp_init : Cond.code ⟨"GraphKeep$Tape", "<init>", "()V"⟩ prog_7_method_1_code 1 none ∈ hv_Ts := hv_mem 71 (by decide +kernel) rfl
theorem k_Tp_3 : Cond.methodLink "GraphKeep$Tape" 3 ⟨"java/lang/Object", "<init>", "()V"⟩ ∈ hv_Ts := hv_mem 72 (by decide +kernel) rfl
theorem k_Tp_9 : Cond.fieldLink "GraphKeep$Tape" 9 "GraphKeep$Tape" "characters" "[B" ∈ hv_Ts := hv_mem 73 (by decide +kernel) rfl
theorem k_Tp_15 : Cond.fieldLink "GraphKeep$Tape" 15 "GraphKeep$Tape" "length" "I" ∈ hv_Ts := hv_mem 74 (by decide +kernel) rfl
theorem ka_byte : Cond.arrayClass .byte ∈ hv_Ts := hv_mem 80 (by decide +kernel) rfl
theorem k_GK_10 : Cond.fieldLink "GraphKeep" 10 "GraphKeep" "now" "LGraphKeep$Graph;" ∈ hv_Ts := hv_mem 81 (by decide +kernel) rfl
theorem k_GK_16 : Cond.fieldLink "GraphKeep" 16 "GraphKeep" "atStatement" "LGraphKeep$Graph;" ∈ hv_Ts := hv_mem 82 (by decide +kernel) rfl
theorem k_GK_19 : Cond.fieldLink "GraphKeep" 19 "GraphKeep" "kept" "LGraphKeep$Graph;" ∈ hv_Ts := hv_mem 83 (by decide +kernel) rfl
theorem k_GK_25 : Cond.fieldLink "GraphKeep" 25 "GraphKeep" "log" "LGraphKeep$Log;" ∈ hv_Ts := hv_mem 84 (by decide +kernel) rfl
theorem k_GK_32 : Cond.fieldLink "GraphKeep" 32 "GraphKeep" "tape" "LGraphKeep$Tape;" ∈ hv_Ts := hv_mem 85 (by decide +kernel) rfl
theorem k_GK_36 : Cond.fieldLink "GraphKeep" 36 "GraphKeep" "goneNodes" "[Z" ∈ hv_Ts := hv_mem 86 (by decide +kernel) rfl
theorem k_GK_40 : Cond.fieldLink "GraphKeep" 40 "GraphKeep" "goneLinks" "[Z" ∈ hv_Ts := hv_mem 87 (by decide +kernel) rfl
theorem k_GK_129 : Cond.fieldLink "GraphKeep" 129 "GraphKeep" "latestError" "I" ∈ hv_Ts := hv_mem 88 (by decide +kernel) rfl
theorem k_GK_133 : Cond.fieldLink "GraphKeep" 133 "GraphKeep" "statementChanges" "I" ∈ hv_Ts := hv_mem 89 (by decide +kernel) rfl
theorem k_GK_162 : Cond.fieldLink "GraphKeep" 162 "GraphKeep" "earlierChanges" "I" ∈ hv_Ts := hv_mem 90 (by decide +kernel) rfl
theorem k_GK_136 : Cond.fieldLink "GraphKeep" 136 "GraphKeep" "inTransaction" "Z" ∈ hv_Ts := hv_mem 91 (by decide +kernel) rfl
theorem k_GK_159 : Cond.fieldLink "GraphKeep" 159 "GraphKeep" "off" "Z" ∈ hv_Ts := hv_mem 92 (by decide +kernel) rfl
theorem ka_boolean : Cond.arrayClass .boolean ∈ hv_Ts := hv_mem 118 (by decide +kernel) rfl
theorem k_Law_54 : Cond.methodLink "GraphKeepLaw" 54 ⟨"GraphKeep", "type", "(JI)Z"⟩ ∈ hv_Ts := hv_mem 119 (by decide +kernel) rfl
theorem ki_GK_type : Cond.instanceMethod ⟨"GraphKeep", "type", "(JI)Z"⟩ ∈ hv_Ts := hv_mem 120 (by decide +kernel) rfl
theorem ksel_GK_GK_type : Cond.selects "GraphKeep" ⟨"GraphKeep", "type", "(JI)Z"⟩ ⟨"GraphKeep", "type", "(JI)Z"⟩ ∈ hv_Ts := hv_mem 121 (by decide +kernel) rfl
theorem kc_GK_type : Cond.code ⟨"GraphKeep", "type", "(JI)Z"⟩ prog_1_method_2_code 4 (some .boolean) ∈ hv_Ts := hv_mem 122 (by decide +kernel) rfl
theorem k_GK_43 : Cond.methodLink "GraphKeep" 43 ⟨"GraphKeep$Tape", "append", "(JI)Z"⟩ ∈ hv_Ts := hv_mem 123 (by decide +kernel) rfl
theorem ki_Tp_append : Cond.instanceMethod ⟨"GraphKeep$Tape", "append", "(JI)Z"⟩ ∈ hv_Ts := hv_mem 124 (by decide +kernel) rfl
theorem ksel_Tp_Tp_append : Cond.selects "GraphKeep$Tape" ⟨"GraphKeep$Tape", "append", "(JI)Z"⟩ ⟨"GraphKeep$Tape", "append", "(JI)Z"⟩ ∈ hv_Ts := hv_mem 125 (by decide +kernel) rfl
theorem kc_Tp_append : Cond.code ⟨"GraphKeep$Tape", "append", "(JI)Z"⟩ prog_7_method_2_code 5 (some .boolean) ∈ hv_Ts := hv_mem 126 (by decide +kernel) rfl
theorem k_Tp_19 : Cond.methodLink "GraphKeep$Tape" 19 ⟨"GraphKeep$Tape", "byteOf", "(JI)I"⟩ ∈ hv_Ts := hv_mem 127 (by decide +kernel) rfl
theorem ki_Tp_byteOf : Cond.static ⟨"GraphKeep$Tape", "byteOf", "(JI)I"⟩ ∈ hv_Ts := hv_mem 128 (by decide +kernel) rfl
theorem kc_Tp_byteOf : Cond.code ⟨"GraphKeep$Tape", "byteOf", "(JI)I"⟩ prog_7_method_4_code 3 (some .int) ∈ hv_Ts := hv_mem 129 (by decide +kernel) rfl
theorem k_Law_84 : Cond.methodLink "GraphKeepLaw" 84 ⟨"GraphKeep", "error", "()I"⟩ ∈ hv_Ts := hv_mem 130 (by decide +kernel) rfl
theorem ki_GK_error : Cond.instanceMethod ⟨"GraphKeep", "error", "()I"⟩ ∈ hv_Ts := hv_mem 131 (by decide +kernel) rfl
theorem ksel_GK_GK_error : Cond.selects "GraphKeep" ⟨"GraphKeep", "error", "()I"⟩ ⟨"GraphKeep", "error", "()I"⟩ ∈ hv_Ts := hv_mem 132 (by decide +kernel) rfl
theorem kc_GK_error : Cond.code ⟨"GraphKeep", "error", "()I"⟩ prog_1_method_8_code 1 (some .int) ∈ hv_Ts := hv_mem 133 (by decide +kernel) rfl
theorem k_Law_91 : Cond.methodLink "GraphKeepLaw" 91 ⟨"GraphKeep", "undo", "()I"⟩ ∈ hv_Ts := hv_mem 134 (by decide +kernel) rfl
theorem ki_GK_undo : Cond.instanceMethod ⟨"GraphKeep", "undo", "()I"⟩ ∈ hv_Ts := hv_mem 135 (by decide +kernel) rfl
theorem ksel_GK_GK_undo : Cond.selects "GraphKeep" ⟨"GraphKeep", "undo", "()I"⟩ ⟨"GraphKeep", "undo", "()I"⟩ ∈ hv_Ts := hv_mem 136 (by decide +kernel) rfl
theorem kc_GK_undo : Cond.code ⟨"GraphKeep", "undo", "()I"⟩ prog_1_method_10_code 2 (some .int) ∈ hv_Ts := hv_mem 137 (by decide +kernel) rfl
theorem k_GK_143 : Cond.methodLink "GraphKeep" 143 ⟨"GraphKeep", "undoStatement", "()V"⟩ ∈ hv_Ts := hv_mem 138 (by decide +kernel) rfl
theorem kpr_GK_undoStatement : Cond.privateMethod ⟨"GraphKeep", "undoStatement", "()V"⟩ ∈ lw_tbl := hv_memL 139 (by decide +kernel)
theorem ki_GK_undoStatement : Cond.instanceMethod ⟨"GraphKeep", "undoStatement", "()V"⟩ ∈ hv_Ts := hv_mem 140 (by decide +kernel) rfl
theorem kc_GK_undoStatement : Cond.code ⟨"GraphKeep", "undoStatement", "()V"⟩ prog_1_method_38_code 1 none ∈ hv_Ts := hv_mem 141 (by decide +kernel) rfl
theorem k_GK_297 : Cond.methodLink "GraphKeep" 297 ⟨"GraphKeep$Graph", "copyFrom", "(LGraphKeep$Graph;)V"⟩ ∈ hv_Ts := hv_mem 142 (by decide +kernel) rfl
theorem ki_Gr_copyFrom : Cond.instanceMethod ⟨"GraphKeep$Graph", "copyFrom", "(LGraphKeep$Graph;)V"⟩ ∈ hv_Ts := hv_mem 143 (by decide +kernel) rfl
theorem ksel_Gr_Gr_copyFrom : Cond.selects "GraphKeep$Graph" ⟨"GraphKeep$Graph", "copyFrom", "(LGraphKeep$Graph;)V"⟩ ⟨"GraphKeep$Graph", "copyFrom", "(LGraphKeep$Graph;)V"⟩ ∈ hv_Ts := hv_mem 144 (by decide +kernel) rfl
theorem kc_Gr_copyFrom : Cond.code ⟨"GraphKeep$Graph", "copyFrom", "(LGraphKeep$Graph;)V"⟩ prog_2_method_13_code 3 none ∈ hv_Ts := hv_mem 145 (by decide +kernel) rfl
theorem k_Gr_23 : Cond.methodLink "GraphKeep$Graph" 23 ⟨"GraphKeep$Graph", "nodeAt", "(I)LGraphKeep$Node;"⟩ ∈ hv_Ts := hv_mem 146 (by decide +kernel) rfl
theorem ki_Gr_nodeAt : Cond.instanceMethod ⟨"GraphKeep$Graph", "nodeAt", "(I)LGraphKeep$Node;"⟩ ∈ hv_Ts := hv_mem 147 (by decide +kernel) rfl
theorem ksel_Gr_Gr_nodeAt : Cond.selects "GraphKeep$Graph" ⟨"GraphKeep$Graph", "nodeAt", "(I)LGraphKeep$Node;"⟩ ⟨"GraphKeep$Graph", "nodeAt", "(I)LGraphKeep$Node;"⟩ ∈ hv_Ts := hv_mem 148 (by decide +kernel) rfl
theorem kc_Gr_nodeAt : Cond.code ⟨"GraphKeep$Graph", "nodeAt", "(I)LGraphKeep$Node;"⟩ prog_2_method_2_code 2 (some (.object "GraphKeep$Node")) ∈ hv_Ts := hv_mem 149 (by decide +kernel) rfl
theorem k_Gr_27 : Cond.methodLink "GraphKeep$Graph" 27 ⟨"GraphKeep$Graph", "linkAt", "(I)LGraphKeep$Link;"⟩ ∈ hv_Ts := hv_mem 150 (by decide +kernel) rfl
theorem ki_Gr_linkAt : Cond.instanceMethod ⟨"GraphKeep$Graph", "linkAt", "(I)LGraphKeep$Link;"⟩ ∈ hv_Ts := hv_mem 151 (by decide +kernel) rfl
theorem ksel_Gr_Gr_linkAt : Cond.selects "GraphKeep$Graph" ⟨"GraphKeep$Graph", "linkAt", "(I)LGraphKeep$Link;"⟩ ⟨"GraphKeep$Graph", "linkAt", "(I)LGraphKeep$Link;"⟩ ∈ hv_Ts := hv_mem 152 (by decide +kernel) rfl
theorem kc_Gr_linkAt : Cond.code ⟨"GraphKeep$Graph", "linkAt", "(I)LGraphKeep$Link;"⟩ prog_2_method_3_code 2 (some (.object "GraphKeep$Link")) ∈ hv_Ts := hv_mem 153 (by decide +kernel) rfl
theorem k_GK_304 : Cond.methodLink "GraphKeep" 304 ⟨"GraphKeep", "startStatement", "()V"⟩ ∈ hv_Ts := hv_mem 154 (by decide +kernel) rfl
theorem kpr_GK_startStatement : Cond.privateMethod ⟨"GraphKeep", "startStatement", "()V"⟩ ∈ lw_tbl := hv_memL 155 (by decide +kernel)
theorem ki_GK_startStatement : Cond.instanceMethod ⟨"GraphKeep", "startStatement", "()V"⟩ ∈ hv_Ts := hv_mem 156 (by decide +kernel) rfl
theorem kc_GK_startStatement : Cond.code ⟨"GraphKeep", "startStatement", "()V"⟩ prog_1_method_39_code 2 none ∈ hv_Ts := hv_mem 157 (by decide +kernel) rfl
theorem k_Law_95 : Cond.methodLink "GraphKeepLaw" 95 ⟨"GraphKeep", "begin", "()Z"⟩ ∈ hv_Ts := hv_mem 158 (by decide +kernel) rfl
theorem ki_GK_begin : Cond.instanceMethod ⟨"GraphKeep", "begin", "()Z"⟩ ∈ hv_Ts := hv_mem 159 (by decide +kernel) rfl
theorem ksel_GK_GK_begin : Cond.selects "GraphKeep" ⟨"GraphKeep", "begin", "()Z"⟩ ⟨"GraphKeep", "begin", "()Z"⟩ ∈ hv_Ts := hv_mem 160 (by decide +kernel) rfl
theorem kc_GK_begin : Cond.code ⟨"GraphKeep", "begin", "()Z"⟩ prog_1_method_11_code 1 (some .boolean) ∈ hv_Ts := hv_mem 161 (by decide +kernel) rfl
theorem k_Law_103 : Cond.methodLink "GraphKeepLaw" 103 ⟨"GraphKeep", "rollback", "()Z"⟩ ∈ hv_Ts := hv_mem 162 (by decide +kernel) rfl
theorem ki_GK_rollback : Cond.instanceMethod ⟨"GraphKeep", "rollback", "()Z"⟩ ∈ hv_Ts := hv_mem 163 (by decide +kernel) rfl
theorem ksel_GK_GK_rollback : Cond.selects "GraphKeep" ⟨"GraphKeep", "rollback", "()Z"⟩ ⟨"GraphKeep", "rollback", "()Z"⟩ ∈ hv_Ts := hv_mem 164 (by decide +kernel) rfl
theorem kc_GK_rollback : Cond.code ⟨"GraphKeep", "rollback", "()Z"⟩ prog_1_method_13_code 1 (some .boolean) ∈ hv_Ts := hv_mem 165 (by decide +kernel) rfl
theorem k_GK_172 : Cond.methodLink "GraphKeep" 172 ⟨"GraphKeep", "restoreKept", "()V"⟩ ∈ hv_Ts := hv_mem 166 (by decide +kernel) rfl
theorem kpr_GK_restoreKept : Cond.privateMethod ⟨"GraphKeep", "restoreKept", "()V"⟩ ∈ lw_tbl := hv_memL 167 (by decide +kernel)
theorem ki_GK_restoreKept : Cond.instanceMethod ⟨"GraphKeep", "restoreKept", "()V"⟩ ∈ hv_Ts := hv_mem 168 (by decide +kernel) rfl
theorem kc_GK_restoreKept : Cond.code ⟨"GraphKeep", "restoreKept", "()V"⟩ prog_1_method_41_code 1 none ∈ hv_Ts := hv_mem 169 (by decide +kernel) rfl
theorem k_GK_165 : Cond.methodLink "GraphKeep" 165 ⟨"GraphKeep", "forgetUnderWay", "()V"⟩ ∈ hv_Ts := hv_mem 170 (by decide +kernel) rfl
theorem kpr_GK_forgetUnderWay : Cond.privateMethod ⟨"GraphKeep", "forgetUnderWay", "()V"⟩ ∈ lw_tbl := hv_memL 171 (by decide +kernel)
theorem ki_GK_forgetUnderWay : Cond.instanceMethod ⟨"GraphKeep", "forgetUnderWay", "()V"⟩ ∈ hv_Ts := hv_mem 172 (by decide +kernel) rfl
theorem kc_GK_forgetUnderWay : Cond.code ⟨"GraphKeep", "forgetUnderWay", "()V"⟩ prog_1_method_40_code 1 none ∈ hv_Ts := hv_mem 173 (by decide +kernel) rfl
theorem k_Law_110 : Cond.methodLink "GraphKeepLaw" 110 ⟨"GraphKeep", "cut", "(I)Z"⟩ ∈ hv_Ts := hv_mem 174 (by decide +kernel) rfl
theorem ki_GK_cut : Cond.instanceMethod ⟨"GraphKeep", "cut", "(I)Z"⟩ ∈ hv_Ts := hv_mem 175 (by decide +kernel) rfl
theorem ksel_GK_GK_cut : Cond.selects "GraphKeep" ⟨"GraphKeep", "cut", "(I)Z"⟩ ⟨"GraphKeep", "cut", "(I)Z"⟩ ∈ hv_Ts := hv_mem 176 (by decide +kernel) rfl
theorem kc_GK_cut : Cond.code ⟨"GraphKeep", "cut", "(I)Z"⟩ prog_1_method_15_code 2 (some .boolean) ∈ hv_Ts := hv_mem 177 (by decide +kernel) rfl
theorem k_GK_193 : Cond.methodLink "GraphKeep" 193 ⟨"GraphKeep$Log", "failAt", "(I)V"⟩ ∈ hv_Ts := hv_mem 178 (by decide +kernel) rfl
theorem ki_Lg_failAt : Cond.instanceMethod ⟨"GraphKeep$Log", "failAt", "(I)V"⟩ ∈ hv_Ts := hv_mem 179 (by decide +kernel) rfl
theorem ksel_Lg_Lg_failAt : Cond.selects "GraphKeep$Log" ⟨"GraphKeep$Log", "failAt", "(I)V"⟩ ⟨"GraphKeep$Log", "failAt", "(I)V"⟩ ∈ hv_Ts := hv_mem 180 (by decide +kernel) rfl
theorem kc_Lg_failAt : Cond.code ⟨"GraphKeep$Log", "failAt", "(I)V"⟩ prog_4_method_4_code 2 none ∈ hv_Ts := hv_mem 181 (by decide +kernel) rfl
theorem k_Law_115 : Cond.methodLink "GraphKeepLaw" 115 ⟨"GraphKeep", "recover", "()I"⟩ ∈ hv_Ts := hv_mem 182 (by decide +kernel) rfl
theorem ki_GK_recover : Cond.instanceMethod ⟨"GraphKeep", "recover", "()I"⟩ ∈ hv_Ts := hv_mem 183 (by decide +kernel) rfl
theorem ksel_GK_GK_recover : Cond.selects "GraphKeep" ⟨"GraphKeep", "recover", "()I"⟩ ⟨"GraphKeep", "recover", "()I"⟩ ∈ hv_Ts := hv_mem 184 (by decide +kernel) rfl
theorem kc_GK_recover : Cond.code ⟨"GraphKeep", "recover", "()I"⟩ prog_1_method_16_code 1 (some .int) ∈ hv_Ts := hv_mem 185 (by decide +kernel) rfl
theorem k_GK_196 : Cond.methodLink "GraphKeep" 196 ⟨"GraphKeep$Log", "reopen", "()I"⟩ ∈ hv_Ts := hv_mem 186 (by decide +kernel) rfl
theorem ki_Lg_reopen : Cond.instanceMethod ⟨"GraphKeep$Log", "reopen", "()I"⟩ ∈ hv_Ts := hv_mem 187 (by decide +kernel) rfl
theorem ksel_Lg_Lg_reopen : Cond.selects "GraphKeep$Log" ⟨"GraphKeep$Log", "reopen", "()I"⟩ ⟨"GraphKeep$Log", "reopen", "()I"⟩ ∈ hv_Ts := hv_mem 188 (by decide +kernel) rfl
theorem kc_Lg_reopen : Cond.code ⟨"GraphKeep$Log", "reopen", "()I"⟩ prog_4_method_7_code 1 (some .int) ∈ hv_Ts := hv_mem 189 (by decide +kernel) rfl
theorem k_Law_119 : Cond.methodLink "GraphKeepLaw" 119 ⟨"GraphKeep", "thing", "(III)I"⟩ ∈ hv_Ts := hv_mem 190 (by decide +kernel) rfl
theorem ki_GK_thing : Cond.instanceMethod ⟨"GraphKeep", "thing", "(III)I"⟩ ∈ hv_Ts := hv_mem 191 (by decide +kernel) rfl
theorem ksel_GK_GK_thing : Cond.selects "GraphKeep" ⟨"GraphKeep", "thing", "(III)I"⟩ ⟨"GraphKeep", "thing", "(III)I"⟩ ∈ hv_Ts := hv_mem 192 (by decide +kernel) rfl
theorem kc_GK_thing : Cond.code ⟨"GraphKeep", "thing", "(III)I"⟩ prog_1_method_17_code 6 (some .int) ∈ hv_Ts := hv_mem 193 (by decide +kernel) rfl
theorem k_GK_199 : Cond.methodLink "GraphKeep" 199 ⟨"GraphKeep$Graph", "thingAt", "(II)LGraphKeep$Thing;"⟩ ∈ hv_Ts := hv_mem 194 (by decide +kernel) rfl
theorem ki_Gr_thingAt : Cond.instanceMethod ⟨"GraphKeep$Graph", "thingAt", "(II)LGraphKeep$Thing;"⟩ ∈ hv_Ts := hv_mem 195 (by decide +kernel) rfl
theorem ksel_Gr_Gr_thingAt : Cond.selects "GraphKeep$Graph" ⟨"GraphKeep$Graph", "thingAt", "(II)LGraphKeep$Thing;"⟩ ⟨"GraphKeep$Graph", "thingAt", "(II)LGraphKeep$Thing;"⟩ ∈ hv_Ts := hv_mem 196 (by decide +kernel) rfl
theorem kc_Gr_thingAt : Cond.code ⟨"GraphKeep$Graph", "thingAt", "(II)LGraphKeep$Thing;"⟩ prog_2_method_4_code 3 (some (.object "GraphKeep$Thing")) ∈ hv_Ts := hv_mem 197 (by decide +kernel) rfl
theorem k_GK_57 : Cond.classLink "GraphKeep" 57 "GraphKeep$Node" ∈ hv_Ts := hv_mem 198 (by decide +kernel) rfl
theorem k_GK_208 : Cond.methodLink "GraphKeep" 208 ⟨"GraphKeep", "nodeFact", "(LGraphKeep$Node;II)I"⟩ ∈ hv_Ts := hv_mem 199 (by decide +kernel) rfl
theorem kpr_GK_nodeFact : Cond.privateMethod ⟨"GraphKeep", "nodeFact", "(LGraphKeep$Node;II)I"⟩ ∈ lw_tbl := hv_memL 200 (by decide +kernel)
theorem ki_GK_nodeFact : Cond.instanceMethod ⟨"GraphKeep", "nodeFact", "(LGraphKeep$Node;II)I"⟩ ∈ hv_Ts := hv_mem 201 (by decide +kernel) rfl
theorem kc_GK_nodeFact : Cond.code ⟨"GraphKeep", "nodeFact", "(LGraphKeep$Node;II)I"⟩ prog_1_method_42_code 4 (some .int) ∈ hv_Ts := hv_mem 202 (by decide +kernel) rfl
theorem k_GK_284 : Cond.methodLink "GraphKeep" 284 ⟨"GraphKeep$Graph", "countChain", "(IZ)I"⟩ ∈ hv_Ts := hv_mem 203 (by decide +kernel) rfl
theorem ki_Gr_countChain : Cond.instanceMethod ⟨"GraphKeep$Graph", "countChain", "(IZ)I"⟩ ∈ hv_Ts := hv_mem 204 (by decide +kernel) rfl
theorem ksel_Gr_Gr_countChain : Cond.selects "GraphKeep$Graph" ⟨"GraphKeep$Graph", "countChain", "(IZ)I"⟩ ⟨"GraphKeep$Graph", "countChain", "(IZ)I"⟩ ∈ hv_Ts := hv_mem 205 (by decide +kernel) rfl
theorem kc_Gr_countChain : Cond.code ⟨"GraphKeep$Graph", "countChain", "(IZ)I"⟩ prog_2_method_10_code 5 (some .int) ∈ hv_Ts := hv_mem 206 (by decide +kernel) rfl
theorem k_Gr_59 : Cond.methodLink "GraphKeep$Graph" 59 ⟨"GraphKeep$Graph", "isInChain", "(IIZ)Z"⟩ ∈ hv_Ts := hv_mem 207 (by decide +kernel) rfl
theorem kpr_Gr_isInChain : Cond.privateMethod ⟨"GraphKeep$Graph", "isInChain", "(IIZ)Z"⟩ ∈ lw_tbl := hv_memL 208 (by decide +kernel)
theorem ki_Gr_isInChain : Cond.instanceMethod ⟨"GraphKeep$Graph", "isInChain", "(IIZ)Z"⟩ ∈ hv_Ts := hv_mem 209 (by decide +kernel) rfl
theorem kc_Gr_isInChain : Cond.code ⟨"GraphKeep$Graph", "isInChain", "(IIZ)Z"⟩ prog_2_method_12_code 5 (some .boolean) ∈ hv_Ts := hv_mem 210 (by decide +kernel) rfl
theorem k_GK_113 : Cond.classLink "GraphKeep" 113 "GraphKeep$Link" ∈ hv_Ts := hv_mem 211 (by decide +kernel) rfl
theorem k_GK_212 : Cond.methodLink "GraphKeep" 212 ⟨"GraphKeep", "linkFact", "(LGraphKeep$Link;I)I"⟩ ∈ hv_Ts := hv_mem 212 (by decide +kernel) rfl
theorem ki_GK_linkFact : Cond.static ⟨"GraphKeep", "linkFact", "(LGraphKeep$Link;I)I"⟩ ∈ hv_Ts := hv_mem 213 (by decide +kernel) rfl
theorem kc_GK_linkFact : Cond.code ⟨"GraphKeep", "linkFact", "(LGraphKeep$Link;I)I"⟩ prog_1_method_43_code 2 (some .int) ∈ hv_Ts := hv_mem 214 (by decide +kernel) rfl
theorem k_Law_123 : Cond.methodLink "GraphKeepLaw" 123 ⟨"GraphKeep", "chain", "(IZI)I"⟩ ∈ hv_Ts := hv_mem 215 (by decide +kernel) rfl
theorem ki_GK_chain : Cond.instanceMethod ⟨"GraphKeep", "chain", "(IZI)I"⟩ ∈ hv_Ts := hv_mem 216 (by decide +kernel) rfl
theorem ksel_GK_GK_chain : Cond.selects "GraphKeep" ⟨"GraphKeep", "chain", "(IZI)I"⟩ ⟨"GraphKeep", "chain", "(IZI)I"⟩ ∈ hv_Ts := hv_mem 217 (by decide +kernel) rfl
theorem kc_GK_chain : Cond.code ⟨"GraphKeep", "chain", "(IZI)I"⟩ prog_1_method_18_code 4 (some .int) ∈ hv_Ts := hv_mem 218 (by decide +kernel) rfl
theorem k_GK_216 : Cond.methodLink "GraphKeep" 216 ⟨"GraphKeep$Graph", "linkInChain", "(IZI)I"⟩ ∈ hv_Ts := hv_mem 219 (by decide +kernel) rfl
theorem ki_Gr_linkInChain : Cond.instanceMethod ⟨"GraphKeep$Graph", "linkInChain", "(IZI)I"⟩ ∈ hv_Ts := hv_mem 220 (by decide +kernel) rfl
theorem ksel_Gr_Gr_linkInChain : Cond.selects "GraphKeep$Graph" ⟨"GraphKeep$Graph", "linkInChain", "(IZI)I"⟩ ⟨"GraphKeep$Graph", "linkInChain", "(IZI)I"⟩ ∈ hv_Ts := hv_mem 221 (by decide +kernel) rfl
theorem kc_Gr_linkInChain : Cond.code ⟨"GraphKeep$Graph", "linkInChain", "(IZI)I"⟩ prog_2_method_11_code 6 (some .int) ∈ hv_Ts := hv_mem 222 (by decide +kernel) rfl
theorem k_Law_128 : Cond.methodLink "GraphKeepLaw" 128 ⟨"GraphKeep", "has", "(II)Z"⟩ ∈ hv_Ts := hv_mem 223 (by decide +kernel) rfl
theorem ki_GK_has : Cond.instanceMethod ⟨"GraphKeep", "has", "(II)Z"⟩ ∈ hv_Ts := hv_mem 224 (by decide +kernel) rfl
theorem ksel_GK_GK_has : Cond.selects "GraphKeep" ⟨"GraphKeep", "has", "(II)Z"⟩ ⟨"GraphKeep", "has", "(II)Z"⟩ ∈ hv_Ts := hv_mem 225 (by decide +kernel) rfl
theorem kc_GK_has : Cond.code ⟨"GraphKeep", "has", "(II)Z"⟩ prog_1_method_19_code 4 (some .boolean) ∈ hv_Ts := hv_mem 226 (by decide +kernel) rfl
theorem k_GK_220 : Cond.methodLink "GraphKeep" 220 ⟨"GraphKeep$Graph", "nodeAt", "(I)LGraphKeep$Node;"⟩ ∈ hv_Ts := hv_mem 227 (by decide +kernel) rfl
theorem k_GK_72 : Cond.methodLink "GraphKeep" 72 ⟨"GraphKeep$Node", "isLabelled", "(I)Z"⟩ ∈ hv_Ts := hv_mem 228 (by decide +kernel) rfl
theorem ki_Nd_isLabelled : Cond.instanceMethod ⟨"GraphKeep$Node", "isLabelled", "(I)Z"⟩ ∈ hv_Ts := hv_mem 229 (by decide +kernel) rfl
theorem ksel_Nd_Nd_isLabelled : Cond.selects "GraphKeep$Node" ⟨"GraphKeep$Node", "isLabelled", "(I)Z"⟩ ⟨"GraphKeep$Node", "isLabelled", "(I)Z"⟩ ∈ hv_Ts := hv_mem 230 (by decide +kernel) rfl
theorem kc_Nd_isLabelled : Cond.code ⟨"GraphKeep$Node", "isLabelled", "(I)Z"⟩ prog_5_method_2_code 2 (some .boolean) ∈ hv_Ts := hv_mem 231 (by decide +kernel) rfl
theorem k_Nd_13 : Cond.methodLink "GraphKeep$Node" 13 ⟨"GraphKeep$Node", "placeOfLabel", "(I)I"⟩ ∈ hv_Ts := hv_mem 232 (by decide +kernel) rfl
theorem kpr_Nd_placeOfLabel : Cond.privateMethod ⟨"GraphKeep$Node", "placeOfLabel", "(I)I"⟩ ∈ lw_tbl := hv_memL 233 (by decide +kernel)
theorem ki_Nd_placeOfLabel : Cond.instanceMethod ⟨"GraphKeep$Node", "placeOfLabel", "(I)I"⟩ ∈ hv_Ts := hv_mem 234 (by decide +kernel) rfl
theorem kin_Nd : Cond.instantiable "GraphKeep$Node" 2 ∈ hv_Ts := hv_mem 235 (by decide +kernel) rfl
theorem kc_Nd_placeOfLabel : Cond.code ⟨"GraphKeep$Node", "placeOfLabel", "(I)I"⟩ prog_5_method_5_code 3 (some .int) ∈ hv_Ts := hv_mem 236 (by decide +kernel) rfl
theorem k_Law_137 : Cond.methodLink "GraphKeepLaw" 137 ⟨"GraphKeep", "state", "(I)I"⟩ ∈ hv_Ts := hv_mem 237 (by decide +kernel) rfl
theorem ki_GK_state : Cond.instanceMethod ⟨"GraphKeep", "state", "(I)I"⟩ ∈ hv_Ts := hv_mem 238 (by decide +kernel) rfl
theorem ksel_GK_GK_state : Cond.selects "GraphKeep" ⟨"GraphKeep", "state", "(I)I"⟩ ⟨"GraphKeep", "state", "(I)I"⟩ ∈ hv_Ts := hv_mem 239 (by decide +kernel) rfl
theorem kc_GK_state : Cond.code ⟨"GraphKeep", "state", "(I)I"⟩ prog_1_method_21_code 2 (some .int) ∈ hv_Ts := hv_mem 240 (by decide +kernel) rfl
theorem k_GK_175 : Cond.methodLink "GraphKeep" 175 ⟨"GraphKeep$Graph", "countNodes", "()I"⟩ ∈ hv_Ts := hv_mem 241 (by decide +kernel) rfl
theorem ki_Gr_countNodes : Cond.instanceMethod ⟨"GraphKeep$Graph", "countNodes", "()I"⟩ ∈ hv_Ts := hv_mem 242 (by decide +kernel) rfl
theorem ksel_Gr_Gr_countNodes : Cond.selects "GraphKeep$Graph" ⟨"GraphKeep$Graph", "countNodes", "()I"⟩ ⟨"GraphKeep$Graph", "countNodes", "()I"⟩ ∈ hv_Ts := hv_mem 243 (by decide +kernel) rfl
theorem kc_Gr_countNodes : Cond.code ⟨"GraphKeep$Graph", "countNodes", "()I"⟩ prog_2_method_8_code 3 (some .int) ∈ hv_Ts := hv_mem 244 (by decide +kernel) rfl
theorem k_GK_179 : Cond.methodLink "GraphKeep" 179 ⟨"GraphKeep$Graph", "countLinks", "()I"⟩ ∈ hv_Ts := hv_mem 245 (by decide +kernel) rfl
theorem ki_Gr_countLinks : Cond.instanceMethod ⟨"GraphKeep$Graph", "countLinks", "()I"⟩ ∈ hv_Ts := hv_mem 246 (by decide +kernel) rfl
theorem ksel_Gr_Gr_countLinks : Cond.selects "GraphKeep$Graph" ⟨"GraphKeep$Graph", "countLinks", "()I"⟩ ⟨"GraphKeep$Graph", "countLinks", "()I"⟩ ∈ hv_Ts := hv_mem 247 (by decide +kernel) rfl
theorem kc_Gr_countLinks : Cond.code ⟨"GraphKeep$Graph", "countLinks", "()I"⟩ prog_2_method_9_code 3 (some .int) ∈ hv_Ts := hv_mem 248 (by decide +kernel) rfl
theorem k_Law_59 : Cond.methodLink "GraphKeepLaw" 59 ⟨"GraphKeepLaw", "node", "(LGraphKeep;[J)I"⟩ ∈ hv_Ts := hv_mem 249 (by decide +kernel) rfl
theorem ki_Law_node : Cond.static ⟨"GraphKeepLaw", "node", "(LGraphKeep;[J)I"⟩ ∈ hv_Ts := hv_mem 250 (by decide +kernel) rfl
theorem kc_Law_node : Cond.codeWith ⟨"GraphKeepLaw", "node", "(LGraphKeep;[J)I"⟩ method_3_code 3 (some .int) [(0, 8, 11, 13), (0, 8, 14, 15)] ∈ hv_Ts := hv_mem 251 (by decide +kernel) rfl
theorem k_Law_13 : Cond.classLink "GraphKeepLaw" 13 "java/lang/ArithmeticException" ∈ hv_Ts := hv_mem 252 (by decide +kernel) rfl
theorem k_Law_15 : Cond.classLink "GraphKeepLaw" 15 "java/lang/IllegalStateException" ∈ hv_Ts := hv_mem 253 (by decide +kernel) rfl
theorem k_Law_7 : Cond.methodLink "GraphKeepLaw" 7 ⟨"GraphKeep", "node", "()I"⟩ ∈ hv_Ts := hv_mem 254 (by decide +kernel) rfl
theorem ki_GK_node : Cond.instanceMethod ⟨"GraphKeep", "node", "()I"⟩ ∈ hv_Ts := hv_mem 255 (by decide +kernel) rfl
theorem ksel_GK_GK_node : Cond.selects "GraphKeep" ⟨"GraphKeep", "node", "()I"⟩ ⟨"GraphKeep", "node", "()I"⟩ ∈ hv_Ts := hv_mem 256 (by decide +kernel) rfl
theorem kc_GK_node : Cond.code ⟨"GraphKeep", "node", "()I"⟩ prog_1_method_3_code 2 (some .int) ∈ hv_Ts := hv_mem 257 (by decide +kernel) rfl
theorem k_GK_47 : Cond.methodLink "GraphKeep" 47 ⟨"GraphKeep", "mustBeOn", "()V"⟩ ∈ hv_Ts := hv_mem 258 (by decide +kernel) rfl
theorem kpr_GK_mustBeOn : Cond.privateMethod ⟨"GraphKeep", "mustBeOn", "()V"⟩ ∈ lw_tbl := hv_memL 259 (by decide +kernel)
theorem ki_GK_mustBeOn : Cond.instanceMethod ⟨"GraphKeep", "mustBeOn", "()V"⟩ ∈ hv_Ts := hv_mem 260 (by decide +kernel) rfl
theorem kc_GK_mustBeOn : Cond.code ⟨"GraphKeep", "mustBeOn", "()V"⟩ prog_1_method_22_code 1 none ∈ hv_Ts := hv_mem 261 (by decide +kernel) rfl
theorem k_GK_188 : Cond.classLink "GraphKeep" 188 "java/lang/IllegalStateException" ∈ hv_Ts := hv_mem 262 (by decide +kernel) rfl
theorem kin_IllegalStateException : Cond.instantiable "java/lang/IllegalStateException" 6 ∈ hv_Ts := hv_mem 263 (by decide +kernel) rfl
theorem kin_Throwable : Cond.instantiable "java/lang/Throwable" 6 ∈ hv_Ts := hv_mem 301 (by decide +kernel) rfl
theorem k_GK_192 : Cond.methodLink "GraphKeep" 192 ⟨"java/lang/IllegalStateException", "<init>", "(Ljava/lang/String;)V"⟩ ∈ hv_Ts := hv_mem 304 (by decide +kernel) rfl
theorem k_GK_50 : Cond.methodLink "GraphKeep" 50 ⟨"GraphKeep", "freeNumber", "(I[Z)I"⟩ ∈ hv_Ts := hv_mem 329 (by decide +kernel) rfl
theorem kpr_GK_freeNumber : Cond.privateMethod ⟨"GraphKeep", "freeNumber", "(I[Z)I"⟩ ∈ lw_tbl := hv_memL 330 (by decide +kernel)
theorem ki_GK_freeNumber : Cond.instanceMethod ⟨"GraphKeep", "freeNumber", "(I[Z)I"⟩ ∈ hv_Ts := hv_mem 331 (by decide +kernel) rfl
theorem kc_GK_freeNumber : Cond.code ⟨"GraphKeep", "freeNumber", "(I[Z)I"⟩ prog_1_method_28_code 4 (some .int) ∈ hv_Ts := hv_mem 332 (by decide +kernel) rfl
theorem k_GK_80 : Cond.methodLink "GraphKeep" 80 ⟨"GraphKeep", "mustBeLess", "(II)V"⟩ ∈ hv_Ts := hv_mem 333 (by decide +kernel) rfl
theorem kpr_GK_mustBeLess : Cond.privateMethod ⟨"GraphKeep", "mustBeLess", "(II)V"⟩ ∈ lw_tbl := hv_memL 334 (by decide +kernel)
theorem ki_GK_mustBeLess : Cond.instanceMethod ⟨"GraphKeep", "mustBeLess", "(II)V"⟩ ∈ hv_Ts := hv_mem 335 (by decide +kernel) rfl
theorem kc_GK_mustBeLess : Cond.code ⟨"GraphKeep", "mustBeLess", "(II)V"⟩ prog_1_method_27_code 3 none ∈ hv_Ts := hv_mem 336 (by decide +kernel) rfl
theorem k_GK_262 : Cond.methodLink "GraphKeep" 262 ⟨"GraphKeep", "refuse", "(I)V"⟩ ∈ hv_Ts := hv_mem 337 (by decide +kernel) rfl
theorem kpr_GK_refuse : Cond.privateMethod ⟨"GraphKeep", "refuse", "(I)V"⟩ ∈ lw_tbl := hv_memL 338 (by decide +kernel)
theorem ki_GK_refuse : Cond.instanceMethod ⟨"GraphKeep", "refuse", "(I)V"⟩ ∈ hv_Ts := hv_mem 339 (by decide +kernel) rfl
theorem kc_GK_refuse : Cond.code ⟨"GraphKeep", "refuse", "(I)V"⟩ prog_1_method_23_code 2 none ∈ hv_Ts := hv_mem 340 (by decide +kernel) rfl
theorem k_GK_146 : Cond.classLink "GraphKeep" 146 "java/lang/ArithmeticException" ∈ hv_Ts := hv_mem 341 (by decide +kernel) rfl
theorem kin_ArithmeticException : Cond.instantiable "java/lang/ArithmeticException" 6 ∈ hv_Ts := hv_mem 342 (by decide +kernel) rfl
theorem k_GK_150 : Cond.methodLink "GraphKeep" 150 ⟨"java/lang/ArithmeticException", "<init>", "(Ljava/lang/String;)V"⟩ ∈ hv_Ts := hv_mem 351 (by decide +kernel) rfl
theorem k_GK_54 : Cond.methodLink "GraphKeep" 54 ⟨"GraphKeep", "countChange", "()V"⟩ ∈ hv_Ts := hv_mem 357 (by decide +kernel) rfl
theorem kpr_GK_countChange : Cond.privateMethod ⟨"GraphKeep", "countChange", "()V"⟩ ∈ lw_tbl := hv_memL 358 (by decide +kernel)
theorem ki_GK_countChange : Cond.instanceMethod ⟨"GraphKeep", "countChange", "()V"⟩ ∈ hv_Ts := hv_mem 359 (by decide +kernel) rfl
theorem kc_GK_countChange : Cond.code ⟨"GraphKeep", "countChange", "()V"⟩ prog_1_method_29_code 1 none ∈ hv_Ts := hv_mem 360 (by decide +kernel) rfl
theorem k_GK_59 : Cond.classLink "GraphKeep" 59 "GraphKeep$Property" ∈ hv_Ts := hv_mem 361 (by decide +kernel) rfl
theorem ko_Pr : Cond.arrayOver (.object "GraphKeep$Property") ∈ lw_tbl := hv_memL 362 (by decide +kernel)
theorem k_GK_61 : Cond.methodLink "GraphKeep" 61 ⟨"GraphKeep$Node", "<init>", "([I[LGraphKeep$Property;)V"⟩ ∈ hv_Ts := hv_mem 363 (by decide +kernel) rfl
theorem ki_Nd_init : Cond.instanceMethod ⟨"GraphKeep$Node", "<init>", "([I[LGraphKeep$Property;)V"⟩ ∈ hv_Ts := hv_mem 364 (by decide +kernel) rfl
theorem kc_Nd_init : Cond.code ⟨"GraphKeep$Node", "<init>", "([I[LGraphKeep$Property;)V"⟩ prog_5_method_1_code 3 none ∈ hv_Ts := hv_mem 365 (by decide +kernel) rfl
theorem k_Nd_1 : Cond.methodLink "GraphKeep$Node" 1 ⟨"GraphKeep$Thing", "<init>", "([LGraphKeep$Property;)V"⟩ ∈ hv_Ts := hv_mem 366 (by decide +kernel) rfl
theorem ki_Th_init : Cond.instanceMethod ⟨"GraphKeep$Thing", "<init>", "([LGraphKeep$Property;)V"⟩ ∈ hv_Ts := hv_mem 367 (by decide +kernel) rfl
theorem kc_Th_init : Cond.code ⟨"GraphKeep$Thing", "<init>", "([LGraphKeep$Property;)V"⟩ prog_8_method_1_code 2 none ∈ hv_Ts := hv_mem 368 (by decide +kernel) rfl
theorem k_Th_1 : Cond.methodLink "GraphKeep$Thing" 1 ⟨"java/lang/Object", "<init>", "()V"⟩ ∈ hv_Ts := hv_mem 369 (by decide +kernel) rfl
theorem k_Nd_7 : Cond.fieldLink "GraphKeep$Node" 7 "GraphKeep$Node" "labels" "[I" ∈ hv_Ts := hv_mem 370 (by decide +kernel) rfl
theorem k_GK_76 : Cond.fieldLink "GraphKeep" 76 "GraphKeep$Node" "labels" "[I" ∈ hv_Ts := hv_mem 371 (by decide +kernel) rfl
theorem k_Gr_31 : Cond.fieldLink "GraphKeep$Graph" 31 "GraphKeep$Node" "labels" "[I" ∈ hv_Ts := hv_mem 372 (by decide +kernel) rfl
theorem k_Th_7 : Cond.fieldLink "GraphKeep$Thing" 7 "GraphKeep$Thing" "properties" "[LGraphKeep$Property;" ∈ hv_Ts := hv_mem 373 (by decide +kernel) rfl
theorem k_Nd_17 : Cond.fieldLink "GraphKeep$Node" 17 "GraphKeep$Node" "properties" "[LGraphKeep$Property;" ∈ hv_Ts := hv_mem 374 (by decide +kernel) rfl
theorem ks_Nd_properties : Cond.sameField "GraphKeep$Node" "GraphKeep$Thing" "properties" "[LGraphKeep$Property;" ∈ hv_Ts := hv_mem 375 (by decide +kernel) rfl
theorem k_GK_202 : Cond.fieldLink "GraphKeep" 202 "GraphKeep$Thing" "properties" "[LGraphKeep$Property;" ∈ hv_Ts := hv_mem 376 (by decide +kernel) rfl
theorem ka_int : Cond.arrayClass .int ∈ hv_Ts := hv_mem 382 (by decide +kernel) rfl
theorem k_GK_64 : Cond.methodLink "GraphKeep" 64 ⟨"GraphKeep$Graph", "putNode", "(ILGraphKeep$Node;)V"⟩ ∈ hv_Ts := hv_mem 383 (by decide +kernel) rfl
theorem ki_Gr_putNode : Cond.instanceMethod ⟨"GraphKeep$Graph", "putNode", "(ILGraphKeep$Node;)V"⟩ ∈ hv_Ts := hv_mem 384 (by decide +kernel) rfl
theorem ksel_Gr_Gr_putNode : Cond.selects "GraphKeep$Graph" ⟨"GraphKeep$Graph", "putNode", "(ILGraphKeep$Node;)V"⟩ ⟨"GraphKeep$Graph", "putNode", "(ILGraphKeep$Node;)V"⟩ ∈ hv_Ts := hv_mem 385 (by decide +kernel) rfl
theorem kc_Gr_putNode : Cond.code ⟨"GraphKeep$Graph", "putNode", "(ILGraphKeep$Node;)V"⟩ prog_2_method_5_code 3 none ∈ hv_Ts := hv_mem 386 (by decide +kernel) rfl
theorem k_Law_68 : Cond.methodLink "GraphKeepLaw" 68 ⟨"GraphKeepLaw", "label", "(LGraphKeep;IIZ[J)I"⟩ ∈ hv_Ts := hv_mem 387 (by decide +kernel) rfl
theorem ki_Law_label : Cond.static ⟨"GraphKeepLaw", "label", "(LGraphKeep;IIZ[J)I"⟩ ∈ hv_Ts := hv_mem 388 (by decide +kernel) rfl
theorem kc_Law_label : Cond.codeWith ⟨"GraphKeepLaw", "label", "(LGraphKeep;IIZ[J)I"⟩ method_4_code 6 (some .int) [(0, 19, 22, 13), (0, 19, 26, 15)] ∈ hv_Ts := hv_mem 389 (by decide +kernel) rfl
theorem k_Law_17 : Cond.methodLink "GraphKeepLaw" 17 ⟨"GraphKeep", "label", "(IIZ)Z"⟩ ∈ hv_Ts := hv_mem 390 (by decide +kernel) rfl
theorem ki_GK_label : Cond.instanceMethod ⟨"GraphKeep", "label", "(IIZ)Z"⟩ ∈ hv_Ts := hv_mem 391 (by decide +kernel) rfl
theorem ksel_GK_GK_label : Cond.selects "GraphKeep" ⟨"GraphKeep", "label", "(IIZ)Z"⟩ ⟨"GraphKeep", "label", "(IIZ)Z"⟩ ∈ hv_Ts := hv_mem 392 (by decide +kernel) rfl
theorem kc_GK_label : Cond.code ⟨"GraphKeep", "label", "(IIZ)Z"⟩ prog_1_method_4_code 5 (some .boolean) ∈ hv_Ts := hv_mem 393 (by decide +kernel) rfl
theorem k_GK_68 : Cond.methodLink "GraphKeep" 68 ⟨"GraphKeep", "wantedNode", "(I)LGraphKeep$Node;"⟩ ∈ hv_Ts := hv_mem 394 (by decide +kernel) rfl
theorem kpr_GK_wantedNode : Cond.privateMethod ⟨"GraphKeep", "wantedNode", "(I)LGraphKeep$Node;"⟩ ∈ lw_tbl := hv_memL 395 (by decide +kernel)
theorem ki_GK_wantedNode : Cond.instanceMethod ⟨"GraphKeep", "wantedNode", "(I)LGraphKeep$Node;"⟩ ∈ hv_Ts := hv_mem 396 (by decide +kernel) rfl
theorem kc_GK_wantedNode : Cond.code ⟨"GraphKeep", "wantedNode", "(I)LGraphKeep$Node;"⟩ prog_1_method_24_code 3 (some (.object "GraphKeep$Node")) ∈ hv_Ts := hv_mem 397 (by decide +kernel) rfl
theorem k_GK_84 : Cond.methodLink "GraphKeep" 84 ⟨"GraphKeep$Node", "withLabel", "(I)LGraphKeep$Node;"⟩ ∈ hv_Ts := hv_mem 399 (by decide +kernel) rfl
theorem ki_Nd_withLabel : Cond.instanceMethod ⟨"GraphKeep$Node", "withLabel", "(I)LGraphKeep$Node;"⟩ ∈ hv_Ts := hv_mem 400 (by decide +kernel) rfl
theorem ksel_Nd_Nd_withLabel : Cond.selects "GraphKeep$Node" ⟨"GraphKeep$Node", "withLabel", "(I)LGraphKeep$Node;"⟩ ⟨"GraphKeep$Node", "withLabel", "(I)LGraphKeep$Node;"⟩ ∈ hv_Ts := hv_mem 401 (by decide +kernel) rfl
theorem kc_Nd_withLabel : Cond.code ⟨"GraphKeep$Node", "withLabel", "(I)LGraphKeep$Node;"⟩ prog_5_method_3_code 4 (some (.object "GraphKeep$Node")) ∈ hv_Ts := hv_mem 402 (by decide +kernel) rfl
theorem k_Nd_8 : Cond.classLink "GraphKeep$Node" 8 "GraphKeep$Node" ∈ hv_Ts := hv_mem 403 (by decide +kernel) rfl
theorem k_Nd_21 : Cond.methodLink "GraphKeep$Node" 21 ⟨"GraphKeep$Node", "<init>", "([I[LGraphKeep$Property;)V"⟩ ∈ hv_Ts := hv_mem 404 (by decide +kernel) rfl
theorem k_GK_87 : Cond.methodLink "GraphKeep" 87 ⟨"GraphKeep$Node", "withoutLabel", "(I)LGraphKeep$Node;"⟩ ∈ hv_Ts := hv_mem 405 (by decide +kernel) rfl
theorem ki_Nd_withoutLabel : Cond.instanceMethod ⟨"GraphKeep$Node", "withoutLabel", "(I)LGraphKeep$Node;"⟩ ∈ hv_Ts := hv_mem 406 (by decide +kernel) rfl
theorem ksel_Nd_Nd_withoutLabel : Cond.selects "GraphKeep$Node" ⟨"GraphKeep$Node", "withoutLabel", "(I)LGraphKeep$Node;"⟩ ⟨"GraphKeep$Node", "withoutLabel", "(I)LGraphKeep$Node;"⟩ ∈ hv_Ts := hv_mem 407 (by decide +kernel) rfl
theorem kc_Nd_withoutLabel : Cond.code ⟨"GraphKeep$Node", "withoutLabel", "(I)LGraphKeep$Node;"⟩ prog_5_method_4_code 5 (some (.object "GraphKeep$Node")) ∈ hv_Ts := hv_mem 408 (by decide +kernel) rfl
theorem k_Law_72 : Cond.methodLink "GraphKeepLaw" 72 ⟨"GraphKeepLaw", "property", "(LGraphKeep;IIIIJ[J)I"⟩ ∈ hv_Ts := hv_mem 409 (by decide +kernel) rfl
theorem ki_Law_property : Cond.static ⟨"GraphKeepLaw", "property", "(LGraphKeep;IIIIJ[J)I"⟩ ∈ hv_Ts := hv_mem 410 (by decide +kernel) rfl
theorem kc_Law_property : Cond.codeWith ⟨"GraphKeepLaw", "property", "(LGraphKeep;IIIIJ[J)I"⟩ method_5_code 9 (some .int) [(0, 23, 26, 13), (0, 23, 30, 15)] ∈ hv_Ts := hv_mem 411 (by decide +kernel) rfl
theorem k_Law_21 : Cond.methodLink "GraphKeepLaw" 21 ⟨"GraphKeep", "property", "(IIIIJ)Z"⟩ ∈ hv_Ts := hv_mem 412 (by decide +kernel) rfl
theorem ki_GK_property : Cond.instanceMethod ⟨"GraphKeep", "property", "(IIIIJ)Z"⟩ ∈ hv_Ts := hv_mem 413 (by decide +kernel) rfl
theorem ksel_GK_GK_property : Cond.selects "GraphKeep" ⟨"GraphKeep", "property", "(IIIIJ)Z"⟩ ⟨"GraphKeep", "property", "(IIIIJ)Z"⟩ ∈ hv_Ts := hv_mem 414 (by decide +kernel) rfl
theorem kc_GK_property : Cond.code ⟨"GraphKeep", "property", "(IIIIJ)Z"⟩ prog_1_method_5_code 11 (some .boolean) ∈ hv_Ts := hv_mem 415 (by decide +kernel) rfl
theorem k_GK_90 : Cond.methodLink "GraphKeep" 90 ⟨"GraphKeep", "wantedThing", "(II)LGraphKeep$Thing;"⟩ ∈ hv_Ts := hv_mem 416 (by decide +kernel) rfl
theorem kpr_GK_wantedThing : Cond.privateMethod ⟨"GraphKeep", "wantedThing", "(II)LGraphKeep$Thing;"⟩ ∈ lw_tbl := hv_memL 417 (by decide +kernel)
theorem ki_GK_wantedThing : Cond.instanceMethod ⟨"GraphKeep", "wantedThing", "(II)LGraphKeep$Thing;"⟩ ∈ hv_Ts := hv_mem 418 (by decide +kernel) rfl
theorem kc_GK_wantedThing : Cond.code ⟨"GraphKeep", "wantedThing", "(II)LGraphKeep$Thing;"⟩ prog_1_method_25_code 4 (some (.object "GraphKeep$Thing")) ∈ hv_Ts := hv_mem 419 (by decide +kernel) rfl
theorem k_GK_94 : Cond.methodLink "GraphKeep" 94 ⟨"GraphKeep", "mustBeValue", "(IJ)V"⟩ ∈ hv_Ts := hv_mem 421 (by decide +kernel) rfl
theorem kpr_GK_mustBeValue : Cond.privateMethod ⟨"GraphKeep", "mustBeValue", "(IJ)V"⟩ ∈ lw_tbl := hv_memL 422 (by decide +kernel)
theorem ki_GK_mustBeValue : Cond.instanceMethod ⟨"GraphKeep", "mustBeValue", "(IJ)V"⟩ ∈ hv_Ts := hv_mem 423 (by decide +kernel) rfl
theorem kc_GK_mustBeValue : Cond.code ⟨"GraphKeep", "mustBeValue", "(IJ)V"⟩ prog_1_method_26_code 4 none ∈ hv_Ts := hv_mem 424 (by decide +kernel) rfl
theorem k_GK_98 : Cond.methodLink "GraphKeep" 98 ⟨"GraphKeep", "dropProperty", "(LGraphKeep$Thing;II)Z"⟩ ∈ hv_Ts := hv_mem 425 (by decide +kernel) rfl
theorem kpr_GK_dropProperty : Cond.privateMethod ⟨"GraphKeep", "dropProperty", "(LGraphKeep$Thing;II)Z"⟩ ∈ lw_tbl := hv_memL 426 (by decide +kernel)
theorem ki_GK_dropProperty : Cond.instanceMethod ⟨"GraphKeep", "dropProperty", "(LGraphKeep$Thing;II)Z"⟩ ∈ hv_Ts := hv_mem 427 (by decide +kernel) rfl
theorem kc_GK_dropProperty : Cond.code ⟨"GraphKeep", "dropProperty", "(LGraphKeep$Thing;II)Z"⟩ prog_1_method_30_code 4 (some .boolean) ∈ hv_Ts := hv_mem 428 (by decide +kernel) rfl
theorem k_GK_228 : Cond.methodLink "GraphKeep" 228 ⟨"GraphKeep$Thing", "propertyOf", "(I)LGraphKeep$Property;"⟩ ∈ hv_Ts := hv_mem 429 (by decide +kernel) rfl
theorem ki_Th_propertyOf : Cond.instanceMethod ⟨"GraphKeep$Thing", "propertyOf", "(I)LGraphKeep$Property;"⟩ ∈ hv_Ts := hv_mem 430 (by decide +kernel) rfl
theorem ksel_Lk_Th_propertyOf : Cond.selects "GraphKeep$Link" ⟨"GraphKeep$Thing", "propertyOf", "(I)LGraphKeep$Property;"⟩ ⟨"GraphKeep$Thing", "propertyOf", "(I)LGraphKeep$Property;"⟩ ∈ hv_Ts := hv_mem 432 (by decide +kernel) rfl
theorem ksel_Nd_Th_propertyOf : Cond.selects "GraphKeep$Node" ⟨"GraphKeep$Thing", "propertyOf", "(I)LGraphKeep$Property;"⟩ ⟨"GraphKeep$Thing", "propertyOf", "(I)LGraphKeep$Property;"⟩ ∈ hv_Ts := hv_mem 433 (by decide +kernel) rfl
theorem kc_Th_propertyOf : Cond.code ⟨"GraphKeep$Thing", "propertyOf", "(I)LGraphKeep$Property;"⟩ prog_8_method_2_code 3 (some (.object "GraphKeep$Property")) ∈ hv_Ts := hv_mem 434 (by decide +kernel) rfl
theorem k_Th_13 : Cond.methodLink "GraphKeep$Thing" 13 ⟨"GraphKeep$Thing", "placeOf", "(I)I"⟩ ∈ hv_Ts := hv_mem 435 (by decide +kernel) rfl
theorem kpr_Th_placeOf : Cond.privateMethod ⟨"GraphKeep$Thing", "placeOf", "(I)I"⟩ ∈ lw_tbl := hv_memL 436 (by decide +kernel)
theorem ki_Th_placeOf : Cond.instanceMethod ⟨"GraphKeep$Thing", "placeOf", "(I)I"⟩ ∈ hv_Ts := hv_mem 437 (by decide +kernel) rfl
theorem kc_Th_placeOf : Cond.code ⟨"GraphKeep$Thing", "placeOf", "(I)I"⟩ prog_8_method_5_code 3 (some .int) ∈ hv_Ts := hv_mem 438 (by decide +kernel) rfl
theorem k_GK_265 : Cond.methodLink "GraphKeep" 265 ⟨"GraphKeep$Thing", "propertiesWithout", "(I)[LGraphKeep$Property;"⟩ ∈ hv_Ts := hv_mem 439 (by decide +kernel) rfl
theorem ki_Th_propertiesWithout : Cond.instanceMethod ⟨"GraphKeep$Thing", "propertiesWithout", "(I)[LGraphKeep$Property;"⟩ ∈ hv_Ts := hv_mem 440 (by decide +kernel) rfl
theorem ksel_Lk_Th_propertiesWithout : Cond.selects "GraphKeep$Link" ⟨"GraphKeep$Thing", "propertiesWithout", "(I)[LGraphKeep$Property;"⟩ ⟨"GraphKeep$Thing", "propertiesWithout", "(I)[LGraphKeep$Property;"⟩ ∈ hv_Ts := hv_mem 442 (by decide +kernel) rfl
theorem ksel_Nd_Th_propertiesWithout : Cond.selects "GraphKeep$Node" ⟨"GraphKeep$Thing", "propertiesWithout", "(I)[LGraphKeep$Property;"⟩ ⟨"GraphKeep$Thing", "propertiesWithout", "(I)[LGraphKeep$Property;"⟩ ∈ hv_Ts := hv_mem 443 (by decide +kernel) rfl
theorem kc_Th_propertiesWithout : Cond.code ⟨"GraphKeep$Thing", "propertiesWithout", "(I)[LGraphKeep$Property;"⟩ prog_8_method_4_code 5 (some (.array (.object "GraphKeep$Property"))) ∈ hv_Ts := hv_mem 444 (by decide +kernel) rfl
theorem k_Th_18 : Cond.classLink "GraphKeep$Thing" 18 "GraphKeep$Property" ∈ hv_Ts := hv_mem 445 (by decide +kernel) rfl
theorem k_GK_269 : Cond.methodLink "GraphKeep" 269 ⟨"GraphKeep$Graph", "putAgain", "(LGraphKeep$Thing;I[LGraphKeep$Property;)V"⟩ ∈ hv_Ts := hv_mem 446 (by decide +kernel) rfl
theorem ki_Gr_putAgain : Cond.instanceMethod ⟨"GraphKeep$Graph", "putAgain", "(LGraphKeep$Thing;I[LGraphKeep$Property;)V"⟩ ∈ hv_Ts := hv_mem 447 (by decide +kernel) rfl
theorem ksel_Gr_Gr_putAgain : Cond.selects "GraphKeep$Graph" ⟨"GraphKeep$Graph", "putAgain", "(LGraphKeep$Thing;I[LGraphKeep$Property;)V"⟩ ⟨"GraphKeep$Graph", "putAgain", "(LGraphKeep$Thing;I[LGraphKeep$Property;)V"⟩ ∈ hv_Ts := hv_mem 448 (by decide +kernel) rfl
theorem kc_Gr_putAgain : Cond.code ⟨"GraphKeep$Graph", "putAgain", "(LGraphKeep$Thing;I[LGraphKeep$Property;)V"⟩ prog_2_method_7_code 6 none ∈ hv_Ts := hv_mem 449 (by decide +kernel) rfl
theorem k_Gr_35 : Cond.methodLink "GraphKeep$Graph" 35 ⟨"GraphKeep$Node", "<init>", "([I[LGraphKeep$Property;)V"⟩ ∈ hv_Ts := hv_mem 450 (by decide +kernel) rfl
theorem k_Gr_38 : Cond.methodLink "GraphKeep$Graph" 38 ⟨"GraphKeep$Graph", "putNode", "(ILGraphKeep$Node;)V"⟩ ∈ hv_Ts := hv_mem 451 (by decide +kernel) rfl
theorem kin_Lk : Cond.instantiable "GraphKeep$Link" 4 ∈ hv_Ts := hv_mem 452 (by decide +kernel) rfl
theorem k_Gr_52 : Cond.methodLink "GraphKeep$Graph" 52 ⟨"GraphKeep$Link", "<init>", "(III[LGraphKeep$Property;)V"⟩ ∈ hv_Ts := hv_mem 453 (by decide +kernel) rfl
theorem ki_Lk_init : Cond.instanceMethod ⟨"GraphKeep$Link", "<init>", "(III[LGraphKeep$Property;)V"⟩ ∈ hv_Ts := hv_mem 454 (by decide +kernel) rfl
theorem kc_Lk_init : Cond.code ⟨"GraphKeep$Link", "<init>", "(III[LGraphKeep$Property;)V"⟩ prog_3_method_1_code 5 none ∈ hv_Ts := hv_mem 455 (by decide +kernel) rfl
theorem k_Lk_1 : Cond.methodLink "GraphKeep$Link" 1 ⟨"GraphKeep$Thing", "<init>", "([LGraphKeep$Property;)V"⟩ ∈ hv_Ts := hv_mem 456 (by decide +kernel) rfl
theorem k_Lk_7 : Cond.fieldLink "GraphKeep$Link" 7 "GraphKeep$Link" "start" "I" ∈ hv_Ts := hv_mem 457 (by decide +kernel) rfl
theorem k_Gr_42 : Cond.fieldLink "GraphKeep$Graph" 42 "GraphKeep$Link" "start" "I" ∈ hv_Ts := hv_mem 458 (by decide +kernel) rfl
theorem k_GK_307 : Cond.fieldLink "GraphKeep" 307 "GraphKeep$Link" "start" "I" ∈ hv_Ts := hv_mem 459 (by decide +kernel) rfl
theorem k_Lk_13 : Cond.fieldLink "GraphKeep$Link" 13 "GraphKeep$Link" "end" "I" ∈ hv_Ts := hv_mem 460 (by decide +kernel) rfl
theorem k_Gr_46 : Cond.fieldLink "GraphKeep$Graph" 46 "GraphKeep$Link" "end" "I" ∈ hv_Ts := hv_mem 461 (by decide +kernel) rfl
theorem k_GK_310 : Cond.fieldLink "GraphKeep" 310 "GraphKeep$Link" "end" "I" ∈ hv_Ts := hv_mem 462 (by decide +kernel) rfl
theorem k_Lk_16 : Cond.fieldLink "GraphKeep$Link" 16 "GraphKeep$Link" "type" "I" ∈ hv_Ts := hv_mem 463 (by decide +kernel) rfl
theorem k_Gr_49 : Cond.fieldLink "GraphKeep$Graph" 49 "GraphKeep$Link" "type" "I" ∈ hv_Ts := hv_mem 464 (by decide +kernel) rfl
theorem k_GK_313 : Cond.fieldLink "GraphKeep" 313 "GraphKeep$Link" "type" "I" ∈ hv_Ts := hv_mem 465 (by decide +kernel) rfl
theorem k_Gr_55 : Cond.methodLink "GraphKeep$Graph" 55 ⟨"GraphKeep$Graph", "putLink", "(ILGraphKeep$Link;)V"⟩ ∈ hv_Ts := hv_mem 474 (by decide +kernel) rfl
theorem ki_Gr_putLink : Cond.instanceMethod ⟨"GraphKeep$Graph", "putLink", "(ILGraphKeep$Link;)V"⟩ ∈ hv_Ts := hv_mem 475 (by decide +kernel) rfl
theorem ksel_Gr_Gr_putLink : Cond.selects "GraphKeep$Graph" ⟨"GraphKeep$Graph", "putLink", "(ILGraphKeep$Link;)V"⟩ ⟨"GraphKeep$Graph", "putLink", "(ILGraphKeep$Link;)V"⟩ ∈ hv_Ts := hv_mem 476 (by decide +kernel) rfl
theorem kc_Gr_putLink : Cond.code ⟨"GraphKeep$Graph", "putLink", "(ILGraphKeep$Link;)V"⟩ prog_2_method_6_code 3 none ∈ hv_Ts := hv_mem 477 (by decide +kernel) rfl
theorem k_GK_102 : Cond.methodLink "GraphKeep" 102 ⟨"GraphKeep$Tape", "pull", "()[B"⟩ ∈ hv_Ts := hv_mem 478 (by decide +kernel) rfl
theorem ki_Tp_pull : Cond.instanceMethod ⟨"GraphKeep$Tape", "pull", "()[B"⟩ ∈ hv_Ts := hv_mem 479 (by decide +kernel) rfl
theorem ksel_Tp_Tp_pull : Cond.selects "GraphKeep$Tape" ⟨"GraphKeep$Tape", "pull", "()[B"⟩ ⟨"GraphKeep$Tape", "pull", "()[B"⟩ ∈ hv_Ts := hv_mem 480 (by decide +kernel) rfl
theorem kc_Tp_pull : Cond.code ⟨"GraphKeep$Tape", "pull", "()[B"⟩ prog_7_method_3_code 3 (some (.array .byte)) ∈ hv_Ts := hv_mem 481 (by decide +kernel) rfl
theorem kin_Pr : Cond.instantiable "GraphKeep$Property" 4 ∈ hv_Ts := hv_mem 482 (by decide +kernel) rfl
theorem k_GK_106 : Cond.methodLink "GraphKeep" 106 ⟨"GraphKeep$Property", "<init>", "(IIJ[B)V"⟩ ∈ hv_Ts := hv_mem 483 (by decide +kernel) rfl
theorem ki_Pr_init : Cond.instanceMethod ⟨"GraphKeep$Property", "<init>", "(IIJ[B)V"⟩ ∈ hv_Ts := hv_mem 484 (by decide +kernel) rfl
theorem kc_Pr_init : Cond.code ⟨"GraphKeep$Property", "<init>", "(IIJ[B)V"⟩ prog_6_method_1_code 6 none ∈ hv_Ts := hv_mem 485 (by decide +kernel) rfl
theorem k_Pr_1 : Cond.methodLink "GraphKeep$Property" 1 ⟨"java/lang/Object", "<init>", "()V"⟩ ∈ hv_Ts := hv_mem 486 (by decide +kernel) rfl
theorem k_Pr_7 : Cond.fieldLink "GraphKeep$Property" 7 "GraphKeep$Property" "key" "I" ∈ hv_Ts := hv_mem 487 (by decide +kernel) rfl
theorem k_Th_17 : Cond.fieldLink "GraphKeep$Thing" 17 "GraphKeep$Property" "key" "I" ∈ hv_Ts := hv_mem 488 (by decide +kernel) rfl
theorem k_GK_273 : Cond.fieldLink "GraphKeep" 273 "GraphKeep$Property" "key" "I" ∈ hv_Ts := hv_mem 489 (by decide +kernel) rfl
theorem k_Pr_13 : Cond.fieldLink "GraphKeep$Property" 13 "GraphKeep$Property" "kind" "I" ∈ hv_Ts := hv_mem 490 (by decide +kernel) rfl
theorem k_GK_232 : Cond.fieldLink "GraphKeep" 232 "GraphKeep$Property" "kind" "I" ∈ hv_Ts := hv_mem 491 (by decide +kernel) rfl
theorem k_Pr_16 : Cond.fieldLink "GraphKeep$Property" 16 "GraphKeep$Property" "number" "J" ∈ hv_Ts := hv_mem 492 (by decide +kernel) rfl
theorem k_GK_237 : Cond.fieldLink "GraphKeep" 237 "GraphKeep$Property" "number" "J" ∈ hv_Ts := hv_mem 493 (by decide +kernel) rfl
theorem k_Pr_20 : Cond.fieldLink "GraphKeep$Property" 20 "GraphKeep$Property" "text" "[B" ∈ hv_Ts := hv_mem 494 (by decide +kernel) rfl
theorem k_GK_241 : Cond.fieldLink "GraphKeep" 241 "GraphKeep$Property" "text" "[B" ∈ hv_Ts := hv_mem 495 (by decide +kernel) rfl
theorem k_GK_109 : Cond.methodLink "GraphKeep" 109 ⟨"GraphKeep", "putProperty", "(LGraphKeep$Thing;ILGraphKeep$Property;)Z"⟩ ∈ hv_Ts := hv_mem 505 (by decide +kernel) rfl
theorem kpr_GK_putProperty : Cond.privateMethod ⟨"GraphKeep", "putProperty", "(LGraphKeep$Thing;ILGraphKeep$Property;)Z"⟩ ∈ lw_tbl := hv_memL 506 (by decide +kernel)
theorem ki_GK_putProperty : Cond.instanceMethod ⟨"GraphKeep", "putProperty", "(LGraphKeep$Thing;ILGraphKeep$Property;)Z"⟩ ∈ hv_Ts := hv_mem 507 (by decide +kernel) rfl
theorem kc_GK_putProperty : Cond.code ⟨"GraphKeep", "putProperty", "(LGraphKeep$Thing;ILGraphKeep$Property;)Z"⟩ prog_1_method_31_code 5 (some .boolean) ∈ hv_Ts := hv_mem 508 (by decide +kernel) rfl
theorem k_GK_276 : Cond.methodLink "GraphKeep" 276 ⟨"GraphKeep$Property", "isSameValue", "(LGraphKeep$Property;)Z"⟩ ∈ hv_Ts := hv_mem 509 (by decide +kernel) rfl
theorem ki_Pr_isSameValue : Cond.instanceMethod ⟨"GraphKeep$Property", "isSameValue", "(LGraphKeep$Property;)Z"⟩ ∈ hv_Ts := hv_mem 510 (by decide +kernel) rfl
theorem ksel_Pr_Pr_isSameValue : Cond.selects "GraphKeep$Property" ⟨"GraphKeep$Property", "isSameValue", "(LGraphKeep$Property;)Z"⟩ ⟨"GraphKeep$Property", "isSameValue", "(LGraphKeep$Property;)Z"⟩ ∈ hv_Ts := hv_mem 511 (by decide +kernel) rfl
theorem kc_Pr_isSameValue : Cond.code ⟨"GraphKeep$Property", "isSameValue", "(LGraphKeep$Property;)Z"⟩ prog_6_method_2_code 3 (some .boolean) ∈ hv_Ts := hv_mem 512 (by decide +kernel) rfl
theorem k_GK_280 : Cond.methodLink "GraphKeep" 280 ⟨"GraphKeep$Thing", "propertiesWith", "(LGraphKeep$Property;)[LGraphKeep$Property;"⟩ ∈ hv_Ts := hv_mem 513 (by decide +kernel) rfl
theorem ki_Th_propertiesWith : Cond.instanceMethod ⟨"GraphKeep$Thing", "propertiesWith", "(LGraphKeep$Property;)[LGraphKeep$Property;"⟩ ∈ hv_Ts := hv_mem 514 (by decide +kernel) rfl
theorem ksel_Lk_Th_propertiesWith : Cond.selects "GraphKeep$Link" ⟨"GraphKeep$Thing", "propertiesWith", "(LGraphKeep$Property;)[LGraphKeep$Property;"⟩ ⟨"GraphKeep$Thing", "propertiesWith", "(LGraphKeep$Property;)[LGraphKeep$Property;"⟩ ∈ hv_Ts := hv_mem 516 (by decide +kernel) rfl
theorem ksel_Nd_Th_propertiesWith : Cond.selects "GraphKeep$Node" ⟨"GraphKeep$Thing", "propertiesWith", "(LGraphKeep$Property;)[LGraphKeep$Property;"⟩ ⟨"GraphKeep$Thing", "propertiesWith", "(LGraphKeep$Property;)[LGraphKeep$Property;"⟩ ∈ hv_Ts := hv_mem 517 (by decide +kernel) rfl
theorem kc_Th_propertiesWith : Cond.code ⟨"GraphKeep$Thing", "propertiesWith", "(LGraphKeep$Property;)[LGraphKeep$Property;"⟩ prog_8_method_3_code 6 (some (.array (.object "GraphKeep$Property"))) ∈ hv_Ts := hv_mem 518 (by decide +kernel) rfl
theorem k_Law_76 : Cond.methodLink "GraphKeepLaw" 76 ⟨"GraphKeepLaw", "link", "(LGraphKeep;III[J)I"⟩ ∈ hv_Ts := hv_mem 519 (by decide +kernel) rfl
theorem ki_Law_link : Cond.static ⟨"GraphKeepLaw", "link", "(LGraphKeep;III[J)I"⟩ ∈ hv_Ts := hv_mem 520 (by decide +kernel) rfl
theorem kc_Law_link : Cond.codeWith ⟨"GraphKeepLaw", "link", "(LGraphKeep;III[J)I"⟩ method_6_code 6 (some .int) [(0, 12, 15, 13), (0, 12, 19, 15)] ∈ hv_Ts := hv_mem 521 (by decide +kernel) rfl
theorem k_Law_25 : Cond.methodLink "GraphKeepLaw" 25 ⟨"GraphKeep", "link", "(III)I"⟩ ∈ hv_Ts := hv_mem 522 (by decide +kernel) rfl
theorem ki_GK_link : Cond.instanceMethod ⟨"GraphKeep", "link", "(III)I"⟩ ∈ hv_Ts := hv_mem 523 (by decide +kernel) rfl
theorem ksel_GK_GK_link : Cond.selects "GraphKeep" ⟨"GraphKeep", "link", "(III)I"⟩ ⟨"GraphKeep", "link", "(III)I"⟩ ∈ hv_Ts := hv_mem 524 (by decide +kernel) rfl
theorem kc_GK_link : Cond.code ⟨"GraphKeep", "link", "(III)I"⟩ prog_1_method_6_code 5 (some .int) ∈ hv_Ts := hv_mem 525 (by decide +kernel) rfl
theorem k_GK_115 : Cond.methodLink "GraphKeep" 115 ⟨"GraphKeep$Link", "<init>", "(III[LGraphKeep$Property;)V"⟩ ∈ hv_Ts := hv_mem 526 (by decide +kernel) rfl
theorem k_GK_118 : Cond.methodLink "GraphKeep" 118 ⟨"GraphKeep$Graph", "putLink", "(ILGraphKeep$Link;)V"⟩ ∈ hv_Ts := hv_mem 527 (by decide +kernel) rfl
theorem k_Law_80 : Cond.methodLink "GraphKeepLaw" 80 ⟨"GraphKeepLaw", "take", "(LGraphKeep;II)I"⟩ ∈ hv_Ts := hv_mem 528 (by decide +kernel) rfl
theorem ki_Law_take : Cond.static ⟨"GraphKeepLaw", "take", "(LGraphKeep;II)I"⟩ ∈ hv_Ts := hv_mem 529 (by decide +kernel) rfl
theorem kc_Law_take : Cond.codeWith ⟨"GraphKeepLaw", "take", "(LGraphKeep;II)I"⟩ method_7_code 4 (some .int) [(0, 6, 9, 13), (0, 6, 12, 15)] ∈ hv_Ts := hv_mem 530 (by decide +kernel) rfl
theorem k_Law_29 : Cond.methodLink "GraphKeepLaw" 29 ⟨"GraphKeep", "take", "(II)V"⟩ ∈ hv_Ts := hv_mem 531 (by decide +kernel) rfl
theorem ki_GK_take : Cond.instanceMethod ⟨"GraphKeep", "take", "(II)V"⟩ ∈ hv_Ts := hv_mem 532 (by decide +kernel) rfl
theorem ksel_GK_GK_take : Cond.selects "GraphKeep" ⟨"GraphKeep", "take", "(II)V"⟩ ⟨"GraphKeep", "take", "(II)V"⟩ ∈ hv_Ts := hv_mem 533 (by decide +kernel) rfl
theorem kc_GK_take : Cond.code ⟨"GraphKeep", "take", "(II)V"⟩ prog_1_method_7_code 3 none ∈ hv_Ts := hv_mem 534 (by decide +kernel) rfl
theorem k_GK_122 : Cond.methodLink "GraphKeep" 122 ⟨"GraphKeep", "takeNode", "(I)V"⟩ ∈ hv_Ts := hv_mem 535 (by decide +kernel) rfl
theorem kpr_GK_takeNode : Cond.privateMethod ⟨"GraphKeep", "takeNode", "(I)V"⟩ ∈ lw_tbl := hv_memL 536 (by decide +kernel)
theorem ki_GK_takeNode : Cond.instanceMethod ⟨"GraphKeep", "takeNode", "(I)V"⟩ ∈ hv_Ts := hv_mem 537 (by decide +kernel) rfl
theorem kc_GK_takeNode : Cond.code ⟨"GraphKeep", "takeNode", "(I)V"⟩ prog_1_method_32_code 2 none ∈ hv_Ts := hv_mem 538 (by decide +kernel) rfl
theorem k_GK_288 : Cond.methodLink "GraphKeep" 288 ⟨"GraphKeep", "mark", "([ZI)V"⟩ ∈ hv_Ts := hv_mem 539 (by decide +kernel) rfl
theorem ki_GK_mark : Cond.static ⟨"GraphKeep", "mark", "([ZI)V"⟩ ∈ hv_Ts := hv_mem 540 (by decide +kernel) rfl
theorem kc_GK_mark : Cond.code ⟨"GraphKeep", "mark", "([ZI)V"⟩ prog_1_method_34_code 2 none ∈ hv_Ts := hv_mem 541 (by decide +kernel) rfl
theorem k_GK_126 : Cond.methodLink "GraphKeep" 126 ⟨"GraphKeep", "takeLink", "(I)V"⟩ ∈ hv_Ts := hv_mem 542 (by decide +kernel) rfl
theorem kpr_GK_takeLink : Cond.privateMethod ⟨"GraphKeep", "takeLink", "(I)V"⟩ ∈ lw_tbl := hv_memL 543 (by decide +kernel)
theorem ki_GK_takeLink : Cond.instanceMethod ⟨"GraphKeep", "takeLink", "(I)V"⟩ ∈ hv_Ts := hv_mem 544 (by decide +kernel) rfl
theorem kc_GK_takeLink : Cond.code ⟨"GraphKeep", "takeLink", "(I)V"⟩ prog_1_method_33_code 2 none ∈ hv_Ts := hv_mem 545 (by decide +kernel) rfl
theorem k_Law_88 : Cond.methodLink "GraphKeepLaw" 88 ⟨"GraphKeepLaw", "done", "(LGraphKeep;[J)I"⟩ ∈ hv_Ts := hv_mem 546 (by decide +kernel) rfl
theorem ki_Law_done : Cond.static ⟨"GraphKeepLaw", "done", "(LGraphKeep;[J)I"⟩ ∈ hv_Ts := hv_mem 547 (by decide +kernel) rfl
theorem kc_Law_done : Cond.codeWith ⟨"GraphKeepLaw", "done", "(LGraphKeep;[J)I"⟩ method_8_code 3 (some .int) [(0, 8, 11, 13), (0, 8, 14, 15)] ∈ hv_Ts := hv_mem 548 (by decide +kernel) rfl
theorem k_Law_33 : Cond.methodLink "GraphKeepLaw" 33 ⟨"GraphKeep", "done", "()I"⟩ ∈ hv_Ts := hv_mem 549 (by decide +kernel) rfl
theorem ki_GK_done : Cond.instanceMethod ⟨"GraphKeep", "done", "()I"⟩ ∈ hv_Ts := hv_mem 550 (by decide +kernel) rfl
theorem ksel_GK_GK_done : Cond.selects "GraphKeep" ⟨"GraphKeep", "done", "()I"⟩ ⟨"GraphKeep", "done", "()I"⟩ ∈ hv_Ts := hv_mem 551 (by decide +kernel) rfl
theorem kc_GK_done : Cond.code ⟨"GraphKeep", "done", "()I"⟩ prog_1_method_9_code 2 (some .int) ∈ hv_Ts := hv_mem 552 (by decide +kernel) rfl
theorem k_GK_140 : Cond.methodLink "GraphKeep" 140 ⟨"GraphKeep$Log", "hasRoom", "(I)Z"⟩ ∈ hv_Ts := hv_mem 553 (by decide +kernel) rfl
theorem ki_Lg_hasRoom : Cond.instanceMethod ⟨"GraphKeep$Log", "hasRoom", "(I)Z"⟩ ∈ hv_Ts := hv_mem 554 (by decide +kernel) rfl
theorem ksel_Lg_Lg_hasRoom : Cond.selects "GraphKeep$Log" ⟨"GraphKeep$Log", "hasRoom", "(I)Z"⟩ ⟨"GraphKeep$Log", "hasRoom", "(I)Z"⟩ ∈ hv_Ts := hv_mem 555 (by decide +kernel) rfl
theorem kc_Lg_hasRoom : Cond.code ⟨"GraphKeep$Log", "hasRoom", "(I)Z"⟩ prog_4_method_3_code 2 (some .boolean) ∈ hv_Ts := hv_mem 556 (by decide +kernel) rfl
theorem k_Lg_15 : Cond.methodLink "GraphKeep$Log" 15 ⟨"GraphKeep$Log", "writesFor", "(I)I"⟩ ∈ hv_Ts := hv_mem 557 (by decide +kernel) rfl
theorem ki_Lg_writesFor : Cond.static ⟨"GraphKeep$Log", "writesFor", "(I)I"⟩ ∈ hv_Ts := hv_mem 558 (by decide +kernel) rfl
theorem kc_Lg_writesFor : Cond.code ⟨"GraphKeep$Log", "writesFor", "(I)I"⟩ prog_4_method_2_code 1 (some .int) ∈ hv_Ts := hv_mem 559 (by decide +kernel) rfl
theorem k_GK_153 : Cond.methodLink "GraphKeep" 153 ⟨"GraphKeep", "keep", "(I)V"⟩ ∈ hv_Ts := hv_mem 561 (by decide +kernel) rfl
theorem kpr_GK_keep : Cond.privateMethod ⟨"GraphKeep", "keep", "(I)V"⟩ ∈ lw_tbl := hv_memL 562 (by decide +kernel)
theorem ki_GK_keep : Cond.instanceMethod ⟨"GraphKeep", "keep", "(I)V"⟩ ∈ hv_Ts := hv_mem 563 (by decide +kernel) rfl
theorem kc_GK_keep : Cond.code ⟨"GraphKeep", "keep", "(I)V"⟩ prog_1_method_35_code 2 none ∈ hv_Ts := hv_mem 564 (by decide +kernel) rfl
theorem k_GK_292 : Cond.methodLink "GraphKeep" 292 ⟨"GraphKeep$Log", "writeTransaction", "(I)Z"⟩ ∈ hv_Ts := hv_mem 565 (by decide +kernel) rfl
theorem ki_Lg_writeTransaction : Cond.instanceMethod ⟨"GraphKeep$Log", "writeTransaction", "(I)Z"⟩ ∈ hv_Ts := hv_mem 566 (by decide +kernel) rfl
theorem ksel_Lg_Lg_writeTransaction : Cond.selects "GraphKeep$Log" ⟨"GraphKeep$Log", "writeTransaction", "(I)Z"⟩ ⟨"GraphKeep$Log", "writeTransaction", "(I)Z"⟩ ∈ hv_Ts := hv_mem 567 (by decide +kernel) rfl
theorem kc_Lg_writeTransaction : Cond.code ⟨"GraphKeep$Log", "writeTransaction", "(I)Z"⟩ prog_4_method_5_code 4 (some .boolean) ∈ hv_Ts := hv_mem 568 (by decide +kernel) rfl
theorem k_Lg_22 : Cond.methodLink "GraphKeep$Log" 22 ⟨"GraphKeep$Log", "write", "(I)I"⟩ ∈ hv_Ts := hv_mem 569 (by decide +kernel) rfl
theorem kpr_Lg_write : Cond.privateMethod ⟨"GraphKeep$Log", "write", "(I)I"⟩ ∈ lw_tbl := hv_memL 570 (by decide +kernel)
theorem ki_Lg_write : Cond.instanceMethod ⟨"GraphKeep$Log", "write", "(I)I"⟩ ∈ hv_Ts := hv_mem 571 (by decide +kernel) rfl
theorem kc_Lg_write : Cond.code ⟨"GraphKeep$Log", "write", "(I)I"⟩ prog_4_method_8_code 4 (some .int) ∈ hv_Ts := hv_mem 572 (by decide +kernel) rfl
theorem k_Lg_31 : Cond.methodLink "GraphKeep$Log" 31 ⟨"java/lang/Math", "max", "(II)I"⟩ ∈ hv_Ts := hv_mem 573 (by decide +kernel) rfl
theorem ki_mmax : Cond.static Lib.Math.max.name ∈ hv_Ts := hv_mem 574 (by decide +kernel) rfl
theorem kc_mmax : Cond.code Lib.Math.max.name Lib.Math.max.code 2 (some .int) ∈ hv_Ts := hv_mem 575 (by decide +kernel) rfl
theorem k_GK_185 : Cond.methodLink "GraphKeep" 185 ⟨"GraphKeep", "goOff", "()V"⟩ ∈ hv_Ts := hv_mem 576 (by decide +kernel) rfl
theorem kpr_GK_goOff : Cond.privateMethod ⟨"GraphKeep", "goOff", "()V"⟩ ∈ lw_tbl := hv_memL 577 (by decide +kernel)
theorem ki_GK_goOff : Cond.instanceMethod ⟨"GraphKeep", "goOff", "()V"⟩ ∈ hv_Ts := hv_mem 578 (by decide +kernel) rfl
theorem kc_GK_goOff : Cond.code ⟨"GraphKeep", "goOff", "()V"⟩ prog_1_method_36_code 1 none ∈ hv_Ts := hv_mem 579 (by decide +kernel) rfl
theorem k_GK_301 : Cond.methodLink "GraphKeep" 301 ⟨"GraphKeep$Graph", "clear", "()V"⟩ ∈ hv_Ts := hv_mem 580 (by decide +kernel) rfl
theorem ki_Gr_clear : Cond.instanceMethod ⟨"GraphKeep$Graph", "clear", "()V"⟩ ∈ hv_Ts := hv_mem 581 (by decide +kernel) rfl
theorem ksel_Gr_Gr_clear : Cond.selects "GraphKeep$Graph" ⟨"GraphKeep$Graph", "clear", "()V"⟩ ⟨"GraphKeep$Graph", "clear", "()V"⟩ ∈ hv_Ts := hv_mem 582 (by decide +kernel) rfl
theorem kc_Gr_clear : Cond.code ⟨"GraphKeep$Graph", "clear", "()V"⟩ prog_2_method_14_code 2 none ∈ hv_Ts := hv_mem 583 (by decide +kernel) rfl
theorem k_GK_156 : Cond.methodLink "GraphKeep" 156 ⟨"GraphKeep", "closeStatement", "()V"⟩ ∈ hv_Ts := hv_mem 585 (by decide +kernel) rfl
theorem kpr_GK_closeStatement : Cond.privateMethod ⟨"GraphKeep", "closeStatement", "()V"⟩ ∈ lw_tbl := hv_memL 586 (by decide +kernel)
theorem ki_GK_closeStatement : Cond.instanceMethod ⟨"GraphKeep", "closeStatement", "()V"⟩ ∈ hv_Ts := hv_mem 587 (by decide +kernel) rfl
theorem kc_GK_closeStatement : Cond.code ⟨"GraphKeep", "closeStatement", "()V"⟩ prog_1_method_37_code 1 none ∈ hv_Ts := hv_mem 588 (by decide +kernel) rfl
theorem k_Law_100 : Cond.methodLink "GraphKeepLaw" 100 ⟨"GraphKeepLaw", "commit", "(LGraphKeep;[J)I"⟩ ∈ hv_Ts := hv_mem 589 (by decide +kernel) rfl
theorem ki_Law_commit : Cond.static ⟨"GraphKeepLaw", "commit", "(LGraphKeep;[J)I"⟩ ∈ hv_Ts := hv_mem 590 (by decide +kernel) rfl
theorem kc_Law_commit : Cond.codeWith ⟨"GraphKeepLaw", "commit", "(LGraphKeep;[J)I"⟩ method_9_code 3 (some .int) [(0, 8, 11, 15)] ∈ hv_Ts := hv_mem 591 (by decide +kernel) rfl
theorem k_Law_36 : Cond.methodLink "GraphKeepLaw" 36 ⟨"GraphKeep", "commit", "()I"⟩ ∈ hv_Ts := hv_mem 592 (by decide +kernel) rfl
theorem ki_GK_commit : Cond.instanceMethod ⟨"GraphKeep", "commit", "()I"⟩ ∈ hv_Ts := hv_mem 593 (by decide +kernel) rfl
theorem ksel_GK_GK_commit : Cond.selects "GraphKeep" ⟨"GraphKeep", "commit", "()I"⟩ ⟨"GraphKeep", "commit", "()I"⟩ ∈ hv_Ts := hv_mem 594 (by decide +kernel) rfl
theorem kc_GK_commit : Cond.code ⟨"GraphKeep", "commit", "()I"⟩ prog_1_method_12_code 2 (some .int) ∈ hv_Ts := hv_mem 595 (by decide +kernel) rfl
theorem k_GK_168 : Cond.methodLink "GraphKeep" 168 ⟨"GraphKeep$Log", "writesFor", "(I)I"⟩ ∈ hv_Ts := hv_mem 596 (by decide +kernel) rfl
theorem k_Law_107 : Cond.methodLink "GraphKeepLaw" 107 ⟨"GraphKeepLaw", "checkpoint", "(LGraphKeep;[J)I"⟩ ∈ hv_Ts := hv_mem 597 (by decide +kernel) rfl
theorem ki_Law_checkpoint : Cond.static ⟨"GraphKeepLaw", "checkpoint", "(LGraphKeep;[J)I"⟩ ∈ hv_Ts := hv_mem 598 (by decide +kernel) rfl
theorem kc_Law_checkpoint : Cond.codeWith ⟨"GraphKeepLaw", "checkpoint", "(LGraphKeep;[J)I"⟩ method_10_code 3 (some .int) [(0, 8, 11, 15)] ∈ hv_Ts := hv_mem 599 (by decide +kernel) rfl
theorem k_Law_39 : Cond.methodLink "GraphKeepLaw" 39 ⟨"GraphKeep", "checkpoint", "()I"⟩ ∈ hv_Ts := hv_mem 600 (by decide +kernel) rfl
theorem ki_GK_checkpoint : Cond.instanceMethod ⟨"GraphKeep", "checkpoint", "()I"⟩ ∈ hv_Ts := hv_mem 601 (by decide +kernel) rfl
theorem ksel_GK_GK_checkpoint : Cond.selects "GraphKeep" ⟨"GraphKeep", "checkpoint", "()I"⟩ ⟨"GraphKeep", "checkpoint", "()I"⟩ ∈ hv_Ts := hv_mem 602 (by decide +kernel) rfl
theorem kc_GK_checkpoint : Cond.code ⟨"GraphKeep", "checkpoint", "()I"⟩ prog_1_method_14_code 2 (some .int) ∈ hv_Ts := hv_mem 603 (by decide +kernel) rfl
theorem k_GK_182 : Cond.methodLink "GraphKeep" 182 ⟨"GraphKeep$Log", "writeCheckpoint", "(I)Z"⟩ ∈ hv_Ts := hv_mem 604 (by decide +kernel) rfl
theorem ki_Lg_writeCheckpoint : Cond.instanceMethod ⟨"GraphKeep$Log", "writeCheckpoint", "(I)Z"⟩ ∈ hv_Ts := hv_mem 605 (by decide +kernel) rfl
theorem ksel_Lg_Lg_writeCheckpoint : Cond.selects "GraphKeep$Log" ⟨"GraphKeep$Log", "writeCheckpoint", "(I)Z"⟩ ⟨"GraphKeep$Log", "writeCheckpoint", "(I)Z"⟩ ∈ hv_Ts := hv_mem 606 (by decide +kernel) rfl
theorem kc_Lg_writeCheckpoint : Cond.code ⟨"GraphKeep$Log", "writeCheckpoint", "(I)Z"⟩ prog_4_method_6_code 2 (some .boolean) ∈ hv_Ts := hv_mem 607 (by decide +kernel) rfl
theorem k_Law_133 : Cond.methodLink "GraphKeepLaw" 133 ⟨"GraphKeepLaw", "value", "(LGraphKeep;IIII[J)I"⟩ ∈ hv_Ts := hv_mem 609 (by decide +kernel) rfl
theorem ki_Law_value : Cond.static ⟨"GraphKeepLaw", "value", "(LGraphKeep;IIII[J)I"⟩ ∈ hv_Ts := hv_mem 610 (by decide +kernel) rfl
theorem kc_Law_value : Cond.codeWith ⟨"GraphKeepLaw", "value", "(LGraphKeep;IIII[J)I"⟩ method_11_code 7 (some .int) [(0, 13, 16, 46)] ∈ hv_Ts := hv_mem 611 (by decide +kernel) rfl
theorem k_Law_46 : Cond.classLink "GraphKeepLaw" 46 "java/util/NoSuchElementException" ∈ hv_Ts := hv_mem 612 (by decide +kernel) rfl
theorem k_Law_42 : Cond.methodLink "GraphKeepLaw" 42 ⟨"GraphKeep", "value", "(IIII)J"⟩ ∈ hv_Ts := hv_mem 613 (by decide +kernel) rfl
theorem ki_GK_value : Cond.instanceMethod ⟨"GraphKeep", "value", "(IIII)J"⟩ ∈ hv_Ts := hv_mem 614 (by decide +kernel) rfl
theorem ksel_GK_GK_value : Cond.selects "GraphKeep" ⟨"GraphKeep", "value", "(IIII)J"⟩ ⟨"GraphKeep", "value", "(IIII)J"⟩ ∈ hv_Ts := hv_mem 615 (by decide +kernel) rfl
theorem kc_GK_value : Cond.code ⟨"GraphKeep", "value", "(IIII)J"⟩ prog_1_method_20_code 7 (some .long) ∈ hv_Ts := hv_mem 616 (by decide +kernel) rfl
theorem k_GK_223 : Cond.classLink "GraphKeep" 223 "java/util/NoSuchElementException" ∈ hv_Ts := hv_mem 617 (by decide +kernel) rfl
theorem kin_NoSuchElementException : Cond.instantiable "java/util/NoSuchElementException" 6 ∈ hv_Ts := hv_mem 618 (by decide +kernel) rfl
theorem k_GK_227 : Cond.methodLink "GraphKeep" 227 ⟨"java/util/NoSuchElementException", "<init>", "(Ljava/lang/String;)V"⟩ ∈ hv_Ts := hv_mem 626 (by decide +kernel) rfl
theorem k_Law_49 : Cond.classLink "GraphKeepLaw" 49 "GraphKeepModel" ∈ hv_Ts := hv_mem 634 (by decide +kernel) rfl
theorem kin_Model : Cond.instantiable "GraphKeepModel" 25 ∈ hv_Ts := hv_mem 635 (by decide +kernel) rfl
theorem k_Law_51 : Cond.methodLink "GraphKeepLaw" 51 ⟨"GraphKeepModel", "<init>", "()V"⟩ ∈ hv_Ts := hv_mem 636 (by decide +kernel) rfl
theorem ki_Model_init : Cond.instanceMethod ⟨"GraphKeepModel", "<init>", "()V"⟩ ∈ hv_Ts := hv_mem 637 (by decide +kernel) rfl
theorem kc_Model_init : Cond.code ⟨"GraphKeepModel", "<init>", "()V"⟩ prog_10_method_1_code 1 none ∈ hv_Ts := hv_mem 638 (by decide +kernel) rfl
theorem k_Model_1 : Cond.methodLink "GraphKeepModel" 1 ⟨"java/lang/Object", "<init>", "()V"⟩ ∈ hv_Ts := hv_mem 639 (by decide +kernel) rfl
theorem k_Model_51 : Cond.fieldLink "GraphKeepModel" 51 "GraphKeepModel" "thrown" "I" ∈ hv_Ts := hv_mem 640 (by decide +kernel) rfl
theorem k_Model_7 : Cond.fieldLink "GraphKeepModel" 7 "GraphKeepModel" "there" "[Z" ∈ hv_Ts := hv_mem 641 (by decide +kernel) rfl
theorem k_Model_13 : Cond.fieldLink "GraphKeepModel" 13 "GraphKeepModel" "starts" "[I" ∈ hv_Ts := hv_mem 642 (by decide +kernel) rfl
theorem k_Model_17 : Cond.fieldLink "GraphKeepModel" 17 "GraphKeepModel" "ends" "[I" ∈ hv_Ts := hv_mem 643 (by decide +kernel) rfl
theorem k_Model_20 : Cond.fieldLink "GraphKeepModel" 20 "GraphKeepModel" "types" "[I" ∈ hv_Ts := hv_mem 644 (by decide +kernel) rfl
theorem k_Model_23 : Cond.fieldLink "GraphKeepModel" 23 "GraphKeepModel" "labelMany" "[I" ∈ hv_Ts := hv_mem 645 (by decide +kernel) rfl
theorem k_Model_26 : Cond.fieldLink "GraphKeepModel" 26 "GraphKeepModel" "labels" "[I" ∈ hv_Ts := hv_mem 646 (by decide +kernel) rfl
theorem k_Model_29 : Cond.fieldLink "GraphKeepModel" 29 "GraphKeepModel" "propertyMany" "[I" ∈ hv_Ts := hv_mem 647 (by decide +kernel) rfl
theorem k_Model_32 : Cond.fieldLink "GraphKeepModel" 32 "GraphKeepModel" "keys" "[I" ∈ hv_Ts := hv_mem 648 (by decide +kernel) rfl
theorem k_Model_35 : Cond.fieldLink "GraphKeepModel" 35 "GraphKeepModel" "kinds" "[I" ∈ hv_Ts := hv_mem 649 (by decide +kernel) rfl
theorem k_Model_38 : Cond.fieldLink "GraphKeepModel" 38 "GraphKeepModel" "values" "[J" ∈ hv_Ts := hv_mem 650 (by decide +kernel) rfl
theorem k_Model_42 : Cond.fieldLink "GraphKeepModel" 42 "GraphKeepModel" "texts" "[J" ∈ hv_Ts := hv_mem 651 (by decide +kernel) rfl
theorem k_Model_45 : Cond.fieldLink "GraphKeepModel" 45 "GraphKeepModel" "taken" "[Z" ∈ hv_Ts := hv_mem 652 (by decide +kernel) rfl
theorem k_Model_103 : Cond.fieldLink "GraphKeepModel" 103 "GraphKeepModel" "tapeSize" "I" ∈ hv_Ts := hv_mem 653 (by decide +kernel) rfl
theorem k_Model_48 : Cond.fieldLink "GraphKeepModel" 48 "GraphKeepModel" "tape" "[J" ∈ hv_Ts := hv_mem 654 (by decide +kernel) rfl
theorem k_Model_69 : Cond.fieldLink "GraphKeepModel" 69 "GraphKeepModel" "error" "I" ∈ hv_Ts := hv_mem 655 (by decide +kernel) rfl
theorem k_Model_62 : Cond.fieldLink "GraphKeepModel" 62 "GraphKeepModel" "off" "Z" ∈ hv_Ts := hv_mem 656 (by decide +kernel) rfl
theorem k_Model_81 : Cond.fieldLink "GraphKeepModel" 81 "GraphKeepModel" "inside" "Z" ∈ hv_Ts := hv_mem 657 (by decide +kernel) rfl
theorem k_Model_59 : Cond.fieldLink "GraphKeepModel" 59 "GraphKeepModel" "changes" "I" ∈ hv_Ts := hv_mem 658 (by decide +kernel) rfl
theorem k_Model_66 : Cond.fieldLink "GraphKeepModel" 66 "GraphKeepModel" "earlier" "I" ∈ hv_Ts := hv_mem 659 (by decide +kernel) rfl
theorem k_Model_97 : Cond.fieldLink "GraphKeepModel" 97 "GraphKeepModel" "logged" "I" ∈ hv_Ts := hv_mem 660 (by decide +kernel) rfl
theorem k_Model_100 : Cond.fieldLink "GraphKeepModel" 100 "GraphKeepModel" "over" "I" ∈ hv_Ts := hv_mem 661 (by decide +kernel) rfl
theorem k_Model_94 : Cond.fieldLink "GraphKeepModel" 94 "GraphKeepModel" "loose" "I" ∈ hv_Ts := hv_mem 662 (by decide +kernel) rfl
theorem k_Model_87 : Cond.fieldLink "GraphKeepModel" 87 "GraphKeepModel" "written" "I" ∈ hv_Ts := hv_mem 663 (by decide +kernel) rfl
theorem k_Model_78 : Cond.fieldLink "GraphKeepModel" 78 "GraphKeepModel" "due" "I" ∈ hv_Ts := hv_mem 664 (by decide +kernel) rfl
theorem ka_long : Cond.arrayClass .long ∈ hv_Ts := hv_mem 716 (by decide +kernel) rfl
theorem k_Law_65 : Cond.methodLink "GraphKeepLaw" 65 ⟨"GraphKeepModel", "thrown", "()I"⟩ ∈ hv_Ts := hv_mem 717 (by decide +kernel) rfl
theorem ki_Model_thrown : Cond.instanceMethod ⟨"GraphKeepModel", "thrown", "()I"⟩ ∈ hv_Ts := hv_mem 718 (by decide +kernel) rfl
theorem ksel_Model_Model_thrown : Cond.selects "GraphKeepModel" ⟨"GraphKeepModel", "thrown", "()I"⟩ ⟨"GraphKeepModel", "thrown", "()I"⟩ ∈ hv_Ts := hv_mem 719 (by decide +kernel) rfl
theorem kc_Model_thrown : Cond.code ⟨"GraphKeepModel", "thrown", "()I"⟩ prog_10_method_2_code 1 (some .int) ∈ hv_Ts := hv_mem 720 (by decide +kernel) rfl
theorem k_Law_58 : Cond.methodLink "GraphKeepLaw" 58 ⟨"GraphKeepModel", "type", "(JI)Z"⟩ ∈ hv_Ts := hv_mem 721 (by decide +kernel) rfl
theorem ki_Model_type : Cond.instanceMethod ⟨"GraphKeepModel", "type", "(JI)Z"⟩ ∈ hv_Ts := hv_mem 722 (by decide +kernel) rfl
theorem ksel_Model_Model_type : Cond.selects "GraphKeepModel" ⟨"GraphKeepModel", "type", "(JI)Z"⟩ ⟨"GraphKeepModel", "type", "(JI)Z"⟩ ∈ hv_Ts := hv_mem 723 (by decide +kernel) rfl
theorem kc_Model_type : Cond.code ⟨"GraphKeepModel", "type", "(JI)Z"⟩ prog_10_method_18_code 8 (some .boolean) ∈ hv_Ts := hv_mem 724 (by decide +kernel) rfl
theorem k_Model_106 : Cond.constantLong "GraphKeepModel" 106 255 ∈ hv_Ts := hv_mem 725 (by decide +kernel) rfl
theorem k_Model_108 : Cond.constantLong "GraphKeepModel" 108 31 ∈ hv_Ts := hv_mem 726 (by decide +kernel) rfl
theorem k_Model_110 : Cond.constantLong "GraphKeepModel" 110 127 ∈ hv_Ts := hv_mem 727 (by decide +kernel) rfl
theorem k_Law_64 : Cond.methodLink "GraphKeepLaw" 64 ⟨"GraphKeepModel", "node", "()I"⟩ ∈ hv_Ts := hv_mem 728 (by decide +kernel) rfl
theorem ki_Model_node : Cond.instanceMethod ⟨"GraphKeepModel", "node", "()I"⟩ ∈ hv_Ts := hv_mem 729 (by decide +kernel) rfl
theorem ksel_Model_Model_node : Cond.selects "GraphKeepModel" ⟨"GraphKeepModel", "node", "()I"⟩ ⟨"GraphKeepModel", "node", "()I"⟩ ∈ hv_Ts := hv_mem 730 (by decide +kernel) rfl
theorem kc_Model_node : Cond.code ⟨"GraphKeepModel", "node", "()I"⟩ prog_10_method_19_code 2 (some .int) ∈ hv_Ts := hv_mem 731 (by decide +kernel) rfl
theorem k_Model_112 : Cond.methodLink "GraphKeepModel" 112 ⟨"GraphKeepModel", "free", "(II)I"⟩ ∈ hv_Ts := hv_mem 732 (by decide +kernel) rfl
theorem kpr_Model_free : Cond.privateMethod ⟨"GraphKeepModel", "free", "(II)I"⟩ ∈ lw_tbl := hv_memL 733 (by decide +kernel)
theorem ki_Model_free : Cond.instanceMethod ⟨"GraphKeepModel", "free", "(II)I"⟩ ∈ hv_Ts := hv_mem 734 (by decide +kernel) rfl
theorem kc_Model_free : Cond.code ⟨"GraphKeepModel", "free", "(II)I"⟩ prog_10_method_10_code 4 (some .int) ∈ hv_Ts := hv_mem 735 (by decide +kernel) rfl
theorem k_Model_116 : Cond.methodLink "GraphKeepModel" 116 ⟨"GraphKeepModel", "fails", "(ZZZZZ)Z"⟩ ∈ hv_Ts := hv_mem 736 (by decide +kernel) rfl
theorem kpr_Model_fails : Cond.privateMethod ⟨"GraphKeepModel", "fails", "(ZZZZZ)Z"⟩ ∈ lw_tbl := hv_memL 737 (by decide +kernel)
theorem ki_Model_fails : Cond.instanceMethod ⟨"GraphKeepModel", "fails", "(ZZZZZ)Z"⟩ ∈ hv_Ts := hv_mem 738 (by decide +kernel) rfl
theorem kc_Model_fails : Cond.code ⟨"GraphKeepModel", "fails", "(ZZZZZ)Z"⟩ prog_10_method_12_code 7 (some .boolean) ∈ hv_Ts := hv_mem 739 (by decide +kernel) rfl
theorem k_Model_120 : Cond.methodLink "GraphKeepModel" 120 ⟨"GraphKeepModel", "begins", "()V"⟩ ∈ hv_Ts := hv_mem 740 (by decide +kernel) rfl
theorem kpr_Model_begins : Cond.privateMethod ⟨"GraphKeepModel", "begins", "()V"⟩ ∈ lw_tbl := hv_memL 741 (by decide +kernel)
theorem ki_Model_begins : Cond.instanceMethod ⟨"GraphKeepModel", "begins", "()V"⟩ ∈ hv_Ts := hv_mem 742 (by decide +kernel) rfl
theorem kc_Model_begins : Cond.code ⟨"GraphKeepModel", "begins", "()V"⟩ prog_10_method_13_code 1 none ∈ hv_Ts := hv_mem 743 (by decide +kernel) rfl
theorem k_Model_72 : Cond.methodLink "GraphKeepModel" 72 ⟨"GraphKeepModel", "copy", "(II)V"⟩ ∈ hv_Ts := hv_mem 744 (by decide +kernel) rfl
theorem kpr_Model_copy : Cond.privateMethod ⟨"GraphKeepModel", "copy", "(II)V"⟩ ∈ lw_tbl := hv_memL 745 (by decide +kernel)
theorem ki_Model_copy : Cond.instanceMethod ⟨"GraphKeepModel", "copy", "(II)V"⟩ ∈ hv_Ts := hv_mem 746 (by decide +kernel) rfl
theorem kc_Model_copy : Cond.code ⟨"GraphKeepModel", "copy", "(II)V"⟩ prog_10_method_4_code 4 none ∈ hv_Ts := hv_mem 747 (by decide +kernel) rfl
theorem k_Model_55 : Cond.methodLink "GraphKeepModel" 55 ⟨"GraphKeepModel", "copyThing", "(II)V"⟩ ∈ hv_Ts := hv_mem 748 (by decide +kernel) rfl
theorem kpr_Model_copyThing : Cond.privateMethod ⟨"GraphKeepModel", "copyThing", "(II)V"⟩ ∈ lw_tbl := hv_memL 749 (by decide +kernel)
theorem ki_Model_copyThing : Cond.instanceMethod ⟨"GraphKeepModel", "copyThing", "(II)V"⟩ ∈ hv_Ts := hv_mem 750 (by decide +kernel) rfl
theorem kc_Model_copyThing : Cond.code ⟨"GraphKeepModel", "copyThing", "(II)V"⟩ prog_10_method_3_code 4 none ∈ hv_Ts := hv_mem 751 (by decide +kernel) rfl
theorem k_Law_71 : Cond.methodLink "GraphKeepLaw" 71 ⟨"GraphKeepModel", "label", "(IIZ)Z"⟩ ∈ hv_Ts := hv_mem 752 (by decide +kernel) rfl
theorem ki_Model_label : Cond.instanceMethod ⟨"GraphKeepModel", "label", "(IIZ)Z"⟩ ∈ hv_Ts := hv_mem 753 (by decide +kernel) rfl
theorem ksel_Model_Model_label : Cond.selects "GraphKeepModel" ⟨"GraphKeepModel", "label", "(IIZ)Z"⟩ ⟨"GraphKeepModel", "label", "(IIZ)Z"⟩ ∈ hv_Ts := hv_mem 754 (by decide +kernel) rfl
theorem kc_Model_label : Cond.code ⟨"GraphKeepModel", "label", "(IIZ)Z"⟩ prog_10_method_20_code 8 (some .boolean) ∈ hv_Ts := hv_mem 755 (by decide +kernel) rfl
theorem k_Model_123 : Cond.methodLink "GraphKeepModel" 123 ⟨"GraphKeepModel", "find", "(II)I"⟩ ∈ hv_Ts := hv_mem 756 (by decide +kernel) rfl
theorem kpr_Model_find : Cond.privateMethod ⟨"GraphKeepModel", "find", "(II)I"⟩ ∈ lw_tbl := hv_memL 757 (by decide +kernel)
theorem ki_Model_find : Cond.instanceMethod ⟨"GraphKeepModel", "find", "(II)I"⟩ ∈ hv_Ts := hv_mem 758 (by decide +kernel) rfl
theorem kc_Model_find : Cond.code ⟨"GraphKeepModel", "find", "(II)I"⟩ prog_10_method_6_code 5 (some .int) ∈ hv_Ts := hv_mem 759 (by decide +kernel) rfl
theorem k_Model_126 : Cond.methodLink "GraphKeepModel" 126 ⟨"GraphKeepModel", "isLabeled", "(II)Z"⟩ ∈ hv_Ts := hv_mem 760 (by decide +kernel) rfl
theorem kpr_Model_isLabeled : Cond.privateMethod ⟨"GraphKeepModel", "isLabeled", "(II)Z"⟩ ∈ lw_tbl := hv_memL 761 (by decide +kernel)
theorem ki_Model_isLabeled : Cond.instanceMethod ⟨"GraphKeepModel", "isLabeled", "(II)Z"⟩ ∈ hv_Ts := hv_mem 762 (by decide +kernel) rfl
theorem kc_Model_isLabeled : Cond.code ⟨"GraphKeepModel", "isLabeled", "(II)Z"⟩ prog_10_method_8_code 5 (some .boolean) ∈ hv_Ts := hv_mem 763 (by decide +kernel) rfl
theorem k_Law_75 : Cond.methodLink "GraphKeepLaw" 75 ⟨"GraphKeepModel", "property", "(IIIIJ)Z"⟩ ∈ hv_Ts := hv_mem 764 (by decide +kernel) rfl
theorem ki_Model_property : Cond.instanceMethod ⟨"GraphKeepModel", "property", "(IIIIJ)Z"⟩ ∈ hv_Ts := hv_mem 765 (by decide +kernel) rfl
theorem ksel_Model_Model_property : Cond.selects "GraphKeepModel" ⟨"GraphKeepModel", "property", "(IIIIJ)Z"⟩ ⟨"GraphKeepModel", "property", "(IIIIJ)Z"⟩ ∈ hv_Ts := hv_mem 766 (by decide +kernel) rfl
theorem kc_Model_property : Cond.code ⟨"GraphKeepModel", "property", "(IIIIJ)Z"⟩ prog_10_method_24_code 15 (some .boolean) ∈ hv_Ts := hv_mem 767 (by decide +kernel) rfl
theorem k_Model_130 : Cond.methodLink "GraphKeepModel" 130 ⟨"GraphKeepModel", "propertyOf", "(II)I"⟩ ∈ hv_Ts := hv_mem 768 (by decide +kernel) rfl
theorem kpr_Model_propertyOf : Cond.privateMethod ⟨"GraphKeepModel", "propertyOf", "(II)I"⟩ ∈ lw_tbl := hv_memL 769 (by decide +kernel)
theorem ki_Model_propertyOf : Cond.instanceMethod ⟨"GraphKeepModel", "propertyOf", "(II)I"⟩ ∈ hv_Ts := hv_mem 770 (by decide +kernel) rfl
theorem kc_Model_propertyOf : Cond.code ⟨"GraphKeepModel", "propertyOf", "(II)I"⟩ prog_10_method_7_code 5 (some .int) ∈ hv_Ts := hv_mem 771 (by decide +kernel) rfl
theorem k_Model_133 : Cond.methodLink "GraphKeepModel" 133 ⟨"GraphKeepModel", "isSame", "(IIJ)Z"⟩ ∈ hv_Ts := hv_mem 772 (by decide +kernel) rfl
theorem kpr_Model_isSame : Cond.privateMethod ⟨"GraphKeepModel", "isSame", "(IIJ)Z"⟩ ∈ lw_tbl := hv_memL 773 (by decide +kernel)
theorem ki_Model_isSame : Cond.instanceMethod ⟨"GraphKeepModel", "isSame", "(IIJ)Z"⟩ ∈ hv_Ts := hv_mem 774 (by decide +kernel) rfl
theorem kc_Model_isSame : Cond.code ⟨"GraphKeepModel", "isSame", "(IIJ)Z"⟩ prog_10_method_21_code 7 (some .boolean) ∈ hv_Ts := hv_mem 775 (by decide +kernel) rfl
theorem k_Model_137 : Cond.methodLink "GraphKeepModel" 137 ⟨"GraphKeepModel", "dropProperty", "(II)V"⟩ ∈ hv_Ts := hv_mem 776 (by decide +kernel) rfl
theorem kpr_Model_dropProperty : Cond.privateMethod ⟨"GraphKeepModel", "dropProperty", "(II)V"⟩ ∈ lw_tbl := hv_memL 777 (by decide +kernel)
theorem ki_Model_dropProperty : Cond.instanceMethod ⟨"GraphKeepModel", "dropProperty", "(II)V"⟩ ∈ hv_Ts := hv_mem 778 (by decide +kernel) rfl
theorem kc_Model_dropProperty : Cond.code ⟨"GraphKeepModel", "dropProperty", "(II)V"⟩ prog_10_method_23_code 5 none ∈ hv_Ts := hv_mem 779 (by decide +kernel) rfl
theorem k_Model_140 : Cond.methodLink "GraphKeepModel" 140 ⟨"GraphKeepModel", "lay", "(IIIJ)V"⟩ ∈ hv_Ts := hv_mem 780 (by decide +kernel) rfl
theorem kpr_Model_lay : Cond.privateMethod ⟨"GraphKeepModel", "lay", "(IIIJ)V"⟩ ∈ lw_tbl := hv_memL 781 (by decide +kernel)
theorem ki_Model_lay : Cond.instanceMethod ⟨"GraphKeepModel", "lay", "(IIIJ)V"⟩ ∈ hv_Ts := hv_mem 782 (by decide +kernel) rfl
theorem kc_Model_lay : Cond.code ⟨"GraphKeepModel", "lay", "(IIIJ)V"⟩ prog_10_method_22_code 7 none ∈ hv_Ts := hv_mem 783 (by decide +kernel) rfl
theorem k_Law_79 : Cond.methodLink "GraphKeepLaw" 79 ⟨"GraphKeepModel", "link", "(III)I"⟩ ∈ hv_Ts := hv_mem 784 (by decide +kernel) rfl
theorem ki_Model_link : Cond.instanceMethod ⟨"GraphKeepModel", "link", "(III)I"⟩ ∈ hv_Ts := hv_mem 785 (by decide +kernel) rfl
theorem ksel_Model_Model_link : Cond.selects "GraphKeepModel" ⟨"GraphKeepModel", "link", "(III)I"⟩ ⟨"GraphKeepModel", "link", "(III)I"⟩ ∈ hv_Ts := hv_mem 786 (by decide +kernel) rfl
theorem kc_Model_link : Cond.code ⟨"GraphKeepModel", "link", "(III)I"⟩ prog_10_method_25_code 7 (some .int) ∈ hv_Ts := hv_mem 787 (by decide +kernel) rfl
theorem k_Law_83 : Cond.methodLink "GraphKeepLaw" 83 ⟨"GraphKeepModel", "take", "(II)V"⟩ ∈ hv_Ts := hv_mem 788 (by decide +kernel) rfl
theorem ki_Model_take : Cond.instanceMethod ⟨"GraphKeepModel", "take", "(II)V"⟩ ∈ hv_Ts := hv_mem 789 (by decide +kernel) rfl
theorem ksel_Model_Model_take : Cond.selects "GraphKeepModel" ⟨"GraphKeepModel", "take", "(II)V"⟩ ⟨"GraphKeepModel", "take", "(II)V"⟩ ∈ hv_Ts := hv_mem 790 (by decide +kernel) rfl
theorem kc_Model_take : Cond.code ⟨"GraphKeepModel", "take", "(II)V"⟩ prog_10_method_26_code 5 none ∈ hv_Ts := hv_mem 791 (by decide +kernel) rfl
theorem k_Model_144 : Cond.methodLink "GraphKeepModel" 144 ⟨"GraphKeepModel", "links", "(IZ)I"⟩ ∈ hv_Ts := hv_mem 792 (by decide +kernel) rfl
theorem kpr_Model_links : Cond.privateMethod ⟨"GraphKeepModel", "links", "(IZ)I"⟩ ∈ lw_tbl := hv_memL 793 (by decide +kernel)
theorem ki_Model_links : Cond.instanceMethod ⟨"GraphKeepModel", "links", "(IZ)I"⟩ ∈ hv_Ts := hv_mem 794 (by decide +kernel) rfl
theorem kc_Model_links : Cond.code ⟨"GraphKeepModel", "links", "(IZ)I"⟩ prog_10_method_9_code 5 (some .int) ∈ hv_Ts := hv_mem 795 (by decide +kernel) rfl
theorem k_Law_87 : Cond.methodLink "GraphKeepLaw" 87 ⟨"GraphKeepModel", "error", "()I"⟩ ∈ hv_Ts := hv_mem 796 (by decide +kernel) rfl
theorem ki_Model_error : Cond.instanceMethod ⟨"GraphKeepModel", "error", "()I"⟩ ∈ hv_Ts := hv_mem 797 (by decide +kernel) rfl
theorem ksel_Model_Model_error : Cond.selects "GraphKeepModel" ⟨"GraphKeepModel", "error", "()I"⟩ ⟨"GraphKeepModel", "error", "()I"⟩ ∈ hv_Ts := hv_mem 798 (by decide +kernel) rfl
theorem kc_Model_error : Cond.code ⟨"GraphKeepModel", "error", "()I"⟩ prog_10_method_27_code 1 (some .int) ∈ hv_Ts := hv_mem 799 (by decide +kernel) rfl
theorem k_Law_90 : Cond.methodLink "GraphKeepLaw" 90 ⟨"GraphKeepModel", "done", "()I"⟩ ∈ hv_Ts := hv_mem 800 (by decide +kernel) rfl
theorem ki_Model_done : Cond.instanceMethod ⟨"GraphKeepModel", "done", "()I"⟩ ∈ hv_Ts := hv_mem 801 (by decide +kernel) rfl
theorem ksel_Model_Model_done : Cond.selects "GraphKeepModel" ⟨"GraphKeepModel", "done", "()I"⟩ ⟨"GraphKeepModel", "done", "()I"⟩ ∈ hv_Ts := hv_mem 802 (by decide +kernel) rfl
theorem kc_Model_done : Cond.code ⟨"GraphKeepModel", "done", "()I"⟩ prog_10_method_28_code 2 (some .int) ∈ hv_Ts := hv_mem 803 (by decide +kernel) rfl
theorem k_Model_75 : Cond.methodLink "GraphKeepModel" 75 ⟨"GraphKeepModel", "settle", "()V"⟩ ∈ hv_Ts := hv_mem 804 (by decide +kernel) rfl
theorem kpr_Model_settle : Cond.privateMethod ⟨"GraphKeepModel", "settle", "()V"⟩ ∈ lw_tbl := hv_memL 805 (by decide +kernel)
theorem ki_Model_settle : Cond.instanceMethod ⟨"GraphKeepModel", "settle", "()V"⟩ ∈ hv_Ts := hv_mem 806 (by decide +kernel) rfl
theorem kc_Model_settle : Cond.code ⟨"GraphKeepModel", "settle", "()V"⟩ prog_10_method_11_code 2 none ∈ hv_Ts := hv_mem 807 (by decide +kernel) rfl
theorem k_Model_148 : Cond.methodLink "GraphKeepModel" 148 ⟨"GraphKeepModel", "fits", "(I)Z"⟩ ∈ hv_Ts := hv_mem 808 (by decide +kernel) rfl
theorem kpr_Model_fits : Cond.privateMethod ⟨"GraphKeepModel", "fits", "(I)Z"⟩ ∈ lw_tbl := hv_memL 809 (by decide +kernel)
theorem ki_Model_fits : Cond.instanceMethod ⟨"GraphKeepModel", "fits", "(I)Z"⟩ ∈ hv_Ts := hv_mem 810 (by decide +kernel) rfl
theorem kc_Model_fits : Cond.code ⟨"GraphKeepModel", "fits", "(I)Z"⟩ prog_10_method_17_code 2 (some .boolean) ∈ hv_Ts := hv_mem 811 (by decide +kernel) rfl
theorem k_Model_152 : Cond.methodLink "GraphKeepModel" 152 ⟨"GraphKeepModel", "back", "()V"⟩ ∈ hv_Ts := hv_mem 812 (by decide +kernel) rfl
theorem kpr_Model_back : Cond.privateMethod ⟨"GraphKeepModel", "back", "()V"⟩ ∈ lw_tbl := hv_memL 813 (by decide +kernel)
theorem ki_Model_back : Cond.instanceMethod ⟨"GraphKeepModel", "back", "()V"⟩ ∈ hv_Ts := hv_mem 814 (by decide +kernel) rfl
theorem kc_Model_back : Cond.code ⟨"GraphKeepModel", "back", "()V"⟩ prog_10_method_14_code 1 none ∈ hv_Ts := hv_mem 815 (by decide +kernel) rfl
theorem k_Model_155 : Cond.methodLink "GraphKeepModel" 155 ⟨"GraphKeepModel", "log", "(I)Z"⟩ ∈ hv_Ts := hv_mem 816 (by decide +kernel) rfl
theorem kpr_Model_log : Cond.privateMethod ⟨"GraphKeepModel", "log", "(I)Z"⟩ ∈ lw_tbl := hv_memL 817 (by decide +kernel)
theorem ki_Model_log : Cond.instanceMethod ⟨"GraphKeepModel", "log", "(I)Z"⟩ ∈ hv_Ts := hv_mem 818 (by decide +kernel) rfl
theorem kc_Model_log : Cond.code ⟨"GraphKeepModel", "log", "(I)Z"⟩ prog_10_method_16_code 3 (some .boolean) ∈ hv_Ts := hv_mem 819 (by decide +kernel) rfl
theorem k_Model_90 : Cond.methodLink "GraphKeepModel" 90 ⟨"GraphKeepModel", "write", "()Z"⟩ ∈ hv_Ts := hv_mem 820 (by decide +kernel) rfl
theorem kpr_Model_write : Cond.privateMethod ⟨"GraphKeepModel", "write", "()Z"⟩ ∈ lw_tbl := hv_memL 821 (by decide +kernel)
theorem ki_Model_write : Cond.instanceMethod ⟨"GraphKeepModel", "write", "()Z"⟩ ∈ hv_Ts := hv_mem 822 (by decide +kernel) rfl
theorem kc_Model_write : Cond.code ⟨"GraphKeepModel", "write", "()Z"⟩ prog_10_method_15_code 1 (some .boolean) ∈ hv_Ts := hv_mem 823 (by decide +kernel) rfl
theorem k_Model_84 : Cond.methodLink "GraphKeepModel" 84 ⟨"GraphKeepModel", "erase", "()V"⟩ ∈ hv_Ts := hv_mem 824 (by decide +kernel) rfl
theorem kpr_Model_erase : Cond.privateMethod ⟨"GraphKeepModel", "erase", "()V"⟩ ∈ lw_tbl := hv_memL 825 (by decide +kernel)
theorem ki_Model_erase : Cond.instanceMethod ⟨"GraphKeepModel", "erase", "()V"⟩ ∈ hv_Ts := hv_mem 826 (by decide +kernel) rfl
theorem kc_Model_erase : Cond.code ⟨"GraphKeepModel", "erase", "()V"⟩ prog_10_method_5_code 2 none ∈ hv_Ts := hv_mem 827 (by decide +kernel) rfl
theorem k_Law_94 : Cond.methodLink "GraphKeepLaw" 94 ⟨"GraphKeepModel", "undo", "()I"⟩ ∈ hv_Ts := hv_mem 828 (by decide +kernel) rfl
theorem ki_Model_undo : Cond.instanceMethod ⟨"GraphKeepModel", "undo", "()I"⟩ ∈ hv_Ts := hv_mem 829 (by decide +kernel) rfl
theorem ksel_Model_Model_undo : Cond.selects "GraphKeepModel" ⟨"GraphKeepModel", "undo", "()I"⟩ ⟨"GraphKeepModel", "undo", "()I"⟩ ∈ hv_Ts := hv_mem 830 (by decide +kernel) rfl
theorem kc_Model_undo : Cond.code ⟨"GraphKeepModel", "undo", "()I"⟩ prog_10_method_29_code 2 (some .int) ∈ hv_Ts := hv_mem 831 (by decide +kernel) rfl
theorem k_Law_99 : Cond.methodLink "GraphKeepLaw" 99 ⟨"GraphKeepModel", "begin", "()Z"⟩ ∈ hv_Ts := hv_mem 832 (by decide +kernel) rfl
theorem ki_Model_begin : Cond.instanceMethod ⟨"GraphKeepModel", "begin", "()Z"⟩ ∈ hv_Ts := hv_mem 833 (by decide +kernel) rfl
theorem ksel_Model_Model_begin : Cond.selects "GraphKeepModel" ⟨"GraphKeepModel", "begin", "()Z"⟩ ⟨"GraphKeepModel", "begin", "()Z"⟩ ∈ hv_Ts := hv_mem 834 (by decide +kernel) rfl
theorem kc_Model_begin : Cond.code ⟨"GraphKeepModel", "begin", "()Z"⟩ prog_10_method_30_code 1 (some .boolean) ∈ hv_Ts := hv_mem 835 (by decide +kernel) rfl
theorem k_Law_102 : Cond.methodLink "GraphKeepLaw" 102 ⟨"GraphKeepModel", "commit", "()I"⟩ ∈ hv_Ts := hv_mem 836 (by decide +kernel) rfl
theorem ki_Model_commit : Cond.instanceMethod ⟨"GraphKeepModel", "commit", "()I"⟩ ∈ hv_Ts := hv_mem 837 (by decide +kernel) rfl
theorem ksel_Model_Model_commit : Cond.selects "GraphKeepModel" ⟨"GraphKeepModel", "commit", "()I"⟩ ⟨"GraphKeepModel", "commit", "()I"⟩ ∈ hv_Ts := hv_mem 838 (by decide +kernel) rfl
theorem kc_Model_commit : Cond.code ⟨"GraphKeepModel", "commit", "()I"⟩ prog_10_method_31_code 2 (some .int) ∈ hv_Ts := hv_mem 839 (by decide +kernel) rfl
theorem k_Law_106 : Cond.methodLink "GraphKeepLaw" 106 ⟨"GraphKeepModel", "rollback", "()Z"⟩ ∈ hv_Ts := hv_mem 840 (by decide +kernel) rfl
theorem ki_Model_rollback : Cond.instanceMethod ⟨"GraphKeepModel", "rollback", "()Z"⟩ ∈ hv_Ts := hv_mem 841 (by decide +kernel) rfl
theorem ksel_Model_Model_rollback : Cond.selects "GraphKeepModel" ⟨"GraphKeepModel", "rollback", "()Z"⟩ ⟨"GraphKeepModel", "rollback", "()Z"⟩ ∈ hv_Ts := hv_mem 842 (by decide +kernel) rfl
theorem kc_Model_rollback : Cond.code ⟨"GraphKeepModel", "rollback", "()Z"⟩ prog_10_method_32_code 1 (some .boolean) ∈ hv_Ts := hv_mem 843 (by decide +kernel) rfl
theorem k_Law_109 : Cond.methodLink "GraphKeepLaw" 109 ⟨"GraphKeepModel", "checkpoint", "()I"⟩ ∈ hv_Ts := hv_mem 844 (by decide +kernel) rfl
theorem ki_Model_checkpoint : Cond.instanceMethod ⟨"GraphKeepModel", "checkpoint", "()I"⟩ ∈ hv_Ts := hv_mem 845 (by decide +kernel) rfl
theorem ksel_Model_Model_checkpoint : Cond.selects "GraphKeepModel" ⟨"GraphKeepModel", "checkpoint", "()I"⟩ ⟨"GraphKeepModel", "checkpoint", "()I"⟩ ∈ hv_Ts := hv_mem 846 (by decide +kernel) rfl
theorem kc_Model_checkpoint : Cond.code ⟨"GraphKeepModel", "checkpoint", "()I"⟩ prog_10_method_34_code 3 (some .int) ∈ hv_Ts := hv_mem 847 (by decide +kernel) rfl
theorem k_Model_158 : Cond.methodLink "GraphKeepModel" 158 ⟨"GraphKeepModel", "count", "(II)I"⟩ ∈ hv_Ts := hv_mem 848 (by decide +kernel) rfl
theorem kpr_Model_count : Cond.privateMethod ⟨"GraphKeepModel", "count", "(II)I"⟩ ∈ lw_tbl := hv_memL 849 (by decide +kernel)
theorem ki_Model_count : Cond.instanceMethod ⟨"GraphKeepModel", "count", "(II)I"⟩ ∈ hv_Ts := hv_mem 850 (by decide +kernel) rfl
theorem kc_Model_count : Cond.code ⟨"GraphKeepModel", "count", "(II)I"⟩ prog_10_method_33_code 5 (some .int) ∈ hv_Ts := hv_mem 851 (by decide +kernel) rfl
theorem k_Law_114 : Cond.methodLink "GraphKeepLaw" 114 ⟨"GraphKeepModel", "cut", "(I)Z"⟩ ∈ hv_Ts := hv_mem 852 (by decide +kernel) rfl
theorem ki_Model_cut : Cond.instanceMethod ⟨"GraphKeepModel", "cut", "(I)Z"⟩ ∈ hv_Ts := hv_mem 853 (by decide +kernel) rfl
theorem ksel_Model_Model_cut : Cond.selects "GraphKeepModel" ⟨"GraphKeepModel", "cut", "(I)Z"⟩ ⟨"GraphKeepModel", "cut", "(I)Z"⟩ ∈ hv_Ts := hv_mem 854 (by decide +kernel) rfl
theorem kc_Model_cut : Cond.code ⟨"GraphKeepModel", "cut", "(I)Z"⟩ prog_10_method_35_code 2 (some .boolean) ∈ hv_Ts := hv_mem 855 (by decide +kernel) rfl
theorem k_Law_118 : Cond.methodLink "GraphKeepLaw" 118 ⟨"GraphKeepModel", "recover", "()I"⟩ ∈ hv_Ts := hv_mem 856 (by decide +kernel) rfl
theorem ki_Model_recover : Cond.instanceMethod ⟨"GraphKeepModel", "recover", "()I"⟩ ∈ hv_Ts := hv_mem 857 (by decide +kernel) rfl
theorem ksel_Model_Model_recover : Cond.selects "GraphKeepModel" ⟨"GraphKeepModel", "recover", "()I"⟩ ⟨"GraphKeepModel", "recover", "()I"⟩ ∈ hv_Ts := hv_mem 858 (by decide +kernel) rfl
theorem kc_Model_recover : Cond.code ⟨"GraphKeepModel", "recover", "()I"⟩ prog_10_method_36_code 1 (some .int) ∈ hv_Ts := hv_mem 859 (by decide +kernel) rfl
theorem k_Law_122 : Cond.methodLink "GraphKeepLaw" 122 ⟨"GraphKeepModel", "thing", "(III)I"⟩ ∈ hv_Ts := hv_mem 860 (by decide +kernel) rfl
theorem ki_Model_thing : Cond.instanceMethod ⟨"GraphKeepModel", "thing", "(III)I"⟩ ∈ hv_Ts := hv_mem 861 (by decide +kernel) rfl
theorem ksel_Model_Model_thing : Cond.selects "GraphKeepModel" ⟨"GraphKeepModel", "thing", "(III)I"⟩ ⟨"GraphKeepModel", "thing", "(III)I"⟩ ∈ hv_Ts := hv_mem 862 (by decide +kernel) rfl
theorem kc_Model_thing : Cond.code ⟨"GraphKeepModel", "thing", "(III)I"⟩ prog_10_method_37_code 5 (some .int) ∈ hv_Ts := hv_mem 863 (by decide +kernel) rfl
theorem k_Law_127 : Cond.methodLink "GraphKeepLaw" 127 ⟨"GraphKeepModel", "chain", "(IZI)I"⟩ ∈ hv_Ts := hv_mem 864 (by decide +kernel) rfl
theorem ki_Model_chain : Cond.instanceMethod ⟨"GraphKeepModel", "chain", "(IZI)I"⟩ ∈ hv_Ts := hv_mem 865 (by decide +kernel) rfl
theorem ksel_Model_Model_chain : Cond.selects "GraphKeepModel" ⟨"GraphKeepModel", "chain", "(IZI)I"⟩ ⟨"GraphKeepModel", "chain", "(IZI)I"⟩ ∈ hv_Ts := hv_mem 866 (by decide +kernel) rfl
theorem kc_Model_chain : Cond.code ⟨"GraphKeepModel", "chain", "(IZI)I"⟩ prog_10_method_38_code 6 (some .int) ∈ hv_Ts := hv_mem 867 (by decide +kernel) rfl
theorem k_Law_132 : Cond.methodLink "GraphKeepLaw" 132 ⟨"GraphKeepModel", "has", "(II)Z"⟩ ∈ hv_Ts := hv_mem 868 (by decide +kernel) rfl
theorem ki_Model_has : Cond.instanceMethod ⟨"GraphKeepModel", "has", "(II)Z"⟩ ∈ hv_Ts := hv_mem 869 (by decide +kernel) rfl
theorem ksel_Model_Model_has : Cond.selects "GraphKeepModel" ⟨"GraphKeepModel", "has", "(II)Z"⟩ ⟨"GraphKeepModel", "has", "(II)Z"⟩ ∈ hv_Ts := hv_mem 870 (by decide +kernel) rfl
theorem kc_Model_has : Cond.code ⟨"GraphKeepModel", "has", "(II)Z"⟩ prog_10_method_39_code 4 (some .boolean) ∈ hv_Ts := hv_mem 871 (by decide +kernel) rfl
theorem k_Law_136 : Cond.methodLink "GraphKeepLaw" 136 ⟨"GraphKeepModel", "value", "(IIII)J"⟩ ∈ hv_Ts := hv_mem 872 (by decide +kernel) rfl
theorem ki_Model_value : Cond.instanceMethod ⟨"GraphKeepModel", "value", "(IIII)J"⟩ ∈ hv_Ts := hv_mem 873 (by decide +kernel) rfl
theorem ksel_Model_Model_value : Cond.selects "GraphKeepModel" ⟨"GraphKeepModel", "value", "(IIII)J"⟩ ⟨"GraphKeepModel", "value", "(IIII)J"⟩ ∈ hv_Ts := hv_mem 874 (by decide +kernel) rfl
theorem kc_Model_value : Cond.code ⟨"GraphKeepModel", "value", "(IIII)J"⟩ prog_10_method_40_code 9 (some .long) ∈ hv_Ts := hv_mem 875 (by decide +kernel) rfl
theorem k_Law_141 : Cond.methodLink "GraphKeepLaw" 141 ⟨"GraphKeepModel", "state", "(I)I"⟩ ∈ hv_Ts := hv_mem 876 (by decide +kernel) rfl
theorem ki_Model_state : Cond.instanceMethod ⟨"GraphKeepModel", "state", "(I)I"⟩ ∈ hv_Ts := hv_mem 877 (by decide +kernel) rfl
theorem ksel_Model_Model_state : Cond.selects "GraphKeepModel" ⟨"GraphKeepModel", "state", "(I)I"⟩ ⟨"GraphKeepModel", "state", "(I)I"⟩ ∈ hv_Ts := hv_mem 878 (by decide +kernel) rfl
theorem kc_Model_state : Cond.code ⟨"GraphKeepModel", "state", "(I)I"⟩ prog_10_method_41_code 2 (some .int) ∈ hv_Ts := hv_mem 879 (by decide +kernel) rfl
theorem k_Law_52 : Cond.constantLong "GraphKeepLaw" 52 4294967295 ∈ hv_Ts := hv_mem 880 (by decide +kernel) rfl
theorem kcast_Nd_Nd : Cond.castable "GraphKeep$Node" "GraphKeep$Node" ∈ lw_tbl := hv_memL 883 (by decide +kernel)
theorem kcast_Lk_Lk : Cond.castable "GraphKeep$Link" "GraphKeep$Link" ∈ lw_tbl := hv_memL 884 (by decide +kernel)
theorem ksel_GK_GK_undoStatement : Cond.selects "GraphKeep" ⟨"GraphKeep", "undoStatement", "()V"⟩ ⟨"GraphKeep", "undoStatement", "()V"⟩ ∈ hv_Ts := hv_memP (q := (⟨"GraphKeep", "undoStatement", "()V"⟩, 12)) 0 (by decide +kernel)
theorem ksel_GK_GK_startStatement : Cond.selects "GraphKeep" ⟨"GraphKeep", "startStatement", "()V"⟩ ⟨"GraphKeep", "startStatement", "()V"⟩ ∈ hv_Ts := hv_memP (q := (⟨"GraphKeep", "startStatement", "()V"⟩, 12)) 1 (by decide +kernel)
theorem ksel_GK_GK_restoreKept : Cond.selects "GraphKeep" ⟨"GraphKeep", "restoreKept", "()V"⟩ ⟨"GraphKeep", "restoreKept", "()V"⟩ ∈ hv_Ts := hv_memP (q := (⟨"GraphKeep", "restoreKept", "()V"⟩, 12)) 2 (by decide +kernel)
theorem ksel_GK_GK_forgetUnderWay : Cond.selects "GraphKeep" ⟨"GraphKeep", "forgetUnderWay", "()V"⟩ ⟨"GraphKeep", "forgetUnderWay", "()V"⟩ ∈ hv_Ts := hv_memP (q := (⟨"GraphKeep", "forgetUnderWay", "()V"⟩, 12)) 3 (by decide +kernel)
theorem ksel_GK_GK_nodeFact : Cond.selects "GraphKeep" ⟨"GraphKeep", "nodeFact", "(LGraphKeep$Node;II)I"⟩ ⟨"GraphKeep", "nodeFact", "(LGraphKeep$Node;II)I"⟩ ∈ hv_Ts := hv_memP (q := (⟨"GraphKeep", "nodeFact", "(LGraphKeep$Node;II)I"⟩, 12)) 4 (by decide +kernel)
theorem ksel_Gr_Gr_isInChain : Cond.selects "GraphKeep$Graph" ⟨"GraphKeep$Graph", "isInChain", "(IIZ)Z"⟩ ⟨"GraphKeep$Graph", "isInChain", "(IIZ)Z"⟩ ∈ hv_Ts := hv_memP (q := (⟨"GraphKeep$Graph", "isInChain", "(IIZ)Z"⟩, 2)) 5 (by decide +kernel)
theorem ksel_Nd_Nd_placeOfLabel : Cond.selects "GraphKeep$Node" ⟨"GraphKeep$Node", "placeOfLabel", "(I)I"⟩ ⟨"GraphKeep$Node", "placeOfLabel", "(I)I"⟩ ∈ hv_Ts := hv_memP (q := (⟨"GraphKeep$Node", "placeOfLabel", "(I)I"⟩, 2)) 6 (by decide +kernel)
theorem ksel_GK_GK_mustBeOn : Cond.selects "GraphKeep" ⟨"GraphKeep", "mustBeOn", "()V"⟩ ⟨"GraphKeep", "mustBeOn", "()V"⟩ ∈ hv_Ts := hv_memP (q := (⟨"GraphKeep", "mustBeOn", "()V"⟩, 12)) 7 (by decide +kernel)
theorem ksel_GK_GK_freeNumber : Cond.selects "GraphKeep" ⟨"GraphKeep", "freeNumber", "(I[Z)I"⟩ ⟨"GraphKeep", "freeNumber", "(I[Z)I"⟩ ∈ hv_Ts := hv_memP (q := (⟨"GraphKeep", "freeNumber", "(I[Z)I"⟩, 12)) 9 (by decide +kernel)
theorem ksel_GK_GK_mustBeLess : Cond.selects "GraphKeep" ⟨"GraphKeep", "mustBeLess", "(II)V"⟩ ⟨"GraphKeep", "mustBeLess", "(II)V"⟩ ∈ hv_Ts := hv_memP (q := (⟨"GraphKeep", "mustBeLess", "(II)V"⟩, 12)) 10 (by decide +kernel)
theorem ksel_GK_GK_refuse : Cond.selects "GraphKeep" ⟨"GraphKeep", "refuse", "(I)V"⟩ ⟨"GraphKeep", "refuse", "(I)V"⟩ ∈ hv_Ts := hv_memP (q := (⟨"GraphKeep", "refuse", "(I)V"⟩, 12)) 11 (by decide +kernel)
theorem ksel_GK_GK_countChange : Cond.selects "GraphKeep" ⟨"GraphKeep", "countChange", "()V"⟩ ⟨"GraphKeep", "countChange", "()V"⟩ ∈ hv_Ts := hv_memP (q := (⟨"GraphKeep", "countChange", "()V"⟩, 12)) 12 (by decide +kernel)
theorem ksel_GK_GK_wantedNode : Cond.selects "GraphKeep" ⟨"GraphKeep", "wantedNode", "(I)LGraphKeep$Node;"⟩ ⟨"GraphKeep", "wantedNode", "(I)LGraphKeep$Node;"⟩ ∈ hv_Ts := hv_memP (q := (⟨"GraphKeep", "wantedNode", "(I)LGraphKeep$Node;"⟩, 12)) 13 (by decide +kernel)
theorem ksel_GK_GK_wantedThing : Cond.selects "GraphKeep" ⟨"GraphKeep", "wantedThing", "(II)LGraphKeep$Thing;"⟩ ⟨"GraphKeep", "wantedThing", "(II)LGraphKeep$Thing;"⟩ ∈ hv_Ts := hv_memP (q := (⟨"GraphKeep", "wantedThing", "(II)LGraphKeep$Thing;"⟩, 12)) 14 (by decide +kernel)
theorem ksel_GK_GK_mustBeValue : Cond.selects "GraphKeep" ⟨"GraphKeep", "mustBeValue", "(IJ)V"⟩ ⟨"GraphKeep", "mustBeValue", "(IJ)V"⟩ ∈ hv_Ts := hv_memP (q := (⟨"GraphKeep", "mustBeValue", "(IJ)V"⟩, 12)) 15 (by decide +kernel)
theorem ksel_GK_GK_dropProperty : Cond.selects "GraphKeep" ⟨"GraphKeep", "dropProperty", "(LGraphKeep$Thing;II)Z"⟩ ⟨"GraphKeep", "dropProperty", "(LGraphKeep$Thing;II)Z"⟩ ∈ hv_Ts := hv_memP (q := (⟨"GraphKeep", "dropProperty", "(LGraphKeep$Thing;II)Z"⟩, 12)) 16 (by decide +kernel)
theorem ksel_GK_GK_putProperty : Cond.selects "GraphKeep" ⟨"GraphKeep", "putProperty", "(LGraphKeep$Thing;ILGraphKeep$Property;)Z"⟩ ⟨"GraphKeep", "putProperty", "(LGraphKeep$Thing;ILGraphKeep$Property;)Z"⟩ ∈ hv_Ts := hv_memP (q := (⟨"GraphKeep", "putProperty", "(LGraphKeep$Thing;ILGraphKeep$Property;)Z"⟩, 12)) 17 (by decide +kernel)
theorem ksel_GK_GK_takeNode : Cond.selects "GraphKeep" ⟨"GraphKeep", "takeNode", "(I)V"⟩ ⟨"GraphKeep", "takeNode", "(I)V"⟩ ∈ hv_Ts := hv_memP (q := (⟨"GraphKeep", "takeNode", "(I)V"⟩, 12)) 18 (by decide +kernel)
theorem ksel_GK_GK_takeLink : Cond.selects "GraphKeep" ⟨"GraphKeep", "takeLink", "(I)V"⟩ ⟨"GraphKeep", "takeLink", "(I)V"⟩ ∈ hv_Ts := hv_memP (q := (⟨"GraphKeep", "takeLink", "(I)V"⟩, 12)) 19 (by decide +kernel)
theorem ksel_GK_GK_keep : Cond.selects "GraphKeep" ⟨"GraphKeep", "keep", "(I)V"⟩ ⟨"GraphKeep", "keep", "(I)V"⟩ ∈ hv_Ts := hv_memP (q := (⟨"GraphKeep", "keep", "(I)V"⟩, 12)) 20 (by decide +kernel)
theorem ksel_Lg_Lg_write : Cond.selects "GraphKeep$Log" ⟨"GraphKeep$Log", "write", "(I)I"⟩ ⟨"GraphKeep$Log", "write", "(I)I"⟩ ∈ hv_Ts := hv_memP (q := (⟨"GraphKeep$Log", "write", "(I)I"⟩, 5)) 21 (by decide +kernel)
theorem ksel_GK_GK_goOff : Cond.selects "GraphKeep" ⟨"GraphKeep", "goOff", "()V"⟩ ⟨"GraphKeep", "goOff", "()V"⟩ ∈ hv_Ts := hv_memP (q := (⟨"GraphKeep", "goOff", "()V"⟩, 12)) 22 (by decide +kernel)
theorem ksel_GK_GK_closeStatement : Cond.selects "GraphKeep" ⟨"GraphKeep", "closeStatement", "()V"⟩ ⟨"GraphKeep", "closeStatement", "()V"⟩ ∈ hv_Ts := hv_memP (q := (⟨"GraphKeep", "closeStatement", "()V"⟩, 12)) 23 (by decide +kernel)
theorem ksel_Model_Model_free : Cond.selects "GraphKeepModel" ⟨"GraphKeepModel", "free", "(II)I"⟩ ⟨"GraphKeepModel", "free", "(II)I"⟩ ∈ hv_Ts := hv_memP (q := (⟨"GraphKeepModel", "free", "(II)I"⟩, 25)) 24 (by decide +kernel)
theorem ksel_Model_Model_fails : Cond.selects "GraphKeepModel" ⟨"GraphKeepModel", "fails", "(ZZZZZ)Z"⟩ ⟨"GraphKeepModel", "fails", "(ZZZZZ)Z"⟩ ∈ hv_Ts := hv_memP (q := (⟨"GraphKeepModel", "fails", "(ZZZZZ)Z"⟩, 25)) 25 (by decide +kernel)
theorem ksel_Model_Model_begins : Cond.selects "GraphKeepModel" ⟨"GraphKeepModel", "begins", "()V"⟩ ⟨"GraphKeepModel", "begins", "()V"⟩ ∈ hv_Ts := hv_memP (q := (⟨"GraphKeepModel", "begins", "()V"⟩, 25)) 26 (by decide +kernel)
theorem ksel_Model_Model_copy : Cond.selects "GraphKeepModel" ⟨"GraphKeepModel", "copy", "(II)V"⟩ ⟨"GraphKeepModel", "copy", "(II)V"⟩ ∈ hv_Ts := hv_memP (q := (⟨"GraphKeepModel", "copy", "(II)V"⟩, 25)) 27 (by decide +kernel)
theorem ksel_Model_Model_copyThing : Cond.selects "GraphKeepModel" ⟨"GraphKeepModel", "copyThing", "(II)V"⟩ ⟨"GraphKeepModel", "copyThing", "(II)V"⟩ ∈ hv_Ts := hv_memP (q := (⟨"GraphKeepModel", "copyThing", "(II)V"⟩, 25)) 28 (by decide +kernel)
theorem ksel_Model_Model_find : Cond.selects "GraphKeepModel" ⟨"GraphKeepModel", "find", "(II)I"⟩ ⟨"GraphKeepModel", "find", "(II)I"⟩ ∈ hv_Ts := hv_memP (q := (⟨"GraphKeepModel", "find", "(II)I"⟩, 25)) 29 (by decide +kernel)
theorem ksel_Model_Model_isLabeled : Cond.selects "GraphKeepModel" ⟨"GraphKeepModel", "isLabeled", "(II)Z"⟩ ⟨"GraphKeepModel", "isLabeled", "(II)Z"⟩ ∈ hv_Ts := hv_memP (q := (⟨"GraphKeepModel", "isLabeled", "(II)Z"⟩, 25)) 30 (by decide +kernel)
theorem ksel_Model_Model_propertyOf : Cond.selects "GraphKeepModel" ⟨"GraphKeepModel", "propertyOf", "(II)I"⟩ ⟨"GraphKeepModel", "propertyOf", "(II)I"⟩ ∈ hv_Ts := hv_memP (q := (⟨"GraphKeepModel", "propertyOf", "(II)I"⟩, 25)) 31 (by decide +kernel)
theorem ksel_Model_Model_isSame : Cond.selects "GraphKeepModel" ⟨"GraphKeepModel", "isSame", "(IIJ)Z"⟩ ⟨"GraphKeepModel", "isSame", "(IIJ)Z"⟩ ∈ hv_Ts := hv_memP (q := (⟨"GraphKeepModel", "isSame", "(IIJ)Z"⟩, 25)) 32 (by decide +kernel)
theorem ksel_Model_Model_dropProperty : Cond.selects "GraphKeepModel" ⟨"GraphKeepModel", "dropProperty", "(II)V"⟩ ⟨"GraphKeepModel", "dropProperty", "(II)V"⟩ ∈ hv_Ts := hv_memP (q := (⟨"GraphKeepModel", "dropProperty", "(II)V"⟩, 25)) 33 (by decide +kernel)
theorem ksel_Model_Model_lay : Cond.selects "GraphKeepModel" ⟨"GraphKeepModel", "lay", "(IIIJ)V"⟩ ⟨"GraphKeepModel", "lay", "(IIIJ)V"⟩ ∈ hv_Ts := hv_memP (q := (⟨"GraphKeepModel", "lay", "(IIIJ)V"⟩, 25)) 34 (by decide +kernel)
theorem ksel_Model_Model_links : Cond.selects "GraphKeepModel" ⟨"GraphKeepModel", "links", "(IZ)I"⟩ ⟨"GraphKeepModel", "links", "(IZ)I"⟩ ∈ hv_Ts := hv_memP (q := (⟨"GraphKeepModel", "links", "(IZ)I"⟩, 25)) 35 (by decide +kernel)
theorem ksel_Model_Model_settle : Cond.selects "GraphKeepModel" ⟨"GraphKeepModel", "settle", "()V"⟩ ⟨"GraphKeepModel", "settle", "()V"⟩ ∈ hv_Ts := hv_memP (q := (⟨"GraphKeepModel", "settle", "()V"⟩, 25)) 36 (by decide +kernel)
theorem ksel_Model_Model_fits : Cond.selects "GraphKeepModel" ⟨"GraphKeepModel", "fits", "(I)Z"⟩ ⟨"GraphKeepModel", "fits", "(I)Z"⟩ ∈ hv_Ts := hv_memP (q := (⟨"GraphKeepModel", "fits", "(I)Z"⟩, 25)) 37 (by decide +kernel)
theorem ksel_Model_Model_back : Cond.selects "GraphKeepModel" ⟨"GraphKeepModel", "back", "()V"⟩ ⟨"GraphKeepModel", "back", "()V"⟩ ∈ hv_Ts := hv_memP (q := (⟨"GraphKeepModel", "back", "()V"⟩, 25)) 38 (by decide +kernel)
theorem ksel_Model_Model_log : Cond.selects "GraphKeepModel" ⟨"GraphKeepModel", "log", "(I)Z"⟩ ⟨"GraphKeepModel", "log", "(I)Z"⟩ ∈ hv_Ts := hv_memP (q := (⟨"GraphKeepModel", "log", "(I)Z"⟩, 25)) 39 (by decide +kernel)
theorem ksel_Model_Model_write : Cond.selects "GraphKeepModel" ⟨"GraphKeepModel", "write", "()Z"⟩ ⟨"GraphKeepModel", "write", "()Z"⟩ ∈ hv_Ts := hv_memP (q := (⟨"GraphKeepModel", "write", "()Z"⟩, 25)) 40 (by decide +kernel)
theorem ksel_Model_Model_erase : Cond.selects "GraphKeepModel" ⟨"GraphKeepModel", "erase", "()V"⟩ ⟨"GraphKeepModel", "erase", "()V"⟩ ∈ hv_Ts := hv_memP (q := (⟨"GraphKeepModel", "erase", "()V"⟩, 25)) 41 (by decide +kernel)
theorem ksel_Model_Model_count : Cond.selects "GraphKeepModel" ⟨"GraphKeepModel", "count", "(II)I"⟩ ⟨"GraphKeepModel", "count", "(II)I"⟩ ∈ hv_Ts := hv_memP (q := (⟨"GraphKeepModel", "count", "(II)I"⟩, 25)) 42 (by decide +kernel)
theorem kl_GK_0 : u_lay R_GK F_GK 0 ∈ hv_Ts := hv_mem 93 (by decide +kernel) rfl
theorem kl_GK_1 : u_lay R_GK F_GK 1 ∈ hv_Ts := hv_mem 95 (by decide +kernel) rfl
theorem kl_GK_2 : u_lay R_GK F_GK 2 ∈ hv_Ts := hv_mem 97 (by decide +kernel) rfl
theorem kl_GK_3 : u_lay R_GK F_GK 3 ∈ hv_Ts := hv_mem 99 (by decide +kernel) rfl
theorem kl_GK_4 : u_lay R_GK F_GK 4 ∈ hv_Ts := hv_mem 101 (by decide +kernel) rfl
theorem kl_GK_5 : u_lay R_GK F_GK 5 ∈ hv_Ts := hv_mem 103 (by decide +kernel) rfl
theorem kl_GK_6 : u_lay R_GK F_GK 6 ∈ hv_Ts := hv_mem 105 (by decide +kernel) rfl
theorem kl_GK_7 : u_lay R_GK F_GK 7 ∈ hv_Ts := hv_mem 107 (by decide +kernel) rfl
theorem kl_GK_8 : u_lay R_GK F_GK 8 ∈ hv_Ts := hv_mem 109 (by decide +kernel) rfl
theorem kl_GK_9 : u_lay R_GK F_GK 9 ∈ hv_Ts := hv_mem 111 (by decide +kernel) rfl
theorem kl_GK_10 : u_lay R_GK F_GK 10 ∈ hv_Ts := hv_mem 113 (by decide +kernel) rfl
theorem kl_GK_11 : u_lay R_GK F_GK 11 ∈ hv_Ts := hv_mem 115 (by decide +kernel) rfl
theorem i_GK : ∀ w ∈ u_ws R_GK F_GK 12, w ∈ hv_Ts := fun w hw => by
  obtain ⟨k, hk, rfl⟩ := List.mem_map.mp hw
  have hk := List.mem_range.mp hk
  rcases (show k = 0 ∨ k = 1 ∨ k = 2 ∨ k = 3 ∨ k = 4 ∨ k = 5 ∨ k = 6 ∨ k = 7 ∨ k = 8 ∨ k = 9 ∨ k = 10 ∨ k = 11 by omega) with rfl | rfl | rfl | rfl | rfl | rfl | rfl | rfl | rfl | rfl | rfl | rfl
  · exact kl_GK_0
  · exact kl_GK_1
  · exact kl_GK_2
  · exact kl_GK_3
  · exact kl_GK_4
  · exact kl_GK_5
  · exact kl_GK_6
  · exact kl_GK_7
  · exact kl_GK_8
  · exact kl_GK_9
  · exact kl_GK_10
  · exact kl_GK_11
theorem kl_Gr_0 : u_lay R_Gr F_Gr 0 ∈ hv_Ts := hv_mem 37 (by decide +kernel) rfl
theorem kl_Gr_1 : u_lay R_Gr F_Gr 1 ∈ hv_Ts := hv_mem 39 (by decide +kernel) rfl
theorem i_Gr : ∀ w ∈ u_ws R_Gr F_Gr 2, w ∈ hv_Ts := fun w hw => by
  obtain ⟨k, hk, rfl⟩ := List.mem_map.mp hw
  have hk := List.mem_range.mp hk
  rcases (show k = 0 ∨ k = 1 by omega) with rfl | rfl
  · exact kl_Gr_0
  · exact kl_Gr_1
theorem kl_Lg_0 : u_lay R_Lg F_Lg 0 ∈ hv_Ts := hv_mem 56 (by decide +kernel) rfl
theorem kl_Lg_1 : u_lay R_Lg F_Lg 1 ∈ hv_Ts := hv_mem 58 (by decide +kernel) rfl
theorem kl_Lg_2 : u_lay R_Lg F_Lg 2 ∈ hv_Ts := hv_mem 60 (by decide +kernel) rfl
theorem kl_Lg_3 : u_lay R_Lg F_Lg 3 ∈ hv_Ts := hv_mem 62 (by decide +kernel) rfl
theorem kl_Lg_4 : u_lay R_Lg F_Lg 4 ∈ hv_Ts := hv_mem 64 (by decide +kernel) rfl
theorem i_Lg : ∀ w ∈ u_ws R_Lg F_Lg 5, w ∈ hv_Ts := fun w hw => by
  obtain ⟨k, hk, rfl⟩ := List.mem_map.mp hw
  have hk := List.mem_range.mp hk
  rcases (show k = 0 ∨ k = 1 ∨ k = 2 ∨ k = 3 ∨ k = 4 by omega) with rfl | rfl | rfl | rfl | rfl
  · exact kl_Lg_0
  · exact kl_Lg_1
  · exact kl_Lg_2
  · exact kl_Lg_3
  · exact kl_Lg_4
theorem kl_Tp_0 : u_lay R_Tp F_Tp 0 ∈ hv_Ts := hv_mem 75 (by decide +kernel) rfl
theorem kl_Tp_1 : u_lay R_Tp F_Tp 1 ∈ hv_Ts := hv_mem 77 (by decide +kernel) rfl
theorem i_Tp : ∀ w ∈ u_ws R_Tp F_Tp 2, w ∈ hv_Ts := fun w hw => by
  obtain ⟨k, hk, rfl⟩ := List.mem_map.mp hw
  have hk := List.mem_range.mp hk
  rcases (show k = 0 ∨ k = 1 by omega) with rfl | rfl
  · exact kl_Tp_0
  · exact kl_Tp_1
theorem kl_Pr_0 : u_lay R_Pr F_Pr 0 ∈ hv_Ts := hv_mem 496 (by decide +kernel) rfl
theorem kl_Pr_1 : u_lay R_Pr F_Pr 1 ∈ hv_Ts := hv_mem 498 (by decide +kernel) rfl
theorem kl_Pr_2 : u_lay R_Pr F_Pr 2 ∈ hv_Ts := hv_mem 500 (by decide +kernel) rfl
theorem kl_Pr_3 : u_lay R_Pr F_Pr 3 ∈ hv_Ts := hv_mem 502 (by decide +kernel) rfl
theorem i_Pr : ∀ w ∈ u_ws R_Pr F_Pr 4, w ∈ hv_Ts := fun w hw => by
  obtain ⟨k, hk, rfl⟩ := List.mem_map.mp hw
  have hk := List.mem_range.mp hk
  rcases (show k = 0 ∨ k = 1 ∨ k = 2 ∨ k = 3 by omega) with rfl | rfl | rfl | rfl
  · exact kl_Pr_0
  · exact kl_Pr_1
  · exact kl_Pr_2
  · exact kl_Pr_3
theorem kl_Nd_0 : u_lay R_Nd F_Nd 0 ∈ hv_Ts := hv_mem 379 (by decide +kernel) rfl
theorem kl_Nd_1 : u_lay R_Nd F_Nd 1 ∈ hv_Ts := hv_mem 377 (by decide +kernel) rfl
theorem i_Nd : ∀ w ∈ u_ws R_Nd F_Nd 2, w ∈ hv_Ts := fun w hw => by
  obtain ⟨k, hk, rfl⟩ := List.mem_map.mp hw
  have hk := List.mem_range.mp hk
  rcases (show k = 0 ∨ k = 1 by omega) with rfl | rfl
  · exact kl_Nd_0
  · exact kl_Nd_1
theorem kl_Lk_0 : u_lay R_Lk F_Lk 0 ∈ hv_Ts := hv_mem 472 (by decide +kernel) rfl
theorem kl_Lk_1 : u_lay R_Lk F_Lk 1 ∈ hv_Ts := hv_mem 466 (by decide +kernel) rfl
theorem kl_Lk_2 : u_lay R_Lk F_Lk 2 ∈ hv_Ts := hv_mem 468 (by decide +kernel) rfl
theorem kl_Lk_3 : u_lay R_Lk F_Lk 3 ∈ hv_Ts := hv_mem 470 (by decide +kernel) rfl
theorem i_Lk : ∀ w ∈ u_ws R_Lk F_Lk 4, w ∈ hv_Ts := fun w hw => by
  obtain ⟨k, hk, rfl⟩ := List.mem_map.mp hw
  have hk := List.mem_range.mp hk
  rcases (show k = 0 ∨ k = 1 ∨ k = 2 ∨ k = 3 by omega) with rfl | rfl | rfl | rfl
  · exact kl_Lk_0
  · exact kl_Lk_1
  · exact kl_Lk_2
  · exact kl_Lk_3
theorem kl_Model_0 : u_lay R_Model F_Model 0 ∈ hv_Ts := hv_mem 665 (by decide +kernel) rfl
theorem kl_Model_1 : u_lay R_Model F_Model 1 ∈ hv_Ts := hv_mem 667 (by decide +kernel) rfl
theorem kl_Model_2 : u_lay R_Model F_Model 2 ∈ hv_Ts := hv_mem 669 (by decide +kernel) rfl
theorem kl_Model_3 : u_lay R_Model F_Model 3 ∈ hv_Ts := hv_mem 671 (by decide +kernel) rfl
theorem kl_Model_4 : u_lay R_Model F_Model 4 ∈ hv_Ts := hv_mem 673 (by decide +kernel) rfl
theorem kl_Model_5 : u_lay R_Model F_Model 5 ∈ hv_Ts := hv_mem 675 (by decide +kernel) rfl
theorem kl_Model_6 : u_lay R_Model F_Model 6 ∈ hv_Ts := hv_mem 677 (by decide +kernel) rfl
theorem kl_Model_7 : u_lay R_Model F_Model 7 ∈ hv_Ts := hv_mem 679 (by decide +kernel) rfl
theorem kl_Model_8 : u_lay R_Model F_Model 8 ∈ hv_Ts := hv_mem 681 (by decide +kernel) rfl
theorem kl_Model_9 : u_lay R_Model F_Model 9 ∈ hv_Ts := hv_mem 683 (by decide +kernel) rfl
theorem kl_Model_10 : u_lay R_Model F_Model 10 ∈ hv_Ts := hv_mem 685 (by decide +kernel) rfl
theorem kl_Model_11 : u_lay R_Model F_Model 11 ∈ hv_Ts := hv_mem 687 (by decide +kernel) rfl
theorem kl_Model_12 : u_lay R_Model F_Model 12 ∈ hv_Ts := hv_mem 689 (by decide +kernel) rfl
theorem kl_Model_13 : u_lay R_Model F_Model 13 ∈ hv_Ts := hv_mem 691 (by decide +kernel) rfl
theorem kl_Model_14 : u_lay R_Model F_Model 14 ∈ hv_Ts := hv_mem 693 (by decide +kernel) rfl
theorem kl_Model_15 : u_lay R_Model F_Model 15 ∈ hv_Ts := hv_mem 695 (by decide +kernel) rfl
theorem kl_Model_16 : u_lay R_Model F_Model 16 ∈ hv_Ts := hv_mem 697 (by decide +kernel) rfl
theorem kl_Model_17 : u_lay R_Model F_Model 17 ∈ hv_Ts := hv_mem 699 (by decide +kernel) rfl
theorem kl_Model_18 : u_lay R_Model F_Model 18 ∈ hv_Ts := hv_mem 701 (by decide +kernel) rfl
theorem kl_Model_19 : u_lay R_Model F_Model 19 ∈ hv_Ts := hv_mem 703 (by decide +kernel) rfl
theorem kl_Model_20 : u_lay R_Model F_Model 20 ∈ hv_Ts := hv_mem 705 (by decide +kernel) rfl
theorem kl_Model_21 : u_lay R_Model F_Model 21 ∈ hv_Ts := hv_mem 707 (by decide +kernel) rfl
theorem kl_Model_22 : u_lay R_Model F_Model 22 ∈ hv_Ts := hv_mem 709 (by decide +kernel) rfl
theorem kl_Model_23 : u_lay R_Model F_Model 23 ∈ hv_Ts := hv_mem 711 (by decide +kernel) rfl
theorem kl_Model_24 : u_lay R_Model F_Model 24 ∈ hv_Ts := hv_mem 713 (by decide +kernel) rfl
theorem i_Model : ∀ w ∈ u_ws R_Model F_Model 25, w ∈ hv_Ts := fun w hw => by
  obtain ⟨k, hk, rfl⟩ := List.mem_map.mp hw
  have hk := List.mem_range.mp hk
  rcases (show k = 0 ∨ k = 1 ∨ k = 2 ∨ k = 3 ∨ k = 4 ∨ k = 5 ∨ k = 6 ∨ k = 7 ∨ k = 8 ∨ k = 9 ∨ k = 10 ∨ k = 11 ∨ k = 12 ∨ k = 13 ∨ k = 14 ∨ k = 15 ∨ k = 16 ∨ k = 17 ∨ k = 18 ∨ k = 19 ∨ k = 20 ∨ k = 21 ∨ k = 22 ∨ k = 23 ∨ k = 24 by omega) with rfl | rfl | rfl | rfl | rfl | rfl | rfl | rfl | rfl | rfl | rfl | rfl | rfl | rfl | rfl | rfl | rfl | rfl | rfl | rfl | rfl | rfl | rfl | rfl | rfl
  · exact kl_Model_0
  · exact kl_Model_1
  · exact kl_Model_2
  · exact kl_Model_3
  · exact kl_Model_4
  · exact kl_Model_5
  · exact kl_Model_6
  · exact kl_Model_7
  · exact kl_Model_8
  · exact kl_Model_9
  · exact kl_Model_10
  · exact kl_Model_11
  · exact kl_Model_12
  · exact kl_Model_13
  · exact kl_Model_14
  · exact kl_Model_15
  · exact kl_Model_16
  · exact kl_Model_17
  · exact kl_Model_18
  · exact kl_Model_19
  · exact kl_Model_20
  · exact kl_Model_21
  · exact kl_Model_22
  · exact kl_Model_23
  · exact kl_Model_24
