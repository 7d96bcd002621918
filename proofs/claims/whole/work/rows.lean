section
-- ===== PART A: goes FIRST, ahead of the names: the tables' words, and 'selects' of the private methods out of them =====
/-- a private method of a class that the tables say can be made, by its rows of tables_1 -/
def lw_okq (q : MethodName × Nat) : Prop := (q.1.cls ≠ "java/lang/invoke/MethodHandle" ∧ q.1.cls ≠ "java/lang/invoke/VarHandle") ∧ Cond.instantiable q.1.cls q.2 ∈ tables_1 ∧ Cond.privateMethod q.1 ∈ tables_1 ∧ Cond.instanceMethod q.1 ∈ tables_1
theorem lw_p0 : lw_okq (⟨"GraphKeep", "undoStatement", "()V"⟩, 12) := ⟨⟨by decide +kernel, by decide +kernel⟩, List.mem_of_getElem? (i := 18) (by decide +kernel), List.mem_of_getElem? (i := 139) (by decide +kernel), List.mem_of_getElem? (i := 140) (by decide +kernel)⟩
theorem lw_p1 : lw_okq (⟨"GraphKeep", "startStatement", "()V"⟩, 12) := ⟨⟨by decide +kernel, by decide +kernel⟩, List.mem_of_getElem? (i := 18) (by decide +kernel), List.mem_of_getElem? (i := 155) (by decide +kernel), List.mem_of_getElem? (i := 156) (by decide +kernel)⟩
theorem lw_p2 : lw_okq (⟨"GraphKeep", "restoreKept", "()V"⟩, 12) := ⟨⟨by decide +kernel, by decide +kernel⟩, List.mem_of_getElem? (i := 18) (by decide +kernel), List.mem_of_getElem? (i := 167) (by decide +kernel), List.mem_of_getElem? (i := 168) (by decide +kernel)⟩
theorem lw_p3 : lw_okq (⟨"GraphKeep", "forgetUnderWay", "()V"⟩, 12) := ⟨⟨by decide +kernel, by decide +kernel⟩, List.mem_of_getElem? (i := 18) (by decide +kernel), List.mem_of_getElem? (i := 171) (by decide +kernel), List.mem_of_getElem? (i := 172) (by decide +kernel)⟩
theorem lw_p4 : lw_okq (⟨"GraphKeep", "nodeFact", "(LGraphKeep$Node;II)I"⟩, 12) := ⟨⟨by decide +kernel, by decide +kernel⟩, List.mem_of_getElem? (i := 18) (by decide +kernel), List.mem_of_getElem? (i := 200) (by decide +kernel), List.mem_of_getElem? (i := 201) (by decide +kernel)⟩
theorem lw_p5 : lw_okq (⟨"GraphKeep$Graph", "isInChain", "(IIZ)Z"⟩, 2) := ⟨⟨by decide +kernel, by decide +kernel⟩, List.mem_of_getElem? (i := 26) (by decide +kernel), List.mem_of_getElem? (i := 208) (by decide +kernel), List.mem_of_getElem? (i := 209) (by decide +kernel)⟩
theorem lw_p6 : lw_okq (⟨"GraphKeep$Node", "placeOfLabel", "(I)I"⟩, 2) := ⟨⟨by decide +kernel, by decide +kernel⟩, List.mem_of_getElem? (i := 235) (by decide +kernel), List.mem_of_getElem? (i := 233) (by decide +kernel), List.mem_of_getElem? (i := 234) (by decide +kernel)⟩
theorem lw_p7 : lw_okq (⟨"GraphKeep", "mustBeOn", "()V"⟩, 12) := ⟨⟨by decide +kernel, by decide +kernel⟩, List.mem_of_getElem? (i := 18) (by decide +kernel), List.mem_of_getElem? (i := 259) (by decide +kernel), List.mem_of_getElem? (i := 260) (by decide +kernel)⟩
theorem lw_p8 : lw_okq (⟨"java/lang/Throwable", "fillInStackTrace", "(I)Ljava/lang/Throwable;"⟩, 6) := ⟨⟨by decide +kernel, by decide +kernel⟩, List.mem_of_getElem? (i := 301) (by decide +kernel), List.mem_of_getElem? (i := 299) (by decide +kernel), List.mem_of_getElem? (i := 300) (by decide +kernel)⟩
theorem lw_p9 : lw_okq (⟨"GraphKeep", "freeNumber", "(I[Z)I"⟩, 12) := ⟨⟨by decide +kernel, by decide +kernel⟩, List.mem_of_getElem? (i := 18) (by decide +kernel), List.mem_of_getElem? (i := 330) (by decide +kernel), List.mem_of_getElem? (i := 331) (by decide +kernel)⟩
theorem lw_p10 : lw_okq (⟨"GraphKeep", "mustBeLess", "(II)V"⟩, 12) := ⟨⟨by decide +kernel, by decide +kernel⟩, List.mem_of_getElem? (i := 18) (by decide +kernel), List.mem_of_getElem? (i := 334) (by decide +kernel), List.mem_of_getElem? (i := 335) (by decide +kernel)⟩
theorem lw_p11 : lw_okq (⟨"GraphKeep", "refuse", "(I)V"⟩, 12) := ⟨⟨by decide +kernel, by decide +kernel⟩, List.mem_of_getElem? (i := 18) (by decide +kernel), List.mem_of_getElem? (i := 338) (by decide +kernel), List.mem_of_getElem? (i := 339) (by decide +kernel)⟩
theorem lw_p12 : lw_okq (⟨"GraphKeep", "countChange", "()V"⟩, 12) := ⟨⟨by decide +kernel, by decide +kernel⟩, List.mem_of_getElem? (i := 18) (by decide +kernel), List.mem_of_getElem? (i := 358) (by decide +kernel), List.mem_of_getElem? (i := 359) (by decide +kernel)⟩
theorem lw_p13 : lw_okq (⟨"GraphKeep", "wantedNode", "(I)LGraphKeep$Node;"⟩, 12) := ⟨⟨by decide +kernel, by decide +kernel⟩, List.mem_of_getElem? (i := 18) (by decide +kernel), List.mem_of_getElem? (i := 395) (by decide +kernel), List.mem_of_getElem? (i := 396) (by decide +kernel)⟩
theorem lw_p14 : lw_okq (⟨"GraphKeep", "wantedThing", "(II)LGraphKeep$Thing;"⟩, 12) := ⟨⟨by decide +kernel, by decide +kernel⟩, List.mem_of_getElem? (i := 18) (by decide +kernel), List.mem_of_getElem? (i := 417) (by decide +kernel), List.mem_of_getElem? (i := 418) (by decide +kernel)⟩
theorem lw_p15 : lw_okq (⟨"GraphKeep", "mustBeValue", "(IJ)V"⟩, 12) := ⟨⟨by decide +kernel, by decide +kernel⟩, List.mem_of_getElem? (i := 18) (by decide +kernel), List.mem_of_getElem? (i := 422) (by decide +kernel), List.mem_of_getElem? (i := 423) (by decide +kernel)⟩
def lw_privs_1 : List (MethodName × Nat) := [(⟨"GraphKeep", "undoStatement", "()V"⟩, 12), (⟨"GraphKeep", "startStatement", "()V"⟩, 12), (⟨"GraphKeep", "restoreKept", "()V"⟩, 12), (⟨"GraphKeep", "forgetUnderWay", "()V"⟩, 12), (⟨"GraphKeep", "nodeFact", "(LGraphKeep$Node;II)I"⟩, 12), (⟨"GraphKeep$Graph", "isInChain", "(IIZ)Z"⟩, 2), (⟨"GraphKeep$Node", "placeOfLabel", "(I)I"⟩, 2), (⟨"GraphKeep", "mustBeOn", "()V"⟩, 12), (⟨"java/lang/Throwable", "fillInStackTrace", "(I)Ljava/lang/Throwable;"⟩, 6), (⟨"GraphKeep", "freeNumber", "(I[Z)I"⟩, 12), (⟨"GraphKeep", "mustBeLess", "(II)V"⟩, 12), (⟨"GraphKeep", "refuse", "(I)V"⟩, 12), (⟨"GraphKeep", "countChange", "()V"⟩, 12), (⟨"GraphKeep", "wantedNode", "(I)LGraphKeep$Node;"⟩, 12), (⟨"GraphKeep", "wantedThing", "(II)LGraphKeep$Thing;"⟩, 12), (⟨"GraphKeep", "mustBeValue", "(IJ)V"⟩, 12)]
theorem lw_r1 : ∀ q ∈ lw_privs_1, lw_okq q := List.forall_mem_cons.mpr ⟨lw_p0, List.forall_mem_cons.mpr ⟨lw_p1, List.forall_mem_cons.mpr ⟨lw_p2, List.forall_mem_cons.mpr ⟨lw_p3, List.forall_mem_cons.mpr ⟨lw_p4, List.forall_mem_cons.mpr ⟨lw_p5, List.forall_mem_cons.mpr ⟨lw_p6, List.forall_mem_cons.mpr ⟨lw_p7, List.forall_mem_cons.mpr ⟨lw_p8, List.forall_mem_cons.mpr ⟨lw_p9, List.forall_mem_cons.mpr ⟨lw_p10, List.forall_mem_cons.mpr ⟨lw_p11, List.forall_mem_cons.mpr ⟨lw_p12, List.forall_mem_cons.mpr ⟨lw_p13, List.forall_mem_cons.mpr ⟨lw_p14, List.forall_mem_cons.mpr ⟨lw_p15, fun _ h => absurd h List.not_mem_nil⟩⟩⟩⟩⟩⟩⟩⟩⟩⟩⟩⟩⟩⟩⟩⟩
theorem lw_p16 : lw_okq (⟨"GraphKeep", "dropProperty", "(LGraphKeep$Thing;II)Z"⟩, 12) := ⟨⟨by decide +kernel, by decide +kernel⟩, List.mem_of_getElem? (i := 18) (by decide +kernel), List.mem_of_getElem? (i := 426) (by decide +kernel), List.mem_of_getElem? (i := 427) (by decide +kernel)⟩
theorem lw_p17 : lw_okq (⟨"GraphKeep", "putProperty", "(LGraphKeep$Thing;ILGraphKeep$Property;)Z"⟩, 12) := ⟨⟨by decide +kernel, by decide +kernel⟩, List.mem_of_getElem? (i := 18) (by decide +kernel), List.mem_of_getElem? (i := 506) (by decide +kernel), List.mem_of_getElem? (i := 507) (by decide +kernel)⟩
theorem lw_p18 : lw_okq (⟨"GraphKeep", "takeNode", "(I)V"⟩, 12) := ⟨⟨by decide +kernel, by decide +kernel⟩, List.mem_of_getElem? (i := 18) (by decide +kernel), List.mem_of_getElem? (i := 536) (by decide +kernel), List.mem_of_getElem? (i := 537) (by decide +kernel)⟩
theorem lw_p19 : lw_okq (⟨"GraphKeep", "takeLink", "(I)V"⟩, 12) := ⟨⟨by decide +kernel, by decide +kernel⟩, List.mem_of_getElem? (i := 18) (by decide +kernel), List.mem_of_getElem? (i := 543) (by decide +kernel), List.mem_of_getElem? (i := 544) (by decide +kernel)⟩
theorem lw_p20 : lw_okq (⟨"GraphKeep", "keep", "(I)V"⟩, 12) := ⟨⟨by decide +kernel, by decide +kernel⟩, List.mem_of_getElem? (i := 18) (by decide +kernel), List.mem_of_getElem? (i := 562) (by decide +kernel), List.mem_of_getElem? (i := 563) (by decide +kernel)⟩
theorem lw_p21 : lw_okq (⟨"GraphKeep$Log", "write", "(I)I"⟩, 5) := ⟨⟨by decide +kernel, by decide +kernel⟩, List.mem_of_getElem? (i := 43) (by decide +kernel), List.mem_of_getElem? (i := 570) (by decide +kernel), List.mem_of_getElem? (i := 571) (by decide +kernel)⟩
theorem lw_p22 : lw_okq (⟨"GraphKeep", "goOff", "()V"⟩, 12) := ⟨⟨by decide +kernel, by decide +kernel⟩, List.mem_of_getElem? (i := 18) (by decide +kernel), List.mem_of_getElem? (i := 577) (by decide +kernel), List.mem_of_getElem? (i := 578) (by decide +kernel)⟩
theorem lw_p23 : lw_okq (⟨"GraphKeep", "closeStatement", "()V"⟩, 12) := ⟨⟨by decide +kernel, by decide +kernel⟩, List.mem_of_getElem? (i := 18) (by decide +kernel), List.mem_of_getElem? (i := 586) (by decide +kernel), List.mem_of_getElem? (i := 587) (by decide +kernel)⟩
theorem lw_p24 : lw_okq (⟨"GraphKeepModel", "free", "(II)I"⟩, 25) := ⟨⟨by decide +kernel, by decide +kernel⟩, List.mem_of_getElem? (i := 635) (by decide +kernel), List.mem_of_getElem? (i := 733) (by decide +kernel), List.mem_of_getElem? (i := 734) (by decide +kernel)⟩
theorem lw_p25 : lw_okq (⟨"GraphKeepModel", "fails", "(ZZZZZ)Z"⟩, 25) := ⟨⟨by decide +kernel, by decide +kernel⟩, List.mem_of_getElem? (i := 635) (by decide +kernel), List.mem_of_getElem? (i := 737) (by decide +kernel), List.mem_of_getElem? (i := 738) (by decide +kernel)⟩
theorem lw_p26 : lw_okq (⟨"GraphKeepModel", "begins", "()V"⟩, 25) := ⟨⟨by decide +kernel, by decide +kernel⟩, List.mem_of_getElem? (i := 635) (by decide +kernel), List.mem_of_getElem? (i := 741) (by decide +kernel), List.mem_of_getElem? (i := 742) (by decide +kernel)⟩
theorem lw_p27 : lw_okq (⟨"GraphKeepModel", "copy", "(II)V"⟩, 25) := ⟨⟨by decide +kernel, by decide +kernel⟩, List.mem_of_getElem? (i := 635) (by decide +kernel), List.mem_of_getElem? (i := 745) (by decide +kernel), List.mem_of_getElem? (i := 746) (by decide +kernel)⟩
theorem lw_p28 : lw_okq (⟨"GraphKeepModel", "copyThing", "(II)V"⟩, 25) := ⟨⟨by decide +kernel, by decide +kernel⟩, List.mem_of_getElem? (i := 635) (by decide +kernel), List.mem_of_getElem? (i := 749) (by decide +kernel), List.mem_of_getElem? (i := 750) (by decide +kernel)⟩
theorem lw_p29 : lw_okq (⟨"GraphKeepModel", "find", "(II)I"⟩, 25) := ⟨⟨by decide +kernel, by decide +kernel⟩, List.mem_of_getElem? (i := 635) (by decide +kernel), List.mem_of_getElem? (i := 757) (by decide +kernel), List.mem_of_getElem? (i := 758) (by decide +kernel)⟩
theorem lw_p30 : lw_okq (⟨"GraphKeepModel", "isLabeled", "(II)Z"⟩, 25) := ⟨⟨by decide +kernel, by decide +kernel⟩, List.mem_of_getElem? (i := 635) (by decide +kernel), List.mem_of_getElem? (i := 761) (by decide +kernel), List.mem_of_getElem? (i := 762) (by decide +kernel)⟩
theorem lw_p31 : lw_okq (⟨"GraphKeepModel", "propertyOf", "(II)I"⟩, 25) := ⟨⟨by decide +kernel, by decide +kernel⟩, List.mem_of_getElem? (i := 635) (by decide +kernel), List.mem_of_getElem? (i := 769) (by decide +kernel), List.mem_of_getElem? (i := 770) (by decide +kernel)⟩
def lw_privs_2 : List (MethodName × Nat) := [(⟨"GraphKeep", "dropProperty", "(LGraphKeep$Thing;II)Z"⟩, 12), (⟨"GraphKeep", "putProperty", "(LGraphKeep$Thing;ILGraphKeep$Property;)Z"⟩, 12), (⟨"GraphKeep", "takeNode", "(I)V"⟩, 12), (⟨"GraphKeep", "takeLink", "(I)V"⟩, 12), (⟨"GraphKeep", "keep", "(I)V"⟩, 12), (⟨"GraphKeep$Log", "write", "(I)I"⟩, 5), (⟨"GraphKeep", "goOff", "()V"⟩, 12), (⟨"GraphKeep", "closeStatement", "()V"⟩, 12), (⟨"GraphKeepModel", "free", "(II)I"⟩, 25), (⟨"GraphKeepModel", "fails", "(ZZZZZ)Z"⟩, 25), (⟨"GraphKeepModel", "begins", "()V"⟩, 25), (⟨"GraphKeepModel", "copy", "(II)V"⟩, 25), (⟨"GraphKeepModel", "copyThing", "(II)V"⟩, 25), (⟨"GraphKeepModel", "find", "(II)I"⟩, 25), (⟨"GraphKeepModel", "isLabeled", "(II)Z"⟩, 25), (⟨"GraphKeepModel", "propertyOf", "(II)I"⟩, 25)]
theorem lw_r2 : ∀ q ∈ lw_privs_2, lw_okq q := List.forall_mem_cons.mpr ⟨lw_p16, List.forall_mem_cons.mpr ⟨lw_p17, List.forall_mem_cons.mpr ⟨lw_p18, List.forall_mem_cons.mpr ⟨lw_p19, List.forall_mem_cons.mpr ⟨lw_p20, List.forall_mem_cons.mpr ⟨lw_p21, List.forall_mem_cons.mpr ⟨lw_p22, List.forall_mem_cons.mpr ⟨lw_p23, List.forall_mem_cons.mpr ⟨lw_p24, List.forall_mem_cons.mpr ⟨lw_p25, List.forall_mem_cons.mpr ⟨lw_p26, List.forall_mem_cons.mpr ⟨lw_p27, List.forall_mem_cons.mpr ⟨lw_p28, List.forall_mem_cons.mpr ⟨lw_p29, List.forall_mem_cons.mpr ⟨lw_p30, List.forall_mem_cons.mpr ⟨lw_p31, fun _ h => absurd h List.not_mem_nil⟩⟩⟩⟩⟩⟩⟩⟩⟩⟩⟩⟩⟩⟩⟩⟩
theorem lw_p32 : lw_okq (⟨"GraphKeepModel", "isSame", "(IIJ)Z"⟩, 25) := ⟨⟨by decide +kernel, by decide +kernel⟩, List.mem_of_getElem? (i := 635) (by decide +kernel), List.mem_of_getElem? (i := 773) (by decide +kernel), List.mem_of_getElem? (i := 774) (by decide +kernel)⟩
theorem lw_p33 : lw_okq (⟨"GraphKeepModel", "dropProperty", "(II)V"⟩, 25) := ⟨⟨by decide +kernel, by decide +kernel⟩, List.mem_of_getElem? (i := 635) (by decide +kernel), List.mem_of_getElem? (i := 777) (by decide +kernel), List.mem_of_getElem? (i := 778) (by decide +kernel)⟩
theorem lw_p34 : lw_okq (⟨"GraphKeepModel", "lay", "(IIIJ)V"⟩, 25) := ⟨⟨by decide +kernel, by decide +kernel⟩, List.mem_of_getElem? (i := 635) (by decide +kernel), List.mem_of_getElem? (i := 781) (by decide +kernel), List.mem_of_getElem? (i := 782) (by decide +kernel)⟩
theorem lw_p35 : lw_okq (⟨"GraphKeepModel", "links", "(IZ)I"⟩, 25) := ⟨⟨by decide +kernel, by decide +kernel⟩, List.mem_of_getElem? (i := 635) (by decide +kernel), List.mem_of_getElem? (i := 793) (by decide +kernel), List.mem_of_getElem? (i := 794) (by decide +kernel)⟩
theorem lw_p36 : lw_okq (⟨"GraphKeepModel", "settle", "()V"⟩, 25) := ⟨⟨by decide +kernel, by decide +kernel⟩, List.mem_of_getElem? (i := 635) (by decide +kernel), List.mem_of_getElem? (i := 805) (by decide +kernel), List.mem_of_getElem? (i := 806) (by decide +kernel)⟩
theorem lw_p37 : lw_okq (⟨"GraphKeepModel", "fits", "(I)Z"⟩, 25) := ⟨⟨by decide +kernel, by decide +kernel⟩, List.mem_of_getElem? (i := 635) (by decide +kernel), List.mem_of_getElem? (i := 809) (by decide +kernel), List.mem_of_getElem? (i := 810) (by decide +kernel)⟩
theorem lw_p38 : lw_okq (⟨"GraphKeepModel", "back", "()V"⟩, 25) := ⟨⟨by decide +kernel, by decide +kernel⟩, List.mem_of_getElem? (i := 635) (by decide +kernel), List.mem_of_getElem? (i := 813) (by decide +kernel), List.mem_of_getElem? (i := 814) (by decide +kernel)⟩
theorem lw_p39 : lw_okq (⟨"GraphKeepModel", "log", "(I)Z"⟩, 25) := ⟨⟨by decide +kernel, by decide +kernel⟩, List.mem_of_getElem? (i := 635) (by decide +kernel), List.mem_of_getElem? (i := 817) (by decide +kernel), List.mem_of_getElem? (i := 818) (by decide +kernel)⟩
theorem lw_p40 : lw_okq (⟨"GraphKeepModel", "write", "()Z"⟩, 25) := ⟨⟨by decide +kernel, by decide +kernel⟩, List.mem_of_getElem? (i := 635) (by decide +kernel), List.mem_of_getElem? (i := 821) (by decide +kernel), List.mem_of_getElem? (i := 822) (by decide +kernel)⟩
theorem lw_p41 : lw_okq (⟨"GraphKeepModel", "erase", "()V"⟩, 25) := ⟨⟨by decide +kernel, by decide +kernel⟩, List.mem_of_getElem? (i := 635) (by decide +kernel), List.mem_of_getElem? (i := 825) (by decide +kernel), List.mem_of_getElem? (i := 826) (by decide +kernel)⟩
theorem lw_p42 : lw_okq (⟨"GraphKeepModel", "count", "(II)I"⟩, 25) := ⟨⟨by decide +kernel, by decide +kernel⟩, List.mem_of_getElem? (i := 635) (by decide +kernel), List.mem_of_getElem? (i := 849) (by decide +kernel), List.mem_of_getElem? (i := 850) (by decide +kernel)⟩
def lw_privs_3 : List (MethodName × Nat) := [(⟨"GraphKeepModel", "isSame", "(IIJ)Z"⟩, 25), (⟨"GraphKeepModel", "dropProperty", "(II)V"⟩, 25), (⟨"GraphKeepModel", "lay", "(IIIJ)V"⟩, 25), (⟨"GraphKeepModel", "links", "(IZ)I"⟩, 25), (⟨"GraphKeepModel", "settle", "()V"⟩, 25), (⟨"GraphKeepModel", "fits", "(I)Z"⟩, 25), (⟨"GraphKeepModel", "back", "()V"⟩, 25), (⟨"GraphKeepModel", "log", "(I)Z"⟩, 25), (⟨"GraphKeepModel", "write", "()Z"⟩, 25), (⟨"GraphKeepModel", "erase", "()V"⟩, 25), (⟨"GraphKeepModel", "count", "(II)I"⟩, 25)]
theorem lw_r3 : ∀ q ∈ lw_privs_3, lw_okq q := List.forall_mem_cons.mpr ⟨lw_p32, List.forall_mem_cons.mpr ⟨lw_p33, List.forall_mem_cons.mpr ⟨lw_p34, List.forall_mem_cons.mpr ⟨lw_p35, List.forall_mem_cons.mpr ⟨lw_p36, List.forall_mem_cons.mpr ⟨lw_p37, List.forall_mem_cons.mpr ⟨lw_p38, List.forall_mem_cons.mpr ⟨lw_p39, List.forall_mem_cons.mpr ⟨lw_p40, List.forall_mem_cons.mpr ⟨lw_p41, List.forall_mem_cons.mpr ⟨lw_p42, fun _ h => absurd h List.not_mem_nil⟩⟩⟩⟩⟩⟩⟩⟩⟩⟩⟩
def lw_privs : List (MethodName × Nat) := lw_privs_1 ++ (lw_privs_2 ++ (lw_privs_3))
def lw_tbl : List Cond := k2_sels lw_privs ++ tables_1
theorem lw_privs_ok : ∀ q ∈ lw_privs, lw_okq q := by
  show ∀ q ∈ lw_privs_1 ++ (lw_privs_2 ++ (lw_privs_3)), lw_okq q
  exact List.forall_mem_append.mpr ⟨lw_r1, List.forall_mem_append.mpr ⟨lw_r2, lw_r3⟩⟩
end
section
/-! NAMES: written by program out of the listing and the tables -/
abbrev R_Gr : String := "GraphKeep$Graph"
abbrev R_Lk : String := "GraphKeep$Link"
abbrev R_Lg : String := "GraphKeep$Log"
abbrev R_Nd : String := "GraphKeep$Node"
abbrev R_Pr : String := "GraphKeep$Property"
abbrev R_Tp : String := "GraphKeep$Tape"
abbrev R_Th : String := "GraphKeep$Thing"
abbrev R_GK : String := "GraphKeep"
abbrev R_Law : String := "GraphKeepLaw"
abbrev R_Model : String := "GraphKeepModel"
def F_GK : u_T := fun k => match k with
  | 0 => ("GraphKeep", "now", "LGraphKeep$Graph;", true)
  | 1 => ("GraphKeep", "atStatement", "LGraphKeep$Graph;", true)
  | 2 => ("GraphKeep", "kept", "LGraphKeep$Graph;", true)
  | 3 => ("GraphKeep", "log", "LGraphKeep$Log;", true)
  | 4 => ("GraphKeep", "tape", "LGraphKeep$Tape;", true)
  | 5 => ("GraphKeep", "goneNodes", "[Z", true)
  | 6 => ("GraphKeep", "goneLinks", "[Z", true)
  | 7 => ("GraphKeep", "latestError", "I", false)
  | 8 => ("GraphKeep", "statementChanges", "I", false)
  | 9 => ("GraphKeep", "earlierChanges", "I", false)
  | 10 => ("GraphKeep", "inTransaction", "Z", false)
  | _ => ("GraphKeep", "off", "Z", false)
def t_GK : Nat → FieldType := fun k => match k with
  | 0 => .object "GraphKeep$Graph"
  | 1 => .object "GraphKeep$Graph"
  | 2 => .object "GraphKeep$Graph"
  | 3 => .object "GraphKeep$Log"
  | 4 => .object "GraphKeep$Tape"
  | 5 => .array .boolean
  | 6 => .array .boolean
  | 7 => .int
  | 8 => .int
  | 9 => .int
  | 10 => .boolean
  | _ => .boolean
theorem n_GK : ∀ a, a < 12 → ∀ b, b < 12 → a ≠ b → (F_GK a).2.1 ≠ (F_GK b).2.1 := by decide +kernel
theorem t_GK_ok : ∀ k, k < 12 → parseFieldDescriptor (F_GK k).2.2.1 = some (t_GK k) := by decide +kernel
theorem z_GK : ∀ j, j < 12 → defaultValue (t_GK j) = vp_V [.null, .null, .null, .null, .null, .null, .null, .int 0, .int 0, .int 0, .int 0, .int 0] j := fun j hj => by
  rcases (show j = 0 ∨ j = 1 ∨ j = 2 ∨ j = 3 ∨ j = 4 ∨ j = 5 ∨ j = 6 ∨ j = 7 ∨ j = 8 ∨ j = 9 ∨ j = 10 ∨ j = 11 by omega) with rfl | rfl | rfl | rfl | rfl | rfl | rfl | rfl | rfl | rfl | rfl | rfl <;> rfl
def F_Gr : u_T := fun k => match k with
  | 0 => ("GraphKeep$Graph", "nodes", "[LGraphKeep$Node;", true)
  | _ => ("GraphKeep$Graph", "links", "[LGraphKeep$Link;", true)
def t_Gr : Nat → FieldType := fun k => match k with
  | 0 => .array (.object "GraphKeep$Node")
  | _ => .array (.object "GraphKeep$Link")
theorem n_Gr : ∀ a, a < 2 → ∀ b, b < 2 → a ≠ b → (F_Gr a).2.1 ≠ (F_Gr b).2.1 := by decide +kernel
theorem t_Gr_ok : ∀ k, k < 2 → parseFieldDescriptor (F_Gr k).2.2.1 = some (t_Gr k) := by decide +kernel
theorem z_Gr : ∀ j, j < 2 → defaultValue (t_Gr j) = vp_V [.null, .null] j := fun j hj => by
  rcases (show j = 0 ∨ j = 1 by omega) with rfl | rfl <;> rfl
def F_Lg : u_T := fun k => match k with
  | 0 => ("GraphKeep$Log", "writes", "I", false)
  | 1 => ("GraphKeep$Log", "ended", "I", false)
  | 2 => ("GraphKeep$Log", "loose", "I", false)
  | 3 => ("GraphKeep$Log", "transactions", "I", false)
  | _ => ("GraphKeep$Log", "writesTillFailure", "I", false)
def t_Lg : Nat → FieldType := fun k => match k with
  | 0 => .int
  | 1 => .int
  | 2 => .int
  | 3 => .int
  | _ => .int
theorem n_Lg : ∀ a, a < 5 → ∀ b, b < 5 → a ≠ b → (F_Lg a).2.1 ≠ (F_Lg b).2.1 := by decide +kernel
theorem t_Lg_ok : ∀ k, k < 5 → parseFieldDescriptor (F_Lg k).2.2.1 = some (t_Lg k) := by decide +kernel
theorem z_Lg : ∀ j, j < 5 → defaultValue (t_Lg j) = vp_V [.int 0, .int 0, .int 0, .int 0, .int 0] j := fun j hj => by
  rcases (show j = 0 ∨ j = 1 ∨ j = 2 ∨ j = 3 ∨ j = 4 by omega) with rfl | rfl | rfl | rfl | rfl <;> rfl
def F_Tp : u_T := fun k => match k with
  | 0 => ("GraphKeep$Tape", "characters", "[B", true)
  | _ => ("GraphKeep$Tape", "length", "I", false)
def t_Tp : Nat → FieldType := fun k => match k with
  | 0 => .array .byte
  | _ => .int
theorem n_Tp : ∀ a, a < 2 → ∀ b, b < 2 → a ≠ b → (F_Tp a).2.1 ≠ (F_Tp b).2.1 := by decide +kernel
theorem t_Tp_ok : ∀ k, k < 2 → parseFieldDescriptor (F_Tp k).2.2.1 = some (t_Tp k) := by decide +kernel
theorem z_Tp : ∀ j, j < 2 → defaultValue (t_Tp j) = vp_V [.null, .int 0] j := fun j hj => by
  rcases (show j = 0 ∨ j = 1 by omega) with rfl | rfl <;> rfl
def F_Pr : u_T := fun k => match k with
  | 0 => ("GraphKeep$Property", "key", "I", true)
  | 1 => ("GraphKeep$Property", "kind", "I", true)
  | 2 => ("GraphKeep$Property", "number", "J", true)
  | _ => ("GraphKeep$Property", "text", "[B", true)
def t_Pr : Nat → FieldType := fun k => match k with
  | 0 => .int
  | 1 => .int
  | 2 => .long
  | _ => .array .byte
theorem n_Pr : ∀ a, a < 4 → ∀ b, b < 4 → a ≠ b → (F_Pr a).2.1 ≠ (F_Pr b).2.1 := by decide +kernel
theorem t_Pr_ok : ∀ k, k < 4 → parseFieldDescriptor (F_Pr k).2.2.1 = some (t_Pr k) := by decide +kernel
theorem z_Pr : ∀ j, j < 4 → defaultValue (t_Pr j) = vp_V [.int 0, .int 0, .long 0, .null] j := fun j hj => by
  rcases (show j = 0 ∨ j = 1 ∨ j = 2 ∨ j = 3 by omega) with rfl | rfl | rfl | rfl <;> rfl
def F_Nd : u_T := fun k => match k with
  | 0 => ("GraphKeep$Thing", "properties", "[LGraphKeep$Property;", true)
  | _ => ("GraphKeep$Node", "labels", "[I", true)
def t_Nd : Nat → FieldType := fun k => match k with
  | 0 => .array (.object "GraphKeep$Property")
  | _ => .array .int
theorem n_Nd : ∀ a, a < 2 → ∀ b, b < 2 → a ≠ b → (F_Nd a).2.1 ≠ (F_Nd b).2.1 := by decide +kernel
theorem t_Nd_ok : ∀ k, k < 2 → parseFieldDescriptor (F_Nd k).2.2.1 = some (t_Nd k) := by decide +kernel
theorem z_Nd : ∀ j, j < 2 → defaultValue (t_Nd j) = vp_V [.null, .null] j := fun j hj => by
  rcases (show j = 0 ∨ j = 1 by omega) with rfl | rfl <;> rfl
def F_Lk : u_T := fun k => match k with
  | 0 => ("GraphKeep$Thing", "properties", "[LGraphKeep$Property;", true)
  | 1 => ("GraphKeep$Link", "start", "I", true)
  | 2 => ("GraphKeep$Link", "end", "I", true)
  | _ => ("GraphKeep$Link", "type", "I", true)
def t_Lk : Nat → FieldType := fun k => match k with
  | 0 => .array (.object "GraphKeep$Property")
  | 1 => .int
  | 2 => .int
  | _ => .int
theorem n_Lk : ∀ a, a < 4 → ∀ b, b < 4 → a ≠ b → (F_Lk a).2.1 ≠ (F_Lk b).2.1 := by decide +kernel
theorem t_Lk_ok : ∀ k, k < 4 → parseFieldDescriptor (F_Lk k).2.2.1 = some (t_Lk k) := by decide +kernel
theorem z_Lk : ∀ j, j < 4 → defaultValue (t_Lk j) = vp_V [.null, .int 0, .int 0, .int 0] j := fun j hj => by
  rcases (show j = 0 ∨ j = 1 ∨ j = 2 ∨ j = 3 by omega) with rfl | rfl | rfl | rfl <;> rfl
def F_Model : u_T := fun k => match k with
  | 0 => ("GraphKeepModel", "thrown", "I", false)
  | 1 => ("GraphKeepModel", "there", "[Z", true)
  | 2 => ("GraphKeepModel", "starts", "[I", true)
  | 3 => ("GraphKeepModel", "ends", "[I", true)
  | 4 => ("GraphKeepModel", "types", "[I", true)
  | 5 => ("GraphKeepModel", "labelMany", "[I", true)
  | 6 => ("GraphKeepModel", "labels", "[I", true)
  | 7 => ("GraphKeepModel", "propertyMany", "[I", true)
  | 8 => ("GraphKeepModel", "keys", "[I", true)
  | 9 => ("GraphKeepModel", "kinds", "[I", true)
  | 10 => ("GraphKeepModel", "values", "[J", true)
  | 11 => ("GraphKeepModel", "texts", "[J", true)
  | 12 => ("GraphKeepModel", "taken", "[Z", true)
  | 13 => ("GraphKeepModel", "tapeSize", "I", false)
  | 14 => ("GraphKeepModel", "tape", "[J", true)
  | 15 => ("GraphKeepModel", "error", "I", false)
  | 16 => ("GraphKeepModel", "off", "Z", false)
  | 17 => ("GraphKeepModel", "inside", "Z", false)
  | 18 => ("GraphKeepModel", "changes", "I", false)
  | 19 => ("GraphKeepModel", "earlier", "I", false)
  | 20 => ("GraphKeepModel", "logged", "I", false)
  | 21 => ("GraphKeepModel", "over", "I", false)
  | 22 => ("GraphKeepModel", "loose", "I", false)
  | 23 => ("GraphKeepModel", "written", "I", false)
  | _ => ("GraphKeepModel", "due", "I", false)
def t_Model : Nat → FieldType := fun k => match k with
  | 0 => .int
  | 1 => .array .boolean
  | 2 => .array .int
  | 3 => .array .int
  | 4 => .array .int
  | 5 => .array .int
  | 6 => .array .int
  | 7 => .array .int
  | 8 => .array .int
  | 9 => .array .int
  | 10 => .array .long
  | 11 => .array .long
  | 12 => .array .boolean
  | 13 => .int
  | 14 => .array .long
  | 15 => .int
  | 16 => .boolean
  | 17 => .boolean
  | 18 => .int
  | 19 => .int
  | 20 => .int
  | 21 => .int
  | 22 => .int
  | 23 => .int
  | _ => .int
theorem n_Model : ∀ a, a < 25 → ∀ b, b < 25 → a ≠ b → (F_Model a).2.1 ≠ (F_Model b).2.1 := by decide +kernel
theorem t_Model_ok : ∀ k, k < 25 → parseFieldDescriptor (F_Model k).2.2.1 = some (t_Model k) := by decide +kernel
theorem z_Model : ∀ j, j < 25 → defaultValue (t_Model j) = vp_V [.int 0, .null, .null, .null, .null, .null, .null, .null, .null, .null, .null, .null, .null, .int 0, .null, .int 0, .int 0, .int 0, .int 0, .int 0, .int 0, .int 0, .int 0, .int 0, .int 0] j := fun j hj => by
  rcases (show j = 0 ∨ j = 1 ∨ j = 2 ∨ j = 3 ∨ j = 4 ∨ j = 5 ∨ j = 6 ∨ j = 7 ∨ j = 8 ∨ j = 9 ∨ j = 10 ∨ j = 11 ∨ j = 12 ∨ j = 13 ∨ j = 14 ∨ j = 15 ∨ j = 16 ∨ j = 17 ∨ j = 18 ∨ j = 19 ∨ j = 20 ∨ j = 21 ∨ j = 22 ∨ j = 23 ∨ j = 24 by omega) with rfl | rfl | rfl | rfl | rfl | rfl | rfl | rfl | rfl | rfl | rfl | rfl | rfl | rfl | rfl | rfl | rfl | rfl | rfl | rfl | rfl | rfl | rfl | rfl | rfl <;> rfl
def F_ex : u_T := fun _ => ("", "", "", false)
abbrev classes : List vw_C := [(R_GK, F_GK, 12), (R_Gr, F_Gr, 2), (R_Lg, F_Lg, 5), (R_Tp, F_Tp, 2), (R_Pr, F_Pr, 4), (R_Nd, F_Nd, 2), (R_Lk, F_Lk, 4), (R_Model, F_Model, 25), ("java/lang/ArithmeticException", F_ex, 0), ("java/lang/IllegalStateException", F_ex, 0), ("java/util/NoSuchElementException", F_ex, 0)]
def hv_tys (ca : Nat → ClassId) : List (ClassId × FieldType) := [(ca 0, .int), (ca 1, .byte), (ca 2, .boolean), (ca 3, .long), (ca 4, .object "GraphKeep$Property"), (ca 5, .object "GraphKeep$Node"), (ca 6, .object "GraphKeep$Link")]
def hv_Ts : List Cond := lw_tbl.filter goodWord
theorem hv_mem {w : Cond} (i : Nat) (h : tables_1[i]? = some w) (ho : goodWord w = true) : w ∈ hv_Ts := List.mem_filter.mpr ⟨List.mem_append_right _ (List.mem_of_getElem? h), ho⟩
theorem hv_memL {w : Cond} (i : Nat) (h : tables_1[i]? = some w) : w ∈ lw_tbl := List.mem_append_right _ (List.mem_of_getElem? h)
theorem hv_memP {q : MethodName × Nat} (i : Nat) (h : lw_privs[i]? = some q) : Cond.selects q.1.cls q.1 q.1 ∈ hv_Ts := List.mem_filter.mpr ⟨List.mem_append_left _ (List.mem_map.mpr ⟨q, List.mem_of_getElem? h, rfl⟩), rfl⟩
abbrev b_Gr_init : ByteArray := prog_2_method_1_code
abbrev y_Gr_init : MethodName := ⟨"GraphKeep$Graph", "<init>", "()V"⟩
theorem hy_Gr_init : (y_Gr_init.cls ≠ "java/lang/invoke/MethodHandle" ∧ y_Gr_init.cls ≠ "java/lang/invoke/VarHandle") ∧ (parseMethodDescriptor y_Gr_init.desc).map (fun d => d.parameters.length) = some 0 := by decide +kernel
abbrev b_Gr_nodeAt : ByteArray := prog_2_method_2_code
abbrev y_Gr_nodeAt : MethodName := ⟨"GraphKeep$Graph", "nodeAt", "(I)LGraphKeep$Node;"⟩
theorem hy_Gr_nodeAt : (y_Gr_nodeAt.cls ≠ "java/lang/invoke/MethodHandle" ∧ y_Gr_nodeAt.cls ≠ "java/lang/invoke/VarHandle") ∧ (parseMethodDescriptor y_Gr_nodeAt.desc).map (fun d => d.parameters.length) = some 1 := by decide +kernel
abbrev b_Gr_linkAt : ByteArray := prog_2_method_3_code
abbrev y_Gr_linkAt : MethodName := ⟨"GraphKeep$Graph", "linkAt", "(I)LGraphKeep$Link;"⟩
theorem hy_Gr_linkAt : (y_Gr_linkAt.cls ≠ "java/lang/invoke/MethodHandle" ∧ y_Gr_linkAt.cls ≠ "java/lang/invoke/VarHandle") ∧ (parseMethodDescriptor y_Gr_linkAt.desc).map (fun d => d.parameters.length) = some 1 := by decide +kernel
abbrev b_Gr_thingAt : ByteArray := prog_2_method_4_code
abbrev y_Gr_thingAt : MethodName := ⟨"GraphKeep$Graph", "thingAt", "(II)LGraphKeep$Thing;"⟩
theorem hy_Gr_thingAt : (y_Gr_thingAt.cls ≠ "java/lang/invoke/MethodHandle" ∧ y_Gr_thingAt.cls ≠ "java/lang/invoke/VarHandle") ∧ (parseMethodDescriptor y_Gr_thingAt.desc).map (fun d => d.parameters.length) = some 2 := by decide +kernel
abbrev b_Gr_putNode : ByteArray := prog_2_method_5_code
abbrev y_Gr_putNode : MethodName := ⟨"GraphKeep$Graph", "putNode", "(ILGraphKeep$Node;)V"⟩
theorem hy_Gr_putNode : (y_Gr_putNode.cls ≠ "java/lang/invoke/MethodHandle" ∧ y_Gr_putNode.cls ≠ "java/lang/invoke/VarHandle") ∧ (parseMethodDescriptor y_Gr_putNode.desc).map (fun d => d.parameters.length) = some 2 := by decide +kernel
abbrev b_Gr_putLink : ByteArray := prog_2_method_6_code
abbrev y_Gr_putLink : MethodName := ⟨"GraphKeep$Graph", "putLink", "(ILGraphKeep$Link;)V"⟩
theorem hy_Gr_putLink : (y_Gr_putLink.cls ≠ "java/lang/invoke/MethodHandle" ∧ y_Gr_putLink.cls ≠ "java/lang/invoke/VarHandle") ∧ (parseMethodDescriptor y_Gr_putLink.desc).map (fun d => d.parameters.length) = some 2 := by decide +kernel
abbrev b_Gr_putAgain : ByteArray := prog_2_method_7_code
abbrev y_Gr_putAgain : MethodName := ⟨"GraphKeep$Graph", "putAgain", "(LGraphKeep$Thing;I[LGraphKeep$Property;)V"⟩
theorem hy_Gr_putAgain : (y_Gr_putAgain.cls ≠ "java/lang/invoke/MethodHandle" ∧ y_Gr_putAgain.cls ≠ "java/lang/invoke/VarHandle") ∧ (parseMethodDescriptor y_Gr_putAgain.desc).map (fun d => d.parameters.length) = some 3 := by decide +kernel
abbrev b_Gr_countNodes : ByteArray := prog_2_method_8_code
abbrev y_Gr_countNodes : MethodName := ⟨"GraphKeep$Graph", "countNodes", "()I"⟩
theorem hy_Gr_countNodes : (y_Gr_countNodes.cls ≠ "java/lang/invoke/MethodHandle" ∧ y_Gr_countNodes.cls ≠ "java/lang/invoke/VarHandle") ∧ (parseMethodDescriptor y_Gr_countNodes.desc).map (fun d => d.parameters.length) = some 0 := by decide +kernel
abbrev b_Gr_countLinks : ByteArray := prog_2_method_9_code
abbrev y_Gr_countLinks : MethodName := ⟨"GraphKeep$Graph", "countLinks", "()I"⟩
theorem hy_Gr_countLinks : (y_Gr_countLinks.cls ≠ "java/lang/invoke/MethodHandle" ∧ y_Gr_countLinks.cls ≠ "java/lang/invoke/VarHandle") ∧ (parseMethodDescriptor y_Gr_countLinks.desc).map (fun d => d.parameters.length) = some 0 := by decide +kernel
abbrev b_Gr_countChain : ByteArray := prog_2_method_10_code
abbrev y_Gr_countChain : MethodName := ⟨"GraphKeep$Graph", "countChain", "(IZ)I"⟩
theorem hy_Gr_countChain : (y_Gr_countChain.cls ≠ "java/lang/invoke/MethodHandle" ∧ y_Gr_countChain.cls ≠ "java/lang/invoke/VarHandle") ∧ (parseMethodDescriptor y_Gr_countChain.desc).map (fun d => d.parameters.length) = some 2 := by decide +kernel
abbrev b_Gr_linkInChain : ByteArray := prog_2_method_11_code
abbrev y_Gr_linkInChain : MethodName := ⟨"GraphKeep$Graph", "linkInChain", "(IZI)I"⟩
theorem hy_Gr_linkInChain : (y_Gr_linkInChain.cls ≠ "java/lang/invoke/MethodHandle" ∧ y_Gr_linkInChain.cls ≠ "java/lang/invoke/VarHandle") ∧ (parseMethodDescriptor y_Gr_linkInChain.desc).map (fun d => d.parameters.length) = some 3 := by decide +kernel
abbrev b_Gr_isInChain : ByteArray := prog_2_method_12_code
abbrev y_Gr_isInChain : MethodName := ⟨"GraphKeep$Graph", "isInChain", "(IIZ)Z"⟩
theorem hy_Gr_isInChain : (y_Gr_isInChain.cls ≠ "java/lang/invoke/MethodHandle" ∧ y_Gr_isInChain.cls ≠ "java/lang/invoke/VarHandle") ∧ (parseMethodDescriptor y_Gr_isInChain.desc).map (fun d => d.parameters.length) = some 3 := by decide +kernel
abbrev b_Gr_copyFrom : ByteArray := prog_2_method_13_code
abbrev y_Gr_copyFrom : MethodName := ⟨"GraphKeep$Graph", "copyFrom", "(LGraphKeep$Graph;)V"⟩
theorem hy_Gr_copyFrom : (y_Gr_copyFrom.cls ≠ "java/lang/invoke/MethodHandle" ∧ y_Gr_copyFrom.cls ≠ "java/lang/invoke/VarHandle") ∧ (parseMethodDescriptor y_Gr_copyFrom.desc).map (fun d => d.parameters.length) = some 1 := by decide +kernel
abbrev b_Gr_clear : ByteArray := prog_2_method_14_code
abbrev y_Gr_clear : MethodName := ⟨"GraphKeep$Graph", "clear", "()V"⟩
theorem hy_Gr_clear : (y_Gr_clear.cls ≠ "java/lang/invoke/MethodHandle" ∧ y_Gr_clear.cls ≠ "java/lang/invoke/VarHandle") ∧ (parseMethodDescriptor y_Gr_clear.desc).map (fun d => d.parameters.length) = some 0 := by decide +kernel
abbrev b_Lk_init : ByteArray := prog_3_method_1_code
abbrev y_Lk_init : MethodName := ⟨"GraphKeep$Link", "<init>", "(III[LGraphKeep$Property;)V"⟩
theorem hy_Lk_init : (y_Lk_init.cls ≠ "java/lang/invoke/MethodHandle" ∧ y_Lk_init.cls ≠ "java/lang/invoke/VarHandle") ∧ (parseMethodDescriptor y_Lk_init.desc).map (fun d => d.parameters.length) = some 4 := by decide +kernel
abbrev b_Lg_init : ByteArray := prog_4_method_1_code
abbrev y_Lg_init : MethodName := ⟨"GraphKeep$Log", "<init>", "()V"⟩
theorem hy_Lg_init : (y_Lg_init.cls ≠ "java/lang/invoke/MethodHandle" ∧ y_Lg_init.cls ≠ "java/lang/invoke/VarHandle") ∧ (parseMethodDescriptor y_Lg_init.desc).map (fun d => d.parameters.length) = some 0 := by decide +kernel
abbrev b_Lg_writesFor : ByteArray := prog_4_method_2_code
abbrev y_Lg_writesFor : MethodName := ⟨"GraphKeep$Log", "writesFor", "(I)I"⟩
theorem hy_Lg_writesFor : (y_Lg_writesFor.cls ≠ "java/lang/invoke/MethodHandle" ∧ y_Lg_writesFor.cls ≠ "java/lang/invoke/VarHandle") ∧ (parseMethodDescriptor y_Lg_writesFor.desc).map (fun d => d.parameters.length) = some 1 := by decide +kernel
abbrev b_Lg_hasRoom : ByteArray := prog_4_method_3_code
abbrev y_Lg_hasRoom : MethodName := ⟨"GraphKeep$Log", "hasRoom", "(I)Z"⟩
theorem hy_Lg_hasRoom : (y_Lg_hasRoom.cls ≠ "java/lang/invoke/MethodHandle" ∧ y_Lg_hasRoom.cls ≠ "java/lang/invoke/VarHandle") ∧ (parseMethodDescriptor y_Lg_hasRoom.desc).map (fun d => d.parameters.length) = some 1 := by decide +kernel
abbrev b_Lg_failAt : ByteArray := prog_4_method_4_code
abbrev y_Lg_failAt : MethodName := ⟨"GraphKeep$Log", "failAt", "(I)V"⟩
theorem hy_Lg_failAt : (y_Lg_failAt.cls ≠ "java/lang/invoke/MethodHandle" ∧ y_Lg_failAt.cls ≠ "java/lang/invoke/VarHandle") ∧ (parseMethodDescriptor y_Lg_failAt.desc).map (fun d => d.parameters.length) = some 1 := by decide +kernel
abbrev b_Lg_writeTransaction : ByteArray := prog_4_method_5_code
abbrev y_Lg_writeTransaction : MethodName := ⟨"GraphKeep$Log", "writeTransaction", "(I)Z"⟩
theorem hy_Lg_writeTransaction : (y_Lg_writeTransaction.cls ≠ "java/lang/invoke/MethodHandle" ∧ y_Lg_writeTransaction.cls ≠ "java/lang/invoke/VarHandle") ∧ (parseMethodDescriptor y_Lg_writeTransaction.desc).map (fun d => d.parameters.length) = some 1 := by decide +kernel
abbrev b_Lg_writeCheckpoint : ByteArray := prog_4_method_6_code
abbrev y_Lg_writeCheckpoint : MethodName := ⟨"GraphKeep$Log", "writeCheckpoint", "(I)Z"⟩
theorem hy_Lg_writeCheckpoint : (y_Lg_writeCheckpoint.cls ≠ "java/lang/invoke/MethodHandle" ∧ y_Lg_writeCheckpoint.cls ≠ "java/lang/invoke/VarHandle") ∧ (parseMethodDescriptor y_Lg_writeCheckpoint.desc).map (fun d => d.parameters.length) = some 1 := by decide +kernel
abbrev b_Lg_reopen : ByteArray := prog_4_method_7_code
abbrev y_Lg_reopen : MethodName := ⟨"GraphKeep$Log", "reopen", "()I"⟩
theorem hy_Lg_reopen : (y_Lg_reopen.cls ≠ "java/lang/invoke/MethodHandle" ∧ y_Lg_reopen.cls ≠ "java/lang/invoke/VarHandle") ∧ (parseMethodDescriptor y_Lg_reopen.desc).map (fun d => d.parameters.length) = some 0 := by decide +kernel
abbrev b_Lg_write : ByteArray := prog_4_method_8_code
abbrev y_Lg_write : MethodName := ⟨"GraphKeep$Log", "write", "(I)I"⟩
theorem hy_Lg_write : (y_Lg_write.cls ≠ "java/lang/invoke/MethodHandle" ∧ y_Lg_write.cls ≠ "java/lang/invoke/VarHandle") ∧ (parseMethodDescriptor y_Lg_write.desc).map (fun d => d.parameters.length) = some 1 := by decide +kernel
abbrev b_Nd_init : ByteArray := prog_5_method_1_code
abbrev y_Nd_init : MethodName := ⟨"GraphKeep$Node", "<init>", "([I[LGraphKeep$Property;)V"⟩
theorem hy_Nd_init : (y_Nd_init.cls ≠ "java/lang/invoke/MethodHandle" ∧ y_Nd_init.cls ≠ "java/lang/invoke/VarHandle") ∧ (parseMethodDescriptor y_Nd_init.desc).map (fun d => d.parameters.length) = some 2 := by decide +kernel
abbrev b_Nd_isLabelled : ByteArray := prog_5_method_2_code
abbrev y_Nd_isLabelled : MethodName := ⟨"GraphKeep$Node", "isLabelled", "(I)Z"⟩
theorem hy_Nd_isLabelled : (y_Nd_isLabelled.cls ≠ "java/lang/invoke/MethodHandle" ∧ y_Nd_isLabelled.cls ≠ "java/lang/invoke/VarHandle") ∧ (parseMethodDescriptor y_Nd_isLabelled.desc).map (fun d => d.parameters.length) = some 1 := by decide +kernel
abbrev b_Nd_withLabel : ByteArray := prog_5_method_3_code
abbrev y_Nd_withLabel : MethodName := ⟨"GraphKeep$Node", "withLabel", "(I)LGraphKeep$Node;"⟩
theorem hy_Nd_withLabel : (y_Nd_withLabel.cls ≠ "java/lang/invoke/MethodHandle" ∧ y_Nd_withLabel.cls ≠ "java/lang/invoke/VarHandle") ∧ (parseMethodDescriptor y_Nd_withLabel.desc).map (fun d => d.parameters.length) = some 1 := by decide +kernel
abbrev b_Nd_withoutLabel : ByteArray := prog_5_method_4_code
abbrev y_Nd_withoutLabel : MethodName := ⟨"GraphKeep$Node", "withoutLabel", "(I)LGraphKeep$Node;"⟩
theorem hy_Nd_withoutLabel : (y_Nd_withoutLabel.cls ≠ "java/lang/invoke/MethodHandle" ∧ y_Nd_withoutLabel.cls ≠ "java/lang/invoke/VarHandle") ∧ (parseMethodDescriptor y_Nd_withoutLabel.desc).map (fun d => d.parameters.length) = some 1 := by decide +kernel
abbrev b_Nd_placeOfLabel : ByteArray := prog_5_method_5_code
abbrev y_Nd_placeOfLabel : MethodName := ⟨"GraphKeep$Node", "placeOfLabel", "(I)I"⟩
theorem hy_Nd_placeOfLabel : (y_Nd_placeOfLabel.cls ≠ "java/lang/invoke/MethodHandle" ∧ y_Nd_placeOfLabel.cls ≠ "java/lang/invoke/VarHandle") ∧ (parseMethodDescriptor y_Nd_placeOfLabel.desc).map (fun d => d.parameters.length) = some 1 := by decide +kernel
abbrev b_Pr_init : ByteArray := prog_6_method_1_code
abbrev y_Pr_init : MethodName := ⟨"GraphKeep$Property", "<init>", "(IIJ[B)V"⟩
theorem hy_Pr_init : (y_Pr_init.cls ≠ "java/lang/invoke/MethodHandle" ∧ y_Pr_init.cls ≠ "java/lang/invoke/VarHandle") ∧ (parseMethodDescriptor y_Pr_init.desc).map (fun d => d.parameters.length) = some 4 := by decide +kernel
abbrev b_Pr_isSameValue : ByteArray := prog_6_method_2_code
abbrev y_Pr_isSameValue : MethodName := ⟨"GraphKeep$Property", "isSameValue", "(LGraphKeep$Property;)Z"⟩
theorem hy_Pr_isSameValue : (y_Pr_isSameValue.cls ≠ "java/lang/invoke/MethodHandle" ∧ y_Pr_isSameValue.cls ≠ "java/lang/invoke/VarHandle") ∧ (parseMethodDescriptor y_Pr_isSameValue.desc).map (fun d => d.parameters.length) = some 1 := by decide +kernel
abbrev b_Tp_init : ByteArray := prog_7_method_1_code
abbrev y_Tp_init : MethodName := ⟨"GraphKeep$Tape", "<init>", "()V"⟩
theorem hy_Tp_init : (y_Tp_init.cls ≠ "java/lang/invoke/MethodHandle" ∧ y_Tp_init.cls ≠ "java/lang/invoke/VarHandle") ∧ (parseMethodDescriptor y_Tp_init.desc).map (fun d => d.parameters.length) = some 0 := by decide +kernel
abbrev b_Tp_append : ByteArray := prog_7_method_2_code
abbrev y_Tp_append : MethodName := ⟨"GraphKeep$Tape", "append", "(JI)Z"⟩
theorem hy_Tp_append : (y_Tp_append.cls ≠ "java/lang/invoke/MethodHandle" ∧ y_Tp_append.cls ≠ "java/lang/invoke/VarHandle") ∧ (parseMethodDescriptor y_Tp_append.desc).map (fun d => d.parameters.length) = some 2 := by decide +kernel
abbrev b_Tp_pull : ByteArray := prog_7_method_3_code
abbrev y_Tp_pull : MethodName := ⟨"GraphKeep$Tape", "pull", "()[B"⟩
theorem hy_Tp_pull : (y_Tp_pull.cls ≠ "java/lang/invoke/MethodHandle" ∧ y_Tp_pull.cls ≠ "java/lang/invoke/VarHandle") ∧ (parseMethodDescriptor y_Tp_pull.desc).map (fun d => d.parameters.length) = some 0 := by decide +kernel
abbrev b_Tp_byteOf : ByteArray := prog_7_method_4_code
abbrev y_Tp_byteOf : MethodName := ⟨"GraphKeep$Tape", "byteOf", "(JI)I"⟩
theorem hy_Tp_byteOf : (y_Tp_byteOf.cls ≠ "java/lang/invoke/MethodHandle" ∧ y_Tp_byteOf.cls ≠ "java/lang/invoke/VarHandle") ∧ (parseMethodDescriptor y_Tp_byteOf.desc).map (fun d => d.parameters.length) = some 2 := by decide +kernel
abbrev b_Th_init : ByteArray := prog_8_method_1_code
abbrev y_Th_init : MethodName := ⟨"GraphKeep$Thing", "<init>", "([LGraphKeep$Property;)V"⟩
theorem hy_Th_init : (y_Th_init.cls ≠ "java/lang/invoke/MethodHandle" ∧ y_Th_init.cls ≠ "java/lang/invoke/VarHandle") ∧ (parseMethodDescriptor y_Th_init.desc).map (fun d => d.parameters.length) = some 1 := by decide +kernel
abbrev b_Th_propertyOf : ByteArray := prog_8_method_2_code
abbrev y_Th_propertyOf : MethodName := ⟨"GraphKeep$Thing", "propertyOf", "(I)LGraphKeep$Property;"⟩
theorem hy_Th_propertyOf : (y_Th_propertyOf.cls ≠ "java/lang/invoke/MethodHandle" ∧ y_Th_propertyOf.cls ≠ "java/lang/invoke/VarHandle") ∧ (parseMethodDescriptor y_Th_propertyOf.desc).map (fun d => d.parameters.length) = some 1 := by decide +kernel
abbrev b_Th_propertiesWith : ByteArray := prog_8_method_3_code
abbrev y_Th_propertiesWith : MethodName := ⟨"GraphKeep$Thing", "propertiesWith", "(LGraphKeep$Property;)[LGraphKeep$Property;"⟩
theorem hy_Th_propertiesWith : (y_Th_propertiesWith.cls ≠ "java/lang/invoke/MethodHandle" ∧ y_Th_propertiesWith.cls ≠ "java/lang/invoke/VarHandle") ∧ (parseMethodDescriptor y_Th_propertiesWith.desc).map (fun d => d.parameters.length) = some 1 := by decide +kernel
abbrev b_Th_propertiesWithout : ByteArray := prog_8_method_4_code
abbrev y_Th_propertiesWithout : MethodName := ⟨"GraphKeep$Thing", "propertiesWithout", "(I)[LGraphKeep$Property;"⟩
theorem hy_Th_propertiesWithout : (y_Th_propertiesWithout.cls ≠ "java/lang/invoke/MethodHandle" ∧ y_Th_propertiesWithout.cls ≠ "java/lang/invoke/VarHandle") ∧ (parseMethodDescriptor y_Th_propertiesWithout.desc).map (fun d => d.parameters.length) = some 1 := by decide +kernel
abbrev b_Th_placeOf : ByteArray := prog_8_method_5_code
abbrev y_Th_placeOf : MethodName := ⟨"GraphKeep$Thing", "placeOf", "(I)I"⟩
theorem hy_Th_placeOf : (y_Th_placeOf.cls ≠ "java/lang/invoke/MethodHandle" ∧ y_Th_placeOf.cls ≠ "java/lang/invoke/VarHandle") ∧ (parseMethodDescriptor y_Th_placeOf.desc).map (fun d => d.parameters.length) = some 1 := by decide +kernel
abbrev b_GK_init : ByteArray := prog_1_method_1_code
abbrev y_GK_init : MethodName := ⟨"GraphKeep", "<init>", "()V"⟩
theorem hy_GK_init : (y_GK_init.cls ≠ "java/lang/invoke/MethodHandle" ∧ y_GK_init.cls ≠ "java/lang/invoke/VarHandle") ∧ (parseMethodDescriptor y_GK_init.desc).map (fun d => d.parameters.length) = some 0 := by decide +kernel
abbrev b_GK_type : ByteArray := prog_1_method_2_code
abbrev y_GK_type : MethodName := ⟨"GraphKeep", "type", "(JI)Z"⟩
theorem hy_GK_type : (y_GK_type.cls ≠ "java/lang/invoke/MethodHandle" ∧ y_GK_type.cls ≠ "java/lang/invoke/VarHandle") ∧ (parseMethodDescriptor y_GK_type.desc).map (fun d => d.parameters.length) = some 2 := by decide +kernel
abbrev b_GK_node : ByteArray := prog_1_method_3_code
abbrev y_GK_node : MethodName := ⟨"GraphKeep", "node", "()I"⟩
theorem hy_GK_node : (y_GK_node.cls ≠ "java/lang/invoke/MethodHandle" ∧ y_GK_node.cls ≠ "java/lang/invoke/VarHandle") ∧ (parseMethodDescriptor y_GK_node.desc).map (fun d => d.parameters.length) = some 0 := by decide +kernel
abbrev b_GK_label : ByteArray := prog_1_method_4_code
abbrev y_GK_label : MethodName := ⟨"GraphKeep", "label", "(IIZ)Z"⟩
theorem hy_GK_label : (y_GK_label.cls ≠ "java/lang/invoke/MethodHandle" ∧ y_GK_label.cls ≠ "java/lang/invoke/VarHandle") ∧ (parseMethodDescriptor y_GK_label.desc).map (fun d => d.parameters.length) = some 3 := by decide +kernel
abbrev b_GK_property : ByteArray := prog_1_method_5_code
abbrev y_GK_property : MethodName := ⟨"GraphKeep", "property", "(IIIIJ)Z"⟩
theorem hy_GK_property : (y_GK_property.cls ≠ "java/lang/invoke/MethodHandle" ∧ y_GK_property.cls ≠ "java/lang/invoke/VarHandle") ∧ (parseMethodDescriptor y_GK_property.desc).map (fun d => d.parameters.length) = some 5 := by decide +kernel
abbrev b_GK_link : ByteArray := prog_1_method_6_code
abbrev y_GK_link : MethodName := ⟨"GraphKeep", "link", "(III)I"⟩
theorem hy_GK_link : (y_GK_link.cls ≠ "java/lang/invoke/MethodHandle" ∧ y_GK_link.cls ≠ "java/lang/invoke/VarHandle") ∧ (parseMethodDescriptor y_GK_link.desc).map (fun d => d.parameters.length) = some 3 := by decide +kernel
abbrev b_GK_take : ByteArray := prog_1_method_7_code
abbrev y_GK_take : MethodName := ⟨"GraphKeep", "take", "(II)V"⟩
theorem hy_GK_take : (y_GK_take.cls ≠ "java/lang/invoke/MethodHandle" ∧ y_GK_take.cls ≠ "java/lang/invoke/VarHandle") ∧ (parseMethodDescriptor y_GK_take.desc).map (fun d => d.parameters.length) = some 2 := by decide +kernel
abbrev b_GK_error : ByteArray := prog_1_method_8_code
abbrev y_GK_error : MethodName := ⟨"GraphKeep", "error", "()I"⟩
theorem hy_GK_error : (y_GK_error.cls ≠ "java/lang/invoke/MethodHandle" ∧ y_GK_error.cls ≠ "java/lang/invoke/VarHandle") ∧ (parseMethodDescriptor y_GK_error.desc).map (fun d => d.parameters.length) = some 0 := by decide +kernel
abbrev b_GK_done : ByteArray := prog_1_method_9_code
abbrev y_GK_done : MethodName := ⟨"GraphKeep", "done", "()I"⟩
theorem hy_GK_done : (y_GK_done.cls ≠ "java/lang/invoke/MethodHandle" ∧ y_GK_done.cls ≠ "java/lang/invoke/VarHandle") ∧ (parseMethodDescriptor y_GK_done.desc).map (fun d => d.parameters.length) = some 0 := by decide +kernel
abbrev b_GK_undo : ByteArray := prog_1_method_10_code
abbrev y_GK_undo : MethodName := ⟨"GraphKeep", "undo", "()I"⟩
theorem hy_GK_undo : (y_GK_undo.cls ≠ "java/lang/invoke/MethodHandle" ∧ y_GK_undo.cls ≠ "java/lang/invoke/VarHandle") ∧ (parseMethodDescriptor y_GK_undo.desc).map (fun d => d.parameters.length) = some 0 := by decide +kernel
abbrev b_GK_begin : ByteArray := prog_1_method_11_code
abbrev y_GK_begin : MethodName := ⟨"GraphKeep", "begin", "()Z"⟩
theorem hy_GK_begin : (y_GK_begin.cls ≠ "java/lang/invoke/MethodHandle" ∧ y_GK_begin.cls ≠ "java/lang/invoke/VarHandle") ∧ (parseMethodDescriptor y_GK_begin.desc).map (fun d => d.parameters.length) = some 0 := by decide +kernel
abbrev b_GK_commit : ByteArray := prog_1_method_12_code
abbrev y_GK_commit : MethodName := ⟨"GraphKeep", "commit", "()I"⟩
theorem hy_GK_commit : (y_GK_commit.cls ≠ "java/lang/invoke/MethodHandle" ∧ y_GK_commit.cls ≠ "java/lang/invoke/VarHandle") ∧ (parseMethodDescriptor y_GK_commit.desc).map (fun d => d.parameters.length) = some 0 := by decide +kernel
abbrev b_GK_rollback : ByteArray := prog_1_method_13_code
abbrev y_GK_rollback : MethodName := ⟨"GraphKeep", "rollback", "()Z"⟩
theorem hy_GK_rollback : (y_GK_rollback.cls ≠ "java/lang/invoke/MethodHandle" ∧ y_GK_rollback.cls ≠ "java/lang/invoke/VarHandle") ∧ (parseMethodDescriptor y_GK_rollback.desc).map (fun d => d.parameters.length) = some 0 := by decide +kernel
abbrev b_GK_checkpoint : ByteArray := prog_1_method_14_code
abbrev y_GK_checkpoint : MethodName := ⟨"GraphKeep", "checkpoint", "()I"⟩
theorem hy_GK_checkpoint : (y_GK_checkpoint.cls ≠ "java/lang/invoke/MethodHandle" ∧ y_GK_checkpoint.cls ≠ "java/lang/invoke/VarHandle") ∧ (parseMethodDescriptor y_GK_checkpoint.desc).map (fun d => d.parameters.length) = some 0 := by decide +kernel
abbrev b_GK_cut : ByteArray := prog_1_method_15_code
abbrev y_GK_cut : MethodName := ⟨"GraphKeep", "cut", "(I)Z"⟩
theorem hy_GK_cut : (y_GK_cut.cls ≠ "java/lang/invoke/MethodHandle" ∧ y_GK_cut.cls ≠ "java/lang/invoke/VarHandle") ∧ (parseMethodDescriptor y_GK_cut.desc).map (fun d => d.parameters.length) = some 1 := by decide +kernel
abbrev b_GK_recover : ByteArray := prog_1_method_16_code
abbrev y_GK_recover : MethodName := ⟨"GraphKeep", "recover", "()I"⟩
theorem hy_GK_recover : (y_GK_recover.cls ≠ "java/lang/invoke/MethodHandle" ∧ y_GK_recover.cls ≠ "java/lang/invoke/VarHandle") ∧ (parseMethodDescriptor y_GK_recover.desc).map (fun d => d.parameters.length) = some 0 := by decide +kernel
abbrev b_GK_thing : ByteArray := prog_1_method_17_code
abbrev y_GK_thing : MethodName := ⟨"GraphKeep", "thing", "(III)I"⟩
theorem hy_GK_thing : (y_GK_thing.cls ≠ "java/lang/invoke/MethodHandle" ∧ y_GK_thing.cls ≠ "java/lang/invoke/VarHandle") ∧ (parseMethodDescriptor y_GK_thing.desc).map (fun d => d.parameters.length) = some 3 := by decide +kernel
abbrev b_GK_chain : ByteArray := prog_1_method_18_code
abbrev y_GK_chain : MethodName := ⟨"GraphKeep", "chain", "(IZI)I"⟩
theorem hy_GK_chain : (y_GK_chain.cls ≠ "java/lang/invoke/MethodHandle" ∧ y_GK_chain.cls ≠ "java/lang/invoke/VarHandle") ∧ (parseMethodDescriptor y_GK_chain.desc).map (fun d => d.parameters.length) = some 3 := by decide +kernel
abbrev b_GK_has : ByteArray := prog_1_method_19_code
abbrev y_GK_has : MethodName := ⟨"GraphKeep", "has", "(II)Z"⟩
theorem hy_GK_has : (y_GK_has.cls ≠ "java/lang/invoke/MethodHandle" ∧ y_GK_has.cls ≠ "java/lang/invoke/VarHandle") ∧ (parseMethodDescriptor y_GK_has.desc).map (fun d => d.parameters.length) = some 2 := by decide +kernel
abbrev b_GK_value : ByteArray := prog_1_method_20_code
abbrev y_GK_value : MethodName := ⟨"GraphKeep", "value", "(IIII)J"⟩
theorem hy_GK_value : (y_GK_value.cls ≠ "java/lang/invoke/MethodHandle" ∧ y_GK_value.cls ≠ "java/lang/invoke/VarHandle") ∧ (parseMethodDescriptor y_GK_value.desc).map (fun d => d.parameters.length) = some 4 := by decide +kernel
abbrev b_GK_state : ByteArray := prog_1_method_21_code
abbrev y_GK_state : MethodName := ⟨"GraphKeep", "state", "(I)I"⟩
theorem hy_GK_state : (y_GK_state.cls ≠ "java/lang/invoke/MethodHandle" ∧ y_GK_state.cls ≠ "java/lang/invoke/VarHandle") ∧ (parseMethodDescriptor y_GK_state.desc).map (fun d => d.parameters.length) = some 1 := by decide +kernel
abbrev b_GK_mustBeOn : ByteArray := prog_1_method_22_code
abbrev y_GK_mustBeOn : MethodName := ⟨"GraphKeep", "mustBeOn", "()V"⟩
theorem hy_GK_mustBeOn : (y_GK_mustBeOn.cls ≠ "java/lang/invoke/MethodHandle" ∧ y_GK_mustBeOn.cls ≠ "java/lang/invoke/VarHandle") ∧ (parseMethodDescriptor y_GK_mustBeOn.desc).map (fun d => d.parameters.length) = some 0 := by decide +kernel
abbrev b_GK_refuse : ByteArray := prog_1_method_23_code
abbrev y_GK_refuse : MethodName := ⟨"GraphKeep", "refuse", "(I)V"⟩
theorem hy_GK_refuse : (y_GK_refuse.cls ≠ "java/lang/invoke/MethodHandle" ∧ y_GK_refuse.cls ≠ "java/lang/invoke/VarHandle") ∧ (parseMethodDescriptor y_GK_refuse.desc).map (fun d => d.parameters.length) = some 1 := by decide +kernel
abbrev b_GK_wantedNode : ByteArray := prog_1_method_24_code
abbrev y_GK_wantedNode : MethodName := ⟨"GraphKeep", "wantedNode", "(I)LGraphKeep$Node;"⟩
theorem hy_GK_wantedNode : (y_GK_wantedNode.cls ≠ "java/lang/invoke/MethodHandle" ∧ y_GK_wantedNode.cls ≠ "java/lang/invoke/VarHandle") ∧ (parseMethodDescriptor y_GK_wantedNode.desc).map (fun d => d.parameters.length) = some 1 := by decide +kernel
abbrev b_GK_wantedThing : ByteArray := prog_1_method_25_code
abbrev y_GK_wantedThing : MethodName := ⟨"GraphKeep", "wantedThing", "(II)LGraphKeep$Thing;"⟩
theorem hy_GK_wantedThing : (y_GK_wantedThing.cls ≠ "java/lang/invoke/MethodHandle" ∧ y_GK_wantedThing.cls ≠ "java/lang/invoke/VarHandle") ∧ (parseMethodDescriptor y_GK_wantedThing.desc).map (fun d => d.parameters.length) = some 2 := by decide +kernel
abbrev b_GK_mustBeValue : ByteArray := prog_1_method_26_code
abbrev y_GK_mustBeValue : MethodName := ⟨"GraphKeep", "mustBeValue", "(IJ)V"⟩
theorem hy_GK_mustBeValue : (y_GK_mustBeValue.cls ≠ "java/lang/invoke/MethodHandle" ∧ y_GK_mustBeValue.cls ≠ "java/lang/invoke/VarHandle") ∧ (parseMethodDescriptor y_GK_mustBeValue.desc).map (fun d => d.parameters.length) = some 2 := by decide +kernel
abbrev b_GK_mustBeLess : ByteArray := prog_1_method_27_code
abbrev y_GK_mustBeLess : MethodName := ⟨"GraphKeep", "mustBeLess", "(II)V"⟩
theorem hy_GK_mustBeLess : (y_GK_mustBeLess.cls ≠ "java/lang/invoke/MethodHandle" ∧ y_GK_mustBeLess.cls ≠ "java/lang/invoke/VarHandle") ∧ (parseMethodDescriptor y_GK_mustBeLess.desc).map (fun d => d.parameters.length) = some 2 := by decide +kernel
abbrev b_GK_freeNumber : ByteArray := prog_1_method_28_code
abbrev y_GK_freeNumber : MethodName := ⟨"GraphKeep", "freeNumber", "(I[Z)I"⟩
theorem hy_GK_freeNumber : (y_GK_freeNumber.cls ≠ "java/lang/invoke/MethodHandle" ∧ y_GK_freeNumber.cls ≠ "java/lang/invoke/VarHandle") ∧ (parseMethodDescriptor y_GK_freeNumber.desc).map (fun d => d.parameters.length) = some 2 := by decide +kernel
abbrev b_GK_countChange : ByteArray := prog_1_method_29_code
abbrev y_GK_countChange : MethodName := ⟨"GraphKeep", "countChange", "()V"⟩
theorem hy_GK_countChange : (y_GK_countChange.cls ≠ "java/lang/invoke/MethodHandle" ∧ y_GK_countChange.cls ≠ "java/lang/invoke/VarHandle") ∧ (parseMethodDescriptor y_GK_countChange.desc).map (fun d => d.parameters.length) = some 0 := by decide +kernel
abbrev b_GK_dropProperty : ByteArray := prog_1_method_30_code
abbrev y_GK_dropProperty : MethodName := ⟨"GraphKeep", "dropProperty", "(LGraphKeep$Thing;II)Z"⟩
theorem hy_GK_dropProperty : (y_GK_dropProperty.cls ≠ "java/lang/invoke/MethodHandle" ∧ y_GK_dropProperty.cls ≠ "java/lang/invoke/VarHandle") ∧ (parseMethodDescriptor y_GK_dropProperty.desc).map (fun d => d.parameters.length) = some 3 := by decide +kernel
abbrev b_GK_putProperty : ByteArray := prog_1_method_31_code
abbrev y_GK_putProperty : MethodName := ⟨"GraphKeep", "putProperty", "(LGraphKeep$Thing;ILGraphKeep$Property;)Z"⟩
theorem hy_GK_putProperty : (y_GK_putProperty.cls ≠ "java/lang/invoke/MethodHandle" ∧ y_GK_putProperty.cls ≠ "java/lang/invoke/VarHandle") ∧ (parseMethodDescriptor y_GK_putProperty.desc).map (fun d => d.parameters.length) = some 3 := by decide +kernel
abbrev b_GK_takeNode : ByteArray := prog_1_method_32_code
abbrev y_GK_takeNode : MethodName := ⟨"GraphKeep", "takeNode", "(I)V"⟩
theorem hy_GK_takeNode : (y_GK_takeNode.cls ≠ "java/lang/invoke/MethodHandle" ∧ y_GK_takeNode.cls ≠ "java/lang/invoke/VarHandle") ∧ (parseMethodDescriptor y_GK_takeNode.desc).map (fun d => d.parameters.length) = some 1 := by decide +kernel
abbrev b_GK_takeLink : ByteArray := prog_1_method_33_code
abbrev y_GK_takeLink : MethodName := ⟨"GraphKeep", "takeLink", "(I)V"⟩
theorem hy_GK_takeLink : (y_GK_takeLink.cls ≠ "java/lang/invoke/MethodHandle" ∧ y_GK_takeLink.cls ≠ "java/lang/invoke/VarHandle") ∧ (parseMethodDescriptor y_GK_takeLink.desc).map (fun d => d.parameters.length) = some 1 := by decide +kernel
abbrev b_GK_mark : ByteArray := prog_1_method_34_code
abbrev y_GK_mark : MethodName := ⟨"GraphKeep", "mark", "([ZI)V"⟩
theorem hy_GK_mark : (y_GK_mark.cls ≠ "java/lang/invoke/MethodHandle" ∧ y_GK_mark.cls ≠ "java/lang/invoke/VarHandle") ∧ (parseMethodDescriptor y_GK_mark.desc).map (fun d => d.parameters.length) = some 2 := by decide +kernel
abbrev b_GK_keep : ByteArray := prog_1_method_35_code
abbrev y_GK_keep : MethodName := ⟨"GraphKeep", "keep", "(I)V"⟩
theorem hy_GK_keep : (y_GK_keep.cls ≠ "java/lang/invoke/MethodHandle" ∧ y_GK_keep.cls ≠ "java/lang/invoke/VarHandle") ∧ (parseMethodDescriptor y_GK_keep.desc).map (fun d => d.parameters.length) = some 1 := by decide +kernel
abbrev b_GK_goOff : ByteArray := prog_1_method_36_code
abbrev y_GK_goOff : MethodName := ⟨"GraphKeep", "goOff", "()V"⟩
theorem hy_GK_goOff : (y_GK_goOff.cls ≠ "java/lang/invoke/MethodHandle" ∧ y_GK_goOff.cls ≠ "java/lang/invoke/VarHandle") ∧ (parseMethodDescriptor y_GK_goOff.desc).map (fun d => d.parameters.length) = some 0 := by decide +kernel
abbrev b_GK_closeStatement : ByteArray := prog_1_method_37_code
abbrev y_GK_closeStatement : MethodName := ⟨"GraphKeep", "closeStatement", "()V"⟩
theorem hy_GK_closeStatement : (y_GK_closeStatement.cls ≠ "java/lang/invoke/MethodHandle" ∧ y_GK_closeStatement.cls ≠ "java/lang/invoke/VarHandle") ∧ (parseMethodDescriptor y_GK_closeStatement.desc).map (fun d => d.parameters.length) = some 0 := by decide +kernel
abbrev b_GK_undoStatement : ByteArray := prog_1_method_38_code
abbrev y_GK_undoStatement : MethodName := ⟨"GraphKeep", "undoStatement", "()V"⟩
theorem hy_GK_undoStatement : (y_GK_undoStatement.cls ≠ "java/lang/invoke/MethodHandle" ∧ y_GK_undoStatement.cls ≠ "java/lang/invoke/VarHandle") ∧ (parseMethodDescriptor y_GK_undoStatement.desc).map (fun d => d.parameters.length) = some 0 := by decide +kernel
abbrev b_GK_startStatement : ByteArray := prog_1_method_39_code
abbrev y_GK_startStatement : MethodName := ⟨"GraphKeep", "startStatement", "()V"⟩
theorem hy_GK_startStatement : (y_GK_startStatement.cls ≠ "java/lang/invoke/MethodHandle" ∧ y_GK_startStatement.cls ≠ "java/lang/invoke/VarHandle") ∧ (parseMethodDescriptor y_GK_startStatement.desc).map (fun d => d.parameters.length) = some 0 := by decide +kernel
abbrev b_GK_forgetUnderWay : ByteArray := prog_1_method_40_code
abbrev y_GK_forgetUnderWay : MethodName := ⟨"GraphKeep", "forgetUnderWay", "()V"⟩
theorem hy_GK_forgetUnderWay : (y_GK_forgetUnderWay.cls ≠ "java/lang/invoke/MethodHandle" ∧ y_GK_forgetUnderWay.cls ≠ "java/lang/invoke/VarHandle") ∧ (parseMethodDescriptor y_GK_forgetUnderWay.desc).map (fun d => d.parameters.length) = some 0 := by decide +kernel
abbrev b_GK_restoreKept : ByteArray := prog_1_method_41_code
abbrev y_GK_restoreKept : MethodName := ⟨"GraphKeep", "restoreKept", "()V"⟩
theorem hy_GK_restoreKept : (y_GK_restoreKept.cls ≠ "java/lang/invoke/MethodHandle" ∧ y_GK_restoreKept.cls ≠ "java/lang/invoke/VarHandle") ∧ (parseMethodDescriptor y_GK_restoreKept.desc).map (fun d => d.parameters.length) = some 0 := by decide +kernel
abbrev b_GK_nodeFact : ByteArray := prog_1_method_42_code
abbrev y_GK_nodeFact : MethodName := ⟨"GraphKeep", "nodeFact", "(LGraphKeep$Node;II)I"⟩
theorem hy_GK_nodeFact : (y_GK_nodeFact.cls ≠ "java/lang/invoke/MethodHandle" ∧ y_GK_nodeFact.cls ≠ "java/lang/invoke/VarHandle") ∧ (parseMethodDescriptor y_GK_nodeFact.desc).map (fun d => d.parameters.length) = some 3 := by decide +kernel
abbrev b_GK_linkFact : ByteArray := prog_1_method_43_code
abbrev y_GK_linkFact : MethodName := ⟨"GraphKeep", "linkFact", "(LGraphKeep$Link;I)I"⟩
theorem hy_GK_linkFact : (y_GK_linkFact.cls ≠ "java/lang/invoke/MethodHandle" ∧ y_GK_linkFact.cls ≠ "java/lang/invoke/VarHandle") ∧ (parseMethodDescriptor y_GK_linkFact.desc).map (fun d => d.parameters.length) = some 2 := by decide +kernel
abbrev b_Law_node : ByteArray := method_3_code
abbrev y_Law_node : MethodName := ⟨"GraphKeepLaw", "node", "(LGraphKeep;[J)I"⟩
theorem hy_Law_node : (y_Law_node.cls ≠ "java/lang/invoke/MethodHandle" ∧ y_Law_node.cls ≠ "java/lang/invoke/VarHandle") ∧ (parseMethodDescriptor y_Law_node.desc).map (fun d => d.parameters.length) = some 2 := by decide +kernel
abbrev b_Law_label : ByteArray := method_4_code
abbrev y_Law_label : MethodName := ⟨"GraphKeepLaw", "label", "(LGraphKeep;IIZ[J)I"⟩
theorem hy_Law_label : (y_Law_label.cls ≠ "java/lang/invoke/MethodHandle" ∧ y_Law_label.cls ≠ "java/lang/invoke/VarHandle") ∧ (parseMethodDescriptor y_Law_label.desc).map (fun d => d.parameters.length) = some 5 := by decide +kernel
abbrev b_Law_property : ByteArray := method_5_code
abbrev y_Law_property : MethodName := ⟨"GraphKeepLaw", "property", "(LGraphKeep;IIIIJ[J)I"⟩
theorem hy_Law_property : (y_Law_property.cls ≠ "java/lang/invoke/MethodHandle" ∧ y_Law_property.cls ≠ "java/lang/invoke/VarHandle") ∧ (parseMethodDescriptor y_Law_property.desc).map (fun d => d.parameters.length) = some 7 := by decide +kernel
abbrev b_Law_link : ByteArray := method_6_code
abbrev y_Law_link : MethodName := ⟨"GraphKeepLaw", "link", "(LGraphKeep;III[J)I"⟩
theorem hy_Law_link : (y_Law_link.cls ≠ "java/lang/invoke/MethodHandle" ∧ y_Law_link.cls ≠ "java/lang/invoke/VarHandle") ∧ (parseMethodDescriptor y_Law_link.desc).map (fun d => d.parameters.length) = some 5 := by decide +kernel
abbrev b_Law_take : ByteArray := method_7_code
abbrev y_Law_take : MethodName := ⟨"GraphKeepLaw", "take", "(LGraphKeep;II)I"⟩
theorem hy_Law_take : (y_Law_take.cls ≠ "java/lang/invoke/MethodHandle" ∧ y_Law_take.cls ≠ "java/lang/invoke/VarHandle") ∧ (parseMethodDescriptor y_Law_take.desc).map (fun d => d.parameters.length) = some 3 := by decide +kernel
abbrev b_Law_done : ByteArray := method_8_code
abbrev y_Law_done : MethodName := ⟨"GraphKeepLaw", "done", "(LGraphKeep;[J)I"⟩
theorem hy_Law_done : (y_Law_done.cls ≠ "java/lang/invoke/MethodHandle" ∧ y_Law_done.cls ≠ "java/lang/invoke/VarHandle") ∧ (parseMethodDescriptor y_Law_done.desc).map (fun d => d.parameters.length) = some 2 := by decide +kernel
abbrev b_Law_commit : ByteArray := method_9_code
abbrev y_Law_commit : MethodName := ⟨"GraphKeepLaw", "commit", "(LGraphKeep;[J)I"⟩
theorem hy_Law_commit : (y_Law_commit.cls ≠ "java/lang/invoke/MethodHandle" ∧ y_Law_commit.cls ≠ "java/lang/invoke/VarHandle") ∧ (parseMethodDescriptor y_Law_commit.desc).map (fun d => d.parameters.length) = some 2 := by decide +kernel
abbrev b_Law_checkpoint : ByteArray := method_10_code
abbrev y_Law_checkpoint : MethodName := ⟨"GraphKeepLaw", "checkpoint", "(LGraphKeep;[J)I"⟩
theorem hy_Law_checkpoint : (y_Law_checkpoint.cls ≠ "java/lang/invoke/MethodHandle" ∧ y_Law_checkpoint.cls ≠ "java/lang/invoke/VarHandle") ∧ (parseMethodDescriptor y_Law_checkpoint.desc).map (fun d => d.parameters.length) = some 2 := by decide +kernel
abbrev b_Law_value : ByteArray := method_11_code
abbrev y_Law_value : MethodName := ⟨"GraphKeepLaw", "value", "(LGraphKeep;IIII[J)I"⟩
theorem hy_Law_value : (y_Law_value.cls ≠ "java/lang/invoke/MethodHandle" ∧ y_Law_value.cls ≠ "java/lang/invoke/VarHandle") ∧ (parseMethodDescriptor y_Law_value.desc).map (fun d => d.parameters.length) = some 6 := by decide +kernel
abbrev b_Law_law : ByteArray := code
abbrev y_Law_law : MethodName := ⟨"GraphKeepLaw", "law", "([I)Z"⟩
theorem hy_Law_law : (y_Law_law.cls ≠ "java/lang/invoke/MethodHandle" ∧ y_Law_law.cls ≠ "java/lang/invoke/VarHandle") ∧ (parseMethodDescriptor y_Law_law.desc).map (fun d => d.parameters.length) = some 1 := by decide +kernel
abbrev b_Model_init : ByteArray := prog_10_method_1_code
abbrev y_Model_init : MethodName := ⟨"GraphKeepModel", "<init>", "()V"⟩
theorem hy_Model_init : (y_Model_init.cls ≠ "java/lang/invoke/MethodHandle" ∧ y_Model_init.cls ≠ "java/lang/invoke/VarHandle") ∧ (parseMethodDescriptor y_Model_init.desc).map (fun d => d.parameters.length) = some 0 := by decide +kernel
abbrev b_Model_thrown : ByteArray := prog_10_method_2_code
abbrev y_Model_thrown : MethodName := ⟨"GraphKeepModel", "thrown", "()I"⟩
theorem hy_Model_thrown : (y_Model_thrown.cls ≠ "java/lang/invoke/MethodHandle" ∧ y_Model_thrown.cls ≠ "java/lang/invoke/VarHandle") ∧ (parseMethodDescriptor y_Model_thrown.desc).map (fun d => d.parameters.length) = some 0 := by decide +kernel
abbrev b_Model_copyThing : ByteArray := prog_10_method_3_code
abbrev y_Model_copyThing : MethodName := ⟨"GraphKeepModel", "copyThing", "(II)V"⟩
theorem hy_Model_copyThing : (y_Model_copyThing.cls ≠ "java/lang/invoke/MethodHandle" ∧ y_Model_copyThing.cls ≠ "java/lang/invoke/VarHandle") ∧ (parseMethodDescriptor y_Model_copyThing.desc).map (fun d => d.parameters.length) = some 2 := by decide +kernel
abbrev b_Model_copy : ByteArray := prog_10_method_4_code
abbrev y_Model_copy : MethodName := ⟨"GraphKeepModel", "copy", "(II)V"⟩
theorem hy_Model_copy : (y_Model_copy.cls ≠ "java/lang/invoke/MethodHandle" ∧ y_Model_copy.cls ≠ "java/lang/invoke/VarHandle") ∧ (parseMethodDescriptor y_Model_copy.desc).map (fun d => d.parameters.length) = some 2 := by decide +kernel
abbrev b_Model_erase : ByteArray := prog_10_method_5_code
abbrev y_Model_erase : MethodName := ⟨"GraphKeepModel", "erase", "()V"⟩
theorem hy_Model_erase : (y_Model_erase.cls ≠ "java/lang/invoke/MethodHandle" ∧ y_Model_erase.cls ≠ "java/lang/invoke/VarHandle") ∧ (parseMethodDescriptor y_Model_erase.desc).map (fun d => d.parameters.length) = some 0 := by decide +kernel
abbrev b_Model_find : ByteArray := prog_10_method_6_code
abbrev y_Model_find : MethodName := ⟨"GraphKeepModel", "find", "(II)I"⟩
theorem hy_Model_find : (y_Model_find.cls ≠ "java/lang/invoke/MethodHandle" ∧ y_Model_find.cls ≠ "java/lang/invoke/VarHandle") ∧ (parseMethodDescriptor y_Model_find.desc).map (fun d => d.parameters.length) = some 2 := by decide +kernel
abbrev b_Model_propertyOf : ByteArray := prog_10_method_7_code
abbrev y_Model_propertyOf : MethodName := ⟨"GraphKeepModel", "propertyOf", "(II)I"⟩
theorem hy_Model_propertyOf : (y_Model_propertyOf.cls ≠ "java/lang/invoke/MethodHandle" ∧ y_Model_propertyOf.cls ≠ "java/lang/invoke/VarHandle") ∧ (parseMethodDescriptor y_Model_propertyOf.desc).map (fun d => d.parameters.length) = some 2 := by decide +kernel
abbrev b_Model_isLabeled : ByteArray := prog_10_method_8_code
abbrev y_Model_isLabeled : MethodName := ⟨"GraphKeepModel", "isLabeled", "(II)Z"⟩
theorem hy_Model_isLabeled : (y_Model_isLabeled.cls ≠ "java/lang/invoke/MethodHandle" ∧ y_Model_isLabeled.cls ≠ "java/lang/invoke/VarHandle") ∧ (parseMethodDescriptor y_Model_isLabeled.desc).map (fun d => d.parameters.length) = some 2 := by decide +kernel
abbrev b_Model_links : ByteArray := prog_10_method_9_code
abbrev y_Model_links : MethodName := ⟨"GraphKeepModel", "links", "(IZ)I"⟩
theorem hy_Model_links : (y_Model_links.cls ≠ "java/lang/invoke/MethodHandle" ∧ y_Model_links.cls ≠ "java/lang/invoke/VarHandle") ∧ (parseMethodDescriptor y_Model_links.desc).map (fun d => d.parameters.length) = some 2 := by decide +kernel
abbrev b_Model_free : ByteArray := prog_10_method_10_code
abbrev y_Model_free : MethodName := ⟨"GraphKeepModel", "free", "(II)I"⟩
theorem hy_Model_free : (y_Model_free.cls ≠ "java/lang/invoke/MethodHandle" ∧ y_Model_free.cls ≠ "java/lang/invoke/VarHandle") ∧ (parseMethodDescriptor y_Model_free.desc).map (fun d => d.parameters.length) = some 2 := by decide +kernel
abbrev b_Model_settle : ByteArray := prog_10_method_11_code
abbrev y_Model_settle : MethodName := ⟨"GraphKeepModel", "settle", "()V"⟩
theorem hy_Model_settle : (y_Model_settle.cls ≠ "java/lang/invoke/MethodHandle" ∧ y_Model_settle.cls ≠ "java/lang/invoke/VarHandle") ∧ (parseMethodDescriptor y_Model_settle.desc).map (fun d => d.parameters.length) = some 0 := by decide +kernel
abbrev b_Model_fails : ByteArray := prog_10_method_12_code
abbrev y_Model_fails : MethodName := ⟨"GraphKeepModel", "fails", "(ZZZZZ)Z"⟩
theorem hy_Model_fails : (y_Model_fails.cls ≠ "java/lang/invoke/MethodHandle" ∧ y_Model_fails.cls ≠ "java/lang/invoke/VarHandle") ∧ (parseMethodDescriptor y_Model_fails.desc).map (fun d => d.parameters.length) = some 5 := by decide +kernel
abbrev b_Model_begins : ByteArray := prog_10_method_13_code
abbrev y_Model_begins : MethodName := ⟨"GraphKeepModel", "begins", "()V"⟩
theorem hy_Model_begins : (y_Model_begins.cls ≠ "java/lang/invoke/MethodHandle" ∧ y_Model_begins.cls ≠ "java/lang/invoke/VarHandle") ∧ (parseMethodDescriptor y_Model_begins.desc).map (fun d => d.parameters.length) = some 0 := by decide +kernel
abbrev b_Model_back : ByteArray := prog_10_method_14_code
abbrev y_Model_back : MethodName := ⟨"GraphKeepModel", "back", "()V"⟩
theorem hy_Model_back : (y_Model_back.cls ≠ "java/lang/invoke/MethodHandle" ∧ y_Model_back.cls ≠ "java/lang/invoke/VarHandle") ∧ (parseMethodDescriptor y_Model_back.desc).map (fun d => d.parameters.length) = some 0 := by decide +kernel
abbrev b_Model_write : ByteArray := prog_10_method_15_code
abbrev y_Model_write : MethodName := ⟨"GraphKeepModel", "write", "()Z"⟩
theorem hy_Model_write : (y_Model_write.cls ≠ "java/lang/invoke/MethodHandle" ∧ y_Model_write.cls ≠ "java/lang/invoke/VarHandle") ∧ (parseMethodDescriptor y_Model_write.desc).map (fun d => d.parameters.length) = some 0 := by decide +kernel
abbrev b_Model_log : ByteArray := prog_10_method_16_code
abbrev y_Model_log : MethodName := ⟨"GraphKeepModel", "log", "(I)Z"⟩
theorem hy_Model_log : (y_Model_log.cls ≠ "java/lang/invoke/MethodHandle" ∧ y_Model_log.cls ≠ "java/lang/invoke/VarHandle") ∧ (parseMethodDescriptor y_Model_log.desc).map (fun d => d.parameters.length) = some 1 := by decide +kernel
abbrev b_Model_fits : ByteArray := prog_10_method_17_code
abbrev y_Model_fits : MethodName := ⟨"GraphKeepModel", "fits", "(I)Z"⟩
theorem hy_Model_fits : (y_Model_fits.cls ≠ "java/lang/invoke/MethodHandle" ∧ y_Model_fits.cls ≠ "java/lang/invoke/VarHandle") ∧ (parseMethodDescriptor y_Model_fits.desc).map (fun d => d.parameters.length) = some 1 := by decide +kernel
abbrev b_Model_type : ByteArray := prog_10_method_18_code
abbrev y_Model_type : MethodName := ⟨"GraphKeepModel", "type", "(JI)Z"⟩
theorem hy_Model_type : (y_Model_type.cls ≠ "java/lang/invoke/MethodHandle" ∧ y_Model_type.cls ≠ "java/lang/invoke/VarHandle") ∧ (parseMethodDescriptor y_Model_type.desc).map (fun d => d.parameters.length) = some 2 := by decide +kernel
abbrev b_Model_node : ByteArray := prog_10_method_19_code
abbrev y_Model_node : MethodName := ⟨"GraphKeepModel", "node", "()I"⟩
theorem hy_Model_node : (y_Model_node.cls ≠ "java/lang/invoke/MethodHandle" ∧ y_Model_node.cls ≠ "java/lang/invoke/VarHandle") ∧ (parseMethodDescriptor y_Model_node.desc).map (fun d => d.parameters.length) = some 0 := by decide +kernel
abbrev b_Model_label : ByteArray := prog_10_method_20_code
abbrev y_Model_label : MethodName := ⟨"GraphKeepModel", "label", "(IIZ)Z"⟩
theorem hy_Model_label : (y_Model_label.cls ≠ "java/lang/invoke/MethodHandle" ∧ y_Model_label.cls ≠ "java/lang/invoke/VarHandle") ∧ (parseMethodDescriptor y_Model_label.desc).map (fun d => d.parameters.length) = some 3 := by decide +kernel
abbrev b_Model_isSame : ByteArray := prog_10_method_21_code
abbrev y_Model_isSame : MethodName := ⟨"GraphKeepModel", "isSame", "(IIJ)Z"⟩
theorem hy_Model_isSame : (y_Model_isSame.cls ≠ "java/lang/invoke/MethodHandle" ∧ y_Model_isSame.cls ≠ "java/lang/invoke/VarHandle") ∧ (parseMethodDescriptor y_Model_isSame.desc).map (fun d => d.parameters.length) = some 3 := by decide +kernel
abbrev b_Model_lay : ByteArray := prog_10_method_22_code
abbrev y_Model_lay : MethodName := ⟨"GraphKeepModel", "lay", "(IIIJ)V"⟩
theorem hy_Model_lay : (y_Model_lay.cls ≠ "java/lang/invoke/MethodHandle" ∧ y_Model_lay.cls ≠ "java/lang/invoke/VarHandle") ∧ (parseMethodDescriptor y_Model_lay.desc).map (fun d => d.parameters.length) = some 4 := by decide +kernel
abbrev b_Model_dropProperty : ByteArray := prog_10_method_23_code
abbrev y_Model_dropProperty : MethodName := ⟨"GraphKeepModel", "dropProperty", "(II)V"⟩
theorem hy_Model_dropProperty : (y_Model_dropProperty.cls ≠ "java/lang/invoke/MethodHandle" ∧ y_Model_dropProperty.cls ≠ "java/lang/invoke/VarHandle") ∧ (parseMethodDescriptor y_Model_dropProperty.desc).map (fun d => d.parameters.length) = some 2 := by decide +kernel
abbrev b_Model_property : ByteArray := prog_10_method_24_code
abbrev y_Model_property : MethodName := ⟨"GraphKeepModel", "property", "(IIIIJ)Z"⟩
theorem hy_Model_property : (y_Model_property.cls ≠ "java/lang/invoke/MethodHandle" ∧ y_Model_property.cls ≠ "java/lang/invoke/VarHandle") ∧ (parseMethodDescriptor y_Model_property.desc).map (fun d => d.parameters.length) = some 5 := by decide +kernel
abbrev b_Model_link : ByteArray := prog_10_method_25_code
abbrev y_Model_link : MethodName := ⟨"GraphKeepModel", "link", "(III)I"⟩
theorem hy_Model_link : (y_Model_link.cls ≠ "java/lang/invoke/MethodHandle" ∧ y_Model_link.cls ≠ "java/lang/invoke/VarHandle") ∧ (parseMethodDescriptor y_Model_link.desc).map (fun d => d.parameters.length) = some 3 := by decide +kernel
abbrev b_Model_take : ByteArray := prog_10_method_26_code
abbrev y_Model_take : MethodName := ⟨"GraphKeepModel", "take", "(II)V"⟩
theorem hy_Model_take : (y_Model_take.cls ≠ "java/lang/invoke/MethodHandle" ∧ y_Model_take.cls ≠ "java/lang/invoke/VarHandle") ∧ (parseMethodDescriptor y_Model_take.desc).map (fun d => d.parameters.length) = some 2 := by decide +kernel
abbrev b_Model_error : ByteArray := prog_10_method_27_code
abbrev y_Model_error : MethodName := ⟨"GraphKeepModel", "error", "()I"⟩
theorem hy_Model_error : (y_Model_error.cls ≠ "java/lang/invoke/MethodHandle" ∧ y_Model_error.cls ≠ "java/lang/invoke/VarHandle") ∧ (parseMethodDescriptor y_Model_error.desc).map (fun d => d.parameters.length) = some 0 := by decide +kernel
abbrev b_Model_done : ByteArray := prog_10_method_28_code
abbrev y_Model_done : MethodName := ⟨"GraphKeepModel", "done", "()I"⟩
theorem hy_Model_done : (y_Model_done.cls ≠ "java/lang/invoke/MethodHandle" ∧ y_Model_done.cls ≠ "java/lang/invoke/VarHandle") ∧ (parseMethodDescriptor y_Model_done.desc).map (fun d => d.parameters.length) = some 0 := by decide +kernel
abbrev b_Model_undo : ByteArray := prog_10_method_29_code
abbrev y_Model_undo : MethodName := ⟨"GraphKeepModel", "undo", "()I"⟩
theorem hy_Model_undo : (y_Model_undo.cls ≠ "java/lang/invoke/MethodHandle" ∧ y_Model_undo.cls ≠ "java/lang/invoke/VarHandle") ∧ (parseMethodDescriptor y_Model_undo.desc).map (fun d => d.parameters.length) = some 0 := by decide +kernel
abbrev b_Model_begin : ByteArray := prog_10_method_30_code
abbrev y_Model_begin : MethodName := ⟨"GraphKeepModel", "begin", "()Z"⟩
theorem hy_Model_begin : (y_Model_begin.cls ≠ "java/lang/invoke/MethodHandle" ∧ y_Model_begin.cls ≠ "java/lang/invoke/VarHandle") ∧ (parseMethodDescriptor y_Model_begin.desc).map (fun d => d.parameters.length) = some 0 := by decide +kernel
abbrev b_Model_commit : ByteArray := prog_10_method_31_code
abbrev y_Model_commit : MethodName := ⟨"GraphKeepModel", "commit", "()I"⟩
theorem hy_Model_commit : (y_Model_commit.cls ≠ "java/lang/invoke/MethodHandle" ∧ y_Model_commit.cls ≠ "java/lang/invoke/VarHandle") ∧ (parseMethodDescriptor y_Model_commit.desc).map (fun d => d.parameters.length) = some 0 := by decide +kernel
abbrev b_Model_rollback : ByteArray := prog_10_method_32_code
abbrev y_Model_rollback : MethodName := ⟨"GraphKeepModel", "rollback", "()Z"⟩
theorem hy_Model_rollback : (y_Model_rollback.cls ≠ "java/lang/invoke/MethodHandle" ∧ y_Model_rollback.cls ≠ "java/lang/invoke/VarHandle") ∧ (parseMethodDescriptor y_Model_rollback.desc).map (fun d => d.parameters.length) = some 0 := by decide +kernel
abbrev b_Model_count : ByteArray := prog_10_method_33_code
abbrev y_Model_count : MethodName := ⟨"GraphKeepModel", "count", "(II)I"⟩
theorem hy_Model_count : (y_Model_count.cls ≠ "java/lang/invoke/MethodHandle" ∧ y_Model_count.cls ≠ "java/lang/invoke/VarHandle") ∧ (parseMethodDescriptor y_Model_count.desc).map (fun d => d.parameters.length) = some 2 := by decide +kernel
abbrev b_Model_checkpoint : ByteArray := prog_10_method_34_code
abbrev y_Model_checkpoint : MethodName := ⟨"GraphKeepModel", "checkpoint", "()I"⟩
theorem hy_Model_checkpoint : (y_Model_checkpoint.cls ≠ "java/lang/invoke/MethodHandle" ∧ y_Model_checkpoint.cls ≠ "java/lang/invoke/VarHandle") ∧ (parseMethodDescriptor y_Model_checkpoint.desc).map (fun d => d.parameters.length) = some 0 := by decide +kernel
abbrev b_Model_cut : ByteArray := prog_10_method_35_code
abbrev y_Model_cut : MethodName := ⟨"GraphKeepModel", "cut", "(I)Z"⟩
theorem hy_Model_cut : (y_Model_cut.cls ≠ "java/lang/invoke/MethodHandle" ∧ y_Model_cut.cls ≠ "java/lang/invoke/VarHandle") ∧ (parseMethodDescriptor y_Model_cut.desc).map (fun d => d.parameters.length) = some 1 := by decide +kernel
abbrev b_Model_recover : ByteArray := prog_10_method_36_code
abbrev y_Model_recover : MethodName := ⟨"GraphKeepModel", "recover", "()I"⟩
theorem hy_Model_recover : (y_Model_recover.cls ≠ "java/lang/invoke/MethodHandle" ∧ y_Model_recover.cls ≠ "java/lang/invoke/VarHandle") ∧ (parseMethodDescriptor y_Model_recover.desc).map (fun d => d.parameters.length) = some 0 := by decide +kernel
abbrev b_Model_thing : ByteArray := prog_10_method_37_code
abbrev y_Model_thing : MethodName := ⟨"GraphKeepModel", "thing", "(III)I"⟩
theorem hy_Model_thing : (y_Model_thing.cls ≠ "java/lang/invoke/MethodHandle" ∧ y_Model_thing.cls ≠ "java/lang/invoke/VarHandle") ∧ (parseMethodDescriptor y_Model_thing.desc).map (fun d => d.parameters.length) = some 3 := by decide +kernel
abbrev b_Model_chain : ByteArray := prog_10_method_38_code
abbrev y_Model_chain : MethodName := ⟨"GraphKeepModel", "chain", "(IZI)I"⟩
theorem hy_Model_chain : (y_Model_chain.cls ≠ "java/lang/invoke/MethodHandle" ∧ y_Model_chain.cls ≠ "java/lang/invoke/VarHandle") ∧ (parseMethodDescriptor y_Model_chain.desc).map (fun d => d.parameters.length) = some 3 := by decide +kernel
abbrev b_Model_has : ByteArray := prog_10_method_39_code
abbrev y_Model_has : MethodName := ⟨"GraphKeepModel", "has", "(II)Z"⟩
theorem hy_Model_has : (y_Model_has.cls ≠ "java/lang/invoke/MethodHandle" ∧ y_Model_has.cls ≠ "java/lang/invoke/VarHandle") ∧ (parseMethodDescriptor y_Model_has.desc).map (fun d => d.parameters.length) = some 2 := by decide +kernel
abbrev b_Model_value : ByteArray := prog_10_method_40_code
abbrev y_Model_value : MethodName := ⟨"GraphKeepModel", "value", "(IIII)J"⟩
theorem hy_Model_value : (y_Model_value.cls ≠ "java/lang/invoke/MethodHandle" ∧ y_Model_value.cls ≠ "java/lang/invoke/VarHandle") ∧ (parseMethodDescriptor y_Model_value.desc).map (fun d => d.parameters.length) = some 4 := by decide +kernel
abbrev b_Model_state : ByteArray := prog_10_method_41_code
abbrev y_Model_state : MethodName := ⟨"GraphKeepModel", "state", "(I)I"⟩
theorem hy_Model_state : (y_Model_state.cls ≠ "java/lang/invoke/MethodHandle" ∧ y_Model_state.cls ≠ "java/lang/invoke/VarHandle") ∧ (parseMethodDescriptor y_Model_state.desc).map (fun d => d.parameters.length) = some 1 := by decide +kernel
end
section
/-! WORDS: their places in the tables -/
theorem kn_Law : Cond.initialized "GraphKeepLaw" ∈ hv_Ts := hv_mem 0 (by decide +kernel) rfl
theorem kn_GK : Cond.initialized "GraphKeep" ∈ hv_Ts := hv_mem 1 (by decide +kernel) rfl
theorem kn_Gr : Cond.initialized "GraphKeep$Graph" ∈ hv_Ts := hv_mem 2 (by decide +kernel) rfl
theorem kn_Lg : Cond.initialized "GraphKeep$Log" ∈ hv_Ts := hv_mem 3 (by decide +kernel) rfl
theorem kn_Tp : Cond.initialized "GraphKeep$Tape" ∈ hv_Ts := hv_mem 4 (by decide +kernel) rfl
theorem kn_Model : Cond.initialized "GraphKeepModel" ∈ hv_Ts := hv_mem 5 (by decide +kernel) rfl
theorem kn_Throwable : Cond.initialized "java/lang/Throwable" ∈ hv_Ts := hv_mem 6 (by decide +kernel) rfl
theorem kn_Exception : Cond.initialized "java/lang/Exception" ∈ hv_Ts := hv_mem 7 (by decide +kernel) rfl
theorem kn_RuntimeException : Cond.initialized "java/lang/RuntimeException" ∈ hv_Ts := hv_mem 8 (by decide +kernel) rfl
theorem kn_IllegalStateException : Cond.initialized "java/lang/IllegalStateException" ∈ hv_Ts := hv_mem 9 (by decide +kernel) rfl
theorem kn_ArithmeticException : Cond.initialized "java/lang/ArithmeticException" ∈ hv_Ts := hv_mem 10 (by decide +kernel) rfl
theorem kn_Th : Cond.initialized "GraphKeep$Thing" ∈ hv_Ts := hv_mem 11 (by decide +kernel) rfl
theorem kn_Nd : Cond.initialized "GraphKeep$Node" ∈ hv_Ts := hv_mem 12 (by decide +kernel) rfl
theorem kn_Lk : Cond.initialized "GraphKeep$Link" ∈ hv_Ts := hv_mem 13 (by decide +kernel) rfl
theorem kn_Pr : Cond.initialized "GraphKeep$Property" ∈ hv_Ts := hv_mem 14 (by decide +kernel) rfl
theorem kn_Math : Cond.initialized "java/lang/Math" ∈ hv_Ts := hv_mem 15 (by decide +kernel) rfl
theorem kn_NoSuchElementException : Cond.initialized "java/util/NoSuchElementException" ∈ hv_Ts := hv_mem 16 (by decide +kernel) rfl
theorem k_Law_8 : Cond.classLink "GraphKeepLaw" 8 "GraphKeep" ∈ hv_Ts := hv_mem 17 (by decide +kernel) rfl
theorem kin_GK : Cond.instantiable "GraphKeep" 12 ∈ hv_Ts := hv_mem 18 (by decide +kernel) rfl
theorem k_Law_48 : Cond.methodLink "GraphKeepLaw" 48 ⟨"GraphKeep", "<init>", "()V"⟩ ∈ hv_Ts := hv_mem 19 (by decide +kernel) rfl
theorem ki_GK_init : Cond.instanceMethod ⟨"GraphKeep", "<init>", "()V"⟩ ∈ hv_Ts := hv_mem 20 (by decide +kernel) rfl
theorem kc_GK_init : Cond.code ⟨"GraphKeep", "<init>", "()V"⟩ prog_1_method_1_code 1 none ∈ hv_Ts := hv_mem 21 (by decide +kernel) rfl
theorem k_GK_1 : Cond.methodLink "GraphKeep" 1 ⟨"java/lang/Object", "<init>", "()V"⟩ ∈ hv_Ts := hv_mem 22 (by decide +kernel) rfl
theorem ki_objInit : Cond.instanceMethod Lib.objectInit ∈ hv_Ts := hv_mem 23 (by decide +kernel) rfl
theorem kc_objInit : Cond.code Lib.objectInit ⟨#[0xb1]⟩ 1 none ∈ hv_Ts := hv_mem 24 (by decide +kernel) rfl
theorem k_GK_7 : Cond.classLink "GraphKeep" 7 "GraphKeep$Graph" ∈ hv_Ts := hv_mem 25 (by decide +kernel) rfl
theorem kin_Gr : Cond.instantiable "GraphKeep$Graph" 2 ∈ hv_Ts := hv_mem 26 (by decide +kernel) rfl
theorem k_GK_9 : Cond.methodLinkNest "GraphKeep" 9 ⟨"GraphKeep$Graph", "<init>", "()V"⟩ "GraphKeep" ∈ lw_tbl := hv_memL 27 (by decide +kernel)
theorem ki_Gr_init : Cond.instanceMethod ⟨"GraphKeep$Graph", "<init>", "()V"⟩ ∈ hv_Ts := hv_mem 28 (by decide +kernel) rfl
theorem kc_Gr_init : Cond.code ⟨"GraphKeep$Graph", "<init>", "()V"⟩ prog_2_method_1_code 1 none ∈ hv_Ts := hv_mem 29 (by decide +kernel) rfl
theorem k_Gr_3 : Cond.methodLink "GraphKeep$Graph" 3 ⟨"java/lang/Object", "<init>", "()V"⟩ ∈ hv_Ts := hv_mem 30 (by decide +kernel) rfl
theorem k_Gr_9 : Cond.classLink "GraphKeep$Graph" 9 "GraphKeep$Node" ∈ hv_Ts := hv_mem 31 (by decide +kernel) rfl
theorem ko_Nd : Cond.arrayOver (.object "GraphKeep$Node") ∈ lw_tbl := hv_memL 32 (by decide +kernel)
theorem k_Gr_17 : Cond.classLink "GraphKeep$Graph" 17 "GraphKeep$Link" ∈ hv_Ts := hv_mem 33 (by decide +kernel) rfl
theorem ko_Lk : Cond.arrayOver (.object "GraphKeep$Link") ∈ lw_tbl := hv_memL 34 (by decide +kernel)
theorem k_Gr_11 : Cond.fieldLink "GraphKeep$Graph" 11 "GraphKeep$Graph" "nodes" "[LGraphKeep$Node;" ∈ hv_Ts := hv_mem 35 (by decide +kernel) rfl
theorem k_Gr_19 : Cond.fieldLink "GraphKeep$Graph" 19 "GraphKeep$Graph" "links" "[LGraphKeep$Link;" ∈ hv_Ts := hv_mem 36 (by decide +kernel) rfl
theorem k_GK_22 : Cond.classLink "GraphKeep" 22 "GraphKeep$Log" ∈ hv_Ts := hv_mem 42 (by decide +kernel) rfl
theorem kin_Lg : Cond.instantiable "GraphKeep$Log" 5 ∈ hv_Ts := hv_mem 43 (by decide +kernel) rfl
theorem k_GK_24 : Cond.methodLinkNest "GraphKeep" 24 ⟨"GraphKeep$Log", "<init>", "()V"⟩ "GraphKeep" ∈ lw_tbl := hv_memL 44 (by decide +kernel)
theorem ki_Lg_init : Cond.instanceMethod ⟨"GraphKeep$Log", "<init>", "()V"⟩ ∈ hv_Ts := hv_mem 45 (by decide +kernel) rfl
theorem kc_Lg_init : Cond.code ⟨"GraphKeep$Log", "<init>", "()V"⟩ prog_4_method_1_code 1 none ∈ hv_Ts := hv_mem 46 (by decide +kernel) rfl
theorem k_Lg_3 : Cond.methodLink "GraphKeep$Log" 3 ⟨"java/lang/Object", "<init>", "()V"⟩ ∈ hv_Ts := hv_mem 47 (by decide +kernel) rfl
theorem k_Lg_37 : Cond.fieldLink "GraphKeep$Log" 37 "GraphKeep$Log" "writes" "I" ∈ hv_Ts := hv_mem 48 (by decide +kernel) rfl
theorem k_GK_247 : Cond.fieldLink "GraphKeep" 247 "GraphKeep$Log" "writes" "I" ∈ hv_Ts := hv_mem 49 (by decide +kernel) rfl
theorem k_Lg_9 : Cond.fieldLink "GraphKeep$Log" 9 "GraphKeep$Log" "ended" "I" ∈ hv_Ts := hv_mem 50 (by decide +kernel) rfl
theorem k_GK_250 : Cond.fieldLink "GraphKeep" 250 "GraphKeep$Log" "ended" "I" ∈ hv_Ts := hv_mem 51 (by decide +kernel) rfl
theorem k_Lg_25 : Cond.fieldLink "GraphKeep$Log" 25 "GraphKeep$Log" "loose" "I" ∈ hv_Ts := hv_mem 52 (by decide +kernel) rfl
theorem k_GK_253 : Cond.fieldLink "GraphKeep" 253 "GraphKeep$Log" "loose" "I" ∈ hv_Ts := hv_mem 53 (by decide +kernel) rfl
theorem k_Lg_28 : Cond.fieldLink "GraphKeep$Log" 28 "GraphKeep$Log" "transactions" "I" ∈ hv_Ts := hv_mem 54 (by decide +kernel) rfl
theorem k_Lg_19 : Cond.fieldLink "GraphKeep$Log" 19 "GraphKeep$Log" "writesTillFailure" "I" ∈ hv_Ts := hv_mem 55 (by decide +kernel) rfl
theorem k_GK_29 : Cond.classLink "GraphKeep" 29 "GraphKeep$Tape" ∈ hv_Ts := hv_mem 67 (by decide +kernel) rfl
theorem kin_Tp : Cond.instantiable "GraphKeep$Tape" 2 ∈ hv_Ts := hv_mem 68 (by decide +kernel) rfl
theorem k_GK_31 : Cond.methodLinkNest "GraphKeep" 31 ⟨"GraphKeep$Tape", "<init>", "()V"⟩ "GraphKeep" ∈ lw_tbl := hv_memL 69 (by decide +kernel)
theorem ki_Tp_init : Cond.instanceMethod ⟨"GraphKeep$Tape", "<init>", "()V"⟩ ∈ hv_Ts := hv_mem 70 (by decide +kernel) rfl
theorem kc_Tp_init : Cond.code ⟨"GraphKeep$Tape", "<init>", "()V"⟩ prog_7_method_1_code 1 none ∈ hv_Ts := hv_mem 71 (by decide +kernel) rfl
theorem k_Tp_3 : Cond.methodLink "GraphKeep$Tape" 3 ⟨"java/lang/Object", "<init>", "()V"⟩ ∈ hv_Ts := hv_mem 72 (by decide +kernel) rfl
theorem k_Tp_9 : Cond.fieldLink "GraphKeep$Tape" 9 "GraphKeep$Tape" "characters" "[B" ∈ hv_Ts := hv_mem 73 (by decide +kernel) rfl
theorem k_Tp_15 : Cond.fieldLink "GraphKeep$Tape" 15 "GraphKeep$Tape" "length" "I" ∈ hv_Ts := hv_mem 74 (by decide +kernel) rfl
theorem ka_byte : Cond.arrayClass .byte ∈ hv_Ts := hv_mem 80 (by decide +kernel) rfl
theorem k_GK_10 : Cond.fieldLink "GraphKeep" 10 "GraphKeep" "now" "LGraphKeep$Graph;" ∈ hv_Ts := hv_mem 81 (by decide +kernel) rfl
theorem k_GK_16 : Cond.fieldLink "GraphKeep" 16 "GraphKeep" "atStatement" "LGraphKeep$Graph;" ∈ hv_Ts := hv_mem 82 (by decide +kernel) rfl
theorem k_GK_19 : Cond.fieldLink "GraphKeep" 19 "GraphKeep" "kept" "LGraphKeep$Graph;" ∈ hv_Ts := hv_mem 83 (by decide +kernel) rfl
theorem k_GK_25 : Cond.fieldLink "GraphKeep" 25 "GraphKeep" "log" "LGraphKeep$Log;" ∈ hv_Ts := hv_mem 84 (by decide +kernel) rfl
theorem k_GK_32 : Cond.fieldLink "GraphKeep" 32 "GraphKeep" "tape" "LGraphKeep$Tape;" ∈ hv_Ts := hv_mem 85 (by decide +kernel) rfl
theorem k_GK_36 : Cond.fieldLink "GraphKeep" 36 "GraphKeep" "goneNodes" "[Z" ∈ hv_Ts := hv_mem 86 (by decide +kernel) rfl
theorem k_GK_40 : Cond.fieldLink "GraphKeep" 40 "GraphKeep" "goneLinks" "[Z" ∈ hv_Ts := hv_mem 87 (by decide +kernel) rfl
theorem k_GK_129 : Cond.fieldLink "GraphKeep" 129 "GraphKeep" "latestError" "I" ∈ hv_Ts := hv_mem 88 (by decide +kernel) rfl
theorem k_GK_133 : Cond.fieldLink "GraphKeep" 133 "GraphKeep" "statementChanges" "I" ∈ hv_Ts := hv_mem 89 (by decide +kernel) rfl
theorem k_GK_162 : Cond.fieldLink "GraphKeep" 162 "GraphKeep" "earlierChanges" "I" ∈ hv_Ts := hv_mem 90 (by decide +kernel) rfl
theorem k_GK_136 : Cond.fieldLink "GraphKeep" 136 "GraphKeep" "inTransaction" "Z" ∈ hv_Ts := hv_mem 91 (by decide +kernel) rfl
theorem k_GK_159 : Cond.fieldLink "GraphKeep" 159 "GraphKeep" "off" "Z" ∈ hv_Ts := hv_mem 92 (by decide +kernel) rfl
theorem ka_boolean : Cond.arrayClass .boolean ∈ hv_Ts := hv_mem 118 (by decide +kernel) rfl
theorem k_Law_54 : Cond.methodLink "GraphKeepLaw" 54 ⟨"GraphKeep", "type", "(JI)Z"⟩ ∈ hv_Ts := hv_mem 119 (by decide +kernel) rfl
theorem ki_GK_type : Cond.instanceMethod ⟨"GraphKeep", "type", "(JI)Z"⟩ ∈ hv_Ts := hv_mem 120 (by decide +kernel) rfl
theorem ksel_GK_GK_type : Cond.selects "GraphKeep" ⟨"GraphKeep", "type", "(JI)Z"⟩ ⟨"GraphKeep", "type", "(JI)Z"⟩ ∈ hv_Ts := hv_mem 121 (by decide +kernel) rfl
theorem kc_GK_type : Cond.code ⟨"GraphKeep", "type", "(JI)Z"⟩ prog_1_method_2_code 4 (some .boolean) ∈ hv_Ts := hv_mem 122 (by decide +kernel) rfl
theorem k_GK_43 : Cond.methodLink "GraphKeep" 43 ⟨"GraphKeep$Tape", "append", "(JI)Z"⟩ ∈ hv_Ts := hv_mem 123 (by decide +kernel) rfl
theorem ki_Tp_append : Cond.instanceMethod ⟨"GraphKeep$Tape", "append", "(JI)Z"⟩ ∈ hv_Ts := hv_mem 124 (by decide +kernel) rfl
theorem ksel_Tp_Tp_append : Cond.selects "GraphKeep$Tape" ⟨"GraphKeep$Tape", "append", "(JI)Z"⟩ ⟨"GraphKeep$Tape", "append", "(JI)Z"⟩ ∈ hv_Ts := hv_mem 125 (by decide +kernel) rfl
theorem kc_Tp_append : Cond.code ⟨"GraphKeep$Tape", "append", "(JI)Z"⟩ prog_7_method_2_code 5 (some .boolean) ∈ hv_Ts := hv_mem 126 (by decide +kernel) rfl
theorem k_Tp_19 : Cond.methodLink "GraphKeep$Tape" 19 ⟨"GraphKeep$Tape", "byteOf", "(JI)I"⟩ ∈ hv_Ts := hv_mem 127 (by decide +kernel) rfl
theorem ki_Tp_byteOf : Cond.static ⟨"GraphKeep$Tape", "byteOf", "(JI)I"⟩ ∈ hv_Ts := hv_mem 128 (by decide +kernel) rfl
theorem kc_Tp_byteOf : Cond.code ⟨"GraphKeep$Tape", "byteOf", "(JI)I"⟩ prog_7_method_4_code 3 (some .int) ∈ hv_Ts := hv_mem 129 (by decide +kernel) rfl
theorem k_Law_84 : Cond.methodLink "GraphKeepLaw" 84 ⟨"GraphKeep", "error", "()I"⟩ ∈ hv_Ts := hv_mem 130 (by decide +kernel) rfl
theorem ki_GK_error : Cond.instanceMethod ⟨"GraphKeep", "error", "()I"⟩ ∈ hv_Ts := hv_mem 131 (by decide +kernel) rfl
theorem ksel_GK_GK_error : Cond.selects "GraphKeep" ⟨"GraphKeep", "error", "()I"⟩ ⟨"GraphKeep", "error", "()I"⟩ ∈ hv_Ts := hv_mem 132 (by decide +kernel) rfl
theorem kc_GK_error : Cond.code ⟨"GraphKeep", "error", "()I"⟩ prog_1_method_8_code 1 (some .int) ∈ hv_Ts := hv_mem 133 (by decide +kernel) rfl
theorem k_Law_91 : Cond.methodLink "GraphKeepLaw" 91 ⟨"GraphKeep", "undo", "()I"⟩ ∈ hv_Ts := hv_mem 134 (by decide +kernel) rfl
theorem ki_GK_undo : Cond.instanceMethod ⟨"GraphKeep", "undo", "()I"⟩ ∈ hv_Ts := hv_mem 135 (by decide +kernel) rfl
theorem ksel_GK_GK_undo : Cond.selects "GraphKeep" ⟨"GraphKeep", "undo", "()I"⟩ ⟨"GraphKeep", "undo", "()I"⟩ ∈ hv_Ts := hv_mem 136 (by decide +kernel) rfl
theorem kc_GK_undo : Cond.code ⟨"GraphKeep", "undo", "()I"⟩ prog_1_method_10_code 2 (some .int) ∈ hv_Ts := hv_mem 137 (by decide +kernel) rfl
theorem k_GK_143 : Cond.methodLink "GraphKeep" 143 ⟨"GraphKeep", "undoStatement", "()V"⟩ ∈ hv_Ts := hv_mem 138 (by decide +kernel) rfl
theorem kpr_GK_undoStatement : Cond.privateMethod ⟨"GraphKeep", "undoStatement", "()V"⟩ ∈ lw_tbl := hv_memL 139 (by decide +kernel)
theorem ki_GK_undoStatement : Cond.instanceMethod ⟨"GraphKeep", "undoStatement", "()V"⟩ ∈ hv_Ts := hv_mem 140 (by decide +kernel) rfl
theorem kc_GK_undoStatement : Cond.code ⟨"GraphKeep", "undoStatement", "()V"⟩ prog_1_method_38_code 1 none ∈ hv_Ts := hv_mem 141 (by decide +kernel) rfl
theorem k_GK_297 : Cond.methodLink "GraphKeep" 297 ⟨"GraphKeep$Graph", "copyFrom", "(LGraphKeep$Graph;)V"⟩ ∈ hv_Ts := hv_mem 142 (by decide +kernel) rfl
theorem ki_Gr_copyFrom : Cond.instanceMethod ⟨"GraphKeep$Graph", "copyFrom", "(LGraphKeep$Graph;)V"⟩ ∈ hv_Ts := hv_mem 143 (by decide +kernel) rfl
theorem ksel_Gr_Gr_copyFrom : Cond.selects "GraphKeep$Graph" ⟨"GraphKeep$Graph", "copyFrom", "(LGraphKeep$Graph;)V"⟩ ⟨"GraphKeep$Graph", "copyFrom", "(LGraphKeep$Graph;)V"⟩ ∈ hv_Ts := hv_mem 144 (by decide +kernel) rfl
theorem kc_Gr_copyFrom : Cond.code ⟨"GraphKeep$Graph", "copyFrom", "(LGraphKeep$Graph;)V"⟩ prog_2_method_13_code 3 none ∈ hv_Ts := hv_mem 145 (by decide +kernel) rfl
theorem k_Gr_23 : Cond.methodLink "GraphKeep$Graph" 23 ⟨"GraphKeep$Graph", "nodeAt", "(I)LGraphKeep$Node;"⟩ ∈ hv_Ts := hv_mem 146 (by decide +kernel) rfl
theorem ki_Gr_nodeAt : Cond.instanceMethod ⟨"GraphKeep$Graph", "nodeAt", "(I)LGraphKeep$Node;"⟩ ∈ hv_Ts := hv_mem 147 (by decide +kernel) rfl
theorem ksel_Gr_Gr_nodeAt : Cond.selects "GraphKeep$Graph" ⟨"GraphKeep$Graph", "nodeAt", "(I)LGraphKeep$Node;"⟩ ⟨"GraphKeep$Graph", "nodeAt", "(I)LGraphKeep$Node;"⟩ ∈ hv_Ts := hv_mem 148 (by decide +kernel) rfl
theorem kc_Gr_nodeAt : Cond.code ⟨"GraphKeep$Graph", "nodeAt", "(I)LGraphKeep$Node;"⟩ prog_2_method_2_code 2 (some (.object "GraphKeep$Node")) ∈ hv_Ts := hv_mem 149 (by decide +kernel) rfl
theorem k_Gr_27 : Cond.methodLink "GraphKeep$Graph" 27 ⟨"GraphKeep$Graph", "linkAt", "(I)LGraphKeep$Link;"⟩ ∈ hv_Ts := hv_mem 150 (by decide +kernel) rfl
theorem ki_Gr_linkAt : Cond.instanceMethod ⟨"GraphKeep$Graph", "linkAt", "(I)LGraphKeep$Link;"⟩ ∈ hv_Ts := hv_mem 151 (by decide +kernel) rfl
theorem ksel_Gr_Gr_linkAt : Cond.selects "GraphKeep$Graph" ⟨"GraphKeep$Graph", "linkAt", "(I)LGraphKeep$Link;"⟩ ⟨"GraphKeep$Graph", "linkAt", "(I)LGraphKeep$Link;"⟩ ∈ hv_Ts := hv_mem 152 (by decide +kernel) rfl
theorem kc_Gr_linkAt : Cond.code ⟨"GraphKeep$Graph", "linkAt", "(I)LGraphKeep$Link;"⟩ prog_2_method_3_code 2 (some (.object "GraphKeep$Link")) ∈ hv_Ts := hv_mem 153 (by decide +kernel) rfl
theorem k_GK_304 : Cond.methodLink "GraphKeep" 304 ⟨"GraphKeep", "startStatement", "()V"⟩ ∈ hv_Ts := hv_mem 154 (by decide +kernel) rfl
theorem kpr_GK_startStatement : Cond.privateMethod ⟨"GraphKeep", "startStatement", "()V"⟩ ∈ lw_tbl := hv_memL 155 (by decide +kernel)
theorem ki_GK_startStatement : Cond.instanceMethod ⟨"GraphKeep", "startStatement", "()V"⟩ ∈ hv_Ts := hv_mem 156 (by decide +kernel) rfl
theorem kc_GK_startStatement : Cond.code ⟨"GraphKeep", "startStatement", "()V"⟩ prog_1_method_39_code 2 none ∈ hv_Ts := hv_mem 157 (by decide +kernel) rfl
theorem k_Law_95 : Cond.methodLink "GraphKeepLaw" 95 ⟨"GraphKeep", "begin", "()Z"⟩ ∈ hv_Ts := hv_mem 158 (by decide +kernel) rfl
theorem ki_GK_begin : Cond.instanceMethod ⟨"GraphKeep", "begin", "()Z"⟩ ∈ hv_Ts := hv_mem 159 (by decide +kernel) rfl
theorem ksel_GK_GK_begin : Cond.selects "GraphKeep" ⟨"GraphKeep", "begin", "()Z"⟩ ⟨"GraphKeep", "begin", "()Z"⟩ ∈ hv_Ts := hv_mem 160 (by decide +kernel) rfl
theorem kc_GK_begin : Cond.code ⟨"GraphKeep", "begin", "()Z"⟩ prog_1_method_11_code 1 (some .boolean) ∈ hv_Ts := hv_mem 161 (by decide +kernel) rfl
theorem k_Law_103 : Cond.methodLink "GraphKeepLaw" 103 ⟨"GraphKeep", "rollback", "()Z"⟩ ∈ hv_Ts := hv_mem 162 (by decide +kernel) rfl
theorem ki_GK_rollback : Cond.instanceMethod ⟨"GraphKeep", "rollback", "()Z"⟩ ∈ hv_Ts := hv_mem 163 (by decide +kernel) rfl
theorem ksel_GK_GK_rollback : Cond.selects "GraphKeep" ⟨"GraphKeep", "rollback", "()Z"⟩ ⟨"GraphKeep", "rollback", "()Z"⟩ ∈ hv_Ts := hv_mem 164 (by decide +kernel) rfl
theorem kc_GK_rollback : Cond.code ⟨"GraphKeep", "rollback", "()Z"⟩ prog_1_method_13_code 1 (some .boolean) ∈ hv_Ts := hv_mem 165 (by decide +kernel) rfl
theorem k_GK_172 : Cond.methodLink "GraphKeep" 172 ⟨"GraphKeep", "restoreKept", "()V"⟩ ∈ hv_Ts := hv_mem 166 (by decide +kernel) rfl
theorem kpr_GK_restoreKept : Cond.privateMethod ⟨"GraphKeep", "restoreKept", "()V"⟩ ∈ lw_tbl := hv_memL 167 (by decide +kernel)
theorem ki_GK_restoreKept : Cond.instanceMethod ⟨"GraphKeep", "restoreKept", "()V"⟩ ∈ hv_Ts := hv_mem 168 (by decide +kernel) rfl
theorem kc_GK_restoreKept : Cond.code ⟨"GraphKeep", "restoreKept", "()V"⟩ prog_1_method_41_code 1 none ∈ hv_Ts := hv_mem 169 (by decide +kernel) rfl
theorem k_GK_165 : Cond.methodLink "GraphKeep" 165 ⟨"GraphKeep", "forgetUnderWay", "()V"⟩ ∈ hv_Ts := hv_mem 170 (by decide +kernel) rfl
theorem kpr_GK_forgetUnderWay : Cond.privateMethod ⟨"GraphKeep", "forgetUnderWay", "()V"⟩ ∈ lw_tbl := hv_memL 171 (by decide +kernel)
theorem ki_GK_forgetUnderWay : Cond.instanceMethod ⟨"GraphKeep", "forgetUnderWay", "()V"⟩ ∈ hv_Ts := hv_mem 172 (by decide +kernel) rfl
theorem kc_GK_forgetUnderWay : Cond.code ⟨"GraphKeep", "forgetUnderWay", "()V"⟩ prog_1_method_40_code 1 none ∈ hv_Ts := hv_mem 173 (by decide +kernel) rfl
theorem k_Law_110 : Cond.methodLink "GraphKeepLaw" 110 ⟨"GraphKeep", "cut", "(I)Z"⟩ ∈ hv_Ts := hv_mem 174 (by decide +kernel) rfl
theorem ki_GK_cut : Cond.instanceMethod ⟨"GraphKeep", "cut", "(I)Z"⟩ ∈ hv_Ts := hv_mem 175 (by decide +kernel) rfl
theorem ksel_GK_GK_cut : Cond.selects "GraphKeep" ⟨"GraphKeep", "cut", "(I)Z"⟩ ⟨"GraphKeep", "cut", "(I)Z"⟩ ∈ hv_Ts := hv_mem 176 (by decide +kernel) rfl
theorem kc_GK_cut : Cond.code ⟨"GraphKeep", "cut", "(I)Z"⟩ prog_1_method_15_code 2 (some .boolean) ∈ hv_Ts := hv_mem 177 (by decide +kernel) rfl
theorem k_GK_193 : Cond.methodLink "GraphKeep" 193 ⟨"GraphKeep$Log", "failAt", "(I)V"⟩ ∈ hv_Ts := hv_mem 178 (by decide +kernel) rfl
theorem ki_Lg_failAt : Cond.instanceMethod ⟨"GraphKeep$Log", "failAt", "(I)V"⟩ ∈ hv_Ts := hv_mem 179 (by decide +kernel) rfl
theorem ksel_Lg_Lg_failAt : Cond.selects "GraphKeep$Log" ⟨"GraphKeep$Log", "failAt", "(I)V"⟩ ⟨"GraphKeep$Log", "failAt", "(I)V"⟩ ∈ hv_Ts := hv_mem 180 (by decide +kernel) rfl
theorem kc_Lg_failAt : Cond.code ⟨"GraphKeep$Log", "failAt", "(I)V"⟩ prog_4_method_4_code 2 none ∈ hv_Ts := hv_mem 181 (by decide +kernel) rfl
theorem k_Law_115 : Cond.methodLink "GraphKeepLaw" 115 ⟨"GraphKeep", "recover", "()I"⟩ ∈ hv_Ts := hv_mem 182 (by decide +kernel) rfl
theorem ki_GK_recover : Cond.instanceMethod ⟨"GraphKeep", "recover", "()I"⟩ ∈ hv_Ts := hv_mem 183 (by decide +kernel) rfl
theorem ksel_GK_GK_recover : Cond.selects "GraphKeep" ⟨"GraphKeep", "recover", "()I"⟩ ⟨"GraphKeep", "recover", "()I"⟩ ∈ hv_Ts := hv_mem 184 (by decide +kernel) rfl
theorem kc_GK_recover : Cond.code ⟨"GraphKeep", "recover", "()I"⟩ prog_1_method_16_code 1 (some .int) ∈ hv_Ts := hv_mem 185 (by decide +kernel) rfl
theorem k_GK_196 : Cond.methodLink "GraphKeep" 196 ⟨"GraphKeep$Log", "reopen", "()I"⟩ ∈ hv_Ts := hv_mem 186 (by decide +kernel) rfl
theorem ki_Lg_reopen : Cond.instanceMethod ⟨"GraphKeep$Log", "reopen", "()I"⟩ ∈ hv_Ts := hv_mem 187 (by decide +kernel) rfl
theorem ksel_Lg_Lg_reopen : Cond.selects "GraphKeep$Log" ⟨"GraphKeep$Log", "reopen", "()I"⟩ ⟨"GraphKeep$Log", "reopen", "()I"⟩ ∈ hv_Ts := hv_mem 188 (by decide +kernel) rfl
theorem kc_Lg_reopen : Cond.code ⟨"GraphKeep$Log", "reopen", "()I"⟩ prog_4_method_7_code 1 (some .int) ∈ hv_Ts := hv_mem 189 (by decide +kernel) rfl
theorem k_Law_119 : Cond.methodLink "GraphKeepLaw" 119 ⟨"GraphKeep", "thing", "(III)I"⟩ ∈ hv_Ts := hv_mem 190 (by decide +kernel) rfl
theorem ki_GK_thing : Cond.instanceMethod ⟨"GraphKeep", "thing", "(III)I"⟩ ∈ hv_Ts := hv_mem 191 (by decide +kernel) rfl
theorem ksel_GK_GK_thing : Cond.selects "GraphKeep" ⟨"GraphKeep", "thing", "(III)I"⟩ ⟨"GraphKeep", "thing", "(III)I"⟩ ∈ hv_Ts := hv_mem 192 (by decide +kernel) rfl
theorem kc_GK_thing : Cond.code ⟨"GraphKeep", "thing", "(III)I"⟩ prog_1_method_17_code 6 (some .int) ∈ hv_Ts := hv_mem 193 (by decide +kernel) rfl
theorem k_GK_199 : Cond.methodLink "GraphKeep" 199 ⟨"GraphKeep$Graph", "thingAt", "(II)LGraphKeep$Thing;"⟩ ∈ hv_Ts := hv_mem 194 (by decide +kernel) rfl
theorem ki_Gr_thingAt : Cond.instanceMethod ⟨"GraphKeep$Graph", "thingAt", "(II)LGraphKeep$Thing;"⟩ ∈ hv_Ts := hv_mem 195 (by decide +kernel) rfl
theorem ksel_Gr_Gr_thingAt : Cond.selects "GraphKeep$Graph" ⟨"GraphKeep$Graph", "thingAt", "(II)LGraphKeep$Thing;"⟩ ⟨"GraphKeep$Graph", "thingAt", "(II)LGraphKeep$Thing;"⟩ ∈ hv_Ts := hv_mem 196 (by decide +kernel) rfl
theorem kc_Gr_thingAt : Cond.code ⟨"GraphKeep$Graph", "thingAt", "(II)LGraphKeep$Thing;"⟩ prog_2_method_4_code 3 (some (.object "GraphKeep$Thing")) ∈ hv_Ts := hv_mem 197 (by decide +kernel) rfl
theorem k_GK_57 : Cond.classLink "GraphKeep" 57 "GraphKeep$Node" ∈ hv_Ts := hv_mem 198 (by decide +kernel) rfl
theorem k_GK_208 : Cond.methodLink "GraphKeep" 208 ⟨"GraphKeep", "nodeFact", "(LGraphKeep$Node;II)I"⟩ ∈ hv_Ts := hv_mem 199 (by decide +kernel) rfl
theorem kpr_GK_nodeFact : Cond.privateMethod ⟨"GraphKeep", "nodeFact", "(LGraphKeep$Node;II)I"⟩ ∈ lw_tbl := hv_memL 200 (by decide +kernel)
theorem ki_GK_nodeFact : Cond.instanceMethod ⟨"GraphKeep", "nodeFact", "(LGraphKeep$Node;II)I"⟩ ∈ hv_Ts := hv_mem 201 (by decide +kernel) rfl
theorem kc_GK_nodeFact : Cond.code ⟨"GraphKeep", "nodeFact", "(LGraphKeep$Node;II)I"⟩ prog_1_method_42_code 4 (some .int) ∈ hv_Ts := hv_mem 202 (by decide +kernel) rfl
theorem k_GK_284 : Cond.methodLink "GraphKeep" 284 ⟨"GraphKeep$Graph", "countChain", "(IZ)I"⟩ ∈ hv_Ts := hv_mem 203 (by decide +kernel) rfl
theorem ki_Gr_countChain : Cond.instanceMethod ⟨"GraphKeep$Graph", "countChain", "(IZ)I"⟩ ∈ hv_Ts := hv_mem 204 (by decide +kernel) rfl
theorem ksel_Gr_Gr_countChain : Cond.selects "GraphKeep$Graph" ⟨"GraphKeep$Graph", "countChain", "(IZ)I"⟩ ⟨"GraphKeep$Graph", "countChain", "(IZ)I"⟩ ∈ hv_Ts := hv_mem 205 (by decide +kernel) rfl
theorem kc_Gr_countChain : Cond.code ⟨"GraphKeep$Graph", "countChain", "(IZ)I"⟩ prog_2_method_10_code 5 (some .int) ∈ hv_Ts := hv_mem 206 (by decide +kernel) rfl
theorem k_Gr_59 : Cond.methodLink "GraphKeep$Graph" 59 ⟨"GraphKeep$Graph", "isInChain", "(IIZ)Z"⟩ ∈ hv_Ts := hv_mem 207 (by decide +kernel) rfl
theorem kpr_Gr_isInChain : Cond.privateMethod ⟨"GraphKeep$Graph", "isInChain", "(IIZ)Z"⟩ ∈ lw_tbl := hv_memL 208 (by decide +kernel)
theorem ki_Gr_isInChain : Cond.instanceMethod ⟨"GraphKeep$Graph", "isInChain", "(IIZ)Z"⟩ ∈ hv_Ts := hv_mem 209 (by decide +kernel) rfl
theorem kc_Gr_isInChain : Cond.code ⟨"GraphKeep$Graph", "isInChain", "(IIZ)Z"⟩ prog_2_method_12_code 5 (some .boolean) ∈ hv_Ts := hv_mem 210 (by decide +kernel) rfl
theorem k_GK_113 : Cond.classLink "GraphKeep" 113 "GraphKeep$Link" ∈ hv_Ts := hv_mem 211 (by decide +kernel) rfl
theorem k_GK_212 : Cond.methodLink "GraphKeep" 212 ⟨"GraphKeep", "linkFact", "(LGraphKeep$Link;I)I"⟩ ∈ hv_Ts := hv_mem 212 (by decide +kernel) rfl
theorem ki_GK_linkFact : Cond.static ⟨"GraphKeep", "linkFact", "(LGraphKeep$Link;I)I"⟩ ∈ hv_Ts := hv_mem 213 (by decide +kernel) rfl
theorem kc_GK_linkFact : Cond.code ⟨"GraphKeep", "linkFact", "(LGraphKeep$Link;I)I"⟩ prog_1_method_43_code 2 (some .int) ∈ hv_Ts := hv_mem 214 (by decide +kernel) rfl
theorem k_Law_123 : Cond.methodLink "GraphKeepLaw" 123 ⟨"GraphKeep", "chain", "(IZI)I"⟩ ∈ hv_Ts := hv_mem 215 (by decide +kernel) rfl
theorem ki_GK_chain : Cond.instanceMethod ⟨"GraphKeep", "chain", "(IZI)I"⟩ ∈ hv_Ts := hv_mem 216 (by decide +kernel) rfl
theorem ksel_GK_GK_chain : Cond.selects "GraphKeep" ⟨"GraphKeep", "chain", "(IZI)I"⟩ ⟨"GraphKeep", "chain", "(IZI)I"⟩ ∈ hv_Ts := hv_mem 217 (by decide +kernel) rfl
theorem kc_GK_chain : Cond.code ⟨"GraphKeep", "chain", "(IZI)I"⟩ prog_1_method_18_code 4 (some .int) ∈ hv_Ts := hv_mem 218 (by decide +kernel) rfl
theorem k_GK_216 : Cond.methodLink "GraphKeep" 216 ⟨"GraphKeep$Graph", "linkInChain", "(IZI)I"⟩ ∈ hv_Ts := hv_mem 219 (by decide +kernel) rfl
theorem ki_Gr_linkInChain : Cond.instanceMethod ⟨"GraphKeep$Graph", "linkInChain", "(IZI)I"⟩ ∈ hv_Ts := hv_mem 220 (by decide +kernel) rfl
theorem ksel_Gr_Gr_linkInChain : Cond.selects "GraphKeep$Graph" ⟨"GraphKeep$Graph", "linkInChain", "(IZI)I"⟩ ⟨"GraphKeep$Graph", "linkInChain", "(IZI)I"⟩ ∈ hv_Ts := hv_mem 221 (by decide +kernel) rfl
theorem kc_Gr_linkInChain : Cond.code ⟨"GraphKeep$Graph", "linkInChain", "(IZI)I"⟩ prog_2_method_11_code 6 (some .int) ∈ hv_Ts := hv_mem 222 (by decide +kernel) rfl
theorem k_Law_128 : Cond.methodLink "GraphKeepLaw" 128 ⟨"GraphKeep", "has", "(II)Z"⟩ ∈ hv_Ts := hv_mem 223 (by decide +kernel) rfl
theorem ki_GK_has : Cond.instanceMethod ⟨"GraphKeep", "has", "(II)Z"⟩ ∈ hv_Ts := hv_mem 224 (by decide +kernel) rfl
theorem ksel_GK_GK_has : Cond.selects "GraphKeep" ⟨"GraphKeep", "has", "(II)Z"⟩ ⟨"GraphKeep", "has", "(II)Z"⟩ ∈ hv_Ts := hv_mem 225 (by decide +kernel) rfl
theorem kc_GK_has : Cond.code ⟨"GraphKeep", "has", "(II)Z"⟩ prog_1_method_19_code 4 (some .boolean) ∈ hv_Ts := hv_mem 226 (by decide +kernel) rfl
theorem k_GK_220 : Cond.methodLink "GraphKeep" 220 ⟨"GraphKeep$Graph", "nodeAt", "(I)LGraphKeep$Node;"⟩ ∈ hv_Ts := hv_mem 227 (by decide +kernel) rfl
theorem k_GK_72 : Cond.methodLink "GraphKeep" 72 ⟨"GraphKeep$Node", "isLabelled", "(I)Z"⟩ ∈ hv_Ts := hv_mem 228 (by decide +kernel) rfl
theorem ki_Nd_isLabelled : Cond.instanceMethod ⟨"GraphKeep$Node", "isLabelled", "(I)Z"⟩ ∈ hv_Ts := hv_mem 229 (by decide +kernel) rfl
theorem ksel_Nd_Nd_isLabelled : Cond.selects "GraphKeep$Node" ⟨"GraphKeep$Node", "isLabelled", "(I)Z"⟩ ⟨"GraphKeep$Node", "isLabelled", "(I)Z"⟩ ∈ hv_Ts := hv_mem 230 (by decide +kernel) rfl
theorem kc_Nd_isLabelled : Cond.code ⟨"GraphKeep$Node", "isLabelled", "(I)Z"⟩ prog_5_method_2_code 2 (some .boolean) ∈ hv_Ts := hv_mem 231 (by decide +kernel) rfl
theorem k_Nd_13 : Cond.methodLink "GraphKeep$Node" 13 ⟨"GraphKeep$Node", "placeOfLabel", "(I)I"⟩ ∈ hv_Ts := hv_mem 232 (by decide +kernel) rfl
theorem kpr_Nd_placeOfLabel : Cond.privateMethod ⟨"GraphKeep$Node", "placeOfLabel", "(I)I"⟩ ∈ lw_tbl := hv_memL 233 (by decide +kernel)
theorem ki_Nd_placeOfLabel : Cond.instanceMethod ⟨"GraphKeep$Node", "placeOfLabel", "(I)I"⟩ ∈ hv_Ts := hv_mem 234 (by decide +kernel) rfl
theorem kin_Nd : Cond.instantiable "GraphKeep$Node" 2 ∈ hv_Ts := hv_mem 235 (by decide +kernel) rfl
theorem kc_Nd_placeOfLabel : Cond.code ⟨"GraphKeep$Node", "placeOfLabel", "(I)I"⟩ prog_5_method_5_code 3 (some .int) ∈ hv_Ts := hv_mem 236 (by decide +kernel) rfl
theorem k_Law_137 : Cond.methodLink "GraphKeepLaw" 137 ⟨"GraphKeep", "state", "(I)I"⟩ ∈ hv_Ts := hv_mem 237 (by decide +kernel) rfl
theorem ki_GK_state : Cond.instanceMethod ⟨"GraphKeep", "state", "(I)I"⟩ ∈ hv_Ts := hv_mem 238 (by decide +kernel) rfl
theorem ksel_GK_GK_state : Cond.selects "GraphKeep" ⟨"GraphKeep", "state", "(I)I"⟩ ⟨"GraphKeep", "state", "(I)I"⟩ ∈ hv_Ts := hv_mem 239 (by decide +kernel) rfl
theorem kc_GK_state : Cond.code ⟨"GraphKeep", "state", "(I)I"⟩ prog_1_method_21_code 2 (some .int) ∈ hv_Ts := hv_mem 240 (by decide +kernel) rfl
theorem k_GK_175 : Cond.methodLink "GraphKeep" 175 ⟨"GraphKeep$Graph", "countNodes", "()I"⟩ ∈ hv_Ts := hv_mem 241 (by decide +kernel) rfl
theorem ki_Gr_countNodes : Cond.instanceMethod ⟨"GraphKeep$Graph", "countNodes", "()I"⟩ ∈ hv_Ts := hv_mem 242 (by decide +kernel) rfl
theorem ksel_Gr_Gr_countNodes : Cond.selects "GraphKeep$Graph" ⟨"GraphKeep$Graph", "countNodes", "()I"⟩ ⟨"GraphKeep$Graph", "countNodes", "()I"⟩ ∈ hv_Ts := hv_mem 243 (by decide +kernel) rfl
theorem kc_Gr_countNodes : Cond.code ⟨"GraphKeep$Graph", "countNodes", "()I"⟩ prog_2_method_8_code 3 (some .int) ∈ hv_Ts := hv_mem 244 (by decide +kernel) rfl
theorem k_GK_179 : Cond.methodLink "GraphKeep" 179 ⟨"GraphKeep$Graph", "countLinks", "()I"⟩ ∈ hv_Ts := hv_mem 245 (by decide +kernel) rfl
theorem ki_Gr_countLinks : Cond.instanceMethod ⟨"GraphKeep$Graph", "countLinks", "()I"⟩ ∈ hv_Ts := hv_mem 246 (by decide +kernel) rfl
theorem ksel_Gr_Gr_countLinks : Cond.selects "GraphKeep$Graph" ⟨"GraphKeep$Graph", "countLinks", "()I"⟩ ⟨"GraphKeep$Graph", "countLinks", "()I"⟩ ∈ hv_Ts := hv_mem 247 (by decide +kernel) rfl
theorem kc_Gr_countLinks : Cond.code ⟨"GraphKeep$Graph", "countLinks", "()I"⟩ prog_2_method_9_code 3 (some .int) ∈ hv_Ts := hv_mem 248 (by decide +kernel) rfl
theorem k_Law_59 : Cond.methodLink "GraphKeepLaw" 59 ⟨"GraphKeepLaw", "node", "(LGraphKeep;[J)I"⟩ ∈ hv_Ts := hv_mem 249 (by decide +kernel) rfl
theorem ki_Law_node : Cond.static ⟨"GraphKeepLaw", "node", "(LGraphKeep;[J)I"⟩ ∈ hv_Ts := hv_mem 250 (by decide +kernel) rfl
theorem kc_Law_node : Cond.codeWith ⟨"GraphKeepLaw", "node", "(LGraphKeep;[J)I"⟩ method_3_code 3 (some .int) [(0, 8, 11, 13), (0, 8, 14, 15)] ∈ hv_Ts := hv_mem 251 (by decide +kernel) rfl
theorem k_Law_13 : Cond.classLink "GraphKeepLaw" 13 "java/lang/ArithmeticException" ∈ hv_Ts := hv_mem 252 (by decide +kernel) rfl
theorem k_Law_15 : Cond.classLink "GraphKeepLaw" 15 "java/lang/IllegalStateException" ∈ hv_Ts := hv_mem 253 (by decide +kernel) rfl
theorem k_Law_7 : Cond.methodLink "GraphKeepLaw" 7 ⟨"GraphKeep", "node", "()I"⟩ ∈ hv_Ts := hv_mem 254 (by decide +kernel) rfl
theorem ki_GK_node : Cond.instanceMethod ⟨"GraphKeep", "node", "()I"⟩ ∈ hv_Ts := hv_mem 255 (by decide +kernel) rfl
theorem ksel_GK_GK_node : Cond.selects "GraphKeep" ⟨"GraphKeep", "node", "()I"⟩ ⟨"GraphKeep", "node", "()I"⟩ ∈ hv_Ts := hv_mem 256 (by decide +kernel) rfl
theorem kc_GK_node : Cond.code ⟨"GraphKeep", "node", "()I"⟩ prog_1_method_3_code 2 (some .int) ∈ hv_Ts := hv_mem 257 (by decide +kernel) rfl
theorem k_GK_47 : Cond.methodLink "GraphKeep" 47 ⟨"GraphKeep", "mustBeOn", "()V"⟩ ∈ hv_Ts := hv_mem 258 (by decide +kernel) rfl
theorem kpr_GK_mustBeOn : Cond.privateMethod ⟨"GraphKeep", "mustBeOn", "()V"⟩ ∈ lw_tbl := hv_memL 259 (by decide +kernel)
theorem ki_GK_mustBeOn : Cond.instanceMethod ⟨"GraphKeep", "mustBeOn", "()V"⟩ ∈ hv_Ts := hv_mem 260 (by decide +kernel) rfl
theorem kc_GK_mustBeOn : Cond.code ⟨"GraphKeep", "mustBeOn", "()V"⟩ prog_1_method_22_code 1 none ∈ hv_Ts := hv_mem 261 (by decide +kernel) rfl
theorem k_GK_188 : Cond.classLink "GraphKeep" 188 "java/lang/IllegalStateException" ∈ hv_Ts := hv_mem 262 (by decide +kernel) rfl
theorem kin_IllegalStateException : Cond.instantiable "java/lang/IllegalStateException" 6 ∈ hv_Ts := hv_mem 263 (by decide +kernel) rfl
theorem kin_Throwable : Cond.instantiable "java/lang/Throwable" 6 ∈ hv_Ts := hv_mem 301 (by decide +kernel) rfl
theorem k_GK_192 : Cond.methodLink "GraphKeep" 192 ⟨"java/lang/IllegalStateException", "<init>", "(Ljava/lang/String;)V"⟩ ∈ hv_Ts := hv_mem 304 (by decide +kernel) rfl
theorem k_GK_50 : Cond.methodLink "GraphKeep" 50 ⟨"GraphKeep", "freeNumber", "(I[Z)I"⟩ ∈ hv_Ts := hv_mem 329 (by decide +kernel) rfl
theorem kpr_GK_freeNumber : Cond.privateMethod ⟨"GraphKeep", "freeNumber", "(I[Z)I"⟩ ∈ lw_tbl := hv_memL 330 (by decide +kernel)
theorem ki_GK_freeNumber : Cond.instanceMethod ⟨"GraphKeep", "freeNumber", "(I[Z)I"⟩ ∈ hv_Ts := hv_mem 331 (by decide +kernel) rfl
theorem kc_GK_freeNumber : Cond.code ⟨"GraphKeep", "freeNumber", "(I[Z)I"⟩ prog_1_method_28_code 4 (some .int) ∈ hv_Ts := hv_mem 332 (by decide +kernel) rfl
theorem k_GK_80 : Cond.methodLink "GraphKeep" 80 ⟨"GraphKeep", "mustBeLess", "(II)V"⟩ ∈ hv_Ts := hv_mem 333 (by decide +kernel) rfl
theorem kpr_GK_mustBeLess : Cond.privateMethod ⟨"GraphKeep", "mustBeLess", "(II)V"⟩ ∈ lw_tbl := hv_memL 334 (by decide +kernel)
theorem ki_GK_mustBeLess : Cond.instanceMethod ⟨"GraphKeep", "mustBeLess", "(II)V"⟩ ∈ hv_Ts := hv_mem 335 (by decide +kernel) rfl
theorem kc_GK_mustBeLess : Cond.code ⟨"GraphKeep", "mustBeLess", "(II)V"⟩ prog_1_method_27_code 3 none ∈ hv_Ts := hv_mem 336 (by decide +kernel) rfl
theorem k_GK_262 : Cond.methodLink "GraphKeep" 262 ⟨"GraphKeep", "refuse", "(I)V"⟩ ∈ hv_Ts := hv_mem 337 (by decide +kernel) rfl
theorem kpr_GK_refuse : Cond.privateMethod ⟨"GraphKeep", "refuse", "(I)V"⟩ ∈ lw_tbl := hv_memL 338 (by decide +kernel)
theorem ki_GK_refuse : Cond.instanceMethod ⟨"GraphKeep", "refuse", "(I)V"⟩ ∈ hv_Ts := hv_mem 339 (by decide +kernel) rfl
theorem kc_GK_refuse : Cond.code ⟨"GraphKeep", "refuse", "(I)V"⟩ prog_1_method_23_code 2 none ∈ hv_Ts := hv_mem 340 (by decide +kernel) rfl
theorem k_GK_146 : Cond.classLink "GraphKeep" 146 "java/lang/ArithmeticException" ∈ hv_Ts := hv_mem 341 (by decide +kernel) rfl
theorem kin_ArithmeticException : Cond.instantiable "java/lang/ArithmeticException" 6 ∈ hv_Ts := hv_mem 342 (by decide +kernel) rfl
theorem k_GK_150 : Cond.methodLink "GraphKeep" 150 ⟨"java/lang/ArithmeticException", "<init>", "(Ljava/lang/String;)V"⟩ ∈ hv_Ts := hv_mem 351 (by decide +kernel) rfl
theorem k_GK_54 : Cond.methodLink "GraphKeep" 54 ⟨"GraphKeep", "countChange", "()V"⟩ ∈ hv_Ts := hv_mem 357 (by decide +kernel) rfl
theorem kpr_GK_countChange : Cond.privateMethod ⟨"GraphKeep", "countChange", "()V"⟩ ∈ lw_tbl := hv_memL 358 (by decide +kernel)
theorem ki_GK_countChange : Cond.instanceMethod ⟨"GraphKeep", "countChange", "()V"⟩ ∈ hv_Ts := hv_mem 359 (by decide +kernel) rfl
theorem kc_GK_countChange : Cond.code ⟨"GraphKeep", "countChange", "()V"⟩ prog_1_method_29_code 1 none ∈ hv_Ts := hv_mem 360 (by decide +kernel) rfl
theorem k_GK_59 : Cond.classLink "GraphKeep" 59 "GraphKeep$Property" ∈ hv_Ts := hv_mem 361 (by decide +kernel) rfl
theorem ko_Pr : Cond.arrayOver (.object "GraphKeep$Property") ∈ lw_tbl := hv_memL 362 (by decide +kernel)
theorem k_GK_61 : Cond.methodLink "GraphKeep" 61 ⟨"GraphKeep$Node", "<init>", "([I[LGraphKeep$Property;)V"⟩ ∈ hv_Ts := hv_mem 363 (by decide +kernel) rfl
theorem ki_Nd_init : Cond.instanceMethod ⟨"GraphKeep$Node", "<init>", "([I[LGraphKeep$Property;)V"⟩ ∈ hv_Ts := hv_mem 364 (by decide +kernel) rfl
theorem kc_Nd_init : Cond.code ⟨"GraphKeep$Node", "<init>", "([I[LGraphKeep$Property;)V"⟩ prog_5_method_1_code 3 none ∈ hv_Ts := hv_mem 365 (by decide +kernel) rfl
theorem k_Nd_1 : Cond.methodLink "GraphKeep$Node" 1 ⟨"GraphKeep$Thing", "<init>", "([LGraphKeep$Property;)V"⟩ ∈ hv_Ts := hv_mem 366 (by decide +kernel) rfl
theorem ki_Th_init : Cond.instanceMethod ⟨"GraphKeep$Thing", "<init>", "([LGraphKeep$Property;)V"⟩ ∈ hv_Ts := hv_mem 367 (by decide +kernel) rfl
theorem kc_Th_init : Cond.code ⟨"GraphKeep$Thing", "<init>", "([LGraphKeep$Property;)V"⟩ prog_8_method_1_code 2 none ∈ hv_Ts := hv_mem 368 (by decide +kernel) rfl
theorem k_Th_1 : Cond.methodLink "GraphKeep$Thing" 1 ⟨"java/lang/Object", "<init>", "()V"⟩ ∈ hv_Ts := hv_mem 369 (by decide +kernel) rfl
theorem k_Nd_7 : Cond.fieldLink "GraphKeep$Node" 7 "GraphKeep$Node" "labels" "[I" ∈ hv_Ts := hv_mem 370 (by decide +kernel) rfl
theorem k_GK_76 : Cond.fieldLink "GraphKeep" 76 "GraphKeep$Node" "labels" "[I" ∈ hv_Ts := hv_mem 371 (by decide +kernel) rfl
theorem k_Gr_31 : Cond.fieldLink "GraphKeep$Graph" 31 "GraphKeep$Node" "labels" "[I" ∈ hv_Ts := hv_mem 372 (by decide +kernel) rfl
theorem k_Th_7 : Cond.fieldLink "GraphKeep$Thing" 7 "GraphKeep$Thing" "properties" "[LGraphKeep$Property;" ∈ hv_Ts := hv_mem 373 (by decide +kernel) rfl
theorem k_Nd_17 : Cond.fieldLink "GraphKeep$Node" 17 "GraphKeep$Node" "properties" "[LGraphKeep$Property;" ∈ hv_Ts := hv_mem 374 (by decide +kernel) rfl
theorem ks_Nd_properties : Cond.sameField "GraphKeep$Node" "GraphKeep$Thing" "properties" "[LGraphKeep$Property;" ∈ hv_Ts := hv_mem 375 (by decide +kernel) rfl
theorem k_GK_202 : Cond.fieldLink "GraphKeep" 202 "GraphKeep$Thing" "properties" "[LGraphKeep$Property;" ∈ hv_Ts := hv_mem 376 (by decide +kernel) rfl
theorem ka_int : Cond.arrayClass .int ∈ hv_Ts := hv_mem 382 (by decide +kernel) rfl
theorem k_GK_64 : Cond.methodLink "GraphKeep" 64 ⟨"GraphKeep$Graph", "putNode", "(ILGraphKeep$Node;)V"⟩ ∈ hv_Ts := hv_mem 383 (by decide +kernel) rfl
theorem ki_Gr_putNode : Cond.instanceMethod ⟨"GraphKeep$Graph", "putNode", "(ILGraphKeep$Node;)V"⟩ ∈ hv_Ts := hv_mem 384 (by decide +kernel) rfl
theorem ksel_Gr_Gr_putNode : Cond.selects "GraphKeep$Graph" ⟨"GraphKeep$Graph", "putNode", "(ILGraphKeep$Node;)V"⟩ ⟨"GraphKeep$Graph", "putNode", "(ILGraphKeep$Node;)V"⟩ ∈ hv_Ts := hv_mem 385 (by decide +kernel) rfl
theorem kc_Gr_putNode : Cond.code ⟨"GraphKeep$Graph", "putNode", "(ILGraphKeep$Node;)V"⟩ prog_2_method_5_code 3 none ∈ hv_Ts := hv_mem 386 (by decide +kernel) rfl
theorem k_Law_68 : Cond.methodLink "GraphKeepLaw" 68 ⟨"GraphKeepLaw", "label", "(LGraphKeep;IIZ[J)I"⟩ ∈ hv_Ts := hv_mem 387 (by decide +kernel) rfl
theorem ki_Law_label : Cond.static ⟨"GraphKeepLaw", "label", "(LGraphKeep;IIZ[J)I"⟩ ∈ hv_Ts := hv_mem 388 (by decide +kernel) rfl
theorem kc_Law_label : Cond.codeWith ⟨"GraphKeepLaw", "label", "(LGraphKeep;IIZ[J)I"⟩ method_4_code 6 (some .int) [(0, 19, 22, 13), (0, 19, 26, 15)] ∈ hv_Ts := hv_mem 389 (by decide +kernel) rfl
theorem k_Law_17 : Cond.methodLink "GraphKeepLaw" 17 ⟨"GraphKeep", "label", "(IIZ)Z"⟩ ∈ hv_Ts := hv_mem 390 (by decide +kernel) rfl
theorem ki_GK_label : Cond.instanceMethod ⟨"GraphKeep", "label", "(IIZ)Z"⟩ ∈ hv_Ts := hv_mem 391 (by decide +kernel) rfl
theorem ksel_GK_GK_label : Cond.selects "GraphKeep" ⟨"GraphKeep", "label", "(IIZ)Z"⟩ ⟨"GraphKeep", "label", "(IIZ)Z"⟩ ∈ hv_Ts := hv_mem 392 (by decide +kernel) rfl
theorem kc_GK_label : Cond.code ⟨"GraphKeep", "label", "(IIZ)Z"⟩ prog_1_method_4_code 5 (some .boolean) ∈ hv_Ts := hv_mem 393 (by decide +kernel) rfl
theorem k_GK_68 : Cond.methodLink "GraphKeep" 68 ⟨"GraphKeep", "wantedNode", "(I)LGraphKeep$Node;"⟩ ∈ hv_Ts := hv_mem 394 (by decide +kernel) rfl
theorem kpr_GK_wantedNode : Cond.privateMethod ⟨"GraphKeep", "wantedNode", "(I)LGraphKeep$Node;"⟩ ∈ lw_tbl := hv_memL 395 (by decide +kernel)
theorem ki_GK_wantedNode : Cond.instanceMethod ⟨"GraphKeep", "wantedNode", "(I)LGraphKeep$Node;"⟩ ∈ hv_Ts := hv_mem 396 (by decide +kernel) rfl
theorem kc_GK_wantedNode : Cond.code ⟨"GraphKeep", "wantedNode", "(I)LGraphKeep$Node;"⟩ prog_1_method_24_code 3 (some (.object "GraphKeep$Node")) ∈ hv_Ts := hv_mem 397 (by decide +kernel) rfl
theorem k_GK_84 : Cond.methodLink "GraphKeep" 84 ⟨"GraphKeep$Node", "withLabel", "(I)LGraphKeep$Node;"⟩ ∈ hv_Ts := hv_mem 399 (by decide +kernel) rfl
theorem ki_Nd_withLabel : Cond.instanceMethod ⟨"GraphKeep$Node", "withLabel", "(I)LGraphKeep$Node;"⟩ ∈ hv_Ts := hv_mem 400 (by decide +kernel) rfl
theorem ksel_Nd_Nd_withLabel : Cond.selects "GraphKeep$Node" ⟨"GraphKeep$Node", "withLabel", "(I)LGraphKeep$Node;"⟩ ⟨"GraphKeep$Node", "withLabel", "(I)LGraphKeep$Node;"⟩ ∈ hv_Ts := hv_mem 401 (by decide +kernel) rfl
theorem kc_Nd_withLabel : Cond.code ⟨"GraphKeep$Node", "withLabel", "(I)LGraphKeep$Node;"⟩ prog_5_method_3_code 4 (some (.object "GraphKeep$Node")) ∈ hv_Ts := hv_mem 402 (by decide +kernel) rfl
theorem k_Nd_8 : Cond.classLink "GraphKeep$Node" 8 "GraphKeep$Node" ∈ hv_Ts := hv_mem 403 (by decide +kernel) rfl
theorem k_Nd_21 : Cond.methodLink "GraphKeep$Node" 21 ⟨"GraphKeep$Node", "<init>", "([I[LGraphKeep$Property;)V"⟩ ∈ hv_Ts := hv_mem 404 (by decide +kernel) rfl
theorem k_GK_87 : Cond.methodLink "GraphKeep" 87 ⟨"GraphKeep$Node", "withoutLabel", "(I)LGraphKeep$Node;"⟩ ∈ hv_Ts := hv_mem 405 (by decide +kernel) rfl
theorem ki_Nd_withoutLabel : Cond.instanceMethod ⟨"GraphKeep$Node", "withoutLabel", "(I)LGraphKeep$Node;"⟩ ∈ hv_Ts := hv_mem 406 (by decide +kernel) rfl
theorem ksel_Nd_Nd_withoutLabel : Cond.selects "GraphKeep$Node" ⟨"GraphKeep$Node", "withoutLabel", "(I)LGraphKeep$Node;"⟩ ⟨"GraphKeep$Node", "withoutLabel", "(I)LGraphKeep$Node;"⟩ ∈ hv_Ts := hv_mem 407 (by decide +kernel) rfl
theorem kc_Nd_withoutLabel : Cond.code ⟨"GraphKeep$Node", "withoutLabel", "(I)LGraphKeep$Node;"⟩ prog_5_method_4_code 5 (some (.object "GraphKeep$Node")) ∈ hv_Ts := hv_mem 408 (by decide +kernel) rfl
theorem k_Law_72 : Cond.methodLink "GraphKeepLaw" 72 ⟨"GraphKeepLaw", "property", "(LGraphKeep;IIIIJ[J)I"⟩ ∈ hv_Ts := hv_mem 409 (by decide +kernel) rfl
theorem ki_Law_property : Cond.static ⟨"GraphKeepLaw", "property", "(LGraphKeep;IIIIJ[J)I"⟩ ∈ hv_Ts := hv_mem 410 (by decide +kernel) rfl
theorem kc_Law_property : Cond.codeWith ⟨"GraphKeepLaw", "property", "(LGraphKeep;IIIIJ[J)I"⟩ method_5_code 9 (some .int) [(0, 23, 26, 13), (0, 23, 30, 15)] ∈ hv_Ts := hv_mem 411 (by decide +kernel) rfl
theorem k_Law_21 : Cond.methodLink "GraphKeepLaw" 21 ⟨"GraphKeep", "property", "(IIIIJ)Z"⟩ ∈ hv_Ts := hv_mem 412 (by decide +kernel) rfl
theorem ki_GK_property : Cond.instanceMethod ⟨"GraphKeep", "property", "(IIIIJ)Z"⟩ ∈ hv_Ts := hv_mem 413 (by decide +kernel) rfl
theorem ksel_GK_GK_property : Cond.selects "GraphKeep" ⟨"GraphKeep", "property", "(IIIIJ)Z"⟩ ⟨"GraphKeep", "property", "(IIIIJ)Z"⟩ ∈ hv_Ts := hv_mem 414 (by decide +kernel) rfl
theorem kc_GK_property : Cond.code ⟨"GraphKeep", "property", "(IIIIJ)Z"⟩ prog_1_method_5_code 11 (some .boolean) ∈ hv_Ts := hv_mem 415 (by decide +kernel) rfl
theorem k_GK_90 : Cond.methodLink "GraphKeep" 90 ⟨"GraphKeep", "wantedThing", "(II)LGraphKeep$Thing;"⟩ ∈ hv_Ts := hv_mem 416 (by decide +kernel) rfl
theorem kpr_GK_wantedThing : Cond.privateMethod ⟨"GraphKeep", "wantedThing", "(II)LGraphKeep$Thing;"⟩ ∈ lw_tbl := hv_memL 417 (by decide +kernel)
theorem ki_GK_wantedThing : Cond.instanceMethod ⟨"GraphKeep", "wantedThing", "(II)LGraphKeep$Thing;"⟩ ∈ hv_Ts := hv_mem 418 (by decide +kernel) rfl
theorem kc_GK_wantedThing : Cond.code ⟨"GraphKeep", "wantedThing", "(II)LGraphKeep$Thing;"⟩ prog_1_method_25_code 4 (some (.object "GraphKeep$Thing")) ∈ hv_Ts := hv_mem 419 (by decide +kernel) rfl
theorem k_GK_94 : Cond.methodLink "GraphKeep" 94 ⟨"GraphKeep", "mustBeValue", "(IJ)V"⟩ ∈ hv_Ts := hv_mem 421 (by decide +kernel) rfl
theorem kpr_GK_mustBeValue : Cond.privateMethod ⟨"GraphKeep", "mustBeValue", "(IJ)V"⟩ ∈ lw_tbl := hv_memL 422 (by decide +kernel)
theorem ki_GK_mustBeValue : Cond.instanceMethod ⟨"GraphKeep", "mustBeValue", "(IJ)V"⟩ ∈ hv_Ts := hv_mem 423 (by decide +kernel) rfl
theorem kc_GK_mustBeValue : Cond.code ⟨"GraphKeep", "mustBeValue", "(IJ)V"⟩ prog_1_method_26_code 4 none ∈ hv_Ts := hv_mem 424 (by decide +kernel) rfl
theorem k_GK_98 : Cond.methodLink "GraphKeep" 98 ⟨"GraphKeep", "dropProperty", "(LGraphKeep$Thing;II)Z"⟩ ∈ hv_Ts := hv_mem 425 (by decide +kernel) rfl
theorem kpr_GK_dropProperty : Cond.privateMethod ⟨"GraphKeep", "dropProperty", "(LGraphKeep$Thing;II)Z"⟩ ∈ lw_tbl := hv_memL 426 (by decide +kernel)
theorem ki_GK_dropProperty : Cond.instanceMethod ⟨"GraphKeep", "dropProperty", "(LGraphKeep$Thing;II)Z"⟩ ∈ hv_Ts := hv_mem 427 (by decide +kernel) rfl
theorem kc_GK_dropProperty : Cond.code ⟨"GraphKeep", "dropProperty", "(LGraphKeep$Thing;II)Z"⟩ prog_1_method_30_code 4 (some .boolean) ∈ hv_Ts := hv_mem 428 (by decide +kernel) rfl
theorem k_GK_228 : Cond.methodLink "GraphKeep" 228 ⟨"GraphKeep$Thing", "propertyOf", "(I)LGraphKeep$Property;"⟩ ∈ hv_Ts := hv_mem 429 (by decide +kernel) rfl
theorem ki_Th_propertyOf : Cond.instanceMethod ⟨"GraphKeep$Thing", "propertyOf", "(I)LGraphKeep$Property;"⟩ ∈ hv_Ts := hv_mem 430 (by decide +kernel) rfl
theorem ksel_Lk_Th_propertyOf : Cond.selects "GraphKeep$Link" ⟨"GraphKeep$Thing", "propertyOf", "(I)LGraphKeep$Property;"⟩ ⟨"GraphKeep$Thing", "propertyOf", "(I)LGraphKeep$Property;"⟩ ∈ hv_Ts := hv_mem 432 (by decide +kernel) rfl
theorem ksel_Nd_Th_propertyOf : Cond.selects "GraphKeep$Node" ⟨"GraphKeep$Thing", "propertyOf", "(I)LGraphKeep$Property;"⟩ ⟨"GraphKeep$Thing", "propertyOf", "(I)LGraphKeep$Property;"⟩ ∈ hv_Ts := hv_mem 433 (by decide +kernel) rfl
theorem kc_Th_propertyOf : Cond.code ⟨"GraphKeep$Thing", "propertyOf", "(I)LGraphKeep$Property;"⟩ prog_8_method_2_code 3 (some (.object "GraphKeep$Property")) ∈ hv_Ts := hv_mem 434 (by decide +kernel) rfl
theorem k_Th_13 : Cond.methodLink "GraphKeep$Thing" 13 ⟨"GraphKeep$Thing", "placeOf", "(I)I"⟩ ∈ hv_Ts := hv_mem 435 (by decide +kernel) rfl
theorem kpr_Th_placeOf : Cond.privateMethod ⟨"GraphKeep$Thing", "placeOf", "(I)I"⟩ ∈ lw_tbl := hv_memL 436 (by decide +kernel)
theorem ki_Th_placeOf : Cond.instanceMethod ⟨"GraphKeep$Thing", "placeOf", "(I)I"⟩ ∈ hv_Ts := hv_mem 437 (by decide +kernel) rfl
theorem kc_Th_placeOf : Cond.code ⟨"GraphKeep$Thing", "placeOf", "(I)I"⟩ prog_8_method_5_code 3 (some .int) ∈ hv_Ts := hv_mem 438 (by decide +kernel) rfl
theorem k_GK_265 : Cond.methodLink "GraphKeep" 265 ⟨"GraphKeep$Thing", "propertiesWithout", "(I)[LGraphKeep$Property;"⟩ ∈ hv_Ts := hv_mem 439 (by decide +kernel) rfl
theorem ki_Th_propertiesWithout : Cond.instanceMethod ⟨"GraphKeep$Thing", "propertiesWithout", "(I)[LGraphKeep$Property;"⟩ ∈ hv_Ts := hv_mem 440 (by decide +kernel) rfl
theorem ksel_Lk_Th_propertiesWithout : Cond.selects "GraphKeep$Link" ⟨"GraphKeep$Thing", "propertiesWithout", "(I)[LGraphKeep$Property;"⟩ ⟨"GraphKeep$Thing", "propertiesWithout", "(I)[LGraphKeep$Property;"⟩ ∈ hv_Ts := hv_mem 442 (by decide +kernel) rfl
theorem ksel_Nd_Th_propertiesWithout : Cond.selects "GraphKeep$Node" ⟨"GraphKeep$Thing", "propertiesWithout", "(I)[LGraphKeep$Property;"⟩ ⟨"GraphKeep$Thing", "propertiesWithout", "(I)[LGraphKeep$Property;"⟩ ∈ hv_Ts := hv_mem 443 (by decide +kernel) rfl
theorem kc_Th_propertiesWithout : Cond.code ⟨"GraphKeep$Thing", "propertiesWithout", "(I)[LGraphKeep$Property;"⟩ prog_8_method_4_code 5 (some (.array (.object "GraphKeep$Property"))) ∈ hv_Ts := hv_mem 444 (by decide +kernel) rfl
theorem k_Th_18 : Cond.classLink "GraphKeep$Thing" 18 "GraphKeep$Property" ∈ hv_Ts := hv_mem 445 (by decide +kernel) rfl
theorem k_GK_269 : Cond.methodLink "GraphKeep" 269 ⟨"GraphKeep$Graph", "putAgain", "(LGraphKeep$Thing;I[LGraphKeep$Property;)V"⟩ ∈ hv_Ts := hv_mem 446 (by decide +kernel) rfl
theorem ki_Gr_putAgain : Cond.instanceMethod ⟨"GraphKeep$Graph", "putAgain", "(LGraphKeep$Thing;I[LGraphKeep$Property;)V"⟩ ∈ hv_Ts := hv_mem 447 (by decide +kernel) rfl
theorem ksel_Gr_Gr_putAgain : Cond.selects "GraphKeep$Graph" ⟨"GraphKeep$Graph", "putAgain", "(LGraphKeep$Thing;I[LGraphKeep$Property;)V"⟩ ⟨"GraphKeep$Graph", "putAgain", "(LGraphKeep$Thing;I[LGraphKeep$Property;)V"⟩ ∈ hv_Ts := hv_mem 448 (by decide +kernel) rfl
theorem kc_Gr_putAgain : Cond.code ⟨"GraphKeep$Graph", "putAgain", "(LGraphKeep$Thing;I[LGraphKeep$Property;)V"⟩ prog_2_method_7_code 6 none ∈ hv_Ts := hv_mem 449 (by decide +kernel) rfl
theorem k_Gr_35 : Cond.methodLink "GraphKeep$Graph" 35 ⟨"GraphKeep$Node", "<init>", "([I[LGraphKeep$Property;)V"⟩ ∈ hv_Ts := hv_mem 450 (by decide +kernel) rfl
theorem k_Gr_38 : Cond.methodLink "GraphKeep$Graph" 38 ⟨"GraphKeep$Graph", "putNode", "(ILGraphKeep$Node;)V"⟩ ∈ hv_Ts := hv_mem 451 (by decide +kernel) rfl
theorem kin_Lk : Cond.instantiable "GraphKeep$Link" 4 ∈ hv_Ts := hv_mem 452 (by decide +kernel) rfl
theorem k_Gr_52 : Cond.methodLink "GraphKeep$Graph" 52 ⟨"GraphKeep$Link", "<init>", "(III[LGraphKeep$Property;)V"⟩ ∈ hv_Ts := hv_mem 453 (by decide +kernel) rfl
theorem ki_Lk_init : Cond.instanceMethod ⟨"GraphKeep$Link", "<init>", "(III[LGraphKeep$Property;)V"⟩ ∈ hv_Ts := hv_mem 454 (by decide +kernel) rfl
theorem kc_Lk_init : Cond.code ⟨"GraphKeep$Link", "<init>", "(III[LGraphKeep$Property;)V"⟩ prog_3_method_1_code 5 none ∈ hv_Ts := hv_mem 455 (by decide +kernel) rfl
theorem k_Lk_1 : Cond.methodLink "GraphKeep$Link" 1 ⟨"GraphKeep$Thing", "<init>", "([LGraphKeep$Property;)V"⟩ ∈ hv_Ts := hv_mem 456 (by decide +kernel) rfl
theorem k_Lk_7 : Cond.fieldLink "GraphKeep$Link" 7 "GraphKeep$Link" "start" "I" ∈ hv_Ts := hv_mem 457 (by decide +kernel) rfl
theorem k_Gr_42 : Cond.fieldLink "GraphKeep$Graph" 42 "GraphKeep$Link" "start" "I" ∈ hv_Ts := hv_mem 458 (by decide +kernel) rfl
theorem k_GK_307 : Cond.fieldLink "GraphKeep" 307 "GraphKeep$Link" "start" "I" ∈ hv_Ts := hv_mem 459 (by decide +kernel) rfl
theorem k_Lk_13 : Cond.fieldLink "GraphKeep$Link" 13 "GraphKeep$Link" "end" "I" ∈ hv_Ts := hv_mem 460 (by decide +kernel) rfl
theorem k_Gr_46 : Cond.fieldLink "GraphKeep$Graph" 46 "GraphKeep$Link" "end" "I" ∈ hv_Ts := hv_mem 461 (by decide +kernel) rfl
theorem k_GK_310 : Cond.fieldLink "GraphKeep" 310 "GraphKeep$Link" "end" "I" ∈ hv_Ts := hv_mem 462 (by decide +kernel) rfl
theorem k_Lk_16 : Cond.fieldLink "GraphKeep$Link" 16 "GraphKeep$Link" "type" "I" ∈ hv_Ts := hv_mem 463 (by decide +kernel) rfl
theorem k_Gr_49 : Cond.fieldLink "GraphKeep$Graph" 49 "GraphKeep$Link" "type" "I" ∈ hv_Ts := hv_mem 464 (by decide +kernel) rfl
theorem k_GK_313 : Cond.fieldLink "GraphKeep" 313 "GraphKeep$Link" "type" "I" ∈ hv_Ts := hv_mem 465 (by decide +kernel) rfl
theorem k_Gr_55 : Cond.methodLink "GraphKeep$Graph" 55 ⟨"GraphKeep$Graph", "putLink", "(ILGraphKeep$Link;)V"⟩ ∈ hv_Ts := hv_mem 474 (by decide +kernel) rfl
theorem ki_Gr_putLink : Cond.instanceMethod ⟨"GraphKeep$Graph", "putLink", "(ILGraphKeep$Link;)V"⟩ ∈ hv_Ts := hv_mem 475 (by decide +kernel) rfl
theorem ksel_Gr_Gr_putLink : Cond.selects "GraphKeep$Graph" ⟨"GraphKeep$Graph", "putLink", "(ILGraphKeep$Link;)V"⟩ ⟨"GraphKeep$Graph", "putLink", "(ILGraphKeep$Link;)V"⟩ ∈ hv_Ts := hv_mem 476 (by decide +kernel) rfl
theorem kc_Gr_putLink : Cond.code ⟨"GraphKeep$Graph", "putLink", "(ILGraphKeep$Link;)V"⟩ prog_2_method_6_code 3 none ∈ hv_Ts := hv_mem 477 (by decide +kernel) rfl
theorem k_GK_102 : Cond.methodLink "GraphKeep" 102 ⟨"GraphKeep$Tape", "pull", "()[B"⟩ ∈ hv_Ts := hv_mem 478 (by decide +kernel) rfl
theorem ki_Tp_pull : Cond.instanceMethod ⟨"GraphKeep$Tape", "pull", "()[B"⟩ ∈ hv_Ts := hv_mem 479 (by decide +kernel) rfl
theorem ksel_Tp_Tp_pull : Cond.selects "GraphKeep$Tape" ⟨"GraphKeep$Tape", "pull", "()[B"⟩ ⟨"GraphKeep$Tape", "pull", "()[B"⟩ ∈ hv_Ts := hv_mem 480 (by decide +kernel) rfl
theorem kc_Tp_pull : Cond.code ⟨"GraphKeep$Tape", "pull", "()[B"⟩ prog_7_method_3_code 3 (some (.array .byte)) ∈ hv_Ts := hv_mem 481 (by decide +kernel) rfl
theorem kin_Pr : Cond.instantiable "GraphKeep$Property" 4 ∈ hv_Ts := hv_mem 482 (by decide +kernel) rfl
theorem k_GK_106 : Cond.methodLink "GraphKeep" 106 ⟨"GraphKeep$Property", "<init>", "(IIJ[B)V"⟩ ∈ hv_Ts := hv_mem 483 (by decide +kernel) rfl
theorem ki_Pr_init : Cond.instanceMethod ⟨"GraphKeep$Property", "<init>", "(IIJ[B)V"⟩ ∈ hv_Ts := hv_mem 484 (by decide +kernel) rfl
theorem kc_Pr_init : Cond.code ⟨"GraphKeep$Property", "<init>", "(IIJ[B)V"⟩ prog_6_method_1_code 6 none ∈ hv_Ts := hv_mem 485 (by decide +kernel) rfl
theorem k_Pr_1 : Cond.methodLink "GraphKeep$Property" 1 ⟨"java/lang/Object", "<init>", "()V"⟩ ∈ hv_Ts := hv_mem 486 (by decide +kernel) rfl
theorem k_Pr_7 : Cond.fieldLink "GraphKeep$Property" 7 "GraphKeep$Property" "key" "I" ∈ hv_Ts := hv_mem 487 (by decide +kernel) rfl
theorem k_Th_17 : Cond.fieldLink "GraphKeep$Thing" 17 "GraphKeep$Property" "key" "I" ∈ hv_Ts := hv_mem 488 (by decide +kernel) rfl
theorem k_GK_273 : Cond.fieldLink "GraphKeep" 273 "GraphKeep$Property" "key" "I" ∈ hv_Ts := hv_mem 489 (by decide +kernel) rfl
theorem k_Pr_13 : Cond.fieldLink "GraphKeep$Property" 13 "GraphKeep$Property" "kind" "I" ∈ hv_Ts := hv_mem 490 (by decide +kernel) rfl
theorem k_GK_232 : Cond.fieldLink "GraphKeep" 232 "GraphKeep$Property" "kind" "I" ∈ hv_Ts := hv_mem 491 (by decide +kernel) rfl
theorem k_Pr_16 : Cond.fieldLink "GraphKeep$Property" 16 "GraphKeep$Property" "number" "J" ∈ hv_Ts := hv_mem 492 (by decide +kernel) rfl
theorem k_GK_237 : Cond.fieldLink "GraphKeep" 237 "GraphKeep$Property" "number" "J" ∈ hv_Ts := hv_mem 493 (by decide +kernel) rfl
theorem k_Pr_20 : Cond.fieldLink "GraphKeep$Property" 20 "GraphKeep$Property" "text" "[B" ∈ hv_Ts := hv_mem 494 (by decide +kernel) rfl
theorem k_GK_241 : Cond.fieldLink "GraphKeep" 241 "GraphKeep$Property" "text" "[B" ∈ hv_Ts := hv_mem 495 (by decide +kernel) rfl
theorem k_GK_109 : Cond.methodLink "GraphKeep" 109 ⟨"GraphKeep", "putProperty", "(LGraphKeep$Thing;ILGraphKeep$Property;)Z"⟩ ∈ hv_Ts := hv_mem 505 (by decide +kernel) rfl
theorem kpr_GK_putProperty : Cond.privateMethod ⟨"GraphKeep", "putProperty", "(LGraphKeep$Thing;ILGraphKeep$Property;)Z"⟩ ∈ lw_tbl := hv_memL 506 (by decide +kernel)
theorem ki_GK_putProperty : Cond.instanceMethod ⟨"GraphKeep", "putProperty", "(LGraphKeep$Thing;ILGraphKeep$Property;)Z"⟩ ∈ hv_Ts := hv_mem 507 (by decide +kernel) rfl
theorem kc_GK_putProperty : Cond.code ⟨"GraphKeep", "putProperty", "(LGraphKeep$Thing;ILGraphKeep$Property;)Z"⟩ prog_1_method_31_code 5 (some .boolean) ∈ hv_Ts := hv_mem 508 (by decide +kernel) rfl
theorem k_GK_276 : Cond.methodLink "GraphKeep" 276 ⟨"GraphKeep$Property", "isSameValue", "(LGraphKeep$Property;)Z"⟩ ∈ hv_Ts := hv_mem 509 (by decide +kernel) rfl
theorem ki_Pr_isSameValue : Cond.instanceMethod ⟨"GraphKeep$Property", "isSameValue", "(LGraphKeep$Property;)Z"⟩ ∈ hv_Ts := hv_mem 510 (by decide +kernel) rfl
theorem ksel_Pr_Pr_isSameValue : Cond.selects "GraphKeep$Property" ⟨"GraphKeep$Property", "isSameValue", "(LGraphKeep$Property;)Z"⟩ ⟨"GraphKeep$Property", "isSameValue", "(LGraphKeep$Property;)Z"⟩ ∈ hv_Ts := hv_mem 511 (by decide +kernel) rfl
theorem kc_Pr_isSameValue : Cond.code ⟨"GraphKeep$Property", "isSameValue", "(LGraphKeep$Property;)Z"⟩ prog_6_method_2_code 3 (some .boolean) ∈ hv_Ts := hv_mem 512 (by decide +kernel) rfl
theorem k_GK_280 : Cond.methodLink "GraphKeep" 280 ⟨"GraphKeep$Thing", "propertiesWith", "(LGraphKeep$Property;)[LGraphKeep$Property;"⟩ ∈ hv_Ts := hv_mem 513 (by decide +kernel) rfl
theorem ki_Th_propertiesWith : Cond.instanceMethod ⟨"GraphKeep$Thing", "propertiesWith", "(LGraphKeep$Property;)[LGraphKeep$Property;"⟩ ∈ hv_Ts := hv_mem 514 (by decide +kernel) rfl
theorem ksel_Lk_Th_propertiesWith : Cond.selects "GraphKeep$Link" ⟨"GraphKeep$Thing", "propertiesWith", "(LGraphKeep$Property;)[LGraphKeep$Property;"⟩ ⟨"GraphKeep$Thing", "propertiesWith", "(LGraphKeep$Property;)[LGraphKeep$Property;"⟩ ∈ hv_Ts := hv_mem 516 (by decide +kernel) rfl
theorem ksel_Nd_Th_propertiesWith : Cond.selects "GraphKeep$Node" ⟨"GraphKeep$Thing", "propertiesWith", "(LGraphKeep$Property;)[LGraphKeep$Property;"⟩ ⟨"GraphKeep$Thing", "propertiesWith", "(LGraphKeep$Property;)[LGraphKeep$Property;"⟩ ∈ hv_Ts := hv_mem 517 (by decide +kernel) rfl
theorem kc_Th_propertiesWith : Cond.code ⟨"GraphKeep$Thing", "propertiesWith", "(LGraphKeep$Property;)[LGraphKeep$Property;"⟩ prog_8_method_3_code 6 (some (.array (.object "GraphKeep$Property"))) ∈ hv_Ts := hv_mem 518 (by decide +kernel) rfl
theorem k_Law_76 : Cond.methodLink "GraphKeepLaw" 76 ⟨"GraphKeepLaw", "link", "(LGraphKeep;III[J)I"⟩ ∈ hv_Ts := hv_mem 519 (by decide +kernel) rfl
theorem ki_Law_link : Cond.static ⟨"GraphKeepLaw", "link", "(LGraphKeep;III[J)I"⟩ ∈ hv_Ts := hv_mem 520 (by decide +kernel) rfl
theorem kc_Law_link : Cond.codeWith ⟨"GraphKeepLaw", "link", "(LGraphKeep;III[J)I"⟩ method_6_code 6 (some .int) [(0, 12, 15, 13), (0, 12, 19, 15)] ∈ hv_Ts := hv_mem 521 (by decide +kernel) rfl
theorem k_Law_25 : Cond.methodLink "GraphKeepLaw" 25 ⟨"GraphKeep", "link", "(III)I"⟩ ∈ hv_Ts := hv_mem 522 (by decide +kernel) rfl
theorem ki_GK_link : Cond.instanceMethod ⟨"GraphKeep", "link", "(III)I"⟩ ∈ hv_Ts := hv_mem 523 (by decide +kernel) rfl
theorem ksel_GK_GK_link : Cond.selects "GraphKeep" ⟨"GraphKeep", "link", "(III)I"⟩ ⟨"GraphKeep", "link", "(III)I"⟩ ∈ hv_Ts := hv_mem 524 (by decide +kernel) rfl
theorem kc_GK_link : Cond.code ⟨"GraphKeep", "link", "(III)I"⟩ prog_1_method_6_code 5 (some .int) ∈ hv_Ts := hv_mem 525 (by decide +kernel) rfl
theorem k_GK_115 : Cond.methodLink "GraphKeep" 115 ⟨"GraphKeep$Link", "<init>", "(III[LGraphKeep$Property;)V"⟩ ∈ hv_Ts := hv_mem 526 (by decide +kernel) rfl
theorem k_GK_118 : Cond.methodLink "GraphKeep" 118 ⟨"GraphKeep$Graph", "putLink", "(ILGraphKeep$Link;)V"⟩ ∈ hv_Ts := hv_mem 527 (by decide +kernel) rfl
theorem k_Law_80 : Cond.methodLink "GraphKeepLaw" 80 ⟨"GraphKeepLaw", "take", "(LGraphKeep;II)I"⟩ ∈ hv_Ts := hv_mem 528 (by decide +kernel) rfl
theorem ki_Law_take : Cond.static ⟨"GraphKeepLaw", "take", "(LGraphKeep;II)I"⟩ ∈ hv_Ts := hv_mem 529 (by decide +kernel) rfl
theorem kc_Law_take : Cond.codeWith ⟨"GraphKeepLaw", "take", "(LGraphKeep;II)I"⟩ method_7_code 4 (some .int) [(0, 6, 9, 13), (0, 6, 12, 15)] ∈ hv_Ts := hv_mem 530 (by decide +kernel) rfl
theorem k_Law_29 : Cond.methodLink "GraphKeepLaw" 29 ⟨"GraphKeep", "take", "(II)V"⟩ ∈ hv_Ts := hv_mem 531 (by decide +kernel) rfl
theorem ki_GK_take : Cond.instanceMethod ⟨"GraphKeep", "take", "(II)V"⟩ ∈ hv_Ts := hv_mem 532 (by decide +kernel) rfl
theorem ksel_GK_GK_take : Cond.selects "GraphKeep" ⟨"GraphKeep", "take", "(II)V"⟩ ⟨"GraphKeep", "take", "(II)V"⟩ ∈ hv_Ts := hv_mem 533 (by decide +kernel) rfl
theorem kc_GK_take : Cond.code ⟨"GraphKeep", "take", "(II)V"⟩ prog_1_method_7_code 3 none ∈ hv_Ts := hv_mem 534 (by decide +kernel) rfl
theorem k_GK_122 : Cond.methodLink "GraphKeep" 122 ⟨"GraphKeep", "takeNode", "(I)V"⟩ ∈ hv_Ts := hv_mem 535 (by decide +kernel) rfl
theorem kpr_GK_takeNode : Cond.privateMethod ⟨"GraphKeep", "takeNode", "(I)V"⟩ ∈ lw_tbl := hv_memL 536 (by decide +kernel)
theorem ki_GK_takeNode : Cond.instanceMethod ⟨"GraphKeep", "takeNode", "(I)V"⟩ ∈ hv_Ts := hv_mem 537 (by decide +kernel) rfl
theorem kc_GK_takeNode : Cond.code ⟨"GraphKeep", "takeNode", "(I)V"⟩ prog_1_method_32_code 2 none ∈ hv_Ts := hv_mem 538 (by decide +kernel) rfl
theorem k_GK_288 : Cond.methodLink "GraphKeep" 288 ⟨"GraphKeep", "mark", "([ZI)V"⟩ ∈ hv_Ts := hv_mem 539 (by decide +kernel) rfl
theorem ki_GK_mark : Cond.static ⟨"GraphKeep", "mark", "([ZI)V"⟩ ∈ hv_Ts := hv_mem 540 (by decide +kernel) rfl
theorem kc_GK_mark : Cond.code ⟨"GraphKeep", "mark", "([ZI)V"⟩ prog_1_method_34_code 2 none ∈ hv_Ts := hv_mem 541 (by decide +kernel) rfl
theorem k_GK_126 : Cond.methodLink "GraphKeep" 126 ⟨"GraphKeep", "takeLink", "(I)V"⟩ ∈ hv_Ts := hv_mem 542 (by decide +kernel) rfl
theorem kpr_GK_takeLink : Cond.privateMethod ⟨"GraphKeep", "takeLink", "(I)V"⟩ ∈ lw_tbl := hv_memL 543 (by decide +kernel)
theorem ki_GK_takeLink : Cond.instanceMethod ⟨"GraphKeep", "takeLink", "(I)V"⟩ ∈ hv_Ts := hv_mem 544 (by decide +kernel) rfl
theorem kc_GK_takeLink : Cond.code ⟨"GraphKeep", "takeLink", "(I)V"⟩ prog_1_method_33_code 2 none ∈ hv_Ts := hv_mem 545 (by decide +kernel) rfl
theorem k_Law_88 : Cond.methodLink "GraphKeepLaw" 88 ⟨"GraphKeepLaw", "done", "(LGraphKeep;[J)I"⟩ ∈ hv_Ts := hv_mem 546 (by decide +kernel) rfl
theorem ki_Law_done : Cond.static ⟨"GraphKeepLaw", "done", "(LGraphKeep;[J)I"⟩ ∈ hv_Ts := hv_mem 547 (by decide +kernel) rfl
theorem kc_Law_done : Cond.codeWith ⟨"GraphKeepLaw", "done", "(LGraphKeep;[J)I"⟩ method_8_code 3 (some .int) [(0, 8, 11, 13), (0, 8, 14, 15)] ∈ hv_Ts := hv_mem 548 (by decide +kernel) rfl
theorem k_Law_33 : Cond.methodLink "GraphKeepLaw" 33 ⟨"GraphKeep", "done", "()I"⟩ ∈ hv_Ts := hv_mem 549 (by decide +kernel) rfl
theorem ki_GK_done : Cond.instanceMethod ⟨"GraphKeep", "done", "()I"⟩ ∈ hv_Ts := hv_mem 550 (by decide +kernel) rfl
theorem ksel_GK_GK_done : Cond.selects "GraphKeep" ⟨"GraphKeep", "done", "()I"⟩ ⟨"GraphKeep", "done", "()I"⟩ ∈ hv_Ts := hv_mem 551 (by decide +kernel) rfl
theorem kc_GK_done : Cond.code ⟨"GraphKeep", "done", "()I"⟩ prog_1_method_9_code 2 (some .int) ∈ hv_Ts := hv_mem 552 (by decide +kernel) rfl
theorem k_GK_140 : Cond.methodLink "GraphKeep" 140 ⟨"GraphKeep$Log", "hasRoom", "(I)Z"⟩ ∈ hv_Ts := hv_mem 553 (by decide +kernel) rfl
theorem ki_Lg_hasRoom : Cond.instanceMethod ⟨"GraphKeep$Log", "hasRoom", "(I)Z"⟩ ∈ hv_Ts := hv_mem 554 (by decide +kernel) rfl
theorem ksel_Lg_Lg_hasRoom : Cond.selects "GraphKeep$Log" ⟨"GraphKeep$Log", "hasRoom", "(I)Z"⟩ ⟨"GraphKeep$Log", "hasRoom", "(I)Z"⟩ ∈ hv_Ts := hv_mem 555 (by decide +kernel) rfl
theorem kc_Lg_hasRoom : Cond.code ⟨"GraphKeep$Log", "hasRoom", "(I)Z"⟩ prog_4_method_3_code 2 (some .boolean) ∈ hv_Ts := hv_mem 556 (by decide +kernel) rfl
theorem k_Lg_15 : Cond.methodLink "GraphKeep$Log" 15 ⟨"GraphKeep$Log", "writesFor", "(I)I"⟩ ∈ hv_Ts := hv_mem 557 (by decide +kernel) rfl
theorem ki_Lg_writesFor : Cond.static ⟨"GraphKeep$Log", "writesFor", "(I)I"⟩ ∈ hv_Ts := hv_mem 558 (by decide +kernel) rfl
theorem kc_Lg_writesFor : Cond.code ⟨"GraphKeep$Log", "writesFor", "(I)I"⟩ prog_4_method_2_code 1 (some .int) ∈ hv_Ts := hv_mem 559 (by decide +kernel) rfl
theorem k_GK_153 : Cond.methodLink "GraphKeep" 153 ⟨"GraphKeep", "keep", "(I)V"⟩ ∈ hv_Ts := hv_mem 561 (by decide +kernel) rfl
theorem kpr_GK_keep : Cond.privateMethod ⟨"GraphKeep", "keep", "(I)V"⟩ ∈ lw_tbl := hv_memL 562 (by decide +kernel)
theorem ki_GK_keep : Cond.instanceMethod ⟨"GraphKeep", "keep", "(I)V"⟩ ∈ hv_Ts := hv_mem 563 (by decide +kernel) rfl
theorem kc_GK_keep : Cond.code ⟨"GraphKeep", "keep", "(I)V"⟩ prog_1_method_35_code 2 none ∈ hv_Ts := hv_mem 564 (by decide +kernel) rfl
theorem k_GK_292 : Cond.methodLink "GraphKeep" 292 ⟨"GraphKeep$Log", "writeTransaction", "(I)Z"⟩ ∈ hv_Ts := hv_mem 565 (by decide +kernel) rfl
theorem ki_Lg_writeTransaction : Cond.instanceMethod ⟨"GraphKeep$Log", "writeTransaction", "(I)Z"⟩ ∈ hv_Ts := hv_mem 566 (by decide +kernel) rfl
theorem ksel_Lg_Lg_writeTransaction : Cond.selects "GraphKeep$Log" ⟨"GraphKeep$Log", "writeTransaction", "(I)Z"⟩ ⟨"GraphKeep$Log", "writeTransaction", "(I)Z"⟩ ∈ hv_Ts := hv_mem 567 (by decide +kernel) rfl
theorem kc_Lg_writeTransaction : Cond.code ⟨"GraphKeep$Log", "writeTransaction", "(I)Z"⟩ prog_4_method_5_code 4 (some .boolean) ∈ hv_Ts := hv_mem 568 (by decide +kernel) rfl
theorem k_Lg_22 : Cond.methodLink "GraphKeep$Log" 22 ⟨"GraphKeep$Log", "write", "(I)I"⟩ ∈ hv_Ts := hv_mem 569 (by decide +kernel) rfl
theorem kpr_Lg_write : Cond.privateMethod ⟨"GraphKeep$Log", "write", "(I)I"⟩ ∈ lw_tbl := hv_memL 570 (by decide +kernel)
theorem ki_Lg_write : Cond.instanceMethod ⟨"GraphKeep$Log", "write", "(I)I"⟩ ∈ hv_Ts := hv_mem 571 (by decide +kernel) rfl
theorem kc_Lg_write : Cond.code ⟨"GraphKeep$Log", "write", "(I)I"⟩ prog_4_method_8_code 4 (some .int) ∈ hv_Ts := hv_mem 572 (by decide +kernel) rfl
theorem k_Lg_31 : Cond.methodLink "GraphKeep$Log" 31 ⟨"java/lang/Math", "max", "(II)I"⟩ ∈ hv_Ts := hv_mem 573 (by decide +kernel) rfl
theorem ki_mmax : Cond.static Lib.Math.max.name ∈ hv_Ts := hv_mem 574 (by decide +kernel) rfl
theorem kc_mmax : Cond.code Lib.Math.max.name Lib.Math.max.code 2 (some .int) ∈ hv_Ts := hv_mem 575 (by decide +kernel) rfl
theorem k_GK_185 : Cond.methodLink "GraphKeep" 185 ⟨"GraphKeep", "goOff", "()V"⟩ ∈ hv_Ts := hv_mem 576 (by decide +kernel) rfl
theorem kpr_GK_goOff : Cond.privateMethod ⟨"GraphKeep", "goOff", "()V"⟩ ∈ lw_tbl := hv_memL 577 (by decide +kernel)
theorem ki_GK_goOff : Cond.instanceMethod ⟨"GraphKeep", "goOff", "()V"⟩ ∈ hv_Ts := hv_mem 578 (by decide +kernel) rfl
theorem kc_GK_goOff : Cond.code ⟨"GraphKeep", "goOff", "()V"⟩ prog_1_method_36_code 1 none ∈ hv_Ts := hv_mem 579 (by decide +kernel) rfl
theorem k_GK_301 : Cond.methodLink "GraphKeep" 301 ⟨"GraphKeep$Graph", "clear", "()V"⟩ ∈ hv_Ts := hv_mem 580 (by decide +kernel) rfl
theorem ki_Gr_clear : Cond.instanceMethod ⟨"GraphKeep$Graph", "clear", "()V"⟩ ∈ hv_Ts := hv_mem 581 (by decide +kernel) rfl
theorem ksel_Gr_Gr_clear : Cond.selects "GraphKeep$Graph" ⟨"GraphKeep$Graph", "clear", "()V"⟩ ⟨"GraphKeep$Graph", "clear", "()V"⟩ ∈ hv_Ts := hv_mem 582 (by decide +kernel) rfl
theorem kc_Gr_clear : Cond.code ⟨"GraphKeep$Graph", "clear", "()V"⟩ prog_2_method_14_code 2 none ∈ hv_Ts := hv_mem 583 (by decide +kernel) rfl
theorem k_GK_156 : Cond.methodLink "GraphKeep" 156 ⟨"GraphKeep", "closeStatement", "()V"⟩ ∈ hv_Ts := hv_mem 585 (by decide +kernel) rfl
theorem kpr_GK_closeStatement : Cond.privateMethod ⟨"GraphKeep", "closeStatement", "()V"⟩ ∈ lw_tbl := hv_memL 586 (by decide +kernel)
theorem ki_GK_closeStatement : Cond.instanceMethod ⟨"GraphKeep", "closeStatement", "()V"⟩ ∈ hv_Ts := hv_mem 587 (by decide +kernel) rfl
theorem kc_GK_closeStatement : Cond.code ⟨"GraphKeep", "closeStatement", "()V"⟩ prog_1_method_37_code 1 none ∈ hv_Ts := hv_mem 588 (by decide +kernel) rfl
theorem k_Law_100 : Cond.methodLink "GraphKeepLaw" 100 ⟨"GraphKeepLaw", "commit", "(LGraphKeep;[J)I"⟩ ∈ hv_Ts := hv_mem 589 (by decide +kernel) rfl
theorem ki_Law_commit : Cond.static ⟨"GraphKeepLaw", "commit", "(LGraphKeep;[J)I"⟩ ∈ hv_Ts := hv_mem 590 (by decide +kernel) rfl
theorem kc_Law_commit : Cond.codeWith ⟨"GraphKeepLaw", "commit", "(LGraphKeep;[J)I"⟩ method_9_code 3 (some .int) [(0, 8, 11, 15)] ∈ hv_Ts := hv_mem 591 (by decide +kernel) rfl
theorem k_Law_36 : Cond.methodLink "GraphKeepLaw" 36 ⟨"GraphKeep", "commit", "()I"⟩ ∈ hv_Ts := hv_mem 592 (by decide +kernel) rfl
theorem ki_GK_commit : Cond.instanceMethod ⟨"GraphKeep", "commit", "()I"⟩ ∈ hv_Ts := hv_mem 593 (by decide +kernel) rfl
theorem ksel_GK_GK_commit : Cond.selects "GraphKeep" ⟨"GraphKeep", "commit", "()I"⟩ ⟨"GraphKeep", "commit", "()I"⟩ ∈ hv_Ts := hv_mem 594 (by decide +kernel) rfl
theorem kc_GK_commit : Cond.code ⟨"GraphKeep", "commit", "()I"⟩ prog_1_method_12_code 2 (some .int) ∈ hv_Ts := hv_mem 595 (by decide +kernel) rfl
theorem k_GK_168 : Cond.methodLink "GraphKeep" 168 ⟨"GraphKeep$Log", "writesFor", "(I)I"⟩ ∈ hv_Ts := hv_mem 596 (by decide +kernel) rfl
theorem k_Law_107 : Cond.methodLink "GraphKeepLaw" 107 ⟨"GraphKeepLaw", "checkpoint", "(LGraphKeep;[J)I"⟩ ∈ hv_Ts := hv_mem 597 (by decide +kernel) rfl
theorem ki_Law_checkpoint : Cond.static ⟨"GraphKeepLaw", "checkpoint", "(LGraphKeep;[J)I"⟩ ∈ hv_Ts := hv_mem 598 (by decide +kernel) rfl
theorem kc_Law_checkpoint : Cond.codeWith ⟨"GraphKeepLaw", "checkpoint", "(LGraphKeep;[J)I"⟩ method_10_code 3 (some .int) [(0, 8, 11, 15)] ∈ hv_Ts := hv_mem 599 (by decide +kernel) rfl
theorem k_Law_39 : Cond.methodLink "GraphKeepLaw" 39 ⟨"GraphKeep", "checkpoint", "()I"⟩ ∈ hv_Ts := hv_mem 600 (by decide +kernel) rfl
theorem ki_GK_checkpoint : Cond.instanceMethod ⟨"GraphKeep", "checkpoint", "()I"⟩ ∈ hv_Ts := hv_mem 601 (by decide +kernel) rfl
theorem ksel_GK_GK_checkpoint : Cond.selects "GraphKeep" ⟨"GraphKeep", "checkpoint", "()I"⟩ ⟨"GraphKeep", "checkpoint", "()I"⟩ ∈ hv_Ts := hv_mem 602 (by decide +kernel) rfl
theorem kc_GK_checkpoint : Cond.code ⟨"GraphKeep", "checkpoint", "()I"⟩ prog_1_method_14_code 2 (some .int) ∈ hv_Ts := hv_mem 603 (by decide +kernel) rfl
theorem k_GK_182 : Cond.methodLink "GraphKeep" 182 ⟨"GraphKeep$Log", "writeCheckpoint", "(I)Z"⟩ ∈ hv_Ts := hv_mem 604 (by decide +kernel) rfl
theorem ki_Lg_writeCheckpoint : Cond.instanceMethod ⟨"GraphKeep$Log", "writeCheckpoint", "(I)Z"⟩ ∈ hv_Ts := hv_mem 605 (by decide +kernel) rfl
theorem ksel_Lg_Lg_writeCheckpoint : Cond.selects "GraphKeep$Log" ⟨"GraphKeep$Log", "writeCheckpoint", "(I)Z"⟩ ⟨"GraphKeep$Log", "writeCheckpoint", "(I)Z"⟩ ∈ hv_Ts := hv_mem 606 (by decide +kernel) rfl
theorem kc_Lg_writeCheckpoint : Cond.code ⟨"GraphKeep$Log", "writeCheckpoint", "(I)Z"⟩ prog_4_method_6_code 2 (some .boolean) ∈ hv_Ts := hv_mem 607 (by decide +kernel) rfl
theorem k_Law_133 : Cond.methodLink "GraphKeepLaw" 133 ⟨"GraphKeepLaw", "value", "(LGraphKeep;IIII[J)I"⟩ ∈ hv_Ts := hv_mem 609 (by decide +kernel) rfl
theorem ki_Law_value : Cond.static ⟨"GraphKeepLaw", "value", "(LGraphKeep;IIII[J)I"⟩ ∈ hv_Ts := hv_mem 610 (by decide +kernel) rfl
theorem kc_Law_value : Cond.codeWith ⟨"GraphKeepLaw", "value", "(LGraphKeep;IIII[J)I"⟩ method_11_code 7 (some .int) [(0, 13, 16, 46)] ∈ hv_Ts := hv_mem 611 (by decide +kernel) rfl
theorem k_Law_46 : Cond.classLink "GraphKeepLaw" 46 "java/util/NoSuchElementException" ∈ hv_Ts := hv_mem 612 (by decide +kernel) rfl
theorem k_Law_42 : Cond.methodLink "GraphKeepLaw" 42 ⟨"GraphKeep", "value", "(IIII)J"⟩ ∈ hv_Ts := hv_mem 613 (by decide +kernel) rfl
theorem ki_GK_value : Cond.instanceMethod ⟨"GraphKeep", "value", "(IIII)J"⟩ ∈ hv_Ts := hv_mem 614 (by decide +kernel) rfl
theorem ksel_GK_GK_value : Cond.selects "GraphKeep" ⟨"GraphKeep", "value", "(IIII)J"⟩ ⟨"GraphKeep", "value", "(IIII)J"⟩ ∈ hv_Ts := hv_mem 615 (by decide +kernel) rfl
theorem kc_GK_value : Cond.code ⟨"GraphKeep", "value", "(IIII)J"⟩ prog_1_method_20_code 7 (some .long) ∈ hv_Ts := hv_mem 616 (by decide +kernel) rfl
theorem k_GK_223 : Cond.classLink "GraphKeep" 223 "java/util/NoSuchElementException" ∈ hv_Ts := hv_mem 617 (by decide +kernel) rfl
theorem kin_NoSuchElementException : Cond.instantiable "java/util/NoSuchElementException" 6 ∈ hv_Ts := hv_mem 618 (by decide +kernel) rfl
theorem k_GK_227 : Cond.methodLink "GraphKeep" 227 ⟨"java/util/NoSuchElementException", "<init>", "(Ljava/lang/String;)V"⟩ ∈ hv_Ts := hv_mem 626 (by decide +kernel) rfl
theorem k_Law_49 : Cond.classLink "GraphKeepLaw" 49 "GraphKeepModel" ∈ hv_Ts := hv_mem 634 (by decide +kernel) rfl
theorem kin_Model : Cond.instantiable "GraphKeepModel" 25 ∈ hv_Ts := hv_mem 635 (by decide +kernel) rfl
theorem k_Law_51 : Cond.methodLink "GraphKeepLaw" 51 ⟨"GraphKeepModel", "<init>", "()V"⟩ ∈ hv_Ts := hv_mem 636 (by decide +kernel) rfl
theorem ki_Model_init : Cond.instanceMethod ⟨"GraphKeepModel", "<init>", "()V"⟩ ∈ hv_Ts := hv_mem 637 (by decide +kernel) rfl
theorem kc_Model_init : Cond.code ⟨"GraphKeepModel", "<init>", "()V"⟩ prog_10_method_1_code 1 none ∈ hv_Ts := hv_mem 638 (by decide +kernel) rfl
theorem k_Model_1 : Cond.methodLink "GraphKeepModel" 1 ⟨"java/lang/Object", "<init>", "()V"⟩ ∈ hv_Ts := hv_mem 639 (by decide +kernel) rfl
theorem k_Model_51 : Cond.fieldLink "GraphKeepModel" 51 "GraphKeepModel" "thrown" "I" ∈ hv_Ts := hv_mem 640 (by decide +kernel) rfl
theorem k_Model_7 : Cond.fieldLink "GraphKeepModel" 7 "GraphKeepModel" "there" "[Z" ∈ hv_Ts := hv_mem 641 (by decide +kernel) rfl
theorem k_Model_13 : Cond.fieldLink "GraphKeepModel" 13 "GraphKeepModel" "starts" "[I" ∈ hv_Ts := hv_mem 642 (by decide +kernel) rfl
theorem k_Model_17 : Cond.fieldLink "GraphKeepModel" 17 "GraphKeepModel" "ends" "[I" ∈ hv_Ts := hv_mem 643 (by decide +kernel) rfl
theorem k_Model_20 : Cond.fieldLink "GraphKeepModel" 20 "GraphKeepModel" "types" "[I" ∈ hv_Ts := hv_mem 644 (by decide +kernel) rfl
theorem k_Model_23 : Cond.fieldLink "GraphKeepModel" 23 "GraphKeepModel" "labelMany" "[I" ∈ hv_Ts := hv_mem 645 (by decide +kernel) rfl
theorem k_Model_26 : Cond.fieldLink "GraphKeepModel" 26 "GraphKeepModel" "labels" "[I" ∈ hv_Ts := hv_mem 646 (by decide +kernel) rfl
theorem k_Model_29 : Cond.fieldLink "GraphKeepModel" 29 "GraphKeepModel" "propertyMany" "[I" ∈ hv_Ts := hv_mem 647 (by decide +kernel) rfl
theorem k_Model_32 : Cond.fieldLink "GraphKeepModel" 32 "GraphKeepModel" "keys" "[I" ∈ hv_Ts := hv_mem 648 (by decide +kernel) rfl
theorem k_Model_35 : Cond.fieldLink "GraphKeepModel" 35 "GraphKeepModel" "kinds" "[I" ∈ hv_Ts := hv_mem 649 (by decide +kernel) rfl
theorem k_Model_38 : Cond.fieldLink "GraphKeepModel" 38 "GraphKeepModel" "values" "[J" ∈ hv_Ts := hv_mem 650 (by decide +kernel) rfl
theorem k_Model_42 : Cond.fieldLink "GraphKeepModel" 42 "GraphKeepModel" "texts" "[J" ∈ hv_Ts := hv_mem 651 (by decide +kernel) rfl
theorem k_Model_45 : Cond.fieldLink "GraphKeepModel" 45 "GraphKeepModel" "taken" "[Z" ∈ hv_Ts := hv_mem 652 (by decide +kernel) rfl
theorem k_Model_103 : Cond.fieldLink "GraphKeepModel" 103 "GraphKeepModel" "tapeSize" "I" ∈ hv_Ts := hv_mem 653 (by decide +kernel) rfl
theorem k_Model_48 : Cond.fieldLink "GraphKeepModel" 48 "GraphKeepModel" "tape" "[J" ∈ hv_Ts := hv_mem 654 (by decide +kernel) rfl
theorem k_Model_69 : Cond.fieldLink "GraphKeepModel" 69 "GraphKeepModel" "error" "I" ∈ hv_Ts := hv_mem 655 (by decide +kernel) rfl
theorem k_Model_62 : Cond.fieldLink "GraphKeepModel" 62 "GraphKeepModel" "off" "Z" ∈ hv_Ts := hv_mem 656 (by decide +kernel) rfl
theorem k_Model_81 : Cond.fieldLink "GraphKeepModel" 81 "GraphKeepModel" "inside" "Z" ∈ hv_Ts := hv_mem 657 (by decide +kernel) rfl
theorem k_Model_59 : Cond.fieldLink "GraphKeepModel" 59 "GraphKeepModel" "changes" "I" ∈ hv_Ts := hv_mem 658 (by decide +kernel) rfl
theorem k_Model_66 : Cond.fieldLink "GraphKeepModel" 66 "GraphKeepModel" "earlier" "I" ∈ hv_Ts := hv_mem 659 (by decide +kernel) rfl
theorem k_Model_97 : Cond.fieldLink "GraphKeepModel" 97 "GraphKeepModel" "logged" "I" ∈ hv_Ts := hv_mem 660 (by decide +kernel) rfl
theorem k_Model_100 : Cond.fieldLink "GraphKeepModel" 100 "GraphKeepModel" "over" "I" ∈ hv_Ts := hv_mem 661 (by decide +kernel) rfl
theorem k_Model_94 : Cond.fieldLink "GraphKeepModel" 94 "GraphKeepModel" "loose" "I" ∈ hv_Ts := hv_mem 662 (by decide +kernel) rfl
theorem k_Model_87 : Cond.fieldLink "GraphKeepModel" 87 "GraphKeepModel" "written" "I" ∈ hv_Ts := hv_mem 663 (by decide +kernel) rfl
theorem k_Model_78 : Cond.fieldLink "GraphKeepModel" 78 "GraphKeepModel" "due" "I" ∈ hv_Ts := hv_mem 664 (by decide +kernel) rfl
theorem ka_long : Cond.arrayClass .long ∈ hv_Ts := hv_mem 716 (by decide +kernel) rfl
theorem k_Law_65 : Cond.methodLink "GraphKeepLaw" 65 ⟨"GraphKeepModel", "thrown", "()I"⟩ ∈ hv_Ts := hv_mem 717 (by decide +kernel) rfl
theorem ki_Model_thrown : Cond.instanceMethod ⟨"GraphKeepModel", "thrown", "()I"⟩ ∈ hv_Ts := hv_mem 718 (by decide +kernel) rfl
theorem ksel_Model_Model_thrown : Cond.selects "GraphKeepModel" ⟨"GraphKeepModel", "thrown", "()I"⟩ ⟨"GraphKeepModel", "thrown", "()I"⟩ ∈ hv_Ts := hv_mem 719 (by decide +kernel) rfl
theorem kc_Model_thrown : Cond.code ⟨"GraphKeepModel", "thrown", "()I"⟩ prog_10_method_2_code 1 (some .int) ∈ hv_Ts := hv_mem 720 (by decide +kernel) rfl
theorem k_Law_58 : Cond.methodLink "GraphKeepLaw" 58 ⟨"GraphKeepModel", "type", "(JI)Z"⟩ ∈ hv_Ts := hv_mem 721 (by decide +kernel) rfl
theorem ki_Model_type : Cond.instanceMethod ⟨"GraphKeepModel", "type", "(JI)Z"⟩ ∈ hv_Ts := hv_mem 722 (by decide +kernel) rfl
theorem ksel_Model_Model_type : Cond.selects "GraphKeepModel" ⟨"GraphKeepModel", "type", "(JI)Z"⟩ ⟨"GraphKeepModel", "type", "(JI)Z"⟩ ∈ hv_Ts := hv_mem 723 (by decide +kernel) rfl
theorem kc_Model_type : Cond.code ⟨"GraphKeepModel", "type", "(JI)Z"⟩ prog_10_method_18_code 8 (some .boolean) ∈ hv_Ts := hv_mem 724 (by decide +kernel) rfl
theorem k_Model_106 : Cond.constantLong "GraphKeepModel" 106 255 ∈ hv_Ts := hv_mem 725 (by decide +kernel) rfl
theorem k_Model_108 : Cond.constantLong "GraphKeepModel" 108 31 ∈ hv_Ts := hv_mem 726 (by decide +kernel) rfl
theorem k_Model_110 : Cond.constantLong "GraphKeepModel" 110 127 ∈ hv_Ts := hv_mem 727 (by decide +kernel) rfl
theorem k_Law_64 : Cond.methodLink "GraphKeepLaw" 64 ⟨"GraphKeepModel", "node", "()I"⟩ ∈ hv_Ts := hv_mem 728 (by decide +kernel) rfl
theorem ki_Model_node : Cond.instanceMethod ⟨"GraphKeepModel", "node", "()I"⟩ ∈ hv_Ts := hv_mem 729 (by decide +kernel) rfl
theorem ksel_Model_Model_node : Cond.selects "GraphKeepModel" ⟨"GraphKeepModel", "node", "()I"⟩ ⟨"GraphKeepModel", "node", "()I"⟩ ∈ hv_Ts := hv_mem 730 (by decide +kernel) rfl
theorem kc_Model_node : Cond.code ⟨"GraphKeepModel", "node", "()I"⟩ prog_10_method_19_code 2 (some .int) ∈ hv_Ts := hv_mem 731 (by decide +kernel) rfl
theorem k_Model_112 : Cond.methodLink "GraphKeepModel" 112 ⟨"GraphKeepModel", "free", "(II)I"⟩ ∈ hv_Ts := hv_mem 732 (by decide +kernel) rfl
theorem kpr_Model_free : Cond.privateMethod ⟨"GraphKeepModel", "free", "(II)I"⟩ ∈ lw_tbl := hv_memL 733 (by decide +kernel)
theorem ki_Model_free : Cond.instanceMethod ⟨"GraphKeepModel", "free", "(II)I"⟩ ∈ hv_Ts := hv_mem 734 (by decide +kernel) rfl
theorem kc_Model_free : Cond.code ⟨"GraphKeepModel", "free", "(II)I"⟩ prog_10_method_10_code 4 (some .int) ∈ hv_Ts := hv_mem 735 (by decide +kernel) rfl
theorem k_Model_116 : Cond.methodLink "GraphKeepModel" 116 ⟨"GraphKeepModel", "fails", "(ZZZZZ)Z"⟩ ∈ hv_Ts := hv_mem 736 (by decide +kernel) rfl
theorem kpr_Model_fails : Cond.privateMethod ⟨"GraphKeepModel", "fails", "(ZZZZZ)Z"⟩ ∈ lw_tbl := hv_memL 737 (by decide +kernel)
theorem ki_Model_fails : Cond.instanceMethod ⟨"GraphKeepModel", "fails", "(ZZZZZ)Z"⟩ ∈ hv_Ts := hv_mem 738 (by decide +kernel) rfl
theorem kc_Model_fails : Cond.code ⟨"GraphKeepModel", "fails", "(ZZZZZ)Z"⟩ prog_10_method_12_code 7 (some .boolean) ∈ hv_Ts := hv_mem 739 (by decide +kernel) rfl
theorem k_Model_120 : Cond.methodLink "GraphKeepModel" 120 ⟨"GraphKeepModel", "begins", "()V"⟩ ∈ hv_Ts := hv_mem 740 (by decide +kernel) rfl
theorem kpr_Model_begins : Cond.privateMethod ⟨"GraphKeepModel", "begins", "()V"⟩ ∈ lw_tbl := hv_memL 741 (by decide +kernel)
theorem ki_Model_begins : Cond.instanceMethod ⟨"GraphKeepModel", "begins", "()V"⟩ ∈ hv_Ts := hv_mem 742 (by decide +kernel) rfl
theorem kc_Model_begins : Cond.code ⟨"GraphKeepModel", "begins", "()V"⟩ prog_10_method_13_code 1 none ∈ hv_Ts := hv_mem 743 (by decide +kernel) rfl
theorem k_Model_72 : Cond.methodLink "GraphKeepModel" 72 ⟨"GraphKeepModel", "copy", "(II)V"⟩ ∈ hv_Ts := hv_mem 744 (by decide +kernel) rfl
theorem kpr_Model_copy : Cond.privateMethod ⟨"GraphKeepModel", "copy", "(II)V"⟩ ∈ lw_tbl := hv_memL 745 (by decide +kernel)
theorem ki_Model_copy : Cond.instanceMethod ⟨"GraphKeepModel", "copy", "(II)V"⟩ ∈ hv_Ts := hv_mem 746 (by decide +kernel) rfl
theorem kc_Model_copy : Cond.code ⟨"GraphKeepModel", "copy", "(II)V"⟩ prog_10_method_4_code 4 none ∈ hv_Ts := hv_mem 747 (by decide +kernel) rfl
theorem k_Model_55 : Cond.methodLink "GraphKeepModel" 55 ⟨"GraphKeepModel", "copyThing", "(II)V"⟩ ∈ hv_Ts := hv_mem 748 (by decide +kernel) rfl
theorem kpr_Model_copyThing : Cond.privateMethod ⟨"GraphKeepModel", "copyThing", "(II)V"⟩ ∈ lw_tbl := hv_memL 749 (by decide +kernel)
theorem ki_Model_copyThing : Cond.instanceMethod ⟨"GraphKeepModel", "copyThing", "(II)V"⟩ ∈ hv_Ts := hv_mem 750 (by decide +kernel) rfl
theorem kc_Model_copyThing : Cond.code ⟨"GraphKeepModel", "copyThing", "(II)V"⟩ prog_10_method_3_code 4 none ∈ hv_Ts := hv_mem 751 (by decide +kernel) rfl
theorem k_Law_71 : Cond.methodLink "GraphKeepLaw" 71 ⟨"GraphKeepModel", "label", "(IIZ)Z"⟩ ∈ hv_Ts := hv_mem 752 (by decide +kernel) rfl
theorem ki_Model_label : Cond.instanceMethod ⟨"GraphKeepModel", "label", "(IIZ)Z"⟩ ∈ hv_Ts := hv_mem 753 (by decide +kernel) rfl
theorem ksel_Model_Model_label : Cond.selects "GraphKeepModel" ⟨"GraphKeepModel", "label", "(IIZ)Z"⟩ ⟨"GraphKeepModel", "label", "(IIZ)Z"⟩ ∈ hv_Ts := hv_mem 754 (by decide +kernel) rfl
theorem kc_Model_label : Cond.code ⟨"GraphKeepModel", "label", "(IIZ)Z"⟩ prog_10_method_20_code 8 (some .boolean) ∈ hv_Ts := hv_mem 755 (by decide +kernel) rfl
theorem k_Model_123 : Cond.methodLink "GraphKeepModel" 123 ⟨"GraphKeepModel", "find", "(II)I"⟩ ∈ hv_Ts := hv_mem 756 (by decide +kernel) rfl
theorem kpr_Model_find : Cond.privateMethod ⟨"GraphKeepModel", "find", "(II)I"⟩ ∈ lw_tbl := hv_memL 757 (by decide +kernel)
theorem ki_Model_find : Cond.instanceMethod ⟨"GraphKeepModel", "find", "(II)I"⟩ ∈ hv_Ts := hv_mem 758 (by decide +kernel) rfl
theorem kc_Model_find : Cond.code ⟨"GraphKeepModel", "find", "(II)I"⟩ prog_10_method_6_code 5 (some .int) ∈ hv_Ts := hv_mem 759 (by decide +kernel) rfl
theorem k_Model_126 : Cond.methodLink "GraphKeepModel" 126 ⟨"GraphKeepModel", "isLabeled", "(II)Z"⟩ ∈ hv_Ts := hv_mem 760 (by decide +kernel) rfl
theorem kpr_Model_isLabeled : Cond.privateMethod ⟨"GraphKeepModel", "isLabeled", "(II)Z"⟩ ∈ lw_tbl := hv_memL 761 (by decide +kernel)
theorem ki_Model_isLabeled : Cond.instanceMethod ⟨"GraphKeepModel", "isLabeled", "(II)Z"⟩ ∈ hv_Ts := hv_mem 762 (by decide +kernel) rfl
theorem kc_Model_isLabeled : Cond.code ⟨"GraphKeepModel", "isLabeled", "(II)Z"⟩ prog_10_method_8_code 5 (some .boolean) ∈ hv_Ts := hv_mem 763 (by decide +kernel) rfl
theorem k_Law_75 : Cond.methodLink "GraphKeepLaw" 75 ⟨"GraphKeepModel", "property", "(IIIIJ)Z"⟩ ∈ hv_Ts := hv_mem 764 (by decide +kernel) rfl
theorem ki_Model_property : Cond.instanceMethod ⟨"GraphKeepModel", "property", "(IIIIJ)Z"⟩ ∈ hv_Ts := hv_mem 765 (by decide +kernel) rfl
theorem ksel_Model_Model_property : Cond.selects "GraphKeepModel" ⟨"GraphKeepModel", "property", "(IIIIJ)Z"⟩ ⟨"GraphKeepModel", "property", "(IIIIJ)Z"⟩ ∈ hv_Ts := hv_mem 766 (by decide +kernel) rfl
theorem kc_Model_property : Cond.code ⟨"GraphKeepModel", "property", "(IIIIJ)Z"⟩ prog_10_method_24_code 15 (some .boolean) ∈ hv_Ts := hv_mem 767 (by decide +kernel) rfl
theorem k_Model_130 : Cond.methodLink "GraphKeepModel" 130 ⟨"GraphKeepModel", "propertyOf", "(II)I"⟩ ∈ hv_Ts := hv_mem 768 (by decide +kernel) rfl
theorem kpr_Model_propertyOf : Cond.privateMethod ⟨"GraphKeepModel", "propertyOf", "(II)I"⟩ ∈ lw_tbl := hv_memL 769 (by decide +kernel)
theorem ki_Model_propertyOf : Cond.instanceMethod ⟨"GraphKeepModel", "propertyOf", "(II)I"⟩ ∈ hv_Ts := hv_mem 770 (by decide +kernel) rfl
theorem kc_Model_propertyOf : Cond.code ⟨"GraphKeepModel", "propertyOf", "(II)I"⟩ prog_10_method_7_code 5 (some .int) ∈ hv_Ts := hv_mem 771 (by decide +kernel) rfl
theorem k_Model_133 : Cond.methodLink "GraphKeepModel" 133 ⟨"GraphKeepModel", "isSame", "(IIJ)Z"⟩ ∈ hv_Ts := hv_mem 772 (by decide +kernel) rfl
theorem kpr_Model_isSame : Cond.privateMethod ⟨"GraphKeepModel", "isSame", "(IIJ)Z"⟩ ∈ lw_tbl := hv_memL 773 (by decide +kernel)
theorem ki_Model_isSame : Cond.instanceMethod ⟨"GraphKeepModel", "isSame", "(IIJ)Z"⟩ ∈ hv_Ts := hv_mem 774 (by decide +kernel) rfl
theorem kc_Model_isSame : Cond.code ⟨"GraphKeepModel", "isSame", "(IIJ)Z"⟩ prog_10_method_21_code 7 (some .boolean) ∈ hv_Ts := hv_mem 775 (by decide +kernel) rfl
theorem k_Model_137 : Cond.methodLink "GraphKeepModel" 137 ⟨"GraphKeepModel", "dropProperty", "(II)V"⟩ ∈ hv_Ts := hv_mem 776 (by decide +kernel) rfl
theorem kpr_Model_dropProperty : Cond.privateMethod ⟨"GraphKeepModel", "dropProperty", "(II)V"⟩ ∈ lw_tbl := hv_memL 777 (by decide +kernel)
theorem ki_Model_dropProperty : Cond.instanceMethod ⟨"GraphKeepModel", "dropProperty", "(II)V"⟩ ∈ hv_Ts := hv_mem 778 (by decide +kernel) rfl
theorem kc_Model_dropProperty : Cond.code ⟨"GraphKeepModel", "dropProperty", "(II)V"⟩ prog_10_method_23_code 5 none ∈ hv_Ts := hv_mem 779 (by decide +kernel) rfl
theorem k_Model_140 : Cond.methodLink "GraphKeepModel" 140 ⟨"GraphKeepModel", "lay", "(IIIJ)V"⟩ ∈ hv_Ts := hv_mem 780 (by decide +kernel) rfl
theorem kpr_Model_lay : Cond.privateMethod ⟨"GraphKeepModel", "lay", "(IIIJ)V"⟩ ∈ lw_tbl := hv_memL 781 (by decide +kernel)
theorem ki_Model_lay : Cond.instanceMethod ⟨"GraphKeepModel", "lay", "(IIIJ)V"⟩ ∈ hv_Ts := hv_mem 782 (by decide +kernel) rfl
theorem kc_Model_lay : Cond.code ⟨"GraphKeepModel", "lay", "(IIIJ)V"⟩ prog_10_method_22_code 7 none ∈ hv_Ts := hv_mem 783 (by decide +kernel) rfl
theorem k_Law_79 : Cond.methodLink "GraphKeepLaw" 79 ⟨"GraphKeepModel", "link", "(III)I"⟩ ∈ hv_Ts := hv_mem 784 (by decide +kernel) rfl
theorem ki_Model_link : Cond.instanceMethod ⟨"GraphKeepModel", "link", "(III)I"⟩ ∈ hv_Ts := hv_mem 785 (by decide +kernel) rfl
theorem ksel_Model_Model_link : Cond.selects "GraphKeepModel" ⟨"GraphKeepModel", "link", "(III)I"⟩ ⟨"GraphKeepModel", "link", "(III)I"⟩ ∈ hv_Ts := hv_mem 786 (by decide +kernel) rfl
theorem kc_Model_link : Cond.code ⟨"GraphKeepModel", "link", "(III)I"⟩ prog_10_method_25_code 7 (some .int) ∈ hv_Ts := hv_mem 787 (by decide +kernel) rfl
theorem k_Law_83 : Cond.methodLink "GraphKeepLaw" 83 ⟨"GraphKeepModel", "take", "(II)V"⟩ ∈ hv_Ts := hv_mem 788 (by decide +kernel) rfl
theorem ki_Model_take : Cond.instanceMethod ⟨"GraphKeepModel", "take", "(II)V"⟩ ∈ hv_Ts := hv_mem 789 (by decide +kernel) rfl
theorem ksel_Model_Model_take : Cond.selects "GraphKeepModel" ⟨"GraphKeepModel", "take", "(II)V"⟩ ⟨"GraphKeepModel", "take", "(II)V"⟩ ∈ hv_Ts := hv_mem 790 (by decide +kernel) rfl
theorem kc_Model_take : Cond.code ⟨"GraphKeepModel", "take", "(II)V"⟩ prog_10_method_26_code 5 none ∈ hv_Ts := hv_mem 791 (by decide +kernel) rfl
theorem k_Model_144 : Cond.methodLink "GraphKeepModel" 144 ⟨"GraphKeepModel", "links", "(IZ)I"⟩ ∈ hv_Ts := hv_mem 792 (by decide +kernel) rfl
theorem kpr_Model_links : Cond.privateMethod ⟨"GraphKeepModel", "links", "(IZ)I"⟩ ∈ lw_tbl := hv_memL 793 (by decide +kernel)
theorem ki_Model_links : Cond.instanceMethod ⟨"GraphKeepModel", "links", "(IZ)I"⟩ ∈ hv_Ts := hv_mem 794 (by decide +kernel) rfl
theorem kc_Model_links : Cond.code ⟨"GraphKeepModel", "links", "(IZ)I"⟩ prog_10_method_9_code 5 (some .int) ∈ hv_Ts := hv_mem 795 (by decide +kernel) rfl
theorem k_Law_87 : Cond.methodLink "GraphKeepLaw" 87 ⟨"GraphKeepModel", "error", "()I"⟩ ∈ hv_Ts := hv_mem 796 (by decide +kernel) rfl
theorem ki_Model_error : Cond.instanceMethod ⟨"GraphKeepModel", "error", "()I"⟩ ∈ hv_Ts := hv_mem 797 (by decide +kernel) rfl
theorem ksel_Model_Model_error : Cond.selects "GraphKeepModel" ⟨"GraphKeepModel", "error", "()I"⟩ ⟨"GraphKeepModel", "error", "()I"⟩ ∈ hv_Ts := hv_mem 798 (by decide +kernel) rfl
theorem kc_Model_error : Cond.code ⟨"GraphKeepModel", "error", "()I"⟩ prog_10_method_27_code 1 (some .int) ∈ hv_Ts := hv_mem 799 (by decide +kernel) rfl
theorem k_Law_90 : Cond.methodLink "GraphKeepLaw" 90 ⟨"GraphKeepModel", "done", "()I"⟩ ∈ hv_Ts := hv_mem 800 (by decide +kernel) rfl
theorem ki_Model_done : Cond.instanceMethod ⟨"GraphKeepModel", "done", "()I"⟩ ∈ hv_Ts := hv_mem 801 (by decide +kernel) rfl
theorem ksel_Model_Model_done : Cond.selects "GraphKeepModel" ⟨"GraphKeepModel", "done", "()I"⟩ ⟨"GraphKeepModel", "done", "()I"⟩ ∈ hv_Ts := hv_mem 802 (by decide +kernel) rfl
theorem kc_Model_done : Cond.code ⟨"GraphKeepModel", "done", "()I"⟩ prog_10_method_28_code 2 (some .int) ∈ hv_Ts := hv_mem 803 (by decide +kernel) rfl
theorem k_Model_75 : Cond.methodLink "GraphKeepModel" 75 ⟨"GraphKeepModel", "settle", "()V"⟩ ∈ hv_Ts := hv_mem 804 (by decide +kernel) rfl
theorem kpr_Model_settle : Cond.privateMethod ⟨"GraphKeepModel", "settle", "()V"⟩ ∈ lw_tbl := hv_memL 805 (by decide +kernel)
theorem ki_Model_settle : Cond.instanceMethod ⟨"GraphKeepModel", "settle", "()V"⟩ ∈ hv_Ts := hv_mem 806 (by decide +kernel) rfl
theorem kc_Model_settle : Cond.code ⟨"GraphKeepModel", "settle", "()V"⟩ prog_10_method_11_code 2 none ∈ hv_Ts := hv_mem 807 (by decide +kernel) rfl
theorem k_Model_148 : Cond.methodLink "GraphKeepModel" 148 ⟨"GraphKeepModel", "fits", "(I)Z"⟩ ∈ hv_Ts := hv_mem 808 (by decide +kernel) rfl
theorem kpr_Model_fits : Cond.privateMethod ⟨"GraphKeepModel", "fits", "(I)Z"⟩ ∈ lw_tbl := hv_memL 809 (by decide +kernel)
theorem ki_Model_fits : Cond.instanceMethod ⟨"GraphKeepModel", "fits", "(I)Z"⟩ ∈ hv_Ts := hv_mem 810 (by decide +kernel) rfl
theorem kc_Model_fits : Cond.code ⟨"GraphKeepModel", "fits", "(I)Z"⟩ prog_10_method_17_code 2 (some .boolean) ∈ hv_Ts := hv_mem 811 (by decide +kernel) rfl
theorem k_Model_152 : Cond.methodLink "GraphKeepModel" 152 ⟨"GraphKeepModel", "back", "()V"⟩ ∈ hv_Ts := hv_mem 812 (by decide +kernel) rfl
theorem kpr_Model_back : Cond.privateMethod ⟨"GraphKeepModel", "back", "()V"⟩ ∈ lw_tbl := hv_memL 813 (by decide +kernel)
theorem ki_Model_back : Cond.instanceMethod ⟨"GraphKeepModel", "back", "()V"⟩ ∈ hv_Ts := hv_mem 814 (by decide +kernel) rfl
theorem kc_Model_back : Cond.code ⟨"GraphKeepModel", "back", "()V"⟩ prog_10_method_14_code 1 none ∈ hv_Ts := hv_mem 815 (by decide +kernel) rfl
theorem k_Model_155 : Cond.methodLink "GraphKeepModel" 155 ⟨"GraphKeepModel", "log", "(I)Z"⟩ ∈ hv_Ts := hv_mem 816 (by decide +kernel) rfl
theorem kpr_Model_log : Cond.privateMethod ⟨"GraphKeepModel", "log", "(I)Z"⟩ ∈ lw_tbl := hv_memL 817 (by decide +kernel)
theorem ki_Model_log : Cond.instanceMethod ⟨"GraphKeepModel", "log", "(I)Z"⟩ ∈ hv_Ts := hv_mem 818 (by decide +kernel) rfl
theorem kc_Model_log : Cond.code ⟨"GraphKeepModel", "log", "(I)Z"⟩ prog_10_method_16_code 3 (some .boolean) ∈ hv_Ts := hv_mem 819 (by decide +kernel) rfl
theorem k_Model_90 : Cond.methodLink "GraphKeepModel" 90 ⟨"GraphKeepModel", "write", "()Z"⟩ ∈ hv_Ts := hv_mem 820 (by decide +kernel) rfl
theorem kpr_Model_write : Cond.privateMethod ⟨"GraphKeepModel", "write", "()Z"⟩ ∈ lw_tbl := hv_memL 821 (by decide +kernel)
theorem ki_Model_write : Cond.instanceMethod ⟨"GraphKeepModel", "write", "()Z"⟩ ∈ hv_Ts := hv_mem 822 (by decide +kernel) rfl
theorem kc_Model_write : Cond.code ⟨"GraphKeepModel", "write", "()Z"⟩ prog_10_method_15_code 1 (some .boolean) ∈ hv_Ts := hv_mem 823 (by decide +kernel) rfl
theorem k_Model_84 : Cond.methodLink "GraphKeepModel" 84 ⟨"GraphKeepModel", "erase", "()V"⟩ ∈ hv_Ts := hv_mem 824 (by decide +kernel) rfl
theorem kpr_Model_erase : Cond.privateMethod ⟨"GraphKeepModel", "erase", "()V"⟩ ∈ lw_tbl := hv_memL 825 (by decide +kernel)
theorem ki_Model_erase : Cond.instanceMethod ⟨"GraphKeepModel", "erase", "()V"⟩ ∈ hv_Ts := hv_mem 826 (by decide +kernel) rfl
theorem kc_Model_erase : Cond.code ⟨"GraphKeepModel", "erase", "()V"⟩ prog_10_method_5_code 2 none ∈ hv_Ts := hv_mem 827 (by decide +kernel) rfl
theorem k_Law_94 : Cond.methodLink "GraphKeepLaw" 94 ⟨"GraphKeepModel", "undo", "()I"⟩ ∈ hv_Ts := hv_mem 828 (by decide +kernel) rfl
theorem ki_Model_undo : Cond.instanceMethod ⟨"GraphKeepModel", "undo", "()I"⟩ ∈ hv_Ts := hv_mem 829 (by decide +kernel) rfl
theorem ksel_Model_Model_undo : Cond.selects "GraphKeepModel" ⟨"GraphKeepModel", "undo", "()I"⟩ ⟨"GraphKeepModel", "undo", "()I"⟩ ∈ hv_Ts := hv_mem 830 (by decide +kernel) rfl
theorem kc_Model_undo : Cond.code ⟨"GraphKeepModel", "undo", "()I"⟩ prog_10_method_29_code 2 (some .int) ∈ hv_Ts := hv_mem 831 (by decide +kernel) rfl
theorem k_Law_99 : Cond.methodLink "GraphKeepLaw" 99 ⟨"GraphKeepModel", "begin", "()Z"⟩ ∈ hv_Ts := hv_mem 832 (by decide +kernel) rfl
theorem ki_Model_begin : Cond.instanceMethod ⟨"GraphKeepModel", "begin", "()Z"⟩ ∈ hv_Ts := hv_mem 833 (by decide +kernel) rfl
theorem ksel_Model_Model_begin : Cond.selects "GraphKeepModel" ⟨"GraphKeepModel", "begin", "()Z"⟩ ⟨"GraphKeepModel", "begin", "()Z"⟩ ∈ hv_Ts := hv_mem 834 (by decide +kernel) rfl
theorem kc_Model_begin : Cond.code ⟨"GraphKeepModel", "begin", "()Z"⟩ prog_10_method_30_code 1 (some .boolean) ∈ hv_Ts := hv_mem 835 (by decide +kernel) rfl
theorem k_Law_102 : Cond.methodLink "GraphKeepLaw" 102 ⟨"GraphKeepModel", "commit", "()I"⟩ ∈ hv_Ts := hv_mem 836 (by decide +kernel) rfl
theorem ki_Model_commit : Cond.instanceMethod ⟨"GraphKeepModel", "commit", "()I"⟩ ∈ hv_Ts := hv_mem 837 (by decide +kernel) rfl
theorem ksel_Model_Model_commit : Cond.selects "GraphKeepModel" ⟨"GraphKeepModel", "commit", "()I"⟩ ⟨"GraphKeepModel", "commit", "()I"⟩ ∈ hv_Ts := hv_mem 838 (by decide +kernel) rfl
theorem kc_Model_commit : Cond.code ⟨"GraphKeepModel", "commit", "()I"⟩ prog_10_method_31_code 2 (some .int) ∈ hv_Ts := hv_mem 839 (by decide +kernel) rfl
theorem k_Law_106 : Cond.methodLink "GraphKeepLaw" 106 ⟨"GraphKeepModel", "rollback", "()Z"⟩ ∈ hv_Ts := hv_mem 840 (by decide +kernel) rfl
theorem ki_Model_rollback : Cond.instanceMethod ⟨"GraphKeepModel", "rollback", "()Z"⟩ ∈ hv_Ts := hv_mem 841 (by decide +kernel) rfl
theorem ksel_Model_Model_rollback : Cond.selects "GraphKeepModel" ⟨"GraphKeepModel", "rollback", "()Z"⟩ ⟨"GraphKeepModel", "rollback", "()Z"⟩ ∈ hv_Ts := hv_mem 842 (by decide +kernel) rfl
theorem kc_Model_rollback : Cond.code ⟨"GraphKeepModel", "rollback", "()Z"⟩ prog_10_method_32_code 1 (some .boolean) ∈ hv_Ts := hv_mem 843 (by decide +kernel) rfl
theorem k_Law_109 : Cond.methodLink "GraphKeepLaw" 109 ⟨"GraphKeepModel", "checkpoint", "()I"⟩ ∈ hv_Ts := hv_mem 844 (by decide +kernel) rfl
theorem ki_Model_checkpoint : Cond.instanceMethod ⟨"GraphKeepModel", "checkpoint", "()I"⟩ ∈ hv_Ts := hv_mem 845 (by decide +kernel) rfl
theorem ksel_Model_Model_checkpoint : Cond.selects "GraphKeepModel" ⟨"GraphKeepModel", "checkpoint", "()I"⟩ ⟨"GraphKeepModel", "checkpoint", "()I"⟩ ∈ hv_Ts := hv_mem 846 (by decide +kernel) rfl
theorem kc_Model_checkpoint : Cond.code ⟨"GraphKeepModel", "checkpoint", "()I"⟩ prog_10_method_34_code 3 (some .int) ∈ hv_Ts := hv_mem 847 (by decide +kernel) rfl
theorem k_Model_158 : Cond.methodLink "GraphKeepModel" 158 ⟨"GraphKeepModel", "count", "(II)I"⟩ ∈ hv_Ts := hv_mem 848 (by decide +kernel) rfl
theorem kpr_Model_count : Cond.privateMethod ⟨"GraphKeepModel", "count", "(II)I"⟩ ∈ lw_tbl := hv_memL 849 (by decide +kernel)
theorem ki_Model_count : Cond.instanceMethod ⟨"GraphKeepModel", "count", "(II)I"⟩ ∈ hv_Ts := hv_mem 850 (by decide +kernel) rfl
theorem kc_Model_count : Cond.code ⟨"GraphKeepModel", "count", "(II)I"⟩ prog_10_method_33_code 5 (some .int) ∈ hv_Ts := hv_mem 851 (by decide +kernel) rfl
theorem k_Law_114 : Cond.methodLink "GraphKeepLaw" 114 ⟨"GraphKeepModel", "cut", "(I)Z"⟩ ∈ hv_Ts := hv_mem 852 (by decide +kernel) rfl
theorem ki_Model_cut : Cond.instanceMethod ⟨"GraphKeepModel", "cut", "(I)Z"⟩ ∈ hv_Ts := hv_mem 853 (by decide +kernel) rfl
theorem ksel_Model_Model_cut : Cond.selects "GraphKeepModel" ⟨"GraphKeepModel", "cut", "(I)Z"⟩ ⟨"GraphKeepModel", "cut", "(I)Z"⟩ ∈ hv_Ts := hv_mem 854 (by decide +kernel) rfl
theorem kc_Model_cut : Cond.code ⟨"GraphKeepModel", "cut", "(I)Z"⟩ prog_10_method_35_code 2 (some .boolean) ∈ hv_Ts := hv_mem 855 (by decide +kernel) rfl
theorem k_Law_118 : Cond.methodLink "GraphKeepLaw" 118 ⟨"GraphKeepModel", "recover", "()I"⟩ ∈ hv_Ts := hv_mem 856 (by decide +kernel) rfl
theorem ki_Model_recover : Cond.instanceMethod ⟨"GraphKeepModel", "recover", "()I"⟩ ∈ hv_Ts := hv_mem 857 (by decide +kernel) rfl
theorem ksel_Model_Model_recover : Cond.selects "GraphKeepModel" ⟨"GraphKeepModel", "recover", "()I"⟩ ⟨"GraphKeepModel", "recover", "()I"⟩ ∈ hv_Ts := hv_mem 858 (by decide +kernel) rfl
theorem kc_Model_recover : Cond.code ⟨"GraphKeepModel", "recover", "()I"⟩ prog_10_method_36_code 1 (some .int) ∈ hv_Ts := hv_mem 859 (by decide +kernel) rfl
theorem k_Law_122 : Cond.methodLink "GraphKeepLaw" 122 ⟨"GraphKeepModel", "thing", "(III)I"⟩ ∈ hv_Ts := hv_mem 860 (by decide +kernel) rfl
theorem ki_Model_thing : Cond.instanceMethod ⟨"GraphKeepModel", "thing", "(III)I"⟩ ∈ hv_Ts := hv_mem 861 (by decide +kernel) rfl
theorem ksel_Model_Model_thing : Cond.selects "GraphKeepModel" ⟨"GraphKeepModel", "thing", "(III)I"⟩ ⟨"GraphKeepModel", "thing", "(III)I"⟩ ∈ hv_Ts := hv_mem 862 (by decide +kernel) rfl
theorem kc_Model_thing : Cond.code ⟨"GraphKeepModel", "thing", "(III)I"⟩ prog_10_method_37_code 5 (some .int) ∈ hv_Ts := hv_mem 863 (by decide +kernel) rfl
theorem k_Law_127 : Cond.methodLink "GraphKeepLaw" 127 ⟨"GraphKeepModel", "chain", "(IZI)I"⟩ ∈ hv_Ts := hv_mem 864 (by decide +kernel) rfl
theorem ki_Model_chain : Cond.instanceMethod ⟨"GraphKeepModel", "chain", "(IZI)I"⟩ ∈ hv_Ts := hv_mem 865 (by decide +kernel) rfl
theorem ksel_Model_Model_chain : Cond.selects "GraphKeepModel" ⟨"GraphKeepModel", "chain", "(IZI)I"⟩ ⟨"GraphKeepModel", "chain", "(IZI)I"⟩ ∈ hv_Ts := hv_mem 866 (by decide +kernel) rfl
theorem kc_Model_chain : Cond.code ⟨"GraphKeepModel", "chain", "(IZI)I"⟩ prog_10_method_38_code 6 (some .int) ∈ hv_Ts := hv_mem 867 (by decide +kernel) rfl
theorem k_Law_132 : Cond.methodLink "GraphKeepLaw" 132 ⟨"GraphKeepModel", "has", "(II)Z"⟩ ∈ hv_Ts := hv_mem 868 (by decide +kernel) rfl
theorem ki_Model_has : Cond.instanceMethod ⟨"GraphKeepModel", "has", "(II)Z"⟩ ∈ hv_Ts := hv_mem 869 (by decide +kernel) rfl
theorem ksel_Model_Model_has : Cond.selects "GraphKeepModel" ⟨"GraphKeepModel", "has", "(II)Z"⟩ ⟨"GraphKeepModel", "has", "(II)Z"⟩ ∈ hv_Ts := hv_mem 870 (by decide +kernel) rfl
theorem kc_Model_has : Cond.code ⟨"GraphKeepModel", "has", "(II)Z"⟩ prog_10_method_39_code 4 (some .boolean) ∈ hv_Ts := hv_mem 871 (by decide +kernel) rfl
theorem k_Law_136 : Cond.methodLink "GraphKeepLaw" 136 ⟨"GraphKeepModel", "value", "(IIII)J"⟩ ∈ hv_Ts := hv_mem 872 (by decide +kernel) rfl
theorem ki_Model_value : Cond.instanceMethod ⟨"GraphKeepModel", "value", "(IIII)J"⟩ ∈ hv_Ts := hv_mem 873 (by decide +kernel) rfl
theorem ksel_Model_Model_value : Cond.selects "GraphKeepModel" ⟨"GraphKeepModel", "value", "(IIII)J"⟩ ⟨"GraphKeepModel", "value", "(IIII)J"⟩ ∈ hv_Ts := hv_mem 874 (by decide +kernel) rfl
theorem kc_Model_value : Cond.code ⟨"GraphKeepModel", "value", "(IIII)J"⟩ prog_10_method_40_code 9 (some .long) ∈ hv_Ts := hv_mem 875 (by decide +kernel) rfl
theorem k_Law_141 : Cond.methodLink "GraphKeepLaw" 141 ⟨"GraphKeepModel", "state", "(I)I"⟩ ∈ hv_Ts := hv_mem 876 (by decide +kernel) rfl
theorem ki_Model_state : Cond.instanceMethod ⟨"GraphKeepModel", "state", "(I)I"⟩ ∈ hv_Ts := hv_mem 877 (by decide +kernel) rfl
theorem ksel_Model_Model_state : Cond.selects "GraphKeepModel" ⟨"GraphKeepModel", "state", "(I)I"⟩ ⟨"GraphKeepModel", "state", "(I)I"⟩ ∈ hv_Ts := hv_mem 878 (by decide +kernel) rfl
theorem kc_Model_state : Cond.code ⟨"GraphKeepModel", "state", "(I)I"⟩ prog_10_method_41_code 2 (some .int) ∈ hv_Ts := hv_mem 879 (by decide +kernel) rfl
theorem k_Law_52 : Cond.constantLong "GraphKeepLaw" 52 4294967295 ∈ hv_Ts := hv_mem 880 (by decide +kernel) rfl
theorem kcast_Nd_Nd : Cond.castable "GraphKeep$Node" "GraphKeep$Node" ∈ lw_tbl := hv_memL 883 (by decide +kernel)
theorem kcast_Lk_Lk : Cond.castable "GraphKeep$Link" "GraphKeep$Link" ∈ lw_tbl := hv_memL 884 (by decide +kernel)
theorem ksel_GK_GK_undoStatement : Cond.selects "GraphKeep" ⟨"GraphKeep", "undoStatement", "()V"⟩ ⟨"GraphKeep", "undoStatement", "()V"⟩ ∈ hv_Ts := hv_memP (q := (⟨"GraphKeep", "undoStatement", "()V"⟩, 12)) 0 (by decide +kernel)
theorem ksel_GK_GK_startStatement : Cond.selects "GraphKeep" ⟨"GraphKeep", "startStatement", "()V"⟩ ⟨"GraphKeep", "startStatement", "()V"⟩ ∈ hv_Ts := hv_memP (q := (⟨"GraphKeep", "startStatement", "()V"⟩, 12)) 1 (by decide +kernel)
theorem ksel_GK_GK_restoreKept : Cond.selects "GraphKeep" ⟨"GraphKeep", "restoreKept", "()V"⟩ ⟨"GraphKeep", "restoreKept", "()V"⟩ ∈ hv_Ts := hv_memP (q := (⟨"GraphKeep", "restoreKept", "()V"⟩, 12)) 2 (by decide +kernel)
theorem ksel_GK_GK_forgetUnderWay : Cond.selects "GraphKeep" ⟨"GraphKeep", "forgetUnderWay", "()V"⟩ ⟨"GraphKeep", "forgetUnderWay", "()V"⟩ ∈ hv_Ts := hv_memP (q := (⟨"GraphKeep", "forgetUnderWay", "()V"⟩, 12)) 3 (by decide +kernel)
theorem ksel_GK_GK_nodeFact : Cond.selects "GraphKeep" ⟨"GraphKeep", "nodeFact", "(LGraphKeep$Node;II)I"⟩ ⟨"GraphKeep", "nodeFact", "(LGraphKeep$Node;II)I"⟩ ∈ hv_Ts := hv_memP (q := (⟨"GraphKeep", "nodeFact", "(LGraphKeep$Node;II)I"⟩, 12)) 4 (by decide +kernel)
theorem ksel_Gr_Gr_isInChain : Cond.selects "GraphKeep$Graph" ⟨"GraphKeep$Graph", "isInChain", "(IIZ)Z"⟩ ⟨"GraphKeep$Graph", "isInChain", "(IIZ)Z"⟩ ∈ hv_Ts := hv_memP (q := (⟨"GraphKeep$Graph", "isInChain", "(IIZ)Z"⟩, 2)) 5 (by decide +kernel)
theorem ksel_Nd_Nd_placeOfLabel : Cond.selects "GraphKeep$Node" ⟨"GraphKeep$Node", "placeOfLabel", "(I)I"⟩ ⟨"GraphKeep$Node", "placeOfLabel", "(I)I"⟩ ∈ hv_Ts := hv_memP (q := (⟨"GraphKeep$Node", "placeOfLabel", "(I)I"⟩, 2)) 6 (by decide +kernel)
theorem ksel_GK_GK_mustBeOn : Cond.selects "GraphKeep" ⟨"GraphKeep", "mustBeOn", "()V"⟩ ⟨"GraphKeep", "mustBeOn", "()V"⟩ ∈ hv_Ts := hv_memP (q := (⟨"GraphKeep", "mustBeOn", "()V"⟩, 12)) 7 (by decide +kernel)
theorem ksel_GK_GK_freeNumber : Cond.selects "GraphKeep" ⟨"GraphKeep", "freeNumber", "(I[Z)I"⟩ ⟨"GraphKeep", "freeNumber", "(I[Z)I"⟩ ∈ hv_Ts := hv_memP (q := (⟨"GraphKeep", "freeNumber", "(I[Z)I"⟩, 12)) 9 (by decide +kernel)
theorem ksel_GK_GK_mustBeLess : Cond.selects "GraphKeep" ⟨"GraphKeep", "mustBeLess", "(II)V"⟩ ⟨"GraphKeep", "mustBeLess", "(II)V"⟩ ∈ hv_Ts := hv_memP (q := (⟨"GraphKeep", "mustBeLess", "(II)V"⟩, 12)) 10 (by decide +kernel)
theorem ksel_GK_GK_refuse : Cond.selects "GraphKeep" ⟨"GraphKeep", "refuse", "(I)V"⟩ ⟨"GraphKeep", "refuse", "(I)V"⟩ ∈ hv_Ts := hv_memP (q := (⟨"GraphKeep", "refuse", "(I)V"⟩, 12)) 11 (by decide +kernel)
theorem ksel_GK_GK_countChange : Cond.selects "GraphKeep" ⟨"GraphKeep", "countChange", "()V"⟩ ⟨"GraphKeep", "countChange", "()V"⟩ ∈ hv_Ts := hv_memP (q := (⟨"GraphKeep", "countChange", "()V"⟩, 12)) 12 (by decide +kernel)
theorem ksel_GK_GK_wantedNode : Cond.selects "GraphKeep" ⟨"GraphKeep", "wantedNode", "(I)LGraphKeep$Node;"⟩ ⟨"GraphKeep", "wantedNode", "(I)LGraphKeep$Node;"⟩ ∈ hv_Ts := hv_memP (q := (⟨"GraphKeep", "wantedNode", "(I)LGraphKeep$Node;"⟩, 12)) 13 (by decide +kernel)
theorem ksel_GK_GK_wantedThing : Cond.selects "GraphKeep" ⟨"GraphKeep", "wantedThing", "(II)LGraphKeep$Thing;"⟩ ⟨"GraphKeep", "wantedThing", "(II)LGraphKeep$Thing;"⟩ ∈ hv_Ts := hv_memP (q := (⟨"GraphKeep", "wantedThing", "(II)LGraphKeep$Thing;"⟩, 12)) 14 (by decide +kernel)
theorem ksel_GK_GK_mustBeValue : Cond.selects "GraphKeep" ⟨"GraphKeep", "mustBeValue", "(IJ)V"⟩ ⟨"GraphKeep", "mustBeValue", "(IJ)V"⟩ ∈ hv_Ts := hv_memP (q := (⟨"GraphKeep", "mustBeValue", "(IJ)V"⟩, 12)) 15 (by decide +kernel)
theorem ksel_GK_GK_dropProperty : Cond.selects "GraphKeep" ⟨"GraphKeep", "dropProperty", "(LGraphKeep$Thing;II)Z"⟩ ⟨"GraphKeep", "dropProperty", "(LGraphKeep$Thing;II)Z"⟩ ∈ hv_Ts := hv_memP (q := (⟨"GraphKeep", "dropProperty", "(LGraphKeep$Thing;II)Z"⟩, 12)) 16 (by decide +kernel)
theorem ksel_GK_GK_putProperty : Cond.selects "GraphKeep" ⟨"GraphKeep", "putProperty", "(LGraphKeep$Thing;ILGraphKeep$Property;)Z"⟩ ⟨"GraphKeep", "putProperty", "(LGraphKeep$Thing;ILGraphKeep$Property;)Z"⟩ ∈ hv_Ts := hv_memP (q := (⟨"GraphKeep", "putProperty", "(LGraphKeep$Thing;ILGraphKeep$Property;)Z"⟩, 12)) 17 (by decide +kernel)
theorem ksel_GK_GK_takeNode : Cond.selects "GraphKeep" ⟨"GraphKeep", "takeNode", "(I)V"⟩ ⟨"GraphKeep", "takeNode", "(I)V"⟩ ∈ hv_Ts := hv_memP (q := (⟨"GraphKeep", "takeNode", "(I)V"⟩, 12)) 18 (by decide +kernel)
theorem ksel_GK_GK_takeLink : Cond.selects "GraphKeep" ⟨"GraphKeep", "takeLink", "(I)V"⟩ ⟨"GraphKeep", "takeLink", "(I)V"⟩ ∈ hv_Ts := hv_memP (q := (⟨"GraphKeep", "takeLink", "(I)V"⟩, 12)) 19 (by decide +kernel)
theorem ksel_GK_GK_keep : Cond.selects "GraphKeep" ⟨"GraphKeep", "keep", "(I)V"⟩ ⟨"GraphKeep", "keep", "(I)V"⟩ ∈ hv_Ts := hv_memP (q := (⟨"GraphKeep", "keep", "(I)V"⟩, 12)) 20 (by decide +kernel)
theorem ksel_Lg_Lg_write : Cond.selects "GraphKeep$Log" ⟨"GraphKeep$Log", "write", "(I)I"⟩ ⟨"GraphKeep$Log", "write", "(I)I"⟩ ∈ hv_Ts := hv_memP (q := (⟨"GraphKeep$Log", "write", "(I)I"⟩, 5)) 21 (by decide +kernel)
theorem ksel_GK_GK_goOff : Cond.selects "GraphKeep" ⟨"GraphKeep", "goOff", "()V"⟩ ⟨"GraphKeep", "goOff", "()V"⟩ ∈ hv_Ts := hv_memP (q := (⟨"GraphKeep", "goOff", "()V"⟩, 12)) 22 (by decide +kernel)
theorem ksel_GK_GK_closeStatement : Cond.selects "GraphKeep" ⟨"GraphKeep", "closeStatement", "()V"⟩ ⟨"GraphKeep", "closeStatement", "()V"⟩ ∈ hv_Ts := hv_memP (q := (⟨"GraphKeep", "closeStatement", "()V"⟩, 12)) 23 (by decide +kernel)
theorem ksel_Model_Model_free : Cond.selects "GraphKeepModel" ⟨"GraphKeepModel", "free", "(II)I"⟩ ⟨"GraphKeepModel", "free", "(II)I"⟩ ∈ hv_Ts := hv_memP (q := (⟨"GraphKeepModel", "free", "(II)I"⟩, 25)) 24 (by decide +kernel)
theorem ksel_Model_Model_fails : Cond.selects "GraphKeepModel" ⟨"GraphKeepModel", "fails", "(ZZZZZ)Z"⟩ ⟨"GraphKeepModel", "fails", "(ZZZZZ)Z"⟩ ∈ hv_Ts := hv_memP (q := (⟨"GraphKeepModel", "fails", "(ZZZZZ)Z"⟩, 25)) 25 (by decide +kernel)
theorem ksel_Model_Model_begins : Cond.selects "GraphKeepModel" ⟨"GraphKeepModel", "begins", "()V"⟩ ⟨"GraphKeepModel", "begins", "()V"⟩ ∈ hv_Ts := hv_memP (q := (⟨"GraphKeepModel", "begins", "()V"⟩, 25)) 26 (by decide +kernel)
theorem ksel_Model_Model_copy : Cond.selects "GraphKeepModel" ⟨"GraphKeepModel", "copy", "(II)V"⟩ ⟨"GraphKeepModel", "copy", "(II)V"⟩ ∈ hv_Ts := hv_memP (q := (⟨"GraphKeepModel", "copy", "(II)V"⟩, 25)) 27 (by decide +kernel)
theorem ksel_Model_Model_copyThing : Cond.selects "GraphKeepModel" ⟨"GraphKeepModel", "copyThing", "(II)V"⟩ ⟨"GraphKeepModel", "copyThing", "(II)V"⟩ ∈ hv_Ts := hv_memP (q := (⟨"GraphKeepModel", "copyThing", "(II)V"⟩, 25)) 28 (by decide +kernel)
theorem ksel_Model_Model_find : Cond.selects "GraphKeepModel" ⟨"GraphKeepModel", "find", "(II)I"⟩ ⟨"GraphKeepModel", "find", "(II)I"⟩ ∈ hv_Ts := hv_memP (q := (⟨"GraphKeepModel", "find", "(II)I"⟩, 25)) 29 (by decide +kernel)
theorem ksel_Model_Model_isLabeled : Cond.selects "GraphKeepModel" ⟨"GraphKeepModel", "isLabeled", "(II)Z"⟩ ⟨"GraphKeepModel", "isLabeled", "(II)Z"⟩ ∈ hv_Ts := hv_memP (q := (⟨"GraphKeepModel", "isLabeled", "(II)Z"⟩, 25)) 30 (by decide +kernel)
theorem ksel_Model_Model_propertyOf : Cond.selects "GraphKeepModel" ⟨"GraphKeepModel", "propertyOf", "(II)I"⟩ ⟨"GraphKeepModel", "propertyOf", "(II)I"⟩ ∈ hv_Ts := hv_memP (q := (⟨"GraphKeepModel", "propertyOf", "(II)I"⟩, 25)) 31 (by decide +kernel)
theorem ksel_Model_Model_isSame : Cond.selects "GraphKeepModel" ⟨"GraphKeepModel", "isSame", "(IIJ)Z"⟩ ⟨"GraphKeepModel", "isSame", "(IIJ)Z"⟩ ∈ hv_Ts := hv_memP (q := (⟨"GraphKeepModel", "isSame", "(IIJ)Z"⟩, 25)) 32 (by decide +kernel)
theorem ksel_Model_Model_dropProperty : Cond.selects "GraphKeepModel" ⟨"GraphKeepModel", "dropProperty", "(II)V"⟩ ⟨"GraphKeepModel", "dropProperty", "(II)V"⟩ ∈ hv_Ts := hv_memP (q := (⟨"GraphKeepModel", "dropProperty", "(II)V"⟩, 25)) 33 (by decide +kernel)
theorem ksel_Model_Model_lay : Cond.selects "GraphKeepModel" ⟨"GraphKeepModel", "lay", "(IIIJ)V"⟩ ⟨"GraphKeepModel", "lay", "(IIIJ)V"⟩ ∈ hv_Ts := hv_memP (q := (⟨"GraphKeepModel", "lay", "(IIIJ)V"⟩, 25)) 34 (by decide +kernel)
theorem ksel_Model_Model_links : Cond.selects "GraphKeepModel" ⟨"GraphKeepModel", "links", "(IZ)I"⟩ ⟨"GraphKeepModel", "links", "(IZ)I"⟩ ∈ hv_Ts := hv_memP (q := (⟨"GraphKeepModel", "links", "(IZ)I"⟩, 25)) 35 (by decide +kernel)
theorem ksel_Model_Model_settle : Cond.selects "GraphKeepModel" ⟨"GraphKeepModel", "settle", "()V"⟩ ⟨"GraphKeepModel", "settle", "()V"⟩ ∈ hv_Ts := hv_memP (q := (⟨"GraphKeepModel", "settle", "()V"⟩, 25)) 36 (by decide +kernel)
theorem ksel_Model_Model_fits : Cond.selects "GraphKeepModel" ⟨"GraphKeepModel", "fits", "(I)Z"⟩ ⟨"GraphKeepModel", "fits", "(I)Z"⟩ ∈ hv_Ts := hv_memP (q := (⟨"GraphKeepModel", "fits", "(I)Z"⟩, 25)) 37 (by decide +kernel)
theorem ksel_Model_Model_back : Cond.selects "GraphKeepModel" ⟨"GraphKeepModel", "back", "()V"⟩ ⟨"GraphKeepModel", "back", "()V"⟩ ∈ hv_Ts := hv_memP (q := (⟨"GraphKeepModel", "back", "()V"⟩, 25)) 38 (by decide +kernel)
theorem ksel_Model_Model_log : Cond.selects "GraphKeepModel" ⟨"GraphKeepModel", "log", "(I)Z"⟩ ⟨"GraphKeepModel", "log", "(I)Z"⟩ ∈ hv_Ts := hv_memP (q := (⟨"GraphKeepModel", "log", "(I)Z"⟩, 25)) 39 (by decide +kernel)
theorem ksel_Model_Model_write : Cond.selects "GraphKeepModel" ⟨"GraphKeepModel", "write", "()Z"⟩ ⟨"GraphKeepModel", "write", "()Z"⟩ ∈ hv_Ts := hv_memP (q := (⟨"GraphKeepModel", "write", "()Z"⟩, 25)) 40 (by decide +kernel)
theorem ksel_Model_Model_erase : Cond.selects "GraphKeepModel" ⟨"GraphKeepModel", "erase", "()V"⟩ ⟨"GraphKeepModel", "erase", "()V"⟩ ∈ hv_Ts := hv_memP (q := (⟨"GraphKeepModel", "erase", "()V"⟩, 25)) 41 (by decide +kernel)
theorem ksel_Model_Model_count : Cond.selects "GraphKeepModel" ⟨"GraphKeepModel", "count", "(II)I"⟩ ⟨"GraphKeepModel", "count", "(II)I"⟩ ∈ hv_Ts := hv_memP (q := (⟨"GraphKeepModel", "count", "(II)I"⟩, 25)) 42 (by decide +kernel)
theorem kl_GK_0 : u_lay R_GK F_GK 0 ∈ hv_Ts := hv_mem 93 (by decide +kernel) rfl
theorem kl_GK_1 : u_lay R_GK F_GK 1 ∈ hv_Ts := hv_mem 95 (by decide +kernel) rfl
theorem kl_GK_2 : u_lay R_GK F_GK 2 ∈ hv_Ts := hv_mem 97 (by decide +kernel) rfl
theorem kl_GK_3 : u_lay R_GK F_GK 3 ∈ hv_Ts := hv_mem 99 (by decide +kernel) rfl
theorem kl_GK_4 : u_lay R_GK F_GK 4 ∈ hv_Ts := hv_mem 101 (by decide +kernel) rfl
theorem kl_GK_5 : u_lay R_GK F_GK 5 ∈ hv_Ts := hv_mem 103 (by decide +kernel) rfl
theorem kl_GK_6 : u_lay R_GK F_GK 6 ∈ hv_Ts := hv_mem 105 (by decide +kernel) rfl
theorem kl_GK_7 : u_lay R_GK F_GK 7 ∈ hv_Ts := hv_mem 107 (by decide +kernel) rfl
theorem kl_GK_8 : u_lay R_GK F_GK 8 ∈ hv_Ts := hv_mem 109 (by decide +kernel) rfl
theorem kl_GK_9 : u_lay R_GK F_GK 9 ∈ hv_Ts := hv_mem 111 (by decide +kernel) rfl
theorem kl_GK_10 : u_lay R_GK F_GK 10 ∈ hv_Ts := hv_mem 113 (by decide +kernel) rfl
theorem kl_GK_11 : u_lay R_GK F_GK 11 ∈ hv_Ts := hv_mem 115 (by decide +kernel) rfl
theorem i_GK : ∀ w ∈ u_ws R_GK F_GK 12, w ∈ hv_Ts := fun w hw => by
  obtain ⟨k, hk, rfl⟩ := List.mem_map.mp hw
  have hk := List.mem_range.mp hk
  rcases (show k = 0 ∨ k = 1 ∨ k = 2 ∨ k = 3 ∨ k = 4 ∨ k = 5 ∨ k = 6 ∨ k = 7 ∨ k = 8 ∨ k = 9 ∨ k = 10 ∨ k = 11 by omega) with rfl | rfl | rfl | rfl | rfl | rfl | rfl | rfl | rfl | rfl | rfl | rfl
  · exact kl_GK_0
  · exact kl_GK_1
  · exact kl_GK_2
  · exact kl_GK_3
  · exact kl_GK_4
  · exact kl_GK_5
  · exact kl_GK_6
  · exact kl_GK_7
  · exact kl_GK_8
  · exact kl_GK_9
  · exact kl_GK_10
  · exact kl_GK_11
theorem kl_Gr_0 : u_lay R_Gr F_Gr 0 ∈ hv_Ts := hv_mem 37 (by decide +kernel) rfl
theorem kl_Gr_1 : u_lay R_Gr F_Gr 1 ∈ hv_Ts := hv_mem 39 (by decide +kernel) rfl
theorem i_Gr : ∀ w ∈ u_ws R_Gr F_Gr 2, w ∈ hv_Ts := fun w hw => by
  obtain ⟨k, hk, rfl⟩ := List.mem_map.mp hw
  have hk := List.mem_range.mp hk
  rcases (show k = 0 ∨ k = 1 by omega) with rfl | rfl
  · exact kl_Gr_0
  · exact kl_Gr_1
theorem kl_Lg_0 : u_lay R_Lg F_Lg 0 ∈ hv_Ts := hv_mem 56 (by decide +kernel) rfl
theorem kl_Lg_1 : u_lay R_Lg F_Lg 1 ∈ hv_Ts := hv_mem 58 (by decide +kernel) rfl
theorem kl_Lg_2 : u_lay R_Lg F_Lg 2 ∈ hv_Ts := hv_mem 60 (by decide +kernel) rfl
theorem kl_Lg_3 : u_lay R_Lg F_Lg 3 ∈ hv_Ts := hv_mem 62 (by decide +kernel) rfl
theorem kl_Lg_4 : u_lay R_Lg F_Lg 4 ∈ hv_Ts := hv_mem 64 (by decide +kernel) rfl
theorem i_Lg : ∀ w ∈ u_ws R_Lg F_Lg 5, w ∈ hv_Ts := fun w hw => by
  obtain ⟨k, hk, rfl⟩ := List.mem_map.mp hw
  have hk := List.mem_range.mp hk
  rcases (show k = 0 ∨ k = 1 ∨ k = 2 ∨ k = 3 ∨ k = 4 by omega) with rfl | rfl | rfl | rfl | rfl
  · exact kl_Lg_0
  · exact kl_Lg_1
  · exact kl_Lg_2
  · exact kl_Lg_3
  · exact kl_Lg_4
theorem kl_Tp_0 : u_lay R_Tp F_Tp 0 ∈ hv_Ts := hv_mem 75 (by decide +kernel) rfl
theorem kl_Tp_1 : u_lay R_Tp F_Tp 1 ∈ hv_Ts := hv_mem 77 (by decide +kernel) rfl
theorem i_Tp : ∀ w ∈ u_ws R_Tp F_Tp 2, w ∈ hv_Ts := fun w hw => by
  obtain ⟨k, hk, rfl⟩ := List.mem_map.mp hw
  have hk := List.mem_range.mp hk
  rcases (show k = 0 ∨ k = 1 by omega) with rfl | rfl
  · exact kl_Tp_0
  · exact kl_Tp_1
theorem kl_Pr_0 : u_lay R_Pr F_Pr 0 ∈ hv_Ts := hv_mem 496 (by decide +kernel) rfl
theorem kl_Pr_1 : u_lay R_Pr F_Pr 1 ∈ hv_Ts := hv_mem 498 (by decide +kernel) rfl
theorem kl_Pr_2 : u_lay R_Pr F_Pr 2 ∈ hv_Ts := hv_mem 500 (by decide +kernel) rfl
theorem kl_Pr_3 : u_lay R_Pr F_Pr 3 ∈ hv_Ts := hv_mem 502 (by decide +kernel) rfl
theorem i_Pr : ∀ w ∈ u_ws R_Pr F_Pr 4, w ∈ hv_Ts := fun w hw => by
  obtain ⟨k, hk, rfl⟩ := List.mem_map.mp hw
  have hk := List.mem_range.mp hk
  rcases (show k = 0 ∨ k = 1 ∨ k = 2 ∨ k = 3 by omega) with rfl | rfl | rfl | rfl
  · exact kl_Pr_0
  · exact kl_Pr_1
  · exact kl_Pr_2
  · exact kl_Pr_3
theorem kl_Nd_0 : u_lay R_Nd F_Nd 0 ∈ hv_Ts := hv_mem 379 (by decide +kernel) rfl
theorem kl_Nd_1 : u_lay R_Nd F_Nd 1 ∈ hv_Ts := hv_mem 377 (by decide +kernel) rfl
theorem i_Nd : ∀ w ∈ u_ws R_Nd F_Nd 2, w ∈ hv_Ts := fun w hw => by
  obtain ⟨k, hk, rfl⟩ := List.mem_map.mp hw
  have hk := List.mem_range.mp hk
  rcases (show k = 0 ∨ k = 1 by omega) with rfl | rfl
  · exact kl_Nd_0
  · exact kl_Nd_1
theorem kl_Lk_0 : u_lay R_Lk F_Lk 0 ∈ hv_Ts := hv_mem 472 (by decide +kernel) rfl
theorem kl_Lk_1 : u_lay R_Lk F_Lk 1 ∈ hv_Ts := hv_mem 466 (by decide +kernel) rfl
theorem kl_Lk_2 : u_lay R_Lk F_Lk 2 ∈ hv_Ts := hv_mem 468 (by decide +kernel) rfl
theorem kl_Lk_3 : u_lay R_Lk F_Lk 3 ∈ hv_Ts := hv_mem 470 (by decide +kernel) rfl
theorem i_Lk : ∀ w ∈ u_ws R_Lk F_Lk 4, w ∈ hv_Ts := fun w hw => by
  obtain ⟨k, hk, rfl⟩ := List.mem_map.mp hw
  have hk := List.mem_range.mp hk
  rcases (show k = 0 ∨ k = 1 ∨ k = 2 ∨ k = 3 by omega) with rfl | rfl | rfl | rfl
  · exact kl_Lk_0
  · exact kl_Lk_1
  · exact kl_Lk_2
  · exact kl_Lk_3
theorem kl_Model_0 : u_lay R_Model F_Model 0 ∈ hv_Ts := hv_mem 665 (by decide +kernel) rfl
theorem kl_Model_1 : u_lay R_Model F_Model 1 ∈ hv_Ts := hv_mem 667 (by decide +kernel) rfl
theorem kl_Model_2 : u_lay R_Model F_Model 2 ∈ hv_Ts := hv_mem 669 (by decide +kernel) rfl
theorem kl_Model_3 : u_lay R_Model F_Model 3 ∈ hv_Ts := hv_mem 671 (by decide +kernel) rfl
theorem kl_Model_4 : u_lay R_Model F_Model 4 ∈ hv_Ts := hv_mem 673 (by decide +kernel) rfl
theorem kl_Model_5 : u_lay R_Model F_Model 5 ∈ hv_Ts := hv_mem 675 (by decide +kernel) rfl
theorem kl_Model_6 : u_lay R_Model F_Model 6 ∈ hv_Ts := hv_mem 677 (by decide +kernel) rfl
theorem kl_Model_7 : u_lay R_Model F_Model 7 ∈ hv_Ts := hv_mem 679 (by decide +kernel) rfl
theorem kl_Model_8 : u_lay R_Model F_Model 8 ∈ hv_Ts := hv_mem 681 (by decide +kernel) rfl
theorem kl_Model_9 : u_lay R_Model F_Model 9 ∈ hv_Ts := hv_mem 683 (by decide +kernel) rfl
theorem kl_Model_10 : u_lay R_Model F_Model 10 ∈ hv_Ts := hv_mem 685 (by decide +kernel) rfl
theorem kl_Model_11 : u_lay R_Model F_Model 11 ∈ hv_Ts := hv_mem 687 (by decide +kernel) rfl
theorem kl_Model_12 : u_lay R_Model F_Model 12 ∈ hv_Ts := hv_mem 689 (by decide +kernel) rfl
theorem kl_Model_13 : u_lay R_Model F_Model 13 ∈ hv_Ts := hv_mem 691 (by decide +kernel) rfl
theorem kl_Model_14 : u_lay R_Model F_Model 14 ∈ hv_Ts := hv_mem 693 (by decide +kernel) rfl
theorem kl_Model_15 : u_lay R_Model F_Model 15 ∈ hv_Ts := hv_mem 695 (by decide +kernel) rfl
theorem kl_Model_16 : u_lay R_Model F_Model 16 ∈ hv_Ts := hv_mem 697 (by decide +kernel) rfl
theorem kl_Model_17 : u_lay R_Model F_Model 17 ∈ hv_Ts := hv_mem 699 (by decide +kernel) rfl
theorem kl_Model_18 : u_lay R_Model F_Model 18 ∈ hv_Ts := hv_mem 701 (by decide +kernel) rfl
theorem kl_Model_19 : u_lay R_Model F_Model 19 ∈ hv_Ts := hv_mem 703 (by decide +kernel) rfl
theorem kl_Model_20 : u_lay R_Model F_Model 20 ∈ hv_Ts := hv_mem 705 (by decide +kernel) rfl
theorem kl_Model_21 : u_lay R_Model F_Model 21 ∈ hv_Ts := hv_mem 707 (by decide +kernel) rfl
theorem kl_Model_22 : u_lay R_Model F_Model 22 ∈ hv_Ts := hv_mem 709 (by decide +kernel) rfl
theorem kl_Model_23 : u_lay R_Model F_Model 23 ∈ hv_Ts := hv_mem 711 (by decide +kernel) rfl
theorem kl_Model_24 : u_lay R_Model F_Model 24 ∈ hv_Ts := hv_mem 713 (by decide +kernel) rfl
theorem i_Model : ∀ w ∈ u_ws R_Model F_Model 25, w ∈ hv_Ts := fun w hw => by
  obtain ⟨k, hk, rfl⟩ := List.mem_map.mp hw
  have hk := List.mem_range.mp hk
  rcases (show k = 0 ∨ k = 1 ∨ k = 2 ∨ k = 3 ∨ k = 4 ∨ k = 5 ∨ k = 6 ∨ k = 7 ∨ k = 8 ∨ k = 9 ∨ k = 10 ∨ k = 11 ∨ k = 12 ∨ k = 13 ∨ k = 14 ∨ k = 15 ∨ k = 16 ∨ k = 17 ∨ k = 18 ∨ k = 19 ∨ k = 20 ∨ k = 21 ∨ k = 22 ∨ k = 23 ∨ k = 24 by omega) with rfl | rfl | rfl | rfl | rfl | rfl | rfl | rfl | rfl | rfl | rfl | rfl | rfl | rfl | rfl | rfl | rfl | rfl | rfl | rfl | rfl | rfl | rfl | rfl | rfl
  · exact kl_Model_0
  · exact kl_Model_1
  · exact kl_Model_2
  · exact kl_Model_3
  · exact kl_Model_4
  · exact kl_Model_5
  · exact kl_Model_6
  · exact kl_Model_7
  · exact kl_Model_8
  · exact kl_Model_9
  · exact kl_Model_10
  · exact kl_Model_11
  · exact kl_Model_12
  · exact kl_Model_13
  · exact kl_Model_14
  · exact kl_Model_15
  · exact kl_Model_16
  · exact kl_Model_17
  · exact kl_Model_18
  · exact kl_Model_19
  · exact kl_Model_20
  · exact kl_Model_21
  · exact kl_Model_22
  · exact kl_Model_23
  · exact kl_Model_24
end
section
/-! the instructions of Gr -/
theorem d_Gr_init_0 : decode b_Gr_init 0 = .ok (.aload_n 0, 1) := by decide +kernel
theorem d_Gr_init_1 : decode b_Gr_init 1 = .ok (.invokespecial 3, 3) := by decide +kernel
theorem d_Gr_init_4 : decode b_Gr_init 4 = .ok (.aload_n 0, 1) := by decide +kernel
theorem d_Gr_init_5 : decode b_Gr_init 5 = .ok (.bipush 64, 2) := by decide +kernel
theorem d_Gr_init_7 : decode b_Gr_init 7 = .ok (.anewarray 9, 3) := by decide +kernel
theorem d_Gr_init_10 : decode b_Gr_init 10 = .ok (.putfield 11, 3) := by decide +kernel
theorem d_Gr_init_13 : decode b_Gr_init 13 = .ok (.aload_n 0, 1) := by decide +kernel
theorem d_Gr_init_14 : decode b_Gr_init 14 = .ok (.bipush 96, 2) := by decide +kernel
theorem d_Gr_init_16 : decode b_Gr_init 16 = .ok (.anewarray 17, 3) := by decide +kernel
theorem d_Gr_init_19 : decode b_Gr_init 19 = .ok (.putfield 19, 3) := by decide +kernel
theorem d_Gr_init_22 : decode b_Gr_init 22 = .ok (.return_, 1) := by decide +kernel
theorem d_Gr_nodeAt_0 : decode b_Gr_nodeAt 0 = .ok (.iload_n 1, 1) := by decide +kernel
theorem d_Gr_nodeAt_1 : decode b_Gr_nodeAt 1 = .ok (.ifCond .lt 21, 3) := by decide +kernel
theorem d_Gr_nodeAt_4 : decode b_Gr_nodeAt 4 = .ok (.iload_n 1, 1) := by decide +kernel
theorem d_Gr_nodeAt_5 : decode b_Gr_nodeAt 5 = .ok (.aload_n 0, 1) := by decide +kernel
theorem d_Gr_nodeAt_6 : decode b_Gr_nodeAt 6 = .ok (.getfield 11, 3) := by decide +kernel
theorem d_Gr_nodeAt_9 : decode b_Gr_nodeAt 9 = .ok (.arraylength, 1) := by decide +kernel
theorem d_Gr_nodeAt_10 : decode b_Gr_nodeAt 10 = .ok (.if_icmp .ge 12, 3) := by decide +kernel
theorem d_Gr_nodeAt_13 : decode b_Gr_nodeAt 13 = .ok (.aload_n 0, 1) := by decide +kernel
theorem d_Gr_nodeAt_14 : decode b_Gr_nodeAt 14 = .ok (.getfield 11, 3) := by decide +kernel
theorem d_Gr_nodeAt_17 : decode b_Gr_nodeAt 17 = .ok (.iload_n 1, 1) := by decide +kernel
theorem d_Gr_nodeAt_18 : decode b_Gr_nodeAt 18 = .ok (.aaload, 1) := by decide +kernel
theorem d_Gr_nodeAt_19 : decode b_Gr_nodeAt 19 = .ok (.goto 4, 3) := by decide +kernel
theorem d_Gr_nodeAt_22 : decode b_Gr_nodeAt 22 = .ok (.aconst_null, 1) := by decide +kernel
theorem d_Gr_nodeAt_23 : decode b_Gr_nodeAt 23 = .ok (.areturn, 1) := by decide +kernel
theorem d_Gr_linkAt_0 : decode b_Gr_linkAt 0 = .ok (.iload_n 1, 1) := by decide +kernel
theorem d_Gr_linkAt_1 : decode b_Gr_linkAt 1 = .ok (.ifCond .lt 21, 3) := by decide +kernel
theorem d_Gr_linkAt_4 : decode b_Gr_linkAt 4 = .ok (.iload_n 1, 1) := by decide +kernel
theorem d_Gr_linkAt_5 : decode b_Gr_linkAt 5 = .ok (.aload_n 0, 1) := by decide +kernel
theorem d_Gr_linkAt_6 : decode b_Gr_linkAt 6 = .ok (.getfield 19, 3) := by decide +kernel
theorem d_Gr_linkAt_9 : decode b_Gr_linkAt 9 = .ok (.arraylength, 1) := by decide +kernel
theorem d_Gr_linkAt_10 : decode b_Gr_linkAt 10 = .ok (.if_icmp .ge 12, 3) := by decide +kernel
theorem d_Gr_linkAt_13 : decode b_Gr_linkAt 13 = .ok (.aload_n 0, 1) := by decide +kernel
theorem d_Gr_linkAt_14 : decode b_Gr_linkAt 14 = .ok (.getfield 19, 3) := by decide +kernel
theorem d_Gr_linkAt_17 : decode b_Gr_linkAt 17 = .ok (.iload_n 1, 1) := by decide +kernel
theorem d_Gr_linkAt_18 : decode b_Gr_linkAt 18 = .ok (.aaload, 1) := by decide +kernel
theorem d_Gr_linkAt_19 : decode b_Gr_linkAt 19 = .ok (.goto 4, 3) := by decide +kernel
theorem d_Gr_linkAt_22 : decode b_Gr_linkAt 22 = .ok (.aconst_null, 1) := by decide +kernel
theorem d_Gr_linkAt_23 : decode b_Gr_linkAt 23 = .ok (.areturn, 1) := by decide +kernel
theorem d_Gr_thingAt_0 : decode b_Gr_thingAt 0 = .ok (.iload_n 1, 1) := by decide +kernel
theorem d_Gr_thingAt_1 : decode b_Gr_thingAt 1 = .ok (.iconst 4, 1) := by decide +kernel
theorem d_Gr_thingAt_2 : decode b_Gr_thingAt 2 = .ok (.if_icmp .ne 9, 3) := by decide +kernel
theorem d_Gr_thingAt_5 : decode b_Gr_thingAt 5 = .ok (.aload_n 0, 1) := by decide +kernel
theorem d_Gr_thingAt_6 : decode b_Gr_thingAt 6 = .ok (.iload_n 2, 1) := by decide +kernel
theorem d_Gr_thingAt_7 : decode b_Gr_thingAt 7 = .ok (.invokevirtual 23, 3) := by decide +kernel
theorem d_Gr_thingAt_10 : decode b_Gr_thingAt 10 = .ok (.areturn, 1) := by decide +kernel
theorem d_Gr_thingAt_11 : decode b_Gr_thingAt 11 = .ok (.iload_n 1, 1) := by decide +kernel
theorem d_Gr_thingAt_12 : decode b_Gr_thingAt 12 = .ok (.iconst 5, 1) := by decide +kernel
theorem d_Gr_thingAt_13 : decode b_Gr_thingAt 13 = .ok (.if_icmp .ne 11, 3) := by decide +kernel
theorem d_Gr_thingAt_16 : decode b_Gr_thingAt 16 = .ok (.aload_n 0, 1) := by decide +kernel
theorem d_Gr_thingAt_17 : decode b_Gr_thingAt 17 = .ok (.iload_n 2, 1) := by decide +kernel
theorem d_Gr_thingAt_18 : decode b_Gr_thingAt 18 = .ok (.invokevirtual 27, 3) := by decide +kernel
theorem d_Gr_thingAt_21 : decode b_Gr_thingAt 21 = .ok (.goto 4, 3) := by decide +kernel
theorem d_Gr_thingAt_24 : decode b_Gr_thingAt 24 = .ok (.aconst_null, 1) := by decide +kernel
theorem d_Gr_thingAt_25 : decode b_Gr_thingAt 25 = .ok (.areturn, 1) := by decide +kernel
theorem d_Gr_putNode_0 : decode b_Gr_putNode 0 = .ok (.iload_n 1, 1) := by decide +kernel
theorem d_Gr_putNode_1 : decode b_Gr_putNode 1 = .ok (.ifCond .lt 19, 3) := by decide +kernel
theorem d_Gr_putNode_4 : decode b_Gr_putNode 4 = .ok (.iload_n 1, 1) := by decide +kernel
theorem d_Gr_putNode_5 : decode b_Gr_putNode 5 = .ok (.aload_n 0, 1) := by decide +kernel
theorem d_Gr_putNode_6 : decode b_Gr_putNode 6 = .ok (.getfield 11, 3) := by decide +kernel
theorem d_Gr_putNode_9 : decode b_Gr_putNode 9 = .ok (.arraylength, 1) := by decide +kernel
theorem d_Gr_putNode_10 : decode b_Gr_putNode 10 = .ok (.if_icmp .ge 10, 3) := by decide +kernel
theorem d_Gr_putNode_13 : decode b_Gr_putNode 13 = .ok (.aload_n 0, 1) := by decide +kernel
theorem d_Gr_putNode_14 : decode b_Gr_putNode 14 = .ok (.getfield 11, 3) := by decide +kernel
theorem d_Gr_putNode_17 : decode b_Gr_putNode 17 = .ok (.iload_n 1, 1) := by decide +kernel
theorem d_Gr_putNode_18 : decode b_Gr_putNode 18 = .ok (.aload_n 2, 1) := by decide +kernel
theorem d_Gr_putNode_19 : decode b_Gr_putNode 19 = .ok (.aastore, 1) := by decide +kernel
theorem d_Gr_putNode_20 : decode b_Gr_putNode 20 = .ok (.return_, 1) := by decide +kernel
theorem d_Gr_putLink_0 : decode b_Gr_putLink 0 = .ok (.iload_n 1, 1) := by decide +kernel
theorem d_Gr_putLink_1 : decode b_Gr_putLink 1 = .ok (.ifCond .lt 19, 3) := by decide +kernel
theorem d_Gr_putLink_4 : decode b_Gr_putLink 4 = .ok (.iload_n 1, 1) := by decide +kernel
theorem d_Gr_putLink_5 : decode b_Gr_putLink 5 = .ok (.aload_n 0, 1) := by decide +kernel
theorem d_Gr_putLink_6 : decode b_Gr_putLink 6 = .ok (.getfield 19, 3) := by decide +kernel
theorem d_Gr_putLink_9 : decode b_Gr_putLink 9 = .ok (.arraylength, 1) := by decide +kernel
theorem d_Gr_putLink_10 : decode b_Gr_putLink 10 = .ok (.if_icmp .ge 10, 3) := by decide +kernel
theorem d_Gr_putLink_13 : decode b_Gr_putLink 13 = .ok (.aload_n 0, 1) := by decide +kernel
theorem d_Gr_putLink_14 : decode b_Gr_putLink 14 = .ok (.getfield 19, 3) := by decide +kernel
theorem d_Gr_putLink_17 : decode b_Gr_putLink 17 = .ok (.iload_n 1, 1) := by decide +kernel
theorem d_Gr_putLink_18 : decode b_Gr_putLink 18 = .ok (.aload_n 2, 1) := by decide +kernel
theorem d_Gr_putLink_19 : decode b_Gr_putLink 19 = .ok (.aastore, 1) := by decide +kernel
theorem d_Gr_putLink_20 : decode b_Gr_putLink 20 = .ok (.return_, 1) := by decide +kernel
theorem d_Gr_putAgain_0 : decode b_Gr_putAgain 0 = .ok (.aload_n 1, 1) := by decide +kernel
theorem d_Gr_putAgain_1 : decode b_Gr_putAgain 1 = .ok (.instanceof 9, 3) := by decide +kernel
theorem d_Gr_putAgain_4 : decode b_Gr_putAgain 4 = .ok (.ifCond .eq 30, 3) := by decide +kernel
theorem d_Gr_putAgain_7 : decode b_Gr_putAgain 7 = .ok (.aload_n 1, 1) := by decide +kernel
theorem d_Gr_putAgain_8 : decode b_Gr_putAgain 8 = .ok (.checkcast 9, 3) := by decide +kernel
theorem d_Gr_putAgain_11 : decode b_Gr_putAgain 11 = .ok (.astore 4, 2) := by decide +kernel
theorem d_Gr_putAgain_13 : decode b_Gr_putAgain 13 = .ok (.aload_n 0, 1) := by decide +kernel
theorem d_Gr_putAgain_14 : decode b_Gr_putAgain 14 = .ok (.iload_n 2, 1) := by decide +kernel
theorem d_Gr_putAgain_15 : decode b_Gr_putAgain 15 = .ok (.new 9, 3) := by decide +kernel
theorem d_Gr_putAgain_18 : decode b_Gr_putAgain 18 = .ok (.dup, 1) := by decide +kernel
theorem d_Gr_putAgain_19 : decode b_Gr_putAgain 19 = .ok (.aload 4, 2) := by decide +kernel
theorem d_Gr_putAgain_21 : decode b_Gr_putAgain 21 = .ok (.getfield 31, 3) := by decide +kernel
theorem d_Gr_putAgain_24 : decode b_Gr_putAgain 24 = .ok (.aload_n 3, 1) := by decide +kernel
theorem d_Gr_putAgain_25 : decode b_Gr_putAgain 25 = .ok (.invokespecial 35, 3) := by decide +kernel
theorem d_Gr_putAgain_28 : decode b_Gr_putAgain 28 = .ok (.invokevirtual 38, 3) := by decide +kernel
theorem d_Gr_putAgain_31 : decode b_Gr_putAgain 31 = .ok (.goto 44, 3) := by decide +kernel
theorem d_Gr_putAgain_34 : decode b_Gr_putAgain 34 = .ok (.aload_n 1, 1) := by decide +kernel
theorem d_Gr_putAgain_35 : decode b_Gr_putAgain 35 = .ok (.instanceof 17, 3) := by decide +kernel
theorem d_Gr_putAgain_38 : decode b_Gr_putAgain 38 = .ok (.ifCond .eq 37, 3) := by decide +kernel
theorem d_Gr_putAgain_41 : decode b_Gr_putAgain 41 = .ok (.aload_n 1, 1) := by decide +kernel
theorem d_Gr_putAgain_42 : decode b_Gr_putAgain 42 = .ok (.checkcast 17, 3) := by decide +kernel
theorem d_Gr_putAgain_45 : decode b_Gr_putAgain 45 = .ok (.astore 5, 2) := by decide +kernel
theorem d_Gr_putAgain_47 : decode b_Gr_putAgain 47 = .ok (.aload_n 0, 1) := by decide +kernel
theorem d_Gr_putAgain_48 : decode b_Gr_putAgain 48 = .ok (.iload_n 2, 1) := by decide +kernel
theorem d_Gr_putAgain_49 : decode b_Gr_putAgain 49 = .ok (.new 17, 3) := by decide +kernel
theorem d_Gr_putAgain_52 : decode b_Gr_putAgain 52 = .ok (.dup, 1) := by decide +kernel
theorem d_Gr_putAgain_53 : decode b_Gr_putAgain 53 = .ok (.aload 5, 2) := by decide +kernel
theorem d_Gr_putAgain_55 : decode b_Gr_putAgain 55 = .ok (.getfield 42, 3) := by decide +kernel
theorem d_Gr_putAgain_58 : decode b_Gr_putAgain 58 = .ok (.aload 5, 2) := by decide +kernel
theorem d_Gr_putAgain_60 : decode b_Gr_putAgain 60 = .ok (.getfield 46, 3) := by decide +kernel
theorem d_Gr_putAgain_63 : decode b_Gr_putAgain 63 = .ok (.aload 5, 2) := by decide +kernel
theorem d_Gr_putAgain_65 : decode b_Gr_putAgain 65 = .ok (.getfield 49, 3) := by decide +kernel
theorem d_Gr_putAgain_68 : decode b_Gr_putAgain 68 = .ok (.aload_n 3, 1) := by decide +kernel
theorem d_Gr_putAgain_69 : decode b_Gr_putAgain 69 = .ok (.invokespecial 52, 3) := by decide +kernel
theorem d_Gr_putAgain_72 : decode b_Gr_putAgain 72 = .ok (.invokevirtual 55, 3) := by decide +kernel
theorem d_Gr_putAgain_75 : decode b_Gr_putAgain 75 = .ok (.return_, 1) := by decide +kernel
theorem d_Gr_countNodes_0 : decode b_Gr_countNodes 0 = .ok (.iconst 0, 1) := by decide +kernel
theorem d_Gr_countNodes_1 : decode b_Gr_countNodes 1 = .ok (.istore_n 1, 1) := by decide +kernel
theorem d_Gr_countNodes_2 : decode b_Gr_countNodes 2 = .ok (.iconst 0, 1) := by decide +kernel
theorem d_Gr_countNodes_3 : decode b_Gr_countNodes 3 = .ok (.istore_n 2, 1) := by decide +kernel
theorem d_Gr_countNodes_4 : decode b_Gr_countNodes 4 = .ok (.iload_n 2, 1) := by decide +kernel
theorem d_Gr_countNodes_5 : decode b_Gr_countNodes 5 = .ok (.aload_n 0, 1) := by decide +kernel
theorem d_Gr_countNodes_6 : decode b_Gr_countNodes 6 = .ok (.getfield 11, 3) := by decide +kernel
theorem d_Gr_countNodes_9 : decode b_Gr_countNodes 9 = .ok (.arraylength, 1) := by decide +kernel
theorem d_Gr_countNodes_10 : decode b_Gr_countNodes 10 = .ok (.if_icmp .ge 26, 3) := by decide +kernel
theorem d_Gr_countNodes_13 : decode b_Gr_countNodes 13 = .ok (.iload_n 1, 1) := by decide +kernel
theorem d_Gr_countNodes_14 : decode b_Gr_countNodes 14 = .ok (.aload_n 0, 1) := by decide +kernel
theorem d_Gr_countNodes_15 : decode b_Gr_countNodes 15 = .ok (.getfield 11, 3) := by decide +kernel
theorem d_Gr_countNodes_18 : decode b_Gr_countNodes 18 = .ok (.iload_n 2, 1) := by decide +kernel
theorem d_Gr_countNodes_19 : decode b_Gr_countNodes 19 = .ok (.aaload, 1) := by decide +kernel
theorem d_Gr_countNodes_20 : decode b_Gr_countNodes 20 = .ok (.ifnonnull 7, 3) := by decide +kernel
theorem d_Gr_countNodes_23 : decode b_Gr_countNodes 23 = .ok (.iconst 0, 1) := by decide +kernel
theorem d_Gr_countNodes_24 : decode b_Gr_countNodes 24 = .ok (.goto 4, 3) := by decide +kernel
theorem d_Gr_countNodes_27 : decode b_Gr_countNodes 27 = .ok (.iconst 1, 1) := by decide +kernel
theorem d_Gr_countNodes_28 : decode b_Gr_countNodes 28 = .ok (.iadd, 1) := by decide +kernel
theorem d_Gr_countNodes_29 : decode b_Gr_countNodes 29 = .ok (.istore_n 1, 1) := by decide +kernel
theorem d_Gr_countNodes_30 : decode b_Gr_countNodes 30 = .ok (.iinc 2 1, 3) := by decide +kernel
theorem d_Gr_countNodes_33 : decode b_Gr_countNodes 33 = .ok (.goto (-29), 3) := by decide +kernel
theorem d_Gr_countNodes_36 : decode b_Gr_countNodes 36 = .ok (.iload_n 1, 1) := by decide +kernel
theorem d_Gr_countNodes_37 : decode b_Gr_countNodes 37 = .ok (.ireturn, 1) := by decide +kernel
theorem d_Gr_countLinks_0 : decode b_Gr_countLinks 0 = .ok (.iconst 0, 1) := by decide +kernel
theorem d_Gr_countLinks_1 : decode b_Gr_countLinks 1 = .ok (.istore_n 1, 1) := by decide +kernel
theorem d_Gr_countLinks_2 : decode b_Gr_countLinks 2 = .ok (.iconst 0, 1) := by decide +kernel
theorem d_Gr_countLinks_3 : decode b_Gr_countLinks 3 = .ok (.istore_n 2, 1) := by decide +kernel
theorem d_Gr_countLinks_4 : decode b_Gr_countLinks 4 = .ok (.iload_n 2, 1) := by decide +kernel
theorem d_Gr_countLinks_5 : decode b_Gr_countLinks 5 = .ok (.aload_n 0, 1) := by decide +kernel
theorem d_Gr_countLinks_6 : decode b_Gr_countLinks 6 = .ok (.getfield 19, 3) := by decide +kernel
theorem d_Gr_countLinks_9 : decode b_Gr_countLinks 9 = .ok (.arraylength, 1) := by decide +kernel
theorem d_Gr_countLinks_10 : decode b_Gr_countLinks 10 = .ok (.if_icmp .ge 26, 3) := by decide +kernel
theorem d_Gr_countLinks_13 : decode b_Gr_countLinks 13 = .ok (.iload_n 1, 1) := by decide +kernel
theorem d_Gr_countLinks_14 : decode b_Gr_countLinks 14 = .ok (.aload_n 0, 1) := by decide +kernel
theorem d_Gr_countLinks_15 : decode b_Gr_countLinks 15 = .ok (.getfield 19, 3) := by decide +kernel
theorem d_Gr_countLinks_18 : decode b_Gr_countLinks 18 = .ok (.iload_n 2, 1) := by decide +kernel
theorem d_Gr_countLinks_19 : decode b_Gr_countLinks 19 = .ok (.aaload, 1) := by decide +kernel
theorem d_Gr_countLinks_20 : decode b_Gr_countLinks 20 = .ok (.ifnonnull 7, 3) := by decide +kernel
theorem d_Gr_countLinks_23 : decode b_Gr_countLinks 23 = .ok (.iconst 0, 1) := by decide +kernel
theorem d_Gr_countLinks_24 : decode b_Gr_countLinks 24 = .ok (.goto 4, 3) := by decide +kernel
theorem d_Gr_countLinks_27 : decode b_Gr_countLinks 27 = .ok (.iconst 1, 1) := by decide +kernel
theorem d_Gr_countLinks_28 : decode b_Gr_countLinks 28 = .ok (.iadd, 1) := by decide +kernel
theorem d_Gr_countLinks_29 : decode b_Gr_countLinks 29 = .ok (.istore_n 1, 1) := by decide +kernel
theorem d_Gr_countLinks_30 : decode b_Gr_countLinks 30 = .ok (.iinc 2 1, 3) := by decide +kernel
theorem d_Gr_countLinks_33 : decode b_Gr_countLinks 33 = .ok (.goto (-29), 3) := by decide +kernel
theorem d_Gr_countLinks_36 : decode b_Gr_countLinks 36 = .ok (.iload_n 1, 1) := by decide +kernel
theorem d_Gr_countLinks_37 : decode b_Gr_countLinks 37 = .ok (.ireturn, 1) := by decide +kernel
theorem d_Gr_countChain_0 : decode b_Gr_countChain 0 = .ok (.iconst 0, 1) := by decide +kernel
theorem d_Gr_countChain_1 : decode b_Gr_countChain 1 = .ok (.istore_n 3, 1) := by decide +kernel
theorem d_Gr_countChain_2 : decode b_Gr_countChain 2 = .ok (.iconst 0, 1) := by decide +kernel
theorem d_Gr_countChain_3 : decode b_Gr_countChain 3 = .ok (.istore 4, 2) := by decide +kernel
theorem d_Gr_countChain_5 : decode b_Gr_countChain 5 = .ok (.iload 4, 2) := by decide +kernel
theorem d_Gr_countChain_7 : decode b_Gr_countChain 7 = .ok (.aload_n 0, 1) := by decide +kernel
theorem d_Gr_countChain_8 : decode b_Gr_countChain 8 = .ok (.getfield 19, 3) := by decide +kernel
theorem d_Gr_countChain_11 : decode b_Gr_countChain 11 = .ok (.arraylength, 1) := by decide +kernel
theorem d_Gr_countChain_12 : decode b_Gr_countChain 12 = .ok (.if_icmp .ge 28, 3) := by decide +kernel
theorem d_Gr_countChain_15 : decode b_Gr_countChain 15 = .ok (.iload_n 3, 1) := by decide +kernel
theorem d_Gr_countChain_16 : decode b_Gr_countChain 16 = .ok (.aload_n 0, 1) := by decide +kernel
theorem d_Gr_countChain_17 : decode b_Gr_countChain 17 = .ok (.iload 4, 2) := by decide +kernel
theorem d_Gr_countChain_19 : decode b_Gr_countChain 19 = .ok (.iload_n 1, 1) := by decide +kernel
theorem d_Gr_countChain_20 : decode b_Gr_countChain 20 = .ok (.iload_n 2, 1) := by decide +kernel
theorem d_Gr_countChain_21 : decode b_Gr_countChain 21 = .ok (.invokevirtual 59, 3) := by decide +kernel
theorem d_Gr_countChain_24 : decode b_Gr_countChain 24 = .ok (.ifCond .eq 7, 3) := by decide +kernel
theorem d_Gr_countChain_27 : decode b_Gr_countChain 27 = .ok (.iconst 1, 1) := by decide +kernel
theorem d_Gr_countChain_28 : decode b_Gr_countChain 28 = .ok (.goto 4, 3) := by decide +kernel
theorem d_Gr_countChain_31 : decode b_Gr_countChain 31 = .ok (.iconst 0, 1) := by decide +kernel
theorem d_Gr_countChain_32 : decode b_Gr_countChain 32 = .ok (.iadd, 1) := by decide +kernel
theorem d_Gr_countChain_33 : decode b_Gr_countChain 33 = .ok (.istore_n 3, 1) := by decide +kernel
theorem d_Gr_countChain_34 : decode b_Gr_countChain 34 = .ok (.iinc 4 1, 3) := by decide +kernel
theorem d_Gr_countChain_37 : decode b_Gr_countChain 37 = .ok (.goto (-32), 3) := by decide +kernel
theorem d_Gr_countChain_40 : decode b_Gr_countChain 40 = .ok (.iload_n 3, 1) := by decide +kernel
theorem d_Gr_countChain_41 : decode b_Gr_countChain 41 = .ok (.ireturn, 1) := by decide +kernel
theorem d_Gr_linkInChain_0 : decode b_Gr_linkInChain 0 = .ok (.iconst 0, 1) := by decide +kernel
theorem d_Gr_linkInChain_1 : decode b_Gr_linkInChain 1 = .ok (.istore 4, 2) := by decide +kernel
theorem d_Gr_linkInChain_3 : decode b_Gr_linkInChain 3 = .ok (.iconst 0, 1) := by decide +kernel
theorem d_Gr_linkInChain_4 : decode b_Gr_linkInChain 4 = .ok (.istore 5, 2) := by decide +kernel
theorem d_Gr_linkInChain_6 : decode b_Gr_linkInChain 6 = .ok (.iload 5, 2) := by decide +kernel
theorem d_Gr_linkInChain_8 : decode b_Gr_linkInChain 8 = .ok (.aload_n 0, 1) := by decide +kernel
theorem d_Gr_linkInChain_9 : decode b_Gr_linkInChain 9 = .ok (.getfield 19, 3) := by decide +kernel
theorem d_Gr_linkInChain_12 : decode b_Gr_linkInChain 12 = .ok (.arraylength, 1) := by decide +kernel
theorem d_Gr_linkInChain_13 : decode b_Gr_linkInChain 13 = .ok (.if_icmp .ge 32, 3) := by decide +kernel
theorem d_Gr_linkInChain_16 : decode b_Gr_linkInChain 16 = .ok (.aload_n 0, 1) := by decide +kernel
theorem d_Gr_linkInChain_17 : decode b_Gr_linkInChain 17 = .ok (.iload 5, 2) := by decide +kernel
theorem d_Gr_linkInChain_19 : decode b_Gr_linkInChain 19 = .ok (.iload_n 1, 1) := by decide +kernel
theorem d_Gr_linkInChain_20 : decode b_Gr_linkInChain 20 = .ok (.iload_n 2, 1) := by decide +kernel
theorem d_Gr_linkInChain_21 : decode b_Gr_linkInChain 21 = .ok (.invokevirtual 59, 3) := by decide +kernel
theorem d_Gr_linkInChain_24 : decode b_Gr_linkInChain 24 = .ok (.ifCond .eq 15, 3) := by decide +kernel
theorem d_Gr_linkInChain_27 : decode b_Gr_linkInChain 27 = .ok (.iload 4, 2) := by decide +kernel
theorem d_Gr_linkInChain_29 : decode b_Gr_linkInChain 29 = .ok (.iload_n 3, 1) := by decide +kernel
theorem d_Gr_linkInChain_30 : decode b_Gr_linkInChain 30 = .ok (.if_icmp .ne 6, 3) := by decide +kernel
theorem d_Gr_linkInChain_33 : decode b_Gr_linkInChain 33 = .ok (.iload 5, 2) := by decide +kernel
theorem d_Gr_linkInChain_35 : decode b_Gr_linkInChain 35 = .ok (.ireturn, 1) := by decide +kernel
theorem d_Gr_linkInChain_36 : decode b_Gr_linkInChain 36 = .ok (.iinc 4 1, 3) := by decide +kernel
theorem d_Gr_linkInChain_39 : decode b_Gr_linkInChain 39 = .ok (.iinc 5 1, 3) := by decide +kernel
theorem d_Gr_linkInChain_42 : decode b_Gr_linkInChain 42 = .ok (.goto (-36), 3) := by decide +kernel
theorem d_Gr_linkInChain_45 : decode b_Gr_linkInChain 45 = .ok (.iconst (-1), 1) := by decide +kernel
theorem d_Gr_linkInChain_46 : decode b_Gr_linkInChain 46 = .ok (.ireturn, 1) := by decide +kernel
theorem d_Gr_isInChain_0 : decode b_Gr_isInChain 0 = .ok (.aload_n 0, 1) := by decide +kernel
theorem d_Gr_isInChain_1 : decode b_Gr_isInChain 1 = .ok (.iload_n 1, 1) := by decide +kernel
theorem d_Gr_isInChain_2 : decode b_Gr_isInChain 2 = .ok (.invokevirtual 27, 3) := by decide +kernel
theorem d_Gr_isInChain_5 : decode b_Gr_isInChain 5 = .ok (.astore 4, 2) := by decide +kernel
theorem d_Gr_isInChain_7 : decode b_Gr_isInChain 7 = .ok (.aload 4, 2) := by decide +kernel
theorem d_Gr_isInChain_9 : decode b_Gr_isInChain 9 = .ok (.ifnull 28, 3) := by decide +kernel
theorem d_Gr_isInChain_12 : decode b_Gr_isInChain 12 = .ok (.iload_n 3, 1) := by decide +kernel
theorem d_Gr_isInChain_13 : decode b_Gr_isInChain 13 = .ok (.ifCond .eq 11, 3) := by decide +kernel
theorem d_Gr_isInChain_16 : decode b_Gr_isInChain 16 = .ok (.aload 4, 2) := by decide +kernel
theorem d_Gr_isInChain_18 : decode b_Gr_isInChain 18 = .ok (.getfield 42, 3) := by decide +kernel
theorem d_Gr_isInChain_21 : decode b_Gr_isInChain 21 = .ok (.goto 8, 3) := by decide +kernel
theorem d_Gr_isInChain_24 : decode b_Gr_isInChain 24 = .ok (.aload 4, 2) := by decide +kernel
theorem d_Gr_isInChain_26 : decode b_Gr_isInChain 26 = .ok (.getfield 46, 3) := by decide +kernel
theorem d_Gr_isInChain_29 : decode b_Gr_isInChain 29 = .ok (.iload_n 2, 1) := by decide +kernel
theorem d_Gr_isInChain_30 : decode b_Gr_isInChain 30 = .ok (.if_icmp .ne 7, 3) := by decide +kernel
theorem d_Gr_isInChain_33 : decode b_Gr_isInChain 33 = .ok (.iconst 1, 1) := by decide +kernel
theorem d_Gr_isInChain_34 : decode b_Gr_isInChain 34 = .ok (.goto 4, 3) := by decide +kernel
theorem d_Gr_isInChain_37 : decode b_Gr_isInChain 37 = .ok (.iconst 0, 1) := by decide +kernel
theorem d_Gr_isInChain_38 : decode b_Gr_isInChain 38 = .ok (.ireturn, 1) := by decide +kernel
theorem d_Gr_copyFrom_0 : decode b_Gr_copyFrom 0 = .ok (.iconst 0, 1) := by decide +kernel
theorem d_Gr_copyFrom_1 : decode b_Gr_copyFrom 1 = .ok (.istore_n 2, 1) := by decide +kernel
theorem d_Gr_copyFrom_2 : decode b_Gr_copyFrom 2 = .ok (.iload_n 2, 1) := by decide +kernel
theorem d_Gr_copyFrom_3 : decode b_Gr_copyFrom 3 = .ok (.aload_n 0, 1) := by decide +kernel
theorem d_Gr_copyFrom_4 : decode b_Gr_copyFrom 4 = .ok (.getfield 11, 3) := by decide +kernel
theorem d_Gr_copyFrom_7 : decode b_Gr_copyFrom 7 = .ok (.arraylength, 1) := by decide +kernel
theorem d_Gr_copyFrom_8 : decode b_Gr_copyFrom 8 = .ok (.if_icmp .ge 20, 3) := by decide +kernel
theorem d_Gr_copyFrom_11 : decode b_Gr_copyFrom 11 = .ok (.aload_n 0, 1) := by decide +kernel
theorem d_Gr_copyFrom_12 : decode b_Gr_copyFrom 12 = .ok (.getfield 11, 3) := by decide +kernel
theorem d_Gr_copyFrom_15 : decode b_Gr_copyFrom 15 = .ok (.iload_n 2, 1) := by decide +kernel
theorem d_Gr_copyFrom_16 : decode b_Gr_copyFrom 16 = .ok (.aload_n 1, 1) := by decide +kernel
theorem d_Gr_copyFrom_17 : decode b_Gr_copyFrom 17 = .ok (.iload_n 2, 1) := by decide +kernel
theorem d_Gr_copyFrom_18 : decode b_Gr_copyFrom 18 = .ok (.invokevirtual 23, 3) := by decide +kernel
theorem d_Gr_copyFrom_21 : decode b_Gr_copyFrom 21 = .ok (.aastore, 1) := by decide +kernel
theorem d_Gr_copyFrom_22 : decode b_Gr_copyFrom 22 = .ok (.iinc 2 1, 3) := by decide +kernel
theorem d_Gr_copyFrom_25 : decode b_Gr_copyFrom 25 = .ok (.goto (-23), 3) := by decide +kernel
theorem d_Gr_copyFrom_28 : decode b_Gr_copyFrom 28 = .ok (.iconst 0, 1) := by decide +kernel
theorem d_Gr_copyFrom_29 : decode b_Gr_copyFrom 29 = .ok (.istore_n 2, 1) := by decide +kernel
theorem d_Gr_copyFrom_30 : decode b_Gr_copyFrom 30 = .ok (.iload_n 2, 1) := by decide +kernel
theorem d_Gr_copyFrom_31 : decode b_Gr_copyFrom 31 = .ok (.aload_n 0, 1) := by decide +kernel
theorem d_Gr_copyFrom_32 : decode b_Gr_copyFrom 32 = .ok (.getfield 19, 3) := by decide +kernel
theorem d_Gr_copyFrom_35 : decode b_Gr_copyFrom 35 = .ok (.arraylength, 1) := by decide +kernel
theorem d_Gr_copyFrom_36 : decode b_Gr_copyFrom 36 = .ok (.if_icmp .ge 20, 3) := by decide +kernel
theorem d_Gr_copyFrom_39 : decode b_Gr_copyFrom 39 = .ok (.aload_n 0, 1) := by decide +kernel
theorem d_Gr_copyFrom_40 : decode b_Gr_copyFrom 40 = .ok (.getfield 19, 3) := by decide +kernel
theorem d_Gr_copyFrom_43 : decode b_Gr_copyFrom 43 = .ok (.iload_n 2, 1) := by decide +kernel
theorem d_Gr_copyFrom_44 : decode b_Gr_copyFrom 44 = .ok (.aload_n 1, 1) := by decide +kernel
theorem d_Gr_copyFrom_45 : decode b_Gr_copyFrom 45 = .ok (.iload_n 2, 1) := by decide +kernel
theorem d_Gr_copyFrom_46 : decode b_Gr_copyFrom 46 = .ok (.invokevirtual 27, 3) := by decide +kernel
theorem d_Gr_copyFrom_49 : decode b_Gr_copyFrom 49 = .ok (.aastore, 1) := by decide +kernel
theorem d_Gr_copyFrom_50 : decode b_Gr_copyFrom 50 = .ok (.iinc 2 1, 3) := by decide +kernel
theorem d_Gr_copyFrom_53 : decode b_Gr_copyFrom 53 = .ok (.goto (-23), 3) := by decide +kernel
theorem d_Gr_copyFrom_56 : decode b_Gr_copyFrom 56 = .ok (.return_, 1) := by decide +kernel
theorem d_Gr_clear_0 : decode b_Gr_clear 0 = .ok (.iconst 0, 1) := by decide +kernel
theorem d_Gr_clear_1 : decode b_Gr_clear 1 = .ok (.istore_n 1, 1) := by decide +kernel
theorem d_Gr_clear_2 : decode b_Gr_clear 2 = .ok (.iload_n 1, 1) := by decide +kernel
theorem d_Gr_clear_3 : decode b_Gr_clear 3 = .ok (.aload_n 0, 1) := by decide +kernel
theorem d_Gr_clear_4 : decode b_Gr_clear 4 = .ok (.getfield 11, 3) := by decide +kernel
theorem d_Gr_clear_7 : decode b_Gr_clear 7 = .ok (.arraylength, 1) := by decide +kernel
theorem d_Gr_clear_8 : decode b_Gr_clear 8 = .ok (.if_icmp .ge 16, 3) := by decide +kernel
theorem d_Gr_clear_11 : decode b_Gr_clear 11 = .ok (.aload_n 0, 1) := by decide +kernel
theorem d_Gr_clear_12 : decode b_Gr_clear 12 = .ok (.getfield 11, 3) := by decide +kernel
theorem d_Gr_clear_15 : decode b_Gr_clear 15 = .ok (.iload_n 1, 1) := by decide +kernel
theorem d_Gr_clear_16 : decode b_Gr_clear 16 = .ok (.aconst_null, 1) := by decide +kernel
theorem d_Gr_clear_17 : decode b_Gr_clear 17 = .ok (.aastore, 1) := by decide +kernel
theorem d_Gr_clear_18 : decode b_Gr_clear 18 = .ok (.iinc 1 1, 3) := by decide +kernel
theorem d_Gr_clear_21 : decode b_Gr_clear 21 = .ok (.goto (-19), 3) := by decide +kernel
theorem d_Gr_clear_24 : decode b_Gr_clear 24 = .ok (.iconst 0, 1) := by decide +kernel
theorem d_Gr_clear_25 : decode b_Gr_clear 25 = .ok (.istore_n 1, 1) := by decide +kernel
theorem d_Gr_clear_26 : decode b_Gr_clear 26 = .ok (.iload_n 1, 1) := by decide +kernel
theorem d_Gr_clear_27 : decode b_Gr_clear 27 = .ok (.aload_n 0, 1) := by decide +kernel
theorem d_Gr_clear_28 : decode b_Gr_clear 28 = .ok (.getfield 19, 3) := by decide +kernel
theorem d_Gr_clear_31 : decode b_Gr_clear 31 = .ok (.arraylength, 1) := by decide +kernel
theorem d_Gr_clear_32 : decode b_Gr_clear 32 = .ok (.if_icmp .ge 16, 3) := by decide +kernel
theorem d_Gr_clear_35 : decode b_Gr_clear 35 = .ok (.aload_n 0, 1) := by decide +kernel
theorem d_Gr_clear_36 : decode b_Gr_clear 36 = .ok (.getfield 19, 3) := by decide +kernel
theorem d_Gr_clear_39 : decode b_Gr_clear 39 = .ok (.iload_n 1, 1) := by decide +kernel
theorem d_Gr_clear_40 : decode b_Gr_clear 40 = .ok (.aconst_null, 1) := by decide +kernel
theorem d_Gr_clear_41 : decode b_Gr_clear 41 = .ok (.aastore, 1) := by decide +kernel
theorem d_Gr_clear_42 : decode b_Gr_clear 42 = .ok (.iinc 1 1, 3) := by decide +kernel
theorem d_Gr_clear_45 : decode b_Gr_clear 45 = .ok (.goto (-19), 3) := by decide +kernel
theorem d_Gr_clear_48 : decode b_Gr_clear 48 = .ok (.return_, 1) := by decide +kernel
/-! the instructions of Lg -/
theorem d_Lg_init_0 : decode b_Lg_init 0 = .ok (.aload_n 0, 1) := by decide +kernel
theorem d_Lg_init_1 : decode b_Lg_init 1 = .ok (.invokespecial 3, 3) := by decide +kernel
theorem d_Lg_init_4 : decode b_Lg_init 4 = .ok (.return_, 1) := by decide +kernel
theorem d_Lg_writesFor_0 : decode b_Lg_writesFor 0 = .ok (.iload_n 0, 1) := by decide +kernel
theorem d_Lg_writesFor_1 : decode b_Lg_writesFor 1 = .ok (.ifCond .ne 7, 3) := by decide +kernel
theorem d_Lg_writesFor_4 : decode b_Lg_writesFor 4 = .ok (.iconst 0, 1) := by decide +kernel
theorem d_Lg_writesFor_5 : decode b_Lg_writesFor 5 = .ok (.goto 6, 3) := by decide +kernel
theorem d_Lg_writesFor_8 : decode b_Lg_writesFor 8 = .ok (.iload_n 0, 1) := by decide +kernel
theorem d_Lg_writesFor_9 : decode b_Lg_writesFor 9 = .ok (.iconst 1, 1) := by decide +kernel
theorem d_Lg_writesFor_10 : decode b_Lg_writesFor 10 = .ok (.iadd, 1) := by decide +kernel
theorem d_Lg_writesFor_11 : decode b_Lg_writesFor 11 = .ok (.ireturn, 1) := by decide +kernel
theorem d_Lg_hasRoom_0 : decode b_Lg_hasRoom 0 = .ok (.aload_n 0, 1) := by decide +kernel
theorem d_Lg_hasRoom_1 : decode b_Lg_hasRoom 1 = .ok (.getfield 9, 3) := by decide +kernel
theorem d_Lg_hasRoom_4 : decode b_Lg_hasRoom 4 = .ok (.iload_n 1, 1) := by decide +kernel
theorem d_Lg_hasRoom_5 : decode b_Lg_hasRoom 5 = .ok (.invokestatic 15, 3) := by decide +kernel
theorem d_Lg_hasRoom_8 : decode b_Lg_hasRoom 8 = .ok (.iadd, 1) := by decide +kernel
theorem d_Lg_hasRoom_9 : decode b_Lg_hasRoom 9 = .ok (.sipush 250, 3) := by decide +kernel
theorem d_Lg_hasRoom_12 : decode b_Lg_hasRoom 12 = .ok (.if_icmp .gt 7, 3) := by decide +kernel
theorem d_Lg_hasRoom_15 : decode b_Lg_hasRoom 15 = .ok (.iconst 1, 1) := by decide +kernel
theorem d_Lg_hasRoom_16 : decode b_Lg_hasRoom 16 = .ok (.goto 4, 3) := by decide +kernel
theorem d_Lg_hasRoom_19 : decode b_Lg_hasRoom 19 = .ok (.iconst 0, 1) := by decide +kernel
theorem d_Lg_hasRoom_20 : decode b_Lg_hasRoom 20 = .ok (.ireturn, 1) := by decide +kernel
theorem d_Lg_failAt_0 : decode b_Lg_failAt 0 = .ok (.aload_n 0, 1) := by decide +kernel
theorem d_Lg_failAt_1 : decode b_Lg_failAt 1 = .ok (.iload_n 1, 1) := by decide +kernel
theorem d_Lg_failAt_2 : decode b_Lg_failAt 2 = .ok (.putfield 19, 3) := by decide +kernel
theorem d_Lg_failAt_5 : decode b_Lg_failAt 5 = .ok (.return_, 1) := by decide +kernel
theorem d_Lg_writeTransaction_0 : decode b_Lg_writeTransaction 0 = .ok (.iload_n 1, 1) := by decide +kernel
theorem d_Lg_writeTransaction_1 : decode b_Lg_writeTransaction 1 = .ok (.invokestatic 15, 3) := by decide +kernel
theorem d_Lg_writeTransaction_4 : decode b_Lg_writeTransaction 4 = .ok (.istore_n 2, 1) := by decide +kernel
theorem d_Lg_writeTransaction_5 : decode b_Lg_writeTransaction 5 = .ok (.aload_n 0, 1) := by decide +kernel
theorem d_Lg_writeTransaction_6 : decode b_Lg_writeTransaction 6 = .ok (.iload_n 2, 1) := by decide +kernel
theorem d_Lg_writeTransaction_7 : decode b_Lg_writeTransaction 7 = .ok (.invokevirtual 22, 3) := by decide +kernel
theorem d_Lg_writeTransaction_10 : decode b_Lg_writeTransaction 10 = .ok (.istore_n 3, 1) := by decide +kernel
theorem d_Lg_writeTransaction_11 : decode b_Lg_writeTransaction 11 = .ok (.iload_n 3, 1) := by decide +kernel
theorem d_Lg_writeTransaction_12 : decode b_Lg_writeTransaction 12 = .ok (.iload_n 2, 1) := by decide +kernel
theorem d_Lg_writeTransaction_13 : decode b_Lg_writeTransaction 13 = .ok (.if_icmp .ge 10, 3) := by decide +kernel
theorem d_Lg_writeTransaction_16 : decode b_Lg_writeTransaction 16 = .ok (.aload_n 0, 1) := by decide +kernel
theorem d_Lg_writeTransaction_17 : decode b_Lg_writeTransaction 17 = .ok (.iload_n 3, 1) := by decide +kernel
theorem d_Lg_writeTransaction_18 : decode b_Lg_writeTransaction 18 = .ok (.putfield 25, 3) := by decide +kernel
theorem d_Lg_writeTransaction_21 : decode b_Lg_writeTransaction 21 = .ok (.iconst 0, 1) := by decide +kernel
theorem d_Lg_writeTransaction_22 : decode b_Lg_writeTransaction 22 = .ok (.ireturn, 1) := by decide +kernel
theorem d_Lg_writeTransaction_23 : decode b_Lg_writeTransaction 23 = .ok (.aload_n 0, 1) := by decide +kernel
theorem d_Lg_writeTransaction_24 : decode b_Lg_writeTransaction 24 = .ok (.dup, 1) := by decide +kernel
theorem d_Lg_writeTransaction_25 : decode b_Lg_writeTransaction 25 = .ok (.getfield 9, 3) := by decide +kernel
theorem d_Lg_writeTransaction_28 : decode b_Lg_writeTransaction 28 = .ok (.iload_n 2, 1) := by decide +kernel
theorem d_Lg_writeTransaction_29 : decode b_Lg_writeTransaction 29 = .ok (.iadd, 1) := by decide +kernel
theorem d_Lg_writeTransaction_30 : decode b_Lg_writeTransaction 30 = .ok (.putfield 9, 3) := by decide +kernel
theorem d_Lg_writeTransaction_33 : decode b_Lg_writeTransaction 33 = .ok (.aload_n 0, 1) := by decide +kernel
theorem d_Lg_writeTransaction_34 : decode b_Lg_writeTransaction 34 = .ok (.dup, 1) := by decide +kernel
theorem d_Lg_writeTransaction_35 : decode b_Lg_writeTransaction 35 = .ok (.getfield 28, 3) := by decide +kernel
theorem d_Lg_writeTransaction_38 : decode b_Lg_writeTransaction 38 = .ok (.iconst 1, 1) := by decide +kernel
theorem d_Lg_writeTransaction_39 : decode b_Lg_writeTransaction 39 = .ok (.iadd, 1) := by decide +kernel
theorem d_Lg_writeTransaction_40 : decode b_Lg_writeTransaction 40 = .ok (.putfield 28, 3) := by decide +kernel
theorem d_Lg_writeTransaction_43 : decode b_Lg_writeTransaction 43 = .ok (.iconst 1, 1) := by decide +kernel
theorem d_Lg_writeTransaction_44 : decode b_Lg_writeTransaction 44 = .ok (.ireturn, 1) := by decide +kernel
theorem d_Lg_writeCheckpoint_0 : decode b_Lg_writeCheckpoint 0 = .ok (.aload_n 0, 1) := by decide +kernel
theorem d_Lg_writeCheckpoint_1 : decode b_Lg_writeCheckpoint 1 = .ok (.iload_n 1, 1) := by decide +kernel
theorem d_Lg_writeCheckpoint_2 : decode b_Lg_writeCheckpoint 2 = .ok (.invokevirtual 22, 3) := by decide +kernel
theorem d_Lg_writeCheckpoint_5 : decode b_Lg_writeCheckpoint 5 = .ok (.iload_n 1, 1) := by decide +kernel
theorem d_Lg_writeCheckpoint_6 : decode b_Lg_writeCheckpoint 6 = .ok (.if_icmp .ge 5, 3) := by decide +kernel
theorem d_Lg_writeCheckpoint_9 : decode b_Lg_writeCheckpoint 9 = .ok (.iconst 0, 1) := by decide +kernel
theorem d_Lg_writeCheckpoint_10 : decode b_Lg_writeCheckpoint 10 = .ok (.ireturn, 1) := by decide +kernel
theorem d_Lg_writeCheckpoint_11 : decode b_Lg_writeCheckpoint 11 = .ok (.aload_n 0, 1) := by decide +kernel
theorem d_Lg_writeCheckpoint_12 : decode b_Lg_writeCheckpoint 12 = .ok (.iconst 0, 1) := by decide +kernel
theorem d_Lg_writeCheckpoint_13 : decode b_Lg_writeCheckpoint 13 = .ok (.putfield 9, 3) := by decide +kernel
theorem d_Lg_writeCheckpoint_16 : decode b_Lg_writeCheckpoint 16 = .ok (.aload_n 0, 1) := by decide +kernel
theorem d_Lg_writeCheckpoint_17 : decode b_Lg_writeCheckpoint 17 = .ok (.iconst 0, 1) := by decide +kernel
theorem d_Lg_writeCheckpoint_18 : decode b_Lg_writeCheckpoint 18 = .ok (.putfield 28, 3) := by decide +kernel
theorem d_Lg_writeCheckpoint_21 : decode b_Lg_writeCheckpoint 21 = .ok (.iconst 1, 1) := by decide +kernel
theorem d_Lg_writeCheckpoint_22 : decode b_Lg_writeCheckpoint 22 = .ok (.ireturn, 1) := by decide +kernel
theorem d_Lg_reopen_0 : decode b_Lg_reopen 0 = .ok (.aload_n 0, 1) := by decide +kernel
theorem d_Lg_reopen_1 : decode b_Lg_reopen 1 = .ok (.iconst 0, 1) := by decide +kernel
theorem d_Lg_reopen_2 : decode b_Lg_reopen 2 = .ok (.putfield 25, 3) := by decide +kernel
theorem d_Lg_reopen_5 : decode b_Lg_reopen 5 = .ok (.aload_n 0, 1) := by decide +kernel
theorem d_Lg_reopen_6 : decode b_Lg_reopen 6 = .ok (.iconst 0, 1) := by decide +kernel
theorem d_Lg_reopen_7 : decode b_Lg_reopen 7 = .ok (.putfield 19, 3) := by decide +kernel
theorem d_Lg_reopen_10 : decode b_Lg_reopen 10 = .ok (.aload_n 0, 1) := by decide +kernel
theorem d_Lg_reopen_11 : decode b_Lg_reopen 11 = .ok (.getfield 28, 3) := by decide +kernel
theorem d_Lg_reopen_14 : decode b_Lg_reopen 14 = .ok (.ireturn, 1) := by decide +kernel
theorem d_Lg_write_0 : decode b_Lg_write 0 = .ok (.aload_n 0, 1) := by decide +kernel
theorem d_Lg_write_1 : decode b_Lg_write 1 = .ok (.getfield 19, 3) := by decide +kernel
theorem d_Lg_write_4 : decode b_Lg_write 4 = .ok (.ifCond .le 15, 3) := by decide +kernel
theorem d_Lg_write_7 : decode b_Lg_write 7 = .ok (.aload_n 0, 1) := by decide +kernel
theorem d_Lg_write_8 : decode b_Lg_write 8 = .ok (.getfield 19, 3) := by decide +kernel
theorem d_Lg_write_11 : decode b_Lg_write 11 = .ok (.iload_n 1, 1) := by decide +kernel
theorem d_Lg_write_12 : decode b_Lg_write 12 = .ok (.if_icmp .gt 7, 3) := by decide +kernel
theorem d_Lg_write_15 : decode b_Lg_write 15 = .ok (.iconst 1, 1) := by decide +kernel
theorem d_Lg_write_16 : decode b_Lg_write 16 = .ok (.goto 4, 3) := by decide +kernel
theorem d_Lg_write_19 : decode b_Lg_write 19 = .ok (.iconst 0, 1) := by decide +kernel
theorem d_Lg_write_20 : decode b_Lg_write 20 = .ok (.istore_n 2, 1) := by decide +kernel
theorem d_Lg_write_21 : decode b_Lg_write 21 = .ok (.iload_n 2, 1) := by decide +kernel
theorem d_Lg_write_22 : decode b_Lg_write 22 = .ok (.ifCond .eq 12, 3) := by decide +kernel
theorem d_Lg_write_25 : decode b_Lg_write 25 = .ok (.aload_n 0, 1) := by decide +kernel
theorem d_Lg_write_26 : decode b_Lg_write 26 = .ok (.getfield 19, 3) := by decide +kernel
theorem d_Lg_write_29 : decode b_Lg_write 29 = .ok (.iconst 1, 1) := by decide +kernel
theorem d_Lg_write_30 : decode b_Lg_write 30 = .ok (.isub, 1) := by decide +kernel
theorem d_Lg_write_31 : decode b_Lg_write 31 = .ok (.goto 4, 3) := by decide +kernel
theorem d_Lg_write_34 : decode b_Lg_write 34 = .ok (.iload_n 1, 1) := by decide +kernel
theorem d_Lg_write_35 : decode b_Lg_write 35 = .ok (.istore_n 3, 1) := by decide +kernel
theorem d_Lg_write_36 : decode b_Lg_write 36 = .ok (.aload_n 0, 1) := by decide +kernel
theorem d_Lg_write_37 : decode b_Lg_write 37 = .ok (.iload_n 2, 1) := by decide +kernel
theorem d_Lg_write_38 : decode b_Lg_write 38 = .ok (.ifCond .eq 7, 3) := by decide +kernel
theorem d_Lg_write_41 : decode b_Lg_write 41 = .ok (.iconst 0, 1) := by decide +kernel
theorem d_Lg_write_42 : decode b_Lg_write 42 = .ok (.goto 13, 3) := by decide +kernel
theorem d_Lg_write_45 : decode b_Lg_write 45 = .ok (.iconst 0, 1) := by decide +kernel
theorem d_Lg_write_46 : decode b_Lg_write 46 = .ok (.aload_n 0, 1) := by decide +kernel
theorem d_Lg_write_47 : decode b_Lg_write 47 = .ok (.getfield 19, 3) := by decide +kernel
theorem d_Lg_write_50 : decode b_Lg_write 50 = .ok (.iload_n 1, 1) := by decide +kernel
theorem d_Lg_write_51 : decode b_Lg_write 51 = .ok (.isub, 1) := by decide +kernel
theorem d_Lg_write_52 : decode b_Lg_write 52 = .ok (.invokestatic 31, 3) := by decide +kernel
theorem d_Lg_write_55 : decode b_Lg_write 55 = .ok (.putfield 19, 3) := by decide +kernel
theorem d_Lg_write_58 : decode b_Lg_write 58 = .ok (.aload_n 0, 1) := by decide +kernel
theorem d_Lg_write_59 : decode b_Lg_write 59 = .ok (.dup, 1) := by decide +kernel
theorem d_Lg_write_60 : decode b_Lg_write 60 = .ok (.getfield 37, 3) := by decide +kernel
theorem d_Lg_write_63 : decode b_Lg_write 63 = .ok (.iload_n 3, 1) := by decide +kernel
theorem d_Lg_write_64 : decode b_Lg_write 64 = .ok (.iadd, 1) := by decide +kernel
theorem d_Lg_write_65 : decode b_Lg_write 65 = .ok (.putfield 37, 3) := by decide +kernel
theorem d_Lg_write_68 : decode b_Lg_write 68 = .ok (.iload_n 3, 1) := by decide +kernel
theorem d_Lg_write_69 : decode b_Lg_write 69 = .ok (.ireturn, 1) := by decide +kernel
end
section
/-! the instructions of Pr -/
theorem d_Pr_init_0 : decode b_Pr_init 0 = .ok (.aload_n 0, 1) := by decide +kernel
theorem d_Pr_init_1 : decode b_Pr_init 1 = .ok (.invokespecial 1, 3) := by decide +kernel
theorem d_Pr_init_4 : decode b_Pr_init 4 = .ok (.aload_n 0, 1) := by decide +kernel
theorem d_Pr_init_5 : decode b_Pr_init 5 = .ok (.iload_n 1, 1) := by decide +kernel
theorem d_Pr_init_6 : decode b_Pr_init 6 = .ok (.putfield 7, 3) := by decide +kernel
theorem d_Pr_init_9 : decode b_Pr_init 9 = .ok (.aload_n 0, 1) := by decide +kernel
theorem d_Pr_init_10 : decode b_Pr_init 10 = .ok (.iload_n 2, 1) := by decide +kernel
theorem d_Pr_init_11 : decode b_Pr_init 11 = .ok (.putfield 13, 3) := by decide +kernel
theorem d_Pr_init_14 : decode b_Pr_init 14 = .ok (.aload_n 0, 1) := by decide +kernel
theorem d_Pr_init_15 : decode b_Pr_init 15 = .ok (.lload_n 3, 1) := by decide +kernel
theorem d_Pr_init_16 : decode b_Pr_init 16 = .ok (.putfield 16, 3) := by decide +kernel
theorem d_Pr_init_19 : decode b_Pr_init 19 = .ok (.aload_n 0, 1) := by decide +kernel
theorem d_Pr_init_20 : decode b_Pr_init 20 = .ok (.aload 5, 2) := by decide +kernel
theorem d_Pr_init_22 : decode b_Pr_init 22 = .ok (.putfield 20, 3) := by decide +kernel
theorem d_Pr_init_25 : decode b_Pr_init 25 = .ok (.return_, 1) := by decide +kernel
theorem d_Pr_isSameValue_0 : decode b_Pr_isSameValue 0 = .ok (.aload_n 0, 1) := by decide +kernel
theorem d_Pr_isSameValue_1 : decode b_Pr_isSameValue 1 = .ok (.getfield 13, 3) := by decide +kernel
theorem d_Pr_isSameValue_4 : decode b_Pr_isSameValue 4 = .ok (.aload_n 1, 1) := by decide +kernel
theorem d_Pr_isSameValue_5 : decode b_Pr_isSameValue 5 = .ok (.getfield 13, 3) := by decide +kernel
theorem d_Pr_isSameValue_8 : decode b_Pr_isSameValue 8 = .ok (.if_icmp .ne 28, 3) := by decide +kernel
theorem d_Pr_isSameValue_11 : decode b_Pr_isSameValue 11 = .ok (.aload_n 0, 1) := by decide +kernel
theorem d_Pr_isSameValue_12 : decode b_Pr_isSameValue 12 = .ok (.getfield 16, 3) := by decide +kernel
theorem d_Pr_isSameValue_15 : decode b_Pr_isSameValue 15 = .ok (.aload_n 1, 1) := by decide +kernel
theorem d_Pr_isSameValue_16 : decode b_Pr_isSameValue 16 = .ok (.getfield 16, 3) := by decide +kernel
theorem d_Pr_isSameValue_19 : decode b_Pr_isSameValue 19 = .ok (.lcmp, 1) := by decide +kernel
theorem d_Pr_isSameValue_20 : decode b_Pr_isSameValue 20 = .ok (.ifCond .ne 16, 3) := by decide +kernel
theorem d_Pr_isSameValue_23 : decode b_Pr_isSameValue 23 = .ok (.aload_n 0, 1) := by decide +kernel
theorem d_Pr_isSameValue_24 : decode b_Pr_isSameValue 24 = .ok (.getfield 20, 3) := by decide +kernel
theorem d_Pr_isSameValue_27 : decode b_Pr_isSameValue 27 = .ok (.arraylength, 1) := by decide +kernel
theorem d_Pr_isSameValue_28 : decode b_Pr_isSameValue 28 = .ok (.aload_n 1, 1) := by decide +kernel
theorem d_Pr_isSameValue_29 : decode b_Pr_isSameValue 29 = .ok (.getfield 20, 3) := by decide +kernel
theorem d_Pr_isSameValue_32 : decode b_Pr_isSameValue 32 = .ok (.arraylength, 1) := by decide +kernel
theorem d_Pr_isSameValue_33 : decode b_Pr_isSameValue 33 = .ok (.if_icmp .eq 5, 3) := by decide +kernel
theorem d_Pr_isSameValue_36 : decode b_Pr_isSameValue 36 = .ok (.iconst 0, 1) := by decide +kernel
theorem d_Pr_isSameValue_37 : decode b_Pr_isSameValue 37 = .ok (.ireturn, 1) := by decide +kernel
theorem d_Pr_isSameValue_38 : decode b_Pr_isSameValue 38 = .ok (.iconst 0, 1) := by decide +kernel
theorem d_Pr_isSameValue_39 : decode b_Pr_isSameValue 39 = .ok (.istore_n 2, 1) := by decide +kernel
theorem d_Pr_isSameValue_40 : decode b_Pr_isSameValue 40 = .ok (.iload_n 2, 1) := by decide +kernel
theorem d_Pr_isSameValue_41 : decode b_Pr_isSameValue 41 = .ok (.aload_n 0, 1) := by decide +kernel
theorem d_Pr_isSameValue_42 : decode b_Pr_isSameValue 42 = .ok (.getfield 20, 3) := by decide +kernel
theorem d_Pr_isSameValue_45 : decode b_Pr_isSameValue 45 = .ok (.arraylength, 1) := by decide +kernel
theorem d_Pr_isSameValue_46 : decode b_Pr_isSameValue 46 = .ok (.if_icmp .ge 26, 3) := by decide +kernel
theorem d_Pr_isSameValue_49 : decode b_Pr_isSameValue 49 = .ok (.aload_n 0, 1) := by decide +kernel
theorem d_Pr_isSameValue_50 : decode b_Pr_isSameValue 50 = .ok (.getfield 20, 3) := by decide +kernel
theorem d_Pr_isSameValue_53 : decode b_Pr_isSameValue 53 = .ok (.iload_n 2, 1) := by decide +kernel
theorem d_Pr_isSameValue_54 : decode b_Pr_isSameValue 54 = .ok (.baload, 1) := by decide +kernel
theorem d_Pr_isSameValue_55 : decode b_Pr_isSameValue 55 = .ok (.aload_n 1, 1) := by decide +kernel
theorem d_Pr_isSameValue_56 : decode b_Pr_isSameValue 56 = .ok (.getfield 20, 3) := by decide +kernel
theorem d_Pr_isSameValue_59 : decode b_Pr_isSameValue 59 = .ok (.iload_n 2, 1) := by decide +kernel
theorem d_Pr_isSameValue_60 : decode b_Pr_isSameValue 60 = .ok (.baload, 1) := by decide +kernel
theorem d_Pr_isSameValue_61 : decode b_Pr_isSameValue 61 = .ok (.if_icmp .eq 5, 3) := by decide +kernel
theorem d_Pr_isSameValue_64 : decode b_Pr_isSameValue 64 = .ok (.iconst 0, 1) := by decide +kernel
theorem d_Pr_isSameValue_65 : decode b_Pr_isSameValue 65 = .ok (.ireturn, 1) := by decide +kernel
theorem d_Pr_isSameValue_66 : decode b_Pr_isSameValue 66 = .ok (.iinc 2 1, 3) := by decide +kernel
theorem d_Pr_isSameValue_69 : decode b_Pr_isSameValue 69 = .ok (.goto (-29), 3) := by decide +kernel
theorem d_Pr_isSameValue_72 : decode b_Pr_isSameValue 72 = .ok (.iconst 1, 1) := by decide +kernel
theorem d_Pr_isSameValue_73 : decode b_Pr_isSameValue 73 = .ok (.ireturn, 1) := by decide +kernel
/-! the instructions of Th -/
theorem d_Th_init_0 : decode b_Th_init 0 = .ok (.aload_n 0, 1) := by decide +kernel
theorem d_Th_init_1 : decode b_Th_init 1 = .ok (.invokespecial 1, 3) := by decide +kernel
theorem d_Th_init_4 : decode b_Th_init 4 = .ok (.aload_n 0, 1) := by decide +kernel
theorem d_Th_init_5 : decode b_Th_init 5 = .ok (.aload_n 1, 1) := by decide +kernel
theorem d_Th_init_6 : decode b_Th_init 6 = .ok (.putfield 7, 3) := by decide +kernel
theorem d_Th_init_9 : decode b_Th_init 9 = .ok (.return_, 1) := by decide +kernel
theorem d_Th_propertyOf_0 : decode b_Th_propertyOf 0 = .ok (.aload_n 0, 1) := by decide +kernel
theorem d_Th_propertyOf_1 : decode b_Th_propertyOf 1 = .ok (.iload_n 1, 1) := by decide +kernel
theorem d_Th_propertyOf_2 : decode b_Th_propertyOf 2 = .ok (.invokevirtual 13, 3) := by decide +kernel
theorem d_Th_propertyOf_5 : decode b_Th_propertyOf 5 = .ok (.istore_n 2, 1) := by decide +kernel
theorem d_Th_propertyOf_6 : decode b_Th_propertyOf 6 = .ok (.iload_n 2, 1) := by decide +kernel
theorem d_Th_propertyOf_7 : decode b_Th_propertyOf 7 = .ok (.aload_n 0, 1) := by decide +kernel
theorem d_Th_propertyOf_8 : decode b_Th_propertyOf 8 = .ok (.getfield 7, 3) := by decide +kernel
theorem d_Th_propertyOf_11 : decode b_Th_propertyOf 11 = .ok (.arraylength, 1) := by decide +kernel
theorem d_Th_propertyOf_12 : decode b_Th_propertyOf 12 = .ok (.if_icmp .ge 12, 3) := by decide +kernel
theorem d_Th_propertyOf_15 : decode b_Th_propertyOf 15 = .ok (.aload_n 0, 1) := by decide +kernel
theorem d_Th_propertyOf_16 : decode b_Th_propertyOf 16 = .ok (.getfield 7, 3) := by decide +kernel
theorem d_Th_propertyOf_19 : decode b_Th_propertyOf 19 = .ok (.iload_n 2, 1) := by decide +kernel
theorem d_Th_propertyOf_20 : decode b_Th_propertyOf 20 = .ok (.aaload, 1) := by decide +kernel
theorem d_Th_propertyOf_21 : decode b_Th_propertyOf 21 = .ok (.goto 4, 3) := by decide +kernel
theorem d_Th_propertyOf_24 : decode b_Th_propertyOf 24 = .ok (.aconst_null, 1) := by decide +kernel
theorem d_Th_propertyOf_25 : decode b_Th_propertyOf 25 = .ok (.areturn, 1) := by decide +kernel
theorem d_Th_propertiesWith_0 : decode b_Th_propertiesWith 0 = .ok (.aload_n 0, 1) := by decide +kernel
theorem d_Th_propertiesWith_1 : decode b_Th_propertiesWith 1 = .ok (.aload_n 1, 1) := by decide +kernel
theorem d_Th_propertiesWith_2 : decode b_Th_propertiesWith 2 = .ok (.getfield 17, 3) := by decide +kernel
theorem d_Th_propertiesWith_5 : decode b_Th_propertiesWith 5 = .ok (.invokevirtual 13, 3) := by decide +kernel
theorem d_Th_propertiesWith_8 : decode b_Th_propertiesWith 8 = .ok (.istore_n 2, 1) := by decide +kernel
theorem d_Th_propertiesWith_9 : decode b_Th_propertiesWith 9 = .ok (.iload_n 2, 1) := by decide +kernel
theorem d_Th_propertiesWith_10 : decode b_Th_propertiesWith 10 = .ok (.aload_n 0, 1) := by decide +kernel
theorem d_Th_propertiesWith_11 : decode b_Th_propertiesWith 11 = .ok (.getfield 7, 3) := by decide +kernel
theorem d_Th_propertiesWith_14 : decode b_Th_propertiesWith 14 = .ok (.arraylength, 1) := by decide +kernel
theorem d_Th_propertiesWith_15 : decode b_Th_propertiesWith 15 = .ok (.if_icmp .ge 11, 3) := by decide +kernel
theorem d_Th_propertiesWith_18 : decode b_Th_propertiesWith 18 = .ok (.aload_n 0, 1) := by decide +kernel
theorem d_Th_propertiesWith_19 : decode b_Th_propertiesWith 19 = .ok (.getfield 7, 3) := by decide +kernel
theorem d_Th_propertiesWith_22 : decode b_Th_propertiesWith 22 = .ok (.arraylength, 1) := by decide +kernel
theorem d_Th_propertiesWith_23 : decode b_Th_propertiesWith 23 = .ok (.goto 10, 3) := by decide +kernel
theorem d_Th_propertiesWith_26 : decode b_Th_propertiesWith 26 = .ok (.aload_n 0, 1) := by decide +kernel
theorem d_Th_propertiesWith_27 : decode b_Th_propertiesWith 27 = .ok (.getfield 7, 3) := by decide +kernel
theorem d_Th_propertiesWith_30 : decode b_Th_propertiesWith 30 = .ok (.arraylength, 1) := by decide +kernel
theorem d_Th_propertiesWith_31 : decode b_Th_propertiesWith 31 = .ok (.iconst 1, 1) := by decide +kernel
theorem d_Th_propertiesWith_32 : decode b_Th_propertiesWith 32 = .ok (.iadd, 1) := by decide +kernel
theorem d_Th_propertiesWith_33 : decode b_Th_propertiesWith 33 = .ok (.istore_n 3, 1) := by decide +kernel
theorem d_Th_propertiesWith_34 : decode b_Th_propertiesWith 34 = .ok (.iload_n 3, 1) := by decide +kernel
theorem d_Th_propertiesWith_35 : decode b_Th_propertiesWith 35 = .ok (.anewarray 18, 3) := by decide +kernel
theorem d_Th_propertiesWith_38 : decode b_Th_propertiesWith 38 = .ok (.astore 4, 2) := by decide +kernel
theorem d_Th_propertiesWith_40 : decode b_Th_propertiesWith 40 = .ok (.iconst 0, 1) := by decide +kernel
theorem d_Th_propertiesWith_41 : decode b_Th_propertiesWith 41 = .ok (.istore 5, 2) := by decide +kernel
theorem d_Th_propertiesWith_43 : decode b_Th_propertiesWith 43 = .ok (.iload 5, 2) := by decide +kernel
theorem d_Th_propertiesWith_45 : decode b_Th_propertiesWith 45 = .ok (.iload_n 3, 1) := by decide +kernel
theorem d_Th_propertiesWith_46 : decode b_Th_propertiesWith 46 = .ok (.if_icmp .ge 31, 3) := by decide +kernel
theorem d_Th_propertiesWith_49 : decode b_Th_propertiesWith 49 = .ok (.aload 4, 2) := by decide +kernel
theorem d_Th_propertiesWith_51 : decode b_Th_propertiesWith 51 = .ok (.iload 5, 2) := by decide +kernel
theorem d_Th_propertiesWith_53 : decode b_Th_propertiesWith 53 = .ok (.iload 5, 2) := by decide +kernel
theorem d_Th_propertiesWith_55 : decode b_Th_propertiesWith 55 = .ok (.iload_n 2, 1) := by decide +kernel
theorem d_Th_propertiesWith_56 : decode b_Th_propertiesWith 56 = .ok (.if_icmp .ne 7, 3) := by decide +kernel
theorem d_Th_propertiesWith_59 : decode b_Th_propertiesWith 59 = .ok (.aload_n 1, 1) := by decide +kernel
theorem d_Th_propertiesWith_60 : decode b_Th_propertiesWith 60 = .ok (.goto 10, 3) := by decide +kernel
theorem d_Th_propertiesWith_63 : decode b_Th_propertiesWith 63 = .ok (.aload_n 0, 1) := by decide +kernel
theorem d_Th_propertiesWith_64 : decode b_Th_propertiesWith 64 = .ok (.getfield 7, 3) := by decide +kernel
theorem d_Th_propertiesWith_67 : decode b_Th_propertiesWith 67 = .ok (.iload 5, 2) := by decide +kernel
theorem d_Th_propertiesWith_69 : decode b_Th_propertiesWith 69 = .ok (.aaload, 1) := by decide +kernel
theorem d_Th_propertiesWith_70 : decode b_Th_propertiesWith 70 = .ok (.aastore, 1) := by decide +kernel
theorem d_Th_propertiesWith_71 : decode b_Th_propertiesWith 71 = .ok (.iinc 5 1, 3) := by decide +kernel
theorem d_Th_propertiesWith_74 : decode b_Th_propertiesWith 74 = .ok (.goto (-31), 3) := by decide +kernel
theorem d_Th_propertiesWith_77 : decode b_Th_propertiesWith 77 = .ok (.aload 4, 2) := by decide +kernel
theorem d_Th_propertiesWith_79 : decode b_Th_propertiesWith 79 = .ok (.areturn, 1) := by decide +kernel
theorem d_Th_propertiesWithout_0 : decode b_Th_propertiesWithout 0 = .ok (.aload_n 0, 1) := by decide +kernel
theorem d_Th_propertiesWithout_1 : decode b_Th_propertiesWithout 1 = .ok (.iload_n 1, 1) := by decide +kernel
theorem d_Th_propertiesWithout_2 : decode b_Th_propertiesWithout 2 = .ok (.invokevirtual 13, 3) := by decide +kernel
theorem d_Th_propertiesWithout_5 : decode b_Th_propertiesWithout 5 = .ok (.istore_n 2, 1) := by decide +kernel
theorem d_Th_propertiesWithout_6 : decode b_Th_propertiesWithout 6 = .ok (.iload_n 2, 1) := by decide +kernel
theorem d_Th_propertiesWithout_7 : decode b_Th_propertiesWithout 7 = .ok (.aload_n 0, 1) := by decide +kernel
theorem d_Th_propertiesWithout_8 : decode b_Th_propertiesWithout 8 = .ok (.getfield 7, 3) := by decide +kernel
theorem d_Th_propertiesWithout_11 : decode b_Th_propertiesWithout 11 = .ok (.arraylength, 1) := by decide +kernel
theorem d_Th_propertiesWithout_12 : decode b_Th_propertiesWithout 12 = .ok (.if_icmp .lt 8, 3) := by decide +kernel
theorem d_Th_propertiesWithout_15 : decode b_Th_propertiesWithout 15 = .ok (.aload_n 0, 1) := by decide +kernel
theorem d_Th_propertiesWithout_16 : decode b_Th_propertiesWithout 16 = .ok (.getfield 7, 3) := by decide +kernel
theorem d_Th_propertiesWithout_19 : decode b_Th_propertiesWithout 19 = .ok (.areturn, 1) := by decide +kernel
theorem d_Th_propertiesWithout_20 : decode b_Th_propertiesWithout 20 = .ok (.aload_n 0, 1) := by decide +kernel
theorem d_Th_propertiesWithout_21 : decode b_Th_propertiesWithout 21 = .ok (.getfield 7, 3) := by decide +kernel
theorem d_Th_propertiesWithout_24 : decode b_Th_propertiesWithout 24 = .ok (.arraylength, 1) := by decide +kernel
theorem d_Th_propertiesWithout_25 : decode b_Th_propertiesWithout 25 = .ok (.iconst 1, 1) := by decide +kernel
theorem d_Th_propertiesWithout_26 : decode b_Th_propertiesWithout 26 = .ok (.isub, 1) := by decide +kernel
theorem d_Th_propertiesWithout_27 : decode b_Th_propertiesWithout 27 = .ok (.anewarray 18, 3) := by decide +kernel
theorem d_Th_propertiesWithout_30 : decode b_Th_propertiesWithout 30 = .ok (.astore_n 3, 1) := by decide +kernel
theorem d_Th_propertiesWithout_31 : decode b_Th_propertiesWithout 31 = .ok (.iconst 0, 1) := by decide +kernel
theorem d_Th_propertiesWithout_32 : decode b_Th_propertiesWithout 32 = .ok (.istore 4, 2) := by decide +kernel
theorem d_Th_propertiesWithout_34 : decode b_Th_propertiesWithout 34 = .ok (.iload 4, 2) := by decide +kernel
theorem d_Th_propertiesWithout_36 : decode b_Th_propertiesWithout 36 = .ok (.aload_n 3, 1) := by decide +kernel
theorem d_Th_propertiesWithout_37 : decode b_Th_propertiesWithout 37 = .ok (.arraylength, 1) := by decide +kernel
theorem d_Th_propertiesWithout_38 : decode b_Th_propertiesWithout 38 = .ok (.if_icmp .ge 33, 3) := by decide +kernel
theorem d_Th_propertiesWithout_41 : decode b_Th_propertiesWithout 41 = .ok (.aload_n 3, 1) := by decide +kernel
theorem d_Th_propertiesWithout_42 : decode b_Th_propertiesWithout 42 = .ok (.iload 4, 2) := by decide +kernel
theorem d_Th_propertiesWithout_44 : decode b_Th_propertiesWithout 44 = .ok (.aload_n 0, 1) := by decide +kernel
theorem d_Th_propertiesWithout_45 : decode b_Th_propertiesWithout 45 = .ok (.getfield 7, 3) := by decide +kernel
theorem d_Th_propertiesWithout_48 : decode b_Th_propertiesWithout 48 = .ok (.iload 4, 2) := by decide +kernel
theorem d_Th_propertiesWithout_50 : decode b_Th_propertiesWithout 50 = .ok (.iload_n 2, 1) := by decide +kernel
theorem d_Th_propertiesWithout_51 : decode b_Th_propertiesWithout 51 = .ok (.if_icmp .ge 8, 3) := by decide +kernel
theorem d_Th_propertiesWithout_54 : decode b_Th_propertiesWithout 54 = .ok (.iload 4, 2) := by decide +kernel
theorem d_Th_propertiesWithout_56 : decode b_Th_propertiesWithout 56 = .ok (.goto 7, 3) := by decide +kernel
theorem d_Th_propertiesWithout_59 : decode b_Th_propertiesWithout 59 = .ok (.iload 4, 2) := by decide +kernel
theorem d_Th_propertiesWithout_61 : decode b_Th_propertiesWithout 61 = .ok (.iconst 1, 1) := by decide +kernel
theorem d_Th_propertiesWithout_62 : decode b_Th_propertiesWithout 62 = .ok (.iadd, 1) := by decide +kernel
theorem d_Th_propertiesWithout_63 : decode b_Th_propertiesWithout 63 = .ok (.aaload, 1) := by decide +kernel
theorem d_Th_propertiesWithout_64 : decode b_Th_propertiesWithout 64 = .ok (.aastore, 1) := by decide +kernel
theorem d_Th_propertiesWithout_65 : decode b_Th_propertiesWithout 65 = .ok (.iinc 4 1, 3) := by decide +kernel
theorem d_Th_propertiesWithout_68 : decode b_Th_propertiesWithout 68 = .ok (.goto (-34), 3) := by decide +kernel
theorem d_Th_propertiesWithout_71 : decode b_Th_propertiesWithout 71 = .ok (.aload_n 3, 1) := by decide +kernel
theorem d_Th_propertiesWithout_72 : decode b_Th_propertiesWithout 72 = .ok (.areturn, 1) := by decide +kernel
theorem d_Th_placeOf_0 : decode b_Th_placeOf 0 = .ok (.iconst 0, 1) := by decide +kernel
theorem d_Th_placeOf_1 : decode b_Th_placeOf 1 = .ok (.istore_n 2, 1) := by decide +kernel
theorem d_Th_placeOf_2 : decode b_Th_placeOf 2 = .ok (.iload_n 2, 1) := by decide +kernel
theorem d_Th_placeOf_3 : decode b_Th_placeOf 3 = .ok (.aload_n 0, 1) := by decide +kernel
theorem d_Th_placeOf_4 : decode b_Th_placeOf 4 = .ok (.getfield 7, 3) := by decide +kernel
theorem d_Th_placeOf_7 : decode b_Th_placeOf 7 = .ok (.arraylength, 1) := by decide +kernel
theorem d_Th_placeOf_8 : decode b_Th_placeOf 8 = .ok (.if_icmp .ge 22, 3) := by decide +kernel
theorem d_Th_placeOf_11 : decode b_Th_placeOf 11 = .ok (.aload_n 0, 1) := by decide +kernel
theorem d_Th_placeOf_12 : decode b_Th_placeOf 12 = .ok (.getfield 7, 3) := by decide +kernel
theorem d_Th_placeOf_15 : decode b_Th_placeOf 15 = .ok (.iload_n 2, 1) := by decide +kernel
theorem d_Th_placeOf_16 : decode b_Th_placeOf 16 = .ok (.aaload, 1) := by decide +kernel
theorem d_Th_placeOf_17 : decode b_Th_placeOf 17 = .ok (.getfield 17, 3) := by decide +kernel
theorem d_Th_placeOf_20 : decode b_Th_placeOf 20 = .ok (.iload_n 1, 1) := by decide +kernel
theorem d_Th_placeOf_21 : decode b_Th_placeOf 21 = .ok (.if_icmp .eq 9, 3) := by decide +kernel
theorem d_Th_placeOf_24 : decode b_Th_placeOf 24 = .ok (.iinc 2 1, 3) := by decide +kernel
theorem d_Th_placeOf_27 : decode b_Th_placeOf 27 = .ok (.goto (-25), 3) := by decide +kernel
theorem d_Th_placeOf_30 : decode b_Th_placeOf 30 = .ok (.iload_n 2, 1) := by decide +kernel
theorem d_Th_placeOf_31 : decode b_Th_placeOf 31 = .ok (.ireturn, 1) := by decide +kernel
/-! the instructions of Nd -/
theorem d_Nd_init_0 : decode b_Nd_init 0 = .ok (.aload_n 0, 1) := by decide +kernel
theorem d_Nd_init_1 : decode b_Nd_init 1 = .ok (.aload_n 2, 1) := by decide +kernel
theorem d_Nd_init_2 : decode b_Nd_init 2 = .ok (.invokespecial 1, 3) := by decide +kernel
theorem d_Nd_init_5 : decode b_Nd_init 5 = .ok (.aload_n 0, 1) := by decide +kernel
theorem d_Nd_init_6 : decode b_Nd_init 6 = .ok (.aload_n 1, 1) := by decide +kernel
theorem d_Nd_init_7 : decode b_Nd_init 7 = .ok (.putfield 7, 3) := by decide +kernel
theorem d_Nd_init_10 : decode b_Nd_init 10 = .ok (.return_, 1) := by decide +kernel
theorem d_Nd_isLabelled_0 : decode b_Nd_isLabelled 0 = .ok (.aload_n 0, 1) := by decide +kernel
theorem d_Nd_isLabelled_1 : decode b_Nd_isLabelled 1 = .ok (.iload_n 1, 1) := by decide +kernel
theorem d_Nd_isLabelled_2 : decode b_Nd_isLabelled 2 = .ok (.invokevirtual 13, 3) := by decide +kernel
theorem d_Nd_isLabelled_5 : decode b_Nd_isLabelled 5 = .ok (.aload_n 0, 1) := by decide +kernel
theorem d_Nd_isLabelled_6 : decode b_Nd_isLabelled 6 = .ok (.getfield 7, 3) := by decide +kernel
theorem d_Nd_isLabelled_9 : decode b_Nd_isLabelled 9 = .ok (.arraylength, 1) := by decide +kernel
theorem d_Nd_isLabelled_10 : decode b_Nd_isLabelled 10 = .ok (.if_icmp .ge 7, 3) := by decide +kernel
theorem d_Nd_isLabelled_13 : decode b_Nd_isLabelled 13 = .ok (.iconst 1, 1) := by decide +kernel
theorem d_Nd_isLabelled_14 : decode b_Nd_isLabelled 14 = .ok (.goto 4, 3) := by decide +kernel
theorem d_Nd_isLabelled_17 : decode b_Nd_isLabelled 17 = .ok (.iconst 0, 1) := by decide +kernel
theorem d_Nd_isLabelled_18 : decode b_Nd_isLabelled 18 = .ok (.ireturn, 1) := by decide +kernel
theorem d_Nd_withLabel_0 : decode b_Nd_withLabel 0 = .ok (.aload_n 0, 1) := by decide +kernel
theorem d_Nd_withLabel_1 : decode b_Nd_withLabel 1 = .ok (.getfield 7, 3) := by decide +kernel
theorem d_Nd_withLabel_4 : decode b_Nd_withLabel 4 = .ok (.arraylength, 1) := by decide +kernel
theorem d_Nd_withLabel_5 : decode b_Nd_withLabel 5 = .ok (.iconst 1, 1) := by decide +kernel
theorem d_Nd_withLabel_6 : decode b_Nd_withLabel 6 = .ok (.iadd, 1) := by decide +kernel
theorem d_Nd_withLabel_7 : decode b_Nd_withLabel 7 = .ok (.newarray .int, 2) := by decide +kernel
theorem d_Nd_withLabel_9 : decode b_Nd_withLabel 9 = .ok (.astore_n 2, 1) := by decide +kernel
theorem d_Nd_withLabel_10 : decode b_Nd_withLabel 10 = .ok (.iconst 0, 1) := by decide +kernel
theorem d_Nd_withLabel_11 : decode b_Nd_withLabel 11 = .ok (.istore_n 3, 1) := by decide +kernel
theorem d_Nd_withLabel_12 : decode b_Nd_withLabel 12 = .ok (.iload_n 3, 1) := by decide +kernel
theorem d_Nd_withLabel_13 : decode b_Nd_withLabel 13 = .ok (.aload_n 0, 1) := by decide +kernel
theorem d_Nd_withLabel_14 : decode b_Nd_withLabel 14 = .ok (.getfield 7, 3) := by decide +kernel
theorem d_Nd_withLabel_17 : decode b_Nd_withLabel 17 = .ok (.arraylength, 1) := by decide +kernel
theorem d_Nd_withLabel_18 : decode b_Nd_withLabel 18 = .ok (.if_icmp .ge 18, 3) := by decide +kernel
theorem d_Nd_withLabel_21 : decode b_Nd_withLabel 21 = .ok (.aload_n 2, 1) := by decide +kernel
theorem d_Nd_withLabel_22 : decode b_Nd_withLabel 22 = .ok (.iload_n 3, 1) := by decide +kernel
theorem d_Nd_withLabel_23 : decode b_Nd_withLabel 23 = .ok (.aload_n 0, 1) := by decide +kernel
theorem d_Nd_withLabel_24 : decode b_Nd_withLabel 24 = .ok (.getfield 7, 3) := by decide +kernel
theorem d_Nd_withLabel_27 : decode b_Nd_withLabel 27 = .ok (.iload_n 3, 1) := by decide +kernel
theorem d_Nd_withLabel_28 : decode b_Nd_withLabel 28 = .ok (.iaload, 1) := by decide +kernel
theorem d_Nd_withLabel_29 : decode b_Nd_withLabel 29 = .ok (.iastore, 1) := by decide +kernel
theorem d_Nd_withLabel_30 : decode b_Nd_withLabel 30 = .ok (.iinc 3 1, 3) := by decide +kernel
theorem d_Nd_withLabel_33 : decode b_Nd_withLabel 33 = .ok (.goto (-21), 3) := by decide +kernel
theorem d_Nd_withLabel_36 : decode b_Nd_withLabel 36 = .ok (.aload_n 2, 1) := by decide +kernel
theorem d_Nd_withLabel_37 : decode b_Nd_withLabel 37 = .ok (.aload_n 0, 1) := by decide +kernel
theorem d_Nd_withLabel_38 : decode b_Nd_withLabel 38 = .ok (.getfield 7, 3) := by decide +kernel
theorem d_Nd_withLabel_41 : decode b_Nd_withLabel 41 = .ok (.arraylength, 1) := by decide +kernel
theorem d_Nd_withLabel_42 : decode b_Nd_withLabel 42 = .ok (.iload_n 1, 1) := by decide +kernel
theorem d_Nd_withLabel_43 : decode b_Nd_withLabel 43 = .ok (.iastore, 1) := by decide +kernel
theorem d_Nd_withLabel_44 : decode b_Nd_withLabel 44 = .ok (.new 8, 3) := by decide +kernel
theorem d_Nd_withLabel_47 : decode b_Nd_withLabel 47 = .ok (.dup, 1) := by decide +kernel
theorem d_Nd_withLabel_48 : decode b_Nd_withLabel 48 = .ok (.aload_n 2, 1) := by decide +kernel
theorem d_Nd_withLabel_49 : decode b_Nd_withLabel 49 = .ok (.aload_n 0, 1) := by decide +kernel
theorem d_Nd_withLabel_50 : decode b_Nd_withLabel 50 = .ok (.getfield 17, 3) := by decide +kernel
theorem d_Nd_withLabel_53 : decode b_Nd_withLabel 53 = .ok (.invokespecial 21, 3) := by decide +kernel
theorem d_Nd_withLabel_56 : decode b_Nd_withLabel 56 = .ok (.areturn, 1) := by decide +kernel
theorem d_Nd_withoutLabel_0 : decode b_Nd_withoutLabel 0 = .ok (.aload_n 0, 1) := by decide +kernel
theorem d_Nd_withoutLabel_1 : decode b_Nd_withoutLabel 1 = .ok (.iload_n 1, 1) := by decide +kernel
theorem d_Nd_withoutLabel_2 : decode b_Nd_withoutLabel 2 = .ok (.invokevirtual 13, 3) := by decide +kernel
theorem d_Nd_withoutLabel_5 : decode b_Nd_withoutLabel 5 = .ok (.istore_n 2, 1) := by decide +kernel
theorem d_Nd_withoutLabel_6 : decode b_Nd_withoutLabel 6 = .ok (.iload_n 2, 1) := by decide +kernel
theorem d_Nd_withoutLabel_7 : decode b_Nd_withoutLabel 7 = .ok (.aload_n 0, 1) := by decide +kernel
theorem d_Nd_withoutLabel_8 : decode b_Nd_withoutLabel 8 = .ok (.getfield 7, 3) := by decide +kernel
theorem d_Nd_withoutLabel_11 : decode b_Nd_withoutLabel 11 = .ok (.arraylength, 1) := by decide +kernel
theorem d_Nd_withoutLabel_12 : decode b_Nd_withoutLabel 12 = .ok (.if_icmp .lt 5, 3) := by decide +kernel
theorem d_Nd_withoutLabel_15 : decode b_Nd_withoutLabel 15 = .ok (.aload_n 0, 1) := by decide +kernel
theorem d_Nd_withoutLabel_16 : decode b_Nd_withoutLabel 16 = .ok (.areturn, 1) := by decide +kernel
theorem d_Nd_withoutLabel_17 : decode b_Nd_withoutLabel 17 = .ok (.aload_n 0, 1) := by decide +kernel
theorem d_Nd_withoutLabel_18 : decode b_Nd_withoutLabel 18 = .ok (.getfield 7, 3) := by decide +kernel
theorem d_Nd_withoutLabel_21 : decode b_Nd_withoutLabel 21 = .ok (.arraylength, 1) := by decide +kernel
theorem d_Nd_withoutLabel_22 : decode b_Nd_withoutLabel 22 = .ok (.iconst 1, 1) := by decide +kernel
theorem d_Nd_withoutLabel_23 : decode b_Nd_withoutLabel 23 = .ok (.isub, 1) := by decide +kernel
theorem d_Nd_withoutLabel_24 : decode b_Nd_withoutLabel 24 = .ok (.newarray .int, 2) := by decide +kernel
theorem d_Nd_withoutLabel_26 : decode b_Nd_withoutLabel 26 = .ok (.astore_n 3, 1) := by decide +kernel
theorem d_Nd_withoutLabel_27 : decode b_Nd_withoutLabel 27 = .ok (.iconst 0, 1) := by decide +kernel
theorem d_Nd_withoutLabel_28 : decode b_Nd_withoutLabel 28 = .ok (.istore 4, 2) := by decide +kernel
theorem d_Nd_withoutLabel_30 : decode b_Nd_withoutLabel 30 = .ok (.iload 4, 2) := by decide +kernel
theorem d_Nd_withoutLabel_32 : decode b_Nd_withoutLabel 32 = .ok (.aload_n 3, 1) := by decide +kernel
theorem d_Nd_withoutLabel_33 : decode b_Nd_withoutLabel 33 = .ok (.arraylength, 1) := by decide +kernel
theorem d_Nd_withoutLabel_34 : decode b_Nd_withoutLabel 34 = .ok (.if_icmp .ge 33, 3) := by decide +kernel
theorem d_Nd_withoutLabel_37 : decode b_Nd_withoutLabel 37 = .ok (.aload_n 3, 1) := by decide +kernel
theorem d_Nd_withoutLabel_38 : decode b_Nd_withoutLabel 38 = .ok (.iload 4, 2) := by decide +kernel
theorem d_Nd_withoutLabel_40 : decode b_Nd_withoutLabel 40 = .ok (.aload_n 0, 1) := by decide +kernel
theorem d_Nd_withoutLabel_41 : decode b_Nd_withoutLabel 41 = .ok (.getfield 7, 3) := by decide +kernel
theorem d_Nd_withoutLabel_44 : decode b_Nd_withoutLabel 44 = .ok (.iload 4, 2) := by decide +kernel
theorem d_Nd_withoutLabel_46 : decode b_Nd_withoutLabel 46 = .ok (.iload_n 2, 1) := by decide +kernel
theorem d_Nd_withoutLabel_47 : decode b_Nd_withoutLabel 47 = .ok (.if_icmp .ge 8, 3) := by decide +kernel
theorem d_Nd_withoutLabel_50 : decode b_Nd_withoutLabel 50 = .ok (.iload 4, 2) := by decide +kernel
theorem d_Nd_withoutLabel_52 : decode b_Nd_withoutLabel 52 = .ok (.goto 7, 3) := by decide +kernel
theorem d_Nd_withoutLabel_55 : decode b_Nd_withoutLabel 55 = .ok (.iload 4, 2) := by decide +kernel
theorem d_Nd_withoutLabel_57 : decode b_Nd_withoutLabel 57 = .ok (.iconst 1, 1) := by decide +kernel
theorem d_Nd_withoutLabel_58 : decode b_Nd_withoutLabel 58 = .ok (.iadd, 1) := by decide +kernel
theorem d_Nd_withoutLabel_59 : decode b_Nd_withoutLabel 59 = .ok (.iaload, 1) := by decide +kernel
theorem d_Nd_withoutLabel_60 : decode b_Nd_withoutLabel 60 = .ok (.iastore, 1) := by decide +kernel
theorem d_Nd_withoutLabel_61 : decode b_Nd_withoutLabel 61 = .ok (.iinc 4 1, 3) := by decide +kernel
theorem d_Nd_withoutLabel_64 : decode b_Nd_withoutLabel 64 = .ok (.goto (-34), 3) := by decide +kernel
theorem d_Nd_withoutLabel_67 : decode b_Nd_withoutLabel 67 = .ok (.new 8, 3) := by decide +kernel
theorem d_Nd_withoutLabel_70 : decode b_Nd_withoutLabel 70 = .ok (.dup, 1) := by decide +kernel
theorem d_Nd_withoutLabel_71 : decode b_Nd_withoutLabel 71 = .ok (.aload_n 3, 1) := by decide +kernel
theorem d_Nd_withoutLabel_72 : decode b_Nd_withoutLabel 72 = .ok (.aload_n 0, 1) := by decide +kernel
theorem d_Nd_withoutLabel_73 : decode b_Nd_withoutLabel 73 = .ok (.getfield 17, 3) := by decide +kernel
theorem d_Nd_withoutLabel_76 : decode b_Nd_withoutLabel 76 = .ok (.invokespecial 21, 3) := by decide +kernel
theorem d_Nd_withoutLabel_79 : decode b_Nd_withoutLabel 79 = .ok (.areturn, 1) := by decide +kernel
theorem d_Nd_placeOfLabel_0 : decode b_Nd_placeOfLabel 0 = .ok (.iconst 0, 1) := by decide +kernel
theorem d_Nd_placeOfLabel_1 : decode b_Nd_placeOfLabel 1 = .ok (.istore_n 2, 1) := by decide +kernel
theorem d_Nd_placeOfLabel_2 : decode b_Nd_placeOfLabel 2 = .ok (.iload_n 2, 1) := by decide +kernel
theorem d_Nd_placeOfLabel_3 : decode b_Nd_placeOfLabel 3 = .ok (.aload_n 0, 1) := by decide +kernel
theorem d_Nd_placeOfLabel_4 : decode b_Nd_placeOfLabel 4 = .ok (.getfield 7, 3) := by decide +kernel
theorem d_Nd_placeOfLabel_7 : decode b_Nd_placeOfLabel 7 = .ok (.arraylength, 1) := by decide +kernel
theorem d_Nd_placeOfLabel_8 : decode b_Nd_placeOfLabel 8 = .ok (.if_icmp .ge 19, 3) := by decide +kernel
theorem d_Nd_placeOfLabel_11 : decode b_Nd_placeOfLabel 11 = .ok (.aload_n 0, 1) := by decide +kernel
theorem d_Nd_placeOfLabel_12 : decode b_Nd_placeOfLabel 12 = .ok (.getfield 7, 3) := by decide +kernel
theorem d_Nd_placeOfLabel_15 : decode b_Nd_placeOfLabel 15 = .ok (.iload_n 2, 1) := by decide +kernel
theorem d_Nd_placeOfLabel_16 : decode b_Nd_placeOfLabel 16 = .ok (.iaload, 1) := by decide +kernel
theorem d_Nd_placeOfLabel_17 : decode b_Nd_placeOfLabel 17 = .ok (.iload_n 1, 1) := by decide +kernel
theorem d_Nd_placeOfLabel_18 : decode b_Nd_placeOfLabel 18 = .ok (.if_icmp .eq 9, 3) := by decide +kernel
theorem d_Nd_placeOfLabel_21 : decode b_Nd_placeOfLabel 21 = .ok (.iinc 2 1, 3) := by decide +kernel
theorem d_Nd_placeOfLabel_24 : decode b_Nd_placeOfLabel 24 = .ok (.goto (-22), 3) := by decide +kernel
theorem d_Nd_placeOfLabel_27 : decode b_Nd_placeOfLabel 27 = .ok (.iload_n 2, 1) := by decide +kernel
theorem d_Nd_placeOfLabel_28 : decode b_Nd_placeOfLabel 28 = .ok (.ireturn, 1) := by decide +kernel
/-! the instructions of Lk -/
theorem d_Lk_init_0 : decode b_Lk_init 0 = .ok (.aload_n 0, 1) := by decide +kernel
theorem d_Lk_init_1 : decode b_Lk_init 1 = .ok (.aload 4, 2) := by decide +kernel
theorem d_Lk_init_3 : decode b_Lk_init 3 = .ok (.invokespecial 1, 3) := by decide +kernel
theorem d_Lk_init_6 : decode b_Lk_init 6 = .ok (.aload_n 0, 1) := by decide +kernel
theorem d_Lk_init_7 : decode b_Lk_init 7 = .ok (.iload_n 1, 1) := by decide +kernel
theorem d_Lk_init_8 : decode b_Lk_init 8 = .ok (.putfield 7, 3) := by decide +kernel
theorem d_Lk_init_11 : decode b_Lk_init 11 = .ok (.aload_n 0, 1) := by decide +kernel
theorem d_Lk_init_12 : decode b_Lk_init 12 = .ok (.iload_n 2, 1) := by decide +kernel
theorem d_Lk_init_13 : decode b_Lk_init 13 = .ok (.putfield 13, 3) := by decide +kernel
theorem d_Lk_init_16 : decode b_Lk_init 16 = .ok (.aload_n 0, 1) := by decide +kernel
theorem d_Lk_init_17 : decode b_Lk_init 17 = .ok (.iload_n 3, 1) := by decide +kernel
theorem d_Lk_init_18 : decode b_Lk_init 18 = .ok (.putfield 16, 3) := by decide +kernel
theorem d_Lk_init_21 : decode b_Lk_init 21 = .ok (.return_, 1) := by decide +kernel
/-! the instructions of Tp -/
theorem d_Tp_init_0 : decode b_Tp_init 0 = .ok (.aload_n 0, 1) := by decide +kernel
theorem d_Tp_init_1 : decode b_Tp_init 1 = .ok (.invokespecial 3, 3) := by decide +kernel
theorem d_Tp_init_4 : decode b_Tp_init 4 = .ok (.aload_n 0, 1) := by decide +kernel
theorem d_Tp_init_5 : decode b_Tp_init 5 = .ok (.bipush 24, 2) := by decide +kernel
theorem d_Tp_init_7 : decode b_Tp_init 7 = .ok (.newarray .byte, 2) := by decide +kernel
theorem d_Tp_init_9 : decode b_Tp_init 9 = .ok (.putfield 9, 3) := by decide +kernel
theorem d_Tp_init_12 : decode b_Tp_init 12 = .ok (.return_, 1) := by decide +kernel
theorem d_Tp_append_0 : decode b_Tp_append 0 = .ok (.iload_n 3, 1) := by decide +kernel
theorem d_Tp_append_1 : decode b_Tp_append 1 = .ok (.iconst 1, 1) := by decide +kernel
theorem d_Tp_append_2 : decode b_Tp_append 2 = .ok (.if_icmp .lt 23, 3) := by decide +kernel
theorem d_Tp_append_5 : decode b_Tp_append 5 = .ok (.iload_n 3, 1) := by decide +kernel
theorem d_Tp_append_6 : decode b_Tp_append 6 = .ok (.bipush 8, 2) := by decide +kernel
theorem d_Tp_append_8 : decode b_Tp_append 8 = .ok (.if_icmp .gt 17, 3) := by decide +kernel
theorem d_Tp_append_11 : decode b_Tp_append 11 = .ok (.aload_n 0, 1) := by decide +kernel
theorem d_Tp_append_12 : decode b_Tp_append 12 = .ok (.getfield 15, 3) := by decide +kernel
theorem d_Tp_append_15 : decode b_Tp_append 15 = .ok (.iload_n 3, 1) := by decide +kernel
theorem d_Tp_append_16 : decode b_Tp_append 16 = .ok (.iadd, 1) := by decide +kernel
theorem d_Tp_append_17 : decode b_Tp_append 17 = .ok (.aload_n 0, 1) := by decide +kernel
theorem d_Tp_append_18 : decode b_Tp_append 18 = .ok (.getfield 9, 3) := by decide +kernel
theorem d_Tp_append_21 : decode b_Tp_append 21 = .ok (.arraylength, 1) := by decide +kernel
theorem d_Tp_append_22 : decode b_Tp_append 22 = .ok (.if_icmp .le 5, 3) := by decide +kernel
theorem d_Tp_append_25 : decode b_Tp_append 25 = .ok (.iconst 0, 1) := by decide +kernel
theorem d_Tp_append_26 : decode b_Tp_append 26 = .ok (.ireturn, 1) := by decide +kernel
theorem d_Tp_append_27 : decode b_Tp_append 27 = .ok (.iconst 0, 1) := by decide +kernel
theorem d_Tp_append_28 : decode b_Tp_append 28 = .ok (.istore 4, 2) := by decide +kernel
theorem d_Tp_append_30 : decode b_Tp_append 30 = .ok (.iload 4, 2) := by decide +kernel
theorem d_Tp_append_32 : decode b_Tp_append 32 = .ok (.iload_n 3, 1) := by decide +kernel
theorem d_Tp_append_33 : decode b_Tp_append 33 = .ok (.if_icmp .ge 33, 3) := by decide +kernel
theorem d_Tp_append_36 : decode b_Tp_append 36 = .ok (.lload_n 1, 1) := by decide +kernel
theorem d_Tp_append_37 : decode b_Tp_append 37 = .ok (.iload 4, 2) := by decide +kernel
theorem d_Tp_append_39 : decode b_Tp_append 39 = .ok (.invokestatic 19, 3) := by decide +kernel
theorem d_Tp_append_42 : decode b_Tp_append 42 = .ok (.bipush 32, 2) := by decide +kernel
theorem d_Tp_append_44 : decode b_Tp_append 44 = .ok (.if_icmp .lt 14, 3) := by decide +kernel
theorem d_Tp_append_47 : decode b_Tp_append 47 = .ok (.lload_n 1, 1) := by decide +kernel
theorem d_Tp_append_48 : decode b_Tp_append 48 = .ok (.iload 4, 2) := by decide +kernel
theorem d_Tp_append_50 : decode b_Tp_append 50 = .ok (.invokestatic 19, 3) := by decide +kernel
theorem d_Tp_append_53 : decode b_Tp_append 53 = .ok (.bipush 126, 2) := by decide +kernel
theorem d_Tp_append_55 : decode b_Tp_append 55 = .ok (.if_icmp .le 5, 3) := by decide +kernel
theorem d_Tp_append_58 : decode b_Tp_append 58 = .ok (.iconst 0, 1) := by decide +kernel
theorem d_Tp_append_59 : decode b_Tp_append 59 = .ok (.ireturn, 1) := by decide +kernel
theorem d_Tp_append_60 : decode b_Tp_append 60 = .ok (.iinc 4 1, 3) := by decide +kernel
theorem d_Tp_append_63 : decode b_Tp_append 63 = .ok (.goto (-33), 3) := by decide +kernel
theorem d_Tp_append_66 : decode b_Tp_append 66 = .ok (.iload_n 3, 1) := by decide +kernel
theorem d_Tp_append_67 : decode b_Tp_append 67 = .ok (.iconst 1, 1) := by decide +kernel
theorem d_Tp_append_68 : decode b_Tp_append 68 = .ok (.isub, 1) := by decide +kernel
theorem d_Tp_append_69 : decode b_Tp_append 69 = .ok (.istore 4, 2) := by decide +kernel
theorem d_Tp_append_71 : decode b_Tp_append 71 = .ok (.iload 4, 2) := by decide +kernel
theorem d_Tp_append_73 : decode b_Tp_append 73 = .ok (.ifCond .lt 35, 3) := by decide +kernel
theorem d_Tp_append_76 : decode b_Tp_append 76 = .ok (.aload_n 0, 1) := by decide +kernel
theorem d_Tp_append_77 : decode b_Tp_append 77 = .ok (.getfield 9, 3) := by decide +kernel
theorem d_Tp_append_80 : decode b_Tp_append 80 = .ok (.aload_n 0, 1) := by decide +kernel
theorem d_Tp_append_81 : decode b_Tp_append 81 = .ok (.getfield 15, 3) := by decide +kernel
theorem d_Tp_append_84 : decode b_Tp_append 84 = .ok (.lload_n 1, 1) := by decide +kernel
theorem d_Tp_append_85 : decode b_Tp_append 85 = .ok (.iload 4, 2) := by decide +kernel
theorem d_Tp_append_87 : decode b_Tp_append 87 = .ok (.invokestatic 19, 3) := by decide +kernel
theorem d_Tp_append_90 : decode b_Tp_append 90 = .ok (.i2b, 1) := by decide +kernel
theorem d_Tp_append_91 : decode b_Tp_append 91 = .ok (.bastore, 1) := by decide +kernel
theorem d_Tp_append_92 : decode b_Tp_append 92 = .ok (.aload_n 0, 1) := by decide +kernel
theorem d_Tp_append_93 : decode b_Tp_append 93 = .ok (.dup, 1) := by decide +kernel
theorem d_Tp_append_94 : decode b_Tp_append 94 = .ok (.getfield 15, 3) := by decide +kernel
theorem d_Tp_append_97 : decode b_Tp_append 97 = .ok (.iconst 1, 1) := by decide +kernel
theorem d_Tp_append_98 : decode b_Tp_append 98 = .ok (.iadd, 1) := by decide +kernel
theorem d_Tp_append_99 : decode b_Tp_append 99 = .ok (.putfield 15, 3) := by decide +kernel
theorem d_Tp_append_102 : decode b_Tp_append 102 = .ok (.iinc 4 (-1), 3) := by decide +kernel
theorem d_Tp_append_105 : decode b_Tp_append 105 = .ok (.goto (-34), 3) := by decide +kernel
theorem d_Tp_append_108 : decode b_Tp_append 108 = .ok (.iconst 1, 1) := by decide +kernel
theorem d_Tp_append_109 : decode b_Tp_append 109 = .ok (.ireturn, 1) := by decide +kernel
theorem d_Tp_pull_0 : decode b_Tp_pull 0 = .ok (.aload_n 0, 1) := by decide +kernel
theorem d_Tp_pull_1 : decode b_Tp_pull 1 = .ok (.getfield 15, 3) := by decide +kernel
theorem d_Tp_pull_4 : decode b_Tp_pull 4 = .ok (.newarray .byte, 2) := by decide +kernel
theorem d_Tp_pull_6 : decode b_Tp_pull 6 = .ok (.astore_n 1, 1) := by decide +kernel
theorem d_Tp_pull_7 : decode b_Tp_pull 7 = .ok (.iconst 0, 1) := by decide +kernel
theorem d_Tp_pull_8 : decode b_Tp_pull 8 = .ok (.istore_n 2, 1) := by decide +kernel
theorem d_Tp_pull_9 : decode b_Tp_pull 9 = .ok (.iload_n 2, 1) := by decide +kernel
theorem d_Tp_pull_10 : decode b_Tp_pull 10 = .ok (.aload_n 0, 1) := by decide +kernel
theorem d_Tp_pull_11 : decode b_Tp_pull 11 = .ok (.getfield 15, 3) := by decide +kernel
theorem d_Tp_pull_14 : decode b_Tp_pull 14 = .ok (.if_icmp .ge 18, 3) := by decide +kernel
theorem d_Tp_pull_17 : decode b_Tp_pull 17 = .ok (.aload_n 1, 1) := by decide +kernel
theorem d_Tp_pull_18 : decode b_Tp_pull 18 = .ok (.iload_n 2, 1) := by decide +kernel
theorem d_Tp_pull_19 : decode b_Tp_pull 19 = .ok (.aload_n 0, 1) := by decide +kernel
theorem d_Tp_pull_20 : decode b_Tp_pull 20 = .ok (.getfield 9, 3) := by decide +kernel
theorem d_Tp_pull_23 : decode b_Tp_pull 23 = .ok (.iload_n 2, 1) := by decide +kernel
theorem d_Tp_pull_24 : decode b_Tp_pull 24 = .ok (.baload, 1) := by decide +kernel
theorem d_Tp_pull_25 : decode b_Tp_pull 25 = .ok (.bastore, 1) := by decide +kernel
theorem d_Tp_pull_26 : decode b_Tp_pull 26 = .ok (.iinc 2 1, 3) := by decide +kernel
theorem d_Tp_pull_29 : decode b_Tp_pull 29 = .ok (.goto (-20), 3) := by decide +kernel
theorem d_Tp_pull_32 : decode b_Tp_pull 32 = .ok (.aload_n 0, 1) := by decide +kernel
theorem d_Tp_pull_33 : decode b_Tp_pull 33 = .ok (.iconst 0, 1) := by decide +kernel
theorem d_Tp_pull_34 : decode b_Tp_pull 34 = .ok (.putfield 15, 3) := by decide +kernel
theorem d_Tp_pull_37 : decode b_Tp_pull 37 = .ok (.aload_n 1, 1) := by decide +kernel
theorem d_Tp_pull_38 : decode b_Tp_pull 38 = .ok (.areturn, 1) := by decide +kernel
theorem d_Tp_byteOf_0 : decode b_Tp_byteOf 0 = .ok (.lload_n 0, 1) := by decide +kernel
theorem d_Tp_byteOf_1 : decode b_Tp_byteOf 1 = .ok (.bipush 8, 2) := by decide +kernel
theorem d_Tp_byteOf_3 : decode b_Tp_byteOf 3 = .ok (.iload_n 2, 1) := by decide +kernel
theorem d_Tp_byteOf_4 : decode b_Tp_byteOf 4 = .ok (.imul, 1) := by decide +kernel
theorem d_Tp_byteOf_5 : decode b_Tp_byteOf 5 = .ok (.lushr, 1) := by decide +kernel
theorem d_Tp_byteOf_6 : decode b_Tp_byteOf 6 = .ok (.l2i, 1) := by decide +kernel
theorem d_Tp_byteOf_7 : decode b_Tp_byteOf 7 = .ok (.sipush 255, 3) := by decide +kernel
theorem d_Tp_byteOf_10 : decode b_Tp_byteOf 10 = .ok (.iand, 1) := by decide +kernel
theorem d_Tp_byteOf_11 : decode b_Tp_byteOf 11 = .ok (.ireturn, 1) := by decide +kernel
end
section
/-! THE WORLD AS A FUNCTION: what lies at an address; one world for all that a run holds; no cutting out, no joining. -/
abbrev hv_W : Type := Nat → Option va_E
def hv_P (D : va_G) (cl : List vw_C) (lo : Nat) (w : hv_W) (H : Heap) : Prop := ∀ (a : Nat) (e : va_E), w a = some e → lo ≤ a ∧ va_at D cl (a, e) H
abbrev hv_A (lo : Nat) : Nat → Prop := fun q => lo ≤ q
theorem hv_up_s {w : hv_W} {a : Nat} {e : va_E} : va_up w a (some e) a = some e := by simp [va_up]
theorem hv_up_n {w : hv_W} {a b : Nat} {e : va_E} (h : b ≠ a) : va_up w a (some e) b = w b := by simp [va_up, h]
theorem hv_up_k {w : hv_W} {a b : Nat} {e f : va_E} (hb : w b = some f) (h : b ≠ a) : va_up w a (some e) b = some f := by rw [hv_up_n h]; exact hb
/-- new at a: what was known is known -/
theorem hv_up_f {w : hv_W} {a b : Nat} {e f : va_E} (ha : w a = none) (hb : w b = some f) : va_up w a (some e) b = some f := hv_up_k hb (fun z => by rw [z, ha] at hb; cases hb)
theorem hv_ne_f {w : hv_W} {a b : Nat} {f : va_E} (ha : w a = none) (hb : w b = some f) : b ≠ a := fun z => by rw [z, ha] at hb; cases hb
/-- the kind of a cell, by what it holds -/
def hv_tag : va_E → Nat
  | .inr o => o.1
  | .inl a => match a.2.2 with
    | .inl _ => 100
    | .inr (.inl _) => 101
    | .inr (.inr (.inl _)) => 102
    | .inr (.inr (.inr (.inl _))) => 103
    | .inr (.inr (.inr (.inr _))) => 104
theorem hv_ne {w : hv_W} {a b : Nat} {e f : va_E} (ha : w a = some e) (hb : w b = some f) (h : hv_tag e ≠ hv_tag f) : a ≠ b := fun z => by
  subst z
  rw [ha] at hb
  cases hb
  exact h rfl
theorem hv_sl (g : Nat → Option va_E) : ∀ l : List Nat, List.Sublist ((l.filterMap (fun a => (g a).map (fun e => (a, e)))).map (fun x => x.1)) l
  | [] => List.Sublist.slnil
  | a :: l => by
    cases h : g a with
    | none => simp only [List.filterMap_cons, h, Option.map_none]; exact (hv_sl g l).cons a
    | some e => simp only [List.filterMap_cons, h, Option.map_some, List.map_cons]; exact (hv_sl g l).cons₂ a
theorem hv_list {D : va_G} {cl : List vw_C} {lo : Nat} {w : hv_W} {H : Heap} (h : hv_P D cl lo w H) : ∃ ws : va_W, va_P D cl ws H ∧ va_D (hv_A lo) ws ∧ (∀ (a : Nat) (e : va_E), w a = some e → ∃ k : Nat, ws[k]? = some (a, e)) ∧ ∀ (k a : Nat) (e : va_E), ws[k]? = some (a, e) → w a = some e := by
  have hin : ∀ (k a : Nat) (e : va_E), ((List.range H.size).filterMap (fun a => (w a).map (fun e => (a, e))))[k]? = some (a, e) → w a = some e := by
    intro k a e hk
    obtain ⟨b, -, hb⟩ := List.mem_filterMap.mp (List.mem_of_getElem? hk)
    cases hw : w b with
    | none => rw [hw] at hb; cases hb
    | some e' => rw [hw] at hb; cases hb; exact hw
  refine ⟨(List.range H.size).filterMap (fun a => (w a).map (fun e => (a, e))), fun k q hk => ?_, ⟨fun i j p q hi hj hpq => ?_, fun k q hk => ?_⟩, fun a e ha => ?_, hin⟩
  · exact (h q.1 q.2 (hin k q.1 q.2 hk)).2
  · have hnd : (((List.range H.size).filterMap (fun a => (w a).map (fun e => (a, e)))).map (fun x => x.1)).Nodup := (hv_sl w _).nodup List.nodup_range
    have h1 : (((List.range H.size).filterMap (fun a => (w a).map (fun e => (a, e)))).map (fun x => x.1))[i]? = some p.1 := by rw [List.getElem?_map, hi]; rfl
    have h2 : (((List.range H.size).filterMap (fun a => (w a).map (fun e => (a, e)))).map (fun x => x.1))[j]? = some p.1 := by rw [List.getElem?_map, hj, hpq]; rfl
    exact (List.getElem?_inj (List.getElem?_eq_some_iff.mp h1).1 hnd).mp (h1.trans h2.symm)
  · exact (h q.1 q.2 (hin k q.1 q.2 hk)).1
  · have hlt : a < H.size := (h a e ha).2.lt
    exact List.getElem?_of_mem (List.mem_filterMap.mpr ⟨a, List.mem_range.mpr hlt, by rw [ha]; rfl⟩)
theorem hv_set {D : va_G} {cl : List vw_C} {lo : Nat} {w : hv_W} {H H1 : Heap} {ws : va_W} {k a : Nat} {e0 e : va_E} (hP : hv_P D cl lo w H) (h3 : ∀ (a : Nat) (e : va_E), w a = some e → ∃ k : Nat, ws[k]? = some (a, e)) (hk : ws[k]? = some (a, e0)) (ha : w a = some e0) (g : va_P D cl (ws.set k (a, e)) H1) : hv_P D cl lo (va_up w a (some e)) H1 := by
  have hl := (List.getElem?_eq_some_iff.mp hk).1
  intro b f hb
  by_cases hba : b = a
  · subst hba
    rw [hv_up_s] at hb
    cases hb
    exact ⟨(hP b e0 ha).1, g k _ (List.getElem?_set_self hl)⟩
  · rw [hv_up_n hba] at hb
    obtain ⟨j, hj⟩ := h3 b f hb
    have hjk : j ≠ k := fun z => by
      subst z
      rw [hk] at hj
      cases hj
      exact hba rfl
    exact ⟨(hP b f hb).1, g j _ (by rw [List.getElem?_set_ne (Ne.symm hjk)]; exact hj)⟩
theorem hv_push {D : va_G} {cl : List vw_C} {lo : Nat} {w : hv_W} {H H1 : Heap} {ws : va_W} {q : Nat} {e : va_E} (hP : hv_P D cl lo w H) (h3 : ∀ (a : Nat) (e : va_E), w a = some e → ∃ k : Nat, ws[k]? = some (a, e)) (hD : va_D (hv_A lo) (ws ++ [(q, e)])) (g : va_P D cl (ws ++ [(q, e)]) H1) : hv_P D cl lo (va_up w q (some e)) H1 ∧ w q = none := by
  have hlast : (ws ++ [(q, e)])[ws.length]? = some (q, e) := by rw [List.getElem?_append_right (Nat.le_refl _), Nat.sub_self]; rfl
  have hold : ∀ (b : Nat) (f : va_E), w b = some f → ∃ j : Nat, j < ws.length ∧ (ws ++ [(q, e)])[j]? = some (b, f) := fun b f hb => by
    obtain ⟨j, hj⟩ := h3 b f hb
    have hl := (List.getElem?_eq_some_iff.mp hj).1
    exact ⟨j, hl, by rw [List.getElem?_append_left hl]; exact hj⟩
  refine ⟨fun b f hb => ?_, ?_⟩
  · by_cases hba : b = q
    · subst hba
      rw [hv_up_s] at hb
      cases hb
      exact ⟨hD.2 _ _ hlast, g _ _ hlast⟩
    · rw [hv_up_n hba] at hb
      obtain ⟨j, -, hj⟩ := hold b f hb
      exact ⟨(hP b f hb).1, g j _ hj⟩
  · cases hw : w q with
    | none => rfl
    | some f =>
      obtain ⟨j, hl, hj⟩ := hold q f hw
      have := hD.1 _ _ _ _ hj hlast rfl
      omega
theorem hv_one {D : va_G} {cl : List vw_C} {lo : Nat} {w : hv_W} {H : Heap} {a : Nat} {e : va_E} (h : hv_P D cl lo w H) (ha : w a = some e) : va_P D cl [(a, e)] H := by
  intro k q hk
  have hz : k < 1 := (List.getElem?_eq_some_iff.mp hk).1
  rw [show k = 0 by omega] at hk
  cases hk
  exact (h a e ha).2
theorem hv_lt {D : va_G} {cl : List vw_C} {lo : Nat} {w : hv_W} {H : Heap} {a : Nat} {e : va_E} (h : hv_P D cl lo w H) (ha : w a = some e) : a < H.size := (h a e ha).2.lt
theorem hv_RA1 {U : State} {c1 c2 : ClassId} {ty : FieldType} (h1 : va_RA U c1 ty) (h2 : va_RA U c2 ty) : c1 = c2 := by
  cases ty with
  | object C =>
    obtain ⟨_, _, -, -, -, a4⟩ := h1
    obtain ⟨_, _, -, -, -, b4⟩ := h2
    exact Option.some.inj (a4.symm.trans b4)
  | _ => exact Option.some.inj (Eq.trans (Eq.symm h1) h2)
section HVROWS
variable {p : Program} {l : Launch} {e : Env} {R : Room} {s : State} {m : MethodId} {args : Array Value} {below : List Frame} {meth : Method} {c : Code} {H : Heap} {locs : List Loc} {cells slots : Nat} {Q : State → Prop}
variable {cc : ByteArray} {pc : Nat} {ls : Array Slot} {rest : List Value} {D : va_G} {cl : List vw_C} {lo : Nat} {a : Nat} {tys : List (ClassId × FieldType)} {w : hv_W} {H0 : Heap}
theorem hv_put (hexec : p.tables.exec = Jvm.exec) (hb : c.code = cc) {own ref C : String} {T : u_T} {N ci index : Nat} {Ts : List Cond} (hts : ∀ w ∈ Ts, w.before args s = true) (hin : ∀ w ∈ u_ws C T N, w ∈ Ts) (ty0 : Nat → FieldType) (hty : ∀ k, k < N → parseFieldDescriptor (T k).2.2.1 = some (ty0 k)) (hnm : ∀ a, a < N → ∀ b, b < N → a ≠ b → (T a).2.1 ≠ (T b).2.1) (hown : s.vm.findClass own = some m.cls) (hK : va_K D cl tys s) (hP : hv_P D cl lo w H) (hS0 : va_S (hv_A lo) H0 H locs) {fs : List Value} (he : w a = some (.inr (ci, fs))) (hc : cl[ci]? = some (C, T, N)) (k : Nat) (hk : k < N) (hlink : (Cond.fieldLink own index ref (T k).2.1 (T k).2.2.1).before args s = true) (hsame : ∀ x, s.fieldFound? (T k).1 (T k).2.1 (T k).2.2.1 = some x → s.fieldFound? ref (T k).2.1 (T k).2.2.1 = some x) (hfin : (T k).2.2.2 = false) {ty : FieldType} {v : Value} (hd : parseFieldDescriptor (T k).2.2.1 = some ty) (hn : narrow ty v = v) (hfit : fits ty v = true) (hl : k < fs.length)
    (hdg : decode cc pc = .ok (.putfield index, 3)) (kk : ∀ (H1 : Heap) (locs1 : List Loc), hv_P D cl lo (va_up w a (some (.inr (ci, fs.set k v)))) H1 → va_S (hv_A lo) H0 H1 locs1 → W p l e R s m args below meth c H1 locs1 cells slots Q (F0 m (pc + 3) ls rest)) : W p l e R s m args below meth c H locs cells slots Q (F0 m pc ls (v :: .ref a :: rest)) := by
  obtain ⟨ws, g1, g2, g3, -⟩ := hv_list hP
  obtain ⟨q0, hq⟩ := g3 _ _ he
  exact va_put hexec hb hts hin ty0 hty hnm hown hK g1 g2 hS0 q0 hq hc k hk hlink hsame hfin hd hn hfit hl hdg fun H1 locs1 r1 _ r3 => kk H1 locs1 (hv_set hP g3 hq he r1) r3
theorem hv_putF (hexec : p.tables.exec = Jvm.exec) (hb : c.code = cc) {own ref C : String} {T : u_T} {N ci index : Nat} {Ts : List Cond} (hts : ∀ w ∈ Ts, w.before args s = true) (hin : ∀ w ∈ u_ws C T N, w ∈ Ts) (ty0 : Nat → FieldType) (hty : ∀ k, k < N → parseFieldDescriptor (T k).2.2.1 = some (ty0 k)) (hnm : ∀ a, a < N → ∀ b, b < N → a ≠ b → (T a).2.1 ≠ (T b).2.1) (hown : s.vm.findClass own = some m.cls) (hK : va_K D cl tys s) (hP : hv_P D cl lo w H) (hS0 : va_S (hv_A lo) H0 H locs) {fs : List Value} (he : w a = some (.inr (ci, fs))) (hc : cl[ci]? = some (C, T, N)) (k : Nat) (hk : k < N) (hlink : (Cond.fieldLink own index ref (T k).2.1 (T k).2.2.1).before args s = true) (hsame : ∀ x, s.fieldFound? (T k).1 (T k).2.1 (T k).2.2.1 = some x → s.fieldFound? ref (T k).2.1 (T k).2.2.1 = some x) (hfin : (T k).2.2.2 = true) (hin2 : meth.name = "<init>") (hdecl : (T k).1 = own) {ty : FieldType} {v : Value} (hd : parseFieldDescriptor (T k).2.2.1 = some ty) (hn : narrow ty v = v) (hfit : fits ty v = true) (hl : k < fs.length)
    (hdg : decode cc pc = .ok (.putfield index, 3)) (kk : ∀ (H1 : Heap) (locs1 : List Loc), hv_P D cl lo (va_up w a (some (.inr (ci, fs.set k v)))) H1 → va_S (hv_A lo) H0 H1 locs1 → W p l e R s m args below meth c H1 locs1 cells slots Q (F0 m (pc + 3) ls rest)) : W p l e R s m args below meth c H locs cells slots Q (F0 m pc ls (v :: .ref a :: rest)) := by
  obtain ⟨ws, g1, g2, g3, -⟩ := hv_list hP
  obtain ⟨q0, hq⟩ := g3 _ _ he
  exact va_putF hexec hb hts hin ty0 hty hnm hown hK g1 g2 hS0 q0 hq hc k hk hlink hsame hfin hin2 hdecl hd hn hfit hl hdg fun H1 locs1 r1 _ r3 => kk H1 locs1 (hv_set hP g3 hq he r1) r3
theorem hv_putN (hexec : p.tables.exec = Jvm.exec) (hb : c.code = cc) {own ref C host : String} {T : u_T} {N ci index : Nat} {Ts : List Cond} (hts : ∀ w ∈ Ts, w.before args s = true) (hin : ∀ w ∈ u_ws C T N, w ∈ Ts) (ty0 : Nat → FieldType) (hty : ∀ k, k < N → parseFieldDescriptor (T k).2.2.1 = some (ty0 k)) (hnm : ∀ a, a < N → ∀ b, b < N → a ≠ b → (T a).2.1 ≠ (T b).2.1) (hown : s.vm.findClass own = some m.cls) (hK : va_K D cl tys s) (hP : hv_P D cl lo w H) (hS0 : va_S (hv_A lo) H0 H locs) {fs : List Value} (he : w a = some (.inr (ci, fs))) (hc : cl[ci]? = some (C, T, N)) (k : Nat) (hk : k < N) (hlink : (Cond.fieldLinkNest own index ref (T k).2.1 (T k).2.2.1 host).before args s = true) (hsame : ∀ x, s.fieldFound? (T k).1 (T k).2.1 (T k).2.2.1 = some x → s.fieldFound? ref (T k).2.1 (T k).2.2.1 = some x) (hfin : (T k).2.2.2 = false) {ty : FieldType} {v : Value} (hd : parseFieldDescriptor (T k).2.2.1 = some ty) (hn : narrow ty v = v) (hfit : fits ty v = true) (hl : k < fs.length)
    (hdg : decode cc pc = .ok (.putfield index, 3)) (kk : ∀ (H1 : Heap) (locs1 : List Loc), hv_P D cl lo (va_up w a (some (.inr (ci, fs.set k v)))) H1 → va_S (hv_A lo) H0 H1 locs1 → W p l e R s m args below meth c H1 locs1 cells slots Q (F0 m (pc + 3) ls rest)) : W p l e R s m args below meth c H locs cells slots Q (F0 m pc ls (v :: .ref a :: rest)) := by
  obtain ⟨ws, g1, g2, g3, -⟩ := hv_list hP
  obtain ⟨q0, hq⟩ := g3 _ _ he
  exact va_putN hexec hb hts hin ty0 hty hnm hown hK g1 g2 hS0 q0 hq hc k hk hlink hsame hfin hd hn hfit hl hdg fun H1 locs1 r1 _ r3 => kk H1 locs1 (hv_set hP g3 hq he r1) r3
theorem hv_iast (hexec : p.tables.exec = Jvm.exec) (hb : c.code = cc) (hK : va_K D cl tys s) (hP : hv_P D cl lo w H) (hS : va_S (hv_A lo) H0 H locs) (t0 : Nat) {cA : ClassId} {n : Nat} {f : Nat → Int32} (ha : w a = some (.inl (cA, n, .inl f))) (ht : tys[t0]? = some (cA, .int)) {i : Int32} {x : Int32} (hin : vp_in i n) (hdg : decode cc pc = .ok (.iastore, 1))
    (kk : ∀ (H1 : Heap) (locs1 : List Loc), hv_P D cl lo (va_up w a (some (.inl (cA, n, .inl (upd f i.toNatClampNeg x))))) H1 → va_S (hv_A lo) H0 H1 locs1 → W p l e R s m args below meth c H1 locs1 cells slots Q (F0 m (pc + 1) ls rest)) : W p l e R s m args below meth c H locs cells slots Q (F0 m pc ls (.int x :: .int i :: .ref a :: rest)) := by
  obtain ⟨ws, g1, g2, g3, -⟩ := hv_list hP
  obtain ⟨q0, hq⟩ := g3 _ _ ha
  exact va_iast hexec hb hK g1 g2 hS q0 t0 hq ht hin hdg fun H1 locs1 r1 _ r3 => kk H1 locs1 (hv_set hP g3 hq ha r1) r3
theorem hv_bast (hexec : p.tables.exec = Jvm.exec) (hb : c.code = cc) (hK : va_K D cl tys s) (hP : hv_P D cl lo w H) (hS : va_S (hv_A lo) H0 H locs) (t0 : Nat) {cA : ClassId} {n : Nat} {f : Nat → Int32} (ha : w a = some (.inl (cA, n, .inl f))) (ht : tys[t0]? = some (cA, .byte)) {i : Int32} {x : Int32} (hin : vp_in i n) (hdg : decode cc pc = .ok (.bastore, 1))
    (kk : ∀ (H1 : Heap) (locs1 : List Loc), hv_P D cl lo (va_up w a (some (.inl (cA, n, .inl (upd f i.toNatClampNeg (vp_nar .byte x)))))) H1 → va_S (hv_A lo) H0 H1 locs1 → W p l e R s m args below meth c H1 locs1 cells slots Q (F0 m (pc + 1) ls rest)) : W p l e R s m args below meth c H locs cells slots Q (F0 m pc ls (.int x :: .int i :: .ref a :: rest)) := by
  obtain ⟨ws, g1, g2, g3, -⟩ := hv_list hP
  obtain ⟨q0, hq⟩ := g3 _ _ ha
  exact va_bast hexec hb hK g1 g2 hS q0 t0 hq ht hin hdg fun H1 locs1 r1 _ r3 => kk H1 locs1 (hv_set hP g3 hq ha r1) r3
theorem hv_zast (hexec : p.tables.exec = Jvm.exec) (hb : c.code = cc) (hK : va_K D cl tys s) (hP : hv_P D cl lo w H) (hS : va_S (hv_A lo) H0 H locs) (t0 : Nat) {cA : ClassId} {n : Nat} {f : Nat → Int32} (ha : w a = some (.inl (cA, n, .inl f))) (ht : tys[t0]? = some (cA, .boolean)) {i : Int32} {x : Int32} (hin : vp_in i n) (hdg : decode cc pc = .ok (.bastore, 1))
    (kk : ∀ (H1 : Heap) (locs1 : List Loc), hv_P D cl lo (va_up w a (some (.inl (cA, n, .inl (upd f i.toNatClampNeg (vp_nar .boolean x)))))) H1 → va_S (hv_A lo) H0 H1 locs1 → W p l e R s m args below meth c H1 locs1 cells slots Q (F0 m (pc + 1) ls rest)) : W p l e R s m args below meth c H locs cells slots Q (F0 m pc ls (.int x :: .int i :: .ref a :: rest)) := by
  obtain ⟨ws, g1, g2, g3, -⟩ := hv_list hP
  obtain ⟨q0, hq⟩ := g3 _ _ ha
  exact va_zast hexec hb hK g1 g2 hS q0 t0 hq ht hin hdg fun H1 locs1 r1 _ r3 => kk H1 locs1 (hv_set hP g3 hq ha r1) r3
theorem hv_last (hexec : p.tables.exec = Jvm.exec) (hb : c.code = cc) (hK : va_K D cl tys s) (hP : hv_P D cl lo w H) (hS : va_S (hv_A lo) H0 H locs) (t0 : Nat) {cA : ClassId} {n : Nat} {f : Nat → Int64} (ha : w a = some (.inl (cA, n, .inr (.inl f)))) (ht : tys[t0]? = some (cA, .long)) {i : Int32} {x : Int64} (hin : vp_in i n) (hdg : decode cc pc = .ok (.lastore, 1))
    (kk : ∀ (H1 : Heap) (locs1 : List Loc), hv_P D cl lo (va_up w a (some (.inl (cA, n, .inr (.inl (vp_updL f i.toNatClampNeg x)))))) H1 → va_S (hv_A lo) H0 H1 locs1 → W p l e R s m args below meth c H1 locs1 cells slots Q (F0 m (pc + 1) ls rest)) : W p l e R s m args below meth c H locs cells slots Q (F0 m pc ls (.long x :: .int i :: .ref a :: rest)) := by
  obtain ⟨ws, g1, g2, g3, -⟩ := hv_list hP
  obtain ⟨q0, hq⟩ := g3 _ _ ha
  exact va_last hexec hb hK g1 g2 hS q0 t0 hq ht hin hdg fun H1 locs1 r1 _ r3 => kk H1 locs1 (hv_set hP g3 hq ha r1) r3
theorem hv_astq (hexec : p.tables.exec = Jvm.exec) (hb : c.code = cc) (hK : va_K D cl tys s) (hP : hv_P D cl lo w H) (hS : va_S (hv_A lo) H0 H locs) (t0 ci : Nat) {cA : ClassId} {r : vw_C} {n v : Nat} {vs : List Value} {f : Nat → Option Nat} (ha : w a = some (.inl (cA, n, .inr (.inr (.inr (.inr f)))))) (ht : tys[t0]? = some (cA, .object r.1)) (hv : w v = some (.inr (ci, vs))) (hc : cl[ci]? = some r) {i : Int32} (hin : vp_in i n) (hdg : decode cc pc = .ok (.aastore, 1))
    (kk : ∀ (H1 : Heap) (locs1 : List Loc), hv_P D cl lo (va_up w a (some (.inl (cA, n, .inr (.inr (.inr (.inr (va_up f i.toNatClampNeg (some v))))))))) H1 → va_S (hv_A lo) H0 H1 locs1 → W p l e R s m args below meth c H1 locs1 cells slots Q (F0 m (pc + 1) ls rest)) : W p l e R s m args below meth c H locs cells slots Q (F0 m pc ls (.ref v :: .int i :: .ref a :: rest)) := by
  obtain ⟨ws, g1, g2, g3, -⟩ := hv_list hP
  obtain ⟨q0, hq⟩ := g3 _ _ ha
  obtain ⟨qk, hqk⟩ := g3 _ _ hv
  exact va_astq hexec hb hK g1 g2 hS q0 t0 qk ci hq ht hqk hc hin hdg fun H1 locs1 r1 _ r3 => kk H1 locs1 (hv_set hP g3 hq ha r1) r3
theorem hv_astqN (hexec : p.tables.exec = Jvm.exec) (hb : c.code = cc) (hK : va_K D cl tys s) (hP : hv_P D cl lo w H) (hS : va_S (hv_A lo) H0 H locs) (t0 : Nat) {cA : ClassId} {C : String} {n : Nat} {f : Nat → Option Nat} (ha : w a = some (.inl (cA, n, .inr (.inr (.inr (.inr f)))))) (ht : tys[t0]? = some (cA, .object C)) {i : Int32} (hin : vp_in i n) (hdg : decode cc pc = .ok (.aastore, 1))
    (kk : ∀ (H1 : Heap) (locs1 : List Loc), hv_P D cl lo (va_up w a (some (.inl (cA, n, .inr (.inr (.inr (.inr (va_up f i.toNatClampNeg none)))))))) H1 → va_S (hv_A lo) H0 H1 locs1 → W p l e R s m args below meth c H1 locs1 cells slots Q (F0 m (pc + 1) ls rest)) : W p l e R s m args below meth c H locs cells slots Q (F0 m pc ls (.null :: .int i :: .ref a :: rest)) := by
  obtain ⟨ws, g1, g2, g3, -⟩ := hv_list hP
  obtain ⟨q0, hq⟩ := g3 _ _ ha
  exact va_astqN hexec hb hK g1 g2 hS q0 t0 hq ht hin hdg fun H1 locs1 r1 _ r3 => kk H1 locs1 (hv_set hP g3 hq ha r1) r3
theorem hv_new (hexec : p.tables.exec = Jvm.exec) (hb : c.code = cc) {own C : String} {T : u_T} {N ci index : Nat} {Ts : List Cond} (hts : ∀ w ∈ Ts, w.before args s = true) (hin : ∀ w ∈ u_ws C T N, w ∈ Ts) (ty : Nat → FieldType) (hty : ∀ k, k < N → parseFieldDescriptor (T k).2.2.1 = some (ty k)) (hown : s.vm.findClass own = some m.cls) (hcl : (Cond.classLink own index C).before args s = true) (hinst : (Cond.instantiable C N).before args s = true) (hini : (Cond.initialized C).before args s = true)
    (hK : va_K D cl tys s) (hP : hv_P D cl lo w H) (hS : va_S (hv_A lo) H0 H locs) (hA : lo ≤ H0.size) (hc : cl[ci]? = some (C, T, N)) {fs : List Value} (hfs : ∀ j, j < N → defaultValue (ty j) = vp_V fs j) (hcells : cells + 1 ≤ R.cells) (hslots : slots + N ≤ R.slots) (hdg : decode cc pc = .ok (.new index, 3))
    (kk : ∀ (q : Nat) (H1 : Heap), w q = none → hv_P D cl lo (va_up w q (some (.inr (ci, fs)))) H1 → va_S (hv_A lo) H0 H1 locs →
      W p l e R s m args below meth c H1 locs (cells + 1) (slots + N) Q (F0 m (pc + 3) ls (.ref q :: rest))) : W p l e R s m args below meth c H locs cells slots Q (F0 m pc ls rest) := by
  obtain ⟨ws, g1, g2, g3, -⟩ := hv_list hP
  exact va_new hexec hb hts hin ty hty hown hcl hinst hini hK g1 g2 hS (fun q h => Nat.le_trans hA h) hc hfs hcells hslots hdg fun q H1 r1 r2 r3 => kk q H1 (hv_push hP g3 r2 r1).2 (hv_push hP g3 r2 r1).1 r3
theorem hv_newa (hexec : p.tables.exec = Jvm.exec) (hb : c.code = cc) {atype : ArrayType} (harr : (Cond.arrayClass (newarray.typeOf atype)).before args s = true) {ty : FieldType} (hty : newarray.typeOf atype = ty) (hK : va_K D cl tys s) (hP : hv_P D cl lo w H) (hS : va_S (hv_A lo) H0 H locs) (hA : lo ≤ H0.size) (t0 : Nat) {cA : ClassId} (ht : tys[t0]? = some (cA, ty))
    {n : Int32} {N' : Nat} {a0 : vp_A} (ha : ∀ cA : ClassId, vp_cell cA a0 = arrV cA N' (fun _ => defaultValue ty)) (hn : ¬ n < 0) (hN : n.toNatClampNeg = N') (hbytes : N' * componentBytes ty ≤ 536870912) (hcells : cells + 1 ≤ R.cells) (hslots : slots + N' ≤ R.slots) (hdg : decode cc pc = .ok (.newarray atype, 2))
    (kk : ∀ (q : Nat) (H1 : Heap), w q = none → hv_P D cl lo (va_up w q (some (.inl (cA, a0)))) H1 → va_S (hv_A lo) H0 H1 locs →
      W p l e R s m args below meth c H1 locs (cells + 1) (slots + N') Q (F0 m (pc + 2) ls (.ref q :: rest))) : W p l e R s m args below meth c H locs cells slots Q (F0 m pc ls (.int n :: rest)) := by
  obtain ⟨ws, g1, g2, g3, -⟩ := hv_list hP
  refine va_newa hexec hb harr hty hK g1 g2 hS (fun q h => Nat.le_trans hA h) ha hn hN hbytes hcells hslots hdg fun q cB H1 k1 r1 r2 r3 => ?_
  have e1 : cB = cA := hv_RA1 (k1.2 tys.length (cB, ty) (by rw [List.getElem?_append_right (Nat.le_refl _), Nat.sub_self]; rfl)).2 (hK.2 t0 _ ht).2
  subst e1
  exact kk q H1 (hv_push hP g3 r2 r1).2 (hv_push hP g3 r2 r1).1 r3
theorem hv_newq (hexec : p.tables.exec = Jvm.exec) (hb : c.code = cc) {own C : String} {index : Nat} (hown : s.vm.findClass own = some m.cls) (hclink : (Cond.classLink own index C).before args s = true) (hover : va_AO C s) (hK : va_K D cl tys s) (hP : hv_P D cl lo w H) (hS : va_S (hv_A lo) H0 H locs) (hA : lo ≤ H0.size) (t0 : Nat) {cA : ClassId} (ht : tys[t0]? = some (cA, .object C))
    {n : Int32} {N' : Nat} (hn : ¬ n < 0) (hN : n.toNatClampNeg = N') (hbytes : N' * 4 ≤ 536870912) (hcells : cells + 1 ≤ R.cells) (hslots : slots + N' ≤ R.slots) (hdg : decode cc pc = .ok (.anewarray index, 3))
    (kk : ∀ (q : Nat) (H1 : Heap), w q = none → hv_P D cl lo (va_up w q (some (.inl (cA, N', .inr (.inr (.inr (.inr (fun _ => none)))))))) H1 → va_S (hv_A lo) H0 H1 locs →
      W p l e R s m args below meth c H1 locs (cells + 1) (slots + N') Q (F0 m (pc + 3) ls (.ref q :: rest))) : W p l e R s m args below meth c H locs cells slots Q (F0 m pc ls (.int n :: rest)) := by
  obtain ⟨ws, g1, g2, g3, -⟩ := hv_list hP
  refine va_newq hexec hb hown hclink hover hK g1 g2 hS (fun q h => Nat.le_trans hA h) hn hN hbytes hcells hslots hdg fun q cB H1 k1 r1 r2 r3 => ?_
  have e1 : cB = cA := hv_RA1 (k1.2 tys.length (cB, .object C) (by rw [List.getElem?_append_right (Nat.le_refl _), Nat.sub_self]; rfl)).2 (hK.2 t0 _ ht).2
  subst e1
  exact kk q H1 (hv_push hP g3 r2 r1).2 (hv_push hP g3 r2 r1).1 r3
end HVROWS
end
section
/-! CONTRACTS OF METHODS THAT RETURN OR THROW -/
/-- the frame at an end of either kind -/
def hv_FE (first t : State) (L : List Loc) (k n : Nat) : Prop := first.WarmedH t.vm ∧ first.sameButNew ({ t with vm := first.vm } : State) L k n
def hv_Met (l : Launch) (y : MethodName) (ws : List Cond) (rm : Room) (Pc : Array Value → State → Prop) (Qc : Array Value → State → Outcome → State → Prop) (mc ms : Nat) (free : Addr → Prop) : Prop :=
  MetFree l y (headSpec ws rm) Pc (fun _ _ _ _ _ => True) (fun a st o t => Qc a st o t ∧ ∃ L, hv_FE st t L mc ms ∧ ∀ q ∈ L, free q.base)
/-- the caller behind a call that ended so -/
def hv_aft (g : JFrame) (U : State) (o : Outcome) : State := match o with
  | .returned v => U.setTop { g with pc := g.pc + 3, stack := v.toList ++ g.stack }
  | .threw x => (U.setTop g).pushFrame (.throwing x)
section HVBACK
variable {p : Program} {l : Launch} {e : Env} {R : Room} {s : State} {m : MethodId} {args : Array Value} {below : List Frame} {meth : Method} {c : Code}
theorem hv_back {y : MethodName} {ws : List Cond} {rm : Room} {Pc : Array Value → State → Prop} {Qc : Array Value → State → Outcome → State → Prop} {mc ms maxL : Nat} {free : Addr → Prop}
    (hM : hv_Met l y ws rm Pc Qc mc ms free) (hblind : FrameBlind Pc) (hrc : rm.cells = mc) (hrs : rm.slots = ms) (hfr : rm.frames + 1 ≤ R.frames) (hlo : 8 + (maxL + 11) + rm.locals ≤ R.locals)
    (hws : ∀ w ∈ ws, ∀ (a' : Array Value) (U : State), s.WarmedH U.vm → w.before a' U = true)
    (his : ∀ (U : State) (mk : MethodId), s.WarmedH U.vm → U.methodNamed? y = some mk → ∃ (mY : Method) (cY : Code), U.vm.method? mk = some mY ∧ mY.code = some cY ∧ cY.maxLocals = maxL)
    (hinit : ∀ (a' : Array Value) (U : State), s.WarmedH U.vm → (Cond.initialized y.cls).before a' U = true)
    {U : State} {locs : List Loc} {cells slots : Nat} (X : Stand p l e R s m args below meth c U locs cells slots) {g : JFrame} (hg : g.method = m) (hsize : g.locals.size = c.maxLocals) {ig : Instr} (hdg : decode c.code g.pc = .ok (ig, 3))
    (hWt : 2 * g.monitorRoom + (g.stack.map fun v => v.category).sum ≤ 8) {mk : MethodId} (hn : U.methodNamed? y = some mk) (hc1 : cells + mc ≤ R.cells) (hc2 : slots + ms ≤ R.slots) {a : Array Value} (hp : Pc a U) :
    ∃ (o : Outcome) (t U' : State) (L : List Loc), Stand p l e R s m args below meth c U' (locs ++ L) (cells + mc) (slots + ms) ∧ (∀ q ∈ L, free q.base) ∧ U'.heap = t.heap ∧ U'.vm = t.vm ∧ Qc a (U.calling g mk a) o t ∧
      Steps p.tables e below (doInvoke e (U.setTop g) [] mk a).1 (hv_aft g U' o) := by
  have h : At U g.method c below := by rw [hg]; exact X.here
  obtain ⟨mY, cY, hmY, hcY, hlY⟩ := his U mk X.warmed hn
  obtain ⟨kY, hkY, -⟩ := className_of_methodNamed hn
  have hinitY : kY.init = .initialized := Cond.initialized_spec (findClass_of_methodNamed hn) hkY (hinit a U X.warmed)
  have hroom := X.room_calling (g := g) (R' := rm) (m' := mk) (args' := a) hsize hmY hcY hfr (by rw [hlY]; omega) (by rw [hrc]; exact hc1) (by rw [hrs]; exact hc2)
  have happ : (headSpec ws rm).appliesLoose y e.platform (U.calling g mk a) = true := Spec.appliesLoose_calling (g := g) h hdg hn hkY hinitY hroom (atoms_intro fun w hw => hws w hw _ _ X.warmed)
  obtain ⟨mid, hmid⟩ := h.above
  have hfr2 : (U.setTop g).frames = (.java g :: mid) ++ below := by rw [State.frames_setTop' g h.top, hmid]; rfl
  obtain ⟨o, s₂, hsteps, -, hend, hq, L, ⟨hW₂, hsm⟩, hL⟩ := Steps.callFree hM p X.admits X.cas X.clock (acts := []) hfr2 happ (hblind _ _ _ _ hp) trivial
  rw [State.frames_setTop' g h.top] at hend
  have hW' : U.WarmedH s₂.vm := hW₂
  obtain ⟨g₀, hg0⟩ := Option.isSome_iff_exists.mp h.top
  obtain ⟨r, hr⟩ := State.topJava?_eq_some.mp hg0
  have hs2 : s₂ = (({ U with heap := s₂.heap, slotsUsed := s₂.slotsUsed } : State).setVm s₂.vm).setFrames s₂.frames := by
    have e3 : s₂ = ({ s₂ with vm := (U.calling g mk a).vm } : State).setVm s₂.vm := rfl
    have e4 := hsm.1
    have e5 : ({ s₂ with vm := (U.calling g mk a).vm } : State) = { (U.calling g mk a).setFrames s₂.frames with heap := s₂.heap, slotsUsed := s₂.slotsUsed } := e4
    rw [e5, State.calling_eq h.top, State.setFrames_setFrames] at e3
    exact e3
  have hsame : U.sameButNew ({ U with heap := s₂.heap, slotsUsed := s₂.slotsUsed } : State) L mc ms := by
    refine ⟨?_, hsm.2⟩
    obtain ⟨t, ht, -⟩ := State.frames_cons hr
    show ({ U with heap := s₂.heap, slotsUsed := s₂.slotsUsed } : State) = { U.setFrames U.frames with heap := s₂.heap, slotsUsed := s₂.slotsUsed }
    rw [State.setFrames_self ht]
  have hr' : (({ U with heap := s₂.heap, slotsUsed := s₂.slotsUsed } : State).setVm s₂.vm).frames = .java g₀ :: r := hr
  refine ⟨o, s₂, ({ U with heap := s₂.heap, slotsUsed := s₂.slotsUsed } : State).setVm s₂.vm, L,
    ⟨X.admits, X.cas, X.clock, X.frames, X.room, X.hears, X.method, X.code, (X.here.setHeapUsed s₂.heap s₂.slotsUsed).setVm hW'.alike, X.tail, State.WarmedH.trans X.warmed hW', X.limits, X.bytes, X.same.trans (hsame.setVm s.vm)⟩, hL, rfl, rfl, hq, ?_⟩
  cases o with
  | returned v =>
    obtain ⟨c₂, i₂, len₂, hc₂, hd₂, hf₂⟩ := hend
    have hcc : c₂ = c := by
      have h1 : s₂.code? g.method = U.code? g.method := by rw [State.code?_eq, State.code?_eq, hW'.alike.method?]
      exact Option.some.inj (hc₂.symm.trans (h1.trans h.code))
    subst hcc
    have hlen : len₂ = 3 := by rw [hdg] at hd₂; cases hd₂; rfl
    subst hlen
    show Steps p.tables e below _ ((({ U with heap := s₂.heap, slotsUsed := s₂.slotsUsed } : State).setVm s₂.vm).setTop { g with pc := g.pc + 3, stack := v.toList ++ g.stack })
    rw [State.setTop_of_frames _ hr']
    have hf3 : s₂.frames = .java { g with pc := g.pc + 3, stack := v.toList ++ g.stack } :: r := by rw [hf₂, hr]; rfl
    rw [← hf3, ← hs2]
    exact hsteps
  | threw x =>
    have hf₂ : s₂.frames = .throwing x :: .java g :: U.frames.tail := hend
    show Steps p.tables e below _ (((({ U with heap := s₂.heap, slotsUsed := s₂.slotsUsed } : State).setVm s₂.vm).setTop g).pushFrame (.throwing x))
    rw [State.pushFrame, State.frames_setTop _ hr', State.setTop_of_frames _ hr', State.setFrames_setFrames]
    have hf3 : s₂.frames = .throwing x :: .java g :: r := by rw [hf₂, hr]; rfl
    rw [← hf3, ← hs2]
    exact hsteps
variable {H : Heap} {locs : List Loc} {cells slots : Nat} {Q : State → Prop}
/-- a call of either end, seen from the caller -/
def hv_Run (p : Program) (l : Launch) (e : Env) (R : Room) (s : State) (m : MethodId) (args : Array Value) (below : List Frame) (meth : Method) (c : Code) (H : Heap) (locs : List Loc) (cells slots mc ms : Nat) (g : JFrame) (rest : List Value) (Qa : State → Outcome → State → Prop) (free : Addr → Prop) : Prop :=
  ∀ T : State, T.heap = H → Stand p l e R s m args below meth c T locs cells slots → ∃ (o : Outcome) (st₀ t T' : State) (L : List Loc), st₀.heap = H ∧ Stand p l e R s m args below meth c T' (locs ++ L) (cells + mc) (slots + ms) ∧ (∀ q ∈ L, free q.base) ∧ T'.heap = t.heap ∧ T'.vm = t.vm ∧ Qa st₀ o t ∧
    ∀ target, Steps p.tables e below (hv_aft { g with stack := rest } T' o) target → Steps p.tables e below (T.setTop g) target
/-- an exception is under way over the method's own frame -/
def hv_T (p : Program) (l : Launch) (e : Env) (R : Room) (s : State) (m : MethodId) (args : Array Value) (below : List Frame) (meth : Method) (c : Code) (H : Heap) (locs : List Loc) (cells slots : Nat) (Q : State → Prop) (g : JFrame) (x : Addr) : Prop :=
  ∀ T : State, T.heap = H → Stand p l e R s m args below meth c T locs cells slots → ∃ t, Steps p.tables e below ((T.setTop g).pushFrame (.throwing x)) t ∧ Q t
/-- what a caller holds of a callee: its room, its words, its code -/
def hv_Cw (R : Room) (s : State) (y : MethodName) (ws : List Cond) (rm : Room) (mc ms maxL : Nat) : Prop :=
  rm.cells = mc ∧ rm.slots = ms ∧ rm.frames + 1 ≤ R.frames ∧ 8 + (maxL + 11) + rm.locals ≤ R.locals ∧ (∀ w ∈ ws, ∀ (a' : Array Value) (U : State), s.WarmedH U.vm → w.before a' U = true) ∧
  (∀ (U : State) (mk : MethodId), s.WarmedH U.vm → U.methodNamed? y = some mk → ∃ (mY : Method) (cY : Code), U.vm.method? mk = some mY ∧ mY.code = some cY ∧ cY.maxLocals = maxL) ∧ ∀ (a' : Array Value) (U : State), s.WarmedH U.vm → (Cond.initialized y.cls).before a' U = true
variable {y : MethodName} {bytes cc : ByteArray} {maxL nL mc ms n index : Nat} {ret : Option FieldType} {ws : List Cond} {rm : Room} {Pc : Array Value → State → Prop} {Qc : Array Value → State → Outcome → State → Prop} {free : Addr → Prop} {own C host : String} {b : Addr} {As rest : List Value} {g : JFrame} {A : Array Value}
theorem hv_run (hM : hv_Met l y ws rm Pc Qc mc ms free) (cw : hv_Cw R s y ws rm mc ms maxL) (hbl : FrameBlind Pc) (hPc : ∀ U : State, U.heap = H → s.WarmedH U.vm → Pc A U) (hml : c.maxLocals = nL) (hb : c.code = cc) (hg : g.method = m) (hsize : g.locals.size = nL)
    (hW : 2 * g.monitorRoom + (rest.map fun v => v.category).sum ≤ 8) {ig : Instr} (hdg : decode cc g.pc = .ok (ig, 3)) (hf : cells + mc ≤ R.cells ∧ slots + ms ≤ R.slots)
    (hi : ∀ T : State, T.heap = H → Stand p l e R s m args below meth c T locs cells slots → ∃ (mk : MethodId) (vm₁ : Vm), s.methodNamed? y = some mk ∧ Stand p l e R s m args below meth c (T.setVm vm₁) locs cells slots ∧ ∀ target, (∀ acts, Steps p.tables e below (doInvoke e ((T.setVm vm₁).setTop { g with stack := rest }) acts mk A).1 target) → Steps p.tables e below (T.setTop g) target) :
    hv_Run p l e R s m args below meth c H locs cells slots mc ms g rest (Qc A) free := by
  intro T hT X
  obtain ⟨mk, vm₁, hnm, X₁, st1⟩ := hi T hT X
  obtain ⟨c1, c2, c3, c4, c5, c6, c7⟩ := cw
  obtain ⟨o, t, U', L, X', hL, e1, e2, hq, st⟩ := hv_back hM hbl c1 c2 c3 c4 c5 c6 c7 X₁ (g := { g with stack := rest }) hg (hsize.trans hml.symm) (by rw [hb]; exact hdg) hW (X₁.named hnm) hf.1 hf.2 (hPc (T.setVm vm₁) hT X₁.warmed)
  exact ⟨o, (T.setVm vm₁).calling { g with stack := rest } mk A, t, U', L, hT, X', hL, e1, e2, hq, fun target h => st1 _ fun acts => by rw [doInvoke_state]; exact st.trans h⟩
theorem hv_runV (hM : hv_Met l y ws rm Pc Qc mc ms free) (cw : hv_Cw R s y ws rm mc ms maxL) (hbl : FrameBlind Pc) (hPc : ∀ U : State, U.heap = H → s.WarmedH U.vm → Pc (Value.ref b :: As).toArray U) (hexec : p.tables.exec = Jvm.exec) (hml : c.maxLocals = nL) (hb : c.code = cc) (hown : s.vm.findClass own = some m.cls)
    (hlink : (Cond.methodLink own index y).before args s = true) (hinst : (Cond.instanceMethod y).before args s = true) (hsel : (Cond.selects C y y).before args s = true) (hy : (y.cls ≠ "java/lang/invoke/MethodHandle" ∧ y.cls ≠ "java/lang/invoke/VarHandle") ∧ (parseMethodDescriptor y.desc).map (fun d => d.parameters.length) = some As.length) (hcode : (Cond.code y bytes maxL ret).before args s = true)
    (hr : ∃ cell : Cell, H[b]? = some cell ∧ cell.vm.isStatics = false ∧ s.vm.findClass C = some cell.cls)
    (hg : g.method = m) (hsize : g.locals.size = nL) (hstack : g.stack = As.reverse ++ .ref b :: rest) (hW : 2 * g.monitorRoom + (rest.map fun v => v.category).sum ≤ 8) (hdg : decode cc g.pc = .ok (.invokevirtual index, 3)) (hf : cells + mc ≤ R.cells ∧ slots + ms ≤ R.slots) :
    hv_Run p l e R s m args below meth c H locs cells slots mc ms g rest (Qc (Value.ref b :: As).toArray) free := by
  obtain ⟨cellB, hcB, hoB, hclB⟩ := hr
  refine hv_run hM cw hbl hPc hml hb hg hsize hW hdg hf fun T hT X => ?_
  obtain ⟨mk, methM, hnamed, hmethM, hstM, habM⟩ := Cond.instanceMethod_spec hinst
  obtain ⟨methM', cM, hmethM', -, -, -, -, -, -, hsigM⟩ := Cond.code_spec hnamed hcode
  cases hmethM.symm.trans hmethM'
  obtain ⟨c2, r2, m2, q1, q2, q3, q4, kP, hkP, hkPi⟩ := Cond.selects_spec hsel
  cases hclB.symm.trans q1
  cases (State.methodFound?_of_named hnamed hy.1).symm.trans q2
  cases hnamed.symm.trans q3
  have hselP : selectMethod e.platform s.vm cellB.cls mk = .method mk := by rw [Launch.admits_selectMethod X.admits]; exact q4
  have hlen : As.length = methM.sig.parameters.length := by
    have h2 := hy.2
    rw [hsigM] at h2
    exact (Option.some.inj h2).symm
  obtain ⟨vm₁, X₁, hstep₁⟩ := X.invokevirtual hexec hown hlink hnamed hmethM hstM hkP hkPi hy.1 (a := b) (cell := cellB) (by rw [hT]; exact hcB)
    (fun z h => by rw [h] at hoB; cases hoB) hselP hmethM habM hkP hkPi (g := g) hg (argsL := As) (rest := rest) hlen hstack (by rw [hb]; exact hdg)
  exact ⟨mk, vm₁, hnamed, X₁, hstep₁⟩
theorem hv_runVN (hM : hv_Met l y ws rm Pc Qc mc ms free) (cw : hv_Cw R s y ws rm mc ms maxL) (hbl : FrameBlind Pc) (hPc : ∀ U : State, U.heap = H → s.WarmedH U.vm → Pc (Value.ref b :: As).toArray U) (hexec : p.tables.exec = Jvm.exec) (hml : c.maxLocals = nL) (hb : c.code = cc) (hown : s.vm.findClass own = some m.cls)
    (hlink : (Cond.methodLinkNest own index y host).before args s = true) (hinst : (Cond.instanceMethod y).before args s = true) (hsel : (Cond.selects C y y).before args s = true) (hy : (y.cls ≠ "java/lang/invoke/MethodHandle" ∧ y.cls ≠ "java/lang/invoke/VarHandle") ∧ (parseMethodDescriptor y.desc).map (fun d => d.parameters.length) = some As.length) (hcode : (Cond.code y bytes maxL ret).before args s = true)
    (hr : ∃ cell : Cell, H[b]? = some cell ∧ cell.vm.isStatics = false ∧ s.vm.findClass C = some cell.cls)
    (hg : g.method = m) (hsize : g.locals.size = nL) (hstack : g.stack = As.reverse ++ .ref b :: rest) (hW : 2 * g.monitorRoom + (rest.map fun v => v.category).sum ≤ 8) (hdg : decode cc g.pc = .ok (.invokevirtual index, 3)) (hf : cells + mc ≤ R.cells ∧ slots + ms ≤ R.slots) :
    hv_Run p l e R s m args below meth c H locs cells slots mc ms g rest (Qc (Value.ref b :: As).toArray) free := by
  obtain ⟨cellB, hcB, hoB, hclB⟩ := hr
  refine hv_run hM cw hbl hPc hml hb hg hsize hW hdg hf fun T hT X => ?_
  obtain ⟨mk, methM, hnamed, hmethM, hstM, habM⟩ := Cond.instanceMethod_spec hinst
  obtain ⟨methM', cM, hmethM', -, -, -, -, -, -, hsigM⟩ := Cond.code_spec hnamed hcode
  cases hmethM.symm.trans hmethM'
  obtain ⟨c2, r2, m2, q1, q2, q3, q4, kP, hkP, hkPi⟩ := Cond.selects_spec hsel
  cases hclB.symm.trans q1
  cases (State.methodFound?_of_named hnamed hy.1).symm.trans q2
  cases hnamed.symm.trans q3
  have hselP : selectMethod e.platform s.vm cellB.cls mk = .method mk := by rw [Launch.admits_selectMethod X.admits]; exact q4
  have hlen : As.length = methM.sig.parameters.length := by
    have h2 := hy.2
    rw [hsigM] at h2
    exact (Option.some.inj h2).symm
  obtain ⟨vm₁, X₁, hstep₁⟩ := X.invokevirtualNest hexec hown hlink hnamed hmethM hstM hkP hkPi hy.1 (a := b) (cell := cellB) (by rw [hT]; exact hcB)
    (fun z h => by rw [h] at hoB; cases hoB) hselP hmethM habM hkP hkPi (g := g) hg (argsL := As) (rest := rest) hlen hstack (by rw [hb]; exact hdg)
  exact ⟨mk, vm₁, hnamed, X₁, hstep₁⟩
/-- a static method, with or without handlers: 'hsig' says its descriptor's sum -/
theorem hv_runS (hM : hv_Met l y ws rm Pc Qc mc ms free) (cw : hv_Cw R s y ws rm mc ms maxL) (hbl : FrameBlind Pc) (hPc : ∀ U : State, U.heap = H → s.WarmedH U.vm → Pc As.toArray U) (hexec : p.tables.exec = Jvm.exec) (hml : c.maxLocals = nL) (hb : c.code = cc) (hown : s.vm.findClass own = some m.cls)
    (hlink : (Cond.methodLink own index y).before args s = true) (hstat : (Cond.static y).before args s = true) (hini : (Cond.initialized y.cls).before args s = true) (hy : (y.cls ≠ "java/lang/invoke/MethodHandle" ∧ y.cls ≠ "java/lang/invoke/VarHandle") ∧ (parseMethodDescriptor y.desc).map (fun d => d.parameters.length) = some As.length)
    (hsg : ∃ (mk : MethodId) (mY : Method), s.methodNamed? y = some mk ∧ s.vm.method? mk = some mY ∧ parseMethodDescriptor y.desc = some mY.sig)
    (hg : g.method = m) (hsize : g.locals.size = nL) (hstack : g.stack = As.reverse ++ rest) (hW : 2 * g.monitorRoom + (rest.map fun v => v.category).sum ≤ 8) (hdg : decode cc g.pc = .ok (.invokestatic index, 3)) (hf : cells + mc ≤ R.cells ∧ slots + ms ≤ R.slots) :
    hv_Run p l e R s m args below meth c H locs cells slots mc ms g rest (Qc As.toArray) free := by
  refine hv_run hM cw hbl hPc hml hb hg hsize hW hdg hf fun T hT X => ?_
  obtain ⟨mk, methM, hnamed, hmethM, hsigM⟩ := hsg
  have hstatic : methM.isStatic = true := Cond.static_spec hnamed hmethM hstat
  obtain ⟨kP, hkP, -⟩ := className_of_methodNamed hnamed
  have hinitP : kP.init = .initialized := Cond.initialized_spec (findClass_of_methodNamed hnamed) hkP hini
  have hlen : As.length = methM.sig.parameters.length := by
    have h2 := hy.2
    rw [hsigM] at h2
    exact (Option.some.inj h2).symm
  obtain ⟨vm₁, X₁, hstep₁⟩ := X.invokestatic hexec hown hlink hnamed hmethM hstatic hkP hinitP hy.1 (g := g) hg (argsL := As) (rest := rest) hlen hstack (by rw [hb]; exact hdg)
  exact ⟨mk, vm₁, hnamed, X₁, hstep₁⟩
theorem hv_runSN (hM : hv_Met l y ws rm Pc Qc mc ms free) (cw : hv_Cw R s y ws rm mc ms maxL) (hbl : FrameBlind Pc) (hPc : ∀ U : State, U.heap = H → s.WarmedH U.vm → Pc As.toArray U) (hexec : p.tables.exec = Jvm.exec) (hml : c.maxLocals = nL) (hb : c.code = cc) (hown : s.vm.findClass own = some m.cls)
    (hlink : (Cond.methodLinkNest own index y host).before args s = true) (hstat : (Cond.static y).before args s = true) (hini : (Cond.initialized y.cls).before args s = true) (hy : (y.cls ≠ "java/lang/invoke/MethodHandle" ∧ y.cls ≠ "java/lang/invoke/VarHandle") ∧ (parseMethodDescriptor y.desc).map (fun d => d.parameters.length) = some As.length)
    (hsg : ∃ (mk : MethodId) (mY : Method), s.methodNamed? y = some mk ∧ s.vm.method? mk = some mY ∧ parseMethodDescriptor y.desc = some mY.sig)
    (hg : g.method = m) (hsize : g.locals.size = nL) (hstack : g.stack = As.reverse ++ rest) (hW : 2 * g.monitorRoom + (rest.map fun v => v.category).sum ≤ 8) (hdg : decode cc g.pc = .ok (.invokestatic index, 3)) (hf : cells + mc ≤ R.cells ∧ slots + ms ≤ R.slots) :
    hv_Run p l e R s m args below meth c H locs cells slots mc ms g rest (Qc As.toArray) free := by
  refine hv_run hM cw hbl hPc hml hb hg hsize hW hdg hf fun T hT X => ?_
  obtain ⟨mk, methM, hnamed, hmethM, hsigM⟩ := hsg
  have hstatic : methM.isStatic = true := Cond.static_spec hnamed hmethM hstat
  obtain ⟨kP, hkP, -⟩ := className_of_methodNamed hnamed
  have hinitP : kP.init = .initialized := Cond.initialized_spec (findClass_of_methodNamed hnamed) hkP hini
  have hlen : As.length = methM.sig.parameters.length := by
    have h2 := hy.2
    rw [hsigM] at h2
    exact (Option.some.inj h2).symm
  obtain ⟨vm₁, X₁, hstep₁⟩ := X.invokestaticNest hexec hown hlink hnamed hmethM hstatic hkP hinitP hy.1 (g := g) hg (argsL := As) (rest := rest) hlen hstack (by rw [hb]; exact hdg)
  exact ⟨mk, vm₁, hnamed, X₁, hstep₁⟩
theorem hv_runI (hM : hv_Met l y ws rm Pc Qc mc ms free) (cw : hv_Cw R s y ws rm mc ms maxL) (hbl : FrameBlind Pc) (hPc : ∀ U : State, U.heap = H → s.WarmedH U.vm → Pc (Value.ref b :: As).toArray U) (hexec : p.tables.exec = Jvm.exec) (hml : c.maxLocals = nL) (hb : c.code = cc) (hown : s.vm.findClass own = some m.cls)
    (hlink : (Cond.methodLink own index y).before args s = true) (hinst : (Cond.instanceMethod y).before args s = true) (hy1 : y.name = "<init>") (hy : (y.cls ≠ "java/lang/invoke/MethodHandle" ∧ y.cls ≠ "java/lang/invoke/VarHandle") ∧ (parseMethodDescriptor y.desc).map (fun d => d.parameters.length) = some As.length) (hcode : (Cond.code y bytes maxL none).before args s = true)
    (hg : g.method = m) (hsize : g.locals.size = nL) (hstack : g.stack = As.reverse ++ .ref b :: rest) (hW : 2 * g.monitorRoom + (rest.map fun v => v.category).sum ≤ 8) (hdg : decode cc g.pc = .ok (.invokespecial index, 3)) (hf : cells + mc ≤ R.cells ∧ slots + ms ≤ R.slots) :
    hv_Run p l e R s m args below meth c H locs cells slots mc ms g rest (Qc (Value.ref b :: As).toArray) free := by
  refine hv_run hM cw hbl hPc hml hb hg hsize hW hdg hf fun T hT X => ?_
  subst hg
  have hpl : e.platform.magicAccessors = ({} : Platform).magicAccessors := by rw [X.admits.platform]
  obtain ⟨mk, methM, cM, kP, vm₁, hnamed, -, -, -, -, -, -, -, hW₁, hstep₁⟩ := Steps.initColdArgs (e := e) X.here hexec X.warmed hpl hown hy1 hy.1 hlink hinst hcode (f := g) rfl (argsL := As) (rest := rest) (fun sig h => by
    have h2 := hy.2
    rw [h] at h2
    exact (Option.some.inj h2).symm) hstack (by rw [hb]; exact hdg)
  exact ⟨mk, vm₁, hnamed, X.noted hW₁, hstep₁⟩
theorem hv_runIN (hM : hv_Met l y ws rm Pc Qc mc ms free) (cw : hv_Cw R s y ws rm mc ms maxL) (hbl : FrameBlind Pc) (hPc : ∀ U : State, U.heap = H → s.WarmedH U.vm → Pc (Value.ref b :: As).toArray U) (hexec : p.tables.exec = Jvm.exec) (hml : c.maxLocals = nL) (hb : c.code = cc) (hown : s.vm.findClass own = some m.cls)
    (hlink : (Cond.methodLinkNest own index y host).before args s = true) (hinst : (Cond.instanceMethod y).before args s = true) (hy1 : y.name = "<init>") (hy : (y.cls ≠ "java/lang/invoke/MethodHandle" ∧ y.cls ≠ "java/lang/invoke/VarHandle") ∧ (parseMethodDescriptor y.desc).map (fun d => d.parameters.length) = some As.length) (hcode : (Cond.code y bytes maxL none).before args s = true)
    (hg : g.method = m) (hsize : g.locals.size = nL) (hstack : g.stack = As.reverse ++ .ref b :: rest) (hW : 2 * g.monitorRoom + (rest.map fun v => v.category).sum ≤ 8) (hdg : decode cc g.pc = .ok (.invokespecial index, 3)) (hf : cells + mc ≤ R.cells ∧ slots + ms ≤ R.slots) :
    hv_Run p l e R s m args below meth c H locs cells slots mc ms g rest (Qc (Value.ref b :: As).toArray) free := by
  refine hv_run hM cw hbl hPc hml hb hg hsize hW hdg hf fun T hT X => ?_
  subst hg
  have hpl : e.platform.magicAccessors = ({} : Platform).magicAccessors := by rw [X.admits.platform]
  obtain ⟨mk, methM, cM, kP, vm₁, hnamed, -, -, -, -, -, -, -, hW₁, hstep₁⟩ := Steps.initColdArgsNest (e := e) X.here hexec X.warmed hpl hown hy1 hy.1 hlink hinst hcode (f := g) rfl (argsL := As) (rest := rest) (fun sig h => by
    have h2 := hy.2
    rw [h] at h2
    exact (Option.some.inj h2).symm) hstack (by rw [hb]; exact hdg)
  exact ⟨mk, vm₁, hnamed, X.noted hW₁, hstep₁⟩
end HVBACK
end
section
/-! THE CONTEXT OF A WHOLE RUN: s0, the law's start; its words and its kinds of objects stand at every later state -/
theorem hv_follows {l : Launch} {e : Env} (h : l.admits e) : e.platform.stackTraces = l.stackTraces := by rw [h.platform]
/-- what is known for the whole run -/
def hv_C (l : Launch) (s0 : State) (D : va_G) (tys : List (ClassId × FieldType)) : Prop :=
  va_K D classes tys s0 ∧ (∀ w ∈ lw_tbl, ∃ A : Array Value, w.before A s0 = true) ∧ l.stackTraces = false
/-- a state of the run: warmer tables; what was there at the start is as it was -/
def hv_Z (s0 U : State) : Prop := s0.WarmedH U.vm ∧ s0.heap.size ≤ U.heap.size ∧ ∀ q : Nat, q < s0.heap.size → U.heap[q]? = s0.heap[q]?
def hv_G (s0 : State) (D : va_G) (w : hv_W) (U : State) : Prop := hv_Z s0 U ∧ hv_P D classes s0.heap.size w U.heap
def hv_Pc (s0 : State) (D : va_G) (w : hv_W) (av : List Value) : Array Value → State → Prop := va_Pc av (hv_G s0 D w)
def hv_Q (s0 : State) (D : va_G) (post : Option Value → hv_W → Prop) (postT : Nat → hv_W → Prop) : Array Value → State → Outcome → State → Prop := fun _ _ oc t => ∃ w' : hv_W, hv_G s0 D w' t ∧ match oc with
  | .returned v => post v w'
  | .threw x => postT x w'
theorem hv_blind {s0 : State} {D : va_G} {w : hv_W} {av : List Value} : FrameBlind (hv_Pc s0 D w av) := fun _ _ _ _ q => q
theorem hv_words {l : Launch} {s0 s : State} {D : va_G} {tys : List (ClassId × FieldType)} {A : Array Value} (C : hv_C l s0 D tys) (hW : s0.WarmedH s.vm) : ∀ w ∈ hv_Ts, w.before A s = true := fun w hw => by
  obtain ⟨A0, h0⟩ := C.2.1 w (List.mem_filter.mp hw).1
  exact word_at hW (good_of_word (List.mem_filter.mp hw).2) h0
theorem hv_wordsU {l : Launch} {s0 s : State} {D : va_G} {tys : List (ClassId × FieldType)} (C : hv_C l s0 D tys) (hW : s0.WarmedH s.vm) {ws : List Cond} (hws : ∀ w ∈ ws, w ∈ hv_Ts) : ∀ w ∈ ws, ∀ (a' : Array Value) (U : State), s.WarmedH U.vm → w.before a' U = true := fun w hw _ _ h => hv_words C (State.WarmedH.trans hW h) w (hws w hw)
theorem hv_Gof {s0 s t : State} {D : va_G} {w : hv_W} {H : Heap} {locs : List Loc} (hZ : hv_Z s0 s) (hS : va_S (hv_A s0.heap.size) s.heap H locs) (hP : hv_P D classes s0.heap.size w H) (ht : t.heap = H) (hW : s.WarmedH t.vm) : hv_G s0 D w t :=
  ⟨⟨State.WarmedH.trans hZ.1 hW, by rw [ht]; exact Nat.le_trans hZ.2.1 hS.1, fun q hq => by rw [ht, hS.2.1 q (Nat.lt_of_lt_of_le hq hZ.2.1) (Nat.not_le.mpr hq)]; exact hZ.2.2 q hq⟩, by rw [ht]; exact hP⟩
theorem hv_pre {s0 s : State} {D : va_G} {w : hv_W} {H : Heap} {locs : List Loc} {av : List Value} (hZ : hv_Z s0 s) (hS : va_S (hv_A s0.heap.size) s.heap H locs) (hP : hv_P D classes s0.heap.size w H) : ∀ U : State, U.heap = H → s.WarmedH U.vm → hv_Pc s0 D w av av.toArray U := fun _ hU hW => ⟨rfl, hv_Gof hZ hS hP hU hW⟩
/-- the end of a walk, of either kind -/
def hv_MQ (below : List Frame) (Qc : Array Value → State → Outcome → State → Prop) (a : Array Value) (s : State) (mc ms : Nat) (free : Addr → Prop) : State → Prop := fun t =>
  ∃ o, t.status = .running ∧ Ended t below o ∧ Qc a s o t ∧ ∃ L, hv_FE s t L mc ms ∧ ∀ q ∈ L, free q.base
theorem hv_MQof {below : List Frame} {Qc : Array Value → State → Outcome → State → Prop} {a : Array Value} {s : State} {mc ms : Nat} {free : Addr → Prop} (t : State) (h : MQ below Qc a s mc ms free t) : hv_MQ below Qc a s mc ms free t := by
  obtain ⟨o, h1, h2, h3, L, ⟨-, h4, h5⟩, h6⟩ := h
  exact ⟨o, h1, h2, h3, L, ⟨h4, h5⟩, h6⟩
section HVCTX
variable {p : Program} {l : Launch} {e : Env} {R : Room} {s : State} {m : MethodId} {args : Array Value} {below : List Frame} {meth : Method} {c : Code} {H : Heap} {locs : List Loc} {cells slots : Nat} {Q : State → Prop}
variable {cc : ByteArray} {pc : Nat} {ls : Array Slot} {rest st0 : List Value} {D : va_G} {w : hv_W} {s0 : State} {tys : List (ClassId × FieldType)}
variable {post : Option Value → hv_W → Prop} {postT : Nat → hv_W → Prop}
theorem hv_mono {Q' : State → Prop} {g : JFrame} (h : ∀ t, Q t → Q' t) (k : W p l e R s m args below meth c H locs cells slots Q g) : W p l e R s m args below meth c H locs cells slots Q' g := fun T hT X => by
  obtain ⟨t, a, b⟩ := k T hT X
  exact ⟨t, a, h t b⟩
theorem hv_call {mc ms : Nat} {a : Array Value} (hr : hv_Run p l e R s m args below meth c H locs cells slots mc ms (F0 m pc ls st0) rest (hv_Q s0 D post postT a) (hv_A s0.heap.size)) (hZ : hv_Z s0 s) (hS : va_S (hv_A s0.heap.size) s.heap H locs)
    (kk : ∀ (v : Option Value) (w' : hv_W) (H1 : Heap) (locs1 : List Loc), post v w' → hv_P D classes s0.heap.size w' H1 → va_S (hv_A s0.heap.size) s.heap H1 locs1 → W p l e R s m args below meth c H1 locs1 (cells + mc) (slots + ms) Q (F0 m (pc + 3) ls (v.toList ++ rest)))
    (kt : ∀ (x : Nat) (w' : hv_W) (H1 : Heap) (locs1 : List Loc), postT x w' → hv_P D classes s0.heap.size w' H1 → va_S (hv_A s0.heap.size) s.heap H1 locs1 → hv_T p l e R s m args below meth c H1 locs1 (cells + mc) (slots + ms) Q (F0 m pc ls rest) x) : W p l e R s m args below meth c H locs cells slots Q (F0 m pc ls st0) := by
  intro T hT X
  obtain ⟨o, st₀, t, T', L, h0, X', hL, e1, e2, ⟨w', ⟨hz, hp⟩, hq⟩, st⟩ := hr T hT X
  have hsz : s.heap.size ≤ T'.heap.size := X'.same.2.1
  have hS' : va_S (hv_A s0.heap.size) s.heap T'.heap (locs ++ L) := ⟨hsz, fun q h1 h2 => by rw [e1, hz.2.2 q (Nat.not_le.mp h2), hZ.2.2 q (Nat.not_le.mp h2)], fun q hq => by
    rcases List.mem_append.mp hq with h | h
    · exact hS.2.2 q h
    · exact hL q h⟩
  cases o with
  | returned v =>
    obtain ⟨t2, a1, b1⟩ := kk v w' T'.heap (locs ++ L) hq (by rw [e1]; exact hp) hS' T' rfl X'
    exact ⟨t2, st t2 a1, b1⟩
  | threw x =>
    obtain ⟨t2, a1, b1⟩ := kt x w' T'.heap (locs ++ L) hq (by rw [e1]; exact hp) hS' T' rfl X'
    exact ⟨t2, st t2 a1, b1⟩
theorem hv_iret {v : Int32} (hQ : Q = hv_MQ below (hv_Q s0 D post postT) args s cells slots (hv_A s0.heap.size)) (hexec : p.tables.exec = Jvm.exec) (hb : c.code = cc) (hr : meth.sig.returnType = some .int) (hZ : hv_Z s0 s) (hS : va_S (hv_A s0.heap.size) s.heap H locs) (hP : hv_P D classes s0.heap.size w H) (hlocks : meth.locks = false) (hdg : decode cc pc = .ok (.ireturn, 1)) (hq : post (some (.int v)) w) :
    W p l e R s m args below meth c H locs cells slots Q (F0 m pc ls [.int v]) := by
  subst hQ
  exact hv_mono hv_MQof (W.iret hexec hb hr (fun t ht hW => ⟨w, hv_Gof hZ hS hP ht hW, hq⟩) hS.2.2 hdg hlocks)
theorem hv_zret {v : Int32} (hQ : Q = hv_MQ below (hv_Q s0 D post postT) args s cells slots (hv_A s0.heap.size)) (hexec : p.tables.exec = Jvm.exec) (hb : c.code = cc) (hr : meth.sig.returnType = some .boolean) (hn : narrow .boolean (.int v) = .int v) (hZ : hv_Z s0 s) (hS : va_S (hv_A s0.heap.size) s.heap H locs) (hP : hv_P D classes s0.heap.size w H) (hlocks : meth.locks = false) (hdg : decode cc pc = .ok (.ireturn, 1)) (hq : post (some (.int v)) w) :
    W p l e R s m args below meth c H locs cells slots Q (F0 m pc ls [.int v]) := by
  subst hQ
  exact hv_mono hv_MQof (W.zret hexec hb hr hn (fun t ht hW => ⟨w, hv_Gof hZ hS hP ht hW, hq⟩) hS.2.2 hdg hlocks)
theorem hv_lret {v : Int64} (hQ : Q = hv_MQ below (hv_Q s0 D post postT) args s cells slots (hv_A s0.heap.size)) (hexec : p.tables.exec = Jvm.exec) (hb : c.code = cc) (hr : meth.sig.returnType = some .long) (hZ : hv_Z s0 s) (hS : va_S (hv_A s0.heap.size) s.heap H locs) (hP : hv_P D classes s0.heap.size w H) (hlocks : meth.locks = false) (hdg : decode cc pc = .ok (.lreturn, 1)) (hq : post (some (.long v)) w) :
    W p l e R s m args below meth c H locs cells slots Q (F0 m pc ls [.long v]) := by
  subst hQ
  exact hv_mono hv_MQof (W.lret hexec hb hr (fun t ht hW => ⟨w, hv_Gof hZ hS hP ht hW, hq⟩) hS.2.2 hdg hlocks)
theorem hv_vret (hQ : Q = hv_MQ below (hv_Q s0 D post postT) args s cells slots (hv_A s0.heap.size)) (hexec : p.tables.exec = Jvm.exec) (hb : c.code = cc) (hr : meth.sig.returnType = none) (hZ : hv_Z s0 s) (hS : va_S (hv_A s0.heap.size) s.heap H locs) (hP : hv_P D classes s0.heap.size w H) (hlocks : meth.locks = false) (hdg : decode cc pc = .ok (.return_, 1)) (hq : post none w) :
    W p l e R s m args below meth c H locs cells slots Q (F0 m pc ls []) := by
  subst hQ
  exact hv_mono hv_MQof (W.vret hexec hb hr (fun t ht hW => ⟨w, hv_Gof hZ hS hP ht hW, hq⟩) hS.2.2 hdg hlocks)
theorem hv_aret {v : Option Nat} {rt : FieldType} (hQ : Q = hv_MQ below (hv_Q s0 D post postT) args s cells slots (hv_A s0.heap.size)) (hexec : p.tables.exec = Jvm.exec) (hb : c.code = cc) (hr : meth.sig.returnType = some rt) (hrt : (∃ n, rt = .object n) ∨ ∃ t, rt = .array t) (hZ : hv_Z s0 s) (hS : va_S (hv_A s0.heap.size) s.heap H locs) (hP : hv_P D classes s0.heap.size w H) (hlocks : meth.locks = false) (hdg : decode cc pc = .ok (.areturn, 1)) (hq : post (some (va_rf v)) w) :
    W p l e R s m args below meth c H locs cells slots Q (F0 m pc ls [va_rf v]) := by
  subst hQ
  exact hv_mono hv_MQof (W.aret hexec hb hr hrt (va_rf_or v) (fun t ht hW => ⟨w, hv_Gof hZ hS hP ht hW, hq⟩) hS.2.2 hdg hlocks)
/-- an exception leaves the method -/
theorem hv_tleave {x : Nat} (hQ : Q = hv_MQ below (hv_Q s0 D post postT) args s cells slots (hv_A s0.heap.size)) (hZ : hv_Z s0 s) (hS : va_S (hv_A s0.heap.size) s.heap H locs) (hP : hv_P D classes s0.heap.size w H) (hlocks : meth.locks = false) (hout : ∀ z ∈ c.exceptionTable.toList, covers z pc = false) (hq : postT x w) :
    hv_T p l e R s m args below meth c H locs cells slots Q (F0 m pc ls rest) x := by
  subst hQ
  intro T hT X
  obtain ⟨st, hrun, hend, hW, hsame⟩ := X.leaveThrown x (g := F0 m pc ls rest) rfl rfl rfl hout hlocks
  exact ⟨_, st, .threw x, hrun, hend, ⟨w, hv_Gof hZ hS hP hT hW, hq⟩, locs, ⟨hW, hsame⟩, hS.2.2⟩
theorem hv_enter {y : MethodName} {maxL mc ms : Nat} {ret : Option FieldType} {av : List Value} (C : hv_C l s0 D tys) (rm : Room) (hy : plainName y.cls = true) (hlen : (lg_sl av).length ≤ maxL)
    (body : ∀ (p : Program) (e : Env) (s : State) (m : MethodId) (below : List Frame) (meth : Method) (c : Code) (ls : Array Slot) (Q : State → Prop), Q = hv_MQ below (hv_Q s0 D post postT) av.toArray s mc ms (hv_A s0.heap.size) → p.tables.exec = Jvm.exec → c.code = cc → meth.sig.returnType = ret → c.maxLocals = maxL → s.vm.findClass y.cls = some m.cls → (∀ w ∈ hv_Ts, w.before av.toArray s = true) → va_K D classes tys s → hv_Z s0 s → meth.locks = false → meth.name = y.name →
      (∀ (pc : Nat), ∀ z ∈ c.exceptionTable.toList, covers z pc = false) → e.platform.stackTraces = false → hv_P D classes s0.heap.size w s.heap → lv_has ls maxL (lv_args 0 av) →
      W p l e rm s m av.toArray below meth c s.heap [] 0 0 Q (F0 m 0 ls [])) :
    hv_Met l y [.code y cc maxL ret] rm (hv_Pc s0 D w av) (hv_Q s0 D post postT) mc ms (hv_A s0.heap.size) := by
  refine MetFree.of_bodyS (code := cc) (maxLocals := maxL) (ret := ret) hy ?_ ?_
  · intro args s m h hn
    obtain ⟨meth, c, h1, h2, h3, h4, h5, h6, -, -⟩ := Cond.code_spec hn (atoms_spec (ws := [.code y cc maxL ret]) h _ List.mem_cons_self)
    exact ⟨meth, c, h1, h2, h3, h4, h5, h6⟩
  · intro p e s m args below meth c s₁ B hml hPc _
    obtain ⟨rfl, hZ, hP⟩ := hPc
    have hh0 : s₁.heap = s.heap := by rw [B.state]; rfl
    have hcode := atoms_spec (ws := [.code y cc maxL ret]) B.pre _ List.mem_cons_self
    have hempty := B.noHandlers hcode
    have hout : ∀ (pc : Nat), ∀ z ∈ c.exceptionTable.toList, covers z pc = false := fun pc => covers_of_empty hempty pc
    have htr : e.platform.stackTraces = false := by rw [hv_follows B.admits]; exact C.2.2
    have hl := lv_entry av (n := maxL) hlen
    have K := body p e s m below meth c _ _ rfl B.exec B.bytes B.returns hml (findClass_of_methodNamed B.named) (hv_words C hZ.1) (va_K.moved hZ.1.alike C.1) hZ B.notSynchronized (name_of_methodNamed B.named B.method).1 hout htr hP hl
    rw [← lg_entry_eq] at K
    obtain ⟨t, a1, o, b1, b2, b3⟩ := K s₁ hh0 (Stand.of_body B)
    exact ⟨t, o, a1, b1, b2, b3⟩
theorem hv_cw {y : MethodName} {bytes : ByteArray} {maxL mc ms : Nat} {ret : Option FieldType} {rm : Room} (C : hv_C l s0 D tys) (hZ : hv_Z s0 s) (hcode : Cond.code y bytes maxL ret ∈ hv_Ts) (hini : Cond.initialized y.cls ∈ hv_Ts) (hR : rm.cells = mc ∧ rm.slots = ms ∧ rm.frames + 1 ≤ R.frames ∧ 8 + (maxL + 11) + rm.locals ≤ R.locals) : hv_Cw R s y [.code y bytes maxL ret] rm mc ms maxL :=
  ⟨hR.1, hR.2.1, hR.2.2.1, hR.2.2.2, hv_wordsU C hZ.1 (fun w hw => by rw [List.mem_singleton.mp hw]; exact hcode), fun U mk hW hn => by
    obtain ⟨mY, cY, h1, h2, -, h4, -⟩ := Cond.code_spec hn (hv_words (A := #[]) C (State.WarmedH.trans hZ.1 hW) _ hcode)
    exact ⟨mY, cY, h1, h2, h4⟩, fun a' U hW => hv_words C (State.WarmedH.trans hZ.1 hW) _ hini⟩
theorem hv_sig {y : MethodName} {bytes : ByteArray} {maxL : Nat} {ret : Option FieldType} (hcode : (Cond.code y bytes maxL ret).before args s = true) : ∃ (mk : MethodId) (mY : Method), s.methodNamed? y = some mk ∧ s.vm.method? mk = some mY ∧ parseMethodDescriptor y.desc = some mY.sig := by
  obtain ⟨mk, hn⟩ := Cond.code_named hcode
  obtain ⟨mY, cY, h1, -, -, -, -, -, -, h8⟩ := Cond.code_spec hn hcode
  exact ⟨mk, mY, hn, h1, h8⟩
theorem hv_nest {own host : String} {idx : Nat} {y : MethodName} {A : Array Value} (C : hv_C l s0 D tys) (hZ : hv_Z s0 s) (h : Cond.methodLinkNest own idx y host ∈ lw_tbl) : (Cond.methodLinkNest own idx y host).before A s = true := by
  obtain ⟨A0, h0⟩ := C.2.1 _ h
  exact va_Nw.use rfl (va_Nw.warmM hZ.1 (va_Nw.of rfl h0))
theorem hv_over {N : String} (C : hv_C l s0 D tys) (hZ : hv_Z s0 s) (h : Cond.arrayOver (.object N) ∈ lw_tbl) : va_AO N s := by
  obtain ⟨A0, h0⟩ := C.2.1 _ h
  exact va_AO.moved hZ.1.alike (va_AO.of h0)
theorem hv_cast {N M : String} (C : hv_C l s0 D tys) (hZ : hv_Z s0 s) (h : Cond.castable N M ∈ lw_tbl) : va_Nw (.castable N M) s := by
  obtain ⟨A0, h0⟩ := C.2.1 _ h
  exact va_Nw.warmC hZ.1 (va_Nw.of rfl h0)
/-- a method that only its own kind sees is chosen whatever the receiver is: x is another method of the same kind, y the one that is meant -/
theorem hv_selP {N : String} {x y : MethodName} {A : Array Value} (C : hv_C l s0 D tys) (hZ : hv_Z s0 s) (hxy : x.cls = y.cls) (hy : y.cls ≠ "java/lang/invoke/MethodHandle" ∧ y.cls ≠ "java/lang/invoke/VarHandle") (hx : Cond.selects N x x ∈ hv_Ts) (hpr : Cond.privateMethod y ∈ lw_tbl) (hi : Cond.instanceMethod y ∈ hv_Ts) : (Cond.selects N y y).before A s = true := by
  obtain ⟨c, r, mx, h1, -, h3, -, k, h5, h6⟩ := Cond.selects_spec (hv_words (A := A) C hZ.1 _ hx)
  obtain ⟨mk, methM, hnamed, hmethM, -, -⟩ := Cond.instanceMethod_spec (hv_words (A := A) C hZ.1 _ hi)
  obtain ⟨A0, h0⟩ := C.2.1 _ hpr
  have hpr1 : (Cond.privateMethod y).before A s = true := va_tabs rfl (rfl : (s0.setVm s.vm).vm = s.vm) (by rw [Cond.privateMethod_setVm hZ.1.alike]; exact h0)
  have hfound : s.methodFound? y.cls y.name y.desc = some mk := State.methodFound?_of_named hnamed hy
  have hc1 := findClass_of_methodNamed hnamed
  have hc2 := findClass_of_methodNamed h3
  rw [hxy] at hc2
  have hcls : mk.cls = mx.cls := Option.some.inj (hc1.symm.trans hc2)
  have hsel : selectMethod {} s.vm c mk = .method mk := selectMethod_private hmethM (Cond.privateMethod_at hpr1 mk methM hnamed hmethM)
  simp only [Cond.before, Cond.holds, Cond.value, h1, hfound, hnamed, hsel, hcls, h5]
  simp; exact h6
end HVCTX
end
section
/-! EXCEPTIONS THAT THE PROGRAM MAKES ITSELF (no stack traces) -/
section HVTHROW
variable {p : Program} {l : Launch} {e : Env} {R : Room} {s : State} {m : MethodId} {args : Array Value} {below : List Frame} {meth : Method} {c : Code} {H : Heap} {locs : List Loc} {cells slots : Nat} {Q : State → Prop}
/-- the walk as if the method were entered now, in the heap as it stands -/
theorem hv_rebase {T : State} (X : Stand p l e R s m args below meth c T locs cells slots) {R' : Room} (hf : R'.frames ≤ R.frames) (hl : R'.locals ≤ R.locals) (hc : cells + R'.cells ≤ R.cells) (hs : slots + R'.slots ≤ R.slots) :
    Stand p l e R' (T.setFrames (.invoking m args :: below)) m args below meth c T [] 0 0 := by
  obtain ⟨g₀, hfr⟩ := X.frames_eq
  have hcur : T.cur < T.threads.size := State.cur_lt_of_frames hfr
  obtain ⟨th, hth, -⟩ := State.frames_cons hfr
  have hF : (T.setFrames (.invoking m args :: below)).frames = .invoking m args :: below := State.frames_setFrames _ hcur
  have hlo : (T.setFrames (.invoking m args :: below)).localsInUse = s.localsInUse := by
    rw [State.localsInUse_invoking hF X.method' X.code, State.localsInUse_invoking X.frames X.method X.code]
  have rb := State.hasRoom_plain X.room
  have rr := State.hasRoom_real X.room
  obtain ⟨r1, -, r3, -⟩ := State.hasRoom_stack X.room
  rw [X.frames] at r1
  have hh : (T.setFrames (.invoking m args :: below)).hears m below = true := by
    have h1 : (T.setFrames (.invoking m args :: below)).hears m below = s.hears m below := by
      rcases below with _ | ⟨y, r⟩
      · show ((T.vm.method? m).any _) = ((s.vm.method? m).any _)
        rw [X.warmed.alike.method?]
      · cases y <;> first | rfl | (simp only [State.hears, State.code?_eq]; show _ = _; simp [State.setFrames, X.warmed.alike.method?])
    rw [h1]; exact X.hears
  refine ⟨X.admits, X.cas, X.clock, hF, State.hasRoom_of (by rw [State.stackBytes_setFrames, X.bytes]; exact rb) (by rw [hF]; omega) (by rw [hlo]; omega) (X.cellsAbove hc) (X.slotsAbove hs) X.book (by rw [hlo]; omega), hh, X.method', X.code, X.here, X.tail, State.WarmedH.refl T, by rw [State.stackLimits_setFrames], by rw [State.stackBytes_setFrames], ?_⟩
  have h0 := State.sameButNew.refl T hth
  refine ⟨?_, h0.2⟩
  show T = { (T.setFrames (.invoking m args :: below)).setFrames T.frames with heap := T.heap, slotsUsed := T.slotsUsed }
  rw [State.setFrames_setFrames, State.setFrames_self hth]
theorem hv_lowLays {s0 U : State} (hZ : hv_Z s0 U) {O f d : String} {A A' : Array Value} (h : (Cond.laysStatic O f d).before A s0 = true) : (Cond.laysStatic O f d).before A' U = true := by
  obtain ⟨c, k, i, fd, a, cell, hc, hf, hst, hsta, hcell, hiss, hcls, hlt, hty⟩ := Cond.laysStatic_spec h
  obtain ⟨k', hf', he⟩ := State.fieldFound?_setVm hZ.1.alike hf
  have h1 : U.fieldFound? O f d = some (c, k', i, fd) := hf'
  have h2 : U.vm.findClass O = some c := by rw [hZ.1.alike.findClass]; exact hc
  have h3 : k'.statics = some a := by rw [he]; exact hsta
  have h4 : k'.staticTypes[fd.slot]? = some fd.type := by rw [he]; exact hty
  have h5 : U.heap[a]? = some cell := by rw [hZ.2.2 a (Array.getElem?_eq_some_iff.mp hcell).1]; exact hcell
  simp [Cond.before, Cond.holds, Cond.value, h2, h1, hst, h3, h5, hiss, hcls, hlt, h4]
theorem hv_lowRef {s0 U : State} (hZ : hv_Z s0 U) {C n d : String} {A A' : Array Value} (hl : (Cond.laysStatic C n d).before A s0 = true) (hini : (Cond.initialized C).before A s0 = true) (h : (Cond.isRef (.static C n d)).before A s0 = true) : (Cond.isRef (.static C n d)).before A' U = true := by
  have z0 : va_Zq C n d (hv_A s0.heap.size) s0 s0.heap := va_Zqof hl hini h (fun a h1 h2 => Nat.not_le.mpr h1 h2)
  have z1 : va_Zq C n d (hv_A s0.heap.size) U U.heap := (va_Zq.moved hZ.1.alike z0).kept (fun a h1 _ => hZ.2.2 a h1)
  rcases z1 with ⟨cf, kf, fi, f, a, cell, g1, g2, -, g4, g5, g6, g7, -⟩ | ⟨t, cf, kf, fi, f, a, cell, g1, g2, -, g4, g5, g6, g7, -⟩
  · simp [Cond.before, Cond.holds, Cond.value, Term.eval, State.fieldNamed?, g1, g2, g4, g5, g6, g7]
  · simp [Cond.before, Cond.holds, Cond.value, Term.eval, State.fieldNamed?, g1, g2, g4, g5, g6, g7]
variable {cc : ByteArray} {pc : Nat} {ls : Array Slot} {rest : List Value} {s0 : State} {D : va_G} {w : hv_W} {tys : List (ClassId × FieldType)} {post : Option Value → hv_W → Prop} {postT : Nat → hv_W → Prop}
set_option maxHeartbeats 1000000 in
/-- 'throw new E("text")': the text's constant by an index of one byte (k = 2) or two (k = 3) -/
theorem hv_throwK (k : Nat) {own cls text : String} {names : List String} {ik is ic sa ciE : Nat} {T0 : u_T}
    (hexec : p.tables.exec = Jvm.exec) (hb : c.code = cc) (htr : e.platform.stackTraces = false) (hown : s.vm.findClass own = some m.cls) (hcls : Bundle.fit cls = true) (hnames : ∀ n ∈ names, Bundle.fit n = true)
    (hK : va_K D classes tys s) (hc : classes[ciE]? = some (cls, T0, 0)) (hZ : hv_Z s0 s) (hS : va_S (hv_A s0.heap.size) s.heap H locs) (hP : hv_P D classes s0.heap.size w H)
    (hw : ∀ U : State, hv_Z s0 U → (∀ w ∈ Cond.classLink own ik cls :: Cond.initialized cls :: Bundle.ownAtoms own ic cls names, w.before args U = true) ∧ (Cond.stringRef own is text).before args U = true ∧ (Term.string own is).eval args U none [] U = some (.ref sa))
    (hsize : ls.size = c.maxLocals) (d0 : decode cc pc = .ok (.new ik, 3)) (d3 : decode cc (pc + 3) = .ok (.dup, 1)) (d4 : (k = 2 ∧ decode cc (pc + 4) = .ok (.ldc is, 2)) ∨ (k = 3 ∧ decode cc (pc + 4) = .ok (.ldc_w is, 3))) (d6 : decode cc (pc + 4 + k) = .ok (.invokespecial ic, 3)) (d9 : decode cc (pc + 4 + k + 3) = .ok (.athrow, 1))
    (hout : ∀ z ∈ c.exceptionTable.toList, covers z (pc + 4 + k + 3) = false) (hlocks : meth.locks = false)
    (hRf : names.length + 3 < R.frames) (hRl : (rest.map fun v => v.category).sum + (13 * (names.length + 1) + 43) ≤ R.locals) (hRc : cells + 1 ≤ R.cells) (hRs : slots + 6 ≤ R.slots)
    (hQ : Q = hv_MQ below (hv_Q s0 D post postT) args s (cells + 1) (slots + 6) (hv_A s0.heap.size)) (hq : ∀ x : Nat, w x = none → postT x (va_up w x (some (.inr (ciE, []))))) :
    W p l e R s m args below meth c H locs cells slots Q (F0 m pc ls rest) := by
  subst hQ
  intro T hT X
  have X0 := hv_rebase X (R' := { frames := R.frames, locals := R.locals, cells := 1, slots := 6 }) (Nat.le_refl _) (Nat.le_refl _) hRc hRs
  have hZ' : hv_Z s0 (T.setFrames (.invoking m args :: below)) := (hv_Gof hZ hS hP (t := T.setFrames (.invoking m args :: below)) hT X.warmed).1
  obtain ⟨hws, hsr, hse⟩ := hw _ hZ'
  have hown' : (T.setFrames (.invoking m args :: below)).vm.findClass own = some m.cls := by
    show T.vm.findClass own = some m.cls
    rw [X.warmed.alike.findClass]; exact hown
  obtain ⟨vm₁, cX, kX, hfX, hkX, -, -, X₁, st1⟩ := X0.newCold hexec (own := own) (C := cls) (index := ik) (n := 6) hown' (hws _ List.mem_cons_self) (hws (.instantiable cls 6) (by simp [Bundle.ownAtoms])) (hws (.initialized cls) (by simp)) (g := F0 m pc ls rest) rfl (by rw [hb]; exact d0) (Nat.le_refl _) (Nat.le_refl _)
  generalize hT1 : (T.setVm vm₁).pushCell { cls := cX, slots := kX.instanceTypes.map defaultValue, vm := .none } = T1 at X₁ st1
  have hcellA : T1.heap[T.heap.size]? = some (freshCell cX kX) := by rw [← hT1]; exact State.heap_pushCell_size _ _
  have K : W p l e { frames := R.frames, locals := R.locals, cells := 1, slots := 6 } (T.setFrames (.invoking m args :: below)) m args below meth c T1.heap [] (0 + 1) (0 + 6) (fun U => U.status = .running ∧ Ended U below (.threw T.heap.size) ∧ (T.setFrames (.invoking m args :: below)).WarmedH U.vm ∧ (T.setFrames (.invoking m args :: below)).sameButNew ({ U with vm := (T.setFrames (.invoking m args :: below)).vm } : State) [] (0 + 1) (0 + 6) ∧ ∃ ce, U.heap[T.heap.size]? = some ce ∧ Bundle.OwnCell args (T.setFrames (.invoking m args :: below)) cls T.heap.size (.ref sa) ce) (F0 m (pc + 3) ls (.ref T.heap.size :: rest)) := by
    refine lv_dup hexec hb d3 rfl ?_
    intro T2 hT2 X2
    obtain ⟨U, hsteps, hrun, hend, hW, hsame, ce, hce, Kc⟩ := X2.ctorThrowS hexec htr (own := own) (cls := cls) (names := names) (ic := ic) hown' hcls hnames (fun y hy => hws y (by simp [hy])) (fun y hy => by cases hy) hfX hkX (a := T.heap.size) (by rw [hT2]; exact hcellA) (Nat.le_refl _) (msg := .ref sa) rfl
      (g := F0 m (pc + 4 + k) ls (.ref sa :: .ref T.heap.size :: .ref T.heap.size :: rest)) rfl hsize rfl rfl (rest := rest) rfl (by rw [hb]; exact d6) (by rw [hb]; exact d9) hout hRf (by simp only [List.map_cons, List.sum_cons]; show 2 * 0 + (1 + (rest.map fun v => v.category).sum) + (13 * (names.length + 1) + 42) ≤ R.locals; omega) hlocks
    refine ⟨U, ?_, hrun, hend, hW, hsame, ce, hce, Kc⟩
    rcases d4 with ⟨rfl, d4⟩ | ⟨rfl, d4⟩
    · exact X2.ldcString hexec hown' hsr hse (g := F0 m (pc + 4) ls (.ref T.heap.size :: .ref T.heap.size :: rest)) rfl (by rw [hb]; exact d4) _ hsteps
    · exact X2.ldcStringW hexec hown' hsr hse (g := F0 m (pc + 4) ls (.ref T.heap.size :: .ref T.heap.size :: rest)) rfl (by rw [hb]; exact d4) _ hsteps
  obtain ⟨U, a1, hrun, hend, hW, hsame, ce, hce, Kc⟩ := K T1 rfl X₁
  have hold : ∀ q : Nat, q < T.heap.size → U.heap[q]? = T.heap[q]? := fun q hq => by
    have h9 : (T.setFrames (.invoking m args :: below)).heap[q]? = some T.heap[q] := Array.getElem?_eq_getElem hq
    have h8 : U.heap[q]? = some T.heap[q] := State.sameButNew.old_cell hsame h9
    rw [h8, Array.getElem?_eq_getElem hq]
  have hgrow : T.heap.size ≤ U.heap.size := hsame.2.1
  have hfresh : w T.heap.size = none := by
    cases hw9 : w T.heap.size with
    | none => rfl
    | some f =>
      have h9 := hv_lt hP hw9
      rw [← hT] at h9
      exact absurd h9 (Nat.lt_irrefl _)
  have hZU : hv_Z s0 U := ⟨State.WarmedH.trans hZ'.1 hW, Nat.le_trans hZ'.2.1 hgrow, fun q hq => (hold q (Nat.lt_of_lt_of_le hq hZ'.2.1)).trans (hZ'.2.2 q hq)⟩
  have hPU : hv_P D classes s0.heap.size (va_up w T.heap.size (some (.inr (ciE, [])))) U.heap := by
    intro b f hbf
    by_cases hbx : b = T.heap.size
    · subst hbx
      rw [hv_up_s] at hbf
      cases hbf
      refine ⟨hZ'.2.1, (cls, T0, 0), hc, ce, hce, ?_, Kc.vm, fun k hk => absurd hk (Nat.not_lt_zero k)⟩
      have h1 : s.vm.findClass cls = some (D.1 ciE) := (hK.1 ciE _ hc).2.1
      have h2 : T.vm.findClass cls = some ce.cls := Kc.cls
      rw [X.warmed.alike.findClass, h1] at h2
      exact (Option.some.inj h2).symm
    · rw [hv_up_n hbx] at hbf
      have h1 := hP b f hbf
      exact ⟨h1.1, h1.2.kept (by rw [← hT]; exact hold b (by rw [hT]; exact h1.2.lt))⟩
  refine ⟨U, st1 _ a1, .threw T.heap.size, hrun, hend, ⟨_, ⟨hZU, hPU⟩, hq _ hfresh⟩, locs, ⟨State.WarmedH.trans X.warmed (show T.WarmedH U.vm from hW), ?_⟩, hS.2.2⟩
  have h2 : (T.setVm s.vm).sameButNew ({ U with vm := s.vm } : State) [] (0 + 1) (0 + 6) := by
    refine ⟨?_, hsame.2⟩
    have h9 := congrArg (fun z : State => z.setVm s.vm) hsame.1
    rw [State.setFrames_setFrames] at h9
    exact h9
  have h3 := X.same.trans h2
  rw [List.append_nil, Nat.zero_add, Nat.zero_add] at h3
  exact h3
end HVTHROW
end
section
/-! NUMBERS AND SMALL FUNCTIONS -/
theorem gk_in {n : Int32} {N : Nat} (h0 : ¬ n < 0) (h1 : ¬ nI N ≤ n) (hN : N < 2 ^ 31) : vp_in n N := by
  rw [vp_in_iff]
  rw [Int32.lt_iff_toInt_lt, Int32.toInt_zero] at h0
  rw [Int32.le_iff_toInt_le, nI_toInt hN] at h1
  omega
theorem gk_ge {N i : Nat} (h : nI N ≤ nI i) (hN : N < 2 ^ 31) (hi : i < 2 ^ 31) : N ≤ i := (nI_leI hN hi).mp h
theorem gk_lt {N i : Nat} (h : ¬ nI N ≤ nI i) (hN : N < 2 ^ 31) (hi : i < 2 ^ 31) : i < N := Nat.not_le.mp fun q => h ((nI_leI hN hi).mpr q)
/-- what a table has at an int: nothing outside of its range -/
def gk_sel (f : Nat → Option Nat) (N : Nat) (n : Int32) : Option Nat := if n < 0 ∨ nI N ≤ n then none else f n.toNatClampNeg
theorem gk_sel_lo {f : Nat → Option Nat} {N : Nat} {n : Int32} (h : n < 0) : gk_sel f N n = none := if_pos (Or.inl h)
theorem gk_sel_hi {f : Nat → Option Nat} {N : Nat} {n : Int32} (h : nI N ≤ n) : gk_sel f N n = none := if_pos (Or.inr h)
theorem gk_sel_in {f : Nat → Option Nat} {N : Nat} {n : Int32} (h0 : ¬ n < 0) (h1 : ¬ nI N ≤ n) : gk_sel f N n = f n.toNatClampNeg := if_neg fun q => q.elim h0 h1
theorem gk_sel_nI {f : Nat → Option Nat} {N i : Nat} (h : i < N) (hN : N < 2 ^ 31) : gk_sel f N (nI i) = f i := by
  rw [gk_sel_in (nI_pos (by omega)) (nI_ge h hN), nI_clamp (by omega)]
/-- how many of the first i are there -/
def gk_cnt (f : Nat → Option Nat) : Nat → Nat
  | 0 => 0
  | i + 1 => gk_cnt f i + (if f i = none then 0 else 1)
theorem gk_cnt_le (f : Nat → Option Nat) : ∀ i, gk_cnt f i ≤ i
  | 0 => Nat.le_refl 0
  | i + 1 => by
    have := gk_cnt_le f i
    unfold gk_cnt
    split <;> omega
theorem gk_cnt_n {f : Nat → Option Nat} {i : Nat} (h : f i = none) : nI (gk_cnt f i) + 0 = nI (gk_cnt f (i + 1)) := by
  rw [gk_cnt, if_pos h, Nat.add_zero]
  exact Int32.add_zero _
theorem gk_cnt_s {f : Nat → Option Nat} {i a : Nat} (h : f i = some a) : nI (gk_cnt f i) + 1 = nI (gk_cnt f (i + 1)) := by
  rw [gk_cnt, if_neg (by rw [h]; exact fun q => nomatch q), nI_1]
/-- one cell is new, the others are as they were -/
def hv_U (a : Nat) (e : va_E) (w w' : hv_W) : Prop := w' a = some e ∧ ∀ b, b ≠ a → w' b = w b
theorem hv_U.k {a b : Nat} {e f : va_E} {w w' : hv_W} (h : hv_U a e w w') (hb : w b = some f) (hn : b ≠ a) : w' b = some f := (h.2 b hn).trans hb
theorem gk_sel_some {f : Nat → Option Nat} {N : Nat} {n : Int32} {a : Nat} (h : gk_sel f N n = some a) (hN : N < 2 ^ 31) : ∃ i, i < N ∧ n = nI i ∧ f i = some a := by
  unfold gk_sel at h
  split at h
  · cases h
  · rename_i hc
    obtain ⟨i, hi, e⟩ := vp_in_of (gk_in (fun q => hc (Or.inl q)) (fun q => hc (Or.inr q)) hN) hN
    subst e
    rw [nI_clamp (by omega)] at h
    exact ⟨i, hi, rfl, h⟩
def gk_thing (fN fL : Nat → Option Nat) (k n : Int32) : Option Nat := if k = 4 then gk_sel fN 64 n else if k = 5 then gk_sel fL 96 n else none
def gk_inch (fL : Nat → Option Nat) (lk : Nat → Nat × Int32 × Int32 × Int32) (n d o : Int32) : Int32 := match gk_sel fL 96 n with
  | none => 0
  | some a => if (if o = 0 then (lk a).2.2.1 else (lk a).2.1) = d then 1 else 0
/-- how many of the first i are in the chain -/
def gk_cch (fL : Nat → Option Nat) (lk : Nat → Nat × Int32 × Int32 × Int32) (d o : Int32) : Nat → Nat
  | 0 => 0
  | i + 1 => gk_cch fL lk d o i + (if gk_inch fL lk (nI i) d o = 0 then 0 else 1)
theorem gk_cch_le (fL : Nat → Option Nat) (lk : Nat → Nat × Int32 × Int32 × Int32) (d o : Int32) : ∀ i, gk_cch fL lk d o i ≤ i
  | 0 => Nat.le_refl 0
  | i + 1 => by
    have := gk_cch_le fL lk d o i
    unfold gk_cch
    split <;> omega
theorem gk_cch_n {fL : Nat → Option Nat} {lk : Nat → Nat × Int32 × Int32 × Int32} {d o : Int32} {i : Nat} (h : gk_inch fL lk (nI i) d o = 0) : nI (gk_cch fL lk d o i) + 0 = nI (gk_cch fL lk d o (i + 1)) := by
  rw [gk_cch, if_pos h, Nat.add_zero]
  exact Int32.add_zero _
theorem gk_cch_s {fL : Nat → Option Nat} {lk : Nat → Nat × Int32 × Int32 × Int32} {d o : Int32} {i : Nat} (h : ¬ gk_inch fL lk (nI i) d o = 0) : nI (gk_cch fL lk d o i) + 1 = nI (gk_cch fL lk d o (i + 1)) := by
  rw [gk_cch, if_neg h, nI_1]
/-! the log's numbers -/
def lg_wf (n : Int32) : Int32 := if n = 0 then 0 else n + 1
def lg_wn (t n : Int32) : Int32 := if t ≤ 0 then n else if n < t then n else t - 1
def lg_wt (t n : Int32) : Int32 := if t ≤ 0 then (if 0 < t - n then t - n else 0) else if n < t then (if 0 < t - n then t - n else 0) else 0
theorem lg_wn_a {t n : Int32} (h : t ≤ 0) : lg_wn t n = n := if_pos h
theorem lg_wn_b {t n : Int32} (h : ¬ t ≤ 0) (h2 : n < t) : lg_wn t n = n := by rw [lg_wn, if_neg h, if_pos h2]
theorem lg_wn_c {t n : Int32} (h : ¬ t ≤ 0) (h2 : ¬ n < t) : lg_wn t n = t - 1 := by rw [lg_wn, if_neg h, if_neg h2]
theorem lg_wt_a {t n : Int32} (h : t ≤ 0) : lg_wt t n = if 0 < t - n then t - n else 0 := if_pos h
theorem lg_wt_b {t n : Int32} (h : ¬ t ≤ 0) (h2 : n < t) : lg_wt t n = if 0 < t - n then t - n else 0 := by rw [lg_wt, if_neg h, if_pos h2]
theorem lg_wt_c {t n : Int32} (h : ¬ t ≤ 0) (h2 : ¬ n < t) : lg_wt t n = 0 := by rw [lg_wt, if_neg h, if_neg h2]
theorem gk_cch_n0 {fL : Nat → Option Nat} {lk : Nat → Nat × Int32 × Int32 × Int32} {d o : Int32} {i : Nat} (h : gk_inch fL lk (nI i) d o = 0) : nI (gk_cch fL lk d o i) = nI (gk_cch fL lk d o (i + 1)) := by
  rw [gk_cch, if_pos h, Nat.add_zero]
/-- the k-th of a chain, or none -/
def gk_kth (fL : Nat → Option Nat) (lk : Nat → Nat × Int32 × Int32 × Int32) (d o k r : Int32) : Prop :=
  (∃ i, i < 96 ∧ r = nI i ∧ ¬ gk_inch fL lk (nI i) d o = 0 ∧ k = nI (gk_cch fL lk d o i) ∧ ∀ j, j < i → ¬ gk_inch fL lk (nI j) d o = 0 → ¬ nI (gk_cch fL lk d o j) = k) ∨
  (r = -1 ∧ ∀ j, j < 96 → ¬ gk_inch fL lk (nI j) d o = 0 → ¬ nI (gk_cch fL lk d o j) = k)
theorem gk_kth_n {fL : Nat → Option Nat} {lk : Nat → Nat × Int32 × Int32 × Int32} {d o k : Int32} {i : Nat} (hj : ∀ j, j < i → ¬ gk_inch fL lk (nI j) d o = 0 → ¬ nI (gk_cch fL lk d o j) = k) (h : gk_inch fL lk (nI i) d o = 0) : ∀ j, j < i + 1 → ¬ gk_inch fL lk (nI j) d o = 0 → ¬ nI (gk_cch fL lk d o j) = k := fun j hji hn => by
  rcases Nat.lt_succ_iff_lt_or_eq.mp hji with q | q
  · exact hj j q hn
  · subst q; exact absurd h hn
theorem gk_kth_s {fL : Nat → Option Nat} {lk : Nat → Nat × Int32 × Int32 × Int32} {d o k : Int32} {i : Nat} (hj : ∀ j, j < i → ¬ gk_inch fL lk (nI j) d o = 0 → ¬ nI (gk_cch fL lk d o j) = k) (_h : ¬ gk_inch fL lk (nI i) d o = 0) (h2 : ¬ nI (gk_cch fL lk d o i) = k) : ∀ j, j < i + 1 → ¬ gk_inch fL lk (nI j) d o = 0 → ¬ nI (gk_cch fL lk d o j) = k := fun j hji hn => by
  rcases Nat.lt_succ_iff_lt_or_eq.mp hji with q | q
  · exact hj j q hn
  · subst q; exact h2
/-- i is the first place of x among the first n of f, or n -/
def gk_fst (f : Nat → Int32) (n : Nat) (x : Int32) (i : Nat) : Prop := i ≤ n ∧ (∀ j, j < i → ¬ f j = x) ∧ (i < n → f i = x)
end
section
/-! WHAT THE THINGS ARE: contents, and the cells that hold them; Mu: the addresses that are written again and again (none of a thing's cells is one) -/
abbrev gP : Type := Int32 × Int32 × Int64 × List Int32
abbrev gN : Type := List Int32 × List gP
abbrev gL : Type := (Int32 × Int32 × Int32) × List gP
def g_keep (Mu : Nat → Prop) (w w' : hv_W) : Prop := ∀ (b : Nat) (e : va_E), ¬ Mu b → w b = some e → w' b = some e
def g_grow (w w' : hv_W) : Prop := ∀ (b : Nat) (e : va_E), w b = some e → w' b = some e
theorem g_grow.keep {Mu : Nat → Prop} {w w' : hv_W} (h : g_grow w w') : g_keep Mu w w' := fun b e _ hb => h b e hb
theorem g_grow.refl (w : hv_W) : g_grow w w := fun _ _ h => h
theorem g_grow.trans {w w' w'' : hv_W} (h : g_grow w w') (h' : g_grow w' w'') : g_grow w w'' := fun b e hb => h' b e (h b e hb)
theorem g_keep.refl {Mu : Nat → Prop} (w : hv_W) : g_keep Mu w w := fun _ _ _ h => h
theorem g_keep.trans {Mu : Nat → Prop} {w w' w'' : hv_W} (h : g_keep Mu w w') (h' : g_keep Mu w' w'') : g_keep Mu w w'' := fun b e hm hb => h' b e hm (h b e hm hb)
theorem g_grow.new {w : hv_W} {q : Nat} {e : va_E} (h : w q = none) : g_grow w (va_up w q (some e)) := fun b f hb => hv_up_f h hb
/-- a cell that was made since: what was there before is there as it was -/
theorem g_grow.upd {w w' w'' : hv_W} {q : Nat} {e : va_E} (hq : w q = none) (h : g_grow w w') (hU : hv_U q e w' w'') : g_grow w w'' := fun b f hb => (hU.2 b (hv_ne_f hq hb)).trans (h b f hb)
theorem g_keep.upd {Mu : Nat → Prop} {w w' : hv_W} {q : Nat} {e : va_E} (hm : Mu q) (hU : hv_U q e w w') : g_keep Mu w w' := fun b f hb hf => (hU.2 b (fun z => hb (z ▸ hm))).trans hf
def g_txt (ca : Nat → ClassId) (Mu : Nat → Prop) (w : hv_W) (a : Nat) (xs : List Int32) : Prop := ¬ Mu a ∧ ∃ f : Nat → Int32, w a = some (.inl (ca 1, xs.length, .inl f)) ∧ ∀ i, i < xs.length → f i = xs.getD i 0
def g_int (ca : Nat → ClassId) (Mu : Nat → Prop) (w : hv_W) (a : Nat) (xs : List Int32) : Prop := ¬ Mu a ∧ ∃ f : Nat → Int32, w a = some (.inl (ca 0, xs.length, .inl f)) ∧ ∀ i, i < xs.length → f i = xs.getD i 0
def g_prop (ca : Nat → ClassId) (Mu : Nat → Prop) (w : hv_W) (q : Nat) (p : gP) : Prop := ¬ Mu q ∧ ∃ t : Nat, w q = some (.inr (4, [.int p.1, .int p.2.1, .long p.2.2.1, .ref t])) ∧ g_txt ca Mu w t p.2.2.2
def g_props (ca : Nat → ClassId) (Mu : Nat → Prop) (w : hv_W) (a : Nat) (ps : List gP) : Prop := ¬ Mu a ∧ ∃ f : Nat → Option Nat, w a = some (.inl (ca 4, ps.length, .inr (.inr (.inr (.inr f))))) ∧ ∀ i, i < ps.length → ∃ q p, f i = some q ∧ ps[i]? = some p ∧ g_prop ca Mu w q p
def g_node (ca : Nat → ClassId) (Mu : Nat → Prop) (w : hv_W) (a : Nat) (nd : gN) : Prop := ¬ Mu a ∧ ∃ pa lb : Nat, w a = some (.inr (5, [.ref pa, .ref lb])) ∧ g_int ca Mu w lb nd.1 ∧ g_props ca Mu w pa nd.2
def g_link (ca : Nat → ClassId) (Mu : Nat → Prop) (w : hv_W) (a : Nat) (lk : gL) : Prop := ¬ Mu a ∧ ∃ pa : Nat, w a = some (.inr (6, [.ref pa, .int lk.1.1, .int lk.1.2.1, .int lk.1.2.2])) ∧ g_props ca Mu w pa lk.2
section GKEEP
variable {ca : Nat → ClassId} {Mu : Nat → Prop} {w w' : hv_W} {a : Nat}
theorem g_txt.k {xs : List Int32} (h : g_txt ca Mu w a xs) (k : g_keep Mu w w') : g_txt ca Mu w' a xs := by
  obtain ⟨h1, f, h2, h3⟩ := h
  exact ⟨h1, f, k _ _ h1 h2, h3⟩
theorem g_int.k {xs : List Int32} (h : g_int ca Mu w a xs) (k : g_keep Mu w w') : g_int ca Mu w' a xs := by
  obtain ⟨h1, f, h2, h3⟩ := h
  exact ⟨h1, f, k _ _ h1 h2, h3⟩
theorem g_prop.k {p : gP} (h : g_prop ca Mu w a p) (k : g_keep Mu w w') : g_prop ca Mu w' a p := by
  obtain ⟨h1, t, h2, h3⟩ := h
  exact ⟨h1, t, k _ _ h1 h2, h3.k k⟩
theorem g_props.k {ps : List gP} (h : g_props ca Mu w a ps) (k : g_keep Mu w w') : g_props ca Mu w' a ps := by
  obtain ⟨h1, f, h2, h3⟩ := h
  refine ⟨h1, f, k _ _ h1 h2, fun i hi => ?_⟩
  obtain ⟨q, p, e1, e2, e3⟩ := h3 i hi
  exact ⟨q, p, e1, e2, e3.k k⟩
theorem g_node.k {nd : gN} (h : g_node ca Mu w a nd) (k : g_keep Mu w w') : g_node ca Mu w' a nd := by
  obtain ⟨h1, pa, lb, h2, h3, h4⟩ := h
  exact ⟨h1, pa, lb, k _ _ h1 h2, h3.k k, h4.k k⟩
theorem g_link.k {lk : gL} (h : g_link ca Mu w a lk) (k : g_keep Mu w w') : g_link ca Mu w' a lk := by
  obtain ⟨h1, pa, h2, h3⟩ := h
  exact ⟨h1, pa, k _ _ h1 h2, h3.k k⟩
end GKEEP
/-! lists of ints -/
theorem g_fst_mem {xs : List Int32} {x : Int32} {i : Nat} (h : gk_fst (fun j => xs.getD j 0) xs.length x i) : i < xs.length ↔ x ∈ xs := by
  obtain ⟨h1, h2, h3⟩ := h
  dsimp only at h2 h3
  constructor
  · intro hi
    have := h3 hi
    rw [← this, List.getD_eq_getElem?_getD, List.getElem?_eq_getElem hi]
    exact List.getElem_mem hi
  · intro hx
    rcases Nat.lt_or_ge i xs.length with q | q
    · exact q
    · obtain ⟨j, hj, e⟩ := List.getElem_of_mem hx
      exact absurd (by show xs.getD j 0 = x; rw [List.getD_eq_getElem?_getD, List.getElem?_eq_getElem hj]; exact e) (h2 j (by omega))
theorem g_fst_key {ps : List gP} {i : Nat} {p : gP} (h : ps[i]? = some p) : (ps.map (fun q => q.1)).getD i 0 = p.1 := by
  rw [List.getD_eq_getElem?_getD, List.getElem?_map, h]
  rfl
/-- the property of a key -/
def g_look (ps : List gP) (x : Int32) : Option gP := ps.find? (fun q => q.1 == x)
theorem g_look_of {ps : List gP} {x : Int32} {i : Nat} {p : gP} (h : gk_fst (fun j => (ps.map (fun q => q.1)).getD j 0) ps.length x i) (hi : i < ps.length) (hp : ps[i]? = some p) : g_look ps x = some p := by
  obtain ⟨h1, h2, h3⟩ := h
  dsimp only at h2 h3
  have hpi : p = ps[i] := by rw [List.getElem?_eq_getElem hi] at hp; exact (Option.some.inj hp).symm
  refine List.find?_eq_some_iff_getElem.mpr ⟨?_, i, hi, hpi.symm, fun j hj => ?_⟩
  · have e := h3 hi
    rw [g_fst_key hp] at e
    simp [e]
  · have e := h2 j hj
    have hjl : j < ps.length := by omega
    rw [g_fst_key (List.getElem?_eq_getElem hjl)] at e
    simp [e]
theorem g_look_no {ps : List gP} {x : Int32} {i : Nat} (h : gk_fst (fun j => (ps.map (fun q => q.1)).getD j 0) ps.length x i) (hi : ¬ i < ps.length) : g_look ps x = none := by
  obtain ⟨h1, h2, h3⟩ := h
  dsimp only at h2 h3
  refine List.find?_eq_none.mpr fun p hp => ?_
  obtain ⟨j, hj, e⟩ := List.getElem_of_mem hp
  have e2 := h2 j (by omega)
  rw [g_fst_key (List.getElem?_eq_getElem hj), e] at e2
  simp [e2]
theorem gk_bytes {n b : Nat} (h : n * b ≤ 536870912) : n * b ≤ 536870912 := h
/-- a reference to the property of a key, or none -/
def g_lookq (ca : Nat → ClassId) (Mu : Nat → Prop) (w : hv_W) (ps : List gP) (x : Int32) (r : Option Nat) : Prop := match g_look ps x with
  | none => r = none
  | some p => ∃ q, r = some q ∧ g_prop ca Mu w q p
theorem g_grow.none {w w' : hv_W} {q : Nat} (h : g_grow w w') (hq : w' q = none) : w q = none := by
  cases hw : w q with
  | none => rfl
  | some e => rw [h q e hw] at hq; cases hq
theorem gk_fill {α : Type} {g f : Nat → α} {i : Nat} {v : α} (h : ∀ j, j < i → g j = f j) (hv : v = f i) : ∀ j, j < i + 1 → va_up g i v j = f j := fun j hj => by
  by_cases hji : j = i
  · subst hji; simp [va_up, hv]
  · simp only [va_up, if_neg hji]; exact h j (by omega)
theorem gk_fillI {g f : Nat → Int32} {i : Nat} {v : Int32} (h : ∀ j, j < i → g j = f j) (hv : v = f i) : ∀ j, j < i + 1 → upd g i v j = f j := fun j hj => by
  by_cases hji : j = i
  · subst hji; rw [pk_us, hv]
  · rw [pk_un hji]; exact h j (by omega)
theorem g_app {xs : List Int32} {x : Int32} {g f : Nat → Int32} (h : ∀ j, j < xs.length → g j = f j) (hf : ∀ j, j < xs.length → f j = xs.getD j 0) : ∀ j, j < (xs ++ [x]).length → upd g xs.length x j = (xs ++ [x]).getD j 0 := fun j hj => by
  rw [List.length_append, List.length_singleton] at hj
  rw [List.getD_eq_getElem?_getD]
  by_cases hji : j = xs.length
  · subst hji
    rw [pk_us, List.getElem?_append_right (Nat.le_refl _), Nat.sub_self]
    rfl
  · have hlt : j < xs.length := by omega
    rw [pk_un hji, List.getElem?_append_left hlt, h j hlt, hf j hlt, List.getD_eq_getElem?_getD]
theorem g_rem {xs : List Int32} {i : Nat} {g : Nat → Int32} (hi : i < xs.length) (h : ∀ j, j < xs.length - 1 → g j = xs.getD (if j < i then j else j + 1) 0) : ∀ j, j < (xs.eraseIdx i).length → g j = (xs.eraseIdx i).getD j 0 := fun j hj => by
  rw [List.length_eraseIdx_of_lt hi] at hj
  rw [h j hj, List.getD_eq_getElem?_getD, List.getD_eq_getElem?_getD, List.getElem?_eraseIdx]
  split <;> rfl
end
section
abbrev rm_Lg_writesFor : Room := { frames := 0, cells := 0, slots := 0, locals := 0 }
set_option maxHeartbeats 4000000 in
set_option maxRecDepth 100000 in
theorem c_Lg_writesFor {l : Launch} {s0 : State} {D : va_G} {ca : Nat → ClassId} (C : hv_C l s0 D (hv_tys ca)) {w : hv_W} (n : Int32)  :
    hv_Met l y_Lg_writesFor [.code y_Lg_writesFor b_Lg_writesFor 1 (some .int)] rm_Lg_writesFor (hv_Pc s0 D w [.int n]) (hv_Q s0 D (fun v w' => v = some (.int (lg_wf n)) ∧ w' = w) (fun _ _ => False)) 0 0 (hv_A s0.heap.size) := by
  refine hv_enter C _ (by decide) (Nat.le_of_ble_eq_true rfl) ?_
  intro p e s m below meth c ls Q hQ hx hb hr hml hown hts hK hZ hlocks hname hout htr hP hl
  have hown : s.vm.findClass R_Lg = some m.cls := hown
  have hS : va_S (hv_A s0.heap.size) s.heap s.heap [] := va_S.rf
  have hl : lv_has ls 1 [(0, .int n)] := hl
  refine lv_iload_n hx hb d_Lg_writesFor_0 rfl (lv_at hl 0 rfl) ?_
  refine lv_if_ne (tgt := 8) hx hb d_Lg_writesFor_1 (by decide) (fun c1 => ?_) (fun c1 => ?_)
  · refine lv_iload_n hx hb d_Lg_writesFor_8 rfl (lv_at hl 0 rfl) ?_
    refine lv_iconst (v := 1) hx hb d_Lg_writesFor_9 (by decide) ?_
    refine lv_iadd hx hb d_Lg_writesFor_10 ?_
    exact hv_iret (v := n + 1) hQ hx hb hr hZ hS hP hlocks d_Lg_writesFor_11 (⟨by rw [lg_wf, if_neg c1], rfl⟩)
  · refine lv_iconst (v := 0) hx hb d_Lg_writesFor_4 (by decide) ?_
    refine lv_goto (tgt := 11) hx hb d_Lg_writesFor_5 (by decide) ?_
    exact hv_iret (v := 0) hQ hx hb hr hZ hS hP hlocks d_Lg_writesFor_11 (⟨by rw [lg_wf, if_pos c1], rfl⟩)

abbrev rm_Lg_hasRoom : Room := { frames := 1, cells := 0, slots := 0, locals := 20 }
set_option maxHeartbeats 4000000 in
set_option maxRecDepth 100000 in
theorem c_Lg_hasRoom {l : Launch} {s0 : State} {D : va_G} {ca : Nat → ClassId} (C : hv_C l s0 D (hv_tys ca)) {w : hv_W} {g : Nat} {wr en lo tr ti : Int32} (n : Int32) (h0 : w g = some (.inr (2, [.int wr, .int en, .int lo, .int tr, .int ti])))  :
    hv_Met l y_Lg_hasRoom [.code y_Lg_hasRoom b_Lg_hasRoom 2 (some .boolean)] rm_Lg_hasRoom (hv_Pc s0 D w [.ref g, .int n]) (hv_Q s0 D (fun v w' => v = some (.int (if 250 < en + lg_wf n then 0 else 1)) ∧ w' = w) (fun _ _ => False)) 0 0 (hv_A s0.heap.size) := by
  refine hv_enter C _ (by decide) (Nat.le_of_ble_eq_true rfl) ?_
  intro p e s m below meth c ls Q hQ hx hb hr hml hown hts hK hZ hlocks hname hout htr hP hl
  have hown : s.vm.findClass R_Lg = some m.cls := hown
  have hS : va_S (hv_A s0.heap.size) s.heap s.heap [] := va_S.rf
  have hl : lv_has ls 2 [(0, .ref g), (1, .int n)] := hl
  refine lv_aload_n hx hb d_Lg_hasRoom_0 rfl (lv_at hl 0 rfl) ?_
  refine va_get (D := D) (ci := 2) (v := .int en) (C := R_Lg) (T := F_Lg) (N := 5) hx hb hts i_Lg hown hK (hv_one hP h0) 0 rfl rfl 1 (by decide) (hts _ k_Lg_9) (fun _ h9 => h9) rfl d_Lg_hasRoom_1 ?_
  refine lv_iload_n hx hb d_Lg_hasRoom_4 rfl (lv_at hl 1 rfl) ?_
  refine hv_call (hv_runS (As := [.int n]) (rest := [.int en]) (c_Lg_writesFor C n) (hv_cw C hZ kc_Lg_writesFor kn_Lg ⟨rfl, rfl, Nat.le_of_ble_eq_true rfl, Nat.le_of_ble_eq_true rfl⟩) hv_blind (hv_pre hZ hS hP) hx hml hb hown (hts _ k_Lg_15) (hts _ ki_Lg_writesFor) (hts _ kn_Lg) hy_Lg_writesFor (hv_sig (hts _ kc_Lg_writesFor)) rfl hl.1 rfl (lv_room (Nat.le_of_ble_eq_true rfl)) d_Lg_hasRoom_5 ⟨Nat.le_of_ble_eq_true rfl, Nat.le_of_ble_eq_true rfl⟩) hZ hS (fun v9 w1 H locs q2 hP hS => ?_) (fun x9 w1 H locs q2 hP hS => q2.elim)
  obtain ⟨hv9, hw9⟩ := q2
  subst hv9
  rw [hw9] at hP
  show W _ _ _ _ _ _ _ _ _ _ _ _ _ _ _ (F0 m 8 ls [.int (lg_wf n), .int en])
  refine lv_iadd hx hb d_Lg_hasRoom_8 ?_
  refine lv_sipush (v := 250) hx hb d_Lg_hasRoom_9 (by decide) ?_
  refine lv_icmp_gt (tgt := 19) hx hb d_Lg_hasRoom_12 (by decide) (fun c12 => ?_) (fun c12 => ?_)
  · refine lv_iconst (v := 0) hx hb d_Lg_hasRoom_19 (by decide) ?_
    exact hv_zret (v := 0) hQ hx hb hr (by decide) hZ hS hP hlocks d_Lg_hasRoom_20 (⟨by rw [if_pos c12], rfl⟩)
  · refine lv_iconst (v := 1) hx hb d_Lg_hasRoom_15 (by decide) ?_
    refine lv_goto (tgt := 20) hx hb d_Lg_hasRoom_16 (by decide) ?_
    exact hv_zret (v := 1) hQ hx hb hr (by decide) hZ hS hP hlocks d_Lg_hasRoom_20 (⟨by rw [if_neg c12], rfl⟩)

abbrev rm_Lg_failAt : Room := { frames := 0, cells := 0, slots := 0, locals := 0 }
set_option maxHeartbeats 4000000 in
set_option maxRecDepth 100000 in
theorem c_Lg_failAt {l : Launch} {s0 : State} {D : va_G} {ca : Nat → ClassId} (C : hv_C l s0 D (hv_tys ca)) {w : hv_W} {g : Nat} {wr en lo tr ti : Int32} (n : Int32) (h0 : w g = some (.inr (2, [.int wr, .int en, .int lo, .int tr, .int ti])))  :
    hv_Met l y_Lg_failAt [.code y_Lg_failAt b_Lg_failAt 2 none] rm_Lg_failAt (hv_Pc s0 D w [.ref g, .int n]) (hv_Q s0 D (fun v w' => v = none ∧ hv_U g (.inr (2, [.int wr, .int en, .int lo, .int tr, .int n])) w w') (fun _ _ => False)) 0 0 (hv_A s0.heap.size) := by
  refine hv_enter C _ (by decide) (Nat.le_of_ble_eq_true rfl) ?_
  intro p e s m below meth c ls Q hQ hx hb hr hml hown hts hK hZ hlocks hname hout htr hP hl
  have hown : s.vm.findClass R_Lg = some m.cls := hown
  have hS : va_S (hv_A s0.heap.size) s.heap s.heap [] := va_S.rf
  have hl : lv_has ls 2 [(0, .ref g), (1, .int n)] := hl
  refine lv_aload_n hx hb d_Lg_failAt_0 rfl (lv_at hl 0 rfl) ?_
  refine lv_iload_n hx hb d_Lg_failAt_1 rfl (lv_at hl 1 rfl) ?_
  refine hv_put (D := D) (ci := 2) (v := .int n) (ty := .int) (C := R_Lg) (T := F_Lg) (N := 5) hx hb hts i_Lg t_Lg t_Lg_ok n_Lg hown hK hP hS h0 rfl 4 (by decide) (hts _ k_Lg_19) (fun _ h9 => h9) rfl (by decide +kernel) rfl rfl (Nat.le_of_ble_eq_true rfl) d_Lg_failAt_2 (fun H locs hP hS => ?_)
  obtain ⟨w1, ew1⟩ : ∃ z : hv_W, z = va_up w g (some (.inr (2, [.int wr, .int en, .int lo, .int tr, .int n]))) := ⟨_, rfl⟩
  have hP : hv_P D classes s0.heap.size w1 H := by rw [ew1]; exact hP
  have h2 : w1 g = some (.inr (2, [.int wr, .int en, .int lo, .int tr, .int n])) := by rw [ew1]; exact hv_up_s
  exact hv_vret hQ hx hb hr hZ hS hP hlocks d_Lg_failAt_5 (⟨rfl, h2, fun b9 hb9 => by rw [ew1, hv_up_n hb9]⟩)

abbrev rm_Lg_reopen : Room := { frames := 0, cells := 0, slots := 0, locals := 0 }
set_option maxHeartbeats 4000000 in
set_option maxRecDepth 100000 in
theorem c_Lg_reopen {l : Launch} {s0 : State} {D : va_G} {ca : Nat → ClassId} (C : hv_C l s0 D (hv_tys ca)) {w : hv_W} {g : Nat} {wr en lo tr ti : Int32} (h0 : w g = some (.inr (2, [.int wr, .int en, .int lo, .int tr, .int ti])))  :
    hv_Met l y_Lg_reopen [.code y_Lg_reopen b_Lg_reopen 1 (some .int)] rm_Lg_reopen (hv_Pc s0 D w [.ref g]) (hv_Q s0 D (fun v w' => v = some (.int tr) ∧ hv_U g (.inr (2, [.int wr, .int en, .int 0, .int tr, .int 0])) w w') (fun _ _ => False)) 0 0 (hv_A s0.heap.size) := by
  refine hv_enter C _ (by decide) (Nat.le_of_ble_eq_true rfl) ?_
  intro p e s m below meth c ls Q hQ hx hb hr hml hown hts hK hZ hlocks hname hout htr hP hl
  have hown : s.vm.findClass R_Lg = some m.cls := hown
  have hS : va_S (hv_A s0.heap.size) s.heap s.heap [] := va_S.rf
  have hl : lv_has ls 1 [(0, .ref g)] := hl
  refine lv_aload_n hx hb d_Lg_reopen_0 rfl (lv_at hl 0 rfl) ?_
  refine lv_iconst (v := 0) hx hb d_Lg_reopen_1 (by decide) ?_
  refine hv_put (D := D) (ci := 2) (v := .int 0) (ty := .int) (C := R_Lg) (T := F_Lg) (N := 5) hx hb hts i_Lg t_Lg t_Lg_ok n_Lg hown hK hP hS h0 rfl 2 (by decide) (hts _ k_Lg_25) (fun _ h9 => h9) rfl (by decide +kernel) rfl rfl (Nat.le_of_ble_eq_true rfl) d_Lg_reopen_2 (fun H locs hP hS => ?_)
  obtain ⟨w1, ew1⟩ : ∃ z : hv_W, z = va_up w g (some (.inr (2, [.int wr, .int en, .int 0, .int tr, .int ti]))) := ⟨_, rfl⟩
  have hP : hv_P D classes s0.heap.size w1 H := by rw [ew1]; exact hP
  have h2 : w1 g = some (.inr (2, [.int wr, .int en, .int 0, .int tr, .int ti])) := by rw [ew1]; exact hv_up_s
  refine lv_aload_n hx hb d_Lg_reopen_5 rfl (lv_at hl 0 rfl) ?_
  refine lv_iconst (v := 0) hx hb d_Lg_reopen_6 (by decide) ?_
  refine hv_put (D := D) (ci := 2) (v := .int 0) (ty := .int) (C := R_Lg) (T := F_Lg) (N := 5) hx hb hts i_Lg t_Lg t_Lg_ok n_Lg hown hK hP hS h2 rfl 4 (by decide) (hts _ k_Lg_19) (fun _ h9 => h9) rfl (by decide +kernel) rfl rfl (Nat.le_of_ble_eq_true rfl) d_Lg_reopen_7 (fun H locs hP hS => ?_)
  obtain ⟨w3, ew3⟩ : ∃ z : hv_W, z = va_up w1 g (some (.inr (2, [.int wr, .int en, .int 0, .int tr, .int 0]))) := ⟨_, rfl⟩
  have hP : hv_P D classes s0.heap.size w3 H := by rw [ew3]; exact hP
  have h4 : w3 g = some (.inr (2, [.int wr, .int en, .int 0, .int tr, .int 0])) := by rw [ew3]; exact hv_up_s
  refine lv_aload_n hx hb d_Lg_reopen_10 rfl (lv_at hl 0 rfl) ?_
  refine va_get (D := D) (ci := 2) (v := .int tr) (C := R_Lg) (T := F_Lg) (N := 5) hx hb hts i_Lg hown hK (hv_one hP h4) 0 rfl rfl 3 (by decide) (hts _ k_Lg_28) (fun _ h9 => h9) rfl d_Lg_reopen_11 ?_
  exact hv_iret (v := tr) hQ hx hb hr hZ hS hP hlocks d_Lg_reopen_14 (⟨rfl, h4, fun b9 hb9 => by rw [ew3, hv_up_n hb9, ew1, hv_up_n hb9]⟩)

abbrev rm_Lg_write : Room := { frames := 1, cells := 0, slots := 0, locals := 14 }
set_option maxHeartbeats 4000000 in
set_option maxRecDepth 100000 in
theorem c_Lg_write {l : Launch} {s0 : State} {D : va_G} {ca : Nat → ClassId} (C : hv_C l s0 D (hv_tys ca)) {w : hv_W} {g : Nat} {wr en lo tr ti : Int32} (n : Int32) (h0 : w g = some (.inr (2, [.int wr, .int en, .int lo, .int tr, .int ti])))  :
    hv_Met l y_Lg_write [.code y_Lg_write b_Lg_write 4 (some .int)] rm_Lg_write (hv_Pc s0 D w [.ref g, .int n]) (hv_Q s0 D (fun v w' => v = some (.int (lg_wn ti n)) ∧ hv_U g (.inr (2, [.int (wr + lg_wn ti n), .int en, .int lo, .int tr, .int (lg_wt ti n)])) w w') (fun _ _ => False)) 0 0 (hv_A s0.heap.size) := by
  refine hv_enter C _ (by decide) (Nat.le_of_ble_eq_true rfl) ?_
  intro p e s m below meth c ls Q hQ hx hb hr hml hown hts hK hZ hlocks hname hout htr hP hl
  have hown : s.vm.findClass R_Lg = some m.cls := hown
  have hS : va_S (hv_A s0.heap.size) s.heap s.heap [] := va_S.rf
  have hl : lv_has ls 4 [(0, .ref g), (1, .int n)] := hl
  refine lv_aload_n hx hb d_Lg_write_0 rfl (lv_at hl 0 rfl) ?_
  refine va_get (D := D) (ci := 2) (v := .int ti) (C := R_Lg) (T := F_Lg) (N := 5) hx hb hts i_Lg hown hK (hv_one hP h0) 0 rfl rfl 4 (by decide) (hts _ k_Lg_19) (fun _ h9 => h9) rfl d_Lg_write_1 ?_
  refine lv_if_le (tgt := 19) hx hb d_Lg_write_4 (by decide) (fun c4 => ?_) (fun c4 => ?_)
  · refine lv_iconst (v := 0) hx hb d_Lg_write_19 (by decide) ?_
    refine lv_istore_n (lv' := [(2, .int 0), (0, .ref g), (1, .int n)]) hx hb d_Lg_write_20 rfl hl (by decide) rfl (fun ls hl => ?_)
    refine lv_iload_n hx hb d_Lg_write_21 rfl (lv_at hl 0 rfl) ?_
    refine lv_if_eq (tgt := 34) hx hb d_Lg_write_22 (by decide) (fun c22 => ?_) (fun c22 => ?_)
    · refine lv_iload_n hx hb d_Lg_write_34 rfl (lv_at hl 2 rfl) ?_
      refine lv_topi (fun v9 e9 => ?_)
      have e9 : v9 = lg_wn ti n := e9.trans ((by rw [lg_wn_a c4]))
      subst e9
      show W _ _ _ _ _ _ _ _ _ _ _ _ _ _ _ (F0 m 35 ls [.int (lg_wn ti n)])
      refine lv_istore_n (lv' := [(3, .int (lg_wn ti n)), (2, .int 0), (0, .ref g), (1, .int n)]) hx hb d_Lg_write_35 rfl hl (by decide) rfl (fun ls hl => ?_)
      refine lv_aload_n hx hb d_Lg_write_36 rfl (lv_at hl 2 rfl) ?_
      refine lv_iload_n hx hb d_Lg_write_37 rfl (lv_at hl 1 rfl) ?_
      refine lv_if_eq (tgt := 45) hx hb d_Lg_write_38 (by decide) (fun c38 => ?_) (fun c38 => ?_)
      · refine lv_iconst (v := 0) hx hb d_Lg_write_45 (by decide) ?_
        refine lv_aload_n hx hb d_Lg_write_46 rfl (lv_at hl 2 rfl) ?_
        refine va_get (D := D) (ci := 2) (v := .int ti) (C := R_Lg) (T := F_Lg) (N := 5) hx hb hts i_Lg hown hK (hv_one hP h0) 0 rfl rfl 4 (by decide) (hts _ k_Lg_19) (fun _ h9 => h9) rfl d_Lg_write_47 ?_
        refine lv_iload_n hx hb d_Lg_write_50 rfl (lv_at hl 3 rfl) ?_
        refine lv_isub hx hb d_Lg_write_51 ?_
        refine va_mmax hx hb (hml.trans hl.1.symm) hown (hts _ k_Lg_31) (hts _ ki_mmax) (hts _ kn_Math) (hts _ kc_mmax) (Nat.le_of_ble_eq_true rfl) (Nat.le_of_ble_eq_true rfl) (Nat.le_of_ble_eq_true rfl) (Nat.le_of_ble_eq_true rfl) d_Lg_write_52 ?_
        refine lv_topi (fun v9 e9 => ?_)
        have e9 : v9 = lg_wt ti n := e9.trans ((by rw [lg_wt_a c4]))
        subst e9
        show W _ _ _ _ _ _ _ _ _ _ _ _ _ _ _ (F0 m 55 ls [.int (lg_wt ti n), .ref g])
        refine hv_put (D := D) (ci := 2) (v := .int (lg_wt ti n)) (ty := .int) (C := R_Lg) (T := F_Lg) (N := 5) hx hb hts i_Lg t_Lg t_Lg_ok n_Lg hown hK hP hS h0 rfl 4 (by decide) (hts _ k_Lg_19) (fun _ h9 => h9) rfl (by decide +kernel) rfl rfl (Nat.le_of_ble_eq_true rfl) d_Lg_write_55 (fun H locs hP hS => ?_)
        obtain ⟨w1, ew1⟩ : ∃ z : hv_W, z = va_up w g (some (.inr (2, [.int wr, .int en, .int lo, .int tr, .int (lg_wt ti n)]))) := ⟨_, rfl⟩
        have hP : hv_P D classes s0.heap.size w1 H := by rw [ew1]; exact hP
        have h2 : w1 g = some (.inr (2, [.int wr, .int en, .int lo, .int tr, .int (lg_wt ti n)])) := by rw [ew1]; exact hv_up_s
        refine lv_aload_n hx hb d_Lg_write_58 rfl (lv_at hl 2 rfl) ?_
        refine lv_dup hx hb d_Lg_write_59 rfl ?_
        refine va_get (D := D) (ci := 2) (v := .int wr) (C := R_Lg) (T := F_Lg) (N := 5) hx hb hts i_Lg hown hK (hv_one hP h2) 0 rfl rfl 0 (by decide) (hts _ k_Lg_37) (fun _ h9 => h9) rfl d_Lg_write_60 ?_
        refine lv_iload_n hx hb d_Lg_write_63 rfl (lv_at hl 0 rfl) ?_
        refine lv_iadd hx hb d_Lg_write_64 ?_
        refine hv_put (D := D) (ci := 2) (v := .int (wr + (lg_wn ti n))) (ty := .int) (C := R_Lg) (T := F_Lg) (N := 5) hx hb hts i_Lg t_Lg t_Lg_ok n_Lg hown hK hP hS h2 rfl 0 (by decide) (hts _ k_Lg_37) (fun _ h9 => h9) rfl (by decide +kernel) rfl rfl (Nat.le_of_ble_eq_true rfl) d_Lg_write_65 (fun H locs hP hS => ?_)
        obtain ⟨w3, ew3⟩ : ∃ z : hv_W, z = va_up w1 g (some (.inr (2, [.int (wr + (lg_wn ti n)), .int en, .int lo, .int tr, .int (lg_wt ti n)]))) := ⟨_, rfl⟩
        have hP : hv_P D classes s0.heap.size w3 H := by rw [ew3]; exact hP
        have h4 : w3 g = some (.inr (2, [.int (wr + (lg_wn ti n)), .int en, .int lo, .int tr, .int (lg_wt ti n)])) := by rw [ew3]; exact hv_up_s
        refine lv_iload_n hx hb d_Lg_write_68 rfl (lv_at hl 0 rfl) ?_
        exact hv_iret (v := lg_wn ti n) hQ hx hb hr hZ hS hP hlocks d_Lg_write_69 (⟨rfl, h4, fun b9 hb9 => by rw [ew3, hv_up_n hb9, ew1, hv_up_n hb9]⟩)
      · exact absurd c38 (by decide)
    · exact absurd c22 (by decide)
  · refine lv_aload_n hx hb d_Lg_write_7 rfl (lv_at hl 0 rfl) ?_
    refine va_get (D := D) (ci := 2) (v := .int ti) (C := R_Lg) (T := F_Lg) (N := 5) hx hb hts i_Lg hown hK (hv_one hP h0) 0 rfl rfl 4 (by decide) (hts _ k_Lg_19) (fun _ h9 => h9) rfl d_Lg_write_8 ?_
    refine lv_iload_n hx hb d_Lg_write_11 rfl (lv_at hl 1 rfl) ?_
    refine lv_icmp_gt (tgt := 19) hx hb d_Lg_write_12 (by decide) (fun c12 => ?_) (fun c12 => ?_)
    · refine lv_iconst (v := 0) hx hb d_Lg_write_19 (by decide) ?_
      refine lv_istore_n (lv' := [(2, .int 0), (0, .ref g), (1, .int n)]) hx hb d_Lg_write_20 rfl hl (by decide) rfl (fun ls hl => ?_)
      refine lv_iload_n hx hb d_Lg_write_21 rfl (lv_at hl 0 rfl) ?_
      refine lv_if_eq (tgt := 34) hx hb d_Lg_write_22 (by decide) (fun c22 => ?_) (fun c22 => ?_)
      · refine lv_iload_n hx hb d_Lg_write_34 rfl (lv_at hl 2 rfl) ?_
        refine lv_topi (fun v9 e9 => ?_)
        have e9 : v9 = lg_wn ti n := e9.trans ((by rw [lg_wn_b c4 c12]))
        subst e9
        show W _ _ _ _ _ _ _ _ _ _ _ _ _ _ _ (F0 m 35 ls [.int (lg_wn ti n)])
        refine lv_istore_n (lv' := [(3, .int (lg_wn ti n)), (2, .int 0), (0, .ref g), (1, .int n)]) hx hb d_Lg_write_35 rfl hl (by decide) rfl (fun ls hl => ?_)
        refine lv_aload_n hx hb d_Lg_write_36 rfl (lv_at hl 2 rfl) ?_
        refine lv_iload_n hx hb d_Lg_write_37 rfl (lv_at hl 1 rfl) ?_
        refine lv_if_eq (tgt := 45) hx hb d_Lg_write_38 (by decide) (fun c38 => ?_) (fun c38 => ?_)
        · refine lv_iconst (v := 0) hx hb d_Lg_write_45 (by decide) ?_
          refine lv_aload_n hx hb d_Lg_write_46 rfl (lv_at hl 2 rfl) ?_
          refine va_get (D := D) (ci := 2) (v := .int ti) (C := R_Lg) (T := F_Lg) (N := 5) hx hb hts i_Lg hown hK (hv_one hP h0) 0 rfl rfl 4 (by decide) (hts _ k_Lg_19) (fun _ h9 => h9) rfl d_Lg_write_47 ?_
          refine lv_iload_n hx hb d_Lg_write_50 rfl (lv_at hl 3 rfl) ?_
          refine lv_isub hx hb d_Lg_write_51 ?_
          refine va_mmax hx hb (hml.trans hl.1.symm) hown (hts _ k_Lg_31) (hts _ ki_mmax) (hts _ kn_Math) (hts _ kc_mmax) (Nat.le_of_ble_eq_true rfl) (Nat.le_of_ble_eq_true rfl) (Nat.le_of_ble_eq_true rfl) (Nat.le_of_ble_eq_true rfl) d_Lg_write_52 ?_
          refine lv_topi (fun v9 e9 => ?_)
          have e9 : v9 = lg_wt ti n := e9.trans ((by rw [lg_wt_b c4 c12]))
          subst e9
          show W _ _ _ _ _ _ _ _ _ _ _ _ _ _ _ (F0 m 55 ls [.int (lg_wt ti n), .ref g])
          refine hv_put (D := D) (ci := 2) (v := .int (lg_wt ti n)) (ty := .int) (C := R_Lg) (T := F_Lg) (N := 5) hx hb hts i_Lg t_Lg t_Lg_ok n_Lg hown hK hP hS h0 rfl 4 (by decide) (hts _ k_Lg_19) (fun _ h9 => h9) rfl (by decide +kernel) rfl rfl (Nat.le_of_ble_eq_true rfl) d_Lg_write_55 (fun H locs hP hS => ?_)
          obtain ⟨w5, ew5⟩ : ∃ z : hv_W, z = va_up w g (some (.inr (2, [.int wr, .int en, .int lo, .int tr, .int (lg_wt ti n)]))) := ⟨_, rfl⟩
          have hP : hv_P D classes s0.heap.size w5 H := by rw [ew5]; exact hP
          have h6 : w5 g = some (.inr (2, [.int wr, .int en, .int lo, .int tr, .int (lg_wt ti n)])) := by rw [ew5]; exact hv_up_s
          refine lv_aload_n hx hb d_Lg_write_58 rfl (lv_at hl 2 rfl) ?_
          refine lv_dup hx hb d_Lg_write_59 rfl ?_
          refine va_get (D := D) (ci := 2) (v := .int wr) (C := R_Lg) (T := F_Lg) (N := 5) hx hb hts i_Lg hown hK (hv_one hP h6) 0 rfl rfl 0 (by decide) (hts _ k_Lg_37) (fun _ h9 => h9) rfl d_Lg_write_60 ?_
          refine lv_iload_n hx hb d_Lg_write_63 rfl (lv_at hl 0 rfl) ?_
          refine lv_iadd hx hb d_Lg_write_64 ?_
          refine hv_put (D := D) (ci := 2) (v := .int (wr + (lg_wn ti n))) (ty := .int) (C := R_Lg) (T := F_Lg) (N := 5) hx hb hts i_Lg t_Lg t_Lg_ok n_Lg hown hK hP hS h6 rfl 0 (by decide) (hts _ k_Lg_37) (fun _ h9 => h9) rfl (by decide +kernel) rfl rfl (Nat.le_of_ble_eq_true rfl) d_Lg_write_65 (fun H locs hP hS => ?_)
          obtain ⟨w7, ew7⟩ : ∃ z : hv_W, z = va_up w5 g (some (.inr (2, [.int (wr + (lg_wn ti n)), .int en, .int lo, .int tr, .int (lg_wt ti n)]))) := ⟨_, rfl⟩
          have hP : hv_P D classes s0.heap.size w7 H := by rw [ew7]; exact hP
          have h8 : w7 g = some (.inr (2, [.int (wr + (lg_wn ti n)), .int en, .int lo, .int tr, .int (lg_wt ti n)])) := by rw [ew7]; exact hv_up_s
          refine lv_iload_n hx hb d_Lg_write_68 rfl (lv_at hl 0 rfl) ?_
          exact hv_iret (v := lg_wn ti n) hQ hx hb hr hZ hS hP hlocks d_Lg_write_69 (⟨rfl, h8, fun b9 hb9 => by rw [ew7, hv_up_n hb9, ew5, hv_up_n hb9]⟩)
        · exact absurd c38 (by decide)
      · exact absurd c22 (by decide)
    · refine lv_iconst (v := 1) hx hb d_Lg_write_15 (by decide) ?_
      refine lv_goto (tgt := 20) hx hb d_Lg_write_16 (by decide) ?_
      refine lv_istore_n (lv' := [(2, .int 1), (0, .ref g), (1, .int n)]) hx hb d_Lg_write_20 rfl hl (by decide) rfl (fun ls hl => ?_)
      refine lv_iload_n hx hb d_Lg_write_21 rfl (lv_at hl 0 rfl) ?_
      refine lv_if_eq (tgt := 34) hx hb d_Lg_write_22 (by decide) (fun c22 => ?_) (fun c22 => ?_)
      · exact absurd c22 (by decide)
      · refine lv_aload_n hx hb d_Lg_write_25 rfl (lv_at hl 1 rfl) ?_
        refine va_get (D := D) (ci := 2) (v := .int ti) (C := R_Lg) (T := F_Lg) (N := 5) hx hb hts i_Lg hown hK (hv_one hP h0) 0 rfl rfl 4 (by decide) (hts _ k_Lg_19) (fun _ h9 => h9) rfl d_Lg_write_26 ?_
        refine lv_iconst (v := 1) hx hb d_Lg_write_29 (by decide) ?_
        refine lv_isub hx hb d_Lg_write_30 ?_
        refine lv_goto (tgt := 35) hx hb d_Lg_write_31 (by decide) ?_
        refine lv_topi (fun v9 e9 => ?_)
        have e9 : v9 = lg_wn ti n := e9.trans ((by rw [lg_wn_c c4 c12]))
        subst e9
        show W _ _ _ _ _ _ _ _ _ _ _ _ _ _ _ (F0 m 35 ls [.int (lg_wn ti n)])
        refine lv_istore_n (lv' := [(3, .int (lg_wn ti n)), (2, .int 1), (0, .ref g), (1, .int n)]) hx hb d_Lg_write_35 rfl hl (by decide) rfl (fun ls hl => ?_)
        refine lv_aload_n hx hb d_Lg_write_36 rfl (lv_at hl 2 rfl) ?_
        refine lv_iload_n hx hb d_Lg_write_37 rfl (lv_at hl 1 rfl) ?_
        refine lv_if_eq (tgt := 45) hx hb d_Lg_write_38 (by decide) (fun c38 => ?_) (fun c38 => ?_)
        · exact absurd c38 (by decide)
        · refine lv_iconst (v := 0) hx hb d_Lg_write_41 (by decide) ?_
          refine lv_goto (tgt := 55) hx hb d_Lg_write_42 (by decide) ?_
          refine lv_topi (fun v9 e9 => ?_)
          have e9 : v9 = lg_wt ti n := e9.trans ((by rw [lg_wt_c c4 c12]))
          subst e9
          show W _ _ _ _ _ _ _ _ _ _ _ _ _ _ _ (F0 m 55 ls [.int (lg_wt ti n), .ref g])
          refine hv_put (D := D) (ci := 2) (v := .int (lg_wt ti n)) (ty := .int) (C := R_Lg) (T := F_Lg) (N := 5) hx hb hts i_Lg t_Lg t_Lg_ok n_Lg hown hK hP hS h0 rfl 4 (by decide) (hts _ k_Lg_19) (fun _ h9 => h9) rfl (by decide +kernel) rfl rfl (Nat.le_of_ble_eq_true rfl) d_Lg_write_55 (fun H locs hP hS => ?_)
          obtain ⟨w9, ew9⟩ : ∃ z : hv_W, z = va_up w g (some (.inr (2, [.int wr, .int en, .int lo, .int tr, .int (lg_wt ti n)]))) := ⟨_, rfl⟩
          have hP : hv_P D classes s0.heap.size w9 H := by rw [ew9]; exact hP
          have h10 : w9 g = some (.inr (2, [.int wr, .int en, .int lo, .int tr, .int (lg_wt ti n)])) := by rw [ew9]; exact hv_up_s
          refine lv_aload_n hx hb d_Lg_write_58 rfl (lv_at hl 2 rfl) ?_
          refine lv_dup hx hb d_Lg_write_59 rfl ?_
          refine va_get (D := D) (ci := 2) (v := .int wr) (C := R_Lg) (T := F_Lg) (N := 5) hx hb hts i_Lg hown hK (hv_one hP h10) 0 rfl rfl 0 (by decide) (hts _ k_Lg_37) (fun _ h9 => h9) rfl d_Lg_write_60 ?_
          refine lv_iload_n hx hb d_Lg_write_63 rfl (lv_at hl 0 rfl) ?_
          refine lv_iadd hx hb d_Lg_write_64 ?_
          refine hv_put (D := D) (ci := 2) (v := .int (wr + (lg_wn ti n))) (ty := .int) (C := R_Lg) (T := F_Lg) (N := 5) hx hb hts i_Lg t_Lg t_Lg_ok n_Lg hown hK hP hS h10 rfl 0 (by decide) (hts _ k_Lg_37) (fun _ h9 => h9) rfl (by decide +kernel) rfl rfl (Nat.le_of_ble_eq_true rfl) d_Lg_write_65 (fun H locs hP hS => ?_)
          obtain ⟨w11, ew11⟩ : ∃ z : hv_W, z = va_up w9 g (some (.inr (2, [.int (wr + (lg_wn ti n)), .int en, .int lo, .int tr, .int (lg_wt ti n)]))) := ⟨_, rfl⟩
          have hP : hv_P D classes s0.heap.size w11 H := by rw [ew11]; exact hP
          have h12 : w11 g = some (.inr (2, [.int (wr + (lg_wn ti n)), .int en, .int lo, .int tr, .int (lg_wt ti n)])) := by rw [ew11]; exact hv_up_s
          refine lv_iload_n hx hb d_Lg_write_68 rfl (lv_at hl 0 rfl) ?_
          exact hv_iret (v := lg_wn ti n) hQ hx hb hr hZ hS hP hlocks d_Lg_write_69 (⟨rfl, h12, fun b9 hb9 => by rw [ew11, hv_up_n hb9, ew9, hv_up_n hb9]⟩)
end
section
abbrev rm_Gr_nodeAt : Room := { frames := 0, cells := 0, slots := 0, locals := 0 }
set_option maxHeartbeats 4000000 in
set_option maxRecDepth 100000 in
/-- nodeAt(n): what stands at n, or nothing -/
theorem c_Gr_nodeAt {l : Launch} {s0 : State} {D : va_G} {ca : Nat → ClassId} (C : hv_C l s0 D (hv_tys ca)) {w : hv_W} {g na la : Nat} {fN : Nat → Option Nat} (n : Int32) (h0 : w g = some (.inr (1, [.ref na, .ref la]))) (hN : w na = some (.inl (ca 5, 64, .inr (.inr (.inr (.inr fN))))))  :
    hv_Met l y_Gr_nodeAt [.code y_Gr_nodeAt b_Gr_nodeAt 2 (some (.object "GraphKeep$Node"))] rm_Gr_nodeAt (hv_Pc s0 D w [.ref g, .int n]) (hv_Q s0 D (fun v w' => v = some (va_rf (gk_sel fN 64 n)) ∧ w' = w) (fun _ _ => False)) 0 0 (hv_A s0.heap.size) := by
  refine hv_enter C _ (by decide) (Nat.le_of_ble_eq_true rfl) ?_
  intro p e s m below meth c ls Q hQ hx hb hr hml hown hts hK hZ hlocks hname hout htr hP hl
  have hown : s.vm.findClass R_Gr = some m.cls := hown
  have hS : va_S (hv_A s0.heap.size) s.heap s.heap [] := va_S.rf
  have hl : lv_has ls 2 [(0, .ref g), (1, .int n)] := hl
  refine lv_iload_n hx hb d_Gr_nodeAt_0 rfl (lv_at hl 1 rfl) ?_
  refine lv_if_lt (tgt := 22) hx hb d_Gr_nodeAt_1 (by decide) (fun c1 => ?_) (fun c1 => ?_)
  · refine lv_null hx hb d_Gr_nodeAt_22 ?_
    exact hv_aret (v := none) hQ hx hb hr (Or.inl ⟨_, rfl⟩) hZ hS hP hlocks d_Gr_nodeAt_23 (⟨by rw [gk_sel_lo c1], rfl⟩)
  · refine lv_iload_n hx hb d_Gr_nodeAt_4 rfl (lv_at hl 1 rfl) ?_
    refine lv_aload_n hx hb d_Gr_nodeAt_5 rfl (lv_at hl 0 rfl) ?_
    refine va_get (D := D) (ci := 1) (v := .ref na) (C := R_Gr) (T := F_Gr) (N := 2) hx hb hts i_Gr hown hK (hv_one hP h0) 0 rfl rfl 0 (by decide) (hts _ k_Gr_11) (fun _ h9 => h9) rfl d_Gr_nodeAt_6 ?_
    refine va_alen (v := nI 64) hx hb hK (hv_one hP hN) 0 5 rfl rfl rfl d_Gr_nodeAt_9 ?_
    refine lv_icmp_ge (tgt := 22) hx hb d_Gr_nodeAt_10 (by decide) (fun c10 => ?_) (fun c10 => ?_)
    · refine lv_null hx hb d_Gr_nodeAt_22 ?_
      exact hv_aret (v := none) hQ hx hb hr (Or.inl ⟨_, rfl⟩) hZ hS hP hlocks d_Gr_nodeAt_23 (⟨by rw [gk_sel_hi c10], rfl⟩)
    · refine lv_aload_n hx hb d_Gr_nodeAt_13 rfl (lv_at hl 0 rfl) ?_
      refine va_get (D := D) (ci := 1) (v := .ref na) (C := R_Gr) (T := F_Gr) (N := 2) hx hb hts i_Gr hown hK (hv_one hP h0) 0 rfl rfl 0 (by decide) (hts _ k_Gr_11) (fun _ h9 => h9) rfl d_Gr_nodeAt_14 ?_
      refine lv_iload_n hx hb d_Gr_nodeAt_17 rfl (lv_at hl 1 rfl) ?_
      refine va_aldq hx hb hK (hv_one hP hN) 0 5 rfl rfl (gk_in c1 c10 (by decide)) d_Gr_nodeAt_18 ?_
      refine lv_goto (tgt := 23) hx hb d_Gr_nodeAt_19 (by decide) ?_
      exact hv_aret (v := fN n.toNatClampNeg) hQ hx hb hr (Or.inl ⟨_, rfl⟩) hZ hS hP hlocks d_Gr_nodeAt_23 (⟨by rw [gk_sel_in c1 c10], rfl⟩)

abbrev rm_Gr_linkAt : Room := { frames := 0, cells := 0, slots := 0, locals := 0 }
set_option maxHeartbeats 4000000 in
set_option maxRecDepth 100000 in
/-- linkAt(n): what stands at n, or nothing -/
theorem c_Gr_linkAt {l : Launch} {s0 : State} {D : va_G} {ca : Nat → ClassId} (C : hv_C l s0 D (hv_tys ca)) {w : hv_W} {g na la : Nat} {fL : Nat → Option Nat} (n : Int32) (h0 : w g = some (.inr (1, [.ref na, .ref la]))) (hL : w la = some (.inl (ca 6, 96, .inr (.inr (.inr (.inr fL))))))  :
    hv_Met l y_Gr_linkAt [.code y_Gr_linkAt b_Gr_linkAt 2 (some (.object "GraphKeep$Link"))] rm_Gr_linkAt (hv_Pc s0 D w [.ref g, .int n]) (hv_Q s0 D (fun v w' => v = some (va_rf (gk_sel fL 96 n)) ∧ w' = w) (fun _ _ => False)) 0 0 (hv_A s0.heap.size) := by
  refine hv_enter C _ (by decide) (Nat.le_of_ble_eq_true rfl) ?_
  intro p e s m below meth c ls Q hQ hx hb hr hml hown hts hK hZ hlocks hname hout htr hP hl
  have hown : s.vm.findClass R_Gr = some m.cls := hown
  have hS : va_S (hv_A s0.heap.size) s.heap s.heap [] := va_S.rf
  have hl : lv_has ls 2 [(0, .ref g), (1, .int n)] := hl
  refine lv_iload_n hx hb d_Gr_linkAt_0 rfl (lv_at hl 1 rfl) ?_
  refine lv_if_lt (tgt := 22) hx hb d_Gr_linkAt_1 (by decide) (fun c1 => ?_) (fun c1 => ?_)
  · refine lv_null hx hb d_Gr_linkAt_22 ?_
    exact hv_aret (v := none) hQ hx hb hr (Or.inl ⟨_, rfl⟩) hZ hS hP hlocks d_Gr_linkAt_23 (⟨by rw [gk_sel_lo c1], rfl⟩)
  · refine lv_iload_n hx hb d_Gr_linkAt_4 rfl (lv_at hl 1 rfl) ?_
    refine lv_aload_n hx hb d_Gr_linkAt_5 rfl (lv_at hl 0 rfl) ?_
    refine va_get (D := D) (ci := 1) (v := .ref la) (C := R_Gr) (T := F_Gr) (N := 2) hx hb hts i_Gr hown hK (hv_one hP h0) 0 rfl rfl 1 (by decide) (hts _ k_Gr_19) (fun _ h9 => h9) rfl d_Gr_linkAt_6 ?_
    refine va_alen (v := nI 96) hx hb hK (hv_one hP hL) 0 6 rfl rfl rfl d_Gr_linkAt_9 ?_
    refine lv_icmp_ge (tgt := 22) hx hb d_Gr_linkAt_10 (by decide) (fun c10 => ?_) (fun c10 => ?_)
    · refine lv_null hx hb d_Gr_linkAt_22 ?_
      exact hv_aret (v := none) hQ hx hb hr (Or.inl ⟨_, rfl⟩) hZ hS hP hlocks d_Gr_linkAt_23 (⟨by rw [gk_sel_hi c10], rfl⟩)
    · refine lv_aload_n hx hb d_Gr_linkAt_13 rfl (lv_at hl 0 rfl) ?_
      refine va_get (D := D) (ci := 1) (v := .ref la) (C := R_Gr) (T := F_Gr) (N := 2) hx hb hts i_Gr hown hK (hv_one hP h0) 0 rfl rfl 1 (by decide) (hts _ k_Gr_19) (fun _ h9 => h9) rfl d_Gr_linkAt_14 ?_
      refine lv_iload_n hx hb d_Gr_linkAt_17 rfl (lv_at hl 1 rfl) ?_
      refine va_aldq hx hb hK (hv_one hP hL) 0 6 rfl rfl (gk_in c1 c10 (by decide)) d_Gr_linkAt_18 ?_
      refine lv_goto (tgt := 23) hx hb d_Gr_linkAt_19 (by decide) ?_
      exact hv_aret (v := fL n.toNatClampNeg) hQ hx hb hr (Or.inl ⟨_, rfl⟩) hZ hS hP hlocks d_Gr_linkAt_23 (⟨by rw [gk_sel_in c1 c10], rfl⟩)

abbrev rm_Gr_thingAt : Room := { frames := 1, cells := 0, slots := 0, locals := 21 }
set_option maxHeartbeats 4000000 in
set_option maxRecDepth 100000 in
/-- thingAt(k, n) -/
theorem c_Gr_thingAt {l : Launch} {s0 : State} {D : va_G} {ca : Nat → ClassId} (C : hv_C l s0 D (hv_tys ca)) {w : hv_W} {g na la : Nat} {fN fL : Nat → Option Nat} (k n : Int32) (h0 : w g = some (.inr (1, [.ref na, .ref la]))) (hN : w na = some (.inl (ca 5, 64, .inr (.inr (.inr (.inr fN)))))) (hL : w la = some (.inl (ca 6, 96, .inr (.inr (.inr (.inr fL))))))  :
    hv_Met l y_Gr_thingAt [.code y_Gr_thingAt b_Gr_thingAt 3 (some (.object "GraphKeep$Thing"))] rm_Gr_thingAt (hv_Pc s0 D w [.ref g, .int k, .int n]) (hv_Q s0 D (fun v w' => v = some (va_rf (gk_thing fN fL k n)) ∧ w' = w) (fun _ _ => False)) 0 0 (hv_A s0.heap.size) := by
  refine hv_enter C _ (by decide) (Nat.le_of_ble_eq_true rfl) ?_
  intro p e s m below meth c ls Q hQ hx hb hr hml hown hts hK hZ hlocks hname hout htr hP hl
  have hown : s.vm.findClass R_Gr = some m.cls := hown
  have hS : va_S (hv_A s0.heap.size) s.heap s.heap [] := va_S.rf
  have hl : lv_has ls 3 [(0, .ref g), (1, .int k), (2, .int n)] := hl
  refine lv_iload_n hx hb d_Gr_thingAt_0 rfl (lv_at hl 1 rfl) ?_
  refine lv_iconst (v := 4) hx hb d_Gr_thingAt_1 (by decide) ?_
  refine lv_icmp_ne (tgt := 11) hx hb d_Gr_thingAt_2 (by decide) (fun c2 => ?_) (fun c2 => ?_)
  · refine lv_iload_n hx hb d_Gr_thingAt_11 rfl (lv_at hl 1 rfl) ?_
    refine lv_iconst (v := 5) hx hb d_Gr_thingAt_12 (by decide) ?_
    refine lv_icmp_ne (tgt := 24) hx hb d_Gr_thingAt_13 (by decide) (fun c13 => ?_) (fun c13 => ?_)
    · refine lv_null hx hb d_Gr_thingAt_24 ?_
      exact hv_aret (v := none) hQ hx hb hr (Or.inl ⟨_, rfl⟩) hZ hS hP hlocks d_Gr_thingAt_25 (⟨by rw [gk_thing, if_neg c2, if_neg c13], rfl⟩)
    · refine lv_aload_n hx hb d_Gr_thingAt_16 rfl (lv_at hl 0 rfl) ?_
      refine lv_iload_n hx hb d_Gr_thingAt_17 rfl (lv_at hl 2 rfl) ?_
      refine hv_call (hv_runV (As := [.int n]) (rest := []) (c_Gr_linkAt C n h0 hL) (hv_cw C hZ kc_Gr_linkAt kn_Gr ⟨rfl, rfl, Nat.le_of_ble_eq_true rfl, Nat.le_of_ble_eq_true rfl⟩) hv_blind (hv_pre hZ hS hP) hx hml hb hown (hts _ k_Gr_27) (hts _ ki_Gr_linkAt) (hts _ ksel_Gr_Gr_linkAt) hy_Gr_linkAt (hts _ kc_Gr_linkAt) (va_recv hK (hv_one hP h0) (ci := 1) (q0 := 0) rfl rfl) rfl hl.1 rfl (lv_room (Nat.le_of_ble_eq_true rfl)) d_Gr_thingAt_18 ⟨Nat.le_of_ble_eq_true rfl, Nat.le_of_ble_eq_true rfl⟩) hZ hS (fun v9 w1 H locs q2 hP hS => ?_) (fun x9 w1 H locs q2 hP hS => q2.elim)
      obtain ⟨hv9, hw9⟩ := q2
      subst hv9
      rw [hw9] at hP
      show W _ _ _ _ _ _ _ _ _ _ _ _ _ _ _ (F0 m 21 ls [va_rf (gk_sel fL 96 n)])
      refine lv_goto (tgt := 25) hx hb d_Gr_thingAt_21 (by decide) ?_
      exact hv_aret (v := gk_sel fL 96 n) hQ hx hb hr (Or.inl ⟨_, rfl⟩) hZ hS hP hlocks d_Gr_thingAt_25 (⟨by rw [gk_thing, if_neg c2, if_pos c13], rfl⟩)
  · refine lv_aload_n hx hb d_Gr_thingAt_5 rfl (lv_at hl 0 rfl) ?_
    refine lv_iload_n hx hb d_Gr_thingAt_6 rfl (lv_at hl 2 rfl) ?_
    refine hv_call (hv_runV (As := [.int n]) (rest := []) (c_Gr_nodeAt C n h0 hN) (hv_cw C hZ kc_Gr_nodeAt kn_Gr ⟨rfl, rfl, Nat.le_of_ble_eq_true rfl, Nat.le_of_ble_eq_true rfl⟩) hv_blind (hv_pre hZ hS hP) hx hml hb hown (hts _ k_Gr_23) (hts _ ki_Gr_nodeAt) (hts _ ksel_Gr_Gr_nodeAt) hy_Gr_nodeAt (hts _ kc_Gr_nodeAt) (va_recv hK (hv_one hP h0) (ci := 1) (q0 := 0) rfl rfl) rfl hl.1 rfl (lv_room (Nat.le_of_ble_eq_true rfl)) d_Gr_thingAt_7 ⟨Nat.le_of_ble_eq_true rfl, Nat.le_of_ble_eq_true rfl⟩) hZ hS (fun v9 w3 H locs q4 hP hS => ?_) (fun x9 w3 H locs q4 hP hS => q4.elim)
    obtain ⟨hv9, hw9⟩ := q4
    subst hv9
    rw [hw9] at hP
    show W _ _ _ _ _ _ _ _ _ _ _ _ _ _ _ (F0 m 10 ls [va_rf (gk_sel fN 64 n)])
    exact hv_aret (v := gk_sel fN 64 n) hQ hx hb hr (Or.inl ⟨_, rfl⟩) hZ hS hP hlocks d_Gr_thingAt_10 (⟨by rw [gk_thing, if_pos c2], rfl⟩)

abbrev rm_Gr_countNodes : Room := { frames := 0, cells := 0, slots := 0, locals := 0 }
set_option maxHeartbeats 4000000 in
set_option maxRecDepth 100000 in
/-- countNodes(): how many stand there -/
theorem c_Gr_countNodes {l : Launch} {s0 : State} {D : va_G} {ca : Nat → ClassId} (C : hv_C l s0 D (hv_tys ca)) {w : hv_W} {g na la : Nat} {fN : Nat → Option Nat} (h0 : w g = some (.inr (1, [.ref na, .ref la]))) (hN : w na = some (.inl (ca 5, 64, .inr (.inr (.inr (.inr fN))))))  :
    hv_Met l y_Gr_countNodes [.code y_Gr_countNodes b_Gr_countNodes 3 (some .int)] rm_Gr_countNodes (hv_Pc s0 D w [.ref g]) (hv_Q s0 D (fun v w' => v = some (.int (nI (gk_cnt fN 64))) ∧ w' = w) (fun _ _ => False)) 0 0 (hv_A s0.heap.size) := by
  refine hv_enter C _ (by decide) (Nat.le_of_ble_eq_true rfl) ?_
  intro p e s m below meth c ls Q hQ hx hb hr hml hown hts hK hZ hlocks hname hout htr hP hl
  have hown : s.vm.findClass R_Gr = some m.cls := hown
  have hS : va_S (hv_A s0.heap.size) s.heap s.heap [] := va_S.rf
  have hl : lv_has ls 3 [(0, .ref g)] := hl
  refine lv_iconst (v := 0) hx hb d_Gr_countNodes_0 (by decide) ?_
  refine lv_istore_n (lv' := [(1, .int 0), (0, .ref g)]) hx hb d_Gr_countNodes_1 rfl hl (by decide) rfl (fun ls hl => ?_)
  refine lv_iconst (v := 0) hx hb d_Gr_countNodes_2 (by decide) ?_
  refine lv_istore_n (lv' := [(2, .int 0), (1, .int 0), (0, .ref g)]) hx hb d_Gr_countNodes_3 rfl hl (by decide) rfl (fun ls hl => ?_)
  have lp : ∀ (n9 : Nat) (i : Nat), 64 - i < n9 → (i ≤ 64) → ∀ (H : Heap) (locs : List Loc) (ls : Array Slot), hv_P D classes s0.heap.size w H → va_S (hv_A s0.heap.size) s.heap H locs → lv_has ls 3 [(0, .ref g), (1, .int (nI (gk_cnt fN i))), (2, .int (nI i))] → W p l e rm_Gr_countNodes s m ([.ref g] : List Value).toArray below meth c H locs 0 0 Q (F0 m 4 ls []) := by
    intro n9
    induction n9 with
    | zero =>
      intro i hn9
      exact absurd hn9 (Nat.not_lt_zero _)
    | succ n9 ih =>
      intro i hn9 hi H locs ls hP hS hl
      refine lv_iload_n hx hb d_Gr_countNodes_4 rfl (lv_at hl 2 rfl) ?_
      refine lv_aload_n hx hb d_Gr_countNodes_5 rfl (lv_at hl 0 rfl) ?_
      refine va_get (D := D) (ci := 1) (v := .ref na) (C := R_Gr) (T := F_Gr) (N := 2) hx hb hts i_Gr hown hK (hv_one hP h0) 0 rfl rfl 0 (by decide) (hts _ k_Gr_11) (fun _ h9 => h9) rfl d_Gr_countNodes_6 ?_
      refine va_alen (v := nI 64) hx hb hK (hv_one hP hN) 0 5 rfl rfl rfl d_Gr_countNodes_9 ?_
      refine lv_icmp_ge (tgt := 36) hx hb d_Gr_countNodes_10 (by decide) (fun c10 => ?_) (fun c10 => ?_)
      · have hi2 : i = 64 := Nat.le_antisymm hi (gk_ge c10 (by decide) (by omega))
        refine lv_iload_n hx hb d_Gr_countNodes_36 rfl (lv_at hl 1 rfl) ?_
        exact hv_iret (v := nI (gk_cnt fN i)) hQ hx hb hr hZ hS hP hlocks d_Gr_countNodes_37 (⟨by rw [hi2], rfl⟩)
      · have hlt : i < 64 := gk_lt c10 (by decide) (by omega)
        refine lv_iload_n hx hb d_Gr_countNodes_13 rfl (lv_at hl 1 rfl) ?_
        refine lv_aload_n hx hb d_Gr_countNodes_14 rfl (lv_at hl 0 rfl) ?_
        refine va_get (D := D) (ci := 1) (v := .ref na) (C := R_Gr) (T := F_Gr) (N := 2) hx hb hts i_Gr hown hK (hv_one hP h0) 0 rfl rfl 0 (by decide) (hts _ k_Gr_11) (fun _ h9 => h9) rfl d_Gr_countNodes_15 ?_
        refine lv_iload_n hx hb d_Gr_countNodes_18 rfl (lv_at hl 2 rfl) ?_
        refine va_aldq hx hb hK (hv_one hP hN) 0 5 rfl rfl (vp_in_nI hlt (by decide)) d_Gr_countNodes_19 ?_
        rw [nI_clamp (n := i) (by omega)]
        cases h9 : fN i with
        | none =>
          show W _ _ _ _ _ _ _ _ _ _ _ _ _ _ _ (F0 m 20 ls [.null, .int (nI (gk_cnt fN i))])
          refine lv_ifnonnullN hx hb d_Gr_countNodes_20 ?_
          refine lv_iconst (v := 0) hx hb d_Gr_countNodes_23 (by decide) ?_
          refine lv_goto (tgt := 28) hx hb d_Gr_countNodes_24 (by decide) ?_
          refine lv_iadd hx hb d_Gr_countNodes_28 ?_
          refine lv_topi (fun v9 e9 => ?_)
          have e9 : v9 = nI (gk_cnt fN (i + 1)) := e9.trans (gk_cnt_n h9)
          subst e9
          show W _ _ _ _ _ _ _ _ _ _ _ _ _ _ _ (F0 m 29 ls [.int (nI (gk_cnt fN (i + 1)))])
          refine lv_istore_n (lv' := [(1, .int (nI (gk_cnt fN (i + 1)))), (0, .ref g), (2, .int (nI i))]) hx hb d_Gr_countNodes_29 rfl hl (by decide) rfl (fun ls hl => ?_)
          refine lv_iinc (v := (nI (i + 1))) (lv' := [(2, .int ((nI (i + 1)))), (1, .int (nI (gk_cnt fN (i + 1)))), (0, .ref g)]) hx hb d_Gr_countNodes_30 hl (k := 2) rfl (nI_1 i) (by decide) rfl (fun ls hl => ?_)
          refine lv_goto (tgt := 4) hx hb d_Gr_countNodes_33 (by decide) ?_
          exact ih (i + 1) (by omega) hlt _ _ _ hP hS (lv_sub hl [2, 1, 0] rfl)
        | some a =>
          show W _ _ _ _ _ _ _ _ _ _ _ _ _ _ _ (F0 m 20 ls [.ref a, .int (nI (gk_cnt fN i))])
          refine lv_ifnonnull (tgt := 27) hx hb d_Gr_countNodes_20 (by decide) ?_
          refine lv_iconst (v := 1) hx hb d_Gr_countNodes_27 (by decide) ?_
          refine lv_iadd hx hb d_Gr_countNodes_28 ?_
          refine lv_topi (fun v9 e9 => ?_)
          have e9 : v9 = nI (gk_cnt fN (i + 1)) := e9.trans (gk_cnt_s h9)
          subst e9
          show W _ _ _ _ _ _ _ _ _ _ _ _ _ _ _ (F0 m 29 ls [.int (nI (gk_cnt fN (i + 1)))])
          refine lv_istore_n (lv' := [(1, .int (nI (gk_cnt fN (i + 1)))), (0, .ref g), (2, .int (nI i))]) hx hb d_Gr_countNodes_29 rfl hl (by decide) rfl (fun ls hl => ?_)
          refine lv_iinc (v := (nI (i + 1))) (lv' := [(2, .int ((nI (i + 1)))), (1, .int (nI (gk_cnt fN (i + 1)))), (0, .ref g)]) hx hb d_Gr_countNodes_30 hl (k := 2) rfl (nI_1 i) (by decide) rfl (fun ls hl => ?_)
          refine lv_goto (tgt := 4) hx hb d_Gr_countNodes_33 (by decide) ?_
          exact ih (i + 1) (by omega) hlt _ _ _ hP hS (lv_sub hl [2, 1, 0] rfl)
  exact lp _ 0 (Nat.lt_succ_self _) (Nat.zero_le _) _ _ _ hP hS (lv_sub hl [2, 1, 0] rfl)

abbrev rm_Gr_countLinks : Room := { frames := 0, cells := 0, slots := 0, locals := 0 }
set_option maxHeartbeats 4000000 in
set_option maxRecDepth 100000 in
/-- countLinks(): how many stand there -/
theorem c_Gr_countLinks {l : Launch} {s0 : State} {D : va_G} {ca : Nat → ClassId} (C : hv_C l s0 D (hv_tys ca)) {w : hv_W} {g na la : Nat} {fL : Nat → Option Nat} (h0 : w g = some (.inr (1, [.ref na, .ref la]))) (hL : w la = some (.inl (ca 6, 96, .inr (.inr (.inr (.inr fL))))))  :
    hv_Met l y_Gr_countLinks [.code y_Gr_countLinks b_Gr_countLinks 3 (some .int)] rm_Gr_countLinks (hv_Pc s0 D w [.ref g]) (hv_Q s0 D (fun v w' => v = some (.int (nI (gk_cnt fL 96))) ∧ w' = w) (fun _ _ => False)) 0 0 (hv_A s0.heap.size) := by
  refine hv_enter C _ (by decide) (Nat.le_of_ble_eq_true rfl) ?_
  intro p e s m below meth c ls Q hQ hx hb hr hml hown hts hK hZ hlocks hname hout htr hP hl
  have hown : s.vm.findClass R_Gr = some m.cls := hown
  have hS : va_S (hv_A s0.heap.size) s.heap s.heap [] := va_S.rf
  have hl : lv_has ls 3 [(0, .ref g)] := hl
  refine lv_iconst (v := 0) hx hb d_Gr_countLinks_0 (by decide) ?_
  refine lv_istore_n (lv' := [(1, .int 0), (0, .ref g)]) hx hb d_Gr_countLinks_1 rfl hl (by decide) rfl (fun ls hl => ?_)
  refine lv_iconst (v := 0) hx hb d_Gr_countLinks_2 (by decide) ?_
  refine lv_istore_n (lv' := [(2, .int 0), (1, .int 0), (0, .ref g)]) hx hb d_Gr_countLinks_3 rfl hl (by decide) rfl (fun ls hl => ?_)
  have lp : ∀ (n9 : Nat) (i : Nat), 96 - i < n9 → (i ≤ 96) → ∀ (H : Heap) (locs : List Loc) (ls : Array Slot), hv_P D classes s0.heap.size w H → va_S (hv_A s0.heap.size) s.heap H locs → lv_has ls 3 [(0, .ref g), (1, .int (nI (gk_cnt fL i))), (2, .int (nI i))] → W p l e rm_Gr_countLinks s m ([.ref g] : List Value).toArray below meth c H locs 0 0 Q (F0 m 4 ls []) := by
    intro n9
    induction n9 with
    | zero =>
      intro i hn9
      exact absurd hn9 (Nat.not_lt_zero _)
    | succ n9 ih =>
      intro i hn9 hi H locs ls hP hS hl
      refine lv_iload_n hx hb d_Gr_countLinks_4 rfl (lv_at hl 2 rfl) ?_
      refine lv_aload_n hx hb d_Gr_countLinks_5 rfl (lv_at hl 0 rfl) ?_
      refine va_get (D := D) (ci := 1) (v := .ref la) (C := R_Gr) (T := F_Gr) (N := 2) hx hb hts i_Gr hown hK (hv_one hP h0) 0 rfl rfl 1 (by decide) (hts _ k_Gr_19) (fun _ h9 => h9) rfl d_Gr_countLinks_6 ?_
      refine va_alen (v := nI 96) hx hb hK (hv_one hP hL) 0 6 rfl rfl rfl d_Gr_countLinks_9 ?_
      refine lv_icmp_ge (tgt := 36) hx hb d_Gr_countLinks_10 (by decide) (fun c10 => ?_) (fun c10 => ?_)
      · have hi2 : i = 96 := Nat.le_antisymm hi (gk_ge c10 (by decide) (by omega))
        refine lv_iload_n hx hb d_Gr_countLinks_36 rfl (lv_at hl 1 rfl) ?_
        exact hv_iret (v := nI (gk_cnt fL i)) hQ hx hb hr hZ hS hP hlocks d_Gr_countLinks_37 (⟨by rw [hi2], rfl⟩)
      · have hlt : i < 96 := gk_lt c10 (by decide) (by omega)
        refine lv_iload_n hx hb d_Gr_countLinks_13 rfl (lv_at hl 1 rfl) ?_
        refine lv_aload_n hx hb d_Gr_countLinks_14 rfl (lv_at hl 0 rfl) ?_
        refine va_get (D := D) (ci := 1) (v := .ref la) (C := R_Gr) (T := F_Gr) (N := 2) hx hb hts i_Gr hown hK (hv_one hP h0) 0 rfl rfl 1 (by decide) (hts _ k_Gr_19) (fun _ h9 => h9) rfl d_Gr_countLinks_15 ?_
        refine lv_iload_n hx hb d_Gr_countLinks_18 rfl (lv_at hl 2 rfl) ?_
        refine va_aldq hx hb hK (hv_one hP hL) 0 6 rfl rfl (vp_in_nI hlt (by decide)) d_Gr_countLinks_19 ?_
        rw [nI_clamp (n := i) (by omega)]
        cases h9 : fL i with
        | none =>
          show W _ _ _ _ _ _ _ _ _ _ _ _ _ _ _ (F0 m 20 ls [.null, .int (nI (gk_cnt fL i))])
          refine lv_ifnonnullN hx hb d_Gr_countLinks_20 ?_
          refine lv_iconst (v := 0) hx hb d_Gr_countLinks_23 (by decide) ?_
          refine lv_goto (tgt := 28) hx hb d_Gr_countLinks_24 (by decide) ?_
          refine lv_iadd hx hb d_Gr_countLinks_28 ?_
          refine lv_topi (fun v9 e9 => ?_)
          have e9 : v9 = nI (gk_cnt fL (i + 1)) := e9.trans (gk_cnt_n h9)
          subst e9
          show W _ _ _ _ _ _ _ _ _ _ _ _ _ _ _ (F0 m 29 ls [.int (nI (gk_cnt fL (i + 1)))])
          refine lv_istore_n (lv' := [(1, .int (nI (gk_cnt fL (i + 1)))), (0, .ref g), (2, .int (nI i))]) hx hb d_Gr_countLinks_29 rfl hl (by decide) rfl (fun ls hl => ?_)
          refine lv_iinc (v := (nI (i + 1))) (lv' := [(2, .int ((nI (i + 1)))), (1, .int (nI (gk_cnt fL (i + 1)))), (0, .ref g)]) hx hb d_Gr_countLinks_30 hl (k := 2) rfl (nI_1 i) (by decide) rfl (fun ls hl => ?_)
          refine lv_goto (tgt := 4) hx hb d_Gr_countLinks_33 (by decide) ?_
          exact ih (i + 1) (by omega) hlt _ _ _ hP hS (lv_sub hl [2, 1, 0] rfl)
        | some a =>
          show W _ _ _ _ _ _ _ _ _ _ _ _ _ _ _ (F0 m 20 ls [.ref a, .int (nI (gk_cnt fL i))])
          refine lv_ifnonnull (tgt := 27) hx hb d_Gr_countLinks_20 (by decide) ?_
          refine lv_iconst (v := 1) hx hb d_Gr_countLinks_27 (by decide) ?_
          refine lv_iadd hx hb d_Gr_countLinks_28 ?_
          refine lv_topi (fun v9 e9 => ?_)
          have e9 : v9 = nI (gk_cnt fL (i + 1)) := e9.trans (gk_cnt_s h9)
          subst e9
          show W _ _ _ _ _ _ _ _ _ _ _ _ _ _ _ (F0 m 29 ls [.int (nI (gk_cnt fL (i + 1)))])
          refine lv_istore_n (lv' := [(1, .int (nI (gk_cnt fL (i + 1)))), (0, .ref g), (2, .int (nI i))]) hx hb d_Gr_countLinks_29 rfl hl (by decide) rfl (fun ls hl => ?_)
          refine lv_iinc (v := (nI (i + 1))) (lv' := [(2, .int ((nI (i + 1)))), (1, .int (nI (gk_cnt fL (i + 1)))), (0, .ref g)]) hx hb d_Gr_countLinks_30 hl (k := 2) rfl (nI_1 i) (by decide) rfl (fun ls hl => ?_)
          refine lv_goto (tgt := 4) hx hb d_Gr_countLinks_33 (by decide) ?_
          exact ih (i + 1) (by omega) hlt _ _ _ hP hS (lv_sub hl [2, 1, 0] rfl)
  exact lp _ 0 (Nat.lt_succ_self _) (Nat.zero_le _) _ _ _ hP hS (lv_sub hl [2, 1, 0] rfl)

abbrev rm_Gr_isInChain : Room := { frames := 1, cells := 0, slots := 0, locals := 21 }
set_option maxHeartbeats 4000000 in
set_option maxRecDepth 100000 in
/-- isInChain(n, d, out) -/
theorem c_Gr_isInChain {l : Launch} {s0 : State} {D : va_G} {ca : Nat → ClassId} (C : hv_C l s0 D (hv_tys ca)) {w : hv_W} {g na la : Nat} {fL : Nat → Option Nat} {lk : Nat → Nat × Int32 × Int32 × Int32} (n d o : Int32) (h0 : w g = some (.inr (1, [.ref na, .ref la]))) (hL : w la = some (.inl (ca 6, 96, .inr (.inr (.inr (.inr fL)))))) (hk : ∀ i, i < 96 → ∀ a, fL i = some a → w a = some (.inr (6, [.ref (lk a).1, .int (lk a).2.1, .int (lk a).2.2.1, .int (lk a).2.2.2])))  :
    hv_Met l y_Gr_isInChain [.code y_Gr_isInChain b_Gr_isInChain 5 (some .boolean)] rm_Gr_isInChain (hv_Pc s0 D w [.ref g, .int n, .int d, .int o]) (hv_Q s0 D (fun v w' => v = some (.int (gk_inch fL lk n d o)) ∧ w' = w) (fun _ _ => False)) 0 0 (hv_A s0.heap.size) := by
  refine hv_enter C _ (by decide) (Nat.le_of_ble_eq_true rfl) ?_
  intro p e s m below meth c ls Q hQ hx hb hr hml hown hts hK hZ hlocks hname hout htr hP hl
  have hown : s.vm.findClass R_Gr = some m.cls := hown
  have hS : va_S (hv_A s0.heap.size) s.heap s.heap [] := va_S.rf
  have hl : lv_has ls 5 [(0, .ref g), (1, .int n), (2, .int d), (3, .int o)] := hl
  refine lv_aload_n hx hb d_Gr_isInChain_0 rfl (lv_at hl 0 rfl) ?_
  refine lv_iload_n hx hb d_Gr_isInChain_1 rfl (lv_at hl 1 rfl) ?_
  refine hv_call (hv_runV (As := [.int n]) (rest := []) (c_Gr_linkAt C n h0 hL) (hv_cw C hZ kc_Gr_linkAt kn_Gr ⟨rfl, rfl, Nat.le_of_ble_eq_true rfl, Nat.le_of_ble_eq_true rfl⟩) hv_blind (hv_pre hZ hS hP) hx hml hb hown (hts _ k_Gr_27) (hts _ ki_Gr_linkAt) (hts _ ksel_Gr_Gr_linkAt) hy_Gr_linkAt (hts _ kc_Gr_linkAt) (va_recv hK (hv_one hP h0) (ci := 1) (q0 := 0) rfl rfl) rfl hl.1 rfl (lv_room (Nat.le_of_ble_eq_true rfl)) d_Gr_isInChain_2 ⟨Nat.le_of_ble_eq_true rfl, Nat.le_of_ble_eq_true rfl⟩) hZ hS (fun v9 w1 H locs q2 hP hS => ?_) (fun x9 w1 H locs q2 hP hS => q2.elim)
  obtain ⟨hv9, hw9⟩ := q2
  subst hv9
  rw [hw9] at hP
  show W _ _ _ _ _ _ _ _ _ _ _ _ _ _ _ (F0 m 5 ls [va_rf (gk_sel fL 96 n)])
  cases h9 : gk_sel fL 96 n with
  | none =>
    show W _ _ _ _ _ _ _ _ _ _ _ _ _ _ _ (F0 m 5 ls [.null])
    refine lv_astoreN (lv' := [(4, .null), (0, .ref g), (1, .int n), (2, .int d), (3, .int o)]) hx hb d_Gr_isInChain_5 hl (by decide) rfl (fun ls hl => ?_)
    refine lv_aloadN hx hb d_Gr_isInChain_7 (lv_at hl 0 rfl) ?_
    refine lv_ifnullN (tgt := 37) hx hb d_Gr_isInChain_9 (by decide) ?_
    refine lv_iconst (v := 0) hx hb d_Gr_isInChain_37 (by decide) ?_
    exact hv_zret (v := 0) hQ hx hb hr (by decide) hZ hS hP hlocks d_Gr_isInChain_38 (⟨by rw [gk_inch, h9], rfl⟩)
  | some a =>
    show W _ _ _ _ _ _ _ _ _ _ _ _ _ _ _ (F0 m 5 ls [.ref a])
    obtain ⟨i, hi, e9, hfi⟩ := gk_sel_some h9 (by decide)
    have ha := hk i hi a hfi
    refine lv_astore (lv' := [(4, .ref a), (0, .ref g), (1, .int n), (2, .int d), (3, .int o)]) hx hb d_Gr_isInChain_5 hl (by decide) rfl (fun ls hl => ?_)
    refine lv_aload hx hb d_Gr_isInChain_7 (lv_at hl 0 rfl) ?_
    refine lv_ifnull hx hb d_Gr_isInChain_9 ?_
    refine lv_iload_n hx hb d_Gr_isInChain_12 rfl (lv_at hl 4 rfl) ?_
    refine lv_if_eq (tgt := 24) hx hb d_Gr_isInChain_13 (by decide) (fun c13 => ?_) (fun c13 => ?_)
    · refine lv_aload hx hb d_Gr_isInChain_24 (lv_at hl 0 rfl) ?_
      refine va_get (D := D) (ci := 6) (v := .int ((lk a).2.2.1)) (C := R_Lk) (T := F_Lk) (N := 4) hx hb hts i_Lk hown hK (hv_one hP ha) 0 rfl rfl 2 (by decide) (hts _ k_Gr_46) (fun _ h9 => h9) rfl d_Gr_isInChain_26 ?_
      refine lv_iload_n hx hb d_Gr_isInChain_29 rfl (lv_at hl 3 rfl) ?_
      refine lv_icmp_ne (tgt := 37) hx hb d_Gr_isInChain_30 (by decide) (fun c30 => ?_) (fun c30 => ?_)
      · refine lv_iconst (v := 0) hx hb d_Gr_isInChain_37 (by decide) ?_
        exact hv_zret (v := 0) hQ hx hb hr (by decide) hZ hS hP hlocks d_Gr_isInChain_38 (⟨by simp only [gk_inch, h9]; rw [if_pos c13, if_neg c30], rfl⟩)
      · refine lv_iconst (v := 1) hx hb d_Gr_isInChain_33 (by decide) ?_
        refine lv_goto (tgt := 38) hx hb d_Gr_isInChain_34 (by decide) ?_
        exact hv_zret (v := 1) hQ hx hb hr (by decide) hZ hS hP hlocks d_Gr_isInChain_38 (⟨by simp only [gk_inch, h9]; rw [if_pos c13, if_pos c30], rfl⟩)
    · refine lv_aload hx hb d_Gr_isInChain_16 (lv_at hl 0 rfl) ?_
      refine va_get (D := D) (ci := 6) (v := .int ((lk a).2.1)) (C := R_Lk) (T := F_Lk) (N := 4) hx hb hts i_Lk hown hK (hv_one hP ha) 0 rfl rfl 1 (by decide) (hts _ k_Gr_42) (fun _ h9 => h9) rfl d_Gr_isInChain_18 ?_
      refine lv_goto (tgt := 29) hx hb d_Gr_isInChain_21 (by decide) ?_
      refine lv_iload_n hx hb d_Gr_isInChain_29 rfl (lv_at hl 3 rfl) ?_
      refine lv_icmp_ne (tgt := 37) hx hb d_Gr_isInChain_30 (by decide) (fun c30 => ?_) (fun c30 => ?_)
      · refine lv_iconst (v := 0) hx hb d_Gr_isInChain_37 (by decide) ?_
        exact hv_zret (v := 0) hQ hx hb hr (by decide) hZ hS hP hlocks d_Gr_isInChain_38 (⟨by simp only [gk_inch, h9]; rw [if_neg c13, if_neg c30], rfl⟩)
      · refine lv_iconst (v := 1) hx hb d_Gr_isInChain_33 (by decide) ?_
        refine lv_goto (tgt := 38) hx hb d_Gr_isInChain_34 (by decide) ?_
        exact hv_zret (v := 1) hQ hx hb hr (by decide) hZ hS hP hlocks d_Gr_isInChain_38 (⟨by simp only [gk_inch, h9]; rw [if_neg c13, if_pos c30], rfl⟩)

abbrev rm_Gr_countChain : Room := { frames := 2, cells := 0, slots := 0, locals := 45 }
set_option maxHeartbeats 4000000 in
set_option maxRecDepth 100000 in
/-- countChain(d, out) -/
theorem c_Gr_countChain {l : Launch} {s0 : State} {D : va_G} {ca : Nat → ClassId} (C : hv_C l s0 D (hv_tys ca)) {w : hv_W} {g na la : Nat} {fL : Nat → Option Nat} {lk : Nat → Nat × Int32 × Int32 × Int32} (d o : Int32) (h0 : w g = some (.inr (1, [.ref na, .ref la]))) (hL : w la = some (.inl (ca 6, 96, .inr (.inr (.inr (.inr fL)))))) (hk : ∀ i, i < 96 → ∀ a, fL i = some a → w a = some (.inr (6, [.ref (lk a).1, .int (lk a).2.1, .int (lk a).2.2.1, .int (lk a).2.2.2])))  :
    hv_Met l y_Gr_countChain [.code y_Gr_countChain b_Gr_countChain 5 (some .int)] rm_Gr_countChain (hv_Pc s0 D w [.ref g, .int d, .int o]) (hv_Q s0 D (fun v w' => v = some (.int (nI (gk_cch fL lk d o 96))) ∧ w' = w) (fun _ _ => False)) 0 0 (hv_A s0.heap.size) := by
  refine hv_enter C _ (by decide) (Nat.le_of_ble_eq_true rfl) ?_
  intro p e s m below meth c ls Q hQ hx hb hr hml hown hts hK hZ hlocks hname hout htr hP hl
  have hown : s.vm.findClass R_Gr = some m.cls := hown
  have hS : va_S (hv_A s0.heap.size) s.heap s.heap [] := va_S.rf
  have hl : lv_has ls 5 [(0, .ref g), (1, .int d), (2, .int o)] := hl
  refine lv_iconst (v := 0) hx hb d_Gr_countChain_0 (by decide) ?_
  refine lv_istore_n (lv' := [(3, .int 0), (0, .ref g), (1, .int d), (2, .int o)]) hx hb d_Gr_countChain_1 rfl hl (by decide) rfl (fun ls hl => ?_)
  refine lv_iconst (v := 0) hx hb d_Gr_countChain_2 (by decide) ?_
  refine lv_istore (lv' := [(4, .int 0), (3, .int 0), (0, .ref g), (1, .int d), (2, .int o)]) hx hb d_Gr_countChain_3 hl (by decide) rfl (fun ls hl => ?_)
  have lp : ∀ (n9 : Nat) (i : Nat), 96 - i < n9 → (i ≤ 96) → ∀ (H : Heap) (locs : List Loc) (ls : Array Slot), hv_P D classes s0.heap.size w H → va_S (hv_A s0.heap.size) s.heap H locs → lv_has ls 5 [(0, .ref g), (1, .int d), (2, .int o), (3, .int (nI (gk_cch fL lk d o i))), (4, .int (nI i))] → W p l e rm_Gr_countChain s m ([.ref g, .int d, .int o] : List Value).toArray below meth c H locs 0 0 Q (F0 m 5 ls []) := by
    intro n9
    induction n9 with
    | zero =>
      intro i hn9
      exact absurd hn9 (Nat.not_lt_zero _)
    | succ n9 ih =>
      intro i hn9 hi H locs ls hP hS hl
      refine lv_iload hx hb d_Gr_countChain_5 (lv_at hl 4 rfl) ?_
      refine lv_aload_n hx hb d_Gr_countChain_7 rfl (lv_at hl 0 rfl) ?_
      refine va_get (D := D) (ci := 1) (v := .ref la) (C := R_Gr) (T := F_Gr) (N := 2) hx hb hts i_Gr hown hK (hv_one hP h0) 0 rfl rfl 1 (by decide) (hts _ k_Gr_19) (fun _ h9 => h9) rfl d_Gr_countChain_8 ?_
      refine va_alen (v := nI 96) hx hb hK (hv_one hP hL) 0 6 rfl rfl rfl d_Gr_countChain_11 ?_
      refine lv_icmp_ge (tgt := 40) hx hb d_Gr_countChain_12 (by decide) (fun c12 => ?_) (fun c12 => ?_)
      · have hi2 : i = 96 := Nat.le_antisymm hi (gk_ge c12 (by decide) (by omega))
        refine lv_iload_n hx hb d_Gr_countChain_40 rfl (lv_at hl 3 rfl) ?_
        exact hv_iret (v := nI (gk_cch fL lk d o i)) hQ hx hb hr hZ hS hP hlocks d_Gr_countChain_41 (⟨by rw [hi2], rfl⟩)
      · have hlt : i < 96 := gk_lt c12 (by decide) (by omega)
        refine lv_iload_n hx hb d_Gr_countChain_15 rfl (lv_at hl 3 rfl) ?_
        refine lv_aload_n hx hb d_Gr_countChain_16 rfl (lv_at hl 0 rfl) ?_
        refine lv_iload hx hb d_Gr_countChain_17 (lv_at hl 4 rfl) ?_
        refine lv_iload_n hx hb d_Gr_countChain_19 rfl (lv_at hl 1 rfl) ?_
        refine lv_iload_n hx hb d_Gr_countChain_20 rfl (lv_at hl 2 rfl) ?_
        refine hv_call (hv_runV (As := [.int (nI i), .int d, .int o]) (rest := [.int (nI (gk_cch fL lk d o i))]) (c_Gr_isInChain C (nI i) d o h0 hL hk) (hv_cw C hZ kc_Gr_isInChain kn_Gr ⟨rfl, rfl, Nat.le_of_ble_eq_true rfl, Nat.le_of_ble_eq_true rfl⟩) hv_blind (hv_pre hZ hS hP) hx hml hb hown (hts _ k_Gr_59) (hts _ ki_Gr_isInChain) (hts _ ksel_Gr_Gr_isInChain) hy_Gr_isInChain (hts _ kc_Gr_isInChain) (va_recv hK (hv_one hP h0) (ci := 1) (q0 := 0) rfl rfl) rfl hl.1 rfl (lv_room (Nat.le_of_ble_eq_true rfl)) d_Gr_countChain_21 ⟨Nat.le_of_ble_eq_true rfl, Nat.le_of_ble_eq_true rfl⟩) hZ hS (fun v9 w1 H locs q2 hP hS => ?_) (fun x9 w1 H locs q2 hP hS => q2.elim)
        obtain ⟨hv9, hw9⟩ := q2
        subst hv9
        rw [hw9] at hP
        show W _ _ _ _ _ _ _ _ _ _ _ _ _ _ _ (F0 m 24 ls [.int (gk_inch fL lk (nI i) d o), .int (nI (gk_cch fL lk d o i))])
        refine lv_if_eq (tgt := 31) hx hb d_Gr_countChain_24 (by decide) (fun c24 => ?_) (fun c24 => ?_)
        · refine lv_iconst (v := 0) hx hb d_Gr_countChain_31 (by decide) ?_
          refine lv_iadd hx hb d_Gr_countChain_32 ?_
          refine lv_topi (fun v9 e9 => ?_)
          have e9 : v9 = nI (gk_cch fL lk d o (i + 1)) := e9.trans (gk_cch_n c24)
          subst e9
          show W _ _ _ _ _ _ _ _ _ _ _ _ _ _ _ (F0 m 33 ls [.int (nI (gk_cch fL lk d o (i + 1)))])
          refine lv_istore_n (lv' := [(3, .int (nI (gk_cch fL lk d o (i + 1)))), (0, .ref g), (1, .int d), (2, .int o), (4, .int (nI i))]) hx hb d_Gr_countChain_33 rfl hl (by decide) rfl (fun ls hl => ?_)
          refine lv_iinc (v := (nI (i + 1))) (lv' := [(4, .int ((nI (i + 1)))), (3, .int (nI (gk_cch fL lk d o (i + 1)))), (0, .ref g), (1, .int d), (2, .int o)]) hx hb d_Gr_countChain_34 hl (k := 4) rfl (nI_1 i) (by decide) rfl (fun ls hl => ?_)
          refine lv_goto (tgt := 5) hx hb d_Gr_countChain_37 (by decide) ?_
          exact ih (i + 1) (by omega) hlt _ _ _ hP hS (lv_sub hl [2, 3, 4, 1, 0] rfl)
        · refine lv_iconst (v := 1) hx hb d_Gr_countChain_27 (by decide) ?_
          refine lv_goto (tgt := 32) hx hb d_Gr_countChain_28 (by decide) ?_
          refine lv_iadd hx hb d_Gr_countChain_32 ?_
          refine lv_topi (fun v9 e9 => ?_)
          have e9 : v9 = nI (gk_cch fL lk d o (i + 1)) := e9.trans (gk_cch_s c24)
          subst e9
          show W _ _ _ _ _ _ _ _ _ _ _ _ _ _ _ (F0 m 33 ls [.int (nI (gk_cch fL lk d o (i + 1)))])
          refine lv_istore_n (lv' := [(3, .int (nI (gk_cch fL lk d o (i + 1)))), (0, .ref g), (1, .int d), (2, .int o), (4, .int (nI i))]) hx hb d_Gr_countChain_33 rfl hl (by decide) rfl (fun ls hl => ?_)
          refine lv_iinc (v := (nI (i + 1))) (lv' := [(4, .int ((nI (i + 1)))), (3, .int (nI (gk_cch fL lk d o (i + 1)))), (0, .ref g), (1, .int d), (2, .int o)]) hx hb d_Gr_countChain_34 hl (k := 4) rfl (nI_1 i) (by decide) rfl (fun ls hl => ?_)
          refine lv_goto (tgt := 5) hx hb d_Gr_countChain_37 (by decide) ?_
          exact ih (i + 1) (by omega) hlt _ _ _ hP hS (lv_sub hl [2, 3, 4, 1, 0] rfl)
  exact lp _ 0 (Nat.lt_succ_self _) (Nat.zero_le _) _ _ _ hP hS (lv_sub hl [2, 3, 4, 1, 0] rfl)

abbrev rm_Gr_linkInChain : Room := { frames := 2, cells := 0, slots := 0, locals := 45 }
set_option maxHeartbeats 4000000 in
set_option maxRecDepth 100000 in
/-- linkInChain(d, out, k) -/
theorem c_Gr_linkInChain {l : Launch} {s0 : State} {D : va_G} {ca : Nat → ClassId} (C : hv_C l s0 D (hv_tys ca)) {w : hv_W} {g na la : Nat} {fL : Nat → Option Nat} {lk : Nat → Nat × Int32 × Int32 × Int32} (d o k : Int32) (h0 : w g = some (.inr (1, [.ref na, .ref la]))) (hL : w la = some (.inl (ca 6, 96, .inr (.inr (.inr (.inr fL)))))) (hk : ∀ i, i < 96 → ∀ a, fL i = some a → w a = some (.inr (6, [.ref (lk a).1, .int (lk a).2.1, .int (lk a).2.2.1, .int (lk a).2.2.2])))  :
    hv_Met l y_Gr_linkInChain [.code y_Gr_linkInChain b_Gr_linkInChain 6 (some .int)] rm_Gr_linkInChain (hv_Pc s0 D w [.ref g, .int d, .int o, .int k]) (hv_Q s0 D (fun v w' => (∃ r : Int32, v = some (.int r) ∧ gk_kth fL lk d o k r) ∧ w' = w) (fun _ _ => False)) 0 0 (hv_A s0.heap.size) := by
  refine hv_enter C _ (by decide) (Nat.le_of_ble_eq_true rfl) ?_
  intro p e s m below meth c ls Q hQ hx hb hr hml hown hts hK hZ hlocks hname hout htr hP hl
  have hown : s.vm.findClass R_Gr = some m.cls := hown
  have hS : va_S (hv_A s0.heap.size) s.heap s.heap [] := va_S.rf
  have hl : lv_has ls 6 [(0, .ref g), (1, .int d), (2, .int o), (3, .int k)] := hl
  refine lv_iconst (v := 0) hx hb d_Gr_linkInChain_0 (by decide) ?_
  refine lv_istore (lv' := [(4, .int 0), (0, .ref g), (1, .int d), (2, .int o), (3, .int k)]) hx hb d_Gr_linkInChain_1 hl (by decide) rfl (fun ls hl => ?_)
  refine lv_iconst (v := 0) hx hb d_Gr_linkInChain_3 (by decide) ?_
  refine lv_istore (lv' := [(5, .int 0), (4, .int 0), (0, .ref g), (1, .int d), (2, .int o), (3, .int k)]) hx hb d_Gr_linkInChain_4 hl (by decide) rfl (fun ls hl => ?_)
  have lp : ∀ (n9 : Nat) (i : Nat), 96 - i < n9 → (i ≤ 96) → (∀ j, j < i → ¬ gk_inch fL lk (nI j) d o = 0 → ¬ nI (gk_cch fL lk d o j) = k) → ∀ (H : Heap) (locs : List Loc) (ls : Array Slot), hv_P D classes s0.heap.size w H → va_S (hv_A s0.heap.size) s.heap H locs → lv_has ls 6 [(0, .ref g), (1, .int d), (2, .int o), (3, .int k), (4, .int (nI (gk_cch fL lk d o i))), (5, .int (nI i))] → W p l e rm_Gr_linkInChain s m ([.ref g, .int d, .int o, .int k] : List Value).toArray below meth c H locs 0 0 Q (F0 m 6 ls []) := by
    intro n9
    induction n9 with
    | zero =>
      intro i hn9
      exact absurd hn9 (Nat.not_lt_zero _)
    | succ n9 ih =>
      intro i hn9 hi hj H locs ls hP hS hl
      refine lv_iload hx hb d_Gr_linkInChain_6 (lv_at hl 5 rfl) ?_
      refine lv_aload_n hx hb d_Gr_linkInChain_8 rfl (lv_at hl 0 rfl) ?_
      refine va_get (D := D) (ci := 1) (v := .ref la) (C := R_Gr) (T := F_Gr) (N := 2) hx hb hts i_Gr hown hK (hv_one hP h0) 0 rfl rfl 1 (by decide) (hts _ k_Gr_19) (fun _ h9 => h9) rfl d_Gr_linkInChain_9 ?_
      refine va_alen (v := nI 96) hx hb hK (hv_one hP hL) 0 6 rfl rfl rfl d_Gr_linkInChain_12 ?_
      refine lv_icmp_ge (tgt := 45) hx hb d_Gr_linkInChain_13 (by decide) (fun c13 => ?_) (fun c13 => ?_)
      · have hi2 : i = 96 := Nat.le_antisymm hi (gk_ge c13 (by decide) (by omega))
        refine lv_iconst (v := (-1)) hx hb d_Gr_linkInChain_45 (by decide) ?_
        exact hv_iret (v := (-1)) hQ hx hb hr hZ hS hP hlocks d_Gr_linkInChain_46 (⟨⟨_, rfl, Or.inr ⟨rfl, by rw [← hi2]; exact hj⟩⟩, rfl⟩)
      · have hlt : i < 96 := gk_lt c13 (by decide) (by omega)
        refine lv_aload_n hx hb d_Gr_linkInChain_16 rfl (lv_at hl 0 rfl) ?_
        refine lv_iload hx hb d_Gr_linkInChain_17 (lv_at hl 5 rfl) ?_
        refine lv_iload_n hx hb d_Gr_linkInChain_19 rfl (lv_at hl 1 rfl) ?_
        refine lv_iload_n hx hb d_Gr_linkInChain_20 rfl (lv_at hl 2 rfl) ?_
        refine hv_call (hv_runV (As := [.int (nI i), .int d, .int o]) (rest := []) (c_Gr_isInChain C (nI i) d o h0 hL hk) (hv_cw C hZ kc_Gr_isInChain kn_Gr ⟨rfl, rfl, Nat.le_of_ble_eq_true rfl, Nat.le_of_ble_eq_true rfl⟩) hv_blind (hv_pre hZ hS hP) hx hml hb hown (hts _ k_Gr_59) (hts _ ki_Gr_isInChain) (hts _ ksel_Gr_Gr_isInChain) hy_Gr_isInChain (hts _ kc_Gr_isInChain) (va_recv hK (hv_one hP h0) (ci := 1) (q0 := 0) rfl rfl) rfl hl.1 rfl (lv_room (Nat.le_of_ble_eq_true rfl)) d_Gr_linkInChain_21 ⟨Nat.le_of_ble_eq_true rfl, Nat.le_of_ble_eq_true rfl⟩) hZ hS (fun v9 w1 H locs q2 hP hS => ?_) (fun x9 w1 H locs q2 hP hS => q2.elim)
        obtain ⟨hv9, hw9⟩ := q2
        subst hv9
        rw [hw9] at hP
        show W _ _ _ _ _ _ _ _ _ _ _ _ _ _ _ (F0 m 24 ls [.int (gk_inch fL lk (nI i) d o)])
        refine lv_if_eq (tgt := 39) hx hb d_Gr_linkInChain_24 (by decide) (fun c24 => ?_) (fun c24 => ?_)
        · rw [show (nI (gk_cch fL lk d o i) : Int32) = nI (gk_cch fL lk d o (i + 1)) from gk_cch_n0 c24] at hl
          refine lv_iinc (v := (nI (i + 1))) (lv' := [(5, .int ((nI (i + 1)))), (0, .ref g), (1, .int d), (2, .int o), (3, .int k), (4, .int (nI (gk_cch fL lk d o (i + 1))))]) hx hb d_Gr_linkInChain_39 hl (k := 5) rfl (nI_1 i) (by decide) rfl (fun ls hl => ?_)
          refine lv_goto (tgt := 6) hx hb d_Gr_linkInChain_42 (by decide) ?_
          exact ih (i + 1) (by omega) hlt (gk_kth_n hj c24) _ _ _ hP hS (lv_sub hl [1, 2, 3, 4, 5, 0] rfl)
        · refine lv_iload hx hb d_Gr_linkInChain_27 (lv_at hl 4 rfl) ?_
          refine lv_iload_n hx hb d_Gr_linkInChain_29 rfl (lv_at hl 3 rfl) ?_
          refine lv_icmp_ne (tgt := 36) hx hb d_Gr_linkInChain_30 (by decide) (fun c30 => ?_) (fun c30 => ?_)
          · refine lv_iinc (v := (nI (gk_cch fL lk d o i) + 1)) (lv' := [(4, .int ((nI (gk_cch fL lk d o i) + 1))), (0, .ref g), (1, .int d), (2, .int o), (3, .int k), (5, .int (nI i))]) hx hb d_Gr_linkInChain_36 hl (k := 4) rfl rfl (by decide) rfl (fun ls hl => ?_)
            rw [show ((nI (gk_cch fL lk d o i) + 1) : Int32) = nI (gk_cch fL lk d o (i + 1)) from gk_cch_s c24] at hl
            refine lv_iinc (v := (nI (i + 1))) (lv' := [(5, .int ((nI (i + 1)))), (4, .int (nI (gk_cch fL lk d o (i + 1)))), (0, .ref g), (1, .int d), (2, .int o), (3, .int k)]) hx hb d_Gr_linkInChain_39 hl (k := 5) rfl (nI_1 i) (by decide) rfl (fun ls hl => ?_)
            refine lv_goto (tgt := 6) hx hb d_Gr_linkInChain_42 (by decide) ?_
            exact ih (i + 1) (by omega) hlt (gk_kth_s hj c24 c30) _ _ _ hP hS (lv_sub hl [2, 3, 4, 5, 1, 0] rfl)
          · refine lv_iload hx hb d_Gr_linkInChain_33 (lv_at hl 5 rfl) ?_
            exact hv_iret (v := nI i) hQ hx hb hr hZ hS hP hlocks d_Gr_linkInChain_35 (⟨⟨_, rfl, Or.inl ⟨i, hlt, rfl, c24, c30.symm, hj⟩⟩, rfl⟩)
  exact lp _ 0 (Nat.lt_succ_self _) (Nat.zero_le _) (fun j q => absurd q (Nat.not_lt_zero _)) _ _ _ hP hS (lv_sub hl [2, 3, 4, 5, 1, 0] rfl)
end
section
abbrev rm_Pr_init : Room := { frames := 1, cells := 0, slots := 0, locals := 12 }
set_option maxHeartbeats 4000000 in
set_option maxRecDepth 100000 in
theorem c_Pr_init {l : Launch} {s0 : State} {D : va_G} {ca : Nat → ClassId} (C : hv_C l s0 D (hv_tys ca)) {w : hv_W} {a t : Nat} (k d : Int32) (x : Int64) (h0 : w a = some (.inr (4, [.int 0, .int 0, .long 0, .null])))  :
    hv_Met l y_Pr_init [.code y_Pr_init b_Pr_init 6 none] rm_Pr_init (hv_Pc s0 D w [.ref a, .int k, .int d, .long x, .ref t]) (hv_Q s0 D (fun v w' => v = none ∧ hv_U a (.inr (4, [.int k, .int d, .long x, .ref t])) w w') (fun _ _ => False)) 0 0 (hv_A s0.heap.size) := by
  refine hv_enter C _ (by decide) (Nat.le_of_ble_eq_true rfl) ?_
  intro p e s m below meth c ls Q hQ hx hb hr hml hown hts hK hZ hlocks hname hout htr hP hl
  have hown : s.vm.findClass R_Pr = some m.cls := hown
  have hS : va_S (hv_A s0.heap.size) s.heap s.heap [] := va_S.rf
  have hl : lv_has ls 6 [(0, .ref a), (1, .int k), (2, .int d), (3, .long x), (5, .ref t)] := hl
  refine lv_aload_n hx hb d_Pr_init_0 rfl (lv_at hl 0 rfl) ?_
  refine W.objInit hx hb hown (hts _ k_Pr_1) (hts _ ki_objInit) (hts _ kc_objInit) rfl (by rw [hml]; exact hl.1) rfl d_Pr_init_1 (Nat.le_of_ble_eq_true rfl) (Nat.le_of_ble_eq_true rfl) ?_
  show W _ _ _ _ _ _ _ _ _ _ _ _ _ _ _ (F0 m 4 ls [])
  refine lv_aload_n hx hb d_Pr_init_4 rfl (lv_at hl 0 rfl) ?_
  refine lv_iload_n hx hb d_Pr_init_5 rfl (lv_at hl 1 rfl) ?_
  refine hv_putF (D := D) (ci := 4) (v := .int k) (ty := .int) (C := R_Pr) (T := F_Pr) (N := 4) hx hb hts i_Pr t_Pr t_Pr_ok n_Pr hown hK hP hS h0 rfl 0 (by decide) (hts _ k_Pr_7) (fun _ h9 => h9) rfl hname rfl (by decide +kernel) rfl rfl (Nat.le_of_ble_eq_true rfl) d_Pr_init_6 (fun H locs hP hS => ?_)
  obtain ⟨w1, ew1⟩ : ∃ z9 : hv_W, z9 = va_up w a (some (.inr (4, [.int k, .int 0, .long 0, .null]))) := ⟨_, rfl⟩
  have hP : hv_P D classes s0.heap.size w1 H := by rw [ew1]; exact hP
  have h2 : w1 a = some (.inr (4, [.int k, .int 0, .long 0, .null])) := by rw [ew1]; exact hv_up_s
  refine lv_aload_n hx hb d_Pr_init_9 rfl (lv_at hl 0 rfl) ?_
  refine lv_iload_n hx hb d_Pr_init_10 rfl (lv_at hl 2 rfl) ?_
  refine hv_putF (D := D) (ci := 4) (v := .int d) (ty := .int) (C := R_Pr) (T := F_Pr) (N := 4) hx hb hts i_Pr t_Pr t_Pr_ok n_Pr hown hK hP hS h2 rfl 1 (by decide) (hts _ k_Pr_13) (fun _ h9 => h9) rfl hname rfl (by decide +kernel) rfl rfl (Nat.le_of_ble_eq_true rfl) d_Pr_init_11 (fun H locs hP hS => ?_)
  obtain ⟨w3, ew3⟩ : ∃ z9 : hv_W, z9 = va_up w1 a (some (.inr (4, [.int k, .int d, .long 0, .null]))) := ⟨_, rfl⟩
  have hP : hv_P D classes s0.heap.size w3 H := by rw [ew3]; exact hP
  have h4 : w3 a = some (.inr (4, [.int k, .int d, .long 0, .null])) := by rw [ew3]; exact hv_up_s
  refine lv_aload_n hx hb d_Pr_init_14 rfl (lv_at hl 0 rfl) ?_
  refine lv_lload_n hx hb d_Pr_init_15 rfl (lv_at hl 3 rfl) ?_
  refine hv_putF (D := D) (ci := 4) (v := .long x) (ty := .long) (C := R_Pr) (T := F_Pr) (N := 4) hx hb hts i_Pr t_Pr t_Pr_ok n_Pr hown hK hP hS h4 rfl 2 (by decide) (hts _ k_Pr_16) (fun _ h9 => h9) rfl hname rfl (by decide +kernel) rfl rfl (Nat.le_of_ble_eq_true rfl) d_Pr_init_16 (fun H locs hP hS => ?_)
  obtain ⟨w5, ew5⟩ : ∃ z9 : hv_W, z9 = va_up w3 a (some (.inr (4, [.int k, .int d, .long x, .null]))) := ⟨_, rfl⟩
  have hP : hv_P D classes s0.heap.size w5 H := by rw [ew5]; exact hP
  have h6 : w5 a = some (.inr (4, [.int k, .int d, .long x, .null])) := by rw [ew5]; exact hv_up_s
  refine lv_aload_n hx hb d_Pr_init_19 rfl (lv_at hl 0 rfl) ?_
  refine lv_aload hx hb d_Pr_init_20 (lv_at hl 4 rfl) ?_
  refine hv_putF (D := D) (ci := 4) (v := .ref t) (ty := .array .byte) (C := R_Pr) (T := F_Pr) (N := 4) hx hb hts i_Pr t_Pr t_Pr_ok n_Pr hown hK hP hS h6 rfl 3 (by decide) (hts _ k_Pr_20) (fun _ h9 => h9) rfl hname rfl (by decide +kernel) rfl rfl (Nat.le_of_ble_eq_true rfl) d_Pr_init_22 (fun H locs hP hS => ?_)
  obtain ⟨w7, ew7⟩ : ∃ z9 : hv_W, z9 = va_up w5 a (some (.inr (4, [.int k, .int d, .long x, .ref t]))) := ⟨_, rfl⟩
  have hP : hv_P D classes s0.heap.size w7 H := by rw [ew7]; exact hP
  have h8 : w7 a = some (.inr (4, [.int k, .int d, .long x, .ref t])) := by rw [ew7]; exact hv_up_s
  exact hv_vret hQ hx hb hr hZ hS hP hlocks d_Pr_init_25 (⟨rfl, h8, fun b9 hb9 => by rw [ew7, hv_up_n hb9, ew5, hv_up_n hb9, ew3, hv_up_n hb9, ew1, hv_up_n hb9]⟩)

abbrev rm_Th_initN : Room := { frames := 1, cells := 0, slots := 0, locals := 12 }
set_option maxHeartbeats 4000000 in
set_option maxRecDepth 100000 in
theorem c_Th_initN {l : Launch} {s0 : State} {D : va_G} {ca : Nat → ClassId} (C : hv_C l s0 D (hv_tys ca)) {w : hv_W} {a pa : Nat} (h0 : w a = some (.inr (5, [.null, .null])))  :
    hv_Met l y_Th_init [.code y_Th_init b_Th_init 2 none] rm_Th_initN (hv_Pc s0 D w [.ref a, .ref pa]) (hv_Q s0 D (fun v w' => v = none ∧ hv_U a (.inr (5, [.ref pa, .null])) w w') (fun _ _ => False)) 0 0 (hv_A s0.heap.size) := by
  refine hv_enter C _ (by decide) (Nat.le_of_ble_eq_true rfl) ?_
  intro p e s m below meth c ls Q hQ hx hb hr hml hown hts hK hZ hlocks hname hout htr hP hl
  have hown : s.vm.findClass R_Th = some m.cls := hown
  have hS : va_S (hv_A s0.heap.size) s.heap s.heap [] := va_S.rf
  have hl : lv_has ls 2 [(0, .ref a), (1, .ref pa)] := hl
  refine lv_aload_n hx hb d_Th_init_0 rfl (lv_at hl 0 rfl) ?_
  refine W.objInit hx hb hown (hts _ k_Th_1) (hts _ ki_objInit) (hts _ kc_objInit) rfl (by rw [hml]; exact hl.1) rfl d_Th_init_1 (Nat.le_of_ble_eq_true rfl) (Nat.le_of_ble_eq_true rfl) ?_
  show W _ _ _ _ _ _ _ _ _ _ _ _ _ _ _ (F0 m 4 ls [])
  refine lv_aload_n hx hb d_Th_init_4 rfl (lv_at hl 0 rfl) ?_
  refine lv_aload_n hx hb d_Th_init_5 rfl (lv_at hl 1 rfl) ?_
  refine hv_putF (D := D) (ci := 5) (v := .ref pa) (ty := .array (.object "GraphKeep$Property")) (C := R_Nd) (T := F_Nd) (N := 2) hx hb hts i_Nd t_Nd t_Nd_ok n_Nd hown hK hP hS h0 rfl 0 (by decide) (hts _ k_Th_7) (fun _ h9 => h9) rfl hname rfl (by decide +kernel) rfl rfl (Nat.le_of_ble_eq_true rfl) d_Th_init_6 (fun H locs hP hS => ?_)
  obtain ⟨w1, ew1⟩ : ∃ z9 : hv_W, z9 = va_up w a (some (.inr (5, [.ref pa, .null]))) := ⟨_, rfl⟩
  have hP : hv_P D classes s0.heap.size w1 H := by rw [ew1]; exact hP
  have h2 : w1 a = some (.inr (5, [.ref pa, .null])) := by rw [ew1]; exact hv_up_s
  exact hv_vret hQ hx hb hr hZ hS hP hlocks d_Th_init_9 (⟨rfl, h2, fun b9 hb9 => by rw [ew1, hv_up_n hb9]⟩)

abbrev rm_Th_initL : Room := { frames := 1, cells := 0, slots := 0, locals := 12 }
set_option maxHeartbeats 4000000 in
set_option maxRecDepth 100000 in
theorem c_Th_initL {l : Launch} {s0 : State} {D : va_G} {ca : Nat → ClassId} (C : hv_C l s0 D (hv_tys ca)) {w : hv_W} {a pa : Nat} (h0 : w a = some (.inr (6, [.null, .int 0, .int 0, .int 0])))  :
    hv_Met l y_Th_init [.code y_Th_init b_Th_init 2 none] rm_Th_initL (hv_Pc s0 D w [.ref a, .ref pa]) (hv_Q s0 D (fun v w' => v = none ∧ hv_U a (.inr (6, [.ref pa, .int 0, .int 0, .int 0])) w w') (fun _ _ => False)) 0 0 (hv_A s0.heap.size) := by
  refine hv_enter C _ (by decide) (Nat.le_of_ble_eq_true rfl) ?_
  intro p e s m below meth c ls Q hQ hx hb hr hml hown hts hK hZ hlocks hname hout htr hP hl
  have hown : s.vm.findClass R_Th = some m.cls := hown
  have hS : va_S (hv_A s0.heap.size) s.heap s.heap [] := va_S.rf
  have hl : lv_has ls 2 [(0, .ref a), (1, .ref pa)] := hl
  refine lv_aload_n hx hb d_Th_init_0 rfl (lv_at hl 0 rfl) ?_
  refine W.objInit hx hb hown (hts _ k_Th_1) (hts _ ki_objInit) (hts _ kc_objInit) rfl (by rw [hml]; exact hl.1) rfl d_Th_init_1 (Nat.le_of_ble_eq_true rfl) (Nat.le_of_ble_eq_true rfl) ?_
  show W _ _ _ _ _ _ _ _ _ _ _ _ _ _ _ (F0 m 4 ls [])
  refine lv_aload_n hx hb d_Th_init_4 rfl (lv_at hl 0 rfl) ?_
  refine lv_aload_n hx hb d_Th_init_5 rfl (lv_at hl 1 rfl) ?_
  refine hv_putF (D := D) (ci := 6) (v := .ref pa) (ty := .array (.object "GraphKeep$Property")) (C := R_Lk) (T := F_Lk) (N := 4) hx hb hts i_Lk t_Lk t_Lk_ok n_Lk hown hK hP hS h0 rfl 0 (by decide) (hts _ k_Th_7) (fun _ h9 => h9) rfl hname rfl (by decide +kernel) rfl rfl (Nat.le_of_ble_eq_true rfl) d_Th_init_6 (fun H locs hP hS => ?_)
  obtain ⟨w1, ew1⟩ : ∃ z9 : hv_W, z9 = va_up w a (some (.inr (6, [.ref pa, .int 0, .int 0, .int 0]))) := ⟨_, rfl⟩
  have hP : hv_P D classes s0.heap.size w1 H := by rw [ew1]; exact hP
  have h2 : w1 a = some (.inr (6, [.ref pa, .int 0, .int 0, .int 0])) := by rw [ew1]; exact hv_up_s
  exact hv_vret hQ hx hb hr hZ hS hP hlocks d_Th_init_9 (⟨rfl, h2, fun b9 hb9 => by rw [ew1, hv_up_n hb9]⟩)

abbrev rm_Nd_init : Room := { frames := 2, cells := 0, slots := 0, locals := 33 }
set_option maxHeartbeats 4000000 in
set_option maxRecDepth 100000 in
theorem c_Nd_init {l : Launch} {s0 : State} {D : va_G} {ca : Nat → ClassId} (C : hv_C l s0 D (hv_tys ca)) {w : hv_W} {a lb pa : Nat} (h0 : w a = some (.inr (5, [.null, .null])))  :
    hv_Met l y_Nd_init [.code y_Nd_init b_Nd_init 3 none] rm_Nd_init (hv_Pc s0 D w [.ref a, .ref lb, .ref pa]) (hv_Q s0 D (fun v w' => v = none ∧ hv_U a (.inr (5, [.ref pa, .ref lb])) w w') (fun _ _ => False)) 0 0 (hv_A s0.heap.size) := by
  refine hv_enter C _ (by decide) (Nat.le_of_ble_eq_true rfl) ?_
  intro p e s m below meth c ls Q hQ hx hb hr hml hown hts hK hZ hlocks hname hout htr hP hl
  have hown : s.vm.findClass R_Nd = some m.cls := hown
  have hS : va_S (hv_A s0.heap.size) s.heap s.heap [] := va_S.rf
  have hl : lv_has ls 3 [(0, .ref a), (1, .ref lb), (2, .ref pa)] := hl
  refine lv_aload_n hx hb d_Nd_init_0 rfl (lv_at hl 0 rfl) ?_
  refine lv_aload_n hx hb d_Nd_init_1 rfl (lv_at hl 2 rfl) ?_
  refine hv_call (hv_runI (As := [.ref pa]) (rest := []) (c_Th_initN C h0) (hv_cw C hZ kc_Th_init kn_Th ⟨rfl, rfl, Nat.le_of_ble_eq_true rfl, Nat.le_of_ble_eq_true rfl⟩) hv_blind (hv_pre hZ hS hP) hx hml hb hown (hts _ k_Nd_1) (hts _ ki_Th_init) rfl hy_Th_init (hts _ kc_Th_init) rfl hl.1 rfl (lv_room (Nat.le_of_ble_eq_true rfl)) d_Nd_init_2 ⟨Nat.le_of_ble_eq_true rfl, Nat.le_of_ble_eq_true rfl⟩) hZ hS (fun v9 w1 H locs q2 hP hS => ?_) (fun x9 w1 H locs q2 hP hS => q2.elim)
  obtain ⟨rfl, q2u⟩ := q2
  show W _ _ _ _ _ _ _ _ _ _ _ _ _ _ _ (F0 m 5 ls [])
  refine lv_aload_n hx hb d_Nd_init_5 rfl (lv_at hl 0 rfl) ?_
  refine lv_aload_n hx hb d_Nd_init_6 rfl (lv_at hl 1 rfl) ?_
  refine hv_putF (D := D) (ci := 5) (v := .ref lb) (ty := .array .int) (C := R_Nd) (T := F_Nd) (N := 2) hx hb hts i_Nd t_Nd t_Nd_ok n_Nd hown hK hP hS q2u.1 rfl 1 (by decide) (hts _ k_Nd_7) (fun _ h9 => h9) rfl hname rfl (by decide +kernel) rfl rfl (Nat.le_of_ble_eq_true rfl) d_Nd_init_7 (fun H locs hP hS => ?_)
  obtain ⟨w3, ew3⟩ : ∃ z9 : hv_W, z9 = va_up w1 a (some (.inr (5, [.ref pa, .ref lb]))) := ⟨_, rfl⟩
  have hP : hv_P D classes s0.heap.size w3 H := by rw [ew3]; exact hP
  have h4 : w3 a = some (.inr (5, [.ref pa, .ref lb])) := by rw [ew3]; exact hv_up_s
  exact hv_vret hQ hx hb hr hZ hS hP hlocks d_Nd_init_10 (⟨rfl, h4, fun b9 hb9 => by rw [ew3, hv_up_n hb9]; exact q2u.2 b9 hb9⟩)

abbrev rm_Lk_init : Room := { frames := 2, cells := 0, slots := 0, locals := 33 }
set_option maxHeartbeats 4000000 in
set_option maxRecDepth 100000 in
theorem c_Lk_init {l : Launch} {s0 : State} {D : va_G} {ca : Nat → ClassId} (C : hv_C l s0 D (hv_tys ca)) {w : hv_W} {a pa : Nat} (sa ea ty : Int32) (h0 : w a = some (.inr (6, [.null, .int 0, .int 0, .int 0])))  :
    hv_Met l y_Lk_init [.code y_Lk_init b_Lk_init 5 none] rm_Lk_init (hv_Pc s0 D w [.ref a, .int sa, .int ea, .int ty, .ref pa]) (hv_Q s0 D (fun v w' => v = none ∧ hv_U a (.inr (6, [.ref pa, .int sa, .int ea, .int ty])) w w') (fun _ _ => False)) 0 0 (hv_A s0.heap.size) := by
  refine hv_enter C _ (by decide) (Nat.le_of_ble_eq_true rfl) ?_
  intro p e s m below meth c ls Q hQ hx hb hr hml hown hts hK hZ hlocks hname hout htr hP hl
  have hown : s.vm.findClass R_Lk = some m.cls := hown
  have hS : va_S (hv_A s0.heap.size) s.heap s.heap [] := va_S.rf
  have hl : lv_has ls 5 [(0, .ref a), (1, .int sa), (2, .int ea), (3, .int ty), (4, .ref pa)] := hl
  refine lv_aload_n hx hb d_Lk_init_0 rfl (lv_at hl 0 rfl) ?_
  refine lv_aload hx hb d_Lk_init_1 (lv_at hl 4 rfl) ?_
  refine hv_call (hv_runI (As := [.ref pa]) (rest := []) (c_Th_initL C h0) (hv_cw C hZ kc_Th_init kn_Th ⟨rfl, rfl, Nat.le_of_ble_eq_true rfl, Nat.le_of_ble_eq_true rfl⟩) hv_blind (hv_pre hZ hS hP) hx hml hb hown (hts _ k_Lk_1) (hts _ ki_Th_init) rfl hy_Th_init (hts _ kc_Th_init) rfl hl.1 rfl (lv_room (Nat.le_of_ble_eq_true rfl)) d_Lk_init_3 ⟨Nat.le_of_ble_eq_true rfl, Nat.le_of_ble_eq_true rfl⟩) hZ hS (fun v9 w1 H locs q2 hP hS => ?_) (fun x9 w1 H locs q2 hP hS => q2.elim)
  obtain ⟨rfl, q2u⟩ := q2
  show W _ _ _ _ _ _ _ _ _ _ _ _ _ _ _ (F0 m 6 ls [])
  refine lv_aload_n hx hb d_Lk_init_6 rfl (lv_at hl 0 rfl) ?_
  refine lv_iload_n hx hb d_Lk_init_7 rfl (lv_at hl 1 rfl) ?_
  refine hv_putF (D := D) (ci := 6) (v := .int sa) (ty := .int) (C := R_Lk) (T := F_Lk) (N := 4) hx hb hts i_Lk t_Lk t_Lk_ok n_Lk hown hK hP hS q2u.1 rfl 1 (by decide) (hts _ k_Lk_7) (fun _ h9 => h9) rfl hname rfl (by decide +kernel) rfl rfl (Nat.le_of_ble_eq_true rfl) d_Lk_init_8 (fun H locs hP hS => ?_)
  obtain ⟨w3, ew3⟩ : ∃ z9 : hv_W, z9 = va_up w1 a (some (.inr (6, [.ref pa, .int sa, .int 0, .int 0]))) := ⟨_, rfl⟩
  have hP : hv_P D classes s0.heap.size w3 H := by rw [ew3]; exact hP
  have h4 : w3 a = some (.inr (6, [.ref pa, .int sa, .int 0, .int 0])) := by rw [ew3]; exact hv_up_s
  refine lv_aload_n hx hb d_Lk_init_11 rfl (lv_at hl 0 rfl) ?_
  refine lv_iload_n hx hb d_Lk_init_12 rfl (lv_at hl 2 rfl) ?_
  refine hv_putF (D := D) (ci := 6) (v := .int ea) (ty := .int) (C := R_Lk) (T := F_Lk) (N := 4) hx hb hts i_Lk t_Lk t_Lk_ok n_Lk hown hK hP hS h4 rfl 2 (by decide) (hts _ k_Lk_13) (fun _ h9 => h9) rfl hname rfl (by decide +kernel) rfl rfl (Nat.le_of_ble_eq_true rfl) d_Lk_init_13 (fun H locs hP hS => ?_)
  obtain ⟨w5, ew5⟩ : ∃ z9 : hv_W, z9 = va_up w3 a (some (.inr (6, [.ref pa, .int sa, .int ea, .int 0]))) := ⟨_, rfl⟩
  have hP : hv_P D classes s0.heap.size w5 H := by rw [ew5]; exact hP
  have h6 : w5 a = some (.inr (6, [.ref pa, .int sa, .int ea, .int 0])) := by rw [ew5]; exact hv_up_s
  refine lv_aload_n hx hb d_Lk_init_16 rfl (lv_at hl 0 rfl) ?_
  refine lv_iload_n hx hb d_Lk_init_17 rfl (lv_at hl 3 rfl) ?_
  refine hv_putF (D := D) (ci := 6) (v := .int ty) (ty := .int) (C := R_Lk) (T := F_Lk) (N := 4) hx hb hts i_Lk t_Lk t_Lk_ok n_Lk hown hK hP hS h6 rfl 3 (by decide) (hts _ k_Lk_16) (fun _ h9 => h9) rfl hname rfl (by decide +kernel) rfl rfl (Nat.le_of_ble_eq_true rfl) d_Lk_init_18 (fun H locs hP hS => ?_)
  obtain ⟨w7, ew7⟩ : ∃ z9 : hv_W, z9 = va_up w5 a (some (.inr (6, [.ref pa, .int sa, .int ea, .int ty]))) := ⟨_, rfl⟩
  have hP : hv_P D classes s0.heap.size w7 H := by rw [ew7]; exact hP
  have h8 : w7 a = some (.inr (6, [.ref pa, .int sa, .int ea, .int ty])) := by rw [ew7]; exact hv_up_s
  exact hv_vret hQ hx hb hr hZ hS hP hlocks d_Lk_init_21 (⟨rfl, h8, fun b9 hb9 => by rw [ew7, hv_up_n hb9, ew5, hv_up_n hb9, ew3, hv_up_n hb9]; exact q2u.2 b9 hb9⟩)

abbrev rm_Th_placeOfN : Room := { frames := 0, cells := 0, slots := 0, locals := 0 }
set_option maxHeartbeats 4000000 in
set_option maxRecDepth 100000 in
/-- placeOf(x): the first place that has the key, or the length -/
theorem c_Th_placeOfN {l : Launch} {s0 : State} {D : va_G} {ca : Nat → ClassId} (C : hv_C l s0 D (hv_tys ca)) {w : hv_W} {a pa : Nat} {Mu : Nat → Prop} {ps : List gP} {lb : Nat} (x : Int32) (h0 : w a = some (.inr (5, [.ref pa, .ref lb]))) (hps : g_props ca Mu w pa ps) (hnp : ps.length ≤ 6)  :
    hv_Met l y_Th_placeOf [.code y_Th_placeOf b_Th_placeOf 3 (some .int)] rm_Th_placeOfN (hv_Pc s0 D w [.ref a, .int x]) (hv_Q s0 D (fun v w' => (∃ i, v = some (.int (nI i)) ∧ gk_fst (fun j => (ps.map (fun q => q.1)).getD j 0) ps.length x i) ∧ w' = w) (fun _ _ => False)) 0 0 (hv_A s0.heap.size) := by
  refine hv_enter C _ (by decide) (Nat.le_of_ble_eq_true rfl) ?_
  intro p e s m below meth c ls Q hQ hx hb hr hml hown hts hK hZ hlocks hname hout htr hP hl
  have hown : s.vm.findClass R_Th = some m.cls := hown
  have hS : va_S (hv_A s0.heap.size) s.heap s.heap [] := va_S.rf
  have hl : lv_has ls 3 [(0, .ref a), (1, .int x)] := hl
  obtain ⟨hpm, pf, hp, hpe⟩ := id hps
  refine lv_iconst (v := 0) hx hb d_Th_placeOf_0 (by decide) ?_
  refine lv_istore_n (lv' := [(2, .int 0), (0, .ref a), (1, .int x)]) hx hb d_Th_placeOf_1 rfl hl (by decide) rfl (fun ls hl => ?_)
  have lp : ∀ (n9 : Nat) (i : Nat), ps.length - i < n9 → (i ≤ ps.length) → (∀ j, j < i → ¬ (ps.map (fun q => q.1)).getD j 0 = x) → ∀ (H : Heap) (locs : List Loc) (ls : Array Slot), hv_P D classes s0.heap.size w H → va_S (hv_A s0.heap.size) s.heap H locs → lv_has ls 3 [(0, .ref a), (1, .int x), (2, .int (nI i))] → W p l e rm_Th_placeOfN s m ([.ref a, .int x] : List Value).toArray below meth c H locs 0 0 Q (F0 m 2 ls []) := by
    intro n9
    induction n9 with
    | zero =>
      intro i hn9
      exact absurd hn9 (Nat.not_lt_zero _)
    | succ n9 ih =>
      intro i hn9 hi hj H locs ls hP hS hl
      refine lv_iload_n hx hb d_Th_placeOf_2 rfl (lv_at hl 2 rfl) ?_
      refine lv_aload_n hx hb d_Th_placeOf_3 rfl (lv_at hl 0 rfl) ?_
      refine va_get (D := D) (ci := 5) (v := .ref pa) (C := R_Nd) (T := F_Nd) (N := 2) hx hb hts i_Nd hown hK (hv_one hP h0) 0 rfl rfl 0 (by decide) (hts _ k_Th_7) (fun _ h9 => h9) rfl d_Th_placeOf_4 ?_
      refine va_alen (v := nI ps.length) hx hb hK (hv_one hP hp) 0 4 rfl rfl rfl d_Th_placeOf_7 ?_
      refine lv_icmp_ge (tgt := 30) hx hb d_Th_placeOf_8 (by decide) (fun c8 => ?_) (fun c8 => ?_)
      · refine lv_iload_n hx hb d_Th_placeOf_30 rfl (lv_at hl 2 rfl) ?_
        exact hv_iret (v := nI i) hQ hx hb hr hZ hS hP hlocks d_Th_placeOf_31 (⟨⟨i, rfl, hi, hj, fun z => absurd (gk_ge c8 (by omega) (by omega)) (Nat.not_le.mpr z)⟩, rfl⟩)
      · have hlt : i < ps.length := gk_lt c8 (by omega) (by omega)
        refine lv_aload_n hx hb d_Th_placeOf_11 rfl (lv_at hl 0 rfl) ?_
        refine va_get (D := D) (ci := 5) (v := .ref pa) (C := R_Nd) (T := F_Nd) (N := 2) hx hb hts i_Nd hown hK (hv_one hP h0) 0 rfl rfl 0 (by decide) (hts _ k_Th_7) (fun _ h9 => h9) rfl d_Th_placeOf_12 ?_
        refine lv_iload_n hx hb d_Th_placeOf_15 rfl (lv_at hl 2 rfl) ?_
        refine va_aldq hx hb hK (hv_one hP hp) 0 4 rfl rfl (vp_in_nI hlt (by omega)) d_Th_placeOf_16 ?_
        rw [nI_clamp (n := i) (by omega)]
        obtain ⟨q, p, hq1, hp1, hqm, t, hq2, htx⟩ := hpe i hlt
        rw [hq1]
        show W _ _ _ _ _ _ _ _ _ _ _ _ _ _ _ (F0 m 17 ls [.ref q])
        refine va_get (D := D) (ci := 4) (v := .int p.1) (C := R_Pr) (T := F_Pr) (N := 4) hx hb hts i_Pr hown hK (hv_one hP hq2) 0 rfl rfl 0 (by decide) (hts _ k_Th_17) (fun _ h9 => h9) rfl d_Th_placeOf_17 ?_
        refine lv_iload_n hx hb d_Th_placeOf_20 rfl (lv_at hl 1 rfl) ?_
        refine lv_icmp_eq (tgt := 30) hx hb d_Th_placeOf_21 (by decide) (fun c21 => ?_) (fun c21 => ?_)
        · refine lv_iload_n hx hb d_Th_placeOf_30 rfl (lv_at hl 2 rfl) ?_
          exact hv_iret (v := nI i) hQ hx hb hr hZ hS hP hlocks d_Th_placeOf_31 (⟨⟨i, rfl, hi, hj, fun _ => (g_fst_key hp1).trans c21⟩, rfl⟩)
        · refine lv_iinc (v := (nI (i + 1))) (lv' := [(2, .int ((nI (i + 1)))), (0, .ref a), (1, .int x)]) hx hb d_Th_placeOf_24 hl (k := 2) rfl (nI_1 i) (by decide) rfl (fun ls hl => ?_)
          refine lv_goto (tgt := 2) hx hb d_Th_placeOf_27 (by decide) ?_
          exact ih (i + 1) (by omega) hlt (lt_s hj (by rw [g_fst_key hp1]; exact c21)) _ _ _ hP hS (lv_sub hl [1, 2, 0] rfl)
  exact lp _ 0 (Nat.lt_succ_self _) (Nat.zero_le _) (fun j q => absurd q (Nat.not_lt_zero _)) _ _ _ hP hS (lv_sub hl [1, 2, 0] rfl)

abbrev rm_Th_placeOfL : Room := { frames := 0, cells := 0, slots := 0, locals := 0 }
set_option maxHeartbeats 4000000 in
set_option maxRecDepth 100000 in
/-- placeOf(x): the first place that has the key, or the length -/
theorem c_Th_placeOfL {l : Launch} {s0 : State} {D : va_G} {ca : Nat → ClassId} (C : hv_C l s0 D (hv_tys ca)) {w : hv_W} {a pa : Nat} {Mu : Nat → Prop} {ps : List gP} {sa ea ty : Int32} (x : Int32) (h0 : w a = some (.inr (6, [.ref pa, .int sa, .int ea, .int ty]))) (hps : g_props ca Mu w pa ps) (hnp : ps.length ≤ 6)  :
    hv_Met l y_Th_placeOf [.code y_Th_placeOf b_Th_placeOf 3 (some .int)] rm_Th_placeOfL (hv_Pc s0 D w [.ref a, .int x]) (hv_Q s0 D (fun v w' => (∃ i, v = some (.int (nI i)) ∧ gk_fst (fun j => (ps.map (fun q => q.1)).getD j 0) ps.length x i) ∧ w' = w) (fun _ _ => False)) 0 0 (hv_A s0.heap.size) := by
  refine hv_enter C _ (by decide) (Nat.le_of_ble_eq_true rfl) ?_
  intro p e s m below meth c ls Q hQ hx hb hr hml hown hts hK hZ hlocks hname hout htr hP hl
  have hown : s.vm.findClass R_Th = some m.cls := hown
  have hS : va_S (hv_A s0.heap.size) s.heap s.heap [] := va_S.rf
  have hl : lv_has ls 3 [(0, .ref a), (1, .int x)] := hl
  obtain ⟨hpm, pf, hp, hpe⟩ := id hps
  refine lv_iconst (v := 0) hx hb d_Th_placeOf_0 (by decide) ?_
  refine lv_istore_n (lv' := [(2, .int 0), (0, .ref a), (1, .int x)]) hx hb d_Th_placeOf_1 rfl hl (by decide) rfl (fun ls hl => ?_)
  have lp : ∀ (n9 : Nat) (i : Nat), ps.length - i < n9 → (i ≤ ps.length) → (∀ j, j < i → ¬ (ps.map (fun q => q.1)).getD j 0 = x) → ∀ (H : Heap) (locs : List Loc) (ls : Array Slot), hv_P D classes s0.heap.size w H → va_S (hv_A s0.heap.size) s.heap H locs → lv_has ls 3 [(0, .ref a), (1, .int x), (2, .int (nI i))] → W p l e rm_Th_placeOfL s m ([.ref a, .int x] : List Value).toArray below meth c H locs 0 0 Q (F0 m 2 ls []) := by
    intro n9
    induction n9 with
    | zero =>
      intro i hn9
      exact absurd hn9 (Nat.not_lt_zero _)
    | succ n9 ih =>
      intro i hn9 hi hj H locs ls hP hS hl
      refine lv_iload_n hx hb d_Th_placeOf_2 rfl (lv_at hl 2 rfl) ?_
      refine lv_aload_n hx hb d_Th_placeOf_3 rfl (lv_at hl 0 rfl) ?_
      refine va_get (D := D) (ci := 6) (v := .ref pa) (C := R_Lk) (T := F_Lk) (N := 4) hx hb hts i_Lk hown hK (hv_one hP h0) 0 rfl rfl 0 (by decide) (hts _ k_Th_7) (fun _ h9 => h9) rfl d_Th_placeOf_4 ?_
      refine va_alen (v := nI ps.length) hx hb hK (hv_one hP hp) 0 4 rfl rfl rfl d_Th_placeOf_7 ?_
      refine lv_icmp_ge (tgt := 30) hx hb d_Th_placeOf_8 (by decide) (fun c8 => ?_) (fun c8 => ?_)
      · refine lv_iload_n hx hb d_Th_placeOf_30 rfl (lv_at hl 2 rfl) ?_
        exact hv_iret (v := nI i) hQ hx hb hr hZ hS hP hlocks d_Th_placeOf_31 (⟨⟨i, rfl, hi, hj, fun z => absurd (gk_ge c8 (by omega) (by omega)) (Nat.not_le.mpr z)⟩, rfl⟩)
      · have hlt : i < ps.length := gk_lt c8 (by omega) (by omega)
        refine lv_aload_n hx hb d_Th_placeOf_11 rfl (lv_at hl 0 rfl) ?_
        refine va_get (D := D) (ci := 6) (v := .ref pa) (C := R_Lk) (T := F_Lk) (N := 4) hx hb hts i_Lk hown hK (hv_one hP h0) 0 rfl rfl 0 (by decide) (hts _ k_Th_7) (fun _ h9 => h9) rfl d_Th_placeOf_12 ?_
        refine lv_iload_n hx hb d_Th_placeOf_15 rfl (lv_at hl 2 rfl) ?_
        refine va_aldq hx hb hK (hv_one hP hp) 0 4 rfl rfl (vp_in_nI hlt (by omega)) d_Th_placeOf_16 ?_
        rw [nI_clamp (n := i) (by omega)]
        obtain ⟨q, p, hq1, hp1, hqm, t, hq2, htx⟩ := hpe i hlt
        rw [hq1]
        show W _ _ _ _ _ _ _ _ _ _ _ _ _ _ _ (F0 m 17 ls [.ref q])
        refine va_get (D := D) (ci := 4) (v := .int p.1) (C := R_Pr) (T := F_Pr) (N := 4) hx hb hts i_Pr hown hK (hv_one hP hq2) 0 rfl rfl 0 (by decide) (hts _ k_Th_17) (fun _ h9 => h9) rfl d_Th_placeOf_17 ?_
        refine lv_iload_n hx hb d_Th_placeOf_20 rfl (lv_at hl 1 rfl) ?_
        refine lv_icmp_eq (tgt := 30) hx hb d_Th_placeOf_21 (by decide) (fun c21 => ?_) (fun c21 => ?_)
        · refine lv_iload_n hx hb d_Th_placeOf_30 rfl (lv_at hl 2 rfl) ?_
          exact hv_iret (v := nI i) hQ hx hb hr hZ hS hP hlocks d_Th_placeOf_31 (⟨⟨i, rfl, hi, hj, fun _ => (g_fst_key hp1).trans c21⟩, rfl⟩)
        · refine lv_iinc (v := (nI (i + 1))) (lv' := [(2, .int ((nI (i + 1)))), (0, .ref a), (1, .int x)]) hx hb d_Th_placeOf_24 hl (k := 2) rfl (nI_1 i) (by decide) rfl (fun ls hl => ?_)
          refine lv_goto (tgt := 2) hx hb d_Th_placeOf_27 (by decide) ?_
          exact ih (i + 1) (by omega) hlt (lt_s hj (by rw [g_fst_key hp1]; exact c21)) _ _ _ hP hS (lv_sub hl [1, 2, 0] rfl)
  exact lp _ 0 (Nat.lt_succ_self _) (Nat.zero_le _) (fun j q => absurd q (Nat.not_lt_zero _)) _ _ _ hP hS (lv_sub hl [1, 2, 0] rfl)

abbrev rm_Th_propertyOfN : Room := { frames := 1, cells := 0, slots := 0, locals := 22 }
set_option maxHeartbeats 4000000 in
set_option maxRecDepth 100000 in
/-- propertyOf(x) -/
theorem c_Th_propertyOfN {l : Launch} {s0 : State} {D : va_G} {ca : Nat → ClassId} (C : hv_C l s0 D (hv_tys ca)) {w : hv_W} {a pa : Nat} {Mu : Nat → Prop} {ps : List gP} {lb : Nat} (x : Int32) (h0 : w a = some (.inr (5, [.ref pa, .ref lb]))) (hps : g_props ca Mu w pa ps) (hnp : ps.length ≤ 6)  :
    hv_Met l y_Th_propertyOf [.code y_Th_propertyOf b_Th_propertyOf 3 (some (.object "GraphKeep$Property"))] rm_Th_propertyOfN (hv_Pc s0 D w [.ref a, .int x]) (hv_Q s0 D (fun v w' => (∃ r, v = some (va_rf r) ∧ g_lookq ca Mu w ps x r) ∧ w' = w) (fun _ _ => False)) 0 0 (hv_A s0.heap.size) := by
  refine hv_enter C _ (by decide) (Nat.le_of_ble_eq_true rfl) ?_
  intro p e s m below meth c ls Q hQ hx hb hr hml hown hts hK hZ hlocks hname hout htr hP hl
  have hown : s.vm.findClass R_Th = some m.cls := hown
  have hS : va_S (hv_A s0.heap.size) s.heap s.heap [] := va_S.rf
  have hl : lv_has ls 3 [(0, .ref a), (1, .int x)] := hl
  obtain ⟨hpm, pf, hp, hpe⟩ := id hps
  refine lv_aload_n hx hb d_Th_propertyOf_0 rfl (lv_at hl 0 rfl) ?_
  refine lv_iload_n hx hb d_Th_propertyOf_1 rfl (lv_at hl 1 rfl) ?_
  refine hv_call (hv_runV (As := [.int x]) (rest := []) (c_Th_placeOfN C x h0 hps hnp) (hv_cw C hZ kc_Th_placeOf kn_Th ⟨rfl, rfl, Nat.le_of_ble_eq_true rfl, Nat.le_of_ble_eq_true rfl⟩) hv_blind (hv_pre hZ hS hP) hx hml hb hown (hts _ k_Th_13) (hts _ ki_Th_placeOf) (hv_selP C hZ (x := y_Th_propertyOf) rfl (by decide) ksel_Nd_Th_propertyOf kpr_Th_placeOf ki_Th_placeOf) hy_Th_placeOf (hts _ kc_Th_placeOf) (va_recv hK (hv_one hP h0) (ci := 5) (q0 := 0) rfl rfl) rfl hl.1 rfl (lv_room (Nat.le_of_ble_eq_true rfl)) d_Th_propertyOf_2 ⟨Nat.le_of_ble_eq_true rfl, Nat.le_of_ble_eq_true rfl⟩) hZ hS (fun v9 w1 H locs q2 hP hS => ?_) (fun x9 w1 H locs q2 hP hS => q2.elim)
  obtain ⟨⟨i, hv9, hf⟩, hw9⟩ := q2
  subst hv9
  rw [hw9] at hP
  show W _ _ _ _ _ _ _ _ _ _ _ _ _ _ _ (F0 m 5 ls [.int (nI i)])
  have hi : i ≤ ps.length := hf.1
  refine lv_istore_n (lv' := [(2, .int (nI i)), (0, .ref a), (1, .int x)]) hx hb d_Th_propertyOf_5 rfl hl (by decide) rfl (fun ls hl => ?_)
  refine lv_iload_n hx hb d_Th_propertyOf_6 rfl (lv_at hl 0 rfl) ?_
  refine lv_aload_n hx hb d_Th_propertyOf_7 rfl (lv_at hl 1 rfl) ?_
  refine va_get (D := D) (ci := 5) (v := .ref pa) (C := R_Nd) (T := F_Nd) (N := 2) hx hb hts i_Nd hown hK (hv_one hP h0) 0 rfl rfl 0 (by decide) (hts _ k_Th_7) (fun _ h9 => h9) rfl d_Th_propertyOf_8 ?_
  refine va_alen (v := nI ps.length) hx hb hK (hv_one hP hp) 0 4 rfl rfl rfl d_Th_propertyOf_11 ?_
  refine lv_icmp_ge (tgt := 24) hx hb d_Th_propertyOf_12 (by decide) (fun c12 => ?_) (fun c12 => ?_)
  · refine lv_null hx hb d_Th_propertyOf_24 ?_
    exact hv_aret (v := none) hQ hx hb hr (Or.inl ⟨_, rfl⟩) hZ hS hP hlocks d_Th_propertyOf_25 (⟨⟨none, rfl, by show g_lookq ca Mu w ps x none; rw [g_lookq, g_look_no hf (Nat.not_lt.mpr (gk_ge c12 (by omega) (by omega)))]⟩, rfl⟩)
  · have hlt : i < ps.length := gk_lt c12 (by omega) (by omega)
    refine lv_aload_n hx hb d_Th_propertyOf_15 rfl (lv_at hl 1 rfl) ?_
    refine va_get (D := D) (ci := 5) (v := .ref pa) (C := R_Nd) (T := F_Nd) (N := 2) hx hb hts i_Nd hown hK (hv_one hP h0) 0 rfl rfl 0 (by decide) (hts _ k_Th_7) (fun _ h9 => h9) rfl d_Th_propertyOf_16 ?_
    refine lv_iload_n hx hb d_Th_propertyOf_19 rfl (lv_at hl 0 rfl) ?_
    refine va_aldq hx hb hK (hv_one hP hp) 0 4 rfl rfl (vp_in_nI hlt (by omega)) d_Th_propertyOf_20 ?_
    rw [nI_clamp (n := i) (by omega)]
    obtain ⟨q, p, hq1, hp1, hqm, t, hq2, htx⟩ := hpe i hlt
    rw [hq1]
    show W _ _ _ _ _ _ _ _ _ _ _ _ _ _ _ (F0 m 21 ls [.ref q])
    refine lv_goto (tgt := 25) hx hb d_Th_propertyOf_21 (by decide) ?_
    exact hv_aret (v := some q) hQ hx hb hr (Or.inl ⟨_, rfl⟩) hZ hS hP hlocks d_Th_propertyOf_25 (⟨⟨some q, rfl, by show g_lookq ca Mu w ps x (some q); rw [g_lookq, g_look_of hf hlt hp1]; exact ⟨q, rfl, hqm, t, hq2, htx⟩⟩, rfl⟩)

abbrev rm_Th_propertyOfL : Room := { frames := 1, cells := 0, slots := 0, locals := 22 }
set_option maxHeartbeats 4000000 in
set_option maxRecDepth 100000 in
/-- propertyOf(x) -/
theorem c_Th_propertyOfL {l : Launch} {s0 : State} {D : va_G} {ca : Nat → ClassId} (C : hv_C l s0 D (hv_tys ca)) {w : hv_W} {a pa : Nat} {Mu : Nat → Prop} {ps : List gP} {sa ea ty : Int32} (x : Int32) (h0 : w a = some (.inr (6, [.ref pa, .int sa, .int ea, .int ty]))) (hps : g_props ca Mu w pa ps) (hnp : ps.length ≤ 6)  :
    hv_Met l y_Th_propertyOf [.code y_Th_propertyOf b_Th_propertyOf 3 (some (.object "GraphKeep$Property"))] rm_Th_propertyOfL (hv_Pc s0 D w [.ref a, .int x]) (hv_Q s0 D (fun v w' => (∃ r, v = some (va_rf r) ∧ g_lookq ca Mu w ps x r) ∧ w' = w) (fun _ _ => False)) 0 0 (hv_A s0.heap.size) := by
  refine hv_enter C _ (by decide) (Nat.le_of_ble_eq_true rfl) ?_
  intro p e s m below meth c ls Q hQ hx hb hr hml hown hts hK hZ hlocks hname hout htr hP hl
  have hown : s.vm.findClass R_Th = some m.cls := hown
  have hS : va_S (hv_A s0.heap.size) s.heap s.heap [] := va_S.rf
  have hl : lv_has ls 3 [(0, .ref a), (1, .int x)] := hl
  obtain ⟨hpm, pf, hp, hpe⟩ := id hps
  refine lv_aload_n hx hb d_Th_propertyOf_0 rfl (lv_at hl 0 rfl) ?_
  refine lv_iload_n hx hb d_Th_propertyOf_1 rfl (lv_at hl 1 rfl) ?_
  refine hv_call (hv_runV (As := [.int x]) (rest := []) (c_Th_placeOfL C x h0 hps hnp) (hv_cw C hZ kc_Th_placeOf kn_Th ⟨rfl, rfl, Nat.le_of_ble_eq_true rfl, Nat.le_of_ble_eq_true rfl⟩) hv_blind (hv_pre hZ hS hP) hx hml hb hown (hts _ k_Th_13) (hts _ ki_Th_placeOf) (hv_selP C hZ (x := y_Th_propertyOf) rfl (by decide) ksel_Lk_Th_propertyOf kpr_Th_placeOf ki_Th_placeOf) hy_Th_placeOf (hts _ kc_Th_placeOf) (va_recv hK (hv_one hP h0) (ci := 6) (q0 := 0) rfl rfl) rfl hl.1 rfl (lv_room (Nat.le_of_ble_eq_true rfl)) d_Th_propertyOf_2 ⟨Nat.le_of_ble_eq_true rfl, Nat.le_of_ble_eq_true rfl⟩) hZ hS (fun v9 w1 H locs q2 hP hS => ?_) (fun x9 w1 H locs q2 hP hS => q2.elim)
  obtain ⟨⟨i, hv9, hf⟩, hw9⟩ := q2
  subst hv9
  rw [hw9] at hP
  show W _ _ _ _ _ _ _ _ _ _ _ _ _ _ _ (F0 m 5 ls [.int (nI i)])
  have hi : i ≤ ps.length := hf.1
  refine lv_istore_n (lv' := [(2, .int (nI i)), (0, .ref a), (1, .int x)]) hx hb d_Th_propertyOf_5 rfl hl (by decide) rfl (fun ls hl => ?_)
  refine lv_iload_n hx hb d_Th_propertyOf_6 rfl (lv_at hl 0 rfl) ?_
  refine lv_aload_n hx hb d_Th_propertyOf_7 rfl (lv_at hl 1 rfl) ?_
  refine va_get (D := D) (ci := 6) (v := .ref pa) (C := R_Lk) (T := F_Lk) (N := 4) hx hb hts i_Lk hown hK (hv_one hP h0) 0 rfl rfl 0 (by decide) (hts _ k_Th_7) (fun _ h9 => h9) rfl d_Th_propertyOf_8 ?_
  refine va_alen (v := nI ps.length) hx hb hK (hv_one hP hp) 0 4 rfl rfl rfl d_Th_propertyOf_11 ?_
  refine lv_icmp_ge (tgt := 24) hx hb d_Th_propertyOf_12 (by decide) (fun c12 => ?_) (fun c12 => ?_)
  · refine lv_null hx hb d_Th_propertyOf_24 ?_
    exact hv_aret (v := none) hQ hx hb hr (Or.inl ⟨_, rfl⟩) hZ hS hP hlocks d_Th_propertyOf_25 (⟨⟨none, rfl, by show g_lookq ca Mu w ps x none; rw [g_lookq, g_look_no hf (Nat.not_lt.mpr (gk_ge c12 (by omega) (by omega)))]⟩, rfl⟩)
  · have hlt : i < ps.length := gk_lt c12 (by omega) (by omega)
    refine lv_aload_n hx hb d_Th_propertyOf_15 rfl (lv_at hl 1 rfl) ?_
    refine va_get (D := D) (ci := 6) (v := .ref pa) (C := R_Lk) (T := F_Lk) (N := 4) hx hb hts i_Lk hown hK (hv_one hP h0) 0 rfl rfl 0 (by decide) (hts _ k_Th_7) (fun _ h9 => h9) rfl d_Th_propertyOf_16 ?_
    refine lv_iload_n hx hb d_Th_propertyOf_19 rfl (lv_at hl 0 rfl) ?_
    refine va_aldq hx hb hK (hv_one hP hp) 0 4 rfl rfl (vp_in_nI hlt (by omega)) d_Th_propertyOf_20 ?_
    rw [nI_clamp (n := i) (by omega)]
    obtain ⟨q, p, hq1, hp1, hqm, t, hq2, htx⟩ := hpe i hlt
    rw [hq1]
    show W _ _ _ _ _ _ _ _ _ _ _ _ _ _ _ (F0 m 21 ls [.ref q])
    refine lv_goto (tgt := 25) hx hb d_Th_propertyOf_21 (by decide) ?_
    exact hv_aret (v := some q) hQ hx hb hr (Or.inl ⟨_, rfl⟩) hZ hS hP hlocks d_Th_propertyOf_25 (⟨⟨some q, rfl, by show g_lookq ca Mu w ps x (some q); rw [g_lookq, g_look_of hf hlt hp1]; exact ⟨q, rfl, hqm, t, hq2, htx⟩⟩, rfl⟩)

abbrev rm_Nd_placeOfLabel : Room := { frames := 0, cells := 0, slots := 0, locals := 0 }
set_option maxHeartbeats 4000000 in
set_option maxRecDepth 100000 in
/-- placeOfLabel(x) -/
theorem c_Nd_placeOfLabel {l : Launch} {s0 : State} {D : va_G} {ca : Nat → ClassId} (C : hv_C l s0 D (hv_tys ca)) {w : hv_W} {a pa lb : Nat} {Mu : Nat → Prop} {xs : List Int32} (x : Int32) (h0 : w a = some (.inr (5, [.ref pa, .ref lb]))) (hls : g_int ca Mu w lb xs) (hnl : xs.length ≤ 4)  :
    hv_Met l y_Nd_placeOfLabel [.code y_Nd_placeOfLabel b_Nd_placeOfLabel 3 (some .int)] rm_Nd_placeOfLabel (hv_Pc s0 D w [.ref a, .int x]) (hv_Q s0 D (fun v w' => (∃ i, v = some (.int (nI i)) ∧ gk_fst (fun j => xs.getD j 0) xs.length x i) ∧ w' = w) (fun _ _ => False)) 0 0 (hv_A s0.heap.size) := by
  refine hv_enter C _ (by decide) (Nat.le_of_ble_eq_true rfl) ?_
  intro p e s m below meth c ls Q hQ hx hb hr hml hown hts hK hZ hlocks hname hout htr hP hl
  have hown : s.vm.findClass R_Nd = some m.cls := hown
  have hS : va_S (hv_A s0.heap.size) s.heap s.heap [] := va_S.rf
  have hl : lv_has ls 3 [(0, .ref a), (1, .int x)] := hl
  obtain ⟨hlm, lf, hl0, hle⟩ := id hls
  refine lv_iconst (v := 0) hx hb d_Nd_placeOfLabel_0 (by decide) ?_
  refine lv_istore_n (lv' := [(2, .int 0), (0, .ref a), (1, .int x)]) hx hb d_Nd_placeOfLabel_1 rfl hl (by decide) rfl (fun ls hl => ?_)
  have lp : ∀ (n9 : Nat) (i : Nat), xs.length - i < n9 → (i ≤ xs.length) → (∀ j, j < i → ¬ xs.getD j 0 = x) → ∀ (H : Heap) (locs : List Loc) (ls : Array Slot), hv_P D classes s0.heap.size w H → va_S (hv_A s0.heap.size) s.heap H locs → lv_has ls 3 [(0, .ref a), (1, .int x), (2, .int (nI i))] → W p l e rm_Nd_placeOfLabel s m ([.ref a, .int x] : List Value).toArray below meth c H locs 0 0 Q (F0 m 2 ls []) := by
    intro n9
    induction n9 with
    | zero =>
      intro i hn9
      exact absurd hn9 (Nat.not_lt_zero _)
    | succ n9 ih =>
      intro i hn9 hi hj H locs ls hP hS hl
      refine lv_iload_n hx hb d_Nd_placeOfLabel_2 rfl (lv_at hl 2 rfl) ?_
      refine lv_aload_n hx hb d_Nd_placeOfLabel_3 rfl (lv_at hl 0 rfl) ?_
      refine va_get (D := D) (ci := 5) (v := .ref lb) (C := R_Nd) (T := F_Nd) (N := 2) hx hb hts i_Nd hown hK (hv_one hP h0) 0 rfl rfl 1 (by decide) (hts _ k_Nd_7) (fun _ h9 => h9) rfl d_Nd_placeOfLabel_4 ?_
      refine va_alen (v := nI xs.length) hx hb hK (hv_one hP hl0) 0 0 rfl rfl rfl d_Nd_placeOfLabel_7 ?_
      refine lv_icmp_ge (tgt := 27) hx hb d_Nd_placeOfLabel_8 (by decide) (fun c8 => ?_) (fun c8 => ?_)
      · refine lv_iload_n hx hb d_Nd_placeOfLabel_27 rfl (lv_at hl 2 rfl) ?_
        exact hv_iret (v := nI i) hQ hx hb hr hZ hS hP hlocks d_Nd_placeOfLabel_28 (⟨⟨i, rfl, hi, hj, fun z => absurd (gk_ge c8 (by omega) (by omega)) (Nat.not_le.mpr z)⟩, rfl⟩)
      · have hlt : i < xs.length := gk_lt c8 (by omega) (by omega)
        refine lv_aload_n hx hb d_Nd_placeOfLabel_11 rfl (lv_at hl 0 rfl) ?_
        refine va_get (D := D) (ci := 5) (v := .ref lb) (C := R_Nd) (T := F_Nd) (N := 2) hx hb hts i_Nd hown hK (hv_one hP h0) 0 rfl rfl 1 (by decide) (hts _ k_Nd_7) (fun _ h9 => h9) rfl d_Nd_placeOfLabel_12 ?_
        refine lv_iload_n hx hb d_Nd_placeOfLabel_15 rfl (lv_at hl 2 rfl) ?_
        refine va_iald hx hb hK (hv_one hP hl0) 0 0 rfl rfl (vp_in_nI hlt (by omega)) d_Nd_placeOfLabel_16 ?_
        rw [nI_clamp (n := i) (by omega)]
        refine lv_iload_n hx hb d_Nd_placeOfLabel_17 rfl (lv_at hl 1 rfl) ?_
        refine lv_icmp_eq (tgt := 27) hx hb d_Nd_placeOfLabel_18 (by decide) (fun c18 => ?_) (fun c18 => ?_)
        · refine lv_iload_n hx hb d_Nd_placeOfLabel_27 rfl (lv_at hl 2 rfl) ?_
          exact hv_iret (v := nI i) hQ hx hb hr hZ hS hP hlocks d_Nd_placeOfLabel_28 (⟨⟨i, rfl, hi, hj, fun _ => (hle i hlt).symm.trans c18⟩, rfl⟩)
        · refine lv_iinc (v := (nI (i + 1))) (lv' := [(2, .int ((nI (i + 1)))), (0, .ref a), (1, .int x)]) hx hb d_Nd_placeOfLabel_21 hl (k := 2) rfl (nI_1 i) (by decide) rfl (fun ls hl => ?_)
          refine lv_goto (tgt := 2) hx hb d_Nd_placeOfLabel_24 (by decide) ?_
          exact ih (i + 1) (by omega) hlt (lt_s hj (by rw [← hle i hlt]; exact c18)) _ _ _ hP hS (lv_sub hl [1, 2, 0] rfl)
  exact lp _ 0 (Nat.lt_succ_self _) (Nat.zero_le _) (fun j q => absurd q (Nat.not_lt_zero _)) _ _ _ hP hS (lv_sub hl [1, 2, 0] rfl)

abbrev rm_Nd_isLabelled : Room := { frames := 1, cells := 0, slots := 0, locals := 22 }
set_option maxHeartbeats 4000000 in
set_option maxRecDepth 100000 in
/-- isLabelled(x) -/
theorem c_Nd_isLabelled {l : Launch} {s0 : State} {D : va_G} {ca : Nat → ClassId} (C : hv_C l s0 D (hv_tys ca)) {w : hv_W} {a pa lb : Nat} {Mu : Nat → Prop} {xs : List Int32} (x : Int32) (h0 : w a = some (.inr (5, [.ref pa, .ref lb]))) (hls : g_int ca Mu w lb xs) (hnl : xs.length ≤ 4)  :
    hv_Met l y_Nd_isLabelled [.code y_Nd_isLabelled b_Nd_isLabelled 2 (some .boolean)] rm_Nd_isLabelled (hv_Pc s0 D w [.ref a, .int x]) (hv_Q s0 D (fun v w' => v = some (.int (if x ∈ xs then 1 else 0)) ∧ w' = w) (fun _ _ => False)) 0 0 (hv_A s0.heap.size) := by
  refine hv_enter C _ (by decide) (Nat.le_of_ble_eq_true rfl) ?_
  intro p e s m below meth c ls Q hQ hx hb hr hml hown hts hK hZ hlocks hname hout htr hP hl
  have hown : s.vm.findClass R_Nd = some m.cls := hown
  have hS : va_S (hv_A s0.heap.size) s.heap s.heap [] := va_S.rf
  have hl : lv_has ls 2 [(0, .ref a), (1, .int x)] := hl
  obtain ⟨hlm, lf, hl0, hle⟩ := id hls
  refine lv_aload_n hx hb d_Nd_isLabelled_0 rfl (lv_at hl 0 rfl) ?_
  refine lv_iload_n hx hb d_Nd_isLabelled_1 rfl (lv_at hl 1 rfl) ?_
  refine hv_call (hv_runV (As := [.int x]) (rest := []) (c_Nd_placeOfLabel C x h0 hls hnl) (hv_cw C hZ kc_Nd_placeOfLabel kn_Nd ⟨rfl, rfl, Nat.le_of_ble_eq_true rfl, Nat.le_of_ble_eq_true rfl⟩) hv_blind (hv_pre hZ hS hP) hx hml hb hown (hts _ k_Nd_13) (hts _ ki_Nd_placeOfLabel) (hts _ ksel_Nd_Nd_placeOfLabel) hy_Nd_placeOfLabel (hts _ kc_Nd_placeOfLabel) (va_recv hK (hv_one hP h0) (ci := 5) (q0 := 0) rfl rfl) rfl hl.1 rfl (lv_room (Nat.le_of_ble_eq_true rfl)) d_Nd_isLabelled_2 ⟨Nat.le_of_ble_eq_true rfl, Nat.le_of_ble_eq_true rfl⟩) hZ hS (fun v9 w1 H locs q2 hP hS => ?_) (fun x9 w1 H locs q2 hP hS => q2.elim)
  obtain ⟨⟨i, hv9, hf⟩, hw9⟩ := q2
  subst hv9
  rw [hw9] at hP
  show W _ _ _ _ _ _ _ _ _ _ _ _ _ _ _ (F0 m 5 ls [.int (nI i)])
  have hi : i ≤ xs.length := hf.1
  refine lv_aload_n hx hb d_Nd_isLabelled_5 rfl (lv_at hl 0 rfl) ?_
  refine va_get (D := D) (ci := 5) (v := .ref lb) (C := R_Nd) (T := F_Nd) (N := 2) hx hb hts i_Nd hown hK (hv_one hP h0) 0 rfl rfl 1 (by decide) (hts _ k_Nd_7) (fun _ h9 => h9) rfl d_Nd_isLabelled_6 ?_
  refine va_alen (v := nI xs.length) hx hb hK (hv_one hP hl0) 0 0 rfl rfl rfl d_Nd_isLabelled_9 ?_
  refine lv_icmp_ge (tgt := 17) hx hb d_Nd_isLabelled_10 (by decide) (fun c10 => ?_) (fun c10 => ?_)
  · refine lv_iconst (v := 0) hx hb d_Nd_isLabelled_17 (by decide) ?_
    exact hv_zret (v := 0) hQ hx hb hr (by decide) hZ hS hP hlocks d_Nd_isLabelled_18 (⟨by rw [if_neg (fun q => Nat.not_lt.mpr (gk_ge c10 (by omega) (by omega)) ((g_fst_mem hf).mpr q))], rfl⟩)
  · refine lv_iconst (v := 1) hx hb d_Nd_isLabelled_13 (by decide) ?_
    refine lv_goto (tgt := 18) hx hb d_Nd_isLabelled_14 (by decide) ?_
    exact hv_zret (v := 1) hQ hx hb hr (by decide) hZ hS hP hlocks d_Nd_isLabelled_18 (⟨by rw [if_pos ((g_fst_mem hf).mp (gk_lt c10 (by omega) (by omega)))], rfl⟩)

abbrev rm_Nd_withLabel : Room := { frames := 3, cells := 2, slots := 6, locals := 55 }
set_option maxHeartbeats 4000000 in
set_option maxRecDepth 100000 in
/-- withLabel(x): a new node with one label more -/
theorem c_Nd_withLabel {l : Launch} {s0 : State} {D : va_G} {ca : Nat → ClassId} (C : hv_C l s0 D (hv_tys ca)) {w : hv_W} {a pa lb : Nat} {Mu : Nat → Prop} {xs : List Int32} {ps : List gP} (x : Int32) (hMu : ∀ b, Mu b → w b ≠ none) (h0 : w a = some (.inr (5, [.ref pa, .ref lb]))) (hls : g_int ca Mu w lb xs) (hps : g_props ca Mu w pa ps) (hnl : xs.length ≤ 3)  :
    hv_Met l y_Nd_withLabel [.code y_Nd_withLabel b_Nd_withLabel 4 (some (.object "GraphKeep$Node"))] rm_Nd_withLabel (hv_Pc s0 D w [.ref a, .int x]) (hv_Q s0 D (fun v w' => ∃ q, v = some (va_rf (some q)) ∧ w q = none ∧ g_node ca Mu w' q (xs ++ [x], ps) ∧ g_grow w w') (fun _ _ => False)) 2 6 (hv_A s0.heap.size) := by
  refine hv_enter C _ (by decide) (Nat.le_of_ble_eq_true rfl) ?_
  intro p e s m below meth c ls Q hQ hx hb hr hml hown hts hK hZ hlocks hname hout htr hP hl
  have hown : s.vm.findClass R_Nd = some m.cls := hown
  have hS : va_S (hv_A s0.heap.size) s.heap s.heap [] := va_S.rf
  have hl : lv_has ls 4 [(0, .ref a), (1, .int x)] := hl
  obtain ⟨hlm, lf, hl0, hle⟩ := id hls
  refine lv_aload_n hx hb d_Nd_withLabel_0 rfl (lv_at hl 0 rfl) ?_
  refine va_get (D := D) (ci := 5) (v := .ref lb) (C := R_Nd) (T := F_Nd) (N := 2) hx hb hts i_Nd hown hK (hv_one hP h0) 0 rfl rfl 1 (by decide) (hts _ k_Nd_7) (fun _ h9 => h9) rfl d_Nd_withLabel_1 ?_
  refine va_alen (v := nI xs.length) hx hb hK (hv_one hP hl0) 0 0 rfl rfl rfl d_Nd_withLabel_4 ?_
  refine lv_iconst (v := 1) hx hb d_Nd_withLabel_5 (by decide) ?_
  refine lv_iadd hx hb d_Nd_withLabel_6 ?_
  refine lv_topi (fun v9 e9 => ?_)
  have e9 : v9 = nI (xs.length + 1) := e9.trans (nI_1 _)
  subst e9
  show W _ _ _ _ _ _ _ _ _ _ _ _ _ _ _ (F0 m 7 ls [.int (nI (xs.length + 1))])
  refine hv_newa (a0 := (xs.length + 1, .inl (fun _ => 0))) hx hb (hts _ ka_int) rfl hK hP hS hZ.2.1 0 rfl (N' := xs.length + 1) (fun _ => rfl) (nI_pos (by omega)) (nI_clamp (by omega)) (gk_bytes (by omega)) (Nat.le_of_ble_eq_true rfl) (by show _ + _ ≤ 6; omega) d_Nd_withLabel_7 (fun q1 H hq2 hP hS => ?_)
  obtain ⟨w3, ew3⟩ : ∃ z9 : hv_W, z9 = va_up w q1 (some (.inl (ca 0, xs.length + 1, .inl (fun _ => 0)))) := ⟨_, rfl⟩
  have hP : hv_P D classes s0.heap.size w3 H := by rw [ew3]; exact hP
  have h4 : w3 a = some (.inr (5, [.ref pa, .ref lb])) := by rw [ew3]; exact hv_up_f hq2 h0
  have h5 : w3 lb = some (.inl (ca 0, xs.length, .inl lf)) := by rw [ew3]; exact hv_up_f hq2 hl0
  have h6 : w3 q1 = some (.inl (ca 0, xs.length + 1, .inl (fun _ => 0))) := by rw [ew3]; exact hv_up_s
  refine W.widen (k := 1) (n := 4) (by omega) (by omega) ?_
  show W _ _ _ _ _ _ _ _ _ _ _ _ _ _ _ (F0 m 9 ls [.ref q1])
  have hg0 : g_grow w w3 := by rw [ew3]; exact g_grow.new hq2
  refine lv_astore_n (lv' := [(2, .ref q1), (0, .ref a), (1, .int x)]) hx hb d_Nd_withLabel_9 rfl hl (by decide) rfl (fun ls hl => ?_)
  refine lv_iconst (v := 0) hx hb d_Nd_withLabel_10 (by decide) ?_
  refine lv_istore_n (lv' := [(3, .int 0), (2, .ref q1), (0, .ref a), (1, .int x)]) hx hb d_Nd_withLabel_11 rfl hl (by decide) rfl (fun ls hl => ?_)
  have lp : ∀ (n9 : Nat) (i : Nat) (g : Nat → Int32) (z : hv_W), xs.length - i < n9 → (i ≤ xs.length) → (z q1 = some (.inl (ca 0, xs.length + 1, .inl g))) → (g_grow w z) → (∀ j, j < i → g j = lf j) → ∀ (H : Heap) (locs : List Loc) (ls : Array Slot), hv_P D classes s0.heap.size z H → va_S (hv_A s0.heap.size) s.heap H locs → lv_has ls 4 [(0, .ref a), (1, .int x), (2, .ref q1), (3, .int (nI i))] → W p l e rm_Nd_withLabel s m ([.ref a, .int x] : List Value).toArray below meth c H locs 1 4 Q (F0 m 12 ls []) := by
    intro n9
    induction n9 with
    | zero =>
      intro i g z hn9
      exact absurd hn9 (Nat.not_lt_zero _)
    | succ n9 ih =>
      intro i g z hn9 hi hz hg hj H locs ls hP hS hl
      refine lv_iload_n hx hb d_Nd_withLabel_12 rfl (lv_at hl 3 rfl) ?_
      refine lv_aload_n hx hb d_Nd_withLabel_13 rfl (lv_at hl 0 rfl) ?_
      refine va_get (D := D) (ci := 5) (v := .ref lb) (C := R_Nd) (T := F_Nd) (N := 2) hx hb hts i_Nd hown hK (hv_one hP (hg _ _ h0)) 0 rfl rfl 1 (by decide) (hts _ k_Nd_7) (fun _ h9 => h9) rfl d_Nd_withLabel_14 ?_
      refine va_alen (v := nI xs.length) hx hb hK (hv_one hP (hg _ _ hl0)) 0 0 rfl rfl rfl d_Nd_withLabel_17 ?_
      refine lv_icmp_ge (tgt := 36) hx hb d_Nd_withLabel_18 (by decide) (fun c18 => ?_) (fun c18 => ?_)
      · have hi2 : i = xs.length := Nat.le_antisymm hi (gk_ge c18 (by omega) (by omega))
        refine lv_aload_n hx hb d_Nd_withLabel_36 rfl (lv_at hl 2 rfl) ?_
        refine lv_aload_n hx hb d_Nd_withLabel_37 rfl (lv_at hl 0 rfl) ?_
        refine va_get (D := D) (ci := 5) (v := .ref lb) (C := R_Nd) (T := F_Nd) (N := 2) hx hb hts i_Nd hown hK (hv_one hP (hg _ _ h0)) 0 rfl rfl 1 (by decide) (hts _ k_Nd_7) (fun _ h9 => h9) rfl d_Nd_withLabel_38 ?_
        refine va_alen (v := nI xs.length) hx hb hK (hv_one hP (hg _ _ hl0)) 0 0 rfl rfl rfl d_Nd_withLabel_41 ?_
        refine lv_iload_n hx hb d_Nd_withLabel_42 rfl (lv_at hl 1 rfl) ?_
        refine hv_iast hx hb hK hP hS 0 hz rfl (vp_in_nI (Nat.lt_succ_self _) (by omega)) d_Nd_withLabel_43 (fun H locs hP hS => ?_)
        rw [nI_clamp (n := xs.length) (by omega)] at hP
        obtain ⟨w7, ew7⟩ : ∃ z9 : hv_W, z9 = va_up z q1 (some (.inl (ca 0, xs.length + 1, .inl (upd g xs.length x)))) := ⟨_, rfl⟩
        have hP : hv_P D classes s0.heap.size w7 H := by rw [ew7]; exact hP
        have h8 : w7 a = some (.inr (5, [.ref pa, .ref lb])) := by rw [ew7]; exact hv_up_k (hg _ _ h0) (hv_ne_f hq2 h0)
        have h9 : w7 lb = some (.inl (ca 0, xs.length, .inl lf)) := by rw [ew7]; exact hv_up_k (hg _ _ hl0) (hv_ne_f hq2 hl0)
        have h10 : w7 q1 = some (.inl (ca 0, xs.length + 1, .inl (upd g xs.length x))) := by rw [ew7]; exact hv_up_s
        have hg1 : g_grow w w7 := g_grow.upd hq2 hg ⟨h10, fun b hb => by rw [ew7, hv_up_n hb]⟩
        refine hv_new (ci := 5) (fs := [.null, .null]) (C := R_Nd) (T := F_Nd) (N := 2) hx hb hts i_Nd t_Nd t_Nd_ok hown (hts _ k_Nd_8) (hts _ kin_Nd) (hts _ kn_Nd) hK hP hS hZ.2.1 rfl z_Nd (Nat.le_of_ble_eq_true rfl) (Nat.le_of_ble_eq_true rfl) d_Nd_withLabel_44 (fun q11 H hq12 hP hS => ?_)
        obtain ⟨w13, ew13⟩ : ∃ z9 : hv_W, z9 = va_up w7 q11 (some (.inr (5, [.null, .null]))) := ⟨_, rfl⟩
        have hP : hv_P D classes s0.heap.size w13 H := by rw [ew13]; exact hP
        have h14 : w13 a = some (.inr (5, [.ref pa, .ref lb])) := by rw [ew13]; exact hv_up_f hq12 h8
        have h15 : w13 lb = some (.inl (ca 0, xs.length, .inl lf)) := by rw [ew13]; exact hv_up_f hq12 h9
        have h16 : w13 q1 = some (.inl (ca 0, xs.length + 1, .inl (upd g xs.length x))) := by rw [ew13]; exact hv_up_f hq12 h10
        have h17 : w13 q11 = some (.inr (5, [.null, .null])) := by rw [ew13]; exact hv_up_s
        refine W.widen (k := 2) (n := 6) (by omega) (by omega) ?_
        show W _ _ _ _ _ _ _ _ _ _ _ _ _ _ _ (F0 m 47 ls [.ref q11])
        have hg2 : g_grow w w13 := hg1.trans (by rw [ew13]; exact g_grow.new hq12)
        have hn2 : w q11 = none := hg1.none hq12
        refine lv_dup hx hb d_Nd_withLabel_47 rfl ?_
        refine lv_aload_n hx hb d_Nd_withLabel_48 rfl (lv_at hl 2 rfl) ?_
        refine lv_aload_n hx hb d_Nd_withLabel_49 rfl (lv_at hl 0 rfl) ?_
        refine va_get (D := D) (ci := 5) (v := .ref pa) (C := R_Nd) (T := F_Nd) (N := 2) hx hb hts i_Nd hown hK (hv_one hP h14) 0 rfl rfl 0 (by decide) (hts _ k_Nd_17) (u_same (hts _ ks_Nd_properties)) rfl d_Nd_withLabel_50 ?_
        refine hv_call (hv_runI (As := [.ref q1, .ref pa]) (rest := [.ref q11]) (c_Nd_init C h17) (hv_cw C hZ kc_Nd_init kn_Nd ⟨rfl, rfl, Nat.le_of_ble_eq_true rfl, Nat.le_of_ble_eq_true rfl⟩) hv_blind (hv_pre hZ hS hP) hx hml hb hown (hts _ k_Nd_21) (hts _ ki_Nd_init) rfl hy_Nd_init (hts _ kc_Nd_init) rfl hl.1 rfl (lv_room (Nat.le_of_ble_eq_true rfl)) d_Nd_withLabel_53 ⟨Nat.le_of_ble_eq_true rfl, Nat.le_of_ble_eq_true rfl⟩) hZ hS (fun v9 w18 H locs q19 hP hS => ?_) (fun x9 w18 H locs q19 hP hS => q19.elim)
        obtain ⟨hv9, q19u⟩ := q19
        subst hv9
        show W _ _ _ _ _ _ _ _ _ _ _ _ _ _ _ (F0 m 56 ls [.ref q11])
        have hg3 : g_grow w w18 := g_grow.upd hn2 hg2 q19u
        exact hv_aret (v := some q11) hQ hx hb hr (Or.inl ⟨_, rfl⟩) hZ hS hP hlocks d_Nd_withLabel_56 (⟨q11, rfl, hn2, ⟨fun hm => hMu _ hm hn2, pa, q1, q19u.1, ⟨fun hm => hMu _ hm hq2, _, by rw [List.length_append]; exact (q19u.k h16 (hv_ne h16 h17 (by simp [hv_tag]))), g_app (fun j hj9 => hj j (by rw [hi2]; exact hj9)) hle⟩, hps.k hg3.keep⟩, hg3⟩)
      · have hlt : i < xs.length := gk_lt c18 (by omega) (by omega)
        refine lv_aload_n hx hb d_Nd_withLabel_21 rfl (lv_at hl 2 rfl) ?_
        refine lv_iload_n hx hb d_Nd_withLabel_22 rfl (lv_at hl 3 rfl) ?_
        refine lv_aload_n hx hb d_Nd_withLabel_23 rfl (lv_at hl 0 rfl) ?_
        refine va_get (D := D) (ci := 5) (v := .ref lb) (C := R_Nd) (T := F_Nd) (N := 2) hx hb hts i_Nd hown hK (hv_one hP (hg _ _ h0)) 0 rfl rfl 1 (by decide) (hts _ k_Nd_7) (fun _ h9 => h9) rfl d_Nd_withLabel_24 ?_
        refine lv_iload_n hx hb d_Nd_withLabel_27 rfl (lv_at hl 3 rfl) ?_
        refine va_iald hx hb hK (hv_one hP (hg _ _ hl0)) 0 0 rfl rfl (vp_in_nI hlt (by omega)) d_Nd_withLabel_28 ?_
        rw [nI_clamp (n := i) (by omega)]
        refine hv_iast hx hb hK hP hS 0 hz rfl (vp_in_nI (Nat.lt_succ_of_lt hlt) (by omega)) d_Nd_withLabel_29 (fun H locs hP hS => ?_)
        rw [nI_clamp (n := i) (by omega)] at hP
        obtain ⟨w20, ew20⟩ : ∃ z9 : hv_W, z9 = va_up z q1 (some (.inl (ca 0, xs.length + 1, .inl (upd g i ((lf i)))))) := ⟨_, rfl⟩
        have hP : hv_P D classes s0.heap.size w20 H := by rw [ew20]; exact hP
        have h21 : w20 a = some (.inr (5, [.ref pa, .ref lb])) := by rw [ew20]; exact hv_up_k (hg _ _ h0) (hv_ne_f hq2 h0)
        have h22 : w20 lb = some (.inl (ca 0, xs.length, .inl lf)) := by rw [ew20]; exact hv_up_k (hg _ _ hl0) (hv_ne_f hq2 hl0)
        have h23 : w20 q1 = some (.inl (ca 0, xs.length + 1, .inl (upd g i ((lf i))))) := by rw [ew20]; exact hv_up_s
        refine lv_iinc (v := (nI (i + 1))) (lv' := [(3, .int ((nI (i + 1)))), (0, .ref a), (1, .int x), (2, .ref q1)]) hx hb d_Nd_withLabel_30 hl (k := 3) rfl (nI_1 i) (by decide) rfl (fun ls hl => ?_)
        refine lv_goto (tgt := 12) hx hb d_Nd_withLabel_33 (by decide) ?_
        exact ih (i + 1) (upd g i ((lf i))) w20 (by omega) hlt h23 (g_grow.upd hq2 hg ⟨h23, fun b hb => by rw [ew20, hv_up_n hb]⟩) (gk_fillI hj rfl) _ _ _ hP hS (lv_sub hl [1, 2, 3, 0] rfl)
  exact lp _ 0 (fun _ => 0) w3 (Nat.lt_succ_self _) (Nat.zero_le _) h6 hg0 (fun j q => absurd q (Nat.not_lt_zero _)) _ _ _ hP hS (lv_sub hl [2, 3, 1, 0] rfl)
end
