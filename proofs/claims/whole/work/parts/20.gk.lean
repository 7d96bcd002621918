abbrev rm_GK_mustBeOn : Room := { frames := 6, cells := 1, slots := 6, locals := 82 }
set_option maxHeartbeats 4000000 in
set_option maxRecDepth 100000 in
theorem c_GK_mustBeOn {l : Launch} {s0 : State} {D : va_G} {ca : Nat → ClassId} (C : hv_C l s0 D (hv_tys ca)) {w : hv_W} (N : hv_N s0) {L : Nat → Nat} {w0 : hv_W} {σ : gS} {P : cT} (hM : cK ca L w0 σ P w) (hR : cR ca L σ P w)  :
    hv_Met l y_GK_mustBeOn [.code y_GK_mustBeOn b_GK_mustBeOn 1 none] rm_GK_mustBeOn (hv_Pc s0 D w [.ref (L 0)]) (hv_Q s0 D (fun v w' => σ.off = 0 ∧ v = none ∧ w' = w) (fun x w' => ¬ σ.off = 0 ∧ cThr ca L w0 9 σ x w')) 1 6 (hv_A s0.heap.size) := by
  refine hv_enter C _ (by decide) (Nat.le_of_ble_eq_true rfl) ?_
  intro p e s m below meth c ls Q hQ hx hb hr hml hown hts hK hZ hlocks hname hout htr hP hl
  have hown : s.vm.findClass R_GK = some m.cls := hown
  have hS : va_S (hv_A s0.heap.size) s.heap s.heap [] := va_S.rf
  have hl : lv_has ls 1 [(0, .ref (L 0))] := hl
  refine lv_aload_n hx hb d_GK_mustBeOn_0 rfl (lv_at hl 0 rfl) ?_
  have h1 : w (L 0) = some (.inr (0, [.ref (L 1), .ref (L 2), .ref (L 3), .ref (L 4), .ref (L 5), .ref (L 6), .ref (L 7), .int (σ.err), .int (nI (σ.sc)), .int (nI (σ.ec)), .int (σ.ins), .int (σ.off)])) := hM.1.2 0 (by decide)
  refine va_get (D := D) (ci := 0) (v := .int (σ.off)) (C := R_GK) (T := F_GK) (N := 12) hx hb hts i_GK hown hK (hv_one hP h1) 0 rfl rfl 11 (by decide) (hts _ k_GK_159) (fun _ h9 => h9) rfl d_GK_mustBeOn_1 ?_
  refine lv_if_eq (tgt := 18) hx hb d_GK_mustBeOn_4 (by decide) (fun c4 => ?_) (fun c4 => ?_)
  · refine W.widen (k := 1) (n := 6) (by omega) (by omega) ?_
    exact hv_vret hQ hx hb hr hZ hS hP hlocks d_GK_mustBeOn_18 (⟨c4, rfl, rfl⟩)
  · exact hv_throwE C N (E := 9) (Or.inr rfl) 3 kstr_256 hx hb htr hown hK hZ hS hP (hl.1.trans hml.symm) d_GK_mustBeOn_7 d_GK_mustBeOn_10 (Or.inr ⟨rfl, d_GK_mustBeOn_11⟩) d_GK_mustBeOn_14 d_GK_mustBeOn_17 hout hlocks (Nat.le_of_ble_eq_true rfl) (Nat.le_of_ble_eq_true rfl) (Nat.le_of_ble_eq_true rfl) (Nat.le_of_ble_eq_true rfl) hQ (fun x9 hx9 => ⟨c4, cThr.of hM hR hx9⟩)

abbrev rm_GK_refuse : Room := { frames := 6, cells := 1, slots := 6, locals := 82 }
set_option maxHeartbeats 4000000 in
set_option maxRecDepth 100000 in
theorem c_GK_refuse {l : Launch} {s0 : State} {D : va_G} {ca : Nat → ClassId} (C : hv_C l s0 D (hv_tys ca)) {w : hv_W} (N : hv_N s0) {L : Nat → Nat} {w0 : hv_W} {σ : gS} {P : cT} (n : Int32) (hM : cK ca L w0 σ P w) (hR : cR ca L σ P w)  :
    hv_Met l y_GK_refuse [.code y_GK_refuse b_GK_refuse 2 none] rm_GK_refuse (hv_Pc s0 D w [.ref (L 0), .int n]) (hv_Q s0 D (fun v w' => False) (fun x w' => cThr ca L w0 8 (σ.sErr n) x w')) 1 6 (hv_A s0.heap.size) := by
  refine hv_enter C _ (by decide) (Nat.le_of_ble_eq_true rfl) ?_
  intro p e s m below meth c ls Q hQ hx hb hr hml hown hts hK hZ hlocks hname hout htr hP hl
  have hown : s.vm.findClass R_GK = some m.cls := hown
  have hS : va_S (hv_A s0.heap.size) s.heap s.heap [] := va_S.rf
  have hl : lv_has ls 2 [(0, .ref (L 0)), (1, .int n)] := hl
  refine lv_aload_n hx hb d_GK_refuse_0 rfl (lv_at hl 0 rfl) ?_
  refine lv_iload_n hx hb d_GK_refuse_1 rfl (lv_at hl 1 rfl) ?_
  have h1 : w (L 0) = some (.inr (0, [.ref (L 1), .ref (L 2), .ref (L 3), .ref (L 4), .ref (L 5), .ref (L 6), .ref (L 7), .int (σ.err), .int (nI (σ.sc)), .int (nI (σ.ec)), .int (σ.ins), .int (σ.off)])) := hM.1.2 0 (by decide)
  refine hv_put (D := D) (ci := 0) (v := .int n) (ty := .int) (C := R_GK) (T := F_GK) (N := 12) hx hb hts i_GK t_GK t_GK_ok n_GK hown hK hP hS h1 rfl 7 (by decide) (hts _ k_GK_129) (fun _ h9 => h9) rfl (by decide +kernel) rfl rfl (Nat.le_of_ble_eq_true rfl) d_GK_refuse_2 (fun H locs hP hS => ?_)
  obtain ⟨w2, ew2⟩ : ∃ z9 : hv_W, z9 = va_up w (L 0) (some (.inr (0, [.ref (L 1), .ref (L 2), .ref (L 3), .ref (L 4), .ref (L 5), .ref (L 6), .ref (L 7), .int n, .int (nI (σ.sc)), .int (nI (σ.ec)), .int (σ.ins), .int (σ.off)]))) := ⟨_, rfl⟩
  have hP : hv_P D classes s0.heap.size w2 H := by rw [ew2]; exact hP
  have hM : cK ca L w0 (σ.sErr n) P w2 := by rw [ew2]; exact hM.put 0 (by decide) rfl
  have hR : cR ca L (σ.sErr n) P w2 := by rw [ew2]; exact hR.up 0 (by decide)
  have h3 : w2 (L 0) = some (.inr (0, [.ref (L 1), .ref (L 2), .ref (L 3), .ref (L 4), .ref (L 5), .ref (L 6), .ref (L 7), .int n, .int (nI (σ.sc)), .int (nI (σ.ec)), .int (σ.ins), .int (σ.off)])) := by rw [ew2]; exact hv_up_s
  exact hv_throwE C N (E := 8) (Or.inl rfl) 3 kstr_258 hx hb htr hown hK hZ hS hP (hl.1.trans hml.symm) d_GK_refuse_5 d_GK_refuse_8 (Or.inr ⟨rfl, d_GK_refuse_9⟩) d_GK_refuse_12 d_GK_refuse_15 hout hlocks (Nat.le_of_ble_eq_true rfl) (Nat.le_of_ble_eq_true rfl) (Nat.le_of_ble_eq_true rfl) (Nat.le_of_ble_eq_true rfl) hQ (fun x9 hx9 => cThr.of hM hR hx9)

abbrev rm_GK_wantedNode : Room := { frames := 6, cells := 1, slots := 6, locals := 82 }
set_option maxHeartbeats 4000000 in
set_option maxRecDepth 100000 in
theorem c_GK_wantedNode {l : Launch} {s0 : State} {D : va_G} {ca : Nat → ClassId} (C : hv_C l s0 D (hv_tys ca)) {w : hv_W} (N : hv_N s0) {L : Nat → Nat} {w0 : hv_W} {σ : gS} {P : cT} (n : Int32) (hM : cK ca L w0 σ P w) (hR : cR ca L σ P w)  :
    hv_Met l y_GK_wantedNode [.code y_GK_wantedNode b_GK_wantedNode 3 (some (.object "GraphKeep$Node"))] rm_GK_wantedNode (hv_Pc s0 D w [.ref (L 0), .int n]) (hv_Q s0 D (fun v w' => ∃ a, gk_sel P.nN 64 n = some a ∧ v = some (va_rf (some a)) ∧ w' = w) (fun x w' => gk_sel P.nN 64 n = none ∧ cThr ca L w0 8 (σ.sErr 8) x w')) 1 6 (hv_A s0.heap.size) := by
  refine hv_enter C _ (by decide) (Nat.le_of_ble_eq_true rfl) ?_
  intro p e s m below meth c ls Q hQ hx hb hr hml hown hts hK hZ hlocks hname hout htr hP hl
  have hown : s.vm.findClass R_GK = some m.cls := hown
  have hS : va_S (hv_A s0.heap.size) s.heap s.heap [] := va_S.rf
  have hl : lv_has ls 3 [(0, .ref (L 0)), (1, .int n)] := hl
  refine lv_aload_n hx hb d_GK_wantedNode_0 rfl (lv_at hl 0 rfl) ?_
  have h1 : w (L 0) = some (.inr (0, [.ref (L 1), .ref (L 2), .ref (L 3), .ref (L 4), .ref (L 5), .ref (L 6), .ref (L 7), .int (σ.err), .int (nI (σ.sc)), .int (nI (σ.ec)), .int (σ.ins), .int (σ.off)])) := hM.1.2 0 (by decide)
  refine va_get (D := D) (ci := 0) (v := .ref (L 1)) (C := R_GK) (T := F_GK) (N := 12) hx hb hts i_GK hown hK (hv_one hP h1) 0 rfl rfl 0 (by decide) (hts _ k_GK_10) (fun _ h9 => h9) rfl d_GK_wantedNode_1 ?_
  refine lv_iload_n hx hb d_GK_wantedNode_4 rfl (lv_at hl 1 rfl) ?_
  have h2 : w (L 1) = some (.inr (1, [.ref (L 8), .ref (L 9)])) := hM.1.2 1 (by decide)
  have h3 : w (L 8) = some (.inl (ca 5, 64, .inr (.inr (.inr (.inr P.nN))))) := hM.1.2 8 (by decide)
  refine hv_call (hv_runV (As := [.int n]) (rest := []) (c_Gr_nodeAt C n h2 h3) (hv_cw C hZ kc_Gr_nodeAt kn_Gr ⟨rfl, rfl, Nat.le_of_ble_eq_true rfl, Nat.le_of_ble_eq_true rfl⟩) hv_blind (hv_pre hZ hS hP) hx hml hb hown (hts _ k_GK_220) (hts _ ki_Gr_nodeAt) (hts _ ksel_Gr_Gr_nodeAt) hy_Gr_nodeAt (hts _ kc_Gr_nodeAt) (va_recv hK (hv_one hP h2) (ci := 1) (q0 := 0) rfl rfl) rfl hl.1 rfl (lv_room (Nat.le_of_ble_eq_true rfl)) d_GK_wantedNode_5 ⟨Nat.le_of_ble_eq_true rfl, Nat.le_of_ble_eq_true rfl⟩) hZ hS (fun v9 w4 H locs q5 hP hS => ?_) (fun x9 w4 H locs q5 hP hS => q5.elim)
  obtain ⟨hv9, hw9⟩ := q5
  subst hv9
  rw [hw9] at hP
  show W _ _ _ _ _ _ _ _ _ _ _ _ _ _ _ (F0 m 8 ls [va_rf (gk_sel P.nN 64 n)])
  cases h9o : gk_sel P.nN 64 n with
  | none =>
    show W _ _ _ _ _ _ _ _ _ _ _ _ _ _ _ (F0 m 8 ls [.null])
    refine lv_astore_nN (lv' := [(2, .null), (0, .ref (L 0)), (1, .int n)]) hx hb d_GK_wantedNode_8 rfl hl (by decide) rfl (fun ls hl => ?_)
    refine lv_aload_nN hx hb d_GK_wantedNode_9 rfl (lv_at hl 0 rfl) ?_
    refine lv_ifnonnullN hx hb d_GK_wantedNode_10 ?_
    refine lv_aload_n hx hb d_GK_wantedNode_13 rfl (lv_at hl 1 rfl) ?_
    refine lv_bipush (v := 8) hx hb d_GK_wantedNode_14 (by decide) ?_
    refine hv_put (D := D) (ci := 0) (v := .int 8) (ty := .int) (C := R_GK) (T := F_GK) (N := 12) hx hb hts i_GK t_GK t_GK_ok n_GK hown hK hP hS h1 rfl 7 (by decide) (hts _ k_GK_129) (fun _ h9 => h9) rfl (by decide +kernel) rfl rfl (Nat.le_of_ble_eq_true rfl) d_GK_wantedNode_16 (fun H locs hP hS => ?_)
    obtain ⟨w6, ew6⟩ : ∃ z9 : hv_W, z9 = va_up w (L 0) (some (.inr (0, [.ref (L 1), .ref (L 2), .ref (L 3), .ref (L 4), .ref (L 5), .ref (L 6), .ref (L 7), .int 8, .int (nI (σ.sc)), .int (nI (σ.ec)), .int (σ.ins), .int (σ.off)]))) := ⟨_, rfl⟩
    have hP : hv_P D classes s0.heap.size w6 H := by rw [ew6]; exact hP
    have hM : cK ca L w0 (σ.sErr 8) P w6 := by rw [ew6]; exact hM.put 0 (by decide) rfl
    have hR : cR ca L (σ.sErr 8) P w6 := by rw [ew6]; exact hR.up 0 (by decide)
    have h7 : w6 (L 0) = some (.inr (0, [.ref (L 1), .ref (L 2), .ref (L 3), .ref (L 4), .ref (L 5), .ref (L 6), .ref (L 7), .int 8, .int (nI (σ.sc)), .int (nI (σ.ec)), .int (σ.ins), .int (σ.off)])) := by rw [ew6]; exact hv_up_s
    exact hv_throwE C N (E := 8) (Or.inl rfl) 3 kstr_260 hx hb htr hown hK hZ hS hP (hl.1.trans hml.symm) d_GK_wantedNode_19 d_GK_wantedNode_22 (Or.inr ⟨rfl, d_GK_wantedNode_23⟩) d_GK_wantedNode_26 d_GK_wantedNode_29 hout hlocks (Nat.le_of_ble_eq_true rfl) (Nat.le_of_ble_eq_true rfl) (Nat.le_of_ble_eq_true rfl) (Nat.le_of_ble_eq_true rfl) hQ (fun x9 hx9 => ⟨h9o, cThr.of hM hR hx9⟩)
  | some a =>
    show W _ _ _ _ _ _ _ _ _ _ _ _ _ _ _ (F0 m 8 ls [.ref a])
    refine lv_astore_n (lv' := [(2, .ref a), (0, .ref (L 0)), (1, .int n)]) hx hb d_GK_wantedNode_8 rfl hl (by decide) rfl (fun ls hl => ?_)
    refine lv_aload_n hx hb d_GK_wantedNode_9 rfl (lv_at hl 0 rfl) ?_
    refine lv_ifnonnull (tgt := 30) hx hb d_GK_wantedNode_10 (by decide) ?_
    refine lv_aload_n hx hb d_GK_wantedNode_30 rfl (lv_at hl 0 rfl) ?_
    refine W.widen (k := 1) (n := 6) (by omega) (by omega) ?_
    exact hv_aret (v := some a) hQ hx hb hr (Or.inl ⟨_, rfl⟩) hZ hS hP hlocks d_GK_wantedNode_31 (⟨a, h9o, rfl, rfl⟩)

abbrev rm_GK_wantedThing : Room := { frames := 6, cells := 1, slots := 6, locals := 82 }
set_option maxHeartbeats 4000000 in
set_option maxRecDepth 100000 in
theorem c_GK_wantedThing {l : Launch} {s0 : State} {D : va_G} {ca : Nat → ClassId} (C : hv_C l s0 D (hv_tys ca)) {w : hv_W} (N : hv_N s0) {L : Nat → Nat} {w0 : hv_W} {σ : gS} {P : cT} (k n : Int32) (hM : cK ca L w0 σ P w) (hR : cR ca L σ P w)  :
    hv_Met l y_GK_wantedThing [.code y_GK_wantedThing b_GK_wantedThing 4 (some (.object "GraphKeep$Thing"))] rm_GK_wantedThing (hv_Pc s0 D w [.ref (L 0), .int k, .int n]) (hv_Q s0 D (fun v w' => ∃ a, gk_thing P.nN P.nL k n = some a ∧ v = some (va_rf (some a)) ∧ w' = w) (fun x w' => gk_thing P.nN P.nL k n = none ∧ cThr ca L w0 8 (σ.sErr 8) x w')) 1 6 (hv_A s0.heap.size) := by
  refine hv_enter C _ (by decide) (Nat.le_of_ble_eq_true rfl) ?_
  intro p e s m below meth c ls Q hQ hx hb hr hml hown hts hK hZ hlocks hname hout htr hP hl
  have hown : s.vm.findClass R_GK = some m.cls := hown
  have hS : va_S (hv_A s0.heap.size) s.heap s.heap [] := va_S.rf
  have hl : lv_has ls 4 [(0, .ref (L 0)), (1, .int k), (2, .int n)] := hl
  refine lv_aload_n hx hb d_GK_wantedThing_0 rfl (lv_at hl 0 rfl) ?_
  have h1 : w (L 0) = some (.inr (0, [.ref (L 1), .ref (L 2), .ref (L 3), .ref (L 4), .ref (L 5), .ref (L 6), .ref (L 7), .int (σ.err), .int (nI (σ.sc)), .int (nI (σ.ec)), .int (σ.ins), .int (σ.off)])) := hM.1.2 0 (by decide)
  refine va_get (D := D) (ci := 0) (v := .ref (L 1)) (C := R_GK) (T := F_GK) (N := 12) hx hb hts i_GK hown hK (hv_one hP h1) 0 rfl rfl 0 (by decide) (hts _ k_GK_10) (fun _ h9 => h9) rfl d_GK_wantedThing_1 ?_
  refine lv_iload_n hx hb d_GK_wantedThing_4 rfl (lv_at hl 1 rfl) ?_
  refine lv_iload_n hx hb d_GK_wantedThing_5 rfl (lv_at hl 2 rfl) ?_
  have h2 : w (L 1) = some (.inr (1, [.ref (L 8), .ref (L 9)])) := hM.1.2 1 (by decide)
  have h3 : w (L 8) = some (.inl (ca 5, 64, .inr (.inr (.inr (.inr P.nN))))) := hM.1.2 8 (by decide)
  have h4 : w (L 9) = some (.inl (ca 6, 96, .inr (.inr (.inr (.inr P.nL))))) := hM.1.2 9 (by decide)
  refine hv_call (hv_runV (As := [.int k, .int n]) (rest := []) (c_Gr_thingAt C k n h2 h3 h4) (hv_cw C hZ kc_Gr_thingAt kn_Gr ⟨rfl, rfl, Nat.le_of_ble_eq_true rfl, Nat.le_of_ble_eq_true rfl⟩) hv_blind (hv_pre hZ hS hP) hx hml hb hown (hts _ k_GK_199) (hts _ ki_Gr_thingAt) (hts _ ksel_Gr_Gr_thingAt) hy_Gr_thingAt (hts _ kc_Gr_thingAt) (va_recv hK (hv_one hP h2) (ci := 1) (q0 := 0) rfl rfl) rfl hl.1 rfl (lv_room (Nat.le_of_ble_eq_true rfl)) d_GK_wantedThing_6 ⟨Nat.le_of_ble_eq_true rfl, Nat.le_of_ble_eq_true rfl⟩) hZ hS (fun v9 w5 H locs q6 hP hS => ?_) (fun x9 w5 H locs q6 hP hS => q6.elim)
  obtain ⟨hv9, hw9⟩ := q6
  subst hv9
  rw [hw9] at hP
  show W _ _ _ _ _ _ _ _ _ _ _ _ _ _ _ (F0 m 9 ls [va_rf (gk_thing P.nN P.nL k n)])
  cases h9o : gk_thing P.nN P.nL k n with
  | none =>
    show W _ _ _ _ _ _ _ _ _ _ _ _ _ _ _ (F0 m 9 ls [.null])
    refine lv_astore_nN (lv' := [(3, .null), (0, .ref (L 0)), (1, .int k), (2, .int n)]) hx hb d_GK_wantedThing_9 rfl hl (by decide) rfl (fun ls hl => ?_)
    refine lv_aload_nN hx hb d_GK_wantedThing_10 rfl (lv_at hl 0 rfl) ?_
    refine lv_ifnonnullN hx hb d_GK_wantedThing_11 ?_
    refine lv_aload_n hx hb d_GK_wantedThing_14 rfl (lv_at hl 1 rfl) ?_
    refine lv_bipush (v := 8) hx hb d_GK_wantedThing_15 (by decide) ?_
    refine hv_put (D := D) (ci := 0) (v := .int 8) (ty := .int) (C := R_GK) (T := F_GK) (N := 12) hx hb hts i_GK t_GK t_GK_ok n_GK hown hK hP hS h1 rfl 7 (by decide) (hts _ k_GK_129) (fun _ h9 => h9) rfl (by decide +kernel) rfl rfl (Nat.le_of_ble_eq_true rfl) d_GK_wantedThing_17 (fun H locs hP hS => ?_)
    obtain ⟨w7, ew7⟩ : ∃ z9 : hv_W, z9 = va_up w (L 0) (some (.inr (0, [.ref (L 1), .ref (L 2), .ref (L 3), .ref (L 4), .ref (L 5), .ref (L 6), .ref (L 7), .int 8, .int (nI (σ.sc)), .int (nI (σ.ec)), .int (σ.ins), .int (σ.off)]))) := ⟨_, rfl⟩
    have hP : hv_P D classes s0.heap.size w7 H := by rw [ew7]; exact hP
    have hM : cK ca L w0 (σ.sErr 8) P w7 := by rw [ew7]; exact hM.put 0 (by decide) rfl
    have hR : cR ca L (σ.sErr 8) P w7 := by rw [ew7]; exact hR.up 0 (by decide)
    have h8 : w7 (L 0) = some (.inr (0, [.ref (L 1), .ref (L 2), .ref (L 3), .ref (L 4), .ref (L 5), .ref (L 6), .ref (L 7), .int 8, .int (nI (σ.sc)), .int (nI (σ.ec)), .int (σ.ins), .int (σ.off)])) := by rw [ew7]; exact hv_up_s
    exact hv_throwE C N (E := 8) (Or.inl rfl) 2 kstr_225 hx hb htr hown hK hZ hS hP (hl.1.trans hml.symm) d_GK_wantedThing_20 d_GK_wantedThing_23 (Or.inl ⟨rfl, d_GK_wantedThing_24⟩) d_GK_wantedThing_26 d_GK_wantedThing_29 hout hlocks (Nat.le_of_ble_eq_true rfl) (Nat.le_of_ble_eq_true rfl) (Nat.le_of_ble_eq_true rfl) (Nat.le_of_ble_eq_true rfl) hQ (fun x9 hx9 => ⟨h9o, cThr.of hM hR hx9⟩)
  | some a =>
    show W _ _ _ _ _ _ _ _ _ _ _ _ _ _ _ (F0 m 9 ls [.ref a])
    refine lv_astore_n (lv' := [(3, .ref a), (0, .ref (L 0)), (1, .int k), (2, .int n)]) hx hb d_GK_wantedThing_9 rfl hl (by decide) rfl (fun ls hl => ?_)
    refine lv_aload_n hx hb d_GK_wantedThing_10 rfl (lv_at hl 0 rfl) ?_
    refine lv_ifnonnull (tgt := 30) hx hb d_GK_wantedThing_11 (by decide) ?_
    refine lv_aload_n hx hb d_GK_wantedThing_30 rfl (lv_at hl 0 rfl) ?_
    refine W.widen (k := 1) (n := 6) (by omega) (by omega) ?_
    exact hv_aret (v := some a) hQ hx hb hr (Or.inl ⟨_, rfl⟩) hZ hS hP hlocks d_GK_wantedThing_31 (⟨a, h9o, rfl, rfl⟩)

abbrev rm_GK_mustBeValue : Room := { frames := 7, cells := 1, slots := 6, locals := 103 }
set_option maxHeartbeats 4000000 in
set_option maxRecDepth 100000 in
theorem c_GK_mustBeValue {l : Launch} {s0 : State} {D : va_G} {ca : Nat → ClassId} (C : hv_C l s0 D (hv_tys ca)) {w : hv_W} (N : hv_N s0) {L : Nat → Nat} {w0 : hv_W} {σ : gS} {P : cT} (k : Int32) (y : Int64) (hM : cK ca L w0 σ P w) (hR : cR ca L σ P w)  :
    hv_Met l y_GK_mustBeValue [.code y_GK_mustBeValue b_GK_mustBeValue 4 none] rm_GK_mustBeValue (hv_Pc s0 D w [.ref (L 0), .int k, .long y]) (hv_Q s0 D (fun v w' => x_okv k y ∧ v = none ∧ w' = w) (fun x w' => ¬ x_okv k y ∧ cThr ca L w0 8 (σ.sErr 2) x w')) 1 6 (hv_A s0.heap.size) := by
  refine hv_enter C _ (by decide) (Nat.le_of_ble_eq_true rfl) ?_
  intro p e s m below meth c ls Q hQ hx hb hr hml hown hts hK hZ hlocks hname hout htr hP hl
  have hown : s.vm.findClass R_GK = some m.cls := hown
  have hS : va_S (hv_A s0.heap.size) s.heap s.heap [] := va_S.rf
  have hl : lv_has ls 4 [(0, .ref (L 0)), (1, .int k), (2, .long y)] := hl
  refine lv_iload_n hx hb d_GK_mustBeValue_0 rfl (lv_at hl 1 rfl) ?_
  refine lv_if_lt (tgt := 26) hx hb d_GK_mustBeValue_1 (by decide) (fun c1 => ?_) (fun c1 => ?_)
  · refine lv_aload_n hx hb d_GK_mustBeValue_26 rfl (lv_at hl 0 rfl) ?_
    refine lv_iconst (v := 2) hx hb d_GK_mustBeValue_27 (by decide) ?_
    have h1 : w (L 0) = some (.inr (0, [.ref (L 1), .ref (L 2), .ref (L 3), .ref (L 4), .ref (L 5), .ref (L 6), .ref (L 7), .int (σ.err), .int (nI (σ.sc)), .int (nI (σ.ec)), .int (σ.ins), .int (σ.off)])) := hM.1.2 0 (by decide)
    refine hv_call (hv_runV (As := [.int 2]) (rest := []) (c_GK_refuse C N 2 hM hR) (hv_cw C hZ kc_GK_refuse kn_GK ⟨rfl, rfl, Nat.le_of_ble_eq_true rfl, Nat.le_of_ble_eq_true rfl⟩) hv_blind (hv_pre hZ hS hP) hx hml hb hown (hts _ k_GK_262) (hts _ ki_GK_refuse) (hts _ ksel_GK_GK_refuse) hy_GK_refuse (hts _ kc_GK_refuse) (va_recv hK (hv_one hP h1) (ci := 0) (q0 := 0) rfl rfl) rfl hl.1 rfl (lv_room (Nat.le_of_ble_eq_true rfl)) d_GK_mustBeValue_28 ⟨Nat.le_of_ble_eq_true rfl, Nat.le_of_ble_eq_true rfl⟩) hZ hS (fun v9 w2 H locs q3 hP hS => ?_) (fun x9 w2 H locs q3 hP hS => ?_)
    · exact q3.elim
    · exact hv_tleave hQ hZ hS hP hlocks (hout _) (⟨fun q => q.1 c1, q3⟩)
  · refine lv_iload_n hx hb d_GK_mustBeValue_4 rfl (lv_at hl 1 rfl) ?_
    refine lv_iconst (v := 3) hx hb d_GK_mustBeValue_5 (by decide) ?_
    refine lv_icmp_gt (tgt := 26) hx hb d_GK_mustBeValue_6 (by decide) (fun c6 => ?_) (fun c6 => ?_)
    · refine lv_aload_n hx hb d_GK_mustBeValue_26 rfl (lv_at hl 0 rfl) ?_
      refine lv_iconst (v := 2) hx hb d_GK_mustBeValue_27 (by decide) ?_
      have h4 : w (L 0) = some (.inr (0, [.ref (L 1), .ref (L 2), .ref (L 3), .ref (L 4), .ref (L 5), .ref (L 6), .ref (L 7), .int (σ.err), .int (nI (σ.sc)), .int (nI (σ.ec)), .int (σ.ins), .int (σ.off)])) := hM.1.2 0 (by decide)
      refine hv_call (hv_runV (As := [.int 2]) (rest := []) (c_GK_refuse C N 2 hM hR) (hv_cw C hZ kc_GK_refuse kn_GK ⟨rfl, rfl, Nat.le_of_ble_eq_true rfl, Nat.le_of_ble_eq_true rfl⟩) hv_blind (hv_pre hZ hS hP) hx hml hb hown (hts _ k_GK_262) (hts _ ki_GK_refuse) (hts _ ksel_GK_GK_refuse) hy_GK_refuse (hts _ kc_GK_refuse) (va_recv hK (hv_one hP h4) (ci := 0) (q0 := 0) rfl rfl) rfl hl.1 rfl (lv_room (Nat.le_of_ble_eq_true rfl)) d_GK_mustBeValue_28 ⟨Nat.le_of_ble_eq_true rfl, Nat.le_of_ble_eq_true rfl⟩) hZ hS (fun v9 w5 H locs q6 hP hS => ?_) (fun x9 w5 H locs q6 hP hS => ?_)
      · exact q6.elim
      · exact hv_tleave hQ hZ hS hP hlocks (hout _) (⟨fun q => q.2.1 c6, q6⟩)
    · refine lv_iload_n hx hb d_GK_mustBeValue_9 rfl (lv_at hl 1 rfl) ?_
      refine lv_iconst (v := 2) hx hb d_GK_mustBeValue_10 (by decide) ?_
      refine lv_icmp_ne (tgt := 31) hx hb d_GK_mustBeValue_11 (by decide) (fun c11 => ?_) (fun c11 => ?_)
      · refine W.widen (k := 1) (n := 6) (by omega) (by omega) ?_
        exact hv_vret hQ hx hb hr hZ hS hP hlocks d_GK_mustBeValue_31 (⟨⟨c1, c6, fun z => absurd z c11⟩, rfl, rfl⟩)
      · refine lv_lload_n hx hb d_GK_mustBeValue_14 rfl (lv_at hl 2 rfl) ?_
        refine lv_lconst (v := 0) hx hb d_GK_mustBeValue_15 (by decide) ?_
        refine W.lcmp hx hb d_GK_mustBeValue_16 ?_
        refine lv_if_eq (tgt := 31) hx hb d_GK_mustBeValue_17 (by decide) (fun c17 => ?_) (fun c17 => ?_)
        · refine W.widen (k := 1) (n := 6) (by omega) (by omega) ?_
          exact hv_vret hQ hx hb hr hZ hS hP hlocks d_GK_mustBeValue_31 (⟨⟨c1, c6, fun _ => Or.inl (g_lcmp_eq c17)⟩, rfl, rfl⟩)
        · refine lv_lload_n hx hb d_GK_mustBeValue_20 rfl (lv_at hl 2 rfl) ?_
          refine lv_lconst (v := 1) hx hb d_GK_mustBeValue_21 (by decide) ?_
          refine W.lcmp hx hb d_GK_mustBeValue_22 ?_
          refine lv_if_eq (tgt := 31) hx hb d_GK_mustBeValue_23 (by decide) (fun c23 => ?_) (fun c23 => ?_)
          · refine W.widen (k := 1) (n := 6) (by omega) (by omega) ?_
            exact hv_vret hQ hx hb hr hZ hS hP hlocks d_GK_mustBeValue_31 (⟨⟨c1, c6, fun _ => Or.inr (g_lcmp_eq c23)⟩, rfl, rfl⟩)
          · refine lv_aload_n hx hb d_GK_mustBeValue_26 rfl (lv_at hl 0 rfl) ?_
            refine lv_iconst (v := 2) hx hb d_GK_mustBeValue_27 (by decide) ?_
            have h7 : w (L 0) = some (.inr (0, [.ref (L 1), .ref (L 2), .ref (L 3), .ref (L 4), .ref (L 5), .ref (L 6), .ref (L 7), .int (σ.err), .int (nI (σ.sc)), .int (nI (σ.ec)), .int (σ.ins), .int (σ.off)])) := hM.1.2 0 (by decide)
            refine hv_call (hv_runV (As := [.int 2]) (rest := []) (c_GK_refuse C N 2 hM hR) (hv_cw C hZ kc_GK_refuse kn_GK ⟨rfl, rfl, Nat.le_of_ble_eq_true rfl, Nat.le_of_ble_eq_true rfl⟩) hv_blind (hv_pre hZ hS hP) hx hml hb hown (hts _ k_GK_262) (hts _ ki_GK_refuse) (hts _ ksel_GK_GK_refuse) hy_GK_refuse (hts _ kc_GK_refuse) (va_recv hK (hv_one hP h7) (ci := 0) (q0 := 0) rfl rfl) rfl hl.1 rfl (lv_room (Nat.le_of_ble_eq_true rfl)) d_GK_mustBeValue_28 ⟨Nat.le_of_ble_eq_true rfl, Nat.le_of_ble_eq_true rfl⟩) hZ hS (fun v9 w8 H locs q9 hP hS => ?_) (fun x9 w8 H locs q9 hP hS => ?_)
            · exact q9.elim
            · exact hv_tleave hQ hZ hS hP hlocks (hout _) (⟨fun q => (q.2.2 c11).elim (fun z => c17 (by rw [z]; rfl)) (fun z => c23 (by rw [z]; rfl)), q9⟩)

abbrev rm_GK_mustBeLess : Room := { frames := 7, cells := 1, slots := 6, locals := 103 }
set_option maxHeartbeats 4000000 in
set_option maxRecDepth 100000 in
theorem c_GK_mustBeLess {l : Launch} {s0 : State} {D : va_G} {ca : Nat → ClassId} (C : hv_C l s0 D (hv_tys ca)) {w : hv_W} (N : hv_N s0) {L : Nat → Nat} {w0 : hv_W} {σ : gS} {P : cT} (a b : Int32) (hM : cK ca L w0 σ P w) (hR : cR ca L σ P w)  :
    hv_Met l y_GK_mustBeLess [.code y_GK_mustBeLess b_GK_mustBeLess 3 none] rm_GK_mustBeLess (hv_Pc s0 D w [.ref (L 0), .int a, .int b]) (hv_Q s0 D (fun v w' => a < b ∧ v = none ∧ w' = w) (fun x w' => ¬ a < b ∧ cThr ca L w0 8 (σ.sErr 6) x w')) 1 6 (hv_A s0.heap.size) := by
  refine hv_enter C _ (by decide) (Nat.le_of_ble_eq_true rfl) ?_
  intro p e s m below meth c ls Q hQ hx hb hr hml hown hts hK hZ hlocks hname hout htr hP hl
  have hown : s.vm.findClass R_GK = some m.cls := hown
  have hS : va_S (hv_A s0.heap.size) s.heap s.heap [] := va_S.rf
  have hl : lv_has ls 3 [(0, .ref (L 0)), (1, .int a), (2, .int b)] := hl
  refine lv_iload_n hx hb d_GK_mustBeLess_0 rfl (lv_at hl 1 rfl) ?_
  refine lv_iload_n hx hb d_GK_mustBeLess_1 rfl (lv_at hl 2 rfl) ?_
  refine lv_icmp_lt (tgt := 11) hx hb d_GK_mustBeLess_2 (by decide) (fun c2 => ?_) (fun c2 => ?_)
  · refine W.widen (k := 1) (n := 6) (by omega) (by omega) ?_
    exact hv_vret hQ hx hb hr hZ hS hP hlocks d_GK_mustBeLess_11 (⟨c2, rfl, rfl⟩)
  · refine lv_aload_n hx hb d_GK_mustBeLess_5 rfl (lv_at hl 0 rfl) ?_
    refine lv_bipush (v := 6) hx hb d_GK_mustBeLess_6 (by decide) ?_
    have h1 : w (L 0) = some (.inr (0, [.ref (L 1), .ref (L 2), .ref (L 3), .ref (L 4), .ref (L 5), .ref (L 6), .ref (L 7), .int (σ.err), .int (nI (σ.sc)), .int (nI (σ.ec)), .int (σ.ins), .int (σ.off)])) := hM.1.2 0 (by decide)
    refine hv_call (hv_runV (As := [.int 6]) (rest := []) (c_GK_refuse C N 6 hM hR) (hv_cw C hZ kc_GK_refuse kn_GK ⟨rfl, rfl, Nat.le_of_ble_eq_true rfl, Nat.le_of_ble_eq_true rfl⟩) hv_blind (hv_pre hZ hS hP) hx hml hb hown (hts _ k_GK_262) (hts _ ki_GK_refuse) (hts _ ksel_GK_GK_refuse) hy_GK_refuse (hts _ kc_GK_refuse) (va_recv hK (hv_one hP h1) (ci := 0) (q0 := 0) rfl rfl) rfl hl.1 rfl (lv_room (Nat.le_of_ble_eq_true rfl)) d_GK_mustBeLess_8 ⟨Nat.le_of_ble_eq_true rfl, Nat.le_of_ble_eq_true rfl⟩) hZ hS (fun v9 w2 H locs q3 hP hS => ?_) (fun x9 w2 H locs q3 hP hS => ?_)
    · exact q3.elim
    · exact hv_tleave hQ hZ hS hP hlocks (hout _) (⟨c2, q3⟩)

abbrev rm_GK_freeNumberN : Room := { frames := 8, cells := 1, slots := 6, locals := 125 }
set_option maxHeartbeats 4000000 in
set_option maxRecDepth 100000 in
theorem c_GK_freeNumberN {l : Launch} {s0 : State} {D : va_G} {ca : Nat → ClassId} (C : hv_C l s0 D (hv_tys ca)) {w : hv_W} (N : hv_N s0) {L : Nat → Nat} {w0 : hv_W} {σ : gS} {P : cT} (hM : cK ca L w0 σ P w) (hR : cR ca L σ P w)  :
    hv_Met l y_GK_freeNumber [.code y_GK_freeNumber b_GK_freeNumber 4 (some .int)] rm_GK_freeNumberN (hv_Pc s0 D w [.ref (L 0), .int 4, .ref (L 6)]) (hv_Q s0 D (fun v w' => ∃ i, x_free σ.now σ.gone 0 64 = some i ∧ i < 64 ∧ v = some (.int (nI i)) ∧ w' = w) (fun x w' => x_free σ.now σ.gone 0 64 = none ∧ cThr ca L w0 8 (σ.sErr 6) x w')) 1 6 (hv_A s0.heap.size) := by
  refine hv_enter C _ (by decide) (Nat.le_of_ble_eq_true rfl) ?_
  intro p e s m below meth c ls Q hQ hx hb hr hml hown hts hK hZ hlocks hname hout htr hP hl
  have hown : s.vm.findClass R_GK = some m.cls := hown
  have hS : va_S (hv_A s0.heap.size) s.heap s.heap [] := va_S.rf
  have hl : lv_has ls 4 [(0, .ref (L 0)), (1, .int 4), (2, .ref (L 6))] := hl
  have hgo : ∀ j, j < 64 → P.gN j = σ.gone (0 + j) := fun j hj => by rw [Nat.zero_add]; exact hR.2.2.2.1 j hj
  have hno : ∀ j, j < 64 → (P.nN j = none ↔ σ.now (0 + j) = none) := fun j hj => by rw [Nat.zero_add]; exact cG_nN hR.1 hj
  refine lv_iconst (v := 0) hx hb d_GK_freeNumber_0 (by decide) ?_
  refine lv_istore_n (lv' := [(3, .int 0), (0, .ref (L 0)), (1, .int 4), (2, .ref (L 6))]) hx hb d_GK_freeNumber_1 rfl hl (by decide) rfl (fun ls hl => ?_)
  have h1 : w (L 0) = some (.inr (0, [.ref (L 1), .ref (L 2), .ref (L 3), .ref (L 4), .ref (L 5), .ref (L 6), .ref (L 7), .int (σ.err), .int (nI (σ.sc)), .int (nI (σ.ec)), .int (σ.ins), .int (σ.off)])) := hM.1.2 0 (by decide)
  have h2 : w (L 1) = some (.inr (1, [.ref (L 8), .ref (L 9)])) := hM.1.2 1 (by decide)
  have h3 : w (L 8) = some (.inl (ca 5, 64, .inr (.inr (.inr (.inr P.nN))))) := hM.1.2 8 (by decide)
  have h4 : w (L 9) = some (.inl (ca 6, 96, .inr (.inr (.inr (.inr P.nL))))) := hM.1.2 9 (by decide)
  have h5 : w (L 6) = some (.inl (ca 2, 64, .inl P.gN)) := hM.1.2 6 (by decide)
  have lp : ∀ (n9 : Nat) (i : Nat), 64 - i < n9 → (i ≤ 64) → (∀ j, j < i → ¬ (σ.now (0 + j) = none ∧ σ.gone (0 + j) = 0)) → ∀ (H : Heap) (locs : List Loc) (ls : Array Slot), hv_P D classes s0.heap.size w H → va_S (hv_A s0.heap.size) s.heap H locs → lv_has ls 4 [(0, .ref (L 0)), (1, .int 4), (2, .ref (L 6)), (3, .int (nI i))] → W p l e rm_GK_freeNumberN s m ([.ref (L 0), .int 4, .ref (L 6)] : List Value).toArray below meth c H locs 0 0 Q (F0 m 2 ls []) := by
    intro n9
    induction n9 with
    | zero =>
      intro i hn9
      exact absurd hn9 (Nat.not_lt_zero _)
    | succ n9 ih =>
      intro i hn9 hi hj H locs ls hP hS hl
      refine lv_iload_n hx hb d_GK_freeNumber_2 rfl (lv_at hl 3 rfl) ?_
      refine lv_aload_n hx hb d_GK_freeNumber_3 rfl (lv_at hl 2 rfl) ?_
      refine va_alen (v := nI 64) hx hb hK (hv_one hP h5) 0 2 rfl rfl rfl d_GK_freeNumber_4 ?_
      refine gk_icmp_ge (x := i) (y := 64) (tgt := 32) hx hb d_GK_freeNumber_5 (by decide) (by omega) (by omega) (fun c5 => ?_) (fun c5 => ?_)
      · refine lv_aload_n hx hb d_GK_freeNumber_32 rfl (lv_at hl 0 rfl) ?_
        refine lv_iload_n hx hb d_GK_freeNumber_33 rfl (lv_at hl 3 rfl) ?_
        refine lv_aload_n hx hb d_GK_freeNumber_34 rfl (lv_at hl 2 rfl) ?_
        refine va_alen (v := nI 64) hx hb hK (hv_one hP h5) 0 2 rfl rfl rfl d_GK_freeNumber_35 ?_
        refine hv_call (hv_runV (As := [.int (nI i), .int (nI 64)]) (rest := []) (c_GK_mustBeLess C N (nI i) (nI 64) hM hR) (hv_cw C hZ kc_GK_mustBeLess kn_GK ⟨rfl, rfl, Nat.le_of_ble_eq_true rfl, Nat.le_of_ble_eq_true rfl⟩) hv_blind (hv_pre hZ hS hP) hx hml hb hown (hts _ k_GK_80) (hts _ ki_GK_mustBeLess) (hts _ ksel_GK_GK_mustBeLess) hy_GK_mustBeLess (hts _ kc_GK_mustBeLess) (va_recv hK (hv_one hP h1) (ci := 0) (q0 := 0) rfl rfl) rfl hl.1 rfl (lv_room (Nat.le_of_ble_eq_true rfl)) d_GK_freeNumber_36 ⟨Nat.le_of_ble_eq_true rfl, Nat.le_of_ble_eq_true rfl⟩) hZ hS (fun v9 w6 H locs q7 hP hS => ?_) (fun x9 w6 H locs q7 hP hS => ?_)
        · obtain ⟨hless, hv9, hw9⟩ := q7
          subst hv9
          rw [hw9] at hP
          show W _ _ _ _ _ _ _ _ _ _ _ _ _ _ _ (F0 m 39 ls [])
          exact absurd ((nI_ltI (by omega) (by omega)).mp hless) (Nat.not_lt.mpr c5)
        · exact hv_tleave hQ hZ hS hP hlocks (hout _) (⟨x_free_none (fun j hj9 => hj j (by omega)), q7.2⟩)
      · refine lv_aload_n hx hb d_GK_freeNumber_8 rfl (lv_at hl 2 rfl) ?_
        refine lv_iload_n hx hb d_GK_freeNumber_9 rfl (lv_at hl 3 rfl) ?_
        refine va_zald hx hb hK (hv_one hP h5) 0 2 rfl rfl (vp_in_nI (n := i) (by omega) (by omega)) d_GK_freeNumber_10 ?_
        rw [nI_clamp (n := i) (by omega)]
        refine lv_if_ne (tgt := 26) hx hb d_GK_freeNumber_11 (by decide) (fun c11 => ?_) (fun c11 => ?_)
        · refine lv_iinc (v := (nI (i + 1))) (lv' := [(3, .int ((nI (i + 1)))), (0, .ref (L 0)), (1, .int 4), (2, .ref (L 6))]) hx hb d_GK_freeNumber_26 hl (k := 3) rfl (nI_add i 1) (by decide) rfl (fun ls hl => ?_)
          refine lv_goto (tgt := 2) hx hb d_GK_freeNumber_29 (by decide) ?_
          exact ih (i + 1) (by omega) (by omega) (lt_s hj (fun q => c11 (by rw [hgo i (by omega)]; exact q.2))) _ _ _ hP hS (lv_sub hl [1, 2, 3, 0] rfl)
        · refine lv_aload_n hx hb d_GK_freeNumber_14 rfl (lv_at hl 0 rfl) ?_
          refine va_get (D := D) (ci := 0) (v := .ref (L 1)) (C := R_GK) (T := F_GK) (N := 12) hx hb hts i_GK hown hK (hv_one hP h1) 0 rfl rfl 0 (by decide) (hts _ k_GK_10) (fun _ h9 => h9) rfl d_GK_freeNumber_15 ?_
          refine lv_iload_n hx hb d_GK_freeNumber_18 rfl (lv_at hl 1 rfl) ?_
          refine lv_iload_n hx hb d_GK_freeNumber_19 rfl (lv_at hl 3 rfl) ?_
          refine hv_call (hv_runV (As := [.int 4, .int (nI i)]) (rest := []) (c_Gr_thingAt C 4 (nI i) h2 h3 h4) (hv_cw C hZ kc_Gr_thingAt kn_Gr ⟨rfl, rfl, Nat.le_of_ble_eq_true rfl, Nat.le_of_ble_eq_true rfl⟩) hv_blind (hv_pre hZ hS hP) hx hml hb hown (hts _ k_GK_199) (hts _ ki_Gr_thingAt) (hts _ ksel_Gr_Gr_thingAt) hy_Gr_thingAt (hts _ kc_Gr_thingAt) (va_recv hK (hv_one hP h2) (ci := 1) (q0 := 0) rfl rfl) rfl hl.1 rfl (lv_room (Nat.le_of_ble_eq_true rfl)) d_GK_freeNumber_20 ⟨Nat.le_of_ble_eq_true rfl, Nat.le_of_ble_eq_true rfl⟩) hZ hS (fun v9 w8 H locs q9 hP hS => ?_) (fun x9 w8 H locs q9 hP hS => q9.elim)
          obtain ⟨hv9, hw9⟩ := q9
          subst hv9
          rw [hw9] at hP
          show W _ _ _ _ _ _ _ _ _ _ _ _ _ _ _ (F0 m 23 ls [va_rf (gk_thing P.nN P.nL 4 (nI i))])
          rw [gk_thing_4 (fN := P.nN) (fL := P.nL) (i := i) (by omega)]
          cases h9o : P.nN i with
          | none =>
            show W _ _ _ _ _ _ _ _ _ _ _ _ _ _ _ (F0 m 23 ls [.null])
            refine lv_ifnullN (tgt := 32) hx hb d_GK_freeNumber_23 (by decide) ?_
            refine lv_aload_n hx hb d_GK_freeNumber_32 rfl (lv_at hl 0 rfl) ?_
            refine lv_iload_n hx hb d_GK_freeNumber_33 rfl (lv_at hl 3 rfl) ?_
            refine lv_aload_n hx hb d_GK_freeNumber_34 rfl (lv_at hl 2 rfl) ?_
            refine va_alen (v := nI 64) hx hb hK (hv_one hP h5) 0 2 rfl rfl rfl d_GK_freeNumber_35 ?_
            refine hv_call (hv_runV (As := [.int (nI i), .int (nI 64)]) (rest := []) (c_GK_mustBeLess C N (nI i) (nI 64) hM hR) (hv_cw C hZ kc_GK_mustBeLess kn_GK ⟨rfl, rfl, Nat.le_of_ble_eq_true rfl, Nat.le_of_ble_eq_true rfl⟩) hv_blind (hv_pre hZ hS hP) hx hml hb hown (hts _ k_GK_80) (hts _ ki_GK_mustBeLess) (hts _ ksel_GK_GK_mustBeLess) hy_GK_mustBeLess (hts _ kc_GK_mustBeLess) (va_recv hK (hv_one hP h1) (ci := 0) (q0 := 0) rfl rfl) rfl hl.1 rfl (lv_room (Nat.le_of_ble_eq_true rfl)) d_GK_freeNumber_36 ⟨Nat.le_of_ble_eq_true rfl, Nat.le_of_ble_eq_true rfl⟩) hZ hS (fun v9 w10 H locs q11 hP hS => ?_) (fun x9 w10 H locs q11 hP hS => ?_)
            · obtain ⟨hless, hv9, hw9⟩ := q11
              subst hv9
              rw [hw9] at hP
              show W _ _ _ _ _ _ _ _ _ _ _ _ _ _ _ (F0 m 39 ls [])
              refine lv_iload_n hx hb d_GK_freeNumber_39 rfl (lv_at hl 3 rfl) ?_
              exact hv_iret (v := nI i) hQ hx hb hr hZ hS hP hlocks d_GK_freeNumber_40 (⟨i, x_free_some (by omega) ((hno i (by omega)).mp h9o) (by rw [← hgo i (by omega)]; exact c11) hj, by omega, rfl, rfl⟩)
            · exact hv_tleave hQ hZ hS hP hlocks (hout _) (absurd (nI_lt (b := 64) (by omega) (by decide)) q11.1)
          | some a =>
            show W _ _ _ _ _ _ _ _ _ _ _ _ _ _ _ (F0 m 23 ls [.ref a])
            refine lv_ifnull hx hb d_GK_freeNumber_23 ?_
            refine lv_iinc (v := (nI (i + 1))) (lv' := [(3, .int ((nI (i + 1)))), (0, .ref (L 0)), (1, .int 4), (2, .ref (L 6))]) hx hb d_GK_freeNumber_26 hl (k := 3) rfl (nI_add i 1) (by decide) rfl (fun ls hl => ?_)
            refine lv_goto (tgt := 2) hx hb d_GK_freeNumber_29 (by decide) ?_
            exact ih (i + 1) (by omega) (by omega) (lt_s hj (fun q => by rw [(hno i (by omega)).mpr q.1] at h9o; cases h9o)) _ _ _ hP hS (lv_sub hl [1, 2, 3, 0] rfl)
  exact lp _ 0 (Nat.lt_succ_self _) (Nat.zero_le _) (fun j q => absurd q (Nat.not_lt_zero _)) _ _ _ hP hS (lv_sub hl [1, 2, 3, 0] rfl)

abbrev rm_GK_freeNumberL : Room := { frames := 8, cells := 1, slots := 6, locals := 125 }
set_option maxHeartbeats 4000000 in
set_option maxRecDepth 100000 in
theorem c_GK_freeNumberL {l : Launch} {s0 : State} {D : va_G} {ca : Nat → ClassId} (C : hv_C l s0 D (hv_tys ca)) {w : hv_W} (N : hv_N s0) {L : Nat → Nat} {w0 : hv_W} {σ : gS} {P : cT} (hM : cK ca L w0 σ P w) (hR : cR ca L σ P w)  :
    hv_Met l y_GK_freeNumber [.code y_GK_freeNumber b_GK_freeNumber 4 (some .int)] rm_GK_freeNumberL (hv_Pc s0 D w [.ref (L 0), .int 5, .ref (L 7)]) (hv_Q s0 D (fun v w' => ∃ i, x_free σ.now σ.gone 64 96 = some i ∧ i < 96 ∧ v = some (.int (nI i)) ∧ w' = w) (fun x w' => x_free σ.now σ.gone 64 96 = none ∧ cThr ca L w0 8 (σ.sErr 6) x w')) 1 6 (hv_A s0.heap.size) := by
  refine hv_enter C _ (by decide) (Nat.le_of_ble_eq_true rfl) ?_
  intro p e s m below meth c ls Q hQ hx hb hr hml hown hts hK hZ hlocks hname hout htr hP hl
  have hown : s.vm.findClass R_GK = some m.cls := hown
  have hS : va_S (hv_A s0.heap.size) s.heap s.heap [] := va_S.rf
  have hl : lv_has ls 4 [(0, .ref (L 0)), (1, .int 5), (2, .ref (L 7))] := hl
  have hgo : ∀ j, j < 96 → P.gL j = σ.gone (64 + j) := fun j hj => hR.2.2.2.2.1 j hj
  have hno : ∀ j, j < 96 → (P.nL j = none ↔ σ.now (64 + j) = none) := fun j hj => cG_nL hR.1 hj
  refine lv_iconst (v := 0) hx hb d_GK_freeNumber_0 (by decide) ?_
  refine lv_istore_n (lv' := [(3, .int 0), (0, .ref (L 0)), (1, .int 5), (2, .ref (L 7))]) hx hb d_GK_freeNumber_1 rfl hl (by decide) rfl (fun ls hl => ?_)
  have h1 : w (L 0) = some (.inr (0, [.ref (L 1), .ref (L 2), .ref (L 3), .ref (L 4), .ref (L 5), .ref (L 6), .ref (L 7), .int (σ.err), .int (nI (σ.sc)), .int (nI (σ.ec)), .int (σ.ins), .int (σ.off)])) := hM.1.2 0 (by decide)
  have h2 : w (L 1) = some (.inr (1, [.ref (L 8), .ref (L 9)])) := hM.1.2 1 (by decide)
  have h3 : w (L 8) = some (.inl (ca 5, 64, .inr (.inr (.inr (.inr P.nN))))) := hM.1.2 8 (by decide)
  have h4 : w (L 9) = some (.inl (ca 6, 96, .inr (.inr (.inr (.inr P.nL))))) := hM.1.2 9 (by decide)
  have h5 : w (L 7) = some (.inl (ca 2, 96, .inl P.gL)) := hM.1.2 7 (by decide)
  have lp : ∀ (n9 : Nat) (i : Nat), 96 - i < n9 → (i ≤ 96) → (∀ j, j < i → ¬ (σ.now (64 + j) = none ∧ σ.gone (64 + j) = 0)) → ∀ (H : Heap) (locs : List Loc) (ls : Array Slot), hv_P D classes s0.heap.size w H → va_S (hv_A s0.heap.size) s.heap H locs → lv_has ls 4 [(0, .ref (L 0)), (1, .int 5), (2, .ref (L 7)), (3, .int (nI i))] → W p l e rm_GK_freeNumberL s m ([.ref (L 0), .int 5, .ref (L 7)] : List Value).toArray below meth c H locs 0 0 Q (F0 m 2 ls []) := by
    intro n9
    induction n9 with
    | zero =>
      intro i hn9
      exact absurd hn9 (Nat.not_lt_zero _)
    | succ n9 ih =>
      intro i hn9 hi hj H locs ls hP hS hl
      refine lv_iload_n hx hb d_GK_freeNumber_2 rfl (lv_at hl 3 rfl) ?_
      refine lv_aload_n hx hb d_GK_freeNumber_3 rfl (lv_at hl 2 rfl) ?_
      refine va_alen (v := nI 96) hx hb hK (hv_one hP h5) 0 2 rfl rfl rfl d_GK_freeNumber_4 ?_
      refine gk_icmp_ge (x := i) (y := 96) (tgt := 32) hx hb d_GK_freeNumber_5 (by decide) (by omega) (by omega) (fun c5 => ?_) (fun c5 => ?_)
      · refine lv_aload_n hx hb d_GK_freeNumber_32 rfl (lv_at hl 0 rfl) ?_
        refine lv_iload_n hx hb d_GK_freeNumber_33 rfl (lv_at hl 3 rfl) ?_
        refine lv_aload_n hx hb d_GK_freeNumber_34 rfl (lv_at hl 2 rfl) ?_
        refine va_alen (v := nI 96) hx hb hK (hv_one hP h5) 0 2 rfl rfl rfl d_GK_freeNumber_35 ?_
        refine hv_call (hv_runV (As := [.int (nI i), .int (nI 96)]) (rest := []) (c_GK_mustBeLess C N (nI i) (nI 96) hM hR) (hv_cw C hZ kc_GK_mustBeLess kn_GK ⟨rfl, rfl, Nat.le_of_ble_eq_true rfl, Nat.le_of_ble_eq_true rfl⟩) hv_blind (hv_pre hZ hS hP) hx hml hb hown (hts _ k_GK_80) (hts _ ki_GK_mustBeLess) (hts _ ksel_GK_GK_mustBeLess) hy_GK_mustBeLess (hts _ kc_GK_mustBeLess) (va_recv hK (hv_one hP h1) (ci := 0) (q0 := 0) rfl rfl) rfl hl.1 rfl (lv_room (Nat.le_of_ble_eq_true rfl)) d_GK_freeNumber_36 ⟨Nat.le_of_ble_eq_true rfl, Nat.le_of_ble_eq_true rfl⟩) hZ hS (fun v9 w6 H locs q7 hP hS => ?_) (fun x9 w6 H locs q7 hP hS => ?_)
        · obtain ⟨hless, hv9, hw9⟩ := q7
          subst hv9
          rw [hw9] at hP
          show W _ _ _ _ _ _ _ _ _ _ _ _ _ _ _ (F0 m 39 ls [])
          exact absurd ((nI_ltI (by omega) (by omega)).mp hless) (Nat.not_lt.mpr c5)
        · exact hv_tleave hQ hZ hS hP hlocks (hout _) (⟨x_free_none (fun j hj9 => hj j (by omega)), q7.2⟩)
      · refine lv_aload_n hx hb d_GK_freeNumber_8 rfl (lv_at hl 2 rfl) ?_
        refine lv_iload_n hx hb d_GK_freeNumber_9 rfl (lv_at hl 3 rfl) ?_
        refine va_zald hx hb hK (hv_one hP h5) 0 2 rfl rfl (vp_in_nI (n := i) (by omega) (by omega)) d_GK_freeNumber_10 ?_
        rw [nI_clamp (n := i) (by omega)]
        refine lv_if_ne (tgt := 26) hx hb d_GK_freeNumber_11 (by decide) (fun c11 => ?_) (fun c11 => ?_)
        · refine lv_iinc (v := (nI (i + 1))) (lv' := [(3, .int ((nI (i + 1)))), (0, .ref (L 0)), (1, .int 5), (2, .ref (L 7))]) hx hb d_GK_freeNumber_26 hl (k := 3) rfl (nI_add i 1) (by decide) rfl (fun ls hl => ?_)
          refine lv_goto (tgt := 2) hx hb d_GK_freeNumber_29 (by decide) ?_
          exact ih (i + 1) (by omega) (by omega) (lt_s hj (fun q => c11 (by rw [hgo i (by omega)]; exact q.2))) _ _ _ hP hS (lv_sub hl [1, 2, 3, 0] rfl)
        · refine lv_aload_n hx hb d_GK_freeNumber_14 rfl (lv_at hl 0 rfl) ?_
          refine va_get (D := D) (ci := 0) (v := .ref (L 1)) (C := R_GK) (T := F_GK) (N := 12) hx hb hts i_GK hown hK (hv_one hP h1) 0 rfl rfl 0 (by decide) (hts _ k_GK_10) (fun _ h9 => h9) rfl d_GK_freeNumber_15 ?_
          refine lv_iload_n hx hb d_GK_freeNumber_18 rfl (lv_at hl 1 rfl) ?_
          refine lv_iload_n hx hb d_GK_freeNumber_19 rfl (lv_at hl 3 rfl) ?_
          refine hv_call (hv_runV (As := [.int 5, .int (nI i)]) (rest := []) (c_Gr_thingAt C 5 (nI i) h2 h3 h4) (hv_cw C hZ kc_Gr_thingAt kn_Gr ⟨rfl, rfl, Nat.le_of_ble_eq_true rfl, Nat.le_of_ble_eq_true rfl⟩) hv_blind (hv_pre hZ hS hP) hx hml hb hown (hts _ k_GK_199) (hts _ ki_Gr_thingAt) (hts _ ksel_Gr_Gr_thingAt) hy_Gr_thingAt (hts _ kc_Gr_thingAt) (va_recv hK (hv_one hP h2) (ci := 1) (q0 := 0) rfl rfl) rfl hl.1 rfl (lv_room (Nat.le_of_ble_eq_true rfl)) d_GK_freeNumber_20 ⟨Nat.le_of_ble_eq_true rfl, Nat.le_of_ble_eq_true rfl⟩) hZ hS (fun v9 w8 H locs q9 hP hS => ?_) (fun x9 w8 H locs q9 hP hS => q9.elim)
          obtain ⟨hv9, hw9⟩ := q9
          subst hv9
          rw [hw9] at hP
          show W _ _ _ _ _ _ _ _ _ _ _ _ _ _ _ (F0 m 23 ls [va_rf (gk_thing P.nN P.nL 5 (nI i))])
          rw [gk_thing_5 (fN := P.nN) (fL := P.nL) (i := i) (by omega)]
          cases h9o : P.nL i with
          | none =>
            show W _ _ _ _ _ _ _ _ _ _ _ _ _ _ _ (F0 m 23 ls [.null])
            refine lv_ifnullN (tgt := 32) hx hb d_GK_freeNumber_23 (by decide) ?_
            refine lv_aload_n hx hb d_GK_freeNumber_32 rfl (lv_at hl 0 rfl) ?_
            refine lv_iload_n hx hb d_GK_freeNumber_33 rfl (lv_at hl 3 rfl) ?_
            refine lv_aload_n hx hb d_GK_freeNumber_34 rfl (lv_at hl 2 rfl) ?_
            refine va_alen (v := nI 96) hx hb hK (hv_one hP h5) 0 2 rfl rfl rfl d_GK_freeNumber_35 ?_
            refine hv_call (hv_runV (As := [.int (nI i), .int (nI 96)]) (rest := []) (c_GK_mustBeLess C N (nI i) (nI 96) hM hR) (hv_cw C hZ kc_GK_mustBeLess kn_GK ⟨rfl, rfl, Nat.le_of_ble_eq_true rfl, Nat.le_of_ble_eq_true rfl⟩) hv_blind (hv_pre hZ hS hP) hx hml hb hown (hts _ k_GK_80) (hts _ ki_GK_mustBeLess) (hts _ ksel_GK_GK_mustBeLess) hy_GK_mustBeLess (hts _ kc_GK_mustBeLess) (va_recv hK (hv_one hP h1) (ci := 0) (q0 := 0) rfl rfl) rfl hl.1 rfl (lv_room (Nat.le_of_ble_eq_true rfl)) d_GK_freeNumber_36 ⟨Nat.le_of_ble_eq_true rfl, Nat.le_of_ble_eq_true rfl⟩) hZ hS (fun v9 w10 H locs q11 hP hS => ?_) (fun x9 w10 H locs q11 hP hS => ?_)
            · obtain ⟨hless, hv9, hw9⟩ := q11
              subst hv9
              rw [hw9] at hP
              show W _ _ _ _ _ _ _ _ _ _ _ _ _ _ _ (F0 m 39 ls [])
              refine lv_iload_n hx hb d_GK_freeNumber_39 rfl (lv_at hl 3 rfl) ?_
              exact hv_iret (v := nI i) hQ hx hb hr hZ hS hP hlocks d_GK_freeNumber_40 (⟨i, x_free_some (by omega) ((hno i (by omega)).mp h9o) (by rw [← hgo i (by omega)]; exact c11) hj, by omega, rfl, rfl⟩)
            · exact hv_tleave hQ hZ hS hP hlocks (hout _) (absurd (nI_lt (b := 96) (by omega) (by decide)) q11.1)
          | some a =>
            show W _ _ _ _ _ _ _ _ _ _ _ _ _ _ _ (F0 m 23 ls [.ref a])
            refine lv_ifnull hx hb d_GK_freeNumber_23 ?_
            refine lv_iinc (v := (nI (i + 1))) (lv' := [(3, .int ((nI (i + 1)))), (0, .ref (L 0)), (1, .int 5), (2, .ref (L 7))]) hx hb d_GK_freeNumber_26 hl (k := 3) rfl (nI_add i 1) (by decide) rfl (fun ls hl => ?_)
            refine lv_goto (tgt := 2) hx hb d_GK_freeNumber_29 (by decide) ?_
            exact ih (i + 1) (by omega) (by omega) (lt_s hj (fun q => by rw [(hno i (by omega)).mpr q.1] at h9o; cases h9o)) _ _ _ hP hS (lv_sub hl [1, 2, 3, 0] rfl)
  exact lp _ 0 (Nat.lt_succ_self _) (Nat.zero_le _) (fun j q => absurd q (Nat.not_lt_zero _)) _ _ _ hP hS (lv_sub hl [1, 2, 3, 0] rfl)

abbrev rm_GK_countChange : Room := { frames := 7, cells := 1, slots := 6, locals := 103 }
set_option maxHeartbeats 4000000 in
set_option maxRecDepth 100000 in
theorem c_GK_countChange {l : Launch} {s0 : State} {D : va_G} {ca : Nat → ClassId} (C : hv_C l s0 D (hv_tys ca)) {w : hv_W} (N : hv_N s0) {L : Nat → Nat} {w0 : hv_W} {σ : gS} {P : cT} (hM : cK ca L w0 σ P w) (hR : cR ca L σ P w) (hb9 : σ.ec + σ.sc ≤ 249)  :
    hv_Met l y_GK_countChange [.code y_GK_countChange b_GK_countChange 1 none] rm_GK_countChange (hv_Pc s0 D w [.ref (L 0)]) (hv_Q s0 D (fun v w' => ¬ 249 ≤ σ.ec + σ.sc ∧ v = none ∧ cK ca L w0 (σ.sSc (σ.sc + 1)) P w' ∧ cR ca L (σ.sSc (σ.sc + 1)) P w') (fun x w' => 249 ≤ σ.ec + σ.sc ∧ cThr ca L w0 8 (σ.sErr 9) x w')) 1 6 (hv_A s0.heap.size) := by
  refine hv_enter C _ (by decide) (Nat.le_of_ble_eq_true rfl) ?_
  intro p e s m below meth c ls Q hQ hx hb hr hml hown hts hK hZ hlocks hname hout htr hP hl
  have hown : s.vm.findClass R_GK = some m.cls := hown
  have hS : va_S (hv_A s0.heap.size) s.heap s.heap [] := va_S.rf
  have hl : lv_has ls 1 [(0, .ref (L 0))] := hl
  refine lv_aload_n hx hb d_GK_countChange_0 rfl (lv_at hl 0 rfl) ?_
  have h1 : w (L 0) = some (.inr (0, [.ref (L 1), .ref (L 2), .ref (L 3), .ref (L 4), .ref (L 5), .ref (L 6), .ref (L 7), .int (σ.err), .int (nI (σ.sc)), .int (nI (σ.ec)), .int (σ.ins), .int (σ.off)])) := hM.1.2 0 (by decide)
  refine va_get (D := D) (ci := 0) (v := .int (nI (σ.ec))) (C := R_GK) (T := F_GK) (N := 12) hx hb hts i_GK hown hK (hv_one hP h1) 0 rfl rfl 9 (by decide) (hts _ k_GK_162) (fun _ h9 => h9) rfl d_GK_countChange_1 ?_
  refine lv_aload_n hx hb d_GK_countChange_4 rfl (lv_at hl 0 rfl) ?_
  refine va_get (D := D) (ci := 0) (v := .int (nI (σ.sc))) (C := R_GK) (T := F_GK) (N := 12) hx hb hts i_GK hown hK (hv_one hP h1) 0 rfl rfl 8 (by decide) (hts _ k_GK_133) (fun _ h9 => h9) rfl d_GK_countChange_5 ?_
  refine gk_iadd (x := σ.ec) (y := σ.sc) hx hb d_GK_countChange_8 ?_
  refine lv_sipush (v := 249) hx hb d_GK_countChange_9 (by decide) ?_
  refine gk_icmp_lt (x := (σ.ec) + (σ.sc)) (y := 249) (tgt := 21) hx hb d_GK_countChange_12 (by decide) (by omega) (by omega) (fun c12 => ?_) (fun c12 => ?_)
  · refine lv_aload_n hx hb d_GK_countChange_21 rfl (lv_at hl 0 rfl) ?_
    refine lv_dup hx hb d_GK_countChange_22 rfl ?_
    refine va_get (D := D) (ci := 0) (v := .int (nI (σ.sc))) (C := R_GK) (T := F_GK) (N := 12) hx hb hts i_GK hown hK (hv_one hP h1) 0 rfl rfl 8 (by decide) (hts _ k_GK_133) (fun _ h9 => h9) rfl d_GK_countChange_23 ?_
    refine lv_iconst (v := 1) hx hb d_GK_countChange_26 (by decide) ?_
    refine gk_iadd (x := σ.sc) (y := 1) hx hb d_GK_countChange_27 ?_
    refine hv_put (D := D) (ci := 0) (v := .int (nI ((σ.sc) + 1))) (ty := .int) (C := R_GK) (T := F_GK) (N := 12) hx hb hts i_GK t_GK t_GK_ok n_GK hown hK hP hS h1 rfl 8 (by decide) (hts _ k_GK_133) (fun _ h9 => h9) rfl (by decide +kernel) rfl rfl (Nat.le_of_ble_eq_true rfl) d_GK_countChange_28 (fun H locs hP hS => ?_)
    obtain ⟨w2, ew2⟩ : ∃ z9 : hv_W, z9 = va_up w (L 0) (some (.inr (0, [.ref (L 1), .ref (L 2), .ref (L 3), .ref (L 4), .ref (L 5), .ref (L 6), .ref (L 7), .int (σ.err), .int (nI ((σ.sc) + 1)), .int (nI (σ.ec)), .int (σ.ins), .int (σ.off)]))) := ⟨_, rfl⟩
    have hP : hv_P D classes s0.heap.size w2 H := by rw [ew2]; exact hP
    have hM : cK ca L w0 (σ.sSc ((σ.sc) + 1)) P w2 := by rw [ew2]; exact hM.put 0 (by decide) rfl
    have hR : cR ca L (σ.sSc ((σ.sc) + 1)) P w2 := by rw [ew2]; exact hR.up 0 (by decide)
    have h3 : w2 (L 0) = some (.inr (0, [.ref (L 1), .ref (L 2), .ref (L 3), .ref (L 4), .ref (L 5), .ref (L 6), .ref (L 7), .int (σ.err), .int (nI ((σ.sc) + 1)), .int (nI (σ.ec)), .int (σ.ins), .int (σ.off)])) := by rw [ew2]; exact hv_up_s
    refine W.widen (k := 1) (n := 6) (by omega) (by omega) ?_
    exact hv_vret hQ hx hb hr hZ hS hP hlocks d_GK_countChange_31 (⟨by omega, rfl, hM, hR⟩)
  · refine lv_aload_n hx hb d_GK_countChange_15 rfl (lv_at hl 0 rfl) ?_
    refine lv_bipush (v := 9) hx hb d_GK_countChange_16 (by decide) ?_
    refine hv_call (hv_runV (As := [.int 9]) (rest := []) (c_GK_refuse C N 9 hM hR) (hv_cw C hZ kc_GK_refuse kn_GK ⟨rfl, rfl, Nat.le_of_ble_eq_true rfl, Nat.le_of_ble_eq_true rfl⟩) hv_blind (hv_pre hZ hS hP) hx hml hb hown (hts _ k_GK_262) (hts _ ki_GK_refuse) (hts _ ksel_GK_GK_refuse) hy_GK_refuse (hts _ kc_GK_refuse) (va_recv hK (hv_one hP h1) (ci := 0) (q0 := 0) rfl rfl) rfl hl.1 rfl (lv_room (Nat.le_of_ble_eq_true rfl)) d_GK_countChange_18 ⟨Nat.le_of_ble_eq_true rfl, Nat.le_of_ble_eq_true rfl⟩) hZ hS (fun v9 w4 H locs q5 hP hS => ?_) (fun x9 w4 H locs q5 hP hS => ?_)
    · exact q5.elim
    · exact hv_tleave hQ hZ hS hP hlocks (hout _) (⟨c12, q5⟩)

