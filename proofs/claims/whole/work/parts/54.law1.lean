abbrev rm_Law_node : Room := { frames := 10, cells := 6, slots := 20, locals := 169 }
set_option maxHeartbeats 4000000 in
set_option maxRecDepth 100000 in
theorem c_Law_node {l : Launch} {s0 : State} {D : va_G} {ca : Nat → ClassId} (C : hv_C l s0 D (hv_tys ca)) {w : hv_W} (N : hv_N s0) {L : Nat → Nat} {σ : gS} {P : cT} (hM : cK ca L w σ P w) (hR : cR ca L σ P w) (hW : gW σ) {o9 : Nat} {f9 : Nat → Int64} (ho9 : w o9 = some (.inl (ca 3, 1, .inr (.inl f9)))) (hlo : ¬ cM L o9)  :
    hv_Met l y_Law_node [.codeWith y_Law_node b_Law_node 3 (some .int) [(0, 8, 11, 13), (0, 8, 14, 15)]] rm_Law_node (hv_Pc s0 D w [.ref (L 0), .ref o9]) (hv_Q s0 D (fun v w' => cWr ca L w o9 f9 (x_node σ).2.1 (x_node σ).2.2.toInt64 (x_node σ).1 v w') (fun _ _ => False)) 6 20 (hv_A s0.heap.size) := by
  refine hv_enterW C _ (by decide) (Nat.le_of_ble_eq_true rfl) ?_
  intro p e s m below meth c ls Q hQ hx hb hr hml hown hts hK hZ hlocks hname htab htr hP hl
  have hown : s.vm.findClass R_Law = some m.cls := hown
  have hS : va_S (hv_A s0.heap.size) s.heap s.heap [] := va_S.rf
  have hl : lv_has ls 3 [(0, .ref (L 0)), (1, .ref o9)] := hl
  have h0 : w (L 0) = some (.inr (0, [.ref (L 1), .ref (L 2), .ref (L 3), .ref (L 4), .ref (L 5), .ref (L 6), .ref (L 7), .int (σ.err), .int (nI σ.sc), .int (nI σ.ec), .int (σ.ins), .int (σ.off)])) := hM.1.2 0 (by decide)
  refine lv_aload_n hx hb d_Law_node_0 rfl (lv_at hl 1 rfl) ?_
  refine lv_iconst (v := 0) hx hb d_Law_node_1 (by decide) ?_
  refine lv_aload_n hx hb d_Law_node_2 rfl (lv_at hl 0 rfl) ?_
  refine hv_call (hv_runV (As := []) (rest := [.int 0, .ref o9]) (c_GK_node C N  hM hR hW) (hv_cw C hZ kc_GK_node kn_GK ⟨rfl, rfl, Nat.le_of_ble_eq_true rfl, Nat.le_of_ble_eq_true rfl⟩) hv_blind (hv_pre hZ hS hP) hx hml hb hown (hts _ k_Law_7) (hts _ ki_GK_node) (hts _ ksel_GK_GK_node) hy_GK_node (hts _ kc_GK_node) (va_recv hK (hv_one hP h0) (ci := 0) (q0 := 0) rfl rfl) rfl hl.1 rfl (lv_room (Nat.le_of_ble_eq_true rfl)) d_Law_node_3 ⟨Nat.le_of_ble_eq_true rfl, Nat.le_of_ble_eq_true rfl⟩) hZ hS (fun v9 w1 H locs q2 hP hS => ?_) (fun x9 w1 H locs q2 hP hS => ?_)
  · obtain ⟨hz9, hv9, hP9⟩ := q2
    subst hv9
    have ho8 : w1 o9 = some (.inl (ca 3, 1, .inr (.inl f9))) := hP9.keep o9 _ hlo ho9
    show W _ _ _ _ _ _ _ _ _ _ _ _ _ _ _ (F0 m 6 ls [.int ((x_node σ).2.2), .int 0, .ref o9])
    refine lv_i2l (v := ((x_node σ).2.2).toInt64) hx hb d_Law_node_6 rfl ?_
    refine hv_last hx hb hK hP hS 3 ho8 rfl (vp_in_nI (n := 0) (by omega) (by omega)) d_Law_node_7 (fun H locs hP hS => ?_)
    rw [show Int32.toNatClampNeg 0 = 0 by decide] at hP
    obtain ⟨w3, ew3⟩ : ∃ z9 : hv_W, z9 = va_up w1 o9 (some (.inl (ca 3, 1, .inr (.inl (vp_updL f9 0 (((x_node σ).2.2).toInt64)))))) := ⟨_, rfl⟩
    have hP : hv_P D classes s0.heap.size w3 H := by rw [ew3]; exact hP
    have h4 : w3 o9 = some (.inl (ca 3, 1, .inr (.inl (vp_updL f9 0 (((x_node σ).2.2).toInt64))))) := by rw [ew3]; exact hv_up_s
    refine lv_goto (tgt := 17) hx hb d_Law_node_8 (by decide) ?_
    refine lv_iconst (v := 0) hx hb d_Law_node_17 (by decide) ?_
    exact hv_iret (v := 0) hQ hx hb hr hZ hS hP hlocks d_Law_node_18 (⟨by rw [hz9]; rfl, by rw [hz9]; decide, w1, hP9, Or.inr ⟨hz9, ew3⟩⟩)
  · rcases q2 with ⟨hz9, hx9, -, -, hP9⟩ | ⟨hz9, hx9, -, -, hP9⟩
    · refine hv_catch0 (E := 8) (T0 := F_ex) htab (by decide) (by decide) (by decide) hown (hts _ k_Law_13) hK hP hx9 rfl ?_
      show W _ _ _ _ _ _ _ _ _ _ _ _ _ _ _ (F0 m 11 ls [.ref x9])
      refine lv_astore_n (lv' := [(2, .ref x9), (0, .ref (L 0)), (1, .ref o9)]) hx hb d_Law_node_11 rfl hl (by decide) rfl (fun ls hl => ?_)
      refine lv_iconst (v := 1) hx hb d_Law_node_12 (by decide) ?_
      exact hv_iret (v := 1) hQ hx hb hr hZ hS hP hlocks d_Law_node_13 (⟨by rw [hz9]; rfl, by rw [hz9]; decide, w1, hP9, Or.inl ⟨by rw [hz9]; decide, rfl⟩⟩)
    · refine hv_catch1 (E := 9) (T0 := F_ex) htab (by decide) (by decide) (by decide) (by decide) (by decide) (by decide) hown (hts _ k_Law_15) (hts _ k_Law_13) (va_Nc.moved hZ.1.alike N.2.2.2.2) hK hP hx9 rfl ?_
      show W _ _ _ _ _ _ _ _ _ _ _ _ _ _ _ (F0 m 14 ls [.ref x9])
      refine lv_astore_n (lv' := [(2, .ref x9), (0, .ref (L 0)), (1, .ref o9)]) hx hb d_Law_node_14 rfl hl (by decide) rfl (fun ls hl => ?_)
      refine lv_iconst (v := 2) hx hb d_Law_node_15 (by decide) ?_
      exact hv_iret (v := 2) hQ hx hb hr hZ hS hP hlocks d_Law_node_16 (⟨by rw [hz9]; rfl, by rw [hz9]; decide, w1, hP9, Or.inl ⟨by rw [hz9]; decide, rfl⟩⟩)

abbrev rm_Law_label : Room := { frames := 9, cells := 6, slots := 30, locals := 149 }
set_option maxHeartbeats 4000000 in
set_option maxRecDepth 100000 in
theorem c_Law_label {l : Launch} {s0 : State} {D : va_G} {ca : Nat → ClassId} (C : hv_C l s0 D (hv_tys ca)) {w : hv_W} (N : hv_N s0) {L : Nat → Nat} {σ : gS} {P : cT} (n y o : Int32) (hM : cK ca L w σ P w) (hR : cR ca L σ P w) (hW : gW σ) {o9 : Nat} {f9 : Nat → Int64} (ho9 : w o9 = some (.inl (ca 3, 1, .inr (.inl f9)))) (hlo : ¬ cM L o9) (ho : o = 0 ∨ o = 1)  :
    hv_Met l y_Law_label [.codeWith y_Law_label b_Law_label 6 (some .int) [(0, 19, 22, 13), (0, 19, 26, 15)]] rm_Law_label (hv_Pc s0 D w [.ref (L 0), .int n, .int y, .int o, .ref o9]) (hv_Q s0 D (fun v w' => cWr ca L w o9 f9 (x_label σ n y o).2.1 (if (x_label σ n y o).2.2 = 0 then 0 else 1) (x_label σ n y o).1 v w') (fun _ _ => False)) 6 30 (hv_A s0.heap.size) := by
  refine hv_enterW C _ (by decide) (Nat.le_of_ble_eq_true rfl) ?_
  intro p e s m below meth c ls Q hQ hx hb hr hml hown hts hK hZ hlocks hname htab htr hP hl
  have hown : s.vm.findClass R_Law = some m.cls := hown
  have hS : va_S (hv_A s0.heap.size) s.heap s.heap [] := va_S.rf
  have hl : lv_has ls 6 [(0, .ref (L 0)), (1, .int n), (2, .int y), (3, .int o), (4, .ref o9)] := hl
  have h0 : w (L 0) = some (.inr (0, [.ref (L 1), .ref (L 2), .ref (L 3), .ref (L 4), .ref (L 5), .ref (L 6), .ref (L 7), .int (σ.err), .int (nI σ.sc), .int (nI σ.ec), .int (σ.ins), .int (σ.off)])) := hM.1.2 0 (by decide)
  refine lv_aload hx hb d_Law_label_0 (lv_at hl 4 rfl) ?_
  refine lv_iconst (v := 0) hx hb d_Law_label_2 (by decide) ?_
  refine lv_aload_n hx hb d_Law_label_3 rfl (lv_at hl 0 rfl) ?_
  refine lv_iload_n hx hb d_Law_label_4 rfl (lv_at hl 1 rfl) ?_
  refine lv_iload_n hx hb d_Law_label_5 rfl (lv_at hl 2 rfl) ?_
  refine lv_iload_n hx hb d_Law_label_6 rfl (lv_at hl 3 rfl) ?_
  refine hv_call (hv_runV (As := [.int n, .int y, .int o]) (rest := [.int 0, .ref o9]) (c_GK_label C N n y o hM hR hW ho) (hv_cw C hZ kc_GK_label kn_GK ⟨rfl, rfl, Nat.le_of_ble_eq_true rfl, Nat.le_of_ble_eq_true rfl⟩) hv_blind (hv_pre hZ hS hP) hx hml hb hown (hts _ k_Law_17) (hts _ ki_GK_label) (hts _ ksel_GK_GK_label) hy_GK_label (hts _ kc_GK_label) (va_recv hK (hv_one hP h0) (ci := 0) (q0 := 0) rfl rfl) rfl hl.1 rfl (lv_room (Nat.le_of_ble_eq_true rfl)) d_Law_label_7 ⟨Nat.le_of_ble_eq_true rfl, Nat.le_of_ble_eq_true rfl⟩) hZ hS (fun v9 w1 H locs q2 hP hS => ?_) (fun x9 w1 H locs q2 hP hS => ?_)
  · obtain ⟨hz9, hv9, hP9⟩ := q2
    subst hv9
    have ho8 : w1 o9 = some (.inl (ca 3, 1, .inr (.inl f9))) := hP9.keep o9 _ hlo ho9
    show W _ _ _ _ _ _ _ _ _ _ _ _ _ _ _ (F0 m 10 ls [.int ((x_label σ n y o).2.2), .int 0, .ref o9])
    refine lv_if_eq (tgt := 17) hx hb d_Law_label_10 (by decide) (fun c10 => ?_) (fun c10 => ?_)
    · refine lv_lconst (v := 0) hx hb d_Law_label_17 (by decide) ?_
      refine hv_last hx hb hK hP hS 3 ho8 rfl (vp_in_nI (n := 0) (by omega) (by omega)) d_Law_label_18 (fun H locs hP hS => ?_)
      rw [show Int32.toNatClampNeg 0 = 0 by decide] at hP
      obtain ⟨w3, ew3⟩ : ∃ z9 : hv_W, z9 = va_up w1 o9 (some (.inl (ca 3, 1, .inr (.inl (vp_updL f9 0 0))))) := ⟨_, rfl⟩
      have hP : hv_P D classes s0.heap.size w3 H := by rw [ew3]; exact hP
      have h4 : w3 o9 = some (.inl (ca 3, 1, .inr (.inl (vp_updL f9 0 0)))) := by rw [ew3]; exact hv_up_s
      refine lv_goto (tgt := 30) hx hb d_Law_label_19 (by decide) ?_
      refine lv_iconst (v := 0) hx hb d_Law_label_30 (by decide) ?_
      exact hv_iret (v := 0) hQ hx hb hr hZ hS hP hlocks d_Law_label_31 (⟨by rw [hz9]; rfl, by rw [hz9]; decide, w1, hP9, Or.inr ⟨hz9, by rw [if_pos c10]; exact ew3⟩⟩)
    · refine lv_lconst (v := 1) hx hb d_Law_label_13 (by decide) ?_
      refine lv_goto (tgt := 18) hx hb d_Law_label_14 (by decide) ?_
      refine hv_last hx hb hK hP hS 3 ho8 rfl (vp_in_nI (n := 0) (by omega) (by omega)) d_Law_label_18 (fun H locs hP hS => ?_)
      rw [show Int32.toNatClampNeg 0 = 0 by decide] at hP
      obtain ⟨w5, ew5⟩ : ∃ z9 : hv_W, z9 = va_up w1 o9 (some (.inl (ca 3, 1, .inr (.inl (vp_updL f9 0 1))))) := ⟨_, rfl⟩
      have hP : hv_P D classes s0.heap.size w5 H := by rw [ew5]; exact hP
      have h6 : w5 o9 = some (.inl (ca 3, 1, .inr (.inl (vp_updL f9 0 1)))) := by rw [ew5]; exact hv_up_s
      refine lv_goto (tgt := 30) hx hb d_Law_label_19 (by decide) ?_
      refine lv_iconst (v := 0) hx hb d_Law_label_30 (by decide) ?_
      exact hv_iret (v := 0) hQ hx hb hr hZ hS hP hlocks d_Law_label_31 (⟨by rw [hz9]; rfl, by rw [hz9]; decide, w1, hP9, Or.inr ⟨hz9, by rw [if_neg c10]; exact ew5⟩⟩)
  · rcases q2 with ⟨hz9, hx9, -, -, hP9⟩ | ⟨hz9, hx9, -, -, hP9⟩
    · refine hv_catch0 (E := 8) (T0 := F_ex) htab (by decide) (by decide) (by decide) hown (hts _ k_Law_13) hK hP hx9 rfl ?_
      show W _ _ _ _ _ _ _ _ _ _ _ _ _ _ _ (F0 m 22 ls [.ref x9])
      refine lv_astore (lv' := [(5, .ref x9), (0, .ref (L 0)), (1, .int n), (2, .int y), (3, .int o), (4, .ref o9)]) hx hb d_Law_label_22 hl (by decide) rfl (fun ls hl => ?_)
      refine lv_iconst (v := 1) hx hb d_Law_label_24 (by decide) ?_
      exact hv_iret (v := 1) hQ hx hb hr hZ hS hP hlocks d_Law_label_25 (⟨by rw [hz9]; rfl, by rw [hz9]; decide, w1, hP9, Or.inl ⟨by rw [hz9]; decide, rfl⟩⟩)
    · refine hv_catch1 (E := 9) (T0 := F_ex) htab (by decide) (by decide) (by decide) (by decide) (by decide) (by decide) hown (hts _ k_Law_15) (hts _ k_Law_13) (va_Nc.moved hZ.1.alike N.2.2.2.2) hK hP hx9 rfl ?_
      show W _ _ _ _ _ _ _ _ _ _ _ _ _ _ _ (F0 m 26 ls [.ref x9])
      refine lv_astore (lv' := [(5, .ref x9), (0, .ref (L 0)), (1, .int n), (2, .int y), (3, .int o), (4, .ref o9)]) hx hb d_Law_label_26 hl (by decide) rfl (fun ls hl => ?_)
      refine lv_iconst (v := 2) hx hb d_Law_label_28 (by decide) ?_
      exact hv_iret (v := 2) hQ hx hb hr hZ hS hP hlocks d_Law_label_29 (⟨by rw [hz9]; rfl, by rw [hz9]; decide, w1, hP9, Or.inl ⟨by rw [hz9]; decide, rfl⟩⟩)

abbrev rm_Law_property : Room := { frames := 10, cells := 9, slots := 69, locals := 179 }
set_option maxHeartbeats 4000000 in
set_option maxRecDepth 100000 in
theorem c_Law_property {l : Launch} {s0 : State} {D : va_G} {ca : Nat → ClassId} (C : hv_C l s0 D (hv_tys ca)) {w : hv_W} (N : hv_N s0) {L : Nat → Nat} {σ : gS} {P : cT} (k n y kd : Int32) (x : Int64) (hM : cK ca L w σ P w) (hR : cR ca L σ P w) (hW : gW σ) {o9 : Nat} {f9 : Nat → Int64} (ho9 : w o9 = some (.inl (ca 3, 1, .inr (.inl f9)))) (hlo : ¬ cM L o9)  :
    hv_Met l y_Law_property [.codeWith y_Law_property b_Law_property 9 (some .int) [(0, 23, 26, 13), (0, 23, 30, 15)]] rm_Law_property (hv_Pc s0 D w [.ref (L 0), .int k, .int n, .int y, .int kd, .long x, .ref o9]) (hv_Q s0 D (fun v w' => cWr ca L w o9 f9 (x_property σ k n y kd x).2.1 (if (x_property σ k n y kd x).2.2 = 0 then 0 else 1) (x_property σ k n y kd x).1 v w') (fun _ _ => False)) 9 69 (hv_A s0.heap.size) := by
  refine hv_enterW C _ (by decide) (Nat.le_of_ble_eq_true rfl) ?_
  intro p e s m below meth c ls Q hQ hx hb hr hml hown hts hK hZ hlocks hname htab htr hP hl
  have hown : s.vm.findClass R_Law = some m.cls := hown
  have hS : va_S (hv_A s0.heap.size) s.heap s.heap [] := va_S.rf
  have hl : lv_has ls 9 [(0, .ref (L 0)), (1, .int k), (2, .int n), (3, .int y), (4, .int kd), (5, .long x), (7, .ref o9)] := hl
  have h0 : w (L 0) = some (.inr (0, [.ref (L 1), .ref (L 2), .ref (L 3), .ref (L 4), .ref (L 5), .ref (L 6), .ref (L 7), .int (σ.err), .int (nI σ.sc), .int (nI σ.ec), .int (σ.ins), .int (σ.off)])) := hM.1.2 0 (by decide)
  refine lv_aload hx hb d_Law_property_0 (lv_at hl 6 rfl) ?_
  refine lv_iconst (v := 0) hx hb d_Law_property_2 (by decide) ?_
  refine lv_aload_n hx hb d_Law_property_3 rfl (lv_at hl 0 rfl) ?_
  refine lv_iload_n hx hb d_Law_property_4 rfl (lv_at hl 1 rfl) ?_
  refine lv_iload_n hx hb d_Law_property_5 rfl (lv_at hl 2 rfl) ?_
  refine lv_iload_n hx hb d_Law_property_6 rfl (lv_at hl 3 rfl) ?_
  refine lv_iload hx hb d_Law_property_7 (lv_at hl 4 rfl) ?_
  refine lv_lload hx hb d_Law_property_9 (lv_at hl 5 rfl) ?_
  refine hv_call (hv_runV (As := [.int k, .int n, .int y, .int kd, .long x]) (rest := [.int 0, .ref o9]) (c_GK_property C N k n y kd x hM hR hW) (hv_cw C hZ kc_GK_property kn_GK ⟨rfl, rfl, Nat.le_of_ble_eq_true rfl, Nat.le_of_ble_eq_true rfl⟩) hv_blind (hv_pre hZ hS hP) hx hml hb hown (hts _ k_Law_21) (hts _ ki_GK_property) (hts _ ksel_GK_GK_property) hy_GK_property (hts _ kc_GK_property) (va_recv hK (hv_one hP h0) (ci := 0) (q0 := 0) rfl rfl) rfl hl.1 rfl (lv_room (Nat.le_of_ble_eq_true rfl)) d_Law_property_11 ⟨Nat.le_of_ble_eq_true rfl, Nat.le_of_ble_eq_true rfl⟩) hZ hS (fun v9 w1 H locs q2 hP hS => ?_) (fun x9 w1 H locs q2 hP hS => ?_)
  · obtain ⟨hz9, hv9, hP9⟩ := q2
    subst hv9
    have ho8 : w1 o9 = some (.inl (ca 3, 1, .inr (.inl f9))) := hP9.keep o9 _ hlo ho9
    show W _ _ _ _ _ _ _ _ _ _ _ _ _ _ _ (F0 m 14 ls [.int ((x_property σ k n y kd x).2.2), .int 0, .ref o9])
    refine lv_if_eq (tgt := 21) hx hb d_Law_property_14 (by decide) (fun c14 => ?_) (fun c14 => ?_)
    · refine lv_lconst (v := 0) hx hb d_Law_property_21 (by decide) ?_
      refine hv_last hx hb hK hP hS 3 ho8 rfl (vp_in_nI (n := 0) (by omega) (by omega)) d_Law_property_22 (fun H locs hP hS => ?_)
      rw [show Int32.toNatClampNeg 0 = 0 by decide] at hP
      obtain ⟨w3, ew3⟩ : ∃ z9 : hv_W, z9 = va_up w1 o9 (some (.inl (ca 3, 1, .inr (.inl (vp_updL f9 0 0))))) := ⟨_, rfl⟩
      have hP : hv_P D classes s0.heap.size w3 H := by rw [ew3]; exact hP
      have h4 : w3 o9 = some (.inl (ca 3, 1, .inr (.inl (vp_updL f9 0 0)))) := by rw [ew3]; exact hv_up_s
      refine lv_goto (tgt := 34) hx hb d_Law_property_23 (by decide) ?_
      refine lv_iconst (v := 0) hx hb d_Law_property_34 (by decide) ?_
      exact hv_iret (v := 0) hQ hx hb hr hZ hS hP hlocks d_Law_property_35 (⟨by rw [hz9]; rfl, by rw [hz9]; decide, w1, hP9, Or.inr ⟨hz9, by rw [if_pos c14]; exact ew3⟩⟩)
    · refine lv_lconst (v := 1) hx hb d_Law_property_17 (by decide) ?_
      refine lv_goto (tgt := 22) hx hb d_Law_property_18 (by decide) ?_
      refine hv_last hx hb hK hP hS 3 ho8 rfl (vp_in_nI (n := 0) (by omega) (by omega)) d_Law_property_22 (fun H locs hP hS => ?_)
      rw [show Int32.toNatClampNeg 0 = 0 by decide] at hP
      obtain ⟨w5, ew5⟩ : ∃ z9 : hv_W, z9 = va_up w1 o9 (some (.inl (ca 3, 1, .inr (.inl (vp_updL f9 0 1))))) := ⟨_, rfl⟩
      have hP : hv_P D classes s0.heap.size w5 H := by rw [ew5]; exact hP
      have h6 : w5 o9 = some (.inl (ca 3, 1, .inr (.inl (vp_updL f9 0 1)))) := by rw [ew5]; exact hv_up_s
      refine lv_goto (tgt := 34) hx hb d_Law_property_23 (by decide) ?_
      refine lv_iconst (v := 0) hx hb d_Law_property_34 (by decide) ?_
      exact hv_iret (v := 0) hQ hx hb hr hZ hS hP hlocks d_Law_property_35 (⟨by rw [hz9]; rfl, by rw [hz9]; decide, w1, hP9, Or.inr ⟨hz9, by rw [if_neg c14]; exact ew5⟩⟩)
  · rcases q2 with ⟨hz9, hx9, -, -, hP9⟩ | ⟨hz9, hx9, -, -, hP9⟩
    · refine hv_catch0 (E := 8) (T0 := F_ex) htab (by decide) (by decide) (by decide) hown (hts _ k_Law_13) hK hP hx9 rfl ?_
      show W _ _ _ _ _ _ _ _ _ _ _ _ _ _ _ (F0 m 26 ls [.ref x9])
      refine lv_astore (lv' := [(8, .ref x9), (0, .ref (L 0)), (1, .int k), (2, .int n), (3, .int y), (4, .int kd), (5, .long x), (7, .ref o9)]) hx hb d_Law_property_26 hl (by decide) rfl (fun ls hl => ?_)
      refine lv_iconst (v := 1) hx hb d_Law_property_28 (by decide) ?_
      exact hv_iret (v := 1) hQ hx hb hr hZ hS hP hlocks d_Law_property_29 (⟨by rw [hz9]; rfl, by rw [hz9]; decide, w1, hP9, Or.inl ⟨by rw [hz9]; decide, rfl⟩⟩)
    · refine hv_catch1 (E := 9) (T0 := F_ex) htab (by decide) (by decide) (by decide) (by decide) (by decide) (by decide) hown (hts _ k_Law_15) (hts _ k_Law_13) (va_Nc.moved hZ.1.alike N.2.2.2.2) hK hP hx9 rfl ?_
      show W _ _ _ _ _ _ _ _ _ _ _ _ _ _ _ (F0 m 30 ls [.ref x9])
      refine lv_astore (lv' := [(8, .ref x9), (0, .ref (L 0)), (1, .int k), (2, .int n), (3, .int y), (4, .int kd), (5, .long x), (7, .ref o9)]) hx hb d_Law_property_30 hl (by decide) rfl (fun ls hl => ?_)
      refine lv_iconst (v := 2) hx hb d_Law_property_32 (by decide) ?_
      exact hv_iret (v := 2) hQ hx hb hr hZ hS hP hlocks d_Law_property_33 (⟨by rw [hz9]; rfl, by rw [hz9]; decide, w1, hP9, Or.inl ⟨by rw [hz9]; decide, rfl⟩⟩)

abbrev rm_Law_link : Room := { frames := 10, cells := 7, slots := 34, locals := 172 }
set_option maxHeartbeats 4000000 in
set_option maxRecDepth 100000 in
theorem c_Law_link {l : Launch} {s0 : State} {D : va_G} {ca : Nat → ClassId} (C : hv_C l s0 D (hv_tys ca)) {w : hv_W} (N : hv_N s0) {L : Nat → Nat} {σ : gS} {P : cT} (a b ty : Int32) (hM : cK ca L w σ P w) (hR : cR ca L σ P w) (hW : gW σ) {o9 : Nat} {f9 : Nat → Int64} (ho9 : w o9 = some (.inl (ca 3, 1, .inr (.inl f9)))) (hlo : ¬ cM L o9)  :
    hv_Met l y_Law_link [.codeWith y_Law_link b_Law_link 6 (some .int) [(0, 12, 15, 13), (0, 12, 19, 15)]] rm_Law_link (hv_Pc s0 D w [.ref (L 0), .int a, .int b, .int ty, .ref o9]) (hv_Q s0 D (fun v w' => cWr ca L w o9 f9 (x_link σ a b ty).2.1 (x_link σ a b ty).2.2.toInt64 (x_link σ a b ty).1 v w') (fun _ _ => False)) 7 34 (hv_A s0.heap.size) := by
  refine hv_enterW C _ (by decide) (Nat.le_of_ble_eq_true rfl) ?_
  intro p e s m below meth c ls Q hQ hx hb hr hml hown hts hK hZ hlocks hname htab htr hP hl
  have hown : s.vm.findClass R_Law = some m.cls := hown
  have hS : va_S (hv_A s0.heap.size) s.heap s.heap [] := va_S.rf
  have hl : lv_has ls 6 [(0, .ref (L 0)), (1, .int a), (2, .int b), (3, .int ty), (4, .ref o9)] := hl
  have h0 : w (L 0) = some (.inr (0, [.ref (L 1), .ref (L 2), .ref (L 3), .ref (L 4), .ref (L 5), .ref (L 6), .ref (L 7), .int (σ.err), .int (nI σ.sc), .int (nI σ.ec), .int (σ.ins), .int (σ.off)])) := hM.1.2 0 (by decide)
  refine lv_aload hx hb d_Law_link_0 (lv_at hl 4 rfl) ?_
  refine lv_iconst (v := 0) hx hb d_Law_link_2 (by decide) ?_
  refine lv_aload_n hx hb d_Law_link_3 rfl (lv_at hl 0 rfl) ?_
  refine lv_iload_n hx hb d_Law_link_4 rfl (lv_at hl 1 rfl) ?_
  refine lv_iload_n hx hb d_Law_link_5 rfl (lv_at hl 2 rfl) ?_
  refine lv_iload_n hx hb d_Law_link_6 rfl (lv_at hl 3 rfl) ?_
  refine hv_call (hv_runV (As := [.int a, .int b, .int ty]) (rest := [.int 0, .ref o9]) (c_GK_link C N a b ty hM hR hW) (hv_cw C hZ kc_GK_link kn_GK ⟨rfl, rfl, Nat.le_of_ble_eq_true rfl, Nat.le_of_ble_eq_true rfl⟩) hv_blind (hv_pre hZ hS hP) hx hml hb hown (hts _ k_Law_25) (hts _ ki_GK_link) (hts _ ksel_GK_GK_link) hy_GK_link (hts _ kc_GK_link) (va_recv hK (hv_one hP h0) (ci := 0) (q0 := 0) rfl rfl) rfl hl.1 rfl (lv_room (Nat.le_of_ble_eq_true rfl)) d_Law_link_7 ⟨Nat.le_of_ble_eq_true rfl, Nat.le_of_ble_eq_true rfl⟩) hZ hS (fun v9 w1 H locs q2 hP hS => ?_) (fun x9 w1 H locs q2 hP hS => ?_)
  · obtain ⟨hz9, hv9, hP9⟩ := q2
    subst hv9
    have ho8 : w1 o9 = some (.inl (ca 3, 1, .inr (.inl f9))) := hP9.keep o9 _ hlo ho9
    show W _ _ _ _ _ _ _ _ _ _ _ _ _ _ _ (F0 m 10 ls [.int ((x_link σ a b ty).2.2), .int 0, .ref o9])
    refine lv_i2l (v := ((x_link σ a b ty).2.2).toInt64) hx hb d_Law_link_10 rfl ?_
    refine hv_last hx hb hK hP hS 3 ho8 rfl (vp_in_nI (n := 0) (by omega) (by omega)) d_Law_link_11 (fun H locs hP hS => ?_)
    rw [show Int32.toNatClampNeg 0 = 0 by decide] at hP
    obtain ⟨w3, ew3⟩ : ∃ z9 : hv_W, z9 = va_up w1 o9 (some (.inl (ca 3, 1, .inr (.inl (vp_updL f9 0 (((x_link σ a b ty).2.2).toInt64)))))) := ⟨_, rfl⟩
    have hP : hv_P D classes s0.heap.size w3 H := by rw [ew3]; exact hP
    have h4 : w3 o9 = some (.inl (ca 3, 1, .inr (.inl (vp_updL f9 0 (((x_link σ a b ty).2.2).toInt64))))) := by rw [ew3]; exact hv_up_s
    refine lv_goto (tgt := 23) hx hb d_Law_link_12 (by decide) ?_
    refine lv_iconst (v := 0) hx hb d_Law_link_23 (by decide) ?_
    exact hv_iret (v := 0) hQ hx hb hr hZ hS hP hlocks d_Law_link_24 (⟨by rw [hz9]; rfl, by rw [hz9]; decide, w1, hP9, Or.inr ⟨hz9, ew3⟩⟩)
  · rcases q2 with ⟨hz9, hx9, -, -, hP9⟩ | ⟨hz9, hx9, -, -, hP9⟩
    · refine hv_catch0 (E := 8) (T0 := F_ex) htab (by decide) (by decide) (by decide) hown (hts _ k_Law_13) hK hP hx9 rfl ?_
      show W _ _ _ _ _ _ _ _ _ _ _ _ _ _ _ (F0 m 15 ls [.ref x9])
      refine lv_astore (lv' := [(5, .ref x9), (0, .ref (L 0)), (1, .int a), (2, .int b), (3, .int ty), (4, .ref o9)]) hx hb d_Law_link_15 hl (by decide) rfl (fun ls hl => ?_)
      refine lv_iconst (v := 1) hx hb d_Law_link_17 (by decide) ?_
      exact hv_iret (v := 1) hQ hx hb hr hZ hS hP hlocks d_Law_link_18 (⟨by rw [hz9]; rfl, by rw [hz9]; decide, w1, hP9, Or.inl ⟨by rw [hz9]; decide, rfl⟩⟩)
    · refine hv_catch1 (E := 9) (T0 := F_ex) htab (by decide) (by decide) (by decide) (by decide) (by decide) (by decide) hown (hts _ k_Law_15) (hts _ k_Law_13) (va_Nc.moved hZ.1.alike N.2.2.2.2) hK hP hx9 rfl ?_
      show W _ _ _ _ _ _ _ _ _ _ _ _ _ _ _ (F0 m 19 ls [.ref x9])
      refine lv_astore (lv' := [(5, .ref x9), (0, .ref (L 0)), (1, .int a), (2, .int b), (3, .int ty), (4, .ref o9)]) hx hb d_Law_link_19 hl (by decide) rfl (fun ls hl => ?_)
      refine lv_iconst (v := 2) hx hb d_Law_link_21 (by decide) ?_
      exact hv_iret (v := 2) hQ hx hb hr hZ hS hP hlocks d_Law_link_22 (⟨by rw [hz9]; rfl, by rw [hz9]; decide, w1, hP9, Or.inl ⟨by rw [hz9]; decide, rfl⟩⟩)

abbrev rm_Law_take : Room := { frames := 10, cells := 3, slots := 18, locals := 166 }
set_option maxHeartbeats 4000000 in
set_option maxRecDepth 100000 in
theorem c_Law_take {l : Launch} {s0 : State} {D : va_G} {ca : Nat → ClassId} (C : hv_C l s0 D (hv_tys ca)) {w : hv_W} (N : hv_N s0) {L : Nat → Nat} {σ : gS} {P : cT} (k n : Int32) (hM : cK ca L w σ P w) (hR : cR ca L σ P w) (hW : gW σ)  :
    hv_Met l y_Law_take [.codeWith y_Law_take b_Law_take 4 (some .int) [(0, 6, 9, 13), (0, 6, 12, 15)]] rm_Law_take (hv_Pc s0 D w [.ref (L 0), .int k, .int n]) (hv_Q s0 D (fun v w' => v = some (.int (nI (x_take σ k n).2.1)) ∧ (x_take σ k n).2.1 ≤ 2 ∧ cP ca L w (x_take σ k n).1 w') (fun _ _ => False)) 3 18 (hv_A s0.heap.size) := by
  refine hv_enterW C _ (by decide) (Nat.le_of_ble_eq_true rfl) ?_
  intro p e s m below meth c ls Q hQ hx hb hr hml hown hts hK hZ hlocks hname htab htr hP hl
  have hown : s.vm.findClass R_Law = some m.cls := hown
  have hS : va_S (hv_A s0.heap.size) s.heap s.heap [] := va_S.rf
  have hl : lv_has ls 4 [(0, .ref (L 0)), (1, .int k), (2, .int n)] := hl
  have h0 : w (L 0) = some (.inr (0, [.ref (L 1), .ref (L 2), .ref (L 3), .ref (L 4), .ref (L 5), .ref (L 6), .ref (L 7), .int (σ.err), .int (nI σ.sc), .int (nI σ.ec), .int (σ.ins), .int (σ.off)])) := hM.1.2 0 (by decide)
  refine lv_aload_n hx hb d_Law_take_0 rfl (lv_at hl 0 rfl) ?_
  refine lv_iload_n hx hb d_Law_take_1 rfl (lv_at hl 1 rfl) ?_
  refine lv_iload_n hx hb d_Law_take_2 rfl (lv_at hl 2 rfl) ?_
  refine hv_call (hv_runV (As := [.int k, .int n]) (rest := []) (c_GK_take C N k n hM hR hW) (hv_cw C hZ kc_GK_take kn_GK ⟨rfl, rfl, Nat.le_of_ble_eq_true rfl, Nat.le_of_ble_eq_true rfl⟩) hv_blind (hv_pre hZ hS hP) hx hml hb hown (hts _ k_Law_29) (hts _ ki_GK_take) (hts _ ksel_GK_GK_take) hy_GK_take (hts _ kc_GK_take) (va_recv hK (hv_one hP h0) (ci := 0) (q0 := 0) rfl rfl) rfl hl.1 rfl (lv_room (Nat.le_of_ble_eq_true rfl)) d_Law_take_3 ⟨Nat.le_of_ble_eq_true rfl, Nat.le_of_ble_eq_true rfl⟩) hZ hS (fun v9 w1 H locs q2 hP hS => ?_) (fun x9 w1 H locs q2 hP hS => ?_)
  · obtain ⟨hz9, hv9, hP9⟩ := q2
    subst hv9
    show W _ _ _ _ _ _ _ _ _ _ _ _ _ _ _ (F0 m 6 ls [])
    refine lv_goto (tgt := 15) hx hb d_Law_take_6 (by decide) ?_
    refine lv_iconst (v := 0) hx hb d_Law_take_15 (by decide) ?_
    exact hv_iret (v := 0) hQ hx hb hr hZ hS hP hlocks d_Law_take_16 (⟨by rw [hz9]; rfl, by rw [hz9]; decide, hP9⟩)
  · rcases q2 with ⟨hz9, hx9, -, -, hP9⟩ | ⟨hz9, hx9, -, -, hP9⟩
    · refine hv_catch0 (E := 8) (T0 := F_ex) htab (by decide) (by decide) (by decide) hown (hts _ k_Law_13) hK hP hx9 rfl ?_
      show W _ _ _ _ _ _ _ _ _ _ _ _ _ _ _ (F0 m 9 ls [.ref x9])
      refine lv_astore_n (lv' := [(3, .ref x9), (0, .ref (L 0)), (1, .int k), (2, .int n)]) hx hb d_Law_take_9 rfl hl (by decide) rfl (fun ls hl => ?_)
      refine lv_iconst (v := 1) hx hb d_Law_take_10 (by decide) ?_
      exact hv_iret (v := 1) hQ hx hb hr hZ hS hP hlocks d_Law_take_11 (⟨by rw [hz9]; rfl, by rw [hz9]; decide, hP9⟩)
    · refine hv_catch1 (E := 9) (T0 := F_ex) htab (by decide) (by decide) (by decide) (by decide) (by decide) (by decide) hown (hts _ k_Law_15) (hts _ k_Law_13) (va_Nc.moved hZ.1.alike N.2.2.2.2) hK hP hx9 rfl ?_
      show W _ _ _ _ _ _ _ _ _ _ _ _ _ _ _ (F0 m 12 ls [.ref x9])
      refine lv_astore_n (lv' := [(3, .ref x9), (0, .ref (L 0)), (1, .int k), (2, .int n)]) hx hb d_Law_take_12 rfl hl (by decide) rfl (fun ls hl => ?_)
      refine lv_iconst (v := 2) hx hb d_Law_take_13 (by decide) ?_
      exact hv_iret (v := 2) hQ hx hb hr hZ hS hP hlocks d_Law_take_14 (⟨by rw [hz9]; rfl, by rw [hz9]; decide, hP9⟩)

abbrev rm_Law_done : Room := { frames := 8, cells := 2, slots := 12, locals := 124 }
set_option maxHeartbeats 4000000 in
set_option maxRecDepth 100000 in
theorem c_Law_done {l : Launch} {s0 : State} {D : va_G} {ca : Nat → ClassId} (C : hv_C l s0 D (hv_tys ca)) {w : hv_W} (N : hv_N s0) {L : Nat → Nat} {σ : gS} {P : cT} (hM : cK ca L w σ P w) (hR : cR ca L σ P w) (hW : gW σ) {o9 : Nat} {f9 : Nat → Int64} (ho9 : w o9 = some (.inl (ca 3, 1, .inr (.inl f9)))) (hlo : ¬ cM L o9)  :
    hv_Met l y_Law_done [.codeWith y_Law_done b_Law_done 3 (some .int) [(0, 8, 11, 13), (0, 8, 14, 15)]] rm_Law_done (hv_Pc s0 D w [.ref (L 0), .ref o9]) (hv_Q s0 D (fun v w' => cWr ca L w o9 f9 (x_done σ).2.1 (x_done σ).2.2.toInt64 (x_done σ).1 v w') (fun _ _ => False)) 2 12 (hv_A s0.heap.size) := by
  refine hv_enterW C _ (by decide) (Nat.le_of_ble_eq_true rfl) ?_
  intro p e s m below meth c ls Q hQ hx hb hr hml hown hts hK hZ hlocks hname htab htr hP hl
  have hown : s.vm.findClass R_Law = some m.cls := hown
  have hS : va_S (hv_A s0.heap.size) s.heap s.heap [] := va_S.rf
  have hl : lv_has ls 3 [(0, .ref (L 0)), (1, .ref o9)] := hl
  have h0 : w (L 0) = some (.inr (0, [.ref (L 1), .ref (L 2), .ref (L 3), .ref (L 4), .ref (L 5), .ref (L 6), .ref (L 7), .int (σ.err), .int (nI σ.sc), .int (nI σ.ec), .int (σ.ins), .int (σ.off)])) := hM.1.2 0 (by decide)
  refine lv_aload_n hx hb d_Law_done_0 rfl (lv_at hl 1 rfl) ?_
  refine lv_iconst (v := 0) hx hb d_Law_done_1 (by decide) ?_
  refine lv_aload_n hx hb d_Law_done_2 rfl (lv_at hl 0 rfl) ?_
  refine hv_call (hv_runV (As := []) (rest := [.int 0, .ref o9]) (c_GK_done C N  hM hR hW) (hv_cw C hZ kc_GK_done kn_GK ⟨rfl, rfl, Nat.le_of_ble_eq_true rfl, Nat.le_of_ble_eq_true rfl⟩) hv_blind (hv_pre hZ hS hP) hx hml hb hown (hts _ k_Law_33) (hts _ ki_GK_done) (hts _ ksel_GK_GK_done) hy_GK_done (hts _ kc_GK_done) (va_recv hK (hv_one hP h0) (ci := 0) (q0 := 0) rfl rfl) rfl hl.1 rfl (lv_room (Nat.le_of_ble_eq_true rfl)) d_Law_done_3 ⟨Nat.le_of_ble_eq_true rfl, Nat.le_of_ble_eq_true rfl⟩) hZ hS (fun v9 w1 H locs q2 hP hS => ?_) (fun x9 w1 H locs q2 hP hS => ?_)
  · obtain ⟨hz9, hv9, hP9⟩ := q2
    subst hv9
    have ho8 : w1 o9 = some (.inl (ca 3, 1, .inr (.inl f9))) := hP9.keep o9 _ hlo ho9
    show W _ _ _ _ _ _ _ _ _ _ _ _ _ _ _ (F0 m 6 ls [.int ((x_done σ).2.2), .int 0, .ref o9])
    refine lv_i2l (v := ((x_done σ).2.2).toInt64) hx hb d_Law_done_6 rfl ?_
    refine hv_last hx hb hK hP hS 3 ho8 rfl (vp_in_nI (n := 0) (by omega) (by omega)) d_Law_done_7 (fun H locs hP hS => ?_)
    rw [show Int32.toNatClampNeg 0 = 0 by decide] at hP
    obtain ⟨w3, ew3⟩ : ∃ z9 : hv_W, z9 = va_up w1 o9 (some (.inl (ca 3, 1, .inr (.inl (vp_updL f9 0 (((x_done σ).2.2).toInt64)))))) := ⟨_, rfl⟩
    have hP : hv_P D classes s0.heap.size w3 H := by rw [ew3]; exact hP
    have h4 : w3 o9 = some (.inl (ca 3, 1, .inr (.inl (vp_updL f9 0 (((x_done σ).2.2).toInt64))))) := by rw [ew3]; exact hv_up_s
    refine lv_goto (tgt := 17) hx hb d_Law_done_8 (by decide) ?_
    refine lv_iconst (v := 0) hx hb d_Law_done_17 (by decide) ?_
    exact hv_iret (v := 0) hQ hx hb hr hZ hS hP hlocks d_Law_done_18 (⟨by rw [hz9]; rfl, by rw [hz9]; decide, w1, hP9, Or.inr ⟨hz9, ew3⟩⟩)
  · rcases q2 with ⟨hz9, hx9, -, -, hP9⟩ | ⟨hz9, hx9, -, -, hP9⟩
    · refine hv_catch0 (E := 8) (T0 := F_ex) htab (by decide) (by decide) (by decide) hown (hts _ k_Law_13) hK hP hx9 rfl ?_
      show W _ _ _ _ _ _ _ _ _ _ _ _ _ _ _ (F0 m 11 ls [.ref x9])
      refine lv_astore_n (lv' := [(2, .ref x9), (0, .ref (L 0)), (1, .ref o9)]) hx hb d_Law_done_11 rfl hl (by decide) rfl (fun ls hl => ?_)
      refine lv_iconst (v := 1) hx hb d_Law_done_12 (by decide) ?_
      exact hv_iret (v := 1) hQ hx hb hr hZ hS hP hlocks d_Law_done_13 (⟨by rw [hz9]; rfl, by rw [hz9]; decide, w1, hP9, Or.inl ⟨by rw [hz9]; decide, rfl⟩⟩)
    · refine hv_catch1 (E := 9) (T0 := F_ex) htab (by decide) (by decide) (by decide) (by decide) (by decide) (by decide) hown (hts _ k_Law_15) (hts _ k_Law_13) (va_Nc.moved hZ.1.alike N.2.2.2.2) hK hP hx9 rfl ?_
      show W _ _ _ _ _ _ _ _ _ _ _ _ _ _ _ (F0 m 14 ls [.ref x9])
      refine lv_astore_n (lv' := [(2, .ref x9), (0, .ref (L 0)), (1, .ref o9)]) hx hb d_Law_done_14 rfl hl (by decide) rfl (fun ls hl => ?_)
      refine lv_iconst (v := 2) hx hb d_Law_done_15 (by decide) ?_
      exact hv_iret (v := 2) hQ hx hb hr hZ hS hP hlocks d_Law_done_16 (⟨by rw [hz9]; rfl, by rw [hz9]; decide, w1, hP9, Or.inl ⟨by rw [hz9]; decide, rfl⟩⟩)

abbrev rm_Law_commit : Room := { frames := 8, cells := 2, slots := 12, locals := 124 }
set_option maxHeartbeats 4000000 in
set_option maxRecDepth 100000 in
theorem c_Law_commit {l : Launch} {s0 : State} {D : va_G} {ca : Nat → ClassId} (C : hv_C l s0 D (hv_tys ca)) {w : hv_W} (N : hv_N s0) {L : Nat → Nat} {σ : gS} {P : cT} (hM : cK ca L w σ P w) (hR : cR ca L σ P w) (hW : gW σ) {o9 : Nat} {f9 : Nat → Int64} (ho9 : w o9 = some (.inl (ca 3, 1, .inr (.inl f9)))) (hlo : ¬ cM L o9)  :
    hv_Met l y_Law_commit [.codeWith y_Law_commit b_Law_commit 3 (some .int) [(0, 8, 11, 15)]] rm_Law_commit (hv_Pc s0 D w [.ref (L 0), .ref o9]) (hv_Q s0 D (fun v w' => cWr ca L w o9 f9 (x_commit σ).2.1 (x_commit σ).2.2.toInt64 (x_commit σ).1 v w') (fun _ _ => False)) 2 12 (hv_A s0.heap.size) := by
  refine hv_enterW C _ (by decide) (Nat.le_of_ble_eq_true rfl) ?_
  intro p e s m below meth c ls Q hQ hx hb hr hml hown hts hK hZ hlocks hname htab htr hP hl
  have hown : s.vm.findClass R_Law = some m.cls := hown
  have hS : va_S (hv_A s0.heap.size) s.heap s.heap [] := va_S.rf
  have hl : lv_has ls 3 [(0, .ref (L 0)), (1, .ref o9)] := hl
  have h0 : w (L 0) = some (.inr (0, [.ref (L 1), .ref (L 2), .ref (L 3), .ref (L 4), .ref (L 5), .ref (L 6), .ref (L 7), .int (σ.err), .int (nI σ.sc), .int (nI σ.ec), .int (σ.ins), .int (σ.off)])) := hM.1.2 0 (by decide)
  refine lv_aload_n hx hb d_Law_commit_0 rfl (lv_at hl 1 rfl) ?_
  refine lv_iconst (v := 0) hx hb d_Law_commit_1 (by decide) ?_
  refine lv_aload_n hx hb d_Law_commit_2 rfl (lv_at hl 0 rfl) ?_
  refine hv_call (hv_runV (As := []) (rest := [.int 0, .ref o9]) (c_GK_commit C N  hM hR hW) (hv_cw C hZ kc_GK_commit kn_GK ⟨rfl, rfl, Nat.le_of_ble_eq_true rfl, Nat.le_of_ble_eq_true rfl⟩) hv_blind (hv_pre hZ hS hP) hx hml hb hown (hts _ k_Law_36) (hts _ ki_GK_commit) (hts _ ksel_GK_GK_commit) hy_GK_commit (hts _ kc_GK_commit) (va_recv hK (hv_one hP h0) (ci := 0) (q0 := 0) rfl rfl) rfl hl.1 rfl (lv_room (Nat.le_of_ble_eq_true rfl)) d_Law_commit_3 ⟨Nat.le_of_ble_eq_true rfl, Nat.le_of_ble_eq_true rfl⟩) hZ hS (fun v9 w1 H locs q2 hP hS => ?_) (fun x9 w1 H locs q2 hP hS => ?_)
  · obtain ⟨hz9, hv9, hP9⟩ := q2
    subst hv9
    have ho8 : w1 o9 = some (.inl (ca 3, 1, .inr (.inl f9))) := hP9.keep o9 _ hlo ho9
    show W _ _ _ _ _ _ _ _ _ _ _ _ _ _ _ (F0 m 6 ls [.int ((x_commit σ).2.2), .int 0, .ref o9])
    refine lv_i2l (v := ((x_commit σ).2.2).toInt64) hx hb d_Law_commit_6 rfl ?_
    refine hv_last hx hb hK hP hS 3 ho8 rfl (vp_in_nI (n := 0) (by omega) (by omega)) d_Law_commit_7 (fun H locs hP hS => ?_)
    rw [show Int32.toNatClampNeg 0 = 0 by decide] at hP
    obtain ⟨w3, ew3⟩ : ∃ z9 : hv_W, z9 = va_up w1 o9 (some (.inl (ca 3, 1, .inr (.inl (vp_updL f9 0 (((x_commit σ).2.2).toInt64)))))) := ⟨_, rfl⟩
    have hP : hv_P D classes s0.heap.size w3 H := by rw [ew3]; exact hP
    have h4 : w3 o9 = some (.inl (ca 3, 1, .inr (.inl (vp_updL f9 0 (((x_commit σ).2.2).toInt64))))) := by rw [ew3]; exact hv_up_s
    refine lv_goto (tgt := 14) hx hb d_Law_commit_8 (by decide) ?_
    refine lv_iconst (v := 0) hx hb d_Law_commit_14 (by decide) ?_
    exact hv_iret (v := 0) hQ hx hb hr hZ hS hP hlocks d_Law_commit_15 (⟨by rw [hz9]; rfl, by rw [hz9]; decide, w1, hP9, Or.inr ⟨hz9, ew3⟩⟩)
  · obtain ⟨hz9, hx9, -, -, hP9⟩ := q2
    refine hv_catch0 (E := 9) (T0 := F_ex) htab (by decide) (by decide) (by decide) hown (hts _ k_Law_15) hK hP hx9 rfl ?_
    show W _ _ _ _ _ _ _ _ _ _ _ _ _ _ _ (F0 m 11 ls [.ref x9])
    refine lv_astore_n (lv' := [(2, .ref x9), (0, .ref (L 0)), (1, .ref o9)]) hx hb d_Law_commit_11 rfl hl (by decide) rfl (fun ls hl => ?_)
    refine lv_iconst (v := 1) hx hb d_Law_commit_12 (by decide) ?_
    exact hv_iret (v := 1) hQ hx hb hr hZ hS hP hlocks d_Law_commit_13 (⟨by rw [hz9]; rfl, by rw [hz9]; decide, w1, hP9, Or.inl ⟨by rw [hz9]; decide, rfl⟩⟩)

abbrev rm_Law_checkpoint : Room := { frames := 8, cells := 2, slots := 12, locals := 123 }
set_option maxHeartbeats 4000000 in
set_option maxRecDepth 100000 in
theorem c_Law_checkpoint {l : Launch} {s0 : State} {D : va_G} {ca : Nat → ClassId} (C : hv_C l s0 D (hv_tys ca)) {w : hv_W} (N : hv_N s0) {L : Nat → Nat} {σ : gS} {P : cT} (hM : cK ca L w σ P w) (hR : cR ca L σ P w) (hW : gW σ) {o9 : Nat} {f9 : Nat → Int64} (ho9 : w o9 = some (.inl (ca 3, 1, .inr (.inl f9)))) (hlo : ¬ cM L o9)  :
    hv_Met l y_Law_checkpoint [.codeWith y_Law_checkpoint b_Law_checkpoint 3 (some .int) [(0, 8, 11, 15)]] rm_Law_checkpoint (hv_Pc s0 D w [.ref (L 0), .ref o9]) (hv_Q s0 D (fun v w' => cWr ca L w o9 f9 (x_checkpoint σ).2.1 (x_checkpoint σ).2.2.toInt64 (x_checkpoint σ).1 v w') (fun _ _ => False)) 2 12 (hv_A s0.heap.size) := by
  refine hv_enterW C _ (by decide) (Nat.le_of_ble_eq_true rfl) ?_
  intro p e s m below meth c ls Q hQ hx hb hr hml hown hts hK hZ hlocks hname htab htr hP hl
  have hown : s.vm.findClass R_Law = some m.cls := hown
  have hS : va_S (hv_A s0.heap.size) s.heap s.heap [] := va_S.rf
  have hl : lv_has ls 3 [(0, .ref (L 0)), (1, .ref o9)] := hl
  have h0 : w (L 0) = some (.inr (0, [.ref (L 1), .ref (L 2), .ref (L 3), .ref (L 4), .ref (L 5), .ref (L 6), .ref (L 7), .int (σ.err), .int (nI σ.sc), .int (nI σ.ec), .int (σ.ins), .int (σ.off)])) := hM.1.2 0 (by decide)
  refine lv_aload_n hx hb d_Law_checkpoint_0 rfl (lv_at hl 1 rfl) ?_
  refine lv_iconst (v := 0) hx hb d_Law_checkpoint_1 (by decide) ?_
  refine lv_aload_n hx hb d_Law_checkpoint_2 rfl (lv_at hl 0 rfl) ?_
  refine hv_call (hv_runV (As := []) (rest := [.int 0, .ref o9]) (c_GK_checkpoint C N  hM hR hW) (hv_cw C hZ kc_GK_checkpoint kn_GK ⟨rfl, rfl, Nat.le_of_ble_eq_true rfl, Nat.le_of_ble_eq_true rfl⟩) hv_blind (hv_pre hZ hS hP) hx hml hb hown (hts _ k_Law_39) (hts _ ki_GK_checkpoint) (hts _ ksel_GK_GK_checkpoint) hy_GK_checkpoint (hts _ kc_GK_checkpoint) (va_recv hK (hv_one hP h0) (ci := 0) (q0 := 0) rfl rfl) rfl hl.1 rfl (lv_room (Nat.le_of_ble_eq_true rfl)) d_Law_checkpoint_3 ⟨Nat.le_of_ble_eq_true rfl, Nat.le_of_ble_eq_true rfl⟩) hZ hS (fun v9 w1 H locs q2 hP hS => ?_) (fun x9 w1 H locs q2 hP hS => ?_)
  · obtain ⟨hz9, hv9, hP9⟩ := q2
    subst hv9
    have ho8 : w1 o9 = some (.inl (ca 3, 1, .inr (.inl f9))) := hP9.keep o9 _ hlo ho9
    show W _ _ _ _ _ _ _ _ _ _ _ _ _ _ _ (F0 m 6 ls [.int ((x_checkpoint σ).2.2), .int 0, .ref o9])
    refine lv_i2l (v := ((x_checkpoint σ).2.2).toInt64) hx hb d_Law_checkpoint_6 rfl ?_
    refine hv_last hx hb hK hP hS 3 ho8 rfl (vp_in_nI (n := 0) (by omega) (by omega)) d_Law_checkpoint_7 (fun H locs hP hS => ?_)
    rw [show Int32.toNatClampNeg 0 = 0 by decide] at hP
    obtain ⟨w3, ew3⟩ : ∃ z9 : hv_W, z9 = va_up w1 o9 (some (.inl (ca 3, 1, .inr (.inl (vp_updL f9 0 (((x_checkpoint σ).2.2).toInt64)))))) := ⟨_, rfl⟩
    have hP : hv_P D classes s0.heap.size w3 H := by rw [ew3]; exact hP
    have h4 : w3 o9 = some (.inl (ca 3, 1, .inr (.inl (vp_updL f9 0 (((x_checkpoint σ).2.2).toInt64))))) := by rw [ew3]; exact hv_up_s
    refine lv_goto (tgt := 14) hx hb d_Law_checkpoint_8 (by decide) ?_
    refine lv_iconst (v := 0) hx hb d_Law_checkpoint_14 (by decide) ?_
    exact hv_iret (v := 0) hQ hx hb hr hZ hS hP hlocks d_Law_checkpoint_15 (⟨by rw [hz9]; rfl, by rw [hz9]; decide, w1, hP9, Or.inr ⟨hz9, ew3⟩⟩)
  · obtain ⟨hz9, hx9, -, -, hP9⟩ := q2
    refine hv_catch0 (E := 9) (T0 := F_ex) htab (by decide) (by decide) (by decide) hown (hts _ k_Law_15) hK hP hx9 rfl ?_
    show W _ _ _ _ _ _ _ _ _ _ _ _ _ _ _ (F0 m 11 ls [.ref x9])
    refine lv_astore_n (lv' := [(2, .ref x9), (0, .ref (L 0)), (1, .ref o9)]) hx hb d_Law_checkpoint_11 rfl hl (by decide) rfl (fun ls hl => ?_)
    refine lv_iconst (v := 1) hx hb d_Law_checkpoint_12 (by decide) ?_
    exact hv_iret (v := 1) hQ hx hb hr hZ hS hP hlocks d_Law_checkpoint_13 (⟨by rw [hz9]; rfl, by rw [hz9]; decide, w1, hP9, Or.inl ⟨by rw [hz9]; decide, rfl⟩⟩)

abbrev rm_Law_value : Room := { frames := 7, cells := 1, slots := 6, locals := 108 }
set_option maxHeartbeats 4000000 in
set_option maxRecDepth 100000 in
theorem c_Law_value {l : Launch} {s0 : State} {D : va_G} {ca : Nat → ClassId} (C : hv_C l s0 D (hv_tys ca)) {w : hv_W} (N : hv_N s0) {L : Nat → Nat} {σ : gS} {P : cT} (k n y wh : Int32) (hM : cK ca L w σ P w) (hR : cR ca L σ P w) (hW : gW σ) {o9 : Nat} {f9 : Nat → Int64} (ho9 : w o9 = some (.inl (ca 3, 1, .inr (.inl f9)))) (hlo : ¬ cM L o9)  :
    hv_Met l y_Law_value [.codeWith y_Law_value b_Law_value 7 (some .int) [(0, 13, 16, 46)]] rm_Law_value (hv_Pc s0 D w [.ref (L 0), .int k, .int n, .int y, .int wh, .ref o9]) (hv_Q s0 D (fun v w' => cWr ca L w o9 f9 (x_value σ k n y wh).1 (x_value σ k n y wh).2 σ v w') (fun _ _ => False)) 1 6 (hv_A s0.heap.size) := by
  refine hv_enterW C _ (by decide) (Nat.le_of_ble_eq_true rfl) ?_
  intro p e s m below meth c ls Q hQ hx hb hr hml hown hts hK hZ hlocks hname htab htr hP hl
  have hown : s.vm.findClass R_Law = some m.cls := hown
  have hS : va_S (hv_A s0.heap.size) s.heap s.heap [] := va_S.rf
  have hl : lv_has ls 7 [(0, .ref (L 0)), (1, .int k), (2, .int n), (3, .int y), (4, .int wh), (5, .ref o9)] := hl
  have h0 : w (L 0) = some (.inr (0, [.ref (L 1), .ref (L 2), .ref (L 3), .ref (L 4), .ref (L 5), .ref (L 6), .ref (L 7), .int (σ.err), .int (nI σ.sc), .int (nI σ.ec), .int (σ.ins), .int (σ.off)])) := hM.1.2 0 (by decide)
  refine lv_aload hx hb d_Law_value_0 (lv_at hl 5 rfl) ?_
  refine lv_iconst (v := 0) hx hb d_Law_value_2 (by decide) ?_
  refine lv_aload_n hx hb d_Law_value_3 rfl (lv_at hl 0 rfl) ?_
  refine lv_iload_n hx hb d_Law_value_4 rfl (lv_at hl 1 rfl) ?_
  refine lv_iload_n hx hb d_Law_value_5 rfl (lv_at hl 2 rfl) ?_
  refine lv_iload_n hx hb d_Law_value_6 rfl (lv_at hl 3 rfl) ?_
  refine lv_iload hx hb d_Law_value_7 (lv_at hl 4 rfl) ?_
  refine hv_call (hv_runV (As := [.int k, .int n, .int y, .int wh]) (rest := [.int 0, .ref o9]) (c_GK_value C N k n y wh hM hR hW) (hv_cw C hZ kc_GK_value kn_GK ⟨rfl, rfl, Nat.le_of_ble_eq_true rfl, Nat.le_of_ble_eq_true rfl⟩) hv_blind (hv_pre hZ hS hP) hx hml hb hown (hts _ k_Law_42) (hts _ ki_GK_value) (hts _ ksel_GK_GK_value) hy_GK_value (hts _ kc_GK_value) (va_recv hK (hv_one hP h0) (ci := 0) (q0 := 0) rfl rfl) rfl hl.1 rfl (lv_room (Nat.le_of_ble_eq_true rfl)) d_Law_value_9 ⟨Nat.le_of_ble_eq_true rfl, Nat.le_of_ble_eq_true rfl⟩) hZ hS (fun v9 w1 H locs q2 hP hS => ?_) (fun x9 w1 H locs q2 hP hS => ?_)
  · obtain ⟨hz9, hv9, hw9⟩ := q2
    have hP9 : cP ca L w σ w1 := by rw [hw9]; exact ⟨P, hM, hR⟩
    subst hv9
    have ho8 : w1 o9 = some (.inl (ca 3, 1, .inr (.inl f9))) := hP9.keep o9 _ hlo ho9
    show W _ _ _ _ _ _ _ _ _ _ _ _ _ _ _ (F0 m 12 ls [.long ((x_value σ k n y wh).2), .int 0, .ref o9])
    refine hv_last hx hb hK hP hS 3 ho8 rfl (vp_in_nI (n := 0) (by omega) (by omega)) d_Law_value_12 (fun H locs hP hS => ?_)
    rw [show Int32.toNatClampNeg 0 = 0 by decide] at hP
    obtain ⟨w3, ew3⟩ : ∃ z9 : hv_W, z9 = va_up w1 o9 (some (.inl (ca 3, 1, .inr (.inl (vp_updL f9 0 ((x_value σ k n y wh).2)))))) := ⟨_, rfl⟩
    have hP : hv_P D classes s0.heap.size w3 H := by rw [ew3]; exact hP
    have h4 : w3 o9 = some (.inl (ca 3, 1, .inr (.inl (vp_updL f9 0 ((x_value σ k n y wh).2))))) := by rw [ew3]; exact hv_up_s
    refine lv_goto (tgt := 20) hx hb d_Law_value_13 (by decide) ?_
    refine lv_iconst (v := 0) hx hb d_Law_value_20 (by decide) ?_
    exact hv_iret (v := 0) hQ hx hb hr hZ hS hP hlocks d_Law_value_21 (⟨by rw [hz9]; rfl, by rw [hz9]; decide, w1, hP9, Or.inr ⟨hz9, ew3⟩⟩)
  · obtain ⟨hz9, hx9, -, -, hP9⟩ := q2
    refine hv_catch0 (E := 10) (T0 := F_ex) htab (by decide) (by decide) (by decide) hown (hts _ k_Law_46) hK hP hx9 rfl ?_
    show W _ _ _ _ _ _ _ _ _ _ _ _ _ _ _ (F0 m 16 ls [.ref x9])
    refine lv_astore (lv' := [(6, .ref x9), (0, .ref (L 0)), (1, .int k), (2, .int n), (3, .int y), (4, .int wh), (5, .ref o9)]) hx hb d_Law_value_16 hl (by decide) rfl (fun ls hl => ?_)
    refine lv_iconst (v := 1) hx hb d_Law_value_18 (by decide) ?_
    exact hv_iret (v := 1) hQ hx hb hr hZ hS hP hlocks d_Law_value_19 (⟨by rw [hz9]; rfl, by rw [hz9]; decide, w1, hP9, Or.inl ⟨by rw [hz9]; decide, rfl⟩⟩)

