abbrev rm_Gr_init : Room := { frames := 1, cells := 2, slots := 160, locals := 12 }
set_option maxHeartbeats 4000000 in
set_option maxRecDepth 100000 in
theorem c_Gr_init {l : Launch} {s0 : State} {D : va_G} {ca : Nat → ClassId} (C : hv_C l s0 D (hv_tys ca)) {w : hv_W} {g : Nat} (h0 : w g = some (.inr (1, [.null, .null])))  :
    hv_Met l y_Gr_init [.code y_Gr_init b_Gr_init 1 none] rm_Gr_init (hv_Pc s0 D w [.ref g]) (hv_Q s0 D (fun v w' => v = none ∧ ∃ na la, w na = none ∧ w la = none ∧ na ≠ la ∧ w' g = some (.inr (1, [.ref na, .ref la])) ∧ w' na = some (.inl (ca 5, 64, .inr (.inr (.inr (.inr (fun _ => none)))))) ∧ w' la = some (.inl (ca 6, 96, .inr (.inr (.inr (.inr (fun _ => none)))))) ∧ ∀ b, b ≠ g → b ≠ na → b ≠ la → w' b = w b) (fun _ _ => False)) 2 160 (hv_A s0.heap.size) := by
  refine hv_enter C _ (by decide) (Nat.le_of_ble_eq_true rfl) ?_
  intro p e s m below meth c ls Q hQ hx hb hr hml hown hts hK hZ hlocks hname hout htr hP hl
  have hown : s.vm.findClass R_Gr = some m.cls := hown
  have hS : va_S (hv_A s0.heap.size) s.heap s.heap [] := va_S.rf
  have hl : lv_has ls 1 [(0, .ref g)] := hl
  refine lv_aload_n hx hb d_Gr_init_0 rfl (lv_at hl 0 rfl) ?_
  refine W.objInit hx hb hown (hts _ k_Gr_3) (hts _ ki_objInit) (hts _ kc_objInit) rfl (by rw [hml]; exact hl.1) rfl d_Gr_init_1 (Nat.le_of_ble_eq_true rfl) (Nat.le_of_ble_eq_true rfl) ?_
  show W _ _ _ _ _ _ _ _ _ _ _ _ _ _ _ (F0 m 4 ls [])
  refine lv_aload_n hx hb d_Gr_init_4 rfl (lv_at hl 0 rfl) ?_
  refine lv_bipush (v := 64) hx hb d_Gr_init_5 (by decide) ?_
  refine hv_newq hx hb hown (hts _ k_Gr_9) (hv_over C hZ ko_Nd) hK hP hS hZ.2.1 5 rfl (N' := 64) (by decide) (by decide) (by decide) (Nat.le_of_ble_eq_true rfl) (Nat.le_of_ble_eq_true rfl) d_Gr_init_7 (fun q1 H hq2 hP hS => ?_)
  obtain ⟨w3, ew3⟩ : ∃ z9 : hv_W, z9 = va_up w q1 (some (.inl (ca 5, 64, .inr (.inr (.inr (.inr (fun _ => none))))))) := ⟨_, rfl⟩
  have hP : hv_P D classes s0.heap.size w3 H := by rw [ew3]; exact hP
  have h4 : w3 g = some (.inr (1, [.null, .null])) := by rw [ew3]; exact hv_up_f hq2 h0
  have h5 : w3 q1 = some (.inl (ca 5, 64, .inr (.inr (.inr (.inr (fun _ => none)))))) := by rw [ew3]; exact hv_up_s
  refine W.widen (k := 1) (n := 64) (by omega) (by omega) ?_
  show W _ _ _ _ _ _ _ _ _ _ _ _ _ _ _ (F0 m 10 ls [.ref q1, .ref g])
  refine hv_putF (D := D) (ci := 1) (v := .ref q1) (ty := .array (.object "GraphKeep$Node")) (C := R_Gr) (T := F_Gr) (N := 2) hx hb hts i_Gr t_Gr t_Gr_ok n_Gr hown hK hP hS h4 rfl 0 (by decide) (hts _ k_Gr_11) (fun _ h9 => h9) rfl hname rfl (by decide +kernel) rfl rfl (Nat.le_of_ble_eq_true rfl) d_Gr_init_10 (fun H locs hP hS => ?_)
  obtain ⟨w6, ew6⟩ : ∃ z9 : hv_W, z9 = va_up w3 g (some (.inr (1, [.ref q1, .null]))) := ⟨_, rfl⟩
  have hP : hv_P D classes s0.heap.size w6 H := by rw [ew6]; exact hP
  have h7 : w6 q1 = some (.inl (ca 5, 64, .inr (.inr (.inr (.inr (fun _ => none)))))) := by rw [ew6]; exact hv_up_k h5 (hv_ne h5 h4 (show (104 : Nat) ≠ 1 by decide))
  have h8 : w6 g = some (.inr (1, [.ref q1, .null])) := by rw [ew6]; exact hv_up_s
  refine lv_aload_n hx hb d_Gr_init_13 rfl (lv_at hl 0 rfl) ?_
  refine lv_bipush (v := 96) hx hb d_Gr_init_14 (by decide) ?_
  refine hv_newq hx hb hown (hts _ k_Gr_17) (hv_over C hZ ko_Lk) hK hP hS hZ.2.1 6 rfl (N' := 96) (by decide) (by decide) (by decide) (Nat.le_of_ble_eq_true rfl) (Nat.le_of_ble_eq_true rfl) d_Gr_init_16 (fun q9 H hq10 hP hS => ?_)
  obtain ⟨w11, ew11⟩ : ∃ z9 : hv_W, z9 = va_up w6 q9 (some (.inl (ca 6, 96, .inr (.inr (.inr (.inr (fun _ => none))))))) := ⟨_, rfl⟩
  have hP : hv_P D classes s0.heap.size w11 H := by rw [ew11]; exact hP
  have h12 : w11 g = some (.inr (1, [.ref q1, .null])) := by rw [ew11]; exact hv_up_f hq10 h8
  have h13 : w11 q1 = some (.inl (ca 5, 64, .inr (.inr (.inr (.inr (fun _ => none)))))) := by rw [ew11]; exact hv_up_f hq10 h7
  have h14 : w11 q9 = some (.inl (ca 6, 96, .inr (.inr (.inr (.inr (fun _ => none)))))) := by rw [ew11]; exact hv_up_s
  refine W.widen (k := 2) (n := 160) (by omega) (by omega) ?_
  show W _ _ _ _ _ _ _ _ _ _ _ _ _ _ _ (F0 m 19 ls [.ref q9, .ref g])
  refine hv_putF (D := D) (ci := 1) (v := .ref q9) (ty := .array (.object "GraphKeep$Link")) (C := R_Gr) (T := F_Gr) (N := 2) hx hb hts i_Gr t_Gr t_Gr_ok n_Gr hown hK hP hS h12 rfl 1 (by decide) (hts _ k_Gr_19) (fun _ h9 => h9) rfl hname rfl (by decide +kernel) rfl rfl (Nat.le_of_ble_eq_true rfl) d_Gr_init_19 (fun H locs hP hS => ?_)
  obtain ⟨w15, ew15⟩ : ∃ z9 : hv_W, z9 = va_up w11 g (some (.inr (1, [.ref q1, .ref q9]))) := ⟨_, rfl⟩
  have hP : hv_P D classes s0.heap.size w15 H := by rw [ew15]; exact hP
  have h16 : w15 q1 = some (.inl (ca 5, 64, .inr (.inr (.inr (.inr (fun _ => none)))))) := by rw [ew15]; exact hv_up_k h13 (hv_ne h13 h12 (show (104 : Nat) ≠ 1 by decide))
  have h17 : w15 q9 = some (.inl (ca 6, 96, .inr (.inr (.inr (.inr (fun _ => none)))))) := by rw [ew15]; exact hv_up_k h14 (hv_ne h14 h12 (show (104 : Nat) ≠ 1 by decide))
  have h18 : w15 g = some (.inr (1, [.ref q1, .ref q9])) := by rw [ew15]; exact hv_up_s
  exact hv_vret hQ hx hb hr hZ hS hP hlocks d_Gr_init_22 (⟨rfl, q1, q9, hq2, g_up_none (by rw [← ew3]; exact g_up_none (by rw [← ew6]; exact hq10)), hv_ne_f hq10 h7, h18, h16, h17, fun b hb1 hb2 hb3 => by rw [ew15, hv_up_n hb1, ew11, hv_up_n hb3, ew6, hv_up_n hb1, ew3, hv_up_n hb2]⟩)

abbrev rm_Gr_putNodeS : Room := { frames := 0, cells := 0, slots := 0, locals := 0 }
set_option maxHeartbeats 4000000 in
set_option maxRecDepth 100000 in
theorem c_Gr_putNodeS {l : Launch} {s0 : State} {D : va_G} {ca : Nat → ClassId} (C : hv_C l s0 D (hv_tys ca)) {w : hv_W} {g na la i v9 : Nat} {fN : Nat → Option Nat} {fs : List Value} (hv : w v9 = some (.inr (5, fs))) (hi : i < 64) (h0 : w g = some (.inr (1, [.ref na, .ref la]))) (hN : w na = some (.inl (ca 5, 64, .inr (.inr (.inr (.inr fN))))))  :
    hv_Met l y_Gr_putNode [.code y_Gr_putNode b_Gr_putNode 3 none] rm_Gr_putNodeS (hv_Pc s0 D w [.ref g, .int (nI i), .ref v9]) (hv_Q s0 D (fun v w' => v = none ∧ hv_U na (.inl (ca 5, 64, .inr (.inr (.inr (.inr (va_up fN i (some v9))))))) w w') (fun _ _ => False)) 0 0 (hv_A s0.heap.size) := by
  refine hv_enter C _ (by decide) (Nat.le_of_ble_eq_true rfl) ?_
  intro p e s m below meth c ls Q hQ hx hb hr hml hown hts hK hZ hlocks hname hout htr hP hl
  have hown : s.vm.findClass R_Gr = some m.cls := hown
  have hS : va_S (hv_A s0.heap.size) s.heap s.heap [] := va_S.rf
  have hl : lv_has ls 3 [(0, .ref g), (1, .int (nI i)), (2, .ref v9)] := hl
  refine lv_iload_n hx hb d_Gr_putNode_0 rfl (lv_at hl 1 rfl) ?_
  refine gk_if_lt (x := i) (tgt := 20) hx hb d_Gr_putNode_1 (by decide) (by omega) ?_
  refine lv_iload_n hx hb d_Gr_putNode_4 rfl (lv_at hl 1 rfl) ?_
  refine lv_aload_n hx hb d_Gr_putNode_5 rfl (lv_at hl 0 rfl) ?_
  refine va_get (D := D) (ci := 1) (v := .ref na) (C := R_Gr) (T := F_Gr) (N := 2) hx hb hts i_Gr hown hK (hv_one hP h0) 0 rfl rfl 0 (by decide) (hts _ k_Gr_11) (fun _ h9 => h9) rfl d_Gr_putNode_6 ?_
  refine va_alen (v := nI 64) hx hb hK (hv_one hP hN) 0 5 rfl rfl rfl d_Gr_putNode_9 ?_
  refine gk_icmp_ge (x := i) (y := 64) (tgt := 20) hx hb d_Gr_putNode_10 (by decide) (by omega) (by omega) (fun c10 => ?_) (fun c10 => ?_)
  · exact absurd c10 (by omega)
  · refine lv_aload_n hx hb d_Gr_putNode_13 rfl (lv_at hl 0 rfl) ?_
    refine va_get (D := D) (ci := 1) (v := .ref na) (C := R_Gr) (T := F_Gr) (N := 2) hx hb hts i_Gr hown hK (hv_one hP h0) 0 rfl rfl 0 (by decide) (hts _ k_Gr_11) (fun _ h9 => h9) rfl d_Gr_putNode_14 ?_
    refine lv_iload_n hx hb d_Gr_putNode_17 rfl (lv_at hl 1 rfl) ?_
    refine lv_aload_n hx hb d_Gr_putNode_18 rfl (lv_at hl 2 rfl) ?_
    refine hv_astq hx hb hK hP hS 5 5 hN rfl hv rfl (vp_in_nI (n := i) (by omega) (by omega)) d_Gr_putNode_19 (fun H locs hP hS => ?_)
    rw [nI_clamp (n := i) (by omega)] at hP
    obtain ⟨w1, ew1⟩ : ∃ z9 : hv_W, z9 = va_up w na (some (.inl (ca 5, 64, .inr (.inr (.inr (.inr (va_up fN i (some v9)))))))) := ⟨_, rfl⟩
    have hP : hv_P D classes s0.heap.size w1 H := by rw [ew1]; exact hP
    have h2 : w1 g = some (.inr (1, [.ref na, .ref la])) := by rw [ew1]; exact hv_up_k h0 (hv_ne h0 hN (show (1 : Nat) ≠ 104 by decide))
    have h3 : w1 v9 = some (.inr (5, fs)) := by rw [ew1]; exact hv_up_k hv (hv_ne hv hN (show (5 : Nat) ≠ 104 by decide))
    have h4 : w1 na = some (.inl (ca 5, 64, .inr (.inr (.inr (.inr (va_up fN i (some v9))))))) := by rw [ew1]; exact hv_up_s
    exact hv_vret hQ hx hb hr hZ hS hP hlocks d_Gr_putNode_20 (⟨rfl, h4, fun b hb => by rw [ew1, hv_up_n hb]⟩)

abbrev rm_Gr_putNodeN : Room := { frames := 0, cells := 0, slots := 0, locals := 0 }
set_option maxHeartbeats 4000000 in
set_option maxRecDepth 100000 in
theorem c_Gr_putNodeN {l : Launch} {s0 : State} {D : va_G} {ca : Nat → ClassId} (C : hv_C l s0 D (hv_tys ca)) {w : hv_W} {g na la i : Nat} {fN : Nat → Option Nat} (hi : i < 64) (h0 : w g = some (.inr (1, [.ref na, .ref la]))) (hN : w na = some (.inl (ca 5, 64, .inr (.inr (.inr (.inr fN))))))  :
    hv_Met l y_Gr_putNode [.code y_Gr_putNode b_Gr_putNode 3 none] rm_Gr_putNodeN (hv_Pc s0 D w [.ref g, .int (nI i), .null]) (hv_Q s0 D (fun v w' => v = none ∧ hv_U na (.inl (ca 5, 64, .inr (.inr (.inr (.inr (va_up fN i none)))))) w w') (fun _ _ => False)) 0 0 (hv_A s0.heap.size) := by
  refine hv_enter C _ (by decide) (Nat.le_of_ble_eq_true rfl) ?_
  intro p e s m below meth c ls Q hQ hx hb hr hml hown hts hK hZ hlocks hname hout htr hP hl
  have hown : s.vm.findClass R_Gr = some m.cls := hown
  have hS : va_S (hv_A s0.heap.size) s.heap s.heap [] := va_S.rf
  have hl : lv_has ls 3 [(0, .ref g), (1, .int (nI i)), (2, .null)] := hl
  refine lv_iload_n hx hb d_Gr_putNode_0 rfl (lv_at hl 1 rfl) ?_
  refine gk_if_lt (x := i) (tgt := 20) hx hb d_Gr_putNode_1 (by decide) (by omega) ?_
  refine lv_iload_n hx hb d_Gr_putNode_4 rfl (lv_at hl 1 rfl) ?_
  refine lv_aload_n hx hb d_Gr_putNode_5 rfl (lv_at hl 0 rfl) ?_
  refine va_get (D := D) (ci := 1) (v := .ref na) (C := R_Gr) (T := F_Gr) (N := 2) hx hb hts i_Gr hown hK (hv_one hP h0) 0 rfl rfl 0 (by decide) (hts _ k_Gr_11) (fun _ h9 => h9) rfl d_Gr_putNode_6 ?_
  refine va_alen (v := nI 64) hx hb hK (hv_one hP hN) 0 5 rfl rfl rfl d_Gr_putNode_9 ?_
  refine gk_icmp_ge (x := i) (y := 64) (tgt := 20) hx hb d_Gr_putNode_10 (by decide) (by omega) (by omega) (fun c10 => ?_) (fun c10 => ?_)
  · exact absurd c10 (by omega)
  · refine lv_aload_n hx hb d_Gr_putNode_13 rfl (lv_at hl 0 rfl) ?_
    refine va_get (D := D) (ci := 1) (v := .ref na) (C := R_Gr) (T := F_Gr) (N := 2) hx hb hts i_Gr hown hK (hv_one hP h0) 0 rfl rfl 0 (by decide) (hts _ k_Gr_11) (fun _ h9 => h9) rfl d_Gr_putNode_14 ?_
    refine lv_iload_n hx hb d_Gr_putNode_17 rfl (lv_at hl 1 rfl) ?_
    refine lv_aload_nN hx hb d_Gr_putNode_18 rfl (lv_at hl 2 rfl) ?_
    refine hv_astqN hx hb hK hP hS 5 hN rfl (vp_in_nI (n := i) (by omega) (by omega)) d_Gr_putNode_19 (fun H locs hP hS => ?_)
    rw [nI_clamp (n := i) (by omega)] at hP
    obtain ⟨w1, ew1⟩ : ∃ z9 : hv_W, z9 = va_up w na (some (.inl (ca 5, 64, .inr (.inr (.inr (.inr (va_up fN i none))))))) := ⟨_, rfl⟩
    have hP : hv_P D classes s0.heap.size w1 H := by rw [ew1]; exact hP
    have h2 : w1 g = some (.inr (1, [.ref na, .ref la])) := by rw [ew1]; exact hv_up_k h0 (hv_ne h0 hN (show (1 : Nat) ≠ 104 by decide))
    have h3 : w1 na = some (.inl (ca 5, 64, .inr (.inr (.inr (.inr (va_up fN i none)))))) := by rw [ew1]; exact hv_up_s
    exact hv_vret hQ hx hb hr hZ hS hP hlocks d_Gr_putNode_20 (⟨rfl, h3, fun b hb => by rw [ew1, hv_up_n hb]⟩)

abbrev rm_Gr_putLinkS : Room := { frames := 0, cells := 0, slots := 0, locals := 0 }
set_option maxHeartbeats 4000000 in
set_option maxRecDepth 100000 in
theorem c_Gr_putLinkS {l : Launch} {s0 : State} {D : va_G} {ca : Nat → ClassId} (C : hv_C l s0 D (hv_tys ca)) {w : hv_W} {g na la i v9 : Nat} {fL : Nat → Option Nat} {fs : List Value} (hv : w v9 = some (.inr (6, fs))) (hi : i < 96) (h0 : w g = some (.inr (1, [.ref na, .ref la]))) (hL : w la = some (.inl (ca 6, 96, .inr (.inr (.inr (.inr fL))))))  :
    hv_Met l y_Gr_putLink [.code y_Gr_putLink b_Gr_putLink 3 none] rm_Gr_putLinkS (hv_Pc s0 D w [.ref g, .int (nI i), .ref v9]) (hv_Q s0 D (fun v w' => v = none ∧ hv_U la (.inl (ca 6, 96, .inr (.inr (.inr (.inr (va_up fL i (some v9))))))) w w') (fun _ _ => False)) 0 0 (hv_A s0.heap.size) := by
  refine hv_enter C _ (by decide) (Nat.le_of_ble_eq_true rfl) ?_
  intro p e s m below meth c ls Q hQ hx hb hr hml hown hts hK hZ hlocks hname hout htr hP hl
  have hown : s.vm.findClass R_Gr = some m.cls := hown
  have hS : va_S (hv_A s0.heap.size) s.heap s.heap [] := va_S.rf
  have hl : lv_has ls 3 [(0, .ref g), (1, .int (nI i)), (2, .ref v9)] := hl
  refine lv_iload_n hx hb d_Gr_putLink_0 rfl (lv_at hl 1 rfl) ?_
  refine gk_if_lt (x := i) (tgt := 20) hx hb d_Gr_putLink_1 (by decide) (by omega) ?_
  refine lv_iload_n hx hb d_Gr_putLink_4 rfl (lv_at hl 1 rfl) ?_
  refine lv_aload_n hx hb d_Gr_putLink_5 rfl (lv_at hl 0 rfl) ?_
  refine va_get (D := D) (ci := 1) (v := .ref la) (C := R_Gr) (T := F_Gr) (N := 2) hx hb hts i_Gr hown hK (hv_one hP h0) 0 rfl rfl 1 (by decide) (hts _ k_Gr_19) (fun _ h9 => h9) rfl d_Gr_putLink_6 ?_
  refine va_alen (v := nI 96) hx hb hK (hv_one hP hL) 0 6 rfl rfl rfl d_Gr_putLink_9 ?_
  refine gk_icmp_ge (x := i) (y := 96) (tgt := 20) hx hb d_Gr_putLink_10 (by decide) (by omega) (by omega) (fun c10 => ?_) (fun c10 => ?_)
  · exact absurd c10 (by omega)
  · refine lv_aload_n hx hb d_Gr_putLink_13 rfl (lv_at hl 0 rfl) ?_
    refine va_get (D := D) (ci := 1) (v := .ref la) (C := R_Gr) (T := F_Gr) (N := 2) hx hb hts i_Gr hown hK (hv_one hP h0) 0 rfl rfl 1 (by decide) (hts _ k_Gr_19) (fun _ h9 => h9) rfl d_Gr_putLink_14 ?_
    refine lv_iload_n hx hb d_Gr_putLink_17 rfl (lv_at hl 1 rfl) ?_
    refine lv_aload_n hx hb d_Gr_putLink_18 rfl (lv_at hl 2 rfl) ?_
    refine hv_astq hx hb hK hP hS 6 6 hL rfl hv rfl (vp_in_nI (n := i) (by omega) (by omega)) d_Gr_putLink_19 (fun H locs hP hS => ?_)
    rw [nI_clamp (n := i) (by omega)] at hP
    obtain ⟨w1, ew1⟩ : ∃ z9 : hv_W, z9 = va_up w la (some (.inl (ca 6, 96, .inr (.inr (.inr (.inr (va_up fL i (some v9)))))))) := ⟨_, rfl⟩
    have hP : hv_P D classes s0.heap.size w1 H := by rw [ew1]; exact hP
    have h2 : w1 g = some (.inr (1, [.ref na, .ref la])) := by rw [ew1]; exact hv_up_k h0 (hv_ne h0 hL (show (1 : Nat) ≠ 104 by decide))
    have h3 : w1 v9 = some (.inr (6, fs)) := by rw [ew1]; exact hv_up_k hv (hv_ne hv hL (show (6 : Nat) ≠ 104 by decide))
    have h4 : w1 la = some (.inl (ca 6, 96, .inr (.inr (.inr (.inr (va_up fL i (some v9))))))) := by rw [ew1]; exact hv_up_s
    exact hv_vret hQ hx hb hr hZ hS hP hlocks d_Gr_putLink_20 (⟨rfl, h4, fun b hb => by rw [ew1, hv_up_n hb]⟩)

abbrev rm_Gr_putLinkN : Room := { frames := 0, cells := 0, slots := 0, locals := 0 }
set_option maxHeartbeats 4000000 in
set_option maxRecDepth 100000 in
theorem c_Gr_putLinkN {l : Launch} {s0 : State} {D : va_G} {ca : Nat → ClassId} (C : hv_C l s0 D (hv_tys ca)) {w : hv_W} {g na la i : Nat} {fL : Nat → Option Nat} (hi : i < 96) (h0 : w g = some (.inr (1, [.ref na, .ref la]))) (hL : w la = some (.inl (ca 6, 96, .inr (.inr (.inr (.inr fL))))))  :
    hv_Met l y_Gr_putLink [.code y_Gr_putLink b_Gr_putLink 3 none] rm_Gr_putLinkN (hv_Pc s0 D w [.ref g, .int (nI i), .null]) (hv_Q s0 D (fun v w' => v = none ∧ hv_U la (.inl (ca 6, 96, .inr (.inr (.inr (.inr (va_up fL i none)))))) w w') (fun _ _ => False)) 0 0 (hv_A s0.heap.size) := by
  refine hv_enter C _ (by decide) (Nat.le_of_ble_eq_true rfl) ?_
  intro p e s m below meth c ls Q hQ hx hb hr hml hown hts hK hZ hlocks hname hout htr hP hl
  have hown : s.vm.findClass R_Gr = some m.cls := hown
  have hS : va_S (hv_A s0.heap.size) s.heap s.heap [] := va_S.rf
  have hl : lv_has ls 3 [(0, .ref g), (1, .int (nI i)), (2, .null)] := hl
  refine lv_iload_n hx hb d_Gr_putLink_0 rfl (lv_at hl 1 rfl) ?_
  refine gk_if_lt (x := i) (tgt := 20) hx hb d_Gr_putLink_1 (by decide) (by omega) ?_
  refine lv_iload_n hx hb d_Gr_putLink_4 rfl (lv_at hl 1 rfl) ?_
  refine lv_aload_n hx hb d_Gr_putLink_5 rfl (lv_at hl 0 rfl) ?_
  refine va_get (D := D) (ci := 1) (v := .ref la) (C := R_Gr) (T := F_Gr) (N := 2) hx hb hts i_Gr hown hK (hv_one hP h0) 0 rfl rfl 1 (by decide) (hts _ k_Gr_19) (fun _ h9 => h9) rfl d_Gr_putLink_6 ?_
  refine va_alen (v := nI 96) hx hb hK (hv_one hP hL) 0 6 rfl rfl rfl d_Gr_putLink_9 ?_
  refine gk_icmp_ge (x := i) (y := 96) (tgt := 20) hx hb d_Gr_putLink_10 (by decide) (by omega) (by omega) (fun c10 => ?_) (fun c10 => ?_)
  · exact absurd c10 (by omega)
  · refine lv_aload_n hx hb d_Gr_putLink_13 rfl (lv_at hl 0 rfl) ?_
    refine va_get (D := D) (ci := 1) (v := .ref la) (C := R_Gr) (T := F_Gr) (N := 2) hx hb hts i_Gr hown hK (hv_one hP h0) 0 rfl rfl 1 (by decide) (hts _ k_Gr_19) (fun _ h9 => h9) rfl d_Gr_putLink_14 ?_
    refine lv_iload_n hx hb d_Gr_putLink_17 rfl (lv_at hl 1 rfl) ?_
    refine lv_aload_nN hx hb d_Gr_putLink_18 rfl (lv_at hl 2 rfl) ?_
    refine hv_astqN hx hb hK hP hS 6 hL rfl (vp_in_nI (n := i) (by omega) (by omega)) d_Gr_putLink_19 (fun H locs hP hS => ?_)
    rw [nI_clamp (n := i) (by omega)] at hP
    obtain ⟨w1, ew1⟩ : ∃ z9 : hv_W, z9 = va_up w la (some (.inl (ca 6, 96, .inr (.inr (.inr (.inr (va_up fL i none))))))) := ⟨_, rfl⟩
    have hP : hv_P D classes s0.heap.size w1 H := by rw [ew1]; exact hP
    have h2 : w1 g = some (.inr (1, [.ref na, .ref la])) := by rw [ew1]; exact hv_up_k h0 (hv_ne h0 hL (show (1 : Nat) ≠ 104 by decide))
    have h3 : w1 la = some (.inl (ca 6, 96, .inr (.inr (.inr (.inr (va_up fL i none)))))) := by rw [ew1]; exact hv_up_s
    exact hv_vret hQ hx hb hr hZ hS hP hlocks d_Gr_putLink_20 (⟨rfl, h3, fun b hb => by rw [ew1, hv_up_n hb]⟩)

abbrev rm_Gr_putAgainN : Room := { frames := 3, cells := 1, slots := 4, locals := 55 }
set_option maxHeartbeats 4000000 in
set_option maxRecDepth 100000 in
theorem c_Gr_putAgainN {l : Launch} {s0 : State} {D : va_G} {ca : Nat → ClassId} (C : hv_C l s0 D (hv_tys ca)) {w : hv_W} (N : hv_N s0) {g na la a pa pb i : Nat} {lb : Nat} {fN : Nat → Option Nat} (hi : i < 64) (ha : w a = some (.inr (5, [.ref pa, .ref lb]))) (h0 : w g = some (.inr (1, [.ref na, .ref la]))) (hN : w na = some (.inl (ca 5, 64, .inr (.inr (.inr (.inr fN))))))  :
    hv_Met l y_Gr_putAgain [.code y_Gr_putAgain b_Gr_putAgain 6 none] rm_Gr_putAgainN (hv_Pc s0 D w [.ref g, .ref a, .int (nI i), .ref pb]) (hv_Q s0 D (fun v w' => v = none ∧ ∃ q, w q = none ∧ w' q = some (.inr (5, [.ref pb, .ref lb])) ∧ w' na = some (.inl (ca 5, 64, .inr (.inr (.inr (.inr (va_up fN i (some q))))))) ∧ ∀ b, b ≠ na → b ≠ q → w' b = w b) (fun _ _ => False)) 1 4 (hv_A s0.heap.size) := by
  refine hv_enter C _ (by decide) (Nat.le_of_ble_eq_true rfl) ?_
  intro p e s m below meth c ls Q hQ hx hb hr hml hown hts hK hZ hlocks hname hout htr hP hl
  have hown : s.vm.findClass R_Gr = some m.cls := hown
  have hS : va_S (hv_A s0.heap.size) s.heap s.heap [] := va_S.rf
  have hl : lv_has ls 6 [(0, .ref g), (1, .ref a), (2, .int (nI i)), (3, .ref pb)] := hl
  refine lv_aload_n hx hb d_Gr_putAgain_0 rfl (lv_at hl 1 rfl) ?_
  refine va_instY hx hb hown (hts _ k_Gr_9) (hv_cast C hZ kcast_Nd_Nd) (va_recv hK (hv_one hP ha) (ci := 5) (q0 := 0) rfl rfl) d_Gr_putAgain_1 ?_
  refine lv_if_eq (tgt := 34) hx hb d_Gr_putAgain_4 (by decide) (fun c4 => ?_) (fun c4 => ?_)
  · exact absurd c4 (by decide)
  · refine lv_aload_n hx hb d_Gr_putAgain_7 rfl (lv_at hl 1 rfl) ?_
    refine va_castY hx hb hown (hts _ k_Gr_9) (hv_cast C hZ kcast_Nd_Nd) (va_recv hK (hv_one hP ha) (ci := 5) (q0 := 0) rfl rfl) d_Gr_putAgain_8 ?_
    refine lv_astore (lv' := [(4, .ref a), (0, .ref g), (1, .ref a), (2, .int (nI i)), (3, .ref pb)]) hx hb d_Gr_putAgain_11 hl (by decide) rfl (fun ls hl => ?_)
    refine lv_aload_n hx hb d_Gr_putAgain_13 rfl (lv_at hl 1 rfl) ?_
    refine lv_iload_n hx hb d_Gr_putAgain_14 rfl (lv_at hl 3 rfl) ?_
    refine hv_new (ci := 5) (fs := [.null, .null]) (C := R_Nd) (T := F_Nd) (N := 2) hx hb hts i_Nd t_Nd t_Nd_ok hown (hts _ k_Gr_9) (hts _ kin_Nd) (hts _ kn_Nd) hK hP hS hZ.2.1 rfl z_Nd (Nat.le_of_ble_eq_true rfl) (Nat.le_of_ble_eq_true rfl) d_Gr_putAgain_15 (fun q1 H hq2 hP hS => ?_)
    obtain ⟨w3, ew3⟩ : ∃ z9 : hv_W, z9 = va_up w q1 (some (.inr (5, [.null, .null]))) := ⟨_, rfl⟩
    have hP : hv_P D classes s0.heap.size w3 H := by rw [ew3]; exact hP
    have h4 : w3 g = some (.inr (1, [.ref na, .ref la])) := by rw [ew3]; exact hv_up_f hq2 h0
    have h5 : w3 na = some (.inl (ca 5, 64, .inr (.inr (.inr (.inr fN))))) := by rw [ew3]; exact hv_up_f hq2 hN
    have h6 : w3 a = some (.inr (5, [.ref pa, .ref lb])) := by rw [ew3]; exact hv_up_f hq2 ha
    have h7 : w3 q1 = some (.inr (5, [.null, .null])) := by rw [ew3]; exact hv_up_s
    refine W.widen (k := 1) (n := 2) (by omega) (by omega) ?_
    show W _ _ _ _ _ _ _ _ _ _ _ _ _ _ _ (F0 m 18 ls [.ref q1, .int (nI i), .ref g])
    have hng : g ≠ q1 := hv_ne_f hq2 h0
    have hna : na ≠ q1 := hv_ne_f hq2 hN
    refine lv_dup hx hb d_Gr_putAgain_18 rfl ?_
    refine lv_aload hx hb d_Gr_putAgain_19 (lv_at hl 0 rfl) ?_
    refine va_get (D := D) (ci := 5) (v := .ref lb) (C := R_Nd) (T := F_Nd) (N := 2) hx hb hts i_Nd hown hK (hv_one hP h6) 0 rfl rfl 1 (by decide) (hts _ k_Gr_31) (fun _ h9 => h9) rfl d_Gr_putAgain_21 ?_
    refine lv_aload_n hx hb d_Gr_putAgain_24 rfl (lv_at hl 4 rfl) ?_
    refine hv_call (hv_runI (As := [.ref lb, .ref pb]) (rest := [.ref q1, .int (nI i), .ref g]) (c_Nd_init C h7) (hv_cw C hZ kc_Nd_init kn_Nd ⟨rfl, rfl, Nat.le_of_ble_eq_true rfl, Nat.le_of_ble_eq_true rfl⟩) hv_blind (hv_pre hZ hS hP) hx hml hb hown (hts _ k_Gr_35) (hts _ ki_Nd_init) rfl hy_Nd_init (hts _ kc_Nd_init) rfl hl.1 rfl (lv_room (Nat.le_of_ble_eq_true rfl)) d_Gr_putAgain_25 ⟨Nat.le_of_ble_eq_true rfl, Nat.le_of_ble_eq_true rfl⟩) hZ hS (fun v9 w8 H locs q9 hP hS => ?_) (fun x9 w8 H locs q9 hP hS => q9.elim)
    obtain ⟨hv9, q9u⟩ := q9
    subst hv9
    show W _ _ _ _ _ _ _ _ _ _ _ _ _ _ _ (F0 m 28 ls [.ref q1, .int (nI i), .ref g])
    refine hv_call (hv_runV (As := [.int (nI i), .ref q1]) (rest := []) (c_Gr_putNodeS C q9u.1 hi (q9u.k h4 hng) (q9u.k h5 hna)) (hv_cw C hZ kc_Gr_putNode kn_Gr ⟨rfl, rfl, Nat.le_of_ble_eq_true rfl, Nat.le_of_ble_eq_true rfl⟩) hv_blind (hv_pre hZ hS hP) hx hml hb hown (hts _ k_Gr_38) (hts _ ki_Gr_putNode) (hts _ ksel_Gr_Gr_putNode) hy_Gr_putNode (hts _ kc_Gr_putNode) (va_recv hK (hv_one hP (q9u.k h4 hng)) (ci := 1) (q0 := 0) rfl rfl) rfl hl.1 rfl (lv_room (Nat.le_of_ble_eq_true rfl)) d_Gr_putAgain_28 ⟨Nat.le_of_ble_eq_true rfl, Nat.le_of_ble_eq_true rfl⟩) hZ hS (fun v9 w10 H locs q11 hP hS => ?_) (fun x9 w10 H locs q11 hP hS => q11.elim)
    obtain ⟨hv9, q11u⟩ := q11
    subst hv9
    show W _ _ _ _ _ _ _ _ _ _ _ _ _ _ _ (F0 m 31 ls [])
    refine lv_goto (tgt := 75) hx hb d_Gr_putAgain_31 (by decide) ?_
    refine W.widen (k := 1) (n := 4) (by omega) (by omega) ?_
    exact hv_vret hQ hx hb hr hZ hS hP hlocks d_Gr_putAgain_75 (⟨rfl, q1, hq2, q11u.k q9u.1 (Ne.symm hna), q11u.1, fun b hb1 hb2 => by rw [q11u.2 b hb1, q9u.2 b hb2, ew3, hv_up_n hb2]⟩)

abbrev rm_Gr_putAgainL : Room := { frames := 3, cells := 1, slots := 4, locals := 57 }
set_option maxHeartbeats 4000000 in
set_option maxRecDepth 100000 in
theorem c_Gr_putAgainL {l : Launch} {s0 : State} {D : va_G} {ca : Nat → ClassId} (C : hv_C l s0 D (hv_tys ca)) {w : hv_W} (N : hv_N s0) {g na la a pa pb i : Nat} {sa ea ty : Int32} {fL : Nat → Option Nat} (hi : i < 96) (ha : w a = some (.inr (6, [.ref pa, .int sa, .int ea, .int ty]))) (h0 : w g = some (.inr (1, [.ref na, .ref la]))) (hL : w la = some (.inl (ca 6, 96, .inr (.inr (.inr (.inr fL))))))  :
    hv_Met l y_Gr_putAgain [.code y_Gr_putAgain b_Gr_putAgain 6 none] rm_Gr_putAgainL (hv_Pc s0 D w [.ref g, .ref a, .int (nI i), .ref pb]) (hv_Q s0 D (fun v w' => v = none ∧ ∃ q, w q = none ∧ w' q = some (.inr (6, [.ref pb, .int sa, .int ea, .int ty])) ∧ w' la = some (.inl (ca 6, 96, .inr (.inr (.inr (.inr (va_up fL i (some q))))))) ∧ ∀ b, b ≠ la → b ≠ q → w' b = w b) (fun _ _ => False)) 1 4 (hv_A s0.heap.size) := by
  refine hv_enter C _ (by decide) (Nat.le_of_ble_eq_true rfl) ?_
  intro p e s m below meth c ls Q hQ hx hb hr hml hown hts hK hZ hlocks hname hout htr hP hl
  have hown : s.vm.findClass R_Gr = some m.cls := hown
  have hS : va_S (hv_A s0.heap.size) s.heap s.heap [] := va_S.rf
  have hl : lv_has ls 6 [(0, .ref g), (1, .ref a), (2, .int (nI i)), (3, .ref pb)] := hl
  refine lv_aload_n hx hb d_Gr_putAgain_0 rfl (lv_at hl 1 rfl) ?_
  refine va_instNo hx hb hown (hts _ k_Gr_9) (va_Nc.moved hZ.1.alike N.1) (va_recv hK (hv_one hP ha) (ci := 6) (q0 := 0) rfl rfl) d_Gr_putAgain_1 ?_
  refine lv_if_eq (tgt := 34) hx hb d_Gr_putAgain_4 (by decide) (fun c4 => ?_) (fun c4 => ?_)
  · refine lv_aload_n hx hb d_Gr_putAgain_34 rfl (lv_at hl 1 rfl) ?_
    refine va_instY hx hb hown (hts _ k_Gr_17) (hv_cast C hZ kcast_Lk_Lk) (va_recv hK (hv_one hP ha) (ci := 6) (q0 := 0) rfl rfl) d_Gr_putAgain_35 ?_
    refine lv_if_eq (tgt := 75) hx hb d_Gr_putAgain_38 (by decide) (fun c38 => ?_) (fun c38 => ?_)
    · exact absurd c38 (by decide)
    · refine lv_aload_n hx hb d_Gr_putAgain_41 rfl (lv_at hl 1 rfl) ?_
      refine va_castY hx hb hown (hts _ k_Gr_17) (hv_cast C hZ kcast_Lk_Lk) (va_recv hK (hv_one hP ha) (ci := 6) (q0 := 0) rfl rfl) d_Gr_putAgain_42 ?_
      refine lv_astore (lv' := [(5, .ref a), (0, .ref g), (1, .ref a), (2, .int (nI i)), (3, .ref pb)]) hx hb d_Gr_putAgain_45 hl (by decide) rfl (fun ls hl => ?_)
      refine lv_aload_n hx hb d_Gr_putAgain_47 rfl (lv_at hl 1 rfl) ?_
      refine lv_iload_n hx hb d_Gr_putAgain_48 rfl (lv_at hl 3 rfl) ?_
      refine hv_new (ci := 6) (fs := [.null, .int 0, .int 0, .int 0]) (C := R_Lk) (T := F_Lk) (N := 4) hx hb hts i_Lk t_Lk t_Lk_ok hown (hts _ k_Gr_17) (hts _ kin_Lk) (hts _ kn_Lk) hK hP hS hZ.2.1 rfl z_Lk (Nat.le_of_ble_eq_true rfl) (Nat.le_of_ble_eq_true rfl) d_Gr_putAgain_49 (fun q1 H hq2 hP hS => ?_)
      obtain ⟨w3, ew3⟩ : ∃ z9 : hv_W, z9 = va_up w q1 (some (.inr (6, [.null, .int 0, .int 0, .int 0]))) := ⟨_, rfl⟩
      have hP : hv_P D classes s0.heap.size w3 H := by rw [ew3]; exact hP
      have h4 : w3 g = some (.inr (1, [.ref na, .ref la])) := by rw [ew3]; exact hv_up_f hq2 h0
      have h5 : w3 la = some (.inl (ca 6, 96, .inr (.inr (.inr (.inr fL))))) := by rw [ew3]; exact hv_up_f hq2 hL
      have h6 : w3 a = some (.inr (6, [.ref pa, .int sa, .int ea, .int ty])) := by rw [ew3]; exact hv_up_f hq2 ha
      have h7 : w3 q1 = some (.inr (6, [.null, .int 0, .int 0, .int 0])) := by rw [ew3]; exact hv_up_s
      refine W.widen (k := 1) (n := 4) (by omega) (by omega) ?_
      show W _ _ _ _ _ _ _ _ _ _ _ _ _ _ _ (F0 m 52 ls [.ref q1, .int (nI i), .ref g])
      have hng : g ≠ q1 := hv_ne_f hq2 h0
      have hna : la ≠ q1 := hv_ne_f hq2 hL
      refine lv_dup hx hb d_Gr_putAgain_52 rfl ?_
      refine lv_aload hx hb d_Gr_putAgain_53 (lv_at hl 0 rfl) ?_
      refine va_get (D := D) (ci := 6) (v := .int sa) (C := R_Lk) (T := F_Lk) (N := 4) hx hb hts i_Lk hown hK (hv_one hP h6) 0 rfl rfl 1 (by decide) (hts _ k_Gr_42) (fun _ h9 => h9) rfl d_Gr_putAgain_55 ?_
      refine lv_aload hx hb d_Gr_putAgain_58 (lv_at hl 0 rfl) ?_
      refine va_get (D := D) (ci := 6) (v := .int ea) (C := R_Lk) (T := F_Lk) (N := 4) hx hb hts i_Lk hown hK (hv_one hP h6) 0 rfl rfl 2 (by decide) (hts _ k_Gr_46) (fun _ h9 => h9) rfl d_Gr_putAgain_60 ?_
      refine lv_aload hx hb d_Gr_putAgain_63 (lv_at hl 0 rfl) ?_
      refine va_get (D := D) (ci := 6) (v := .int ty) (C := R_Lk) (T := F_Lk) (N := 4) hx hb hts i_Lk hown hK (hv_one hP h6) 0 rfl rfl 3 (by decide) (hts _ k_Gr_49) (fun _ h9 => h9) rfl d_Gr_putAgain_65 ?_
      refine lv_aload_n hx hb d_Gr_putAgain_68 rfl (lv_at hl 4 rfl) ?_
      refine hv_call (hv_runI (As := [.int sa, .int ea, .int ty, .ref pb]) (rest := [.ref q1, .int (nI i), .ref g]) (c_Lk_init C sa ea ty h7) (hv_cw C hZ kc_Lk_init kn_Lk ⟨rfl, rfl, Nat.le_of_ble_eq_true rfl, Nat.le_of_ble_eq_true rfl⟩) hv_blind (hv_pre hZ hS hP) hx hml hb hown (hts _ k_Gr_52) (hts _ ki_Lk_init) rfl hy_Lk_init (hts _ kc_Lk_init) rfl hl.1 rfl (lv_room (Nat.le_of_ble_eq_true rfl)) d_Gr_putAgain_69 ⟨Nat.le_of_ble_eq_true rfl, Nat.le_of_ble_eq_true rfl⟩) hZ hS (fun v9 w8 H locs q9 hP hS => ?_) (fun x9 w8 H locs q9 hP hS => q9.elim)
      obtain ⟨hv9, q9u⟩ := q9
      subst hv9
      show W _ _ _ _ _ _ _ _ _ _ _ _ _ _ _ (F0 m 72 ls [.ref q1, .int (nI i), .ref g])
      refine hv_call (hv_runV (As := [.int (nI i), .ref q1]) (rest := []) (c_Gr_putLinkS C q9u.1 hi (q9u.k h4 hng) (q9u.k h5 hna)) (hv_cw C hZ kc_Gr_putLink kn_Gr ⟨rfl, rfl, Nat.le_of_ble_eq_true rfl, Nat.le_of_ble_eq_true rfl⟩) hv_blind (hv_pre hZ hS hP) hx hml hb hown (hts _ k_Gr_55) (hts _ ki_Gr_putLink) (hts _ ksel_Gr_Gr_putLink) hy_Gr_putLink (hts _ kc_Gr_putLink) (va_recv hK (hv_one hP (q9u.k h4 hng)) (ci := 1) (q0 := 0) rfl rfl) rfl hl.1 rfl (lv_room (Nat.le_of_ble_eq_true rfl)) d_Gr_putAgain_72 ⟨Nat.le_of_ble_eq_true rfl, Nat.le_of_ble_eq_true rfl⟩) hZ hS (fun v9 w10 H locs q11 hP hS => ?_) (fun x9 w10 H locs q11 hP hS => q11.elim)
      obtain ⟨hv9, q11u⟩ := q11
      subst hv9
      show W _ _ _ _ _ _ _ _ _ _ _ _ _ _ _ (F0 m 75 ls [])
      exact hv_vret hQ hx hb hr hZ hS hP hlocks d_Gr_putAgain_75 (⟨rfl, q1, hq2, q11u.k q9u.1 (Ne.symm hna), q11u.1, fun b hb1 hb2 => by rw [q11u.2 b hb1, q9u.2 b hb2, ew3, hv_up_n hb2]⟩)
  · exact absurd c4 (by decide)

abbrev rm_Gr_copyFrom : Room := { frames := 1, cells := 0, slots := 0, locals := 21 }
set_option maxHeartbeats 4000000 in
set_option maxRecDepth 100000 in
theorem c_Gr_copyFrom {l : Launch} {s0 : State} {D : va_G} {ca : Nat → ClassId} (C : hv_C l s0 D (hv_tys ca)) {w : hv_W} {g na la o ona ola : Nat} {fN fL oN oL : Nat → Option Nat} (h0 : w g = some (.inr (1, [.ref na, .ref la]))) (hN : w na = some (.inl (ca 5, 64, .inr (.inr (.inr (.inr fN)))))) (hL : w la = some (.inl (ca 6, 96, .inr (.inr (.inr (.inr fL)))))) (k0 : w o = some (.inr (1, [.ref ona, .ref ola]))) (kN : w ona = some (.inl (ca 5, 64, .inr (.inr (.inr (.inr (oN))))))) (kL : w ola = some (.inl (ca 6, 96, .inr (.inr (.inr (.inr (oL))))))) (hne1 : ona ≠ na) (hne2 : ola ≠ la) (hne3 : la ≠ na) (hne4 : ola ≠ na) (hne5 : ona ≠ la) (kkN : gk_kd w 5 64 oN) (kkL : gk_kd w 6 96 oL)  :
    hv_Met l y_Gr_copyFrom [.code y_Gr_copyFrom b_Gr_copyFrom 3 none] rm_Gr_copyFrom (hv_Pc s0 D w [.ref g, .ref o]) (hv_Q s0 D (fun v w' => v = none ∧ ∃ fN' fL', w' na = some (.inl (ca 5, 64, .inr (.inr (.inr (.inr (fN')))))) ∧ w' la = some (.inl (ca 6, 96, .inr (.inr (.inr (.inr (fL')))))) ∧ (∀ i, i < 64 → fN' i = oN i) ∧ (∀ i, i < 96 → fL' i = oL i) ∧ ∀ b, b ≠ na → b ≠ la → w' b = w b) (fun _ _ => False)) 0 0 (hv_A s0.heap.size) := by
  refine hv_enter C _ (by decide) (Nat.le_of_ble_eq_true rfl) ?_
  intro p e s m below meth c ls Q hQ hx hb hr hml hown hts hK hZ hlocks hname hout htr hP hl
  have hown : s.vm.findClass R_Gr = some m.cls := hown
  have hS : va_S (hv_A s0.heap.size) s.heap s.heap [] := va_S.rf
  have hl : lv_has ls 3 [(0, .ref g), (1, .ref o)] := hl
  refine lv_iconst (v := 0) hx hb d_Gr_copyFrom_0 (by decide) ?_
  refine lv_istore_n (lv' := [(2, .int 0), (0, .ref g), (1, .ref o)]) hx hb d_Gr_copyFrom_1 rfl hl (by decide) rfl (fun ls hl => ?_)
  have lp : ∀ (n9 : Nat) (i : Nat) (r : Nat → Option Nat) (z : hv_W), 64 - i < n9 → (i ≤ 64) → (z na = some (.inl (ca 5, 64, .inr (.inr (.inr (.inr (r))))))) → (∀ j, j < i → r j = oN j) → (∀ b, b ≠ na → z b = w b) → ∀ (H : Heap) (locs : List Loc) (ls : Array Slot), hv_P D classes s0.heap.size z H → va_S (hv_A s0.heap.size) s.heap H locs → lv_has ls 3 [(0, .ref g), (1, .ref o), (2, .int (nI i))] → W p l e rm_Gr_copyFrom s m ([.ref g, .ref o] : List Value).toArray below meth c H locs 0 0 Q (F0 m 2 ls []) := by
    intro n9
    induction n9 with
    | zero =>
      intro i r z hn9
      exact absurd hn9 (Nat.not_lt_zero _)
    | succ n9 ih =>
      intro i r z hn9 hi hr9 hj hz H locs ls hP hS hl
      refine lv_iload_n hx hb d_Gr_copyFrom_2 rfl (lv_at hl 2 rfl) ?_
      refine lv_aload_n hx hb d_Gr_copyFrom_3 rfl (lv_at hl 0 rfl) ?_
      refine va_get (D := D) (ci := 1) (v := .ref na) (C := R_Gr) (T := F_Gr) (N := 2) hx hb hts i_Gr hown hK (hv_one hP ((hz g (hv_ne h0 hN (show (1 : Nat) ≠ 104 by decide))).trans h0)) 0 rfl rfl 0 (by decide) (hts _ k_Gr_11) (fun _ h9 => h9) rfl d_Gr_copyFrom_4 ?_
      refine va_alen (v := nI 64) hx hb hK (hv_one hP hr9) 0 5 rfl rfl rfl d_Gr_copyFrom_7 ?_
      refine gk_icmp_ge (x := i) (y := 64) (tgt := 28) hx hb d_Gr_copyFrom_8 (by decide) (by omega) (by omega) (fun c8 => ?_) (fun c8 => ?_)
      · refine lv_iconst (v := 0) hx hb d_Gr_copyFrom_28 (by decide) ?_
        refine lv_istore_n (lv' := [(2, .int 0), (0, .ref g), (1, .ref o)]) hx hb d_Gr_copyFrom_29 rfl hl (by decide) rfl (fun ls hl => ?_)
        have hi64 : i = 64 := Nat.le_antisymm hi c8
        have lp2 : ∀ (n9 : Nat) (i2 : Nat) (r2 : Nat → Option Nat) (z2 : hv_W), 96 - i2 < n9 → (i2 ≤ 96) → (z2 la = some (.inl (ca 6, 96, .inr (.inr (.inr (.inr (r2))))))) → (∀ j, j < i2 → r2 j = oL j) → (∀ b, b ≠ la → z2 b = z b) → ∀ (H : Heap) (locs : List Loc) (ls : Array Slot), hv_P D classes s0.heap.size z2 H → va_S (hv_A s0.heap.size) s.heap H locs → lv_has ls 3 [(0, .ref g), (1, .ref o), (2, .int (nI i2))] → W p l e rm_Gr_copyFrom s m ([.ref g, .ref o] : List Value).toArray below meth c H locs 0 0 Q (F0 m 30 ls []) := by
          intro n9
          induction n9 with
          | zero =>
            intro i2 r2 z2 hn9
            exact absurd hn9 (Nat.not_lt_zero _)
          | succ n9 ih =>
            intro i2 r2 z2 hn9 hi2 hr92 hj2 hz2 H locs ls hP hS hl
            refine lv_iload_n hx hb d_Gr_copyFrom_30 rfl (lv_at hl 2 rfl) ?_
            refine lv_aload_n hx hb d_Gr_copyFrom_31 rfl (lv_at hl 0 rfl) ?_
            refine va_get (D := D) (ci := 1) (v := .ref la) (C := R_Gr) (T := F_Gr) (N := 2) hx hb hts i_Gr hown hK (hv_one hP ((hz2 g (hv_ne ((hz g (hv_ne h0 hN (show (1 : Nat) ≠ 104 by decide))).trans h0) ((hz la hne3).trans hL) (show (1 : Nat) ≠ 104 by decide))).trans ((hz g (hv_ne h0 hN (show (1 : Nat) ≠ 104 by decide))).trans h0))) 0 rfl rfl 1 (by decide) (hts _ k_Gr_19) (fun _ h9 => h9) rfl d_Gr_copyFrom_32 ?_
            refine va_alen (v := nI 96) hx hb hK (hv_one hP hr92) 0 6 rfl rfl rfl d_Gr_copyFrom_35 ?_
            refine gk_icmp_ge (x := i2) (y := 96) (tgt := 56) hx hb d_Gr_copyFrom_36 (by decide) (by omega) (by omega) (fun c36 => ?_) (fun c36 => ?_)
            · exact hv_vret hQ hx hb hr hZ hS hP hlocks d_Gr_copyFrom_56 (⟨rfl, r, r2, (hz2 na hne3.symm).trans hr9, hr92, fun j hj9 => hj j (by omega), fun j hj9 => hj2 j (by omega), fun b hb1 hb2 => (hz2 b hb2).trans (hz b hb1)⟩)
            · refine lv_aload_n hx hb d_Gr_copyFrom_39 rfl (lv_at hl 0 rfl) ?_
              refine va_get (D := D) (ci := 1) (v := .ref la) (C := R_Gr) (T := F_Gr) (N := 2) hx hb hts i_Gr hown hK (hv_one hP ((hz2 g (hv_ne ((hz g (hv_ne h0 hN (show (1 : Nat) ≠ 104 by decide))).trans h0) ((hz la hne3).trans hL) (show (1 : Nat) ≠ 104 by decide))).trans ((hz g (hv_ne h0 hN (show (1 : Nat) ≠ 104 by decide))).trans h0))) 0 rfl rfl 1 (by decide) (hts _ k_Gr_19) (fun _ h9 => h9) rfl d_Gr_copyFrom_40 ?_
              refine lv_iload_n hx hb d_Gr_copyFrom_43 rfl (lv_at hl 2 rfl) ?_
              refine lv_aload_n hx hb d_Gr_copyFrom_44 rfl (lv_at hl 1 rfl) ?_
              refine lv_iload_n hx hb d_Gr_copyFrom_45 rfl (lv_at hl 2 rfl) ?_
              refine hv_call (hv_runV (As := [.int (nI i2)]) (rest := [.int (nI i2), .ref la]) (c_Gr_linkAt C (nI i2) ((hz2 o (hv_ne ((hz o (hv_ne k0 hN (show (1 : Nat) ≠ 104 by decide))).trans k0) ((hz la hne3).trans hL) (show (1 : Nat) ≠ 104 by decide))).trans ((hz o (hv_ne k0 hN (show (1 : Nat) ≠ 104 by decide))).trans k0)) ((hz2 ola hne2).trans ((hz ola hne4).trans kL))) (hv_cw C hZ kc_Gr_linkAt kn_Gr ⟨rfl, rfl, Nat.le_of_ble_eq_true rfl, Nat.le_of_ble_eq_true rfl⟩) hv_blind (hv_pre hZ hS hP) hx hml hb hown (hts _ k_Gr_27) (hts _ ki_Gr_linkAt) (hts _ ksel_Gr_Gr_linkAt) hy_Gr_linkAt (hts _ kc_Gr_linkAt) (va_recv hK (hv_one hP ((hz2 o (hv_ne ((hz o (hv_ne k0 hN (show (1 : Nat) ≠ 104 by decide))).trans k0) ((hz la hne3).trans hL) (show (1 : Nat) ≠ 104 by decide))).trans ((hz o (hv_ne k0 hN (show (1 : Nat) ≠ 104 by decide))).trans k0))) (ci := 1) (q0 := 0) rfl rfl) rfl hl.1 rfl (lv_room (Nat.le_of_ble_eq_true rfl)) d_Gr_copyFrom_46 ⟨Nat.le_of_ble_eq_true rfl, Nat.le_of_ble_eq_true rfl⟩) hZ hS (fun v9 w1 H locs q2 hP hS => ?_) (fun x9 w1 H locs q2 hP hS => q2.elim)
              obtain ⟨hv9, hw9⟩ := q2
              subst hv9
              rw [hw9] at hP
              rw [gk_sel_nI (f := oL) (N := 96) (i := i2) (by omega) (by decide)]
              cases h9o : oL i2 with
              | none =>
                show W _ _ _ _ _ _ _ _ _ _ _ _ _ _ _ (F0 m 49 ls [.null, .int (nI i2), .ref la])
                refine hv_astqN hx hb hK hP hS 6 hr92 rfl (vp_in_nI (n := i2) (by omega) (by omega)) d_Gr_copyFrom_49 (fun H locs hP hS => ?_)
                rw [nI_clamp (n := i2) (by omega)] at hP
                obtain ⟨w3, ew3⟩ : ∃ z9 : hv_W, z9 = va_up z2 la (some (.inl (ca 6, 96, .inr (.inr (.inr (.inr (va_up r2 i2 none))))))) := ⟨_, rfl⟩
                have hP : hv_P D classes s0.heap.size w3 H := by rw [ew3]; exact hP
                have h4 : w3 g = some (.inr (1, [.ref na, .ref la])) := by rw [ew3]; exact hv_up_k ((hz2 g (hv_ne ((hz g (hv_ne h0 hN (show (1 : Nat) ≠ 104 by decide))).trans h0) ((hz la hne3).trans hL) (show (1 : Nat) ≠ 104 by decide))).trans ((hz g (hv_ne h0 hN (show (1 : Nat) ≠ 104 by decide))).trans h0)) (hv_ne ((hz2 g (hv_ne ((hz g (hv_ne h0 hN (show (1 : Nat) ≠ 104 by decide))).trans h0) ((hz la hne3).trans hL) (show (1 : Nat) ≠ 104 by decide))).trans ((hz g (hv_ne h0 hN (show (1 : Nat) ≠ 104 by decide))).trans h0)) hr92 (show (1 : Nat) ≠ 104 by decide))
                have h5 : w3 o = some (.inr (1, [.ref ona, .ref ola])) := by rw [ew3]; exact hv_up_k ((hz2 o (hv_ne ((hz o (hv_ne k0 hN (show (1 : Nat) ≠ 104 by decide))).trans k0) ((hz la hne3).trans hL) (show (1 : Nat) ≠ 104 by decide))).trans ((hz o (hv_ne k0 hN (show (1 : Nat) ≠ 104 by decide))).trans k0)) (hv_ne ((hz2 o (hv_ne ((hz o (hv_ne k0 hN (show (1 : Nat) ≠ 104 by decide))).trans k0) ((hz la hne3).trans hL) (show (1 : Nat) ≠ 104 by decide))).trans ((hz o (hv_ne k0 hN (show (1 : Nat) ≠ 104 by decide))).trans k0)) hr92 (show (1 : Nat) ≠ 104 by decide))
                have h6 : w3 ona = some (.inl (ca 5, 64, .inr (.inr (.inr (.inr oN))))) := by rw [ew3]; exact hv_up_k ((hz2 ona hne5).trans ((hz ona hne1).trans kN)) hne5
                have h7 : w3 ola = some (.inl (ca 6, 96, .inr (.inr (.inr (.inr oL))))) := by rw [ew3]; exact hv_up_k ((hz2 ola hne2).trans ((hz ola hne4).trans kL)) hne2
                have h8 : w3 na = some (.inl (ca 5, 64, .inr (.inr (.inr (.inr r))))) := by rw [ew3]; exact hv_up_k ((hz2 na (Ne.symm hne3)).trans hr9) (Ne.symm hne3)
                have h9 : w3 la = some (.inl (ca 6, 96, .inr (.inr (.inr (.inr (va_up r2 i2 none)))))) := by rw [ew3]; exact hv_up_s
                refine lv_iinc (v := (nI (i2 + 1))) (lv' := [(2, .int ((nI (i2 + 1)))), (0, .ref g), (1, .ref o)]) hx hb d_Gr_copyFrom_50 hl (k := 2) rfl (nI_add i2 1) (by decide) rfl (fun ls hl => ?_)
                refine lv_goto (tgt := 30) hx hb d_Gr_copyFrom_53 (by decide) ?_
                exact ih (i2 + 1) (va_up r2 i2 none) w3 (by omega) (by omega) h9 (gk_fill (f := oL) hj2 (h9o.symm)) (fun b hb => by rw [ew3, hv_up_n hb]; exact hz2 b hb) _ _ _ hP hS (lv_sub hl [1, 2, 0] rfl)
              | some q9 =>
                show W _ _ _ _ _ _ _ _ _ _ _ _ _ _ _ (F0 m 49 ls [.ref q9, .int (nI i2), .ref la])
                obtain ⟨fs9, hq9⟩ := kkL i2 (by omega) _ h9o
                refine hv_astq hx hb hK hP hS 6 6 hr92 rfl ((hz2 q9 (hv_ne hq9 hL (show (6 : Nat) ≠ 104 by decide))).trans ((hz q9 (hv_ne hq9 hN (show (6 : Nat) ≠ 104 by decide))).trans hq9)) rfl (vp_in_nI (n := i2) (by omega) (by omega)) d_Gr_copyFrom_49 (fun H locs hP hS => ?_)
                rw [nI_clamp (n := i2) (by omega)] at hP
                obtain ⟨w10, ew10⟩ : ∃ z9 : hv_W, z9 = va_up z2 la (some (.inl (ca 6, 96, .inr (.inr (.inr (.inr (va_up r2 i2 (some q9)))))))) := ⟨_, rfl⟩
                have hP : hv_P D classes s0.heap.size w10 H := by rw [ew10]; exact hP
                have h11 : w10 g = some (.inr (1, [.ref na, .ref la])) := by rw [ew10]; exact hv_up_k ((hz2 g (hv_ne ((hz g (hv_ne h0 hN (show (1 : Nat) ≠ 104 by decide))).trans h0) ((hz la hne3).trans hL) (show (1 : Nat) ≠ 104 by decide))).trans ((hz g (hv_ne h0 hN (show (1 : Nat) ≠ 104 by decide))).trans h0)) (hv_ne ((hz2 g (hv_ne ((hz g (hv_ne h0 hN (show (1 : Nat) ≠ 104 by decide))).trans h0) ((hz la hne3).trans hL) (show (1 : Nat) ≠ 104 by decide))).trans ((hz g (hv_ne h0 hN (show (1 : Nat) ≠ 104 by decide))).trans h0)) hr92 (show (1 : Nat) ≠ 104 by decide))
                have h12 : w10 o = some (.inr (1, [.ref ona, .ref ola])) := by rw [ew10]; exact hv_up_k ((hz2 o (hv_ne ((hz o (hv_ne k0 hN (show (1 : Nat) ≠ 104 by decide))).trans k0) ((hz la hne3).trans hL) (show (1 : Nat) ≠ 104 by decide))).trans ((hz o (hv_ne k0 hN (show (1 : Nat) ≠ 104 by decide))).trans k0)) (hv_ne ((hz2 o (hv_ne ((hz o (hv_ne k0 hN (show (1 : Nat) ≠ 104 by decide))).trans k0) ((hz la hne3).trans hL) (show (1 : Nat) ≠ 104 by decide))).trans ((hz o (hv_ne k0 hN (show (1 : Nat) ≠ 104 by decide))).trans k0)) hr92 (show (1 : Nat) ≠ 104 by decide))
                have h13 : w10 ona = some (.inl (ca 5, 64, .inr (.inr (.inr (.inr oN))))) := by rw [ew10]; exact hv_up_k ((hz2 ona hne5).trans ((hz ona hne1).trans kN)) hne5
                have h14 : w10 ola = some (.inl (ca 6, 96, .inr (.inr (.inr (.inr oL))))) := by rw [ew10]; exact hv_up_k ((hz2 ola hne2).trans ((hz ola hne4).trans kL)) hne2
                have h15 : w10 na = some (.inl (ca 5, 64, .inr (.inr (.inr (.inr r))))) := by rw [ew10]; exact hv_up_k ((hz2 na (Ne.symm hne3)).trans hr9) (Ne.symm hne3)
                have h16 : w10 q9 = some (.inr (6, fs9)) := by rw [ew10]; exact hv_up_k ((hz2 q9 (hv_ne hq9 hL (show (6 : Nat) ≠ 104 by decide))).trans ((hz q9 (hv_ne hq9 hN (show (6 : Nat) ≠ 104 by decide))).trans hq9)) (hv_ne ((hz2 q9 (hv_ne hq9 hL (show (6 : Nat) ≠ 104 by decide))).trans ((hz q9 (hv_ne hq9 hN (show (6 : Nat) ≠ 104 by decide))).trans hq9)) hr92 (show (6 : Nat) ≠ 104 by decide))
                have h17 : w10 la = some (.inl (ca 6, 96, .inr (.inr (.inr (.inr (va_up r2 i2 (some q9))))))) := by rw [ew10]; exact hv_up_s
                refine lv_iinc (v := (nI (i2 + 1))) (lv' := [(2, .int ((nI (i2 + 1)))), (0, .ref g), (1, .ref o)]) hx hb d_Gr_copyFrom_50 hl (k := 2) rfl (nI_add i2 1) (by decide) rfl (fun ls hl => ?_)
                refine lv_goto (tgt := 30) hx hb d_Gr_copyFrom_53 (by decide) ?_
                exact ih (i2 + 1) (va_up r2 i2 (some q9)) w10 (by omega) (by omega) h17 (gk_fill (f := oL) hj2 (h9o.symm)) (fun b hb => by rw [ew10, hv_up_n hb]; exact hz2 b hb) _ _ _ hP hS (lv_sub hl [1, 2, 0] rfl)
        exact lp2 _ 0 fL z (Nat.lt_succ_self _) (Nat.zero_le _) ((hz la hne3).trans hL) (fun j q => absurd q (Nat.not_lt_zero _)) (fun _ _ => rfl) _ _ _ hP hS (lv_sub hl [1, 2, 0] rfl)
      · refine lv_aload_n hx hb d_Gr_copyFrom_11 rfl (lv_at hl 0 rfl) ?_
        refine va_get (D := D) (ci := 1) (v := .ref na) (C := R_Gr) (T := F_Gr) (N := 2) hx hb hts i_Gr hown hK (hv_one hP ((hz g (hv_ne h0 hN (show (1 : Nat) ≠ 104 by decide))).trans h0)) 0 rfl rfl 0 (by decide) (hts _ k_Gr_11) (fun _ h9 => h9) rfl d_Gr_copyFrom_12 ?_
        refine lv_iload_n hx hb d_Gr_copyFrom_15 rfl (lv_at hl 2 rfl) ?_
        refine lv_aload_n hx hb d_Gr_copyFrom_16 rfl (lv_at hl 1 rfl) ?_
        refine lv_iload_n hx hb d_Gr_copyFrom_17 rfl (lv_at hl 2 rfl) ?_
        refine hv_call (hv_runV (As := [.int (nI i)]) (rest := [.int (nI i), .ref na]) (c_Gr_nodeAt C (nI i) ((hz o (hv_ne k0 hN (show (1 : Nat) ≠ 104 by decide))).trans k0) ((hz ona hne1).trans kN)) (hv_cw C hZ kc_Gr_nodeAt kn_Gr ⟨rfl, rfl, Nat.le_of_ble_eq_true rfl, Nat.le_of_ble_eq_true rfl⟩) hv_blind (hv_pre hZ hS hP) hx hml hb hown (hts _ k_Gr_23) (hts _ ki_Gr_nodeAt) (hts _ ksel_Gr_Gr_nodeAt) hy_Gr_nodeAt (hts _ kc_Gr_nodeAt) (va_recv hK (hv_one hP ((hz o (hv_ne k0 hN (show (1 : Nat) ≠ 104 by decide))).trans k0)) (ci := 1) (q0 := 0) rfl rfl) rfl hl.1 rfl (lv_room (Nat.le_of_ble_eq_true rfl)) d_Gr_copyFrom_18 ⟨Nat.le_of_ble_eq_true rfl, Nat.le_of_ble_eq_true rfl⟩) hZ hS (fun v9 w18 H locs q19 hP hS => ?_) (fun x9 w18 H locs q19 hP hS => q19.elim)
        obtain ⟨hv9, hw9⟩ := q19
        subst hv9
        rw [hw9] at hP
        rw [gk_sel_nI (f := oN) (N := 64) (i := i) (by omega) (by decide)]
        cases h9o : oN i with
        | none =>
          show W _ _ _ _ _ _ _ _ _ _ _ _ _ _ _ (F0 m 21 ls [.null, .int (nI i), .ref na])
          refine hv_astqN hx hb hK hP hS 5 hr9 rfl (vp_in_nI (n := i) (by omega) (by omega)) d_Gr_copyFrom_21 (fun H locs hP hS => ?_)
          rw [nI_clamp (n := i) (by omega)] at hP
          obtain ⟨w20, ew20⟩ : ∃ z9 : hv_W, z9 = va_up z na (some (.inl (ca 5, 64, .inr (.inr (.inr (.inr (va_up r i none))))))) := ⟨_, rfl⟩
          have hP : hv_P D classes s0.heap.size w20 H := by rw [ew20]; exact hP
          have h21 : w20 g = some (.inr (1, [.ref na, .ref la])) := by rw [ew20]; exact hv_up_k ((hz g (hv_ne h0 hN (show (1 : Nat) ≠ 104 by decide))).trans h0) (hv_ne ((hz g (hv_ne h0 hN (show (1 : Nat) ≠ 104 by decide))).trans h0) hr9 (show (1 : Nat) ≠ 104 by decide))
          have h22 : w20 la = some (.inl (ca 6, 96, .inr (.inr (.inr (.inr fL))))) := by rw [ew20]; exact hv_up_k ((hz la hne3).trans hL) hne3
          have h23 : w20 o = some (.inr (1, [.ref ona, .ref ola])) := by rw [ew20]; exact hv_up_k ((hz o (hv_ne k0 hN (show (1 : Nat) ≠ 104 by decide))).trans k0) (hv_ne ((hz o (hv_ne k0 hN (show (1 : Nat) ≠ 104 by decide))).trans k0) hr9 (show (1 : Nat) ≠ 104 by decide))
          have h24 : w20 ona = some (.inl (ca 5, 64, .inr (.inr (.inr (.inr oN))))) := by rw [ew20]; exact hv_up_k ((hz ona hne1).trans kN) hne1
          have h25 : w20 ola = some (.inl (ca 6, 96, .inr (.inr (.inr (.inr oL))))) := by rw [ew20]; exact hv_up_k ((hz ola hne4).trans kL) hne4
          have h26 : w20 na = some (.inl (ca 5, 64, .inr (.inr (.inr (.inr (va_up r i none)))))) := by rw [ew20]; exact hv_up_s
          refine lv_iinc (v := (nI (i + 1))) (lv' := [(2, .int ((nI (i + 1)))), (0, .ref g), (1, .ref o)]) hx hb d_Gr_copyFrom_22 hl (k := 2) rfl (nI_add i 1) (by decide) rfl (fun ls hl => ?_)
          refine lv_goto (tgt := 2) hx hb d_Gr_copyFrom_25 (by decide) ?_
          exact ih (i + 1) (va_up r i none) w20 (by omega) (by omega) h26 (gk_fill (f := oN) hj (h9o.symm)) (fun b hb => by rw [ew20, hv_up_n hb]; exact hz b hb) _ _ _ hP hS (lv_sub hl [1, 2, 0] rfl)
        | some q9 =>
          show W _ _ _ _ _ _ _ _ _ _ _ _ _ _ _ (F0 m 21 ls [.ref q9, .int (nI i), .ref na])
          obtain ⟨fs9, hq9⟩ := kkN i (by omega) _ h9o
          refine hv_astq hx hb hK hP hS 5 5 hr9 rfl ((hz q9 (hv_ne hq9 hN (show (5 : Nat) ≠ 104 by decide))).trans hq9) rfl (vp_in_nI (n := i) (by omega) (by omega)) d_Gr_copyFrom_21 (fun H locs hP hS => ?_)
          rw [nI_clamp (n := i) (by omega)] at hP
          obtain ⟨w27, ew27⟩ : ∃ z9 : hv_W, z9 = va_up z na (some (.inl (ca 5, 64, .inr (.inr (.inr (.inr (va_up r i (some q9)))))))) := ⟨_, rfl⟩
          have hP : hv_P D classes s0.heap.size w27 H := by rw [ew27]; exact hP
          have h28 : w27 g = some (.inr (1, [.ref na, .ref la])) := by rw [ew27]; exact hv_up_k ((hz g (hv_ne h0 hN (show (1 : Nat) ≠ 104 by decide))).trans h0) (hv_ne ((hz g (hv_ne h0 hN (show (1 : Nat) ≠ 104 by decide))).trans h0) hr9 (show (1 : Nat) ≠ 104 by decide))
          have h29 : w27 la = some (.inl (ca 6, 96, .inr (.inr (.inr (.inr fL))))) := by rw [ew27]; exact hv_up_k ((hz la hne3).trans hL) hne3
          have h30 : w27 o = some (.inr (1, [.ref ona, .ref ola])) := by rw [ew27]; exact hv_up_k ((hz o (hv_ne k0 hN (show (1 : Nat) ≠ 104 by decide))).trans k0) (hv_ne ((hz o (hv_ne k0 hN (show (1 : Nat) ≠ 104 by decide))).trans k0) hr9 (show (1 : Nat) ≠ 104 by decide))
          have h31 : w27 ona = some (.inl (ca 5, 64, .inr (.inr (.inr (.inr oN))))) := by rw [ew27]; exact hv_up_k ((hz ona hne1).trans kN) hne1
          have h32 : w27 ola = some (.inl (ca 6, 96, .inr (.inr (.inr (.inr oL))))) := by rw [ew27]; exact hv_up_k ((hz ola hne4).trans kL) hne4
          have h33 : w27 q9 = some (.inr (5, fs9)) := by rw [ew27]; exact hv_up_k ((hz q9 (hv_ne hq9 hN (show (5 : Nat) ≠ 104 by decide))).trans hq9) (hv_ne ((hz q9 (hv_ne hq9 hN (show (5 : Nat) ≠ 104 by decide))).trans hq9) hr9 (show (5 : Nat) ≠ 104 by decide))
          have h34 : w27 na = some (.inl (ca 5, 64, .inr (.inr (.inr (.inr (va_up r i (some q9))))))) := by rw [ew27]; exact hv_up_s
          refine lv_iinc (v := (nI (i + 1))) (lv' := [(2, .int ((nI (i + 1)))), (0, .ref g), (1, .ref o)]) hx hb d_Gr_copyFrom_22 hl (k := 2) rfl (nI_add i 1) (by decide) rfl (fun ls hl => ?_)
          refine lv_goto (tgt := 2) hx hb d_Gr_copyFrom_25 (by decide) ?_
          exact ih (i + 1) (va_up r i (some q9)) w27 (by omega) (by omega) h34 (gk_fill (f := oN) hj (h9o.symm)) (fun b hb => by rw [ew27, hv_up_n hb]; exact hz b hb) _ _ _ hP hS (lv_sub hl [1, 2, 0] rfl)
  exact lp _ 0 fN w (Nat.lt_succ_self _) (Nat.zero_le _) hN (fun j q => absurd q (Nat.not_lt_zero _)) (fun _ _ => rfl) _ _ _ hP hS (lv_sub hl [1, 2, 0] rfl)

abbrev rm_Gr_clear : Room := { frames := 0, cells := 0, slots := 0, locals := 0 }
set_option maxHeartbeats 4000000 in
set_option maxRecDepth 100000 in
theorem c_Gr_clear {l : Launch} {s0 : State} {D : va_G} {ca : Nat → ClassId} (C : hv_C l s0 D (hv_tys ca)) {w : hv_W} {g na la : Nat} {fN fL : Nat → Option Nat} (h0 : w g = some (.inr (1, [.ref na, .ref la]))) (hN : w na = some (.inl (ca 5, 64, .inr (.inr (.inr (.inr fN)))))) (hL : w la = some (.inl (ca 6, 96, .inr (.inr (.inr (.inr fL))))))  :
    hv_Met l y_Gr_clear [.code y_Gr_clear b_Gr_clear 2 none] rm_Gr_clear (hv_Pc s0 D w [.ref g]) (hv_Q s0 D (fun v w' => v = none ∧ ∃ fN' fL', w' na = some (.inl (ca 5, 64, .inr (.inr (.inr (.inr (fN')))))) ∧ w' la = some (.inl (ca 6, 96, .inr (.inr (.inr (.inr (fL')))))) ∧ (∀ i, i < 64 → fN' i = none) ∧ (∀ i, i < 96 → fL' i = none) ∧ ∀ b, b ≠ na → b ≠ la → w' b = w b) (fun _ _ => False)) 0 0 (hv_A s0.heap.size) := by
  refine hv_enter C _ (by decide) (Nat.le_of_ble_eq_true rfl) ?_
  intro p e s m below meth c ls Q hQ hx hb hr hml hown hts hK hZ hlocks hname hout htr hP hl
  have hown : s.vm.findClass R_Gr = some m.cls := hown
  have hS : va_S (hv_A s0.heap.size) s.heap s.heap [] := va_S.rf
  have hl : lv_has ls 2 [(0, .ref g)] := hl
  have hne3 : la ≠ na := fun q => by rw [q, hN] at hL; have h9 := congrArg (fun e : Option va_E => match e with | some (.inl a) => a.2.1 | _ => 0) hL; exact absurd h9 (show ¬ (64 : Nat) = 96 by decide)
  refine lv_iconst (v := 0) hx hb d_Gr_clear_0 (by decide) ?_
  refine lv_istore_n (lv' := [(1, .int 0), (0, .ref g)]) hx hb d_Gr_clear_1 rfl hl (by decide) rfl (fun ls hl => ?_)
  have lp : ∀ (n9 : Nat) (i : Nat) (r : Nat → Option Nat) (z : hv_W), 64 - i < n9 → (i ≤ 64) → (z na = some (.inl (ca 5, 64, .inr (.inr (.inr (.inr (r))))))) → (∀ j, j < i → r j = none) → (∀ b, b ≠ na → z b = w b) → ∀ (H : Heap) (locs : List Loc) (ls : Array Slot), hv_P D classes s0.heap.size z H → va_S (hv_A s0.heap.size) s.heap H locs → lv_has ls 2 [(0, .ref g), (1, .int (nI i))] → W p l e rm_Gr_clear s m ([.ref g] : List Value).toArray below meth c H locs 0 0 Q (F0 m 2 ls []) := by
    intro n9
    induction n9 with
    | zero =>
      intro i r z hn9
      exact absurd hn9 (Nat.not_lt_zero _)
    | succ n9 ih =>
      intro i r z hn9 hi hr9 hj hz H locs ls hP hS hl
      refine lv_iload_n hx hb d_Gr_clear_2 rfl (lv_at hl 1 rfl) ?_
      refine lv_aload_n hx hb d_Gr_clear_3 rfl (lv_at hl 0 rfl) ?_
      refine va_get (D := D) (ci := 1) (v := .ref na) (C := R_Gr) (T := F_Gr) (N := 2) hx hb hts i_Gr hown hK (hv_one hP ((hz g (hv_ne h0 hN (show (1 : Nat) ≠ 104 by decide))).trans h0)) 0 rfl rfl 0 (by decide) (hts _ k_Gr_11) (fun _ h9 => h9) rfl d_Gr_clear_4 ?_
      refine va_alen (v := nI 64) hx hb hK (hv_one hP hr9) 0 5 rfl rfl rfl d_Gr_clear_7 ?_
      refine gk_icmp_ge (x := i) (y := 64) (tgt := 24) hx hb d_Gr_clear_8 (by decide) (by omega) (by omega) (fun c8 => ?_) (fun c8 => ?_)
      · refine lv_iconst (v := 0) hx hb d_Gr_clear_24 (by decide) ?_
        refine lv_istore_n (lv' := [(1, .int 0), (0, .ref g)]) hx hb d_Gr_clear_25 rfl hl (by decide) rfl (fun ls hl => ?_)
        have hi64 : i = 64 := Nat.le_antisymm hi c8
        have lp2 : ∀ (n9 : Nat) (i2 : Nat) (r2 : Nat → Option Nat) (z2 : hv_W), 96 - i2 < n9 → (i2 ≤ 96) → (z2 la = some (.inl (ca 6, 96, .inr (.inr (.inr (.inr (r2))))))) → (∀ j, j < i2 → r2 j = none) → (∀ b, b ≠ la → z2 b = z b) → ∀ (H : Heap) (locs : List Loc) (ls : Array Slot), hv_P D classes s0.heap.size z2 H → va_S (hv_A s0.heap.size) s.heap H locs → lv_has ls 2 [(0, .ref g), (1, .int (nI i2))] → W p l e rm_Gr_clear s m ([.ref g] : List Value).toArray below meth c H locs 0 0 Q (F0 m 26 ls []) := by
          intro n9
          induction n9 with
          | zero =>
            intro i2 r2 z2 hn9
            exact absurd hn9 (Nat.not_lt_zero _)
          | succ n9 ih =>
            intro i2 r2 z2 hn9 hi2 hr92 hj2 hz2 H locs ls hP hS hl
            refine lv_iload_n hx hb d_Gr_clear_26 rfl (lv_at hl 1 rfl) ?_
            refine lv_aload_n hx hb d_Gr_clear_27 rfl (lv_at hl 0 rfl) ?_
            refine va_get (D := D) (ci := 1) (v := .ref la) (C := R_Gr) (T := F_Gr) (N := 2) hx hb hts i_Gr hown hK (hv_one hP ((hz2 g (hv_ne ((hz g (hv_ne h0 hN (show (1 : Nat) ≠ 104 by decide))).trans h0) ((hz la hne3).trans hL) (show (1 : Nat) ≠ 104 by decide))).trans ((hz g (hv_ne h0 hN (show (1 : Nat) ≠ 104 by decide))).trans h0))) 0 rfl rfl 1 (by decide) (hts _ k_Gr_19) (fun _ h9 => h9) rfl d_Gr_clear_28 ?_
            refine va_alen (v := nI 96) hx hb hK (hv_one hP hr92) 0 6 rfl rfl rfl d_Gr_clear_31 ?_
            refine gk_icmp_ge (x := i2) (y := 96) (tgt := 48) hx hb d_Gr_clear_32 (by decide) (by omega) (by omega) (fun c32 => ?_) (fun c32 => ?_)
            · exact hv_vret hQ hx hb hr hZ hS hP hlocks d_Gr_clear_48 (⟨rfl, r, r2, (hz2 na hne3.symm).trans hr9, hr92, fun j hj9 => hj j (by omega), fun j hj9 => hj2 j (by omega), fun b hb1 hb2 => (hz2 b hb2).trans (hz b hb1)⟩)
            · refine lv_aload_n hx hb d_Gr_clear_35 rfl (lv_at hl 0 rfl) ?_
              refine va_get (D := D) (ci := 1) (v := .ref la) (C := R_Gr) (T := F_Gr) (N := 2) hx hb hts i_Gr hown hK (hv_one hP ((hz2 g (hv_ne ((hz g (hv_ne h0 hN (show (1 : Nat) ≠ 104 by decide))).trans h0) ((hz la hne3).trans hL) (show (1 : Nat) ≠ 104 by decide))).trans ((hz g (hv_ne h0 hN (show (1 : Nat) ≠ 104 by decide))).trans h0))) 0 rfl rfl 1 (by decide) (hts _ k_Gr_19) (fun _ h9 => h9) rfl d_Gr_clear_36 ?_
              refine lv_iload_n hx hb d_Gr_clear_39 rfl (lv_at hl 1 rfl) ?_
              refine lv_null hx hb d_Gr_clear_40 ?_
              refine hv_astqN hx hb hK hP hS 6 hr92 rfl (vp_in_nI (n := i2) (by omega) (by omega)) d_Gr_clear_41 (fun H locs hP hS => ?_)
              rw [nI_clamp (n := i2) (by omega)] at hP
              obtain ⟨w1, ew1⟩ : ∃ z9 : hv_W, z9 = va_up z2 la (some (.inl (ca 6, 96, .inr (.inr (.inr (.inr (va_up r2 i2 none))))))) := ⟨_, rfl⟩
              have hP : hv_P D classes s0.heap.size w1 H := by rw [ew1]; exact hP
              have h2 : w1 g = some (.inr (1, [.ref na, .ref la])) := by rw [ew1]; exact hv_up_k ((hz2 g (hv_ne ((hz g (hv_ne h0 hN (show (1 : Nat) ≠ 104 by decide))).trans h0) ((hz la hne3).trans hL) (show (1 : Nat) ≠ 104 by decide))).trans ((hz g (hv_ne h0 hN (show (1 : Nat) ≠ 104 by decide))).trans h0)) (hv_ne ((hz2 g (hv_ne ((hz g (hv_ne h0 hN (show (1 : Nat) ≠ 104 by decide))).trans h0) ((hz la hne3).trans hL) (show (1 : Nat) ≠ 104 by decide))).trans ((hz g (hv_ne h0 hN (show (1 : Nat) ≠ 104 by decide))).trans h0)) hr92 (show (1 : Nat) ≠ 104 by decide))
              have h3 : w1 na = some (.inl (ca 5, 64, .inr (.inr (.inr (.inr r))))) := by rw [ew1]; exact hv_up_k ((hz2 na (Ne.symm hne3)).trans hr9) (Ne.symm hne3)
              have h4 : w1 la = some (.inl (ca 6, 96, .inr (.inr (.inr (.inr (va_up r2 i2 none)))))) := by rw [ew1]; exact hv_up_s
              refine lv_iinc (v := (nI (i2 + 1))) (lv' := [(1, .int ((nI (i2 + 1)))), (0, .ref g)]) hx hb d_Gr_clear_42 hl (k := 1) rfl (nI_add i2 1) (by decide) rfl (fun ls hl => ?_)
              refine lv_goto (tgt := 26) hx hb d_Gr_clear_45 (by decide) ?_
              exact ih (i2 + 1) (va_up r2 i2 none) w1 (by omega) (by omega) h4 (gk_fill (f := fun _ => none) hj2 rfl) (fun b hb => by rw [ew1, hv_up_n hb]; exact hz2 b hb) _ _ _ hP hS (lv_sub hl [1, 0] rfl)
        exact lp2 _ 0 fL z (Nat.lt_succ_self _) (Nat.zero_le _) ((hz la hne3).trans hL) (fun j q => absurd q (Nat.not_lt_zero _)) (fun _ _ => rfl) _ _ _ hP hS (lv_sub hl [1, 0] rfl)
      · refine lv_aload_n hx hb d_Gr_clear_11 rfl (lv_at hl 0 rfl) ?_
        refine va_get (D := D) (ci := 1) (v := .ref na) (C := R_Gr) (T := F_Gr) (N := 2) hx hb hts i_Gr hown hK (hv_one hP ((hz g (hv_ne h0 hN (show (1 : Nat) ≠ 104 by decide))).trans h0)) 0 rfl rfl 0 (by decide) (hts _ k_Gr_11) (fun _ h9 => h9) rfl d_Gr_clear_12 ?_
        refine lv_iload_n hx hb d_Gr_clear_15 rfl (lv_at hl 1 rfl) ?_
        refine lv_null hx hb d_Gr_clear_16 ?_
        refine hv_astqN hx hb hK hP hS 5 hr9 rfl (vp_in_nI (n := i) (by omega) (by omega)) d_Gr_clear_17 (fun H locs hP hS => ?_)
        rw [nI_clamp (n := i) (by omega)] at hP
        obtain ⟨w5, ew5⟩ : ∃ z9 : hv_W, z9 = va_up z na (some (.inl (ca 5, 64, .inr (.inr (.inr (.inr (va_up r i none))))))) := ⟨_, rfl⟩
        have hP : hv_P D classes s0.heap.size w5 H := by rw [ew5]; exact hP
        have h6 : w5 g = some (.inr (1, [.ref na, .ref la])) := by rw [ew5]; exact hv_up_k ((hz g (hv_ne h0 hN (show (1 : Nat) ≠ 104 by decide))).trans h0) (hv_ne ((hz g (hv_ne h0 hN (show (1 : Nat) ≠ 104 by decide))).trans h0) hr9 (show (1 : Nat) ≠ 104 by decide))
        have h7 : w5 la = some (.inl (ca 6, 96, .inr (.inr (.inr (.inr fL))))) := by rw [ew5]; exact hv_up_k ((hz la hne3).trans hL) hne3
        have h8 : w5 na = some (.inl (ca 5, 64, .inr (.inr (.inr (.inr (va_up r i none)))))) := by rw [ew5]; exact hv_up_s
        refine lv_iinc (v := (nI (i + 1))) (lv' := [(1, .int ((nI (i + 1)))), (0, .ref g)]) hx hb d_Gr_clear_18 hl (k := 1) rfl (nI_add i 1) (by decide) rfl (fun ls hl => ?_)
        refine lv_goto (tgt := 2) hx hb d_Gr_clear_21 (by decide) ?_
        exact ih (i + 1) (va_up r i none) w5 (by omega) (by omega) h8 (gk_fill (f := fun _ => none) hj rfl) (fun b hb => by rw [ew5, hv_up_n hb]; exact hz b hb) _ _ _ hP hS (lv_sub hl [1, 0] rfl)
  exact lp _ 0 fN w (Nat.lt_succ_self _) (Nat.zero_le _) hN (fun j q => absurd q (Nat.not_lt_zero _)) (fun _ _ => rfl) _ _ _ hP hS (lv_sub hl [1, 0] rfl)

abbrev rm_Lg_init : Room := { frames := 1, cells := 0, slots := 0, locals := 12 }
set_option maxHeartbeats 4000000 in
set_option maxRecDepth 100000 in
theorem c_Lg_init {l : Launch} {s0 : State} {D : va_G} {ca : Nat → ClassId} (C : hv_C l s0 D (hv_tys ca)) {w : hv_W} {g : Nat}  :
    hv_Met l y_Lg_init [.code y_Lg_init b_Lg_init 1 none] rm_Lg_init (hv_Pc s0 D w [.ref g]) (hv_Q s0 D (fun v w' => v = none ∧ w' = w) (fun _ _ => False)) 0 0 (hv_A s0.heap.size) := by
  refine hv_enter C _ (by decide) (Nat.le_of_ble_eq_true rfl) ?_
  intro p e s m below meth c ls Q hQ hx hb hr hml hown hts hK hZ hlocks hname hout htr hP hl
  have hown : s.vm.findClass R_Lg = some m.cls := hown
  have hS : va_S (hv_A s0.heap.size) s.heap s.heap [] := va_S.rf
  have hl : lv_has ls 1 [(0, .ref g)] := hl
  refine lv_aload_n hx hb d_Lg_init_0 rfl (lv_at hl 0 rfl) ?_
  refine W.objInit hx hb hown (hts _ k_Lg_3) (hts _ ki_objInit) (hts _ kc_objInit) rfl (by rw [hml]; exact hl.1) rfl d_Lg_init_1 (Nat.le_of_ble_eq_true rfl) (Nat.le_of_ble_eq_true rfl) ?_
  show W _ _ _ _ _ _ _ _ _ _ _ _ _ _ _ (F0 m 4 ls [])
  exact hv_vret hQ hx hb hr hZ hS hP hlocks d_Lg_init_4 (⟨rfl, rfl⟩)

abbrev rm_Lg_writeTransaction : Room := { frames := 2, cells := 0, slots := 0, locals := 37 }
set_option maxHeartbeats 4000000 in
set_option maxRecDepth 100000 in
theorem c_Lg_writeTransaction {l : Launch} {s0 : State} {D : va_G} {ca : Nat → ClassId} (C : hv_C l s0 D (hv_tys ca)) {w : hv_W} {g : Nat} {wr en lo tr ti : Int32} (n : Int32) (h0 : w g = some (.inr (2, [.int wr, .int en, .int lo, .int tr, .int ti])))  :
    hv_Met l y_Lg_writeTransaction [.code y_Lg_writeTransaction b_Lg_writeTransaction 4 (some .boolean)] rm_Lg_writeTransaction (hv_Pc s0 D w [.ref g, .int n]) (hv_Q s0 D (fun v w' => (v = some (.int 0) ∧ lg_wn ti (lg_wf n) < lg_wf n ∧ hv_U g (.inr (2, [.int (wr + lg_wn ti (lg_wf n)), .int en, .int (lg_wn ti (lg_wf n)), .int tr, .int (lg_wt ti (lg_wf n))])) w w') ∨ (v = some (.int 1) ∧ ¬ lg_wn ti (lg_wf n) < lg_wf n ∧ hv_U g (.inr (2, [.int (wr + lg_wn ti (lg_wf n)), .int (en + lg_wf n), .int lo, .int (tr + 1), .int (lg_wt ti (lg_wf n))])) w w')) (fun _ _ => False)) 0 0 (hv_A s0.heap.size) := by
  refine hv_enter C _ (by decide) (Nat.le_of_ble_eq_true rfl) ?_
  intro p e s m below meth c ls Q hQ hx hb hr hml hown hts hK hZ hlocks hname hout htr hP hl
  have hown : s.vm.findClass R_Lg = some m.cls := hown
  have hS : va_S (hv_A s0.heap.size) s.heap s.heap [] := va_S.rf
  have hl : lv_has ls 4 [(0, .ref g), (1, .int n)] := hl
  refine lv_iload_n hx hb d_Lg_writeTransaction_0 rfl (lv_at hl 1 rfl) ?_
  refine hv_call (hv_runS (As := [.int n]) (rest := []) (c_Lg_writesFor C n) (hv_cw C hZ kc_Lg_writesFor kn_Lg ⟨rfl, rfl, Nat.le_of_ble_eq_true rfl, Nat.le_of_ble_eq_true rfl⟩) hv_blind (hv_pre hZ hS hP) hx hml hb hown (hts _ k_Lg_15) (hts _ ki_Lg_writesFor) (hts _ kn_Lg) hy_Lg_writesFor (hv_sig (hts _ kc_Lg_writesFor)) rfl hl.1 rfl (lv_room (Nat.le_of_ble_eq_true rfl)) d_Lg_writeTransaction_1 ⟨Nat.le_of_ble_eq_true rfl, Nat.le_of_ble_eq_true rfl⟩) hZ hS (fun v9 w1 H locs q2 hP hS => ?_) (fun x9 w1 H locs q2 hP hS => q2.elim)
  obtain ⟨hv9, hw9⟩ := q2
  subst hv9
  rw [hw9] at hP
  show W _ _ _ _ _ _ _ _ _ _ _ _ _ _ _ (F0 m 4 ls [.int (lg_wf n)])
  refine lv_istore_n (lv' := [(2, .int (lg_wf n)), (0, .ref g), (1, .int n)]) hx hb d_Lg_writeTransaction_4 rfl hl (by decide) rfl (fun ls hl => ?_)
  refine lv_aload_n hx hb d_Lg_writeTransaction_5 rfl (lv_at hl 1 rfl) ?_
  refine lv_iload_n hx hb d_Lg_writeTransaction_6 rfl (lv_at hl 0 rfl) ?_
  refine hv_call (hv_runV (As := [.int (lg_wf n)]) (rest := []) (c_Lg_write C (lg_wf n) h0) (hv_cw C hZ kc_Lg_write kn_Lg ⟨rfl, rfl, Nat.le_of_ble_eq_true rfl, Nat.le_of_ble_eq_true rfl⟩) hv_blind (hv_pre hZ hS hP) hx hml hb hown (hts _ k_Lg_22) (hts _ ki_Lg_write) (hts _ ksel_Lg_Lg_write) hy_Lg_write (hts _ kc_Lg_write) (va_recv hK (hv_one hP h0) (ci := 2) (q0 := 0) rfl rfl) rfl hl.1 rfl (lv_room (Nat.le_of_ble_eq_true rfl)) d_Lg_writeTransaction_7 ⟨Nat.le_of_ble_eq_true rfl, Nat.le_of_ble_eq_true rfl⟩) hZ hS (fun v9 w3 H locs q4 hP hS => ?_) (fun x9 w3 H locs q4 hP hS => q4.elim)
  obtain ⟨hv9, q4u⟩ := q4
  subst hv9
  show W _ _ _ _ _ _ _ _ _ _ _ _ _ _ _ (F0 m 10 ls [.int (lg_wn ti (lg_wf n))])
  refine lv_istore_n (lv' := [(3, .int (lg_wn ti (lg_wf n))), (2, .int (lg_wf n)), (0, .ref g), (1, .int n)]) hx hb d_Lg_writeTransaction_10 rfl hl (by decide) rfl (fun ls hl => ?_)
  refine lv_iload_n hx hb d_Lg_writeTransaction_11 rfl (lv_at hl 0 rfl) ?_
  refine lv_iload_n hx hb d_Lg_writeTransaction_12 rfl (lv_at hl 1 rfl) ?_
  refine lv_icmp_ge (tgt := 23) hx hb d_Lg_writeTransaction_13 (by decide) (fun c13 => ?_) (fun c13 => ?_)
  · refine lv_aload_n hx hb d_Lg_writeTransaction_23 rfl (lv_at hl 2 rfl) ?_
    refine lv_dup hx hb d_Lg_writeTransaction_24 rfl ?_
    refine va_get (D := D) (ci := 2) (v := .int en) (C := R_Lg) (T := F_Lg) (N := 5) hx hb hts i_Lg hown hK (hv_one hP q4u.1) 0 rfl rfl 1 (by decide) (hts _ k_Lg_9) (fun _ h9 => h9) rfl d_Lg_writeTransaction_25 ?_
    refine lv_iload_n hx hb d_Lg_writeTransaction_28 rfl (lv_at hl 1 rfl) ?_
    refine lv_iadd hx hb d_Lg_writeTransaction_29 ?_
    refine hv_put (D := D) (ci := 2) (v := .int (en + (lg_wf n))) (ty := .int) (C := R_Lg) (T := F_Lg) (N := 5) hx hb hts i_Lg t_Lg t_Lg_ok n_Lg hown hK hP hS q4u.1 rfl 1 (by decide) (hts _ k_Lg_9) (fun _ h9 => h9) rfl (by decide +kernel) rfl rfl (Nat.le_of_ble_eq_true rfl) d_Lg_writeTransaction_30 (fun H locs hP hS => ?_)
    obtain ⟨w5, ew5⟩ : ∃ z9 : hv_W, z9 = va_up w3 g (some (.inr (2, [.int (wr + lg_wn ti (lg_wf n)), .int (en + (lg_wf n)), .int lo, .int tr, .int (lg_wt ti (lg_wf n))]))) := ⟨_, rfl⟩
    have hP : hv_P D classes s0.heap.size w5 H := by rw [ew5]; exact hP
    have h6 : w5 g = some (.inr (2, [.int (wr + lg_wn ti (lg_wf n)), .int (en + (lg_wf n)), .int lo, .int tr, .int (lg_wt ti (lg_wf n))])) := by rw [ew5]; exact hv_up_s
    refine lv_aload_n hx hb d_Lg_writeTransaction_33 rfl (lv_at hl 2 rfl) ?_
    refine lv_dup hx hb d_Lg_writeTransaction_34 rfl ?_
    refine va_get (D := D) (ci := 2) (v := .int tr) (C := R_Lg) (T := F_Lg) (N := 5) hx hb hts i_Lg hown hK (hv_one hP h6) 0 rfl rfl 3 (by decide) (hts _ k_Lg_28) (fun _ h9 => h9) rfl d_Lg_writeTransaction_35 ?_
    refine lv_iconst (v := 1) hx hb d_Lg_writeTransaction_38 (by decide) ?_
    refine lv_iadd hx hb d_Lg_writeTransaction_39 ?_
    refine hv_put (D := D) (ci := 2) (v := .int (tr + 1)) (ty := .int) (C := R_Lg) (T := F_Lg) (N := 5) hx hb hts i_Lg t_Lg t_Lg_ok n_Lg hown hK hP hS h6 rfl 3 (by decide) (hts _ k_Lg_28) (fun _ h9 => h9) rfl (by decide +kernel) rfl rfl (Nat.le_of_ble_eq_true rfl) d_Lg_writeTransaction_40 (fun H locs hP hS => ?_)
    obtain ⟨w7, ew7⟩ : ∃ z9 : hv_W, z9 = va_up w5 g (some (.inr (2, [.int (wr + lg_wn ti (lg_wf n)), .int (en + (lg_wf n)), .int lo, .int (tr + 1), .int (lg_wt ti (lg_wf n))]))) := ⟨_, rfl⟩
    have hP : hv_P D classes s0.heap.size w7 H := by rw [ew7]; exact hP
    have h8 : w7 g = some (.inr (2, [.int (wr + lg_wn ti (lg_wf n)), .int (en + (lg_wf n)), .int lo, .int (tr + 1), .int (lg_wt ti (lg_wf n))])) := by rw [ew7]; exact hv_up_s
    refine lv_iconst (v := 1) hx hb d_Lg_writeTransaction_43 (by decide) ?_
    exact hv_zret (v := 1) hQ hx hb hr (by decide) hZ hS hP hlocks d_Lg_writeTransaction_44 (Or.inr ⟨rfl, Int32.not_lt.mpr c13, ⟨h8, fun b hb => by rw [ew7, hv_up_n hb, ew5, hv_up_n hb]; exact q4u.2 b hb⟩⟩)
  · refine lv_aload_n hx hb d_Lg_writeTransaction_16 rfl (lv_at hl 2 rfl) ?_
    refine lv_iload_n hx hb d_Lg_writeTransaction_17 rfl (lv_at hl 0 rfl) ?_
    refine hv_put (D := D) (ci := 2) (v := .int (lg_wn ti (lg_wf n))) (ty := .int) (C := R_Lg) (T := F_Lg) (N := 5) hx hb hts i_Lg t_Lg t_Lg_ok n_Lg hown hK hP hS q4u.1 rfl 2 (by decide) (hts _ k_Lg_25) (fun _ h9 => h9) rfl (by decide +kernel) rfl rfl (Nat.le_of_ble_eq_true rfl) d_Lg_writeTransaction_18 (fun H locs hP hS => ?_)
    obtain ⟨w9, ew9⟩ : ∃ z9 : hv_W, z9 = va_up w3 g (some (.inr (2, [.int (wr + lg_wn ti (lg_wf n)), .int en, .int (lg_wn ti (lg_wf n)), .int tr, .int (lg_wt ti (lg_wf n))]))) := ⟨_, rfl⟩
    have hP : hv_P D classes s0.heap.size w9 H := by rw [ew9]; exact hP
    have h10 : w9 g = some (.inr (2, [.int (wr + lg_wn ti (lg_wf n)), .int en, .int (lg_wn ti (lg_wf n)), .int tr, .int (lg_wt ti (lg_wf n))])) := by rw [ew9]; exact hv_up_s
    refine lv_iconst (v := 0) hx hb d_Lg_writeTransaction_21 (by decide) ?_
    exact hv_zret (v := 0) hQ hx hb hr (by decide) hZ hS hP hlocks d_Lg_writeTransaction_22 (Or.inl ⟨rfl, Int32.not_le.mp c13, ⟨h10, fun b hb => by rw [ew9, hv_up_n hb]; exact q4u.2 b hb⟩⟩)

abbrev rm_Lg_writeCheckpoint : Room := { frames := 2, cells := 0, slots := 0, locals := 37 }
set_option maxHeartbeats 4000000 in
set_option maxRecDepth 100000 in
theorem c_Lg_writeCheckpoint {l : Launch} {s0 : State} {D : va_G} {ca : Nat → ClassId} (C : hv_C l s0 D (hv_tys ca)) {w : hv_W} {g : Nat} {wr en lo tr ti : Int32} (n : Int32) (h0 : w g = some (.inr (2, [.int wr, .int en, .int lo, .int tr, .int ti])))  :
    hv_Met l y_Lg_writeCheckpoint [.code y_Lg_writeCheckpoint b_Lg_writeCheckpoint 2 (some .boolean)] rm_Lg_writeCheckpoint (hv_Pc s0 D w [.ref g, .int n]) (hv_Q s0 D (fun v w' => (v = some (.int 0) ∧ lg_wn ti n < n ∧ hv_U g (.inr (2, [.int (wr + lg_wn ti n), .int en, .int lo, .int tr, .int (lg_wt ti n)])) w w') ∨ (v = some (.int 1) ∧ ¬ lg_wn ti n < n ∧ hv_U g (.inr (2, [.int (wr + lg_wn ti n), .int 0, .int lo, .int 0, .int (lg_wt ti n)])) w w')) (fun _ _ => False)) 0 0 (hv_A s0.heap.size) := by
  refine hv_enter C _ (by decide) (Nat.le_of_ble_eq_true rfl) ?_
  intro p e s m below meth c ls Q hQ hx hb hr hml hown hts hK hZ hlocks hname hout htr hP hl
  have hown : s.vm.findClass R_Lg = some m.cls := hown
  have hS : va_S (hv_A s0.heap.size) s.heap s.heap [] := va_S.rf
  have hl : lv_has ls 2 [(0, .ref g), (1, .int n)] := hl
  refine lv_aload_n hx hb d_Lg_writeCheckpoint_0 rfl (lv_at hl 0 rfl) ?_
  refine lv_iload_n hx hb d_Lg_writeCheckpoint_1 rfl (lv_at hl 1 rfl) ?_
  refine hv_call (hv_runV (As := [.int n]) (rest := []) (c_Lg_write C n h0) (hv_cw C hZ kc_Lg_write kn_Lg ⟨rfl, rfl, Nat.le_of_ble_eq_true rfl, Nat.le_of_ble_eq_true rfl⟩) hv_blind (hv_pre hZ hS hP) hx hml hb hown (hts _ k_Lg_22) (hts _ ki_Lg_write) (hts _ ksel_Lg_Lg_write) hy_Lg_write (hts _ kc_Lg_write) (va_recv hK (hv_one hP h0) (ci := 2) (q0 := 0) rfl rfl) rfl hl.1 rfl (lv_room (Nat.le_of_ble_eq_true rfl)) d_Lg_writeCheckpoint_2 ⟨Nat.le_of_ble_eq_true rfl, Nat.le_of_ble_eq_true rfl⟩) hZ hS (fun v9 w1 H locs q2 hP hS => ?_) (fun x9 w1 H locs q2 hP hS => q2.elim)
  obtain ⟨hv9, q2u⟩ := q2
  subst hv9
  show W _ _ _ _ _ _ _ _ _ _ _ _ _ _ _ (F0 m 5 ls [.int (lg_wn ti n)])
  refine lv_iload_n hx hb d_Lg_writeCheckpoint_5 rfl (lv_at hl 1 rfl) ?_
  refine lv_icmp_ge (tgt := 11) hx hb d_Lg_writeCheckpoint_6 (by decide) (fun c6 => ?_) (fun c6 => ?_)
  · refine lv_aload_n hx hb d_Lg_writeCheckpoint_11 rfl (lv_at hl 0 rfl) ?_
    refine lv_iconst (v := 0) hx hb d_Lg_writeCheckpoint_12 (by decide) ?_
    refine hv_put (D := D) (ci := 2) (v := .int 0) (ty := .int) (C := R_Lg) (T := F_Lg) (N := 5) hx hb hts i_Lg t_Lg t_Lg_ok n_Lg hown hK hP hS q2u.1 rfl 1 (by decide) (hts _ k_Lg_9) (fun _ h9 => h9) rfl (by decide +kernel) rfl rfl (Nat.le_of_ble_eq_true rfl) d_Lg_writeCheckpoint_13 (fun H locs hP hS => ?_)
    obtain ⟨w3, ew3⟩ : ∃ z9 : hv_W, z9 = va_up w1 g (some (.inr (2, [.int (wr + lg_wn ti n), .int 0, .int lo, .int tr, .int (lg_wt ti n)]))) := ⟨_, rfl⟩
    have hP : hv_P D classes s0.heap.size w3 H := by rw [ew3]; exact hP
    have h4 : w3 g = some (.inr (2, [.int (wr + lg_wn ti n), .int 0, .int lo, .int tr, .int (lg_wt ti n)])) := by rw [ew3]; exact hv_up_s
    refine lv_aload_n hx hb d_Lg_writeCheckpoint_16 rfl (lv_at hl 0 rfl) ?_
    refine lv_iconst (v := 0) hx hb d_Lg_writeCheckpoint_17 (by decide) ?_
    refine hv_put (D := D) (ci := 2) (v := .int 0) (ty := .int) (C := R_Lg) (T := F_Lg) (N := 5) hx hb hts i_Lg t_Lg t_Lg_ok n_Lg hown hK hP hS h4 rfl 3 (by decide) (hts _ k_Lg_28) (fun _ h9 => h9) rfl (by decide +kernel) rfl rfl (Nat.le_of_ble_eq_true rfl) d_Lg_writeCheckpoint_18 (fun H locs hP hS => ?_)
    obtain ⟨w5, ew5⟩ : ∃ z9 : hv_W, z9 = va_up w3 g (some (.inr (2, [.int (wr + lg_wn ti n), .int 0, .int lo, .int 0, .int (lg_wt ti n)]))) := ⟨_, rfl⟩
    have hP : hv_P D classes s0.heap.size w5 H := by rw [ew5]; exact hP
    have h6 : w5 g = some (.inr (2, [.int (wr + lg_wn ti n), .int 0, .int lo, .int 0, .int (lg_wt ti n)])) := by rw [ew5]; exact hv_up_s
    refine lv_iconst (v := 1) hx hb d_Lg_writeCheckpoint_21 (by decide) ?_
    exact hv_zret (v := 1) hQ hx hb hr (by decide) hZ hS hP hlocks d_Lg_writeCheckpoint_22 (Or.inr ⟨rfl, Int32.not_lt.mpr c6, ⟨h6, fun b hb => by rw [ew5, hv_up_n hb, ew3, hv_up_n hb]; exact q2u.2 b hb⟩⟩)
  · refine lv_iconst (v := 0) hx hb d_Lg_writeCheckpoint_9 (by decide) ?_
    exact hv_zret (v := 0) hQ hx hb hr (by decide) hZ hS hP hlocks d_Lg_writeCheckpoint_10 (Or.inl ⟨rfl, Int32.not_le.mp c6, ⟨q2u.1, fun b hb => by exact q2u.2 b hb⟩⟩)

