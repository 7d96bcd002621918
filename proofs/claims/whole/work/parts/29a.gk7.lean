abbrev rm_GK_init : Room := { frames := 2, cells := 14, slots := 677, locals := 32 }
set_option maxHeartbeats 4000000 in
set_option maxRecDepth 100000 in
theorem c_GK_init {l : Launch} {s0 : State} {D : va_G} {ca : Nat → ClassId} (C : hv_C l s0 D (hv_tys ca)) {w : hv_W} {x : Nat} (h0 : w x = some (.inr (0, [.null, .null, .null, .null, .null, .null, .null, .int 0, .int 0, .int 0, .int 0, .int 0])))  :
    hv_Met l y_GK_init [.code y_GK_init b_GK_init 1 none] rm_GK_init (hv_Pc s0 D w [.ref x]) (hv_Q s0 D (fun v w' => v = none ∧ ∃ L : Nat → Nat, L 0 = x ∧ cP ca L w gS0 w' ∧ ∀ b, b ≠ x → w b ≠ none → ¬ cM L b) (fun _ _ => False)) 14 677 (hv_A s0.heap.size) := by
  refine hv_enter C _ (by decide) (Nat.le_of_ble_eq_true rfl) ?_
  intro p e s m below meth c ls Q hQ hx hb hr hml hown hts hK hZ hlocks hname hout htr hP hl
  have hown : s.vm.findClass R_GK = some m.cls := hown
  have hS : va_S (hv_A s0.heap.size) s.heap s.heap [] := va_S.rf
  have hl : lv_has ls 1 [(0, .ref x)] := hl
  have hk0 : gkx x w w := fun _ _ _ h => h
  refine lv_aload_n hx hb d_GK_init_0 rfl (lv_at hl 0 rfl) ?_
  refine W.objInit hx hb hown (hts _ k_GK_1) (hts _ ki_objInit) (hts _ kc_objInit) rfl (by rw [hml]; exact hl.1) rfl d_GK_init_1 (Nat.le_of_ble_eq_true rfl) (Nat.le_of_ble_eq_true rfl) ?_
  show W _ _ _ _ _ _ _ _ _ _ _ _ _ _ _ (F0 m 4 ls [])
  refine lv_aload_n hx hb d_GK_init_4 rfl (lv_at hl 0 rfl) ?_
  refine hv_new (ci := 1) (fs := [.null, .null]) (C := R_Gr) (T := F_Gr) (N := 2) hx hb hts i_Gr t_Gr t_Gr_ok hown (hts _ k_GK_7) (hts _ kin_Gr) (hts _ kn_Gr) hK hP hS hZ.2.1 rfl z_Gr (Nat.le_of_ble_eq_true rfl) (Nat.le_of_ble_eq_true rfl) d_GK_init_5 (fun q1 H hq2 hP hS => ?_)
  have ne_x_q1 : x ≠ q1 := hv_ne_f hq2 h0
  have hf_q1 : w q1 = none := hk0.fr hq2 (Ne.symm ne_x_q1)
  obtain ⟨w3, ew3⟩ : ∃ z9 : hv_W, z9 = va_up w q1 (some (.inr (1, [.null, .null]))) := ⟨_, rfl⟩
  have hP : hv_P D classes s0.heap.size w3 H := by rw [ew3]; exact hP
  have h4 : w3 x = some (.inr (0, [.null, .null, .null, .null, .null, .null, .null, .int 0, .int 0, .int 0, .int 0, .int 0])) := by rw [ew3]; exact hv_up_f hq2 h0
  have h5 : w3 q1 = some (.inr (1, [.null, .null])) := by rw [ew3]; exact hv_up_s
  have hk1 : gkx x w w3 := by rw [ew3]; exact hk0.new hq2
  refine W.widen (k := 1) (n := 2) (by omega) (by omega) ?_
  show W _ _ _ _ _ _ _ _ _ _ _ _ _ _ _ (F0 m 8 ls [.ref q1, .ref x])
  refine lv_dup hx hb d_GK_init_8 rfl ?_
  refine hv_call (hv_runIN (As := []) (rest := [.ref q1, .ref x]) (c_Gr_init C h5) (hv_cw C hZ kc_Gr_init kn_Gr ⟨rfl, rfl, Nat.le_of_ble_eq_true rfl, Nat.le_of_ble_eq_true rfl⟩) hv_blind (hv_pre hZ hS hP) hx hml hb hown (hv_nest C hZ k_GK_9) (hts _ ki_Gr_init) rfl hy_Gr_init (hts _ kc_Gr_init) rfl hl.1 rfl (lv_room (Nat.le_of_ble_eq_true rfl)) d_GK_init_9 ⟨Nat.le_of_ble_eq_true rfl, Nat.le_of_ble_eq_true rfl⟩) hZ hS (fun v9 w6 H locs q7 hP hS => ?_) (fun x9 w6 H locs q7 hP hS => q7.elim)
  obtain ⟨hv9, ng1, lg1, hn_ng1, hn_lg1, hab_g1, hc_g1, hc1_g1, hc2_g1, ho_g1⟩ := q7
  subst hv9
  have ne_x_ng1 : x ≠ ng1 := hv_ne_f hn_ng1 h4
  have ne_q1_ng1 : q1 ≠ ng1 := hv_ne_f hn_ng1 h5
  have ne_x_lg1 : x ≠ lg1 := hv_ne_f hn_lg1 h4
  have ne_q1_lg1 : q1 ≠ lg1 := hv_ne_f hn_lg1 h5
  have hf_ng1 : w ng1 = none := hk1.fr hn_ng1 (Ne.symm ne_x_ng1)
  have hf_lg1 : w lg1 = none := hk1.fr hn_lg1 (Ne.symm ne_x_lg1)
  have h8 : w6 x = some (.inr (0, [.null, .null, .null, .null, .null, .null, .null, .int 0, .int 0, .int 0, .int 0, .int 0])) := (ho_g1 x ne_x_q1 ne_x_ng1 ne_x_lg1).trans h4
  have hk2 : gkx x w w6 := fun b e hb hw => (ho_g1 b (fun z => by rw [z, hf_q1] at hw; cases hw) (fun z => by rw [z, hf_ng1] at hw; cases hw) (fun z => by rw [z, hf_lg1] at hw; cases hw)).trans (hk1 b e hb hw)
  show W _ _ _ _ _ _ _ _ _ _ _ _ _ _ _ (F0 m 12 ls [.ref q1, .ref x])
  refine hv_putF (D := D) (ci := 0) (v := .ref q1) (ty := .object "GraphKeep$Graph") (C := R_GK) (T := F_GK) (N := 12) hx hb hts i_GK t_GK t_GK_ok n_GK hown hK hP hS h8 rfl 0 (by decide) (hts _ k_GK_10) (fun _ h9 => h9) rfl hname rfl (by decide +kernel) rfl rfl (Nat.le_of_ble_eq_true rfl) d_GK_init_12 (fun H locs hP hS => ?_)
  obtain ⟨w9, ew9⟩ : ∃ z9 : hv_W, z9 = va_up w6 x (some (.inr (0, [.ref q1, .null, .null, .null, .null, .null, .null, .int 0, .int 0, .int 0, .int 0, .int 0]))) := ⟨_, rfl⟩
  have hP : hv_P D classes s0.heap.size w9 H := by rw [ew9]; exact hP
  have h10 : w9 q1 = some (.inr (1, [.ref ng1, .ref lg1])) := by rw [ew9]; exact hv_up_k hc_g1 (Ne.symm ne_x_q1)
  have h11 : w9 ng1 = some (.inl (ca 5, 64, .inr (.inr (.inr (.inr (fun _ => none)))))) := by rw [ew9]; exact hv_up_k hc1_g1 (Ne.symm ne_x_ng1)
  have h12 : w9 lg1 = some (.inl (ca 6, 96, .inr (.inr (.inr (.inr (fun _ => none)))))) := by rw [ew9]; exact hv_up_k hc2_g1 (Ne.symm ne_x_lg1)
  have h13 : w9 x = some (.inr (0, [.ref q1, .null, .null, .null, .null, .null, .null, .int 0, .int 0, .int 0, .int 0, .int 0])) := by rw [ew9]; exact hv_up_s
  have hk3 : gkx x w w9 := by rw [ew9]; exact hk2.put
  refine lv_aload_n hx hb d_GK_init_15 rfl (lv_at hl 0 rfl) ?_
  refine hv_new (ci := 1) (fs := [.null, .null]) (C := R_Gr) (T := F_Gr) (N := 2) hx hb hts i_Gr t_Gr t_Gr_ok hown (hts _ k_GK_7) (hts _ kin_Gr) (hts _ kn_Gr) hK hP hS hZ.2.1 rfl z_Gr (Nat.le_of_ble_eq_true rfl) (Nat.le_of_ble_eq_true rfl) d_GK_init_16 (fun q14 H hq15 hP hS => ?_)
  have ne_x_q14 : x ≠ q14 := hv_ne_f hq15 h13
  have ne_q1_q14 : q1 ≠ q14 := hv_ne_f hq15 h10
  have ne_ng1_q14 : ng1 ≠ q14 := hv_ne_f hq15 h11
  have ne_lg1_q14 : lg1 ≠ q14 := hv_ne_f hq15 h12
  have hf_q14 : w q14 = none := hk3.fr hq15 (Ne.symm ne_x_q14)
  obtain ⟨w16, ew16⟩ : ∃ z9 : hv_W, z9 = va_up w9 q14 (some (.inr (1, [.null, .null]))) := ⟨_, rfl⟩
  have hP : hv_P D classes s0.heap.size w16 H := by rw [ew16]; exact hP
  have h17 : w16 x = some (.inr (0, [.ref q1, .null, .null, .null, .null, .null, .null, .int 0, .int 0, .int 0, .int 0, .int 0])) := by rw [ew16]; exact hv_up_f hq15 h13
  have h18 : w16 q1 = some (.inr (1, [.ref ng1, .ref lg1])) := by rw [ew16]; exact hv_up_f hq15 h10
  have h19 : w16 ng1 = some (.inl (ca 5, 64, .inr (.inr (.inr (.inr (fun _ => none)))))) := by rw [ew16]; exact hv_up_f hq15 h11
  have h20 : w16 lg1 = some (.inl (ca 6, 96, .inr (.inr (.inr (.inr (fun _ => none)))))) := by rw [ew16]; exact hv_up_f hq15 h12
  have h21 : w16 q14 = some (.inr (1, [.null, .null])) := by rw [ew16]; exact hv_up_s
  have hk4 : gkx x w w16 := by rw [ew16]; exact hk3.new hq15
  refine W.widen (k := 4) (n := 164) (by omega) (by omega) ?_
  show W _ _ _ _ _ _ _ _ _ _ _ _ _ _ _ (F0 m 19 ls [.ref q14, .ref x])
  refine lv_dup hx hb d_GK_init_19 rfl ?_
  refine hv_call (hv_runIN (As := []) (rest := [.ref q14, .ref x]) (c_Gr_init C h21) (hv_cw C hZ kc_Gr_init kn_Gr ⟨rfl, rfl, Nat.le_of_ble_eq_true rfl, Nat.le_of_ble_eq_true rfl⟩) hv_blind (hv_pre hZ hS hP) hx hml hb hown (hv_nest C hZ k_GK_9) (hts _ ki_Gr_init) rfl hy_Gr_init (hts _ kc_Gr_init) rfl hl.1 rfl (lv_room (Nat.le_of_ble_eq_true rfl)) d_GK_init_20 ⟨Nat.le_of_ble_eq_true rfl, Nat.le_of_ble_eq_true rfl⟩) hZ hS (fun v9 w22 H locs q23 hP hS => ?_) (fun x9 w22 H locs q23 hP hS => q23.elim)
  obtain ⟨hv9, ng2, lg2, hn_ng2, hn_lg2, hab_g2, hc_g2, hc1_g2, hc2_g2, ho_g2⟩ := q23
  subst hv9
  have ne_x_ng2 : x ≠ ng2 := hv_ne_f hn_ng2 h17
  have ne_q1_ng2 : q1 ≠ ng2 := hv_ne_f hn_ng2 h18
  have ne_ng1_ng2 : ng1 ≠ ng2 := hv_ne_f hn_ng2 h19
  have ne_lg1_ng2 : lg1 ≠ ng2 := hv_ne_f hn_ng2 h20
  have ne_q14_ng2 : q14 ≠ ng2 := hv_ne_f hn_ng2 h21
  have ne_x_lg2 : x ≠ lg2 := hv_ne_f hn_lg2 h17
  have ne_q1_lg2 : q1 ≠ lg2 := hv_ne_f hn_lg2 h18
  have ne_ng1_lg2 : ng1 ≠ lg2 := hv_ne_f hn_lg2 h19
  have ne_lg1_lg2 : lg1 ≠ lg2 := hv_ne_f hn_lg2 h20
  have ne_q14_lg2 : q14 ≠ lg2 := hv_ne_f hn_lg2 h21
  have hf_ng2 : w ng2 = none := hk4.fr hn_ng2 (Ne.symm ne_x_ng2)
  have hf_lg2 : w lg2 = none := hk4.fr hn_lg2 (Ne.symm ne_x_lg2)
  have h24 : w22 x = some (.inr (0, [.ref q1, .null, .null, .null, .null, .null, .null, .int 0, .int 0, .int 0, .int 0, .int 0])) := (ho_g2 x ne_x_q14 ne_x_ng2 ne_x_lg2).trans h17
  have h25 : w22 q1 = some (.inr (1, [.ref ng1, .ref lg1])) := (ho_g2 q1 ne_q1_q14 ne_q1_ng2 ne_q1_lg2).trans h18
  have h26 : w22 ng1 = some (.inl (ca 5, 64, .inr (.inr (.inr (.inr (fun _ => none)))))) := (ho_g2 ng1 ne_ng1_q14 ne_ng1_ng2 ne_ng1_lg2).trans h19
  have h27 : w22 lg1 = some (.inl (ca 6, 96, .inr (.inr (.inr (.inr (fun _ => none)))))) := (ho_g2 lg1 ne_lg1_q14 ne_lg1_ng2 ne_lg1_lg2).trans h20
  have hk5 : gkx x w w22 := fun b e hb hw => (ho_g2 b (fun z => by rw [z, hf_q14] at hw; cases hw) (fun z => by rw [z, hf_ng2] at hw; cases hw) (fun z => by rw [z, hf_lg2] at hw; cases hw)).trans (hk4 b e hb hw)
  show W _ _ _ _ _ _ _ _ _ _ _ _ _ _ _ (F0 m 23 ls [.ref q14, .ref x])
  refine hv_putF (D := D) (ci := 0) (v := .ref q14) (ty := .object "GraphKeep$Graph") (C := R_GK) (T := F_GK) (N := 12) hx hb hts i_GK t_GK t_GK_ok n_GK hown hK hP hS h24 rfl 1 (by decide) (hts _ k_GK_16) (fun _ h9 => h9) rfl hname rfl (by decide +kernel) rfl rfl (Nat.le_of_ble_eq_true rfl) d_GK_init_23 (fun H locs hP hS => ?_)
  obtain ⟨w28, ew28⟩ : ∃ z9 : hv_W, z9 = va_up w22 x (some (.inr (0, [.ref q1, .ref q14, .null, .null, .null, .null, .null, .int 0, .int 0, .int 0, .int 0, .int 0]))) := ⟨_, rfl⟩
  have hP : hv_P D classes s0.heap.size w28 H := by rw [ew28]; exact hP
  have h29 : w28 q1 = some (.inr (1, [.ref ng1, .ref lg1])) := by rw [ew28]; exact hv_up_k h25 (Ne.symm ne_x_q1)
  have h30 : w28 ng1 = some (.inl (ca 5, 64, .inr (.inr (.inr (.inr (fun _ => none)))))) := by rw [ew28]; exact hv_up_k h26 (Ne.symm ne_x_ng1)
  have h31 : w28 lg1 = some (.inl (ca 6, 96, .inr (.inr (.inr (.inr (fun _ => none)))))) := by rw [ew28]; exact hv_up_k h27 (Ne.symm ne_x_lg1)
  have h32 : w28 q14 = some (.inr (1, [.ref ng2, .ref lg2])) := by rw [ew28]; exact hv_up_k hc_g2 (Ne.symm ne_x_q14)
  have h33 : w28 ng2 = some (.inl (ca 5, 64, .inr (.inr (.inr (.inr (fun _ => none)))))) := by rw [ew28]; exact hv_up_k hc1_g2 (Ne.symm ne_x_ng2)
  have h34 : w28 lg2 = some (.inl (ca 6, 96, .inr (.inr (.inr (.inr (fun _ => none)))))) := by rw [ew28]; exact hv_up_k hc2_g2 (Ne.symm ne_x_lg2)
  have h35 : w28 x = some (.inr (0, [.ref q1, .ref q14, .null, .null, .null, .null, .null, .int 0, .int 0, .int 0, .int 0, .int 0])) := by rw [ew28]; exact hv_up_s
  have hk6 : gkx x w w28 := by rw [ew28]; exact hk5.put
  refine lv_aload_n hx hb d_GK_init_26 rfl (lv_at hl 0 rfl) ?_
  refine hv_new (ci := 1) (fs := [.null, .null]) (C := R_Gr) (T := F_Gr) (N := 2) hx hb hts i_Gr t_Gr t_Gr_ok hown (hts _ k_GK_7) (hts _ kin_Gr) (hts _ kn_Gr) hK hP hS hZ.2.1 rfl z_Gr (Nat.le_of_ble_eq_true rfl) (Nat.le_of_ble_eq_true rfl) d_GK_init_27 (fun q36 H hq37 hP hS => ?_)
  have ne_x_q36 : x ≠ q36 := hv_ne_f hq37 h35
  have ne_q1_q36 : q1 ≠ q36 := hv_ne_f hq37 h29
  have ne_ng1_q36 : ng1 ≠ q36 := hv_ne_f hq37 h30
  have ne_lg1_q36 : lg1 ≠ q36 := hv_ne_f hq37 h31
  have ne_q14_q36 : q14 ≠ q36 := hv_ne_f hq37 h32
  have ne_ng2_q36 : ng2 ≠ q36 := hv_ne_f hq37 h33
  have ne_lg2_q36 : lg2 ≠ q36 := hv_ne_f hq37 h34
  have hf_q36 : w q36 = none := hk6.fr hq37 (Ne.symm ne_x_q36)
  obtain ⟨w38, ew38⟩ : ∃ z9 : hv_W, z9 = va_up w28 q36 (some (.inr (1, [.null, .null]))) := ⟨_, rfl⟩
  have hP : hv_P D classes s0.heap.size w38 H := by rw [ew38]; exact hP
  have h39 : w38 x = some (.inr (0, [.ref q1, .ref q14, .null, .null, .null, .null, .null, .int 0, .int 0, .int 0, .int 0, .int 0])) := by rw [ew38]; exact hv_up_f hq37 h35
  have h40 : w38 q1 = some (.inr (1, [.ref ng1, .ref lg1])) := by rw [ew38]; exact hv_up_f hq37 h29
  have h41 : w38 ng1 = some (.inl (ca 5, 64, .inr (.inr (.inr (.inr (fun _ => none)))))) := by rw [ew38]; exact hv_up_f hq37 h30
  have h42 : w38 lg1 = some (.inl (ca 6, 96, .inr (.inr (.inr (.inr (fun _ => none)))))) := by rw [ew38]; exact hv_up_f hq37 h31
  have h43 : w38 q14 = some (.inr (1, [.ref ng2, .ref lg2])) := by rw [ew38]; exact hv_up_f hq37 h32
  have h44 : w38 ng2 = some (.inl (ca 5, 64, .inr (.inr (.inr (.inr (fun _ => none)))))) := by rw [ew38]; exact hv_up_f hq37 h33
  have h45 : w38 lg2 = some (.inl (ca 6, 96, .inr (.inr (.inr (.inr (fun _ => none)))))) := by rw [ew38]; exact hv_up_f hq37 h34
  have h46 : w38 q36 = some (.inr (1, [.null, .null])) := by rw [ew38]; exact hv_up_s
  have hk7 : gkx x w w38 := by rw [ew38]; exact hk6.new hq37
  refine W.widen (k := 7) (n := 326) (by omega) (by omega) ?_
  show W _ _ _ _ _ _ _ _ _ _ _ _ _ _ _ (F0 m 30 ls [.ref q36, .ref x])
  refine lv_dup hx hb d_GK_init_30 rfl ?_
  refine hv_call (hv_runIN (As := []) (rest := [.ref q36, .ref x]) (c_Gr_init C h46) (hv_cw C hZ kc_Gr_init kn_Gr ⟨rfl, rfl, Nat.le_of_ble_eq_true rfl, Nat.le_of_ble_eq_true rfl⟩) hv_blind (hv_pre hZ hS hP) hx hml hb hown (hv_nest C hZ k_GK_9) (hts _ ki_Gr_init) rfl hy_Gr_init (hts _ kc_Gr_init) rfl hl.1 rfl (lv_room (Nat.le_of_ble_eq_true rfl)) d_GK_init_31 ⟨Nat.le_of_ble_eq_true rfl, Nat.le_of_ble_eq_true rfl⟩) hZ hS (fun v9 w47 H locs q48 hP hS => ?_) (fun x9 w47 H locs q48 hP hS => q48.elim)
  obtain ⟨hv9, ng3, lg3, hn_ng3, hn_lg3, hab_g3, hc_g3, hc1_g3, hc2_g3, ho_g3⟩ := q48
  subst hv9
  have ne_x_ng3 : x ≠ ng3 := hv_ne_f hn_ng3 h39
  have ne_q1_ng3 : q1 ≠ ng3 := hv_ne_f hn_ng3 h40
  have ne_ng1_ng3 : ng1 ≠ ng3 := hv_ne_f hn_ng3 h41
  have ne_lg1_ng3 : lg1 ≠ ng3 := hv_ne_f hn_ng3 h42
  have ne_q14_ng3 : q14 ≠ ng3 := hv_ne_f hn_ng3 h43
  have ne_ng2_ng3 : ng2 ≠ ng3 := hv_ne_f hn_ng3 h44
  have ne_lg2_ng3 : lg2 ≠ ng3 := hv_ne_f hn_ng3 h45
  have ne_q36_ng3 : q36 ≠ ng3 := hv_ne_f hn_ng3 h46
  have ne_x_lg3 : x ≠ lg3 := hv_ne_f hn_lg3 h39
  have ne_q1_lg3 : q1 ≠ lg3 := hv_ne_f hn_lg3 h40
  have ne_ng1_lg3 : ng1 ≠ lg3 := hv_ne_f hn_lg3 h41
  have ne_lg1_lg3 : lg1 ≠ lg3 := hv_ne_f hn_lg3 h42
  have ne_q14_lg3 : q14 ≠ lg3 := hv_ne_f hn_lg3 h43
  have ne_ng2_lg3 : ng2 ≠ lg3 := hv_ne_f hn_lg3 h44
  have ne_lg2_lg3 : lg2 ≠ lg3 := hv_ne_f hn_lg3 h45
  have ne_q36_lg3 : q36 ≠ lg3 := hv_ne_f hn_lg3 h46
  have hf_ng3 : w ng3 = none := hk7.fr hn_ng3 (Ne.symm ne_x_ng3)
  have hf_lg3 : w lg3 = none := hk7.fr hn_lg3 (Ne.symm ne_x_lg3)
  have h49 : w47 x = some (.inr (0, [.ref q1, .ref q14, .null, .null, .null, .null, .null, .int 0, .int 0, .int 0, .int 0, .int 0])) := (ho_g3 x ne_x_q36 ne_x_ng3 ne_x_lg3).trans h39
  have h50 : w47 q1 = some (.inr (1, [.ref ng1, .ref lg1])) := (ho_g3 q1 ne_q1_q36 ne_q1_ng3 ne_q1_lg3).trans h40
  have h51 : w47 ng1 = some (.inl (ca 5, 64, .inr (.inr (.inr (.inr (fun _ => none)))))) := (ho_g3 ng1 ne_ng1_q36 ne_ng1_ng3 ne_ng1_lg3).trans h41
  have h52 : w47 lg1 = some (.inl (ca 6, 96, .inr (.inr (.inr (.inr (fun _ => none)))))) := (ho_g3 lg1 ne_lg1_q36 ne_lg1_ng3 ne_lg1_lg3).trans h42
  have h53 : w47 q14 = some (.inr (1, [.ref ng2, .ref lg2])) := (ho_g3 q14 ne_q14_q36 ne_q14_ng3 ne_q14_lg3).trans h43
  have h54 : w47 ng2 = some (.inl (ca 5, 64, .inr (.inr (.inr (.inr (fun _ => none)))))) := (ho_g3 ng2 ne_ng2_q36 ne_ng2_ng3 ne_ng2_lg3).trans h44
  have h55 : w47 lg2 = some (.inl (ca 6, 96, .inr (.inr (.inr (.inr (fun _ => none)))))) := (ho_g3 lg2 ne_lg2_q36 ne_lg2_ng3 ne_lg2_lg3).trans h45
  have hk8 : gkx x w w47 := fun b e hb hw => (ho_g3 b (fun z => by rw [z, hf_q36] at hw; cases hw) (fun z => by rw [z, hf_ng3] at hw; cases hw) (fun z => by rw [z, hf_lg3] at hw; cases hw)).trans (hk7 b e hb hw)
  show W _ _ _ _ _ _ _ _ _ _ _ _ _ _ _ (F0 m 34 ls [.ref q36, .ref x])
  refine hv_putF (D := D) (ci := 0) (v := .ref q36) (ty := .object "GraphKeep$Graph") (C := R_GK) (T := F_GK) (N := 12) hx hb hts i_GK t_GK t_GK_ok n_GK hown hK hP hS h49 rfl 2 (by decide) (hts _ k_GK_19) (fun _ h9 => h9) rfl hname rfl (by decide +kernel) rfl rfl (Nat.le_of_ble_eq_true rfl) d_GK_init_34 (fun H locs hP hS => ?_)
  obtain ⟨w56, ew56⟩ : ∃ z9 : hv_W, z9 = va_up w47 x (some (.inr (0, [.ref q1, .ref q14, .ref q36, .null, .null, .null, .null, .int 0, .int 0, .int 0, .int 0, .int 0]))) := ⟨_, rfl⟩
  have hP : hv_P D classes s0.heap.size w56 H := by rw [ew56]; exact hP
  have h57 : w56 q1 = some (.inr (1, [.ref ng1, .ref lg1])) := by rw [ew56]; exact hv_up_k h50 (Ne.symm ne_x_q1)
  have h58 : w56 ng1 = some (.inl (ca 5, 64, .inr (.inr (.inr (.inr (fun _ => none)))))) := by rw [ew56]; exact hv_up_k h51 (Ne.symm ne_x_ng1)
  have h59 : w56 lg1 = some (.inl (ca 6, 96, .inr (.inr (.inr (.inr (fun _ => none)))))) := by rw [ew56]; exact hv_up_k h52 (Ne.symm ne_x_lg1)
  have h60 : w56 q14 = some (.inr (1, [.ref ng2, .ref lg2])) := by rw [ew56]; exact hv_up_k h53 (Ne.symm ne_x_q14)
  have h61 : w56 ng2 = some (.inl (ca 5, 64, .inr (.inr (.inr (.inr (fun _ => none)))))) := by rw [ew56]; exact hv_up_k h54 (Ne.symm ne_x_ng2)
  have h62 : w56 lg2 = some (.inl (ca 6, 96, .inr (.inr (.inr (.inr (fun _ => none)))))) := by rw [ew56]; exact hv_up_k h55 (Ne.symm ne_x_lg2)
  have h63 : w56 q36 = some (.inr (1, [.ref ng3, .ref lg3])) := by rw [ew56]; exact hv_up_k hc_g3 (Ne.symm ne_x_q36)
  have h64 : w56 ng3 = some (.inl (ca 5, 64, .inr (.inr (.inr (.inr (fun _ => none)))))) := by rw [ew56]; exact hv_up_k hc1_g3 (Ne.symm ne_x_ng3)
  have h65 : w56 lg3 = some (.inl (ca 6, 96, .inr (.inr (.inr (.inr (fun _ => none)))))) := by rw [ew56]; exact hv_up_k hc2_g3 (Ne.symm ne_x_lg3)
  have h66 : w56 x = some (.inr (0, [.ref q1, .ref q14, .ref q36, .null, .null, .null, .null, .int 0, .int 0, .int 0, .int 0, .int 0])) := by rw [ew56]; exact hv_up_s
  have hk9 : gkx x w w56 := by rw [ew56]; exact hk8.put
  refine lv_aload_n hx hb d_GK_init_37 rfl (lv_at hl 0 rfl) ?_
  refine hv_new (ci := 2) (fs := [.int 0, .int 0, .int 0, .int 0, .int 0]) (C := R_Lg) (T := F_Lg) (N := 5) hx hb hts i_Lg t_Lg t_Lg_ok hown (hts _ k_GK_22) (hts _ kin_Lg) (hts _ kn_Lg) hK hP hS hZ.2.1 rfl z_Lg (Nat.le_of_ble_eq_true rfl) (Nat.le_of_ble_eq_true rfl) d_GK_init_38 (fun q67 H hq68 hP hS => ?_)
  have ne_x_q67 : x ≠ q67 := hv_ne_f hq68 h66
  have ne_q1_q67 : q1 ≠ q67 := hv_ne_f hq68 h57
  have ne_ng1_q67 : ng1 ≠ q67 := hv_ne_f hq68 h58
  have ne_lg1_q67 : lg1 ≠ q67 := hv_ne_f hq68 h59
  have ne_q14_q67 : q14 ≠ q67 := hv_ne_f hq68 h60
  have ne_ng2_q67 : ng2 ≠ q67 := hv_ne_f hq68 h61
  have ne_lg2_q67 : lg2 ≠ q67 := hv_ne_f hq68 h62
  have ne_q36_q67 : q36 ≠ q67 := hv_ne_f hq68 h63
  have ne_ng3_q67 : ng3 ≠ q67 := hv_ne_f hq68 h64
  have ne_lg3_q67 : lg3 ≠ q67 := hv_ne_f hq68 h65
  have hf_q67 : w q67 = none := hk9.fr hq68 (Ne.symm ne_x_q67)
  obtain ⟨w69, ew69⟩ : ∃ z9 : hv_W, z9 = va_up w56 q67 (some (.inr (2, [.int 0, .int 0, .int 0, .int 0, .int 0]))) := ⟨_, rfl⟩
  have hP : hv_P D classes s0.heap.size w69 H := by rw [ew69]; exact hP
  have h70 : w69 x = some (.inr (0, [.ref q1, .ref q14, .ref q36, .null, .null, .null, .null, .int 0, .int 0, .int 0, .int 0, .int 0])) := by rw [ew69]; exact hv_up_f hq68 h66
  have h71 : w69 q1 = some (.inr (1, [.ref ng1, .ref lg1])) := by rw [ew69]; exact hv_up_f hq68 h57
  have h72 : w69 ng1 = some (.inl (ca 5, 64, .inr (.inr (.inr (.inr (fun _ => none)))))) := by rw [ew69]; exact hv_up_f hq68 h58
  have h73 : w69 lg1 = some (.inl (ca 6, 96, .inr (.inr (.inr (.inr (fun _ => none)))))) := by rw [ew69]; exact hv_up_f hq68 h59
  have h74 : w69 q14 = some (.inr (1, [.ref ng2, .ref lg2])) := by rw [ew69]; exact hv_up_f hq68 h60
  have h75 : w69 ng2 = some (.inl (ca 5, 64, .inr (.inr (.inr (.inr (fun _ => none)))))) := by rw [ew69]; exact hv_up_f hq68 h61
  have h76 : w69 lg2 = some (.inl (ca 6, 96, .inr (.inr (.inr (.inr (fun _ => none)))))) := by rw [ew69]; exact hv_up_f hq68 h62
  have h77 : w69 q36 = some (.inr (1, [.ref ng3, .ref lg3])) := by rw [ew69]; exact hv_up_f hq68 h63
  have h78 : w69 ng3 = some (.inl (ca 5, 64, .inr (.inr (.inr (.inr (fun _ => none)))))) := by rw [ew69]; exact hv_up_f hq68 h64
  have h79 : w69 lg3 = some (.inl (ca 6, 96, .inr (.inr (.inr (.inr (fun _ => none)))))) := by rw [ew69]; exact hv_up_f hq68 h65
  have h80 : w69 q67 = some (.inr (2, [.int 0, .int 0, .int 0, .int 0, .int 0])) := by rw [ew69]; exact hv_up_s
  have hk10 : gkx x w w69 := by rw [ew69]; exact hk9.new hq68
  refine W.widen (k := 10) (n := 491) (by omega) (by omega) ?_
  show W _ _ _ _ _ _ _ _ _ _ _ _ _ _ _ (F0 m 41 ls [.ref q67, .ref x])
  refine lv_dup hx hb d_GK_init_41 rfl ?_
  refine hv_call (hv_runIN (As := []) (rest := [.ref q67, .ref x]) (c_Lg_init C) (hv_cw C hZ kc_Lg_init kn_Lg ⟨rfl, rfl, Nat.le_of_ble_eq_true rfl, Nat.le_of_ble_eq_true rfl⟩) hv_blind (hv_pre hZ hS hP) hx hml hb hown (hv_nest C hZ k_GK_24) (hts _ ki_Lg_init) rfl hy_Lg_init (hts _ kc_Lg_init) rfl hl.1 rfl (lv_room (Nat.le_of_ble_eq_true rfl)) d_GK_init_42 ⟨Nat.le_of_ble_eq_true rfl, Nat.le_of_ble_eq_true rfl⟩) hZ hS (fun v9 w81 H locs q82 hP hS => ?_) (fun x9 w81 H locs q82 hP hS => q82.elim)
  obtain ⟨hv9, hw9⟩ := q82
  subst hv9
  rw [hw9] at hP
  show W _ _ _ _ _ _ _ _ _ _ _ _ _ _ _ (F0 m 45 ls [.ref q67, .ref x])
  refine hv_putF (D := D) (ci := 0) (v := .ref q67) (ty := .object "GraphKeep$Log") (C := R_GK) (T := F_GK) (N := 12) hx hb hts i_GK t_GK t_GK_ok n_GK hown hK hP hS h70 rfl 3 (by decide) (hts _ k_GK_25) (fun _ h9 => h9) rfl hname rfl (by decide +kernel) rfl rfl (Nat.le_of_ble_eq_true rfl) d_GK_init_45 (fun H locs hP hS => ?_)
  obtain ⟨w83, ew83⟩ : ∃ z9 : hv_W, z9 = va_up w69 x (some (.inr (0, [.ref q1, .ref q14, .ref q36, .ref q67, .null, .null, .null, .int 0, .int 0, .int 0, .int 0, .int 0]))) := ⟨_, rfl⟩
  have hP : hv_P D classes s0.heap.size w83 H := by rw [ew83]; exact hP
  have h84 : w83 q1 = some (.inr (1, [.ref ng1, .ref lg1])) := by rw [ew83]; exact hv_up_k h71 (Ne.symm ne_x_q1)
  have h85 : w83 ng1 = some (.inl (ca 5, 64, .inr (.inr (.inr (.inr (fun _ => none)))))) := by rw [ew83]; exact hv_up_k h72 (Ne.symm ne_x_ng1)
  have h86 : w83 lg1 = some (.inl (ca 6, 96, .inr (.inr (.inr (.inr (fun _ => none)))))) := by rw [ew83]; exact hv_up_k h73 (Ne.symm ne_x_lg1)
  have h87 : w83 q14 = some (.inr (1, [.ref ng2, .ref lg2])) := by rw [ew83]; exact hv_up_k h74 (Ne.symm ne_x_q14)
  have h88 : w83 ng2 = some (.inl (ca 5, 64, .inr (.inr (.inr (.inr (fun _ => none)))))) := by rw [ew83]; exact hv_up_k h75 (Ne.symm ne_x_ng2)
  have h89 : w83 lg2 = some (.inl (ca 6, 96, .inr (.inr (.inr (.inr (fun _ => none)))))) := by rw [ew83]; exact hv_up_k h76 (Ne.symm ne_x_lg2)
  have h90 : w83 q36 = some (.inr (1, [.ref ng3, .ref lg3])) := by rw [ew83]; exact hv_up_k h77 (Ne.symm ne_x_q36)
  have h91 : w83 ng3 = some (.inl (ca 5, 64, .inr (.inr (.inr (.inr (fun _ => none)))))) := by rw [ew83]; exact hv_up_k h78 (Ne.symm ne_x_ng3)
  have h92 : w83 lg3 = some (.inl (ca 6, 96, .inr (.inr (.inr (.inr (fun _ => none)))))) := by rw [ew83]; exact hv_up_k h79 (Ne.symm ne_x_lg3)
  have h93 : w83 q67 = some (.inr (2, [.int 0, .int 0, .int 0, .int 0, .int 0])) := by rw [ew83]; exact hv_up_k h80 (Ne.symm ne_x_q67)
  have h94 : w83 x = some (.inr (0, [.ref q1, .ref q14, .ref q36, .ref q67, .null, .null, .null, .int 0, .int 0, .int 0, .int 0, .int 0])) := by rw [ew83]; exact hv_up_s
  have hk11 : gkx x w w83 := by rw [ew83]; exact hk10.put
  refine lv_aload_n hx hb d_GK_init_48 rfl (lv_at hl 0 rfl) ?_
  refine hv_new (ci := 3) (fs := [.null, .int 0]) (C := R_Tp) (T := F_Tp) (N := 2) hx hb hts i_Tp t_Tp t_Tp_ok hown (hts _ k_GK_29) (hts _ kin_Tp) (hts _ kn_Tp) hK hP hS hZ.2.1 rfl z_Tp (Nat.le_of_ble_eq_true rfl) (Nat.le_of_ble_eq_true rfl) d_GK_init_49 (fun q95 H hq96 hP hS => ?_)
  have ne_x_q95 : x ≠ q95 := hv_ne_f hq96 h94
  have ne_q1_q95 : q1 ≠ q95 := hv_ne_f hq96 h84
  have ne_ng1_q95 : ng1 ≠ q95 := hv_ne_f hq96 h85
  have ne_lg1_q95 : lg1 ≠ q95 := hv_ne_f hq96 h86
  have ne_q14_q95 : q14 ≠ q95 := hv_ne_f hq96 h87
  have ne_ng2_q95 : ng2 ≠ q95 := hv_ne_f hq96 h88
  have ne_lg2_q95 : lg2 ≠ q95 := hv_ne_f hq96 h89
  have ne_q36_q95 : q36 ≠ q95 := hv_ne_f hq96 h90
  have ne_ng3_q95 : ng3 ≠ q95 := hv_ne_f hq96 h91
  have ne_lg3_q95 : lg3 ≠ q95 := hv_ne_f hq96 h92
  have ne_q67_q95 : q67 ≠ q95 := hv_ne_f hq96 h93
  have hf_q95 : w q95 = none := hk11.fr hq96 (Ne.symm ne_x_q95)
  obtain ⟨w97, ew97⟩ : ∃ z9 : hv_W, z9 = va_up w83 q95 (some (.inr (3, [.null, .int 0]))) := ⟨_, rfl⟩
  have hP : hv_P D classes s0.heap.size w97 H := by rw [ew97]; exact hP
  have h98 : w97 x = some (.inr (0, [.ref q1, .ref q14, .ref q36, .ref q67, .null, .null, .null, .int 0, .int 0, .int 0, .int 0, .int 0])) := by rw [ew97]; exact hv_up_f hq96 h94
  have h99 : w97 q1 = some (.inr (1, [.ref ng1, .ref lg1])) := by rw [ew97]; exact hv_up_f hq96 h84
  have h100 : w97 ng1 = some (.inl (ca 5, 64, .inr (.inr (.inr (.inr (fun _ => none)))))) := by rw [ew97]; exact hv_up_f hq96 h85
  have h101 : w97 lg1 = some (.inl (ca 6, 96, .inr (.inr (.inr (.inr (fun _ => none)))))) := by rw [ew97]; exact hv_up_f hq96 h86
  have h102 : w97 q14 = some (.inr (1, [.ref ng2, .ref lg2])) := by rw [ew97]; exact hv_up_f hq96 h87
  have h103 : w97 ng2 = some (.inl (ca 5, 64, .inr (.inr (.inr (.inr (fun _ => none)))))) := by rw [ew97]; exact hv_up_f hq96 h88
  have h104 : w97 lg2 = some (.inl (ca 6, 96, .inr (.inr (.inr (.inr (fun _ => none)))))) := by rw [ew97]; exact hv_up_f hq96 h89
  have h105 : w97 q36 = some (.inr (1, [.ref ng3, .ref lg3])) := by rw [ew97]; exact hv_up_f hq96 h90
  have h106 : w97 ng3 = some (.inl (ca 5, 64, .inr (.inr (.inr (.inr (fun _ => none)))))) := by rw [ew97]; exact hv_up_f hq96 h91
  have h107 : w97 lg3 = some (.inl (ca 6, 96, .inr (.inr (.inr (.inr (fun _ => none)))))) := by rw [ew97]; exact hv_up_f hq96 h92
  have h108 : w97 q67 = some (.inr (2, [.int 0, .int 0, .int 0, .int 0, .int 0])) := by rw [ew97]; exact hv_up_f hq96 h93
  have h109 : w97 q95 = some (.inr (3, [.null, .int 0])) := by rw [ew97]; exact hv_up_s
  have hk12 : gkx x w w97 := by rw [ew97]; exact hk11.new hq96
  refine W.widen (k := 11) (n := 493) (by omega) (by omega) ?_
  show W _ _ _ _ _ _ _ _ _ _ _ _ _ _ _ (F0 m 52 ls [.ref q95, .ref x])
  refine lv_dup hx hb d_GK_init_52 rfl ?_
  refine hv_call (hv_runIN (As := []) (rest := [.ref q95, .ref x]) (c_Tp_init C h109) (hv_cw C hZ kc_Tp_init kn_Tp ⟨rfl, rfl, Nat.le_of_ble_eq_true rfl, Nat.le_of_ble_eq_true rfl⟩) hv_blind (hv_pre hZ hS hP) hx hml hb hown (hv_nest C hZ k_GK_31) (hts _ ki_Tp_init) rfl hy_Tp_init (hts _ kc_Tp_init) rfl hl.1 rfl (lv_room (Nat.le_of_ble_eq_true rfl)) d_GK_init_53 ⟨Nat.le_of_ble_eq_true rfl, Nat.le_of_ble_eq_true rfl⟩) hZ hS (fun v9 w110 H locs q111 hP hS => ?_) (fun x9 w110 H locs q111 hP hS => q111.elim)
  obtain ⟨hv9, tb, hn_tb, hc_tp, hc1_tp, ho_tp⟩ := q111
  subst hv9
  have ne_x_tb : x ≠ tb := hv_ne_f hn_tb h98
  have ne_q1_tb : q1 ≠ tb := hv_ne_f hn_tb h99
  have ne_ng1_tb : ng1 ≠ tb := hv_ne_f hn_tb h100
  have ne_lg1_tb : lg1 ≠ tb := hv_ne_f hn_tb h101
  have ne_q14_tb : q14 ≠ tb := hv_ne_f hn_tb h102
  have ne_ng2_tb : ng2 ≠ tb := hv_ne_f hn_tb h103
  have ne_lg2_tb : lg2 ≠ tb := hv_ne_f hn_tb h104
  have ne_q36_tb : q36 ≠ tb := hv_ne_f hn_tb h105
  have ne_ng3_tb : ng3 ≠ tb := hv_ne_f hn_tb h106
  have ne_lg3_tb : lg3 ≠ tb := hv_ne_f hn_tb h107
  have ne_q67_tb : q67 ≠ tb := hv_ne_f hn_tb h108
  have ne_q95_tb : q95 ≠ tb := hv_ne_f hn_tb h109
  have hf_tb : w tb = none := hk12.fr hn_tb (Ne.symm ne_x_tb)
  have h112 : w110 x = some (.inr (0, [.ref q1, .ref q14, .ref q36, .ref q67, .null, .null, .null, .int 0, .int 0, .int 0, .int 0, .int 0])) := (ho_tp x ne_x_q95 ne_x_tb).trans h98
  have h113 : w110 q1 = some (.inr (1, [.ref ng1, .ref lg1])) := (ho_tp q1 ne_q1_q95 ne_q1_tb).trans h99
  have h114 : w110 ng1 = some (.inl (ca 5, 64, .inr (.inr (.inr (.inr (fun _ => none)))))) := (ho_tp ng1 ne_ng1_q95 ne_ng1_tb).trans h100
  have h115 : w110 lg1 = some (.inl (ca 6, 96, .inr (.inr (.inr (.inr (fun _ => none)))))) := (ho_tp lg1 ne_lg1_q95 ne_lg1_tb).trans h101
  have h116 : w110 q14 = some (.inr (1, [.ref ng2, .ref lg2])) := (ho_tp q14 ne_q14_q95 ne_q14_tb).trans h102
  have h117 : w110 ng2 = some (.inl (ca 5, 64, .inr (.inr (.inr (.inr (fun _ => none)))))) := (ho_tp ng2 ne_ng2_q95 ne_ng2_tb).trans h103
  have h118 : w110 lg2 = some (.inl (ca 6, 96, .inr (.inr (.inr (.inr (fun _ => none)))))) := (ho_tp lg2 ne_lg2_q95 ne_lg2_tb).trans h104
  have h119 : w110 q36 = some (.inr (1, [.ref ng3, .ref lg3])) := (ho_tp q36 ne_q36_q95 ne_q36_tb).trans h105
  have h120 : w110 ng3 = some (.inl (ca 5, 64, .inr (.inr (.inr (.inr (fun _ => none)))))) := (ho_tp ng3 ne_ng3_q95 ne_ng3_tb).trans h106
  have h121 : w110 lg3 = some (.inl (ca 6, 96, .inr (.inr (.inr (.inr (fun _ => none)))))) := (ho_tp lg3 ne_lg3_q95 ne_lg3_tb).trans h107
  have h122 : w110 q67 = some (.inr (2, [.int 0, .int 0, .int 0, .int 0, .int 0])) := (ho_tp q67 ne_q67_q95 ne_q67_tb).trans h108
  have hk13 : gkx x w w110 := fun b e hb hw => (ho_tp b (fun z => by rw [z, hf_q95] at hw; cases hw) (fun z => by rw [z, hf_tb] at hw; cases hw)).trans (hk12 b e hb hw)
  show W _ _ _ _ _ _ _ _ _ _ _ _ _ _ _ (F0 m 56 ls [.ref q95, .ref x])
  refine hv_putF (D := D) (ci := 0) (v := .ref q95) (ty := .object "GraphKeep$Tape") (C := R_GK) (T := F_GK) (N := 12) hx hb hts i_GK t_GK t_GK_ok n_GK hown hK hP hS h112 rfl 4 (by decide) (hts _ k_GK_32) (fun _ h9 => h9) rfl hname rfl (by decide +kernel) rfl rfl (Nat.le_of_ble_eq_true rfl) d_GK_init_56 (fun H locs hP hS => ?_)
  obtain ⟨w123, ew123⟩ : ∃ z9 : hv_W, z9 = va_up w110 x (some (.inr (0, [.ref q1, .ref q14, .ref q36, .ref q67, .ref q95, .null, .null, .int 0, .int 0, .int 0, .int 0, .int 0]))) := ⟨_, rfl⟩
  have hP : hv_P D classes s0.heap.size w123 H := by rw [ew123]; exact hP
  have h124 : w123 q1 = some (.inr (1, [.ref ng1, .ref lg1])) := by rw [ew123]; exact hv_up_k h113 (Ne.symm ne_x_q1)
  have h125 : w123 ng1 = some (.inl (ca 5, 64, .inr (.inr (.inr (.inr (fun _ => none)))))) := by rw [ew123]; exact hv_up_k h114 (Ne.symm ne_x_ng1)
  have h126 : w123 lg1 = some (.inl (ca 6, 96, .inr (.inr (.inr (.inr (fun _ => none)))))) := by rw [ew123]; exact hv_up_k h115 (Ne.symm ne_x_lg1)
  have h127 : w123 q14 = some (.inr (1, [.ref ng2, .ref lg2])) := by rw [ew123]; exact hv_up_k h116 (Ne.symm ne_x_q14)
  have h128 : w123 ng2 = some (.inl (ca 5, 64, .inr (.inr (.inr (.inr (fun _ => none)))))) := by rw [ew123]; exact hv_up_k h117 (Ne.symm ne_x_ng2)
  have h129 : w123 lg2 = some (.inl (ca 6, 96, .inr (.inr (.inr (.inr (fun _ => none)))))) := by rw [ew123]; exact hv_up_k h118 (Ne.symm ne_x_lg2)
  have h130 : w123 q36 = some (.inr (1, [.ref ng3, .ref lg3])) := by rw [ew123]; exact hv_up_k h119 (Ne.symm ne_x_q36)
  have h131 : w123 ng3 = some (.inl (ca 5, 64, .inr (.inr (.inr (.inr (fun _ => none)))))) := by rw [ew123]; exact hv_up_k h120 (Ne.symm ne_x_ng3)
  have h132 : w123 lg3 = some (.inl (ca 6, 96, .inr (.inr (.inr (.inr (fun _ => none)))))) := by rw [ew123]; exact hv_up_k h121 (Ne.symm ne_x_lg3)
  have h133 : w123 q67 = some (.inr (2, [.int 0, .int 0, .int 0, .int 0, .int 0])) := by rw [ew123]; exact hv_up_k h122 (Ne.symm ne_x_q67)
  have h134 : w123 q95 = some (.inr (3, [.ref tb, .int 0])) := by rw [ew123]; exact hv_up_k hc_tp (Ne.symm ne_x_q95)
  have h135 : w123 tb = some (.inl (ca 1, 24, .inl (fun _ => 0))) := by rw [ew123]; exact hv_up_k hc1_tp (Ne.symm ne_x_tb)
  have h136 : w123 x = some (.inr (0, [.ref q1, .ref q14, .ref q36, .ref q67, .ref q95, .null, .null, .int 0, .int 0, .int 0, .int 0, .int 0])) := by rw [ew123]; exact hv_up_s
  have hk14 : gkx x w w123 := by rw [ew123]; exact hk13.put
  refine lv_aload_n hx hb d_GK_init_59 rfl (lv_at hl 0 rfl) ?_
  refine lv_bipush (v := 64) hx hb d_GK_init_60 (by decide) ?_
  refine hv_newa (a0 := (64, .inl (fun _ => 0))) hx hb (show (Cond.arrayClass (newarray.typeOf .boolean)).before _ s = true from hts _ ka_boolean) rfl hK hP hS hZ.2.1 2 rfl (N' := 64) (fun _ => rfl) (nI_pos (n := 64) (by omega)) (nI_clamp (n := 64) (by omega)) (gk_bytes (Nat.le_trans (Nat.mul_le_mul_left _ (by decide : _ ≤ 8)) (by omega))) (Nat.le_of_ble_eq_true rfl) (by show _ + _ ≤ 677; omega) d_GK_init_62 (fun q137 H hq138 hP hS => ?_)
  have ne_x_q137 : x ≠ q137 := hv_ne_f hq138 h136
  have ne_q1_q137 : q1 ≠ q137 := hv_ne_f hq138 h124
  have ne_ng1_q137 : ng1 ≠ q137 := hv_ne_f hq138 h125
  have ne_lg1_q137 : lg1 ≠ q137 := hv_ne_f hq138 h126
  have ne_q14_q137 : q14 ≠ q137 := hv_ne_f hq138 h127
  have ne_ng2_q137 : ng2 ≠ q137 := hv_ne_f hq138 h128
  have ne_lg2_q137 : lg2 ≠ q137 := hv_ne_f hq138 h129
  have ne_q36_q137 : q36 ≠ q137 := hv_ne_f hq138 h130
  have ne_ng3_q137 : ng3 ≠ q137 := hv_ne_f hq138 h131
  have ne_lg3_q137 : lg3 ≠ q137 := hv_ne_f hq138 h132
  have ne_q67_q137 : q67 ≠ q137 := hv_ne_f hq138 h133
  have ne_q95_q137 : q95 ≠ q137 := hv_ne_f hq138 h134
  have ne_tb_q137 : tb ≠ q137 := hv_ne_f hq138 h135
  have hf_q137 : w q137 = none := hk14.fr hq138 (Ne.symm ne_x_q137)
  obtain ⟨w139, ew139⟩ : ∃ z9 : hv_W, z9 = va_up w123 q137 (some (.inl (ca 2, 64, .inl (fun _ => 0)))) := ⟨_, rfl⟩
  have hP : hv_P D classes s0.heap.size w139 H := by rw [ew139]; exact hP
  have h140 : w139 x = some (.inr (0, [.ref q1, .ref q14, .ref q36, .ref q67, .ref q95, .null, .null, .int 0, .int 0, .int 0, .int 0, .int 0])) := by rw [ew139]; exact hv_up_f hq138 h136
  have h141 : w139 q1 = some (.inr (1, [.ref ng1, .ref lg1])) := by rw [ew139]; exact hv_up_f hq138 h124
  have h142 : w139 ng1 = some (.inl (ca 5, 64, .inr (.inr (.inr (.inr (fun _ => none)))))) := by rw [ew139]; exact hv_up_f hq138 h125
  have h143 : w139 lg1 = some (.inl (ca 6, 96, .inr (.inr (.inr (.inr (fun _ => none)))))) := by rw [ew139]; exact hv_up_f hq138 h126
  have h144 : w139 q14 = some (.inr (1, [.ref ng2, .ref lg2])) := by rw [ew139]; exact hv_up_f hq138 h127
  have h145 : w139 ng2 = some (.inl (ca 5, 64, .inr (.inr (.inr (.inr (fun _ => none)))))) := by rw [ew139]; exact hv_up_f hq138 h128
  have h146 : w139 lg2 = some (.inl (ca 6, 96, .inr (.inr (.inr (.inr (fun _ => none)))))) := by rw [ew139]; exact hv_up_f hq138 h129
  have h147 : w139 q36 = some (.inr (1, [.ref ng3, .ref lg3])) := by rw [ew139]; exact hv_up_f hq138 h130
  have h148 : w139 ng3 = some (.inl (ca 5, 64, .inr (.inr (.inr (.inr (fun _ => none)))))) := by rw [ew139]; exact hv_up_f hq138 h131
  have h149 : w139 lg3 = some (.inl (ca 6, 96, .inr (.inr (.inr (.inr (fun _ => none)))))) := by rw [ew139]; exact hv_up_f hq138 h132
  have h150 : w139 q67 = some (.inr (2, [.int 0, .int 0, .int 0, .int 0, .int 0])) := by rw [ew139]; exact hv_up_f hq138 h133
  have h151 : w139 q95 = some (.inr (3, [.ref tb, .int 0])) := by rw [ew139]; exact hv_up_f hq138 h134
  have h152 : w139 tb = some (.inl (ca 1, 24, .inl (fun _ => 0))) := by rw [ew139]; exact hv_up_f hq138 h135
  have h153 : w139 q137 = some (.inl (ca 2, 64, .inl (fun _ => 0))) := by rw [ew139]; exact hv_up_s
  have hk15 : gkx x w w139 := by rw [ew139]; exact hk14.new hq138
  refine W.widen (k := 13) (n := 581) (by omega) (by omega) ?_
  show W _ _ _ _ _ _ _ _ _ _ _ _ _ _ _ (F0 m 64 ls [.ref q137, .ref x])
  refine hv_putF (D := D) (ci := 0) (v := .ref q137) (ty := .array .boolean) (C := R_GK) (T := F_GK) (N := 12) hx hb hts i_GK t_GK t_GK_ok n_GK hown hK hP hS h140 rfl 5 (by decide) (hts _ k_GK_36) (fun _ h9 => h9) rfl hname rfl (by decide +kernel) rfl rfl (Nat.le_of_ble_eq_true rfl) d_GK_init_64 (fun H locs hP hS => ?_)
  obtain ⟨w154, ew154⟩ : ∃ z9 : hv_W, z9 = va_up w139 x (some (.inr (0, [.ref q1, .ref q14, .ref q36, .ref q67, .ref q95, .ref q137, .null, .int 0, .int 0, .int 0, .int 0, .int 0]))) := ⟨_, rfl⟩
  have hP : hv_P D classes s0.heap.size w154 H := by rw [ew154]; exact hP
  have h155 : w154 q1 = some (.inr (1, [.ref ng1, .ref lg1])) := by rw [ew154]; exact hv_up_k h141 (Ne.symm ne_x_q1)
  have h156 : w154 ng1 = some (.inl (ca 5, 64, .inr (.inr (.inr (.inr (fun _ => none)))))) := by rw [ew154]; exact hv_up_k h142 (Ne.symm ne_x_ng1)
  have h157 : w154 lg1 = some (.inl (ca 6, 96, .inr (.inr (.inr (.inr (fun _ => none)))))) := by rw [ew154]; exact hv_up_k h143 (Ne.symm ne_x_lg1)
  have h158 : w154 q14 = some (.inr (1, [.ref ng2, .ref lg2])) := by rw [ew154]; exact hv_up_k h144 (Ne.symm ne_x_q14)
  have h159 : w154 ng2 = some (.inl (ca 5, 64, .inr (.inr (.inr (.inr (fun _ => none)))))) := by rw [ew154]; exact hv_up_k h145 (Ne.symm ne_x_ng2)
  have h160 : w154 lg2 = some (.inl (ca 6, 96, .inr (.inr (.inr (.inr (fun _ => none)))))) := by rw [ew154]; exact hv_up_k h146 (Ne.symm ne_x_lg2)
  have h161 : w154 q36 = some (.inr (1, [.ref ng3, .ref lg3])) := by rw [ew154]; exact hv_up_k h147 (Ne.symm ne_x_q36)
  have h162 : w154 ng3 = some (.inl (ca 5, 64, .inr (.inr (.inr (.inr (fun _ => none)))))) := by rw [ew154]; exact hv_up_k h148 (Ne.symm ne_x_ng3)
  have h163 : w154 lg3 = some (.inl (ca 6, 96, .inr (.inr (.inr (.inr (fun _ => none)))))) := by rw [ew154]; exact hv_up_k h149 (Ne.symm ne_x_lg3)
  have h164 : w154 q67 = some (.inr (2, [.int 0, .int 0, .int 0, .int 0, .int 0])) := by rw [ew154]; exact hv_up_k h150 (Ne.symm ne_x_q67)
  have h165 : w154 q95 = some (.inr (3, [.ref tb, .int 0])) := by rw [ew154]; exact hv_up_k h151 (Ne.symm ne_x_q95)
  have h166 : w154 tb = some (.inl (ca 1, 24, .inl (fun _ => 0))) := by rw [ew154]; exact hv_up_k h152 (Ne.symm ne_x_tb)
  have h167 : w154 q137 = some (.inl (ca 2, 64, .inl (fun _ => 0))) := by rw [ew154]; exact hv_up_k h153 (Ne.symm ne_x_q137)
  have h168 : w154 x = some (.inr (0, [.ref q1, .ref q14, .ref q36, .ref q67, .ref q95, .ref q137, .null, .int 0, .int 0, .int 0, .int 0, .int 0])) := by rw [ew154]; exact hv_up_s
  have hk16 : gkx x w w154 := by rw [ew154]; exact hk15.put
  refine lv_aload_n hx hb d_GK_init_67 rfl (lv_at hl 0 rfl) ?_
  refine lv_bipush (v := 96) hx hb d_GK_init_68 (by decide) ?_
  refine hv_newa (a0 := (96, .inl (fun _ => 0))) hx hb (show (Cond.arrayClass (newarray.typeOf .boolean)).before _ s = true from hts _ ka_boolean) rfl hK hP hS hZ.2.1 2 rfl (N' := 96) (fun _ => rfl) (nI_pos (n := 96) (by omega)) (nI_clamp (n := 96) (by omega)) (gk_bytes (Nat.le_trans (Nat.mul_le_mul_left _ (by decide : _ ≤ 8)) (by omega))) (Nat.le_of_ble_eq_true rfl) (by show _ + _ ≤ 677; omega) d_GK_init_70 (fun q169 H hq170 hP hS => ?_)
  have ne_x_q169 : x ≠ q169 := hv_ne_f hq170 h168
  have ne_q1_q169 : q1 ≠ q169 := hv_ne_f hq170 h155
  have ne_ng1_q169 : ng1 ≠ q169 := hv_ne_f hq170 h156
  have ne_lg1_q169 : lg1 ≠ q169 := hv_ne_f hq170 h157
  have ne_q14_q169 : q14 ≠ q169 := hv_ne_f hq170 h158
  have ne_ng2_q169 : ng2 ≠ q169 := hv_ne_f hq170 h159
  have ne_lg2_q169 : lg2 ≠ q169 := hv_ne_f hq170 h160
  have ne_q36_q169 : q36 ≠ q169 := hv_ne_f hq170 h161
  have ne_ng3_q169 : ng3 ≠ q169 := hv_ne_f hq170 h162
  have ne_lg3_q169 : lg3 ≠ q169 := hv_ne_f hq170 h163
  have ne_q67_q169 : q67 ≠ q169 := hv_ne_f hq170 h164
  have ne_q95_q169 : q95 ≠ q169 := hv_ne_f hq170 h165
  have ne_tb_q169 : tb ≠ q169 := hv_ne_f hq170 h166
  have ne_q137_q169 : q137 ≠ q169 := hv_ne_f hq170 h167
  have hf_q169 : w q169 = none := hk16.fr hq170 (Ne.symm ne_x_q169)
  obtain ⟨w171, ew171⟩ : ∃ z9 : hv_W, z9 = va_up w154 q169 (some (.inl (ca 2, 96, .inl (fun _ => 0)))) := ⟨_, rfl⟩
  have hP : hv_P D classes s0.heap.size w171 H := by rw [ew171]; exact hP
  have h172 : w171 x = some (.inr (0, [.ref q1, .ref q14, .ref q36, .ref q67, .ref q95, .ref q137, .null, .int 0, .int 0, .int 0, .int 0, .int 0])) := by rw [ew171]; exact hv_up_f hq170 h168
  have h173 : w171 q1 = some (.inr (1, [.ref ng1, .ref lg1])) := by rw [ew171]; exact hv_up_f hq170 h155
  have h174 : w171 ng1 = some (.inl (ca 5, 64, .inr (.inr (.inr (.inr (fun _ => none)))))) := by rw [ew171]; exact hv_up_f hq170 h156
  have h175 : w171 lg1 = some (.inl (ca 6, 96, .inr (.inr (.inr (.inr (fun _ => none)))))) := by rw [ew171]; exact hv_up_f hq170 h157
  have h176 : w171 q14 = some (.inr (1, [.ref ng2, .ref lg2])) := by rw [ew171]; exact hv_up_f hq170 h158
  have h177 : w171 ng2 = some (.inl (ca 5, 64, .inr (.inr (.inr (.inr (fun _ => none)))))) := by rw [ew171]; exact hv_up_f hq170 h159
  have h178 : w171 lg2 = some (.inl (ca 6, 96, .inr (.inr (.inr (.inr (fun _ => none)))))) := by rw [ew171]; exact hv_up_f hq170 h160
  have h179 : w171 q36 = some (.inr (1, [.ref ng3, .ref lg3])) := by rw [ew171]; exact hv_up_f hq170 h161
  have h180 : w171 ng3 = some (.inl (ca 5, 64, .inr (.inr (.inr (.inr (fun _ => none)))))) := by rw [ew171]; exact hv_up_f hq170 h162
  have h181 : w171 lg3 = some (.inl (ca 6, 96, .inr (.inr (.inr (.inr (fun _ => none)))))) := by rw [ew171]; exact hv_up_f hq170 h163
  have h182 : w171 q67 = some (.inr (2, [.int 0, .int 0, .int 0, .int 0, .int 0])) := by rw [ew171]; exact hv_up_f hq170 h164
  have h183 : w171 q95 = some (.inr (3, [.ref tb, .int 0])) := by rw [ew171]; exact hv_up_f hq170 h165
  have h184 : w171 tb = some (.inl (ca 1, 24, .inl (fun _ => 0))) := by rw [ew171]; exact hv_up_f hq170 h166
  have h185 : w171 q137 = some (.inl (ca 2, 64, .inl (fun _ => 0))) := by rw [ew171]; exact hv_up_f hq170 h167
  have h186 : w171 q169 = some (.inl (ca 2, 96, .inl (fun _ => 0))) := by rw [ew171]; exact hv_up_s
  have hk17 : gkx x w w171 := by rw [ew171]; exact hk16.new hq170
  refine W.widen (k := 14) (n := 677) (by omega) (by omega) ?_
  show W _ _ _ _ _ _ _ _ _ _ _ _ _ _ _ (F0 m 72 ls [.ref q169, .ref x])
  refine hv_putF (D := D) (ci := 0) (v := .ref q169) (ty := .array .boolean) (C := R_GK) (T := F_GK) (N := 12) hx hb hts i_GK t_GK t_GK_ok n_GK hown hK hP hS h172 rfl 6 (by decide) (hts _ k_GK_40) (fun _ h9 => h9) rfl hname rfl (by decide +kernel) rfl rfl (Nat.le_of_ble_eq_true rfl) d_GK_init_72 (fun H locs hP hS => ?_)
  obtain ⟨w187, ew187⟩ : ∃ z9 : hv_W, z9 = va_up w171 x (some (.inr (0, [.ref q1, .ref q14, .ref q36, .ref q67, .ref q95, .ref q137, .ref q169, .int 0, .int 0, .int 0, .int 0, .int 0]))) := ⟨_, rfl⟩
  have hP : hv_P D classes s0.heap.size w187 H := by rw [ew187]; exact hP
  have h188 : w187 q1 = some (.inr (1, [.ref ng1, .ref lg1])) := by rw [ew187]; exact hv_up_k h173 (Ne.symm ne_x_q1)
  have h189 : w187 ng1 = some (.inl (ca 5, 64, .inr (.inr (.inr (.inr (fun _ => none)))))) := by rw [ew187]; exact hv_up_k h174 (Ne.symm ne_x_ng1)
  have h190 : w187 lg1 = some (.inl (ca 6, 96, .inr (.inr (.inr (.inr (fun _ => none)))))) := by rw [ew187]; exact hv_up_k h175 (Ne.symm ne_x_lg1)
  have h191 : w187 q14 = some (.inr (1, [.ref ng2, .ref lg2])) := by rw [ew187]; exact hv_up_k h176 (Ne.symm ne_x_q14)
  have h192 : w187 ng2 = some (.inl (ca 5, 64, .inr (.inr (.inr (.inr (fun _ => none)))))) := by rw [ew187]; exact hv_up_k h177 (Ne.symm ne_x_ng2)
  have h193 : w187 lg2 = some (.inl (ca 6, 96, .inr (.inr (.inr (.inr (fun _ => none)))))) := by rw [ew187]; exact hv_up_k h178 (Ne.symm ne_x_lg2)
  have h194 : w187 q36 = some (.inr (1, [.ref ng3, .ref lg3])) := by rw [ew187]; exact hv_up_k h179 (Ne.symm ne_x_q36)
  have h195 : w187 ng3 = some (.inl (ca 5, 64, .inr (.inr (.inr (.inr (fun _ => none)))))) := by rw [ew187]; exact hv_up_k h180 (Ne.symm ne_x_ng3)
  have h196 : w187 lg3 = some (.inl (ca 6, 96, .inr (.inr (.inr (.inr (fun _ => none)))))) := by rw [ew187]; exact hv_up_k h181 (Ne.symm ne_x_lg3)
  have h197 : w187 q67 = some (.inr (2, [.int 0, .int 0, .int 0, .int 0, .int 0])) := by rw [ew187]; exact hv_up_k h182 (Ne.symm ne_x_q67)
  have h198 : w187 q95 = some (.inr (3, [.ref tb, .int 0])) := by rw [ew187]; exact hv_up_k h183 (Ne.symm ne_x_q95)
  have h199 : w187 tb = some (.inl (ca 1, 24, .inl (fun _ => 0))) := by rw [ew187]; exact hv_up_k h184 (Ne.symm ne_x_tb)
  have h200 : w187 q137 = some (.inl (ca 2, 64, .inl (fun _ => 0))) := by rw [ew187]; exact hv_up_k h185 (Ne.symm ne_x_q137)
  have h201 : w187 q169 = some (.inl (ca 2, 96, .inl (fun _ => 0))) := by rw [ew187]; exact hv_up_k h186 (Ne.symm ne_x_q169)
  have h202 : w187 x = some (.inr (0, [.ref q1, .ref q14, .ref q36, .ref q67, .ref q95, .ref q137, .ref q169, .int 0, .int 0, .int 0, .int 0, .int 0])) := by rw [ew187]; exact hv_up_s
  have hk18 : gkx x w w187 := by rw [ew187]; exact hk17.put
  have hd14 : [tb].Nodup := List.nodup_cons.mpr ⟨by simp, List.nodup_nil⟩
  have hd13 : [lg3, tb].Nodup := List.nodup_cons.mpr ⟨by simp only [List.mem_singleton]; exact (ne_lg3_tb), hd14⟩
  have hd12 : [ng3, lg3, tb].Nodup := List.nodup_cons.mpr ⟨by simp only [List.mem_cons, List.not_mem_nil, or_false, not_or]; exact ⟨(hab_g3), (ne_ng3_tb)⟩, hd13⟩
  have hd11 : [lg2, ng3, lg3, tb].Nodup := List.nodup_cons.mpr ⟨by simp only [List.mem_cons, List.not_mem_nil, or_false, not_or]; exact ⟨(ne_lg2_ng3), (ne_lg2_lg3), (ne_lg2_tb)⟩, hd12⟩
  have hd10 : [ng2, lg2, ng3, lg3, tb].Nodup := List.nodup_cons.mpr ⟨by simp only [List.mem_cons, List.not_mem_nil, or_false, not_or]; exact ⟨(hab_g2), (ne_ng2_ng3), (ne_ng2_lg3), (ne_ng2_tb)⟩, hd11⟩
  have hd9 : [lg1, ng2, lg2, ng3, lg3, tb].Nodup := List.nodup_cons.mpr ⟨by simp only [List.mem_cons, List.not_mem_nil, or_false, not_or]; exact ⟨(ne_lg1_ng2), (ne_lg1_lg2), (ne_lg1_ng3), (ne_lg1_lg3), (ne_lg1_tb)⟩, hd10⟩
  have hd8 : [ng1, lg1, ng2, lg2, ng3, lg3, tb].Nodup := List.nodup_cons.mpr ⟨by simp only [List.mem_cons, List.not_mem_nil, or_false, not_or]; exact ⟨(hab_g1), (ne_ng1_ng2), (ne_ng1_lg2), (ne_ng1_ng3), (ne_ng1_lg3), (ne_ng1_tb)⟩, hd9⟩
  have hd7 : [q169, ng1, lg1, ng2, lg2, ng3, lg3, tb].Nodup := List.nodup_cons.mpr ⟨by simp only [List.mem_cons, List.not_mem_nil, or_false, not_or]; exact ⟨(Ne.symm ne_ng1_q169), (Ne.symm ne_lg1_q169), (Ne.symm ne_ng2_q169), (Ne.symm ne_lg2_q169), (Ne.symm ne_ng3_q169), (Ne.symm ne_lg3_q169), (Ne.symm ne_tb_q169)⟩, hd8⟩
  have hd6 : [q137, q169, ng1, lg1, ng2, lg2, ng3, lg3, tb].Nodup := List.nodup_cons.mpr ⟨by simp only [List.mem_cons, List.not_mem_nil, or_false, not_or]; exact ⟨(ne_q137_q169), (Ne.symm ne_ng1_q137), (Ne.symm ne_lg1_q137), (Ne.symm ne_ng2_q137), (Ne.symm ne_lg2_q137), (Ne.symm ne_ng3_q137), (Ne.symm ne_lg3_q137), (Ne.symm ne_tb_q137)⟩, hd7⟩
  have hd5 : [q95, q137, q169, ng1, lg1, ng2, lg2, ng3, lg3, tb].Nodup := List.nodup_cons.mpr ⟨by simp only [List.mem_cons, List.not_mem_nil, or_false, not_or]; exact ⟨(ne_q95_q137), (ne_q95_q169), (Ne.symm ne_ng1_q95), (Ne.symm ne_lg1_q95), (Ne.symm ne_ng2_q95), (Ne.symm ne_lg2_q95), (Ne.symm ne_ng3_q95), (Ne.symm ne_lg3_q95), (ne_q95_tb)⟩, hd6⟩
  have hd4 : [q67, q95, q137, q169, ng1, lg1, ng2, lg2, ng3, lg3, tb].Nodup := List.nodup_cons.mpr ⟨by simp only [List.mem_cons, List.not_mem_nil, or_false, not_or]; exact ⟨(ne_q67_q95), (ne_q67_q137), (ne_q67_q169), (Ne.symm ne_ng1_q67), (Ne.symm ne_lg1_q67), (Ne.symm ne_ng2_q67), (Ne.symm ne_lg2_q67), (Ne.symm ne_ng3_q67), (Ne.symm ne_lg3_q67), (ne_q67_tb)⟩, hd5⟩
  have hd3 : [q36, q67, q95, q137, q169, ng1, lg1, ng2, lg2, ng3, lg3, tb].Nodup := List.nodup_cons.mpr ⟨by simp only [List.mem_cons, List.not_mem_nil, or_false, not_or]; exact ⟨(ne_q36_q67), (ne_q36_q95), (ne_q36_q137), (ne_q36_q169), (Ne.symm ne_ng1_q36), (Ne.symm ne_lg1_q36), (Ne.symm ne_ng2_q36), (Ne.symm ne_lg2_q36), (ne_q36_ng3), (ne_q36_lg3), (ne_q36_tb)⟩, hd4⟩
  have hd2 : [q14, q36, q67, q95, q137, q169, ng1, lg1, ng2, lg2, ng3, lg3, tb].Nodup := List.nodup_cons.mpr ⟨by simp only [List.mem_cons, List.not_mem_nil, or_false, not_or]; exact ⟨(ne_q14_q36), (ne_q14_q67), (ne_q14_q95), (ne_q14_q137), (ne_q14_q169), (Ne.symm ne_ng1_q14), (Ne.symm ne_lg1_q14), (ne_q14_ng2), (ne_q14_lg2), (ne_q14_ng3), (ne_q14_lg3), (ne_q14_tb)⟩, hd3⟩
  have hd1 : [q1, q14, q36, q67, q95, q137, q169, ng1, lg1, ng2, lg2, ng3, lg3, tb].Nodup := List.nodup_cons.mpr ⟨by simp only [List.mem_cons, List.not_mem_nil, or_false, not_or]; exact ⟨(ne_q1_q14), (ne_q1_q36), (ne_q1_q67), (ne_q1_q95), (ne_q1_q137), (ne_q1_q169), (ne_q1_ng1), (ne_q1_lg1), (ne_q1_ng2), (ne_q1_lg2), (ne_q1_ng3), (ne_q1_lg3), (ne_q1_tb)⟩, hd2⟩
  have hd0 : [x, q1, q14, q36, q67, q95, q137, q169, ng1, lg1, ng2, lg2, ng3, lg3, tb].Nodup := List.nodup_cons.mpr ⟨by simp only [List.mem_cons, List.not_mem_nil, or_false, not_or]; exact ⟨(ne_x_q1), (ne_x_q14), (ne_x_q36), (ne_x_q67), (ne_x_q95), (ne_x_q137), (ne_x_q169), (ne_x_ng1), (ne_x_lg1), (ne_x_ng2), (ne_x_lg2), (ne_x_ng3), (ne_x_lg3), (ne_x_tb)⟩, hd1⟩
  have hcc : ∀ i, i < 15 → w187 ((fun i => [x, q1, q14, q36, q67, q95, q137, q169, ng1, lg1, ng2, lg2, ng3, lg3, tb].getD i 0) i) = (ccl ca (fun i => [x, q1, q14, q36, q67, q95, q137, q169, ng1, lg1, ng2, lg2, ng3, lg3, tb].getD i 0) gS0 ((fun _ => 0, fun _ => 0, fun _ => 0, fun _ => none, fun _ => none, fun _ => none, fun _ => none, fun _ => none, fun _ => none) : cT))[i]? := by
    intro i hi
    rcases (show i = 0 ∨ i = 1 ∨ i = 2 ∨ i = 3 ∨ i = 4 ∨ i = 5 ∨ i = 6 ∨ i = 7 ∨ i = 8 ∨ i = 9 ∨ i = 10 ∨ i = 11 ∨ i = 12 ∨ i = 13 ∨ i = 14 by omega) with rfl | rfl | rfl | rfl | rfl | rfl | rfl | rfl | rfl | rfl | rfl | rfl | rfl | rfl | rfl
    · exact h202
    · exact h188
    · exact h191
    · exact h194
    · exact h197
    · exact h198
    · exact h200
    · exact h201
    · exact h189
    · exact h190
    · exact h192
    · exact h193
    · exact h195
    · exact h196
    · exact h199
  have hnn : ∀ b, b ≠ x → w b ≠ none → ¬ cM (fun i => [x, q1, q14, q36, q67, q95, q137, q169, ng1, lg1, ng2, lg2, ng3, lg3, tb].getD i 0) b := by
    rintro b hb hw ⟨i, hi, e⟩
    rcases (show i = 0 ∨ i = 1 ∨ i = 2 ∨ i = 3 ∨ i = 4 ∨ i = 5 ∨ i = 6 ∨ i = 7 ∨ i = 8 ∨ i = 9 ∨ i = 10 ∨ i = 11 ∨ i = 12 ∨ i = 13 ∨ i = 14 by omega) with rfl | rfl | rfl | rfl | rfl | rfl | rfl | rfl | rfl | rfl | rfl | rfl | rfl | rfl | rfl
    · exact hb e
    · exact hw (by rw [e]; exact hf_q1)
    · exact hw (by rw [e]; exact hf_q14)
    · exact hw (by rw [e]; exact hf_q36)
    · exact hw (by rw [e]; exact hf_q67)
    · exact hw (by rw [e]; exact hf_q95)
    · exact hw (by rw [e]; exact hf_q137)
    · exact hw (by rw [e]; exact hf_q169)
    · exact hw (by rw [e]; exact hf_ng1)
    · exact hw (by rw [e]; exact hf_lg1)
    · exact hw (by rw [e]; exact hf_ng2)
    · exact hw (by rw [e]; exact hf_lg2)
    · exact hw (by rw [e]; exact hf_ng3)
    · exact hw (by rw [e]; exact hf_lg3)
    · exact hw (by rw [e]; exact hf_tb)
  exact hv_vret hQ hx hb hr hZ hS hP hlocks d_GK_init_75 (⟨rfl, (fun i => [x, q1, q14, q36, q67, q95, q137, q169, ng1, lg1, ng2, lg2, ng3, lg3, tb].getD i 0), rfl, ⟨((fun _ => 0, fun _ => 0, fun _ => 0, fun _ => none, fun _ => none, fun _ => none, fun _ => none, fun _ => none, fun _ => none) : cT), ⟨⟨gL_inj hd0, hcc⟩, fun b e hb hw => hk18 b e (fun z => hb ⟨0, by decide, z⟩) hw⟩, ⟨fun _ _ => trivial, fun _ _ => trivial⟩, fun _ => ⟨fun _ _ => trivial, fun _ _ => trivial⟩, ⟨fun _ _ => trivial, fun _ _ => trivial⟩, fun _ _ => rfl, fun _ _ => rfl, fun _ h9 => absurd h9 (Nat.not_lt_zero _)⟩, hnn⟩)

