abbrev rm_GK_type : Room := { frames := 2, cells := 0, slots := 0, locals := 46 }
set_option maxHeartbeats 4000000 in
set_option maxRecDepth 100000 in
theorem c_GK_type {l : Launch} {s0 : State} {D : va_G} {ca : Nat → ClassId} (C : hv_C l s0 D (hv_tys ca)) {w : hv_W} (N : hv_N s0) {L : Nat → Nat} {w0 : hv_W} {σ : gS} {P : cT} (y : Int64) (n : Int32) (hM : cK ca L w0 σ P w) (hR : cR ca L σ P w) (hW : gW σ)  :
    hv_Met l y_GK_type [.code y_GK_type b_GK_type 4 (some .boolean)] rm_GK_type (hv_Pc s0 D w [.ref (L 0), .long y, .int n]) (hv_Q s0 D (fun v w' => cRet ca L w0 (x_type σ y n) v w') (fun _ _ => False)) 0 0 (hv_A s0.heap.size) := by
  refine hv_enter C _ (by decide) (Nat.le_of_ble_eq_true rfl) ?_
  intro p e s m below meth c ls Q hQ hx hb hr hml hown hts hK hZ hlocks hname hout htr hP hl
  have hown : s.vm.findClass R_GK = some m.cls := hown
  have hS : va_S (hv_A s0.heap.size) s.heap s.heap [] := va_S.rf
  have hl : lv_has ls 4 [(0, .ref (L 0)), (1, .long y), (3, .int n)] := hl
  refine lv_aload_n hx hb d_GK_type_0 rfl (lv_at hl 0 rfl) ?_
  have h1 : w (L 0) = some (.inr (0, [.ref (L 1), .ref (L 2), .ref (L 3), .ref (L 4), .ref (L 5), .ref (L 6), .ref (L 7), .int (σ.err), .int (nI (σ.sc)), .int (nI (σ.ec)), .int (σ.ins), .int (σ.off)])) := hM.1.2 0 (by decide)
  refine va_get (D := D) (ci := 0) (v := .ref (L 5)) (C := R_GK) (T := F_GK) (N := 12) hx hb hts i_GK hown hK (hv_one hP h1) 0 rfl rfl 4 (by decide) (hts _ k_GK_32) (fun _ h9 => h9) rfl d_GK_type_1 ?_
  refine lv_lload_n hx hb d_GK_type_4 rfl (lv_at hl 1 rfl) ?_
  refine lv_iload_n hx hb d_GK_type_5 rfl (lv_at hl 2 rfl) ?_
  have h2 : w (L 5) = some (.inr (3, [.ref (L 14), .int (nI (σ.tape).length)])) := hM.1.2 5 (by decide)
  have h3 : w (L 14) = some (.inl (ca 1, 24, .inl P.tb)) := hM.1.2 14 (by decide)
  refine hv_call (hv_runV (As := [.long y, .int n]) (rest := []) (c_Tp_append C y n h2 h3 hR.2.2.2.2.2 hW.tape) (hv_cw C hZ kc_Tp_append kn_Tp ⟨rfl, rfl, Nat.le_of_ble_eq_true rfl, Nat.le_of_ble_eq_true rfl⟩) hv_blind (hv_pre hZ hS hP) hx hml hb hown (hts _ k_GK_43) (hts _ ki_Tp_append) (hts _ ksel_Tp_Tp_append) hy_Tp_append (hts _ kc_Tp_append) (va_recv hK (hv_one hP h2) (ci := 3) (q0 := 0) rfl rfl) rfl hl.1 rfl (lv_room (Nat.le_of_ble_eq_true rfl)) d_GK_type_6 ⟨Nat.le_of_ble_eq_true rfl, Nat.le_of_ble_eq_true rfl⟩) hZ hS (fun v9 w4 H locs q5 hP hS => ?_) (fun x9 w4 H locs q5 hP hS => q5.elim)
  rcases q5 with ⟨hv9, hw9, hbad⟩ | ⟨N9, f9, hv9, hn9, hN8, hgd, u1, u2, u3, uo⟩
  · subst hv9
    rw [hw9] at hP
    show W _ _ _ _ _ _ _ _ _ _ _ _ _ _ _ (F0 m 9 ls [.int 0])
    exact hv_zret (v := 0) hQ hx hb hr (by decide) hZ hS hP hlocks d_GK_type_9 (by rw [x_type, cif_neg hbad]; exact ⟨rfl, rfl, P, hM, hR⟩)
  · subst hv9
    have hk9 : g_keep (cM L) w w4 := g_keep.U2 (k1 := 5) (k2 := 14) (by decide) (by decide) uo
    have hR9 := hR.k hk9
    have hM : cK ca L w0 (σ.sTape (σ.tape ++ t_acc y N9 N9)) (P.sTb f9) w4 := hM.U2 5 14 (by decide) (by decide) (by decide) u1 u2 uo rfl
    have hR : cR ca L (σ.sTape (σ.tape ++ t_acc y N9 N9)) (P.sTb f9) w4 := ⟨hR9.1, hR9.2.1, hR9.2.2.1, hR9.2.2.2.1, hR9.2.2.2.2.1, u3⟩
    show W _ _ _ _ _ _ _ _ _ _ _ _ _ _ _ (F0 m 9 ls [.int 1])
    exact hv_zret (v := 1) hQ hx hb hr (by decide) hZ hS hP hlocks d_GK_type_9 (by rw [x_type, cif_pos hgd, t_clamp hn9 hgd (by omega)]; exact ⟨rfl, rfl, _, hM, hR⟩)

abbrev rm_GK_node : Room := { frames := 9, cells := 6, slots := 20, locals := 148 }
set_option maxHeartbeats 4000000 in
set_option maxRecDepth 100000 in
theorem c_GK_node {l : Launch} {s0 : State} {D : va_G} {ca : Nat → ClassId} (C : hv_C l s0 D (hv_tys ca)) {w : hv_W} (N : hv_N s0) {L : Nat → Nat} {w0 : hv_W} {σ : gS} {P : cT} (hM : cK ca L w0 σ P w) (hR : cR ca L σ P w) (hW : gW σ)  :
    hv_Met l y_GK_node [.code y_GK_node b_GK_node 2 (some .int)] rm_GK_node (hv_Pc s0 D w [.ref (L 0)]) (hv_Q s0 D (fun v w' => cRet ca L w0 (x_node σ) v w') (fun x w' => cEx ca L w0 (x_node σ) x w')) 6 20 (hv_A s0.heap.size) := by
  refine hv_enter C _ (by decide) (Nat.le_of_ble_eq_true rfl) ?_
  intro p e s m below meth c ls Q hQ hx hb hr hml hown hts hK hZ hlocks hname hout htr hP hl
  have hown : s.vm.findClass R_GK = some m.cls := hown
  have hS : va_S (hv_A s0.heap.size) s.heap s.heap [] := va_S.rf
  have hl : lv_has ls 2 [(0, .ref (L 0))] := hl
  refine lv_aload_n hx hb d_GK_node_0 rfl (lv_at hl 0 rfl) ?_
  have h1 : w (L 0) = some (.inr (0, [.ref (L 1), .ref (L 2), .ref (L 3), .ref (L 4), .ref (L 5), .ref (L 6), .ref (L 7), .int (σ.err), .int (nI (σ.sc)), .int (nI (σ.ec)), .int (σ.ins), .int (σ.off)])) := hM.1.2 0 (by decide)
  refine hv_call (hv_runV (As := []) (rest := []) (c_GK_mustBeOn C N hM hR) (hv_cw C hZ kc_GK_mustBeOn kn_GK ⟨rfl, rfl, Nat.le_of_ble_eq_true rfl, Nat.le_of_ble_eq_true rfl⟩) hv_blind (hv_pre hZ hS hP) hx hml hb hown (hts _ k_GK_47) (hts _ ki_GK_mustBeOn) (hts _ ksel_GK_GK_mustBeOn) hy_GK_mustBeOn (hts _ kc_GK_mustBeOn) (va_recv hK (hv_one hP h1) (ci := 0) (q0 := 0) rfl rfl) rfl hl.1 rfl (lv_room (Nat.le_of_ble_eq_true rfl)) d_GK_node_1 ⟨Nat.le_of_ble_eq_true rfl, Nat.le_of_ble_eq_true rfl⟩) hZ hS (fun v9 w2 H locs q3 hP hS => ?_) (fun x9 w2 H locs q3 hP hS => ?_)
  · obtain ⟨hoff, hv9, hw9⟩ := q3
    subst hv9
    rw [hw9] at hP
    show W _ _ _ _ _ _ _ _ _ _ _ _ _ _ _ (F0 m 4 ls [])
    refine lv_aload_n hx hb d_GK_node_4 rfl (lv_at hl 0 rfl) ?_
    refine lv_iconst (v := 4) hx hb d_GK_node_5 (by decide) ?_
    refine lv_aload_n hx hb d_GK_node_6 rfl (lv_at hl 0 rfl) ?_
    refine va_get (D := D) (ci := 0) (v := .ref (L 6)) (C := R_GK) (T := F_GK) (N := 12) hx hb hts i_GK hown hK (hv_one hP h1) 0 rfl rfl 5 (by decide) (hts _ k_GK_36) (fun _ h9 => h9) rfl d_GK_node_7 ?_
    refine hv_call (hv_runV (As := [.int 4, .ref (L 6)]) (rest := []) (c_GK_freeNumberN C N hM hR) (hv_cw C hZ kc_GK_freeNumber kn_GK ⟨rfl, rfl, Nat.le_of_ble_eq_true rfl, Nat.le_of_ble_eq_true rfl⟩) hv_blind (hv_pre hZ hS hP) hx hml hb hown (hts _ k_GK_50) (hts _ ki_GK_freeNumber) (hts _ ksel_GK_GK_freeNumber) hy_GK_freeNumber (hts _ kc_GK_freeNumber) (va_recv hK (hv_one hP h1) (ci := 0) (q0 := 0) rfl rfl) rfl hl.1 rfl (lv_room (Nat.le_of_ble_eq_true rfl)) d_GK_node_10 ⟨Nat.le_of_ble_eq_true rfl, Nat.le_of_ble_eq_true rfl⟩) hZ hS (fun v9 w4 H locs q5 hP hS => ?_) (fun x9 w4 H locs q5 hP hS => ?_)
    · obtain ⟨i, hfr, hi, hv9, hw9⟩ := q5
      subst hv9
      rw [hw9] at hP
      show W _ _ _ _ _ _ _ _ _ _ _ _ _ _ _ (F0 m 13 ls [.int (nI i)])
      refine lv_istore_n (lv' := [(1, .int (nI i)), (0, .ref (L 0))]) hx hb d_GK_node_13 rfl hl (by decide) rfl (fun ls hl => ?_)
      refine lv_aload_n hx hb d_GK_node_14 rfl (lv_at hl 1 rfl) ?_
      refine hv_call (hv_runV (As := []) (rest := []) (c_GK_countChange C N hM hR hW.hb) (hv_cw C hZ kc_GK_countChange kn_GK ⟨rfl, rfl, Nat.le_of_ble_eq_true rfl, Nat.le_of_ble_eq_true rfl⟩) hv_blind (hv_pre hZ hS hP) hx hml hb hown (hts _ k_GK_54) (hts _ ki_GK_countChange) (hts _ ksel_GK_GK_countChange) hy_GK_countChange (hts _ kc_GK_countChange) (va_recv hK (hv_one hP h1) (ci := 0) (q0 := 0) rfl rfl) rfl hl.1 rfl (lv_room (Nat.le_of_ble_eq_true rfl)) d_GK_node_15 ⟨Nat.le_of_ble_eq_true rfl, Nat.le_of_ble_eq_true rfl⟩) hZ hS (fun v9 w6 H locs q7 hP hS => ?_) (fun x9 w6 H locs q7 hP hS => ?_)
      · obtain ⟨hno9, hv9, hM, hR⟩ := q7
        subst hv9
        show W _ _ _ _ _ _ _ _ _ _ _ _ _ _ _ (F0 m 18 ls [])
        refine lv_aload_n hx hb d_GK_node_18 rfl (lv_at hl 1 rfl) ?_
        have h8 : w6 (L 0) = some (.inr (0, [.ref (L 1), .ref (L 2), .ref (L 3), .ref (L 4), .ref (L 5), .ref (L 6), .ref (L 7), .int ((σ.sSc (σ.sc + 1)).err), .int (nI ((σ.sSc (σ.sc + 1)).sc)), .int (nI ((σ.sSc (σ.sc + 1)).ec)), .int ((σ.sSc (σ.sc + 1)).ins), .int ((σ.sSc (σ.sc + 1)).off)])) := hM.1.2 0 (by decide)
        refine va_get (D := D) (ci := 0) (v := .ref (L 1)) (C := R_GK) (T := F_GK) (N := 12) hx hb hts i_GK hown hK (hv_one hP h8) 0 rfl rfl 0 (by decide) (hts _ k_GK_10) (fun _ h9 => h9) rfl d_GK_node_19 ?_
        refine lv_iload_n hx hb d_GK_node_22 rfl (lv_at hl 0 rfl) ?_
        refine hv_new (ci := 5) (fs := [.null, .null]) (C := R_Nd) (T := F_Nd) (N := 2) hx hb hts i_Nd t_Nd t_Nd_ok hown (hts _ k_GK_57) (hts _ kin_Nd) (hts _ kn_Nd) hK hP hS hZ.2.1 rfl z_Nd (Nat.le_of_ble_eq_true rfl) (Nat.le_of_ble_eq_true rfl) d_GK_node_23 (fun q9 H hq10 hP hS => ?_)
        obtain ⟨w11, ew11⟩ : ∃ z9 : hv_W, z9 = va_up w6 q9 (some (.inr (5, [.null, .null]))) := ⟨_, rfl⟩
        have hP : hv_P D classes s0.heap.size w11 H := by rw [ew11]; exact hP
        have h12 : w11 q9 = some (.inr (5, [.null, .null])) := by rw [ew11]; exact hv_up_s
        refine W.widen (k := 4) (n := 20) (by omega) (by omega) ?_
        show W _ _ _ _ _ _ _ _ _ _ _ _ _ _ _ (F0 m 26 ls [.ref q9, .int (nI i), .ref (L 1)])
        have hg13 : g_grow w6 w11 := g_grow.trans (g_grow.refl _) (by rw [ew11]; exact g_grow.new hq10)
        refine lv_dup hx hb d_GK_node_26 rfl ?_
        refine lv_iconst (v := 0) hx hb d_GK_node_27 (by decide) ?_
        refine hv_newa (a0 := (0, .inl (fun _ => 0))) hx hb (show (Cond.arrayClass (newarray.typeOf .int)).before _ s = true from hts _ ka_int) rfl hK hP hS hZ.2.1 0 rfl (N' := 0) (fun _ => rfl) (nI_pos (n := 0) (by omega)) (nI_clamp (n := 0) (by omega)) (gk_bytes (Nat.le_trans (Nat.mul_le_mul_left _ (by decide : _ ≤ 8)) (by omega))) (Nat.le_of_ble_eq_true rfl) (by show _ + _ ≤ 20; omega) d_GK_node_28 (fun q14 H hq15 hP hS => ?_)
        obtain ⟨w16, ew16⟩ : ∃ z9 : hv_W, z9 = va_up w11 q14 (some (.inl (ca 0, 0, .inl (fun _ => 0)))) := ⟨_, rfl⟩
        have hP : hv_P D classes s0.heap.size w16 H := by rw [ew16]; exact hP
        have h17 : w16 q9 = some (.inr (5, [.null, .null])) := by rw [ew16]; exact hv_up_f hq15 h12
        have h18 : w16 q14 = some (.inl (ca 0, 0, .inl (fun _ => 0))) := by rw [ew16]; exact hv_up_s
        refine W.widen (k := 5) (n := 20) (by omega) (by omega) ?_
        show W _ _ _ _ _ _ _ _ _ _ _ _ _ _ _ (F0 m 30 ls [.ref q14, .ref q9, .ref q9, .int (nI i), .ref (L 1)])
        have hg19 : g_grow w6 w16 := g_grow.trans (hg13) (by rw [ew16]; exact g_grow.new hq15)
        refine lv_iconst (v := 0) hx hb d_GK_node_30 (by decide) ?_
        refine hv_newq hx hb hown (hts _ k_GK_59) (hv_over C hZ ko_Pr) hK hP hS hZ.2.1 4 rfl (N' := 0) (nI_pos (n := 0) (by omega)) (nI_clamp (n := 0) (by omega)) (by omega) (Nat.le_of_ble_eq_true rfl) (by show _ + _ ≤ 20; omega) d_GK_node_31 (fun q20 H hq21 hP hS => ?_)
        obtain ⟨w22, ew22⟩ : ∃ z9 : hv_W, z9 = va_up w16 q20 (some (.inl (ca 4, 0, .inr (.inr (.inr (.inr (fun _ => none))))))) := ⟨_, rfl⟩
        have hP : hv_P D classes s0.heap.size w22 H := by rw [ew22]; exact hP
        have h23 : w22 q9 = some (.inr (5, [.null, .null])) := by rw [ew22]; exact hv_up_f hq21 h17
        have h24 : w22 q14 = some (.inl (ca 0, 0, .inl (fun _ => 0))) := by rw [ew22]; exact hv_up_f hq21 h18
        have h25 : w22 q20 = some (.inl (ca 4, 0, .inr (.inr (.inr (.inr (fun _ => none)))))) := by rw [ew22]; exact hv_up_s
        refine W.widen (k := 6) (n := 20) (by omega) (by omega) ?_
        show W _ _ _ _ _ _ _ _ _ _ _ _ _ _ _ (F0 m 34 ls [.ref q20, .ref q14, .ref q9, .ref q9, .int (nI i), .ref (L 1)])
        have hg26 : g_grow w6 w22 := g_grow.trans (hg19) (by rw [ew22]; exact g_grow.new hq21)
        refine hv_call (hv_runI (As := [.ref q14, .ref q20]) (rest := [.ref q9, .int (nI i), .ref (L 1)]) (c_Nd_init C h23) (hv_cw C hZ kc_Nd_init kn_Nd ⟨rfl, rfl, Nat.le_of_ble_eq_true rfl, Nat.le_of_ble_eq_true rfl⟩) hv_blind (hv_pre hZ hS hP) hx hml hb hown (hts _ k_GK_61) (hts _ ki_Nd_init) rfl hy_Nd_init (hts _ kc_Nd_init) rfl hl.1 rfl (lv_room (Nat.le_of_ble_eq_true rfl)) d_GK_node_34 ⟨Nat.le_of_ble_eq_true rfl, Nat.le_of_ble_eq_true rfl⟩) hZ hS (fun v9 w27 H locs q28 hP hS => ?_) (fun x9 w27 H locs q28 hP hS => q28.elim)
        obtain ⟨hv9, hu9⟩ := q28
        subst hv9
        have hg9 : g_grow w6 w27 := g_grow.upd hq10 hg26 hu9
        have hnl : g_int ca (cM L) w27 q14 [] := g_int_nil (hM.fresh (hg13.none hq15)) (hu9.k h24 (hv_ne h24 h23 (show (100 : Nat) ≠ 5 by decide)))
        have hnp : g_props ca (cM L) w27 q20 [] := g_props_nil (hM.fresh (hg19.none hq21)) (hu9.k h25 (hv_ne h25 h23 (show (104 : Nat) ≠ 5 by decide)))
        have hnn : g_node ca (cM L) w27 q9 ([], []) := ⟨hM.fresh hq10, q20, q14, hu9.1, hnl, hnp⟩
        have hM : cK ca L w0 (σ.sSc (σ.sc + 1)) P w27 := hM.grow hg9
        have hR : cR ca L (σ.sSc (σ.sc + 1)) P w27 := hR.k hg9.keep
        show W _ _ _ _ _ _ _ _ _ _ _ _ _ _ _ (F0 m 37 ls [.ref q9, .int (nI i), .ref (L 1)])
        have h29 : w27 (L 1) = some (.inr (1, [.ref (L 8), .ref (L 9)])) := hM.1.2 1 (by decide)
        have h30 : w27 (L 8) = some (.inl (ca 5, 64, .inr (.inr (.inr (.inr P.nN))))) := hM.1.2 8 (by decide)
        refine hv_call (hv_runV (As := [.int (nI i), .ref q9]) (rest := []) (c_Gr_putNodeS C hu9.1 hi h29 h30) (hv_cw C hZ kc_Gr_putNode kn_Gr ⟨rfl, rfl, Nat.le_of_ble_eq_true rfl, Nat.le_of_ble_eq_true rfl⟩) hv_blind (hv_pre hZ hS hP) hx hml hb hown (hts _ k_GK_64) (hts _ ki_Gr_putNode) (hts _ ksel_Gr_Gr_putNode) hy_Gr_putNode (hts _ kc_Gr_putNode) (va_recv hK (hv_one hP h29) (ci := 1) (q0 := 0) rfl rfl) rfl hl.1 rfl (lv_room (Nat.le_of_ble_eq_true rfl)) d_GK_node_37 ⟨Nat.le_of_ble_eq_true rfl, Nat.le_of_ble_eq_true rfl⟩) hZ hS (fun v9 w31 H locs q32 hP hS => ?_) (fun x9 w31 H locs q32 hP hS => q32.elim)
        obtain ⟨hv9, hu8⟩ := q32
        subst hv9
        have hk9 : g_keep (cM L) w27 w31 := g_keep.U (k := 8) (by decide) hu8
        have hR9 := hR.k hk9
        have hM : cK ca L w0 (x_one σ i (some e_T)) (P.sNN (va_up P.nN i (some q9))) w31 := hM.U 8 (by decide) hu8 rfl
        have hR : cR ca L (x_one σ i (some e_T)) (P.sNN (va_up P.nN i (some q9))) w31 := ⟨cG_putN (t := e_T) hR9.1 hi (hnn.k hk9), hR9.2⟩
        show W _ _ _ _ _ _ _ _ _ _ _ _ _ _ _ (F0 m 40 ls [])
        refine lv_iload_n hx hb d_GK_node_40 rfl (lv_at hl 0 rfl) ?_
        exact hv_iret (v := nI i) hQ hx hb hr hZ hS hP hlocks d_GK_node_41 (by rw [x_node, cif_pos hoff, hfr]; dsimp only; rw [cif_neg hno9]; exact ⟨rfl, rfl, _, hM, hR⟩)
      · refine hv_Tw (k := 6) (n := 20) (by omega) (by omega) ?_
        exact hv_tleave hQ hZ hS hP hlocks (hout _) (Or.inl (by rw [x_node, cif_pos hoff, hfr]; dsimp only; rw [cif_pos q7.1]; exact ⟨rfl, q7.2⟩))
    · refine hv_Tw (k := 6) (n := 20) (by omega) (by omega) ?_
      exact hv_tleave hQ hZ hS hP hlocks (hout _) (Or.inl (by rw [x_node, cif_pos hoff, q5.1]; exact ⟨rfl, q5.2⟩))
  · refine hv_Tw (k := 6) (n := 20) (by omega) (by omega) ?_
    exact hv_tleave hQ hZ hS hP hlocks (hout _) (Or.inr (by rw [x_node, cif_neg q3.1]; exact ⟨rfl, q3.2⟩))

abbrev rm_GK_link : Room := { frames := 9, cells := 7, slots := 34, locals := 148 }
set_option maxHeartbeats 4000000 in
set_option maxRecDepth 100000 in
theorem c_GK_link {l : Launch} {s0 : State} {D : va_G} {ca : Nat → ClassId} (C : hv_C l s0 D (hv_tys ca)) {w : hv_W} (N : hv_N s0) {L : Nat → Nat} {w0 : hv_W} {σ : gS} {P : cT} (a b ty : Int32) (hM : cK ca L w0 σ P w) (hR : cR ca L σ P w) (hW : gW σ)  :
    hv_Met l y_GK_link [.code y_GK_link b_GK_link 5 (some .int)] rm_GK_link (hv_Pc s0 D w [.ref (L 0), .int a, .int b, .int ty]) (hv_Q s0 D (fun v w' => cRet ca L w0 (x_link σ a b ty) v w') (fun x w' => cEx ca L w0 (x_link σ a b ty) x w')) 7 34 (hv_A s0.heap.size) := by
  refine hv_enter C _ (by decide) (Nat.le_of_ble_eq_true rfl) ?_
  intro p e s m below meth c ls Q hQ hx hb hr hml hown hts hK hZ hlocks hname hout htr hP hl
  have hown : s.vm.findClass R_GK = some m.cls := hown
  have hS : va_S (hv_A s0.heap.size) s.heap s.heap [] := va_S.rf
  have hl : lv_has ls 5 [(0, .ref (L 0)), (1, .int a), (2, .int b), (3, .int ty)] := hl
  refine lv_aload_n hx hb d_GK_link_0 rfl (lv_at hl 0 rfl) ?_
  have h1 : w (L 0) = some (.inr (0, [.ref (L 1), .ref (L 2), .ref (L 3), .ref (L 4), .ref (L 5), .ref (L 6), .ref (L 7), .int (σ.err), .int (nI (σ.sc)), .int (nI (σ.ec)), .int (σ.ins), .int (σ.off)])) := hM.1.2 0 (by decide)
  refine hv_call (hv_runV (As := []) (rest := []) (c_GK_mustBeOn C N hM hR) (hv_cw C hZ kc_GK_mustBeOn kn_GK ⟨rfl, rfl, Nat.le_of_ble_eq_true rfl, Nat.le_of_ble_eq_true rfl⟩) hv_blind (hv_pre hZ hS hP) hx hml hb hown (hts _ k_GK_47) (hts _ ki_GK_mustBeOn) (hts _ ksel_GK_GK_mustBeOn) hy_GK_mustBeOn (hts _ kc_GK_mustBeOn) (va_recv hK (hv_one hP h1) (ci := 0) (q0 := 0) rfl rfl) rfl hl.1 rfl (lv_room (Nat.le_of_ble_eq_true rfl)) d_GK_link_1 ⟨Nat.le_of_ble_eq_true rfl, Nat.le_of_ble_eq_true rfl⟩) hZ hS (fun v9 w2 H locs q3 hP hS => ?_) (fun x9 w2 H locs q3 hP hS => ?_)
  · obtain ⟨hoff, hv9, hw9⟩ := q3
    subst hv9
    rw [hw9] at hP
    show W _ _ _ _ _ _ _ _ _ _ _ _ _ _ _ (F0 m 4 ls [])
    refine lv_aload_n hx hb d_GK_link_4 rfl (lv_at hl 0 rfl) ?_
    refine lv_iload_n hx hb d_GK_link_5 rfl (lv_at hl 1 rfl) ?_
    refine hv_call (hv_runV (As := [.int a]) (rest := []) (c_GK_wantedNode C N a hM hR) (hv_cw C hZ kc_GK_wantedNode kn_GK ⟨rfl, rfl, Nat.le_of_ble_eq_true rfl, Nat.le_of_ble_eq_true rfl⟩) hv_blind (hv_pre hZ hS hP) hx hml hb hown (hts _ k_GK_68) (hts _ ki_GK_wantedNode) (hts _ ksel_GK_GK_wantedNode) hy_GK_wantedNode (hts _ kc_GK_wantedNode) (va_recv hK (hv_one hP h1) (ci := 0) (q0 := 0) rfl rfl) rfl hl.1 rfl (lv_room (Nat.le_of_ble_eq_true rfl)) d_GK_link_6 ⟨Nat.le_of_ble_eq_true rfl, Nat.le_of_ble_eq_true rfl⟩) hZ hS (fun v9 w4 H locs q5 hP hS => ?_) (fun x9 w4 H locs q5 hP hS => ?_)
    · obtain ⟨aa, hsa, hv9, hw9⟩ := q5
      subst hv9
      rw [hw9] at hP
      show W _ _ _ _ _ _ _ _ _ _ _ _ _ _ _ (F0 m 9 ls [.ref aa])
      obtain ⟨ia, ta, hia, hea, haa, hta, hfa, hna⟩ := gk_sel_someN hR.1 hsa
      refine lv_pop hx hb d_GK_link_9 rfl ?_
      refine lv_aload_n hx hb d_GK_link_10 rfl (lv_at hl 0 rfl) ?_
      refine lv_iload_n hx hb d_GK_link_11 rfl (lv_at hl 2 rfl) ?_
      refine hv_call (hv_runV (As := [.int b]) (rest := []) (c_GK_wantedNode C N b hM hR) (hv_cw C hZ kc_GK_wantedNode kn_GK ⟨rfl, rfl, Nat.le_of_ble_eq_true rfl, Nat.le_of_ble_eq_true rfl⟩) hv_blind (hv_pre hZ hS hP) hx hml hb hown (hts _ k_GK_68) (hts _ ki_GK_wantedNode) (hts _ ksel_GK_GK_wantedNode) hy_GK_wantedNode (hts _ kc_GK_wantedNode) (va_recv hK (hv_one hP h1) (ci := 0) (q0 := 0) rfl rfl) rfl hl.1 rfl (lv_room (Nat.le_of_ble_eq_true rfl)) d_GK_link_12 ⟨Nat.le_of_ble_eq_true rfl, Nat.le_of_ble_eq_true rfl⟩) hZ hS (fun v9 w6 H locs q7 hP hS => ?_) (fun x9 w6 H locs q7 hP hS => ?_)
      · obtain ⟨ab, hsb, hv9, hw9⟩ := q7
        subst hv9
        rw [hw9] at hP
        show W _ _ _ _ _ _ _ _ _ _ _ _ _ _ _ (F0 m 15 ls [.ref ab])
        obtain ⟨ib, tb, hib, heb, hab, htb, hfb, hnb⟩ := gk_sel_someN hR.1 hsb
        refine lv_pop hx hb d_GK_link_15 rfl ?_
        refine lv_aload_n hx hb d_GK_link_16 rfl (lv_at hl 0 rfl) ?_
        refine lv_iconst (v := 5) hx hb d_GK_link_17 (by decide) ?_
        refine lv_aload_n hx hb d_GK_link_18 rfl (lv_at hl 0 rfl) ?_
        refine va_get (D := D) (ci := 0) (v := .ref (L 7)) (C := R_GK) (T := F_GK) (N := 12) hx hb hts i_GK hown hK (hv_one hP h1) 0 rfl rfl 6 (by decide) (hts _ k_GK_40) (fun _ h9 => h9) rfl d_GK_link_19 ?_
        have hno8 : ¬ (x_find σ.now 4 a = none ∨ x_find σ.now 4 b = none) := fun q => q.elim (fun z => by rw [hfa] at z; cases z) (fun z => by rw [hfb] at z; cases z)
        refine hv_call (hv_runV (As := [.int 5, .ref (L 7)]) (rest := []) (c_GK_freeNumberL C N hM hR) (hv_cw C hZ kc_GK_freeNumber kn_GK ⟨rfl, rfl, Nat.le_of_ble_eq_true rfl, Nat.le_of_ble_eq_true rfl⟩) hv_blind (hv_pre hZ hS hP) hx hml hb hown (hts _ k_GK_50) (hts _ ki_GK_freeNumber) (hts _ ksel_GK_GK_freeNumber) hy_GK_freeNumber (hts _ kc_GK_freeNumber) (va_recv hK (hv_one hP h1) (ci := 0) (q0 := 0) rfl rfl) rfl hl.1 rfl (lv_room (Nat.le_of_ble_eq_true rfl)) d_GK_link_22 ⟨Nat.le_of_ble_eq_true rfl, Nat.le_of_ble_eq_true rfl⟩) hZ hS (fun v9 w8 H locs q9 hP hS => ?_) (fun x9 w8 H locs q9 hP hS => ?_)
        · obtain ⟨i, hfr, hi, hv9, hw9⟩ := q9
          subst hv9
          rw [hw9] at hP
          show W _ _ _ _ _ _ _ _ _ _ _ _ _ _ _ (F0 m 25 ls [.int (nI i)])
          refine lv_istore (lv' := [(4, .int (nI i)), (0, .ref (L 0)), (1, .int a), (2, .int b), (3, .int ty)]) hx hb d_GK_link_25 hl (by decide) rfl (fun ls hl => ?_)
          refine lv_aload_n hx hb d_GK_link_27 rfl (lv_at hl 1 rfl) ?_
          refine hv_call (hv_runV (As := []) (rest := []) (c_GK_countChange C N hM hR hW.hb) (hv_cw C hZ kc_GK_countChange kn_GK ⟨rfl, rfl, Nat.le_of_ble_eq_true rfl, Nat.le_of_ble_eq_true rfl⟩) hv_blind (hv_pre hZ hS hP) hx hml hb hown (hts _ k_GK_54) (hts _ ki_GK_countChange) (hts _ ksel_GK_GK_countChange) hy_GK_countChange (hts _ kc_GK_countChange) (va_recv hK (hv_one hP h1) (ci := 0) (q0 := 0) rfl rfl) rfl hl.1 rfl (lv_room (Nat.le_of_ble_eq_true rfl)) d_GK_link_28 ⟨Nat.le_of_ble_eq_true rfl, Nat.le_of_ble_eq_true rfl⟩) hZ hS (fun v9 w10 H locs q11 hP hS => ?_) (fun x9 w10 H locs q11 hP hS => ?_)
          · obtain ⟨hno9, hv9, hM, hR⟩ := q11
            subst hv9
            show W _ _ _ _ _ _ _ _ _ _ _ _ _ _ _ (F0 m 31 ls [])
            refine lv_aload_n hx hb d_GK_link_31 rfl (lv_at hl 1 rfl) ?_
            have h12 : w10 (L 0) = some (.inr (0, [.ref (L 1), .ref (L 2), .ref (L 3), .ref (L 4), .ref (L 5), .ref (L 6), .ref (L 7), .int ((σ.sSc (σ.sc + 1)).err), .int (nI ((σ.sSc (σ.sc + 1)).sc)), .int (nI ((σ.sSc (σ.sc + 1)).ec)), .int ((σ.sSc (σ.sc + 1)).ins), .int ((σ.sSc (σ.sc + 1)).off)])) := hM.1.2 0 (by decide)
            refine va_get (D := D) (ci := 0) (v := .ref (L 1)) (C := R_GK) (T := F_GK) (N := 12) hx hb hts i_GK hown hK (hv_one hP h12) 0 rfl rfl 0 (by decide) (hts _ k_GK_10) (fun _ h9 => h9) rfl d_GK_link_32 ?_
            refine lv_iload hx hb d_GK_link_35 (lv_at hl 0 rfl) ?_
            refine hv_new (ci := 6) (fs := [.null, .int 0, .int 0, .int 0]) (C := R_Lk) (T := F_Lk) (N := 4) hx hb hts i_Lk t_Lk t_Lk_ok hown (hts _ k_GK_113) (hts _ kin_Lk) (hts _ kn_Lk) hK hP hS hZ.2.1 rfl z_Lk (Nat.le_of_ble_eq_true rfl) (Nat.le_of_ble_eq_true rfl) d_GK_link_37 (fun q13 H hq14 hP hS => ?_)
            obtain ⟨w15, ew15⟩ : ∃ z9 : hv_W, z9 = va_up w10 q13 (some (.inr (6, [.null, .int 0, .int 0, .int 0]))) := ⟨_, rfl⟩
            have hP : hv_P D classes s0.heap.size w15 H := by rw [ew15]; exact hP
            have h16 : w15 q13 = some (.inr (6, [.null, .int 0, .int 0, .int 0])) := by rw [ew15]; exact hv_up_s
            refine W.widen (k := 6) (n := 34) (by omega) (by omega) ?_
            show W _ _ _ _ _ _ _ _ _ _ _ _ _ _ _ (F0 m 40 ls [.ref q13, .int (nI i), .ref (L 1)])
            have hg17 : g_grow w10 w15 := g_grow.trans (g_grow.refl _) (by rw [ew15]; exact g_grow.new hq14)
            refine lv_dup hx hb d_GK_link_40 rfl ?_
            refine lv_iload_n hx hb d_GK_link_41 rfl (lv_at hl 2 rfl) ?_
            refine lv_iload_n hx hb d_GK_link_42 rfl (lv_at hl 3 rfl) ?_
            refine lv_iload_n hx hb d_GK_link_43 rfl (lv_at hl 4 rfl) ?_
            refine lv_iconst (v := 0) hx hb d_GK_link_44 (by decide) ?_
            refine hv_newq hx hb hown (hts _ k_GK_59) (hv_over C hZ ko_Pr) hK hP hS hZ.2.1 4 rfl (N' := 0) (nI_pos (n := 0) (by omega)) (nI_clamp (n := 0) (by omega)) (by omega) (Nat.le_of_ble_eq_true rfl) (by show _ + _ ≤ 34; omega) d_GK_link_45 (fun q18 H hq19 hP hS => ?_)
            obtain ⟨w20, ew20⟩ : ∃ z9 : hv_W, z9 = va_up w15 q18 (some (.inl (ca 4, 0, .inr (.inr (.inr (.inr (fun _ => none))))))) := ⟨_, rfl⟩
            have hP : hv_P D classes s0.heap.size w20 H := by rw [ew20]; exact hP
            have h21 : w20 q13 = some (.inr (6, [.null, .int 0, .int 0, .int 0])) := by rw [ew20]; exact hv_up_f hq19 h16
            have h22 : w20 q18 = some (.inl (ca 4, 0, .inr (.inr (.inr (.inr (fun _ => none)))))) := by rw [ew20]; exact hv_up_s
            refine W.widen (k := 7) (n := 34) (by omega) (by omega) ?_
            show W _ _ _ _ _ _ _ _ _ _ _ _ _ _ _ (F0 m 48 ls [.ref q18, .int ty, .int b, .int a, .ref q13, .ref q13, .int (nI i), .ref (L 1)])
            have hg23 : g_grow w10 w20 := g_grow.trans (hg17) (by rw [ew20]; exact g_grow.new hq19)
            refine hv_call (hv_runI (As := [.int a, .int b, .int ty, .ref q18]) (rest := [.ref q13, .int (nI i), .ref (L 1)]) (c_Lk_init C a b ty h21) (hv_cw C hZ kc_Lk_init kn_Lk ⟨rfl, rfl, Nat.le_of_ble_eq_true rfl, Nat.le_of_ble_eq_true rfl⟩) hv_blind (hv_pre hZ hS hP) hx hml hb hown (hts _ k_GK_115) (hts _ ki_Lk_init) rfl hy_Lk_init (hts _ kc_Lk_init) rfl hl.1 rfl (lv_room (Nat.le_of_ble_eq_true rfl)) d_GK_link_48 ⟨Nat.le_of_ble_eq_true rfl, Nat.le_of_ble_eq_true rfl⟩) hZ hS (fun v9 w24 H locs q25 hP hS => ?_) (fun x9 w24 H locs q25 hP hS => q25.elim)
            obtain ⟨hv9, hu9⟩ := q25
            subst hv9
            have hg9 : g_grow w10 w24 := g_grow.upd hq14 hg23 hu9
            have hnp : g_props ca (cM L) w24 q18 [] := g_props_nil (hM.fresh (hg17.none hq19)) (hu9.k h22 (hv_ne h22 h21 (show (104 : Nat) ≠ 6 by decide)))
            have hnn : g_link ca (cM L) w24 q13 ((a, b, ty), []) := ⟨hM.fresh hq14, q18, hu9.1, hnp⟩
            have hM : cK ca L w0 (σ.sSc (σ.sc + 1)) P w24 := hM.grow hg9
            have hR : cR ca L (σ.sSc (σ.sc + 1)) P w24 := hR.k hg9.keep
            show W _ _ _ _ _ _ _ _ _ _ _ _ _ _ _ (F0 m 51 ls [.ref q13, .int (nI i), .ref (L 1)])
            have h26 : w24 (L 1) = some (.inr (1, [.ref (L 8), .ref (L 9)])) := hM.1.2 1 (by decide)
            have h27 : w24 (L 9) = some (.inl (ca 6, 96, .inr (.inr (.inr (.inr P.nL))))) := hM.1.2 9 (by decide)
            refine hv_call (hv_runV (As := [.int (nI i), .ref q13]) (rest := []) (c_Gr_putLinkS C hu9.1 hi h26 h27) (hv_cw C hZ kc_Gr_putLink kn_Gr ⟨rfl, rfl, Nat.le_of_ble_eq_true rfl, Nat.le_of_ble_eq_true rfl⟩) hv_blind (hv_pre hZ hS hP) hx hml hb hown (hts _ k_GK_118) (hts _ ki_Gr_putLink) (hts _ ksel_Gr_Gr_putLink) hy_Gr_putLink (hts _ kc_Gr_putLink) (va_recv hK (hv_one hP h26) (ci := 1) (q0 := 0) rfl rfl) rfl hl.1 rfl (lv_room (Nat.le_of_ble_eq_true rfl)) d_GK_link_51 ⟨Nat.le_of_ble_eq_true rfl, Nat.le_of_ble_eq_true rfl⟩) hZ hS (fun v9 w28 H locs q29 hP hS => ?_) (fun x9 w28 H locs q29 hP hS => q29.elim)
            obtain ⟨hv9, hu8⟩ := q29
            subst hv9
            have hk9 : g_keep (cM L) w24 w28 := g_keep.U (k := 9) (by decide) hu8
            have hR9 := hR.k hk9
            have hM : cK ca L w0 (x_one σ (64 + i) (some ([], a, b, ty, []))) (P.sNL (va_up P.nL i (some q13))) w28 := hM.U 9 (by decide) hu8 rfl
            have hR : cR ca L (x_one σ (64 + i) (some ([], a, b, ty, []))) (P.sNL (va_up P.nL i (some q13))) w28 := ⟨cG_putL (t := ([], a, b, ty, [])) hR9.1 hi (hnn.k hk9), hR9.2⟩
            show W _ _ _ _ _ _ _ _ _ _ _ _ _ _ _ (F0 m 54 ls [])
            refine lv_iload hx hb d_GK_link_54 (lv_at hl 0 rfl) ?_
            exact hv_iret (v := nI i) hQ hx hb hr hZ hS hP hlocks d_GK_link_56 (by rw [x_link, cif_pos hoff, cif_neg hno8, hfr]; dsimp only; rw [cif_neg hno9]; exact ⟨rfl, rfl, _, hM, hR⟩)
          · refine hv_Tw (k := 7) (n := 34) (by omega) (by omega) ?_
            exact hv_tleave hQ hZ hS hP hlocks (hout _) (Or.inl (by rw [x_link, cif_pos hoff, cif_neg hno8, hfr]; dsimp only; rw [cif_pos q11.1]; exact ⟨rfl, q11.2⟩))
        · refine hv_Tw (k := 7) (n := 34) (by omega) (by omega) ?_
          exact hv_tleave hQ hZ hS hP hlocks (hout _) (Or.inl (by rw [x_link, cif_pos hoff, cif_neg hno8, q9.1]; exact ⟨rfl, q9.2⟩))
      · refine hv_Tw (k := 7) (n := 34) (by omega) (by omega) ?_
        exact hv_tleave hQ hZ hS hP hlocks (hout _) (Or.inl (by rw [x_link, cif_pos hoff, cif_pos (Or.inr (gk_sel_noneN hR.1 q7.1))]; exact ⟨rfl, q7.2⟩))
    · refine hv_Tw (k := 7) (n := 34) (by omega) (by omega) ?_
      exact hv_tleave hQ hZ hS hP hlocks (hout _) (Or.inl (by rw [x_link, cif_pos hoff, cif_pos (Or.inl (gk_sel_noneN hR.1 q5.1))]; exact ⟨rfl, q5.2⟩))
  · refine hv_Tw (k := 7) (n := 34) (by omega) (by omega) ?_
    exact hv_tleave hQ hZ hS hP hlocks (hout _) (Or.inr (by rw [x_link, cif_neg q3.1]; exact ⟨rfl, q3.2⟩))

abbrev rm_GK_label : Room := { frames := 8, cells := 6, slots := 30, locals := 125 }
set_option maxHeartbeats 4000000 in
set_option maxRecDepth 100000 in
theorem c_GK_label {l : Launch} {s0 : State} {D : va_G} {ca : Nat → ClassId} (C : hv_C l s0 D (hv_tys ca)) {w : hv_W} (N : hv_N s0) {L : Nat → Nat} {w0 : hv_W} {σ : gS} {P : cT} (n y o : Int32) (hM : cK ca L w0 σ P w) (hR : cR ca L σ P w) (hW : gW σ) (ho : o = 0 ∨ o = 1)  :
    hv_Met l y_GK_label [.code y_GK_label b_GK_label 5 (some .boolean)] rm_GK_label (hv_Pc s0 D w [.ref (L 0), .int n, .int y, .int o]) (hv_Q s0 D (fun v w' => cRet ca L w0 (x_label σ n y o) v w') (fun x w' => cEx ca L w0 (x_label σ n y o) x w')) 6 30 (hv_A s0.heap.size) := by
  refine hv_enter C _ (by decide) (Nat.le_of_ble_eq_true rfl) ?_
  intro p e s m below meth c ls Q hQ hx hb hr hml hown hts hK hZ hlocks hname hout htr hP hl
  have hown : s.vm.findClass R_GK = some m.cls := hown
  have hS : va_S (hv_A s0.heap.size) s.heap s.heap [] := va_S.rf
  have hl : lv_has ls 5 [(0, .ref (L 0)), (1, .int n), (2, .int y), (3, .int o)] := hl
  refine lv_aload_n hx hb d_GK_label_0 rfl (lv_at hl 0 rfl) ?_
  have h1 : w (L 0) = some (.inr (0, [.ref (L 1), .ref (L 2), .ref (L 3), .ref (L 4), .ref (L 5), .ref (L 6), .ref (L 7), .int (σ.err), .int (nI (σ.sc)), .int (nI (σ.ec)), .int (σ.ins), .int (σ.off)])) := hM.1.2 0 (by decide)
  refine hv_call (hv_runV (As := []) (rest := []) (c_GK_mustBeOn C N hM hR) (hv_cw C hZ kc_GK_mustBeOn kn_GK ⟨rfl, rfl, Nat.le_of_ble_eq_true rfl, Nat.le_of_ble_eq_true rfl⟩) hv_blind (hv_pre hZ hS hP) hx hml hb hown (hts _ k_GK_47) (hts _ ki_GK_mustBeOn) (hts _ ksel_GK_GK_mustBeOn) hy_GK_mustBeOn (hts _ kc_GK_mustBeOn) (va_recv hK (hv_one hP h1) (ci := 0) (q0 := 0) rfl rfl) rfl hl.1 rfl (lv_room (Nat.le_of_ble_eq_true rfl)) d_GK_label_1 ⟨Nat.le_of_ble_eq_true rfl, Nat.le_of_ble_eq_true rfl⟩) hZ hS (fun v9 w2 H locs q3 hP hS => ?_) (fun x9 w2 H locs q3 hP hS => ?_)
  · obtain ⟨hoff, hv9, hw9⟩ := q3
    subst hv9
    rw [hw9] at hP
    show W _ _ _ _ _ _ _ _ _ _ _ _ _ _ _ (F0 m 4 ls [])
    refine lv_aload_n hx hb d_GK_label_4 rfl (lv_at hl 0 rfl) ?_
    refine lv_iload_n hx hb d_GK_label_5 rfl (lv_at hl 1 rfl) ?_
    refine hv_call (hv_runV (As := [.int n]) (rest := []) (c_GK_wantedNode C N n hM hR) (hv_cw C hZ kc_GK_wantedNode kn_GK ⟨rfl, rfl, Nat.le_of_ble_eq_true rfl, Nat.le_of_ble_eq_true rfl⟩) hv_blind (hv_pre hZ hS hP) hx hml hb hown (hts _ k_GK_68) (hts _ ki_GK_wantedNode) (hts _ ksel_GK_GK_wantedNode) hy_GK_wantedNode (hts _ kc_GK_wantedNode) (va_recv hK (hv_one hP h1) (ci := 0) (q0 := 0) rfl rfl) rfl hl.1 rfl (lv_room (Nat.le_of_ble_eq_true rfl)) d_GK_label_6 ⟨Nat.le_of_ble_eq_true rfl, Nat.le_of_ble_eq_true rfl⟩) hZ hS (fun v9 w4 H locs q5 hP hS => ?_) (fun x9 w4 H locs q5 hP hS => ?_)
    · obtain ⟨a, hs, hv9, hw9⟩ := q5
      subst hv9
      rw [hw9] at hP
      show W _ _ _ _ _ _ _ _ _ _ _ _ _ _ _ (F0 m 9 ls [.ref a])
      obtain ⟨i, t, hi, he, ha, ht, hf, -⟩ := gk_sel_someN hR.1 hs
      subst he
      have hwt := hW.t (by omega) ht
      have hl4 : t.lab.length ≤ 4 := hwt.1
      obtain ⟨hma, pa, lb, h0, hls, hps⟩ := cG_nodeAt hR.1 hi ha ht
      obtain ⟨hlm, lf, hl0, hle⟩ := id hls
      refine lv_astore (lv' := [(4, .ref a), (0, .ref (L 0)), (1, .int (nI i)), (2, .int y), (3, .int o)]) hx hb d_GK_label_9 hl (by decide) rfl (fun ls hl => ?_)
      refine lv_aload hx hb d_GK_label_11 (lv_at hl 0 rfl) ?_
      refine lv_iload_n hx hb d_GK_label_13 rfl (lv_at hl 3 rfl) ?_
      refine hv_call (hv_runV (As := [.int y]) (rest := []) (c_Nd_isLabelled C y h0 hls hl4) (hv_cw C hZ kc_Nd_isLabelled kn_Nd ⟨rfl, rfl, Nat.le_of_ble_eq_true rfl, Nat.le_of_ble_eq_true rfl⟩) hv_blind (hv_pre hZ hS hP) hx hml hb hown (hts _ k_GK_72) (hts _ ki_Nd_isLabelled) (hts _ ksel_Nd_Nd_isLabelled) hy_Nd_isLabelled (hts _ kc_Nd_isLabelled) (va_recv hK (hv_one hP h0) (ci := 5) (q0 := 0) rfl rfl) rfl hl.1 rfl (lv_room (Nat.le_of_ble_eq_true rfl)) d_GK_label_14 ⟨Nat.le_of_ble_eq_true rfl, Nat.le_of_ble_eq_true rfl⟩) hZ hS (fun v9 w6 H locs q7 hP hS => ?_) (fun x9 w6 H locs q7 hP hS => q7.elim)
      obtain ⟨hv9, hw9⟩ := q7
      subst hv9
      rw [hw9] at hP
      show W _ _ _ _ _ _ _ _ _ _ _ _ _ _ _ (F0 m 17 ls [.int (if y ∈ t.lab then 1 else 0)])
      refine lv_iload_n hx hb d_GK_label_17 rfl (lv_at hl 4 rfl) ?_
      refine lv_icmp_ne (tgt := 23) hx hb d_GK_label_18 (by decide) (fun c18 => ?_) (fun c18 => ?_)
      · have hd9 : ¬ (y ∈ t.lab ↔ ¬ o = 0) := fun z => c18 ((g_lab_iff ho).mpr z)
        refine lv_iload_n hx hb d_GK_label_23 rfl (lv_at hl 4 rfl) ?_
        refine lv_if_eq (tgt := 38) hx hb d_GK_label_24 (by decide) (fun c24 => ?_) (fun c24 => ?_)
        · refine lv_aload_n hx hb d_GK_label_38 rfl (lv_at hl 1 rfl) ?_
          refine hv_call (hv_runV (As := []) (rest := []) (c_GK_countChange C N hM hR hW.hb) (hv_cw C hZ kc_GK_countChange kn_GK ⟨rfl, rfl, Nat.le_of_ble_eq_true rfl, Nat.le_of_ble_eq_true rfl⟩) hv_blind (hv_pre hZ hS hP) hx hml hb hown (hts _ k_GK_54) (hts _ ki_GK_countChange) (hts _ ksel_GK_GK_countChange) hy_GK_countChange (hts _ kc_GK_countChange) (va_recv hK (hv_one hP h1) (ci := 0) (q0 := 0) rfl rfl) rfl hl.1 rfl (lv_room (Nat.le_of_ble_eq_true rfl)) d_GK_label_39 ⟨Nat.le_of_ble_eq_true rfl, Nat.le_of_ble_eq_true rfl⟩) hZ hS (fun v9 w8 H locs q9 hP hS => ?_) (fun x9 w8 H locs q9 hP hS => ?_)
          · obtain ⟨hno9, hv9, hM, hR⟩ := q9
            subst hv9
            show W _ _ _ _ _ _ _ _ _ _ _ _ _ _ _ (F0 m 42 ls [])
            obtain ⟨hma, pa, lb, h0, hls, hps⟩ := cG_nodeAt hR.1 hi ha ht
            obtain ⟨hlm, lf, hl0, hle⟩ := id hls
            refine lv_aload_n hx hb d_GK_label_42 rfl (lv_at hl 1 rfl) ?_
            have h10 : w8 (L 0) = some (.inr (0, [.ref (L 1), .ref (L 2), .ref (L 3), .ref (L 4), .ref (L 5), .ref (L 6), .ref (L 7), .int ((σ.sSc (σ.sc + 1)).err), .int (nI ((σ.sSc (σ.sc + 1)).sc)), .int (nI ((σ.sSc (σ.sc + 1)).ec)), .int ((σ.sSc (σ.sc + 1)).ins), .int ((σ.sSc (σ.sc + 1)).off)])) := hM.1.2 0 (by decide)
            refine va_get (D := D) (ci := 0) (v := .ref (L 1)) (C := R_GK) (T := F_GK) (N := 12) hx hb hts i_GK hown hK (hv_one hP h10) 0 rfl rfl 0 (by decide) (hts _ k_GK_10) (fun _ h9 => h9) rfl d_GK_label_43 ?_
            refine lv_iload_n hx hb d_GK_label_46 rfl (lv_at hl 2 rfl) ?_
            refine lv_iload_n hx hb d_GK_label_47 rfl (lv_at hl 4 rfl) ?_
            refine lv_if_eq (tgt := 60) hx hb d_GK_label_48 (by decide) (fun c48 => ?_) (fun c48 => ?_)
            · refine lv_aload hx hb d_GK_label_60 (lv_at hl 0 rfl) ?_
              refine lv_iload_n hx hb d_GK_label_62 rfl (lv_at hl 3 rfl) ?_
              have hmem : y ∈ t.lab := Classical.byContradiction fun z => hd9 ⟨fun h => absurd h z, fun h => absurd c48 h⟩
              refine hv_call (hv_runV (As := [.int y]) (rest := [.int (nI i), .ref (L 1)]) (c_Nd_withoutLabel C y hM.mu h0 hls hps hl4 hmem) (hv_cw C hZ kc_Nd_withoutLabel kn_Nd ⟨rfl, rfl, Nat.le_of_ble_eq_true rfl, Nat.le_of_ble_eq_true rfl⟩) hv_blind (hv_pre hZ hS hP) hx hml hb hown (hts _ k_GK_87) (hts _ ki_Nd_withoutLabel) (hts _ ksel_Nd_Nd_withoutLabel) hy_Nd_withoutLabel (hts _ kc_Nd_withoutLabel) (va_recv hK (hv_one hP h0) (ci := 5) (q0 := 0) rfl rfl) rfl hl.1 rfl (lv_room (Nat.le_of_ble_eq_true rfl)) d_GK_label_63 ⟨Nat.le_of_ble_eq_true rfl, Nat.le_of_ble_eq_true rfl⟩) hZ hS (fun v9 w11 H locs q12 hP hS => ?_) (fun x9 w11 H locs q12 hP hS => q12.elim)
              obtain ⟨q9, hv9, hqn, hqd, hg9⟩ := q12
              subst hv9
              have hM : cK ca L w0 (σ.sSc (σ.sc + 1)) P w11 := hM.grow hg9
              have hR : cR ca L (σ.sSc (σ.sc + 1)) P w11 := hR.k hg9.keep
              have hqc : ∃ fs, w11 q9 = some (.inr (5, fs)) := by obtain ⟨-, x1, x2, x3, -⟩ := id hqd; exact ⟨_, x3⟩
              obtain ⟨fs9, hqc⟩ := hqc
              show W _ _ _ _ _ _ _ _ _ _ _ _ _ _ _ (F0 m 66 ls [.ref q9, .int (nI i), .ref (L 1)])
              have h13 : w11 (L 1) = some (.inr (1, [.ref (L 8), .ref (L 9)])) := hM.1.2 1 (by decide)
              have h14 : w11 (L 8) = some (.inl (ca 5, 64, .inr (.inr (.inr (.inr P.nN))))) := hM.1.2 8 (by decide)
              refine hv_call (hv_runV (As := [.int (nI i), .ref q9]) (rest := []) (c_Gr_putNodeS C hqc hi h13 h14) (hv_cw C hZ kc_Gr_putNode kn_Gr ⟨rfl, rfl, Nat.le_of_ble_eq_true rfl, Nat.le_of_ble_eq_true rfl⟩) hv_blind (hv_pre hZ hS hP) hx hml hb hown (hts _ k_GK_64) (hts _ ki_Gr_putNode) (hts _ ksel_Gr_Gr_putNode) hy_Gr_putNode (hts _ kc_Gr_putNode) (va_recv hK (hv_one hP h13) (ci := 1) (q0 := 0) rfl rfl) rfl hl.1 rfl (lv_room (Nat.le_of_ble_eq_true rfl)) d_GK_label_66 ⟨Nat.le_of_ble_eq_true rfl, Nat.le_of_ble_eq_true rfl⟩) hZ hS (fun v9 w15 H locs q16 hP hS => ?_) (fun x9 w15 H locs q16 hP hS => q16.elim)
              obtain ⟨hv9, hu8⟩ := q16
              subst hv9
              have hk9 : g_keep (cM L) w11 w15 := g_keep.U (k := 8) (by decide) hu8
              have hR9 := hR.k hk9
              have hM : cK ca L w0 (x_one σ i (some (t.sLab (t.lab.erase y)))) (P.sNN (va_up P.nN i (some q9))) w15 := hM.U 8 (by decide) hu8 rfl
              have hR : cR ca L (x_one σ i (some (t.sLab (t.lab.erase y)))) (P.sNN (va_up P.nN i (some q9))) w15 := ⟨cG_putN (t := t.sLab (t.lab.erase y)) hR9.1 hi (hqd.k hk9), hR9.2⟩
              show W _ _ _ _ _ _ _ _ _ _ _ _ _ _ _ (F0 m 69 ls [])
              refine lv_iconst (v := 1) hx hb d_GK_label_69 (by decide) ?_
              refine W.widen (k := 6) (n := 30) (by omega) (by omega) ?_
              exact hv_zret (v := 1) hQ hx hb hr (by decide) hZ hS hP hlocks d_GK_label_70 (by rw [x_label, cif_pos hoff, hf]; dsimp only; rw [cif_neg hd9, cif_neg (fun z => z.1 c24), cif_neg hno9, cif_pos c24]; exact ⟨rfl, rfl, _, hM, hR⟩)
            · exact absurd c24 c48
          · refine hv_Tw (k := 6) (n := 30) (by omega) (by omega) ?_
            exact hv_tleave hQ hZ hS hP hlocks (hout _) (Or.inl (by rw [x_label, cif_pos hoff, hf]; dsimp only; rw [cif_neg hd9, cif_neg (fun z => z.1 c24), cif_pos q9.1]; exact ⟨rfl, q9.2⟩))
        · refine lv_aload_n hx hb d_GK_label_27 rfl (lv_at hl 1 rfl) ?_
          refine lv_aload hx hb d_GK_label_28 (lv_at hl 0 rfl) ?_
          refine va_get (D := D) (ci := 5) (v := .ref lb) (C := R_Nd) (T := F_Nd) (N := 2) hx hb hts i_Nd hown hK (hv_one hP h0) 0 rfl rfl 1 (by decide) (hts _ k_GK_76) (fun _ h9 => h9) rfl d_GK_label_30 ?_
          refine va_alen (v := nI t.lab.length) hx hb hK (hv_one hP hl0) 0 0 rfl rfl rfl d_GK_label_33 ?_
          refine lv_iconst (v := 4) hx hb d_GK_label_34 (by decide) ?_
          refine hv_call (hv_runV (As := [.int (nI t.lab.length), .int 4]) (rest := []) (c_GK_mustBeLess C N (nI t.lab.length) 4 hM hR) (hv_cw C hZ kc_GK_mustBeLess kn_GK ⟨rfl, rfl, Nat.le_of_ble_eq_true rfl, Nat.le_of_ble_eq_true rfl⟩) hv_blind (hv_pre hZ hS hP) hx hml hb hown (hts _ k_GK_80) (hts _ ki_GK_mustBeLess) (hts _ ksel_GK_GK_mustBeLess) hy_GK_mustBeLess (hts _ kc_GK_mustBeLess) (va_recv hK (hv_one hP h1) (ci := 0) (q0 := 0) rfl rfl) rfl hl.1 rfl (lv_room (Nat.le_of_ble_eq_true rfl)) d_GK_label_35 ⟨Nat.le_of_ble_eq_true rfl, Nat.le_of_ble_eq_true rfl⟩) hZ hS (fun v9 w17 H locs q18 hP hS => ?_) (fun x9 w17 H locs q18 hP hS => ?_)
          · obtain ⟨hless, hv9, hw9⟩ := q18
            subst hv9
            rw [hw9] at hP
            show W _ _ _ _ _ _ _ _ _ _ _ _ _ _ _ (F0 m 38 ls [])
            have hl3 : t.lab.length ≤ 3 := Nat.le_of_lt_succ ((nI_ltI (b := 4) (by omega) (by decide)).mp hless)
            refine lv_aload_n hx hb d_GK_label_38 rfl (lv_at hl 1 rfl) ?_
            refine hv_call (hv_runV (As := []) (rest := []) (c_GK_countChange C N hM hR hW.hb) (hv_cw C hZ kc_GK_countChange kn_GK ⟨rfl, rfl, Nat.le_of_ble_eq_true rfl, Nat.le_of_ble_eq_true rfl⟩) hv_blind (hv_pre hZ hS hP) hx hml hb hown (hts _ k_GK_54) (hts _ ki_GK_countChange) (hts _ ksel_GK_GK_countChange) hy_GK_countChange (hts _ kc_GK_countChange) (va_recv hK (hv_one hP h1) (ci := 0) (q0 := 0) rfl rfl) rfl hl.1 rfl (lv_room (Nat.le_of_ble_eq_true rfl)) d_GK_label_39 ⟨Nat.le_of_ble_eq_true rfl, Nat.le_of_ble_eq_true rfl⟩) hZ hS (fun v9 w19 H locs q20 hP hS => ?_) (fun x9 w19 H locs q20 hP hS => ?_)
            · obtain ⟨hno9, hv9, hM, hR⟩ := q20
              subst hv9
              show W _ _ _ _ _ _ _ _ _ _ _ _ _ _ _ (F0 m 42 ls [])
              obtain ⟨hma, pa, lb, h0, hls, hps⟩ := cG_nodeAt hR.1 hi ha ht
              obtain ⟨hlm, lf, hl0, hle⟩ := id hls
              refine lv_aload_n hx hb d_GK_label_42 rfl (lv_at hl 1 rfl) ?_
              have h21 : w19 (L 0) = some (.inr (0, [.ref (L 1), .ref (L 2), .ref (L 3), .ref (L 4), .ref (L 5), .ref (L 6), .ref (L 7), .int ((σ.sSc (σ.sc + 1)).err), .int (nI ((σ.sSc (σ.sc + 1)).sc)), .int (nI ((σ.sSc (σ.sc + 1)).ec)), .int ((σ.sSc (σ.sc + 1)).ins), .int ((σ.sSc (σ.sc + 1)).off)])) := hM.1.2 0 (by decide)
              refine va_get (D := D) (ci := 0) (v := .ref (L 1)) (C := R_GK) (T := F_GK) (N := 12) hx hb hts i_GK hown hK (hv_one hP h21) 0 rfl rfl 0 (by decide) (hts _ k_GK_10) (fun _ h9 => h9) rfl d_GK_label_43 ?_
              refine lv_iload_n hx hb d_GK_label_46 rfl (lv_at hl 2 rfl) ?_
              refine lv_iload_n hx hb d_GK_label_47 rfl (lv_at hl 4 rfl) ?_
              refine lv_if_eq (tgt := 60) hx hb d_GK_label_48 (by decide) (fun c48 => ?_) (fun c48 => ?_)
              · exact absurd c48 c24
              · refine lv_aload hx hb d_GK_label_51 (lv_at hl 0 rfl) ?_
                refine lv_iload_n hx hb d_GK_label_53 rfl (lv_at hl 3 rfl) ?_
                refine hv_call (hv_runV (As := [.int y]) (rest := [.int (nI i), .ref (L 1)]) (c_Nd_withLabel C y hM.mu h0 hls hps hl3) (hv_cw C hZ kc_Nd_withLabel kn_Nd ⟨rfl, rfl, Nat.le_of_ble_eq_true rfl, Nat.le_of_ble_eq_true rfl⟩) hv_blind (hv_pre hZ hS hP) hx hml hb hown (hts _ k_GK_84) (hts _ ki_Nd_withLabel) (hts _ ksel_Nd_Nd_withLabel) hy_Nd_withLabel (hts _ kc_Nd_withLabel) (va_recv hK (hv_one hP h0) (ci := 5) (q0 := 0) rfl rfl) rfl hl.1 rfl (lv_room (Nat.le_of_ble_eq_true rfl)) d_GK_label_54 ⟨Nat.le_of_ble_eq_true rfl, Nat.le_of_ble_eq_true rfl⟩) hZ hS (fun v9 w22 H locs q23 hP hS => ?_) (fun x9 w22 H locs q23 hP hS => q23.elim)
                obtain ⟨q9, hv9, hqn, hqd, hg9⟩ := q23
                subst hv9
                have hM : cK ca L w0 (σ.sSc (σ.sc + 1)) P w22 := hM.grow hg9
                have hR : cR ca L (σ.sSc (σ.sc + 1)) P w22 := hR.k hg9.keep
                have hqc : ∃ fs, w22 q9 = some (.inr (5, fs)) := by obtain ⟨-, x1, x2, x3, -⟩ := id hqd; exact ⟨_, x3⟩
                obtain ⟨fs9, hqc⟩ := hqc
                show W _ _ _ _ _ _ _ _ _ _ _ _ _ _ _ (F0 m 57 ls [.ref q9, .int (nI i), .ref (L 1)])
                refine lv_goto (tgt := 66) hx hb d_GK_label_57 (by decide) ?_
                have h24 : w22 (L 1) = some (.inr (1, [.ref (L 8), .ref (L 9)])) := hM.1.2 1 (by decide)
                have h25 : w22 (L 8) = some (.inl (ca 5, 64, .inr (.inr (.inr (.inr P.nN))))) := hM.1.2 8 (by decide)
                refine hv_call (hv_runV (As := [.int (nI i), .ref q9]) (rest := []) (c_Gr_putNodeS C hqc hi h24 h25) (hv_cw C hZ kc_Gr_putNode kn_Gr ⟨rfl, rfl, Nat.le_of_ble_eq_true rfl, Nat.le_of_ble_eq_true rfl⟩) hv_blind (hv_pre hZ hS hP) hx hml hb hown (hts _ k_GK_64) (hts _ ki_Gr_putNode) (hts _ ksel_Gr_Gr_putNode) hy_Gr_putNode (hts _ kc_Gr_putNode) (va_recv hK (hv_one hP h24) (ci := 1) (q0 := 0) rfl rfl) rfl hl.1 rfl (lv_room (Nat.le_of_ble_eq_true rfl)) d_GK_label_66 ⟨Nat.le_of_ble_eq_true rfl, Nat.le_of_ble_eq_true rfl⟩) hZ hS (fun v9 w26 H locs q27 hP hS => ?_) (fun x9 w26 H locs q27 hP hS => q27.elim)
                obtain ⟨hv9, hu8⟩ := q27
                subst hv9
                have hk9 : g_keep (cM L) w22 w26 := g_keep.U (k := 8) (by decide) hu8
                have hR9 := hR.k hk9
                have hM : cK ca L w0 (x_one σ i (some (t.sLab (t.lab ++ [y])))) (P.sNN (va_up P.nN i (some q9))) w26 := hM.U 8 (by decide) hu8 rfl
                have hR : cR ca L (x_one σ i (some (t.sLab (t.lab ++ [y])))) (P.sNN (va_up P.nN i (some q9))) w26 := ⟨cG_putN (t := t.sLab (t.lab ++ [y])) hR9.1 hi (hqd.k hk9), hR9.2⟩
                show W _ _ _ _ _ _ _ _ _ _ _ _ _ _ _ (F0 m 69 ls [])
                refine lv_iconst (v := 1) hx hb d_GK_label_69 (by decide) ?_
                exact hv_zret (v := 1) hQ hx hb hr (by decide) hZ hS hP hlocks d_GK_label_70 (by rw [x_label, cif_pos hoff, hf]; dsimp only; rw [cif_neg hd9, cif_neg (fun z => absurd z.2 (by omega)), cif_neg hno9, cif_neg c24]; exact ⟨rfl, rfl, _, hM, hR⟩)
            · refine hv_Tw (k := 6) (n := 30) (by omega) (by omega) ?_
              exact hv_tleave hQ hZ hS hP hlocks (hout _) (Or.inl (by rw [x_label, cif_pos hoff, hf]; dsimp only; rw [cif_neg hd9, cif_neg (fun z => absurd z.2 (by omega)), cif_pos q20.1]; exact ⟨rfl, q20.2⟩))
          · refine hv_Tw (k := 6) (n := 30) (by omega) (by omega) ?_
            exact hv_tleave hQ hZ hS hP hlocks (hout _) (Or.inl (by rw [x_label, cif_pos hoff, hf]; dsimp only; rw [cif_neg hd9, cif_pos ⟨c24, Nat.not_lt.mp fun z => q18.1 (nI_lt (b := 4) z (by decide))⟩]; exact ⟨rfl, q18.2⟩))
      · have hs9 : y ∈ t.lab ↔ ¬ o = 0 := (g_lab_iff ho).mp c18
        refine lv_iconst (v := 0) hx hb d_GK_label_21 (by decide) ?_
        refine W.widen (k := 6) (n := 30) (by omega) (by omega) ?_
        exact hv_zret (v := 0) hQ hx hb hr (by decide) hZ hS hP hlocks d_GK_label_22 (by rw [x_label, cif_pos hoff, hf]; dsimp only; rw [cif_pos hs9]; exact ⟨rfl, rfl, P, hM, hR⟩)
    · refine hv_Tw (k := 6) (n := 30) (by omega) (by omega) ?_
      exact hv_tleave hQ hZ hS hP hlocks (hout _) (Or.inl (by rw [x_label, cif_pos hoff, gk_sel_noneN hR.1 q5.1]; exact ⟨rfl, q5.2⟩))
  · refine hv_Tw (k := 6) (n := 30) (by omega) (by omega) ?_
    exact hv_tleave hQ hZ hS hP hlocks (hout _) (Or.inr (by rw [x_label, cif_neg q3.1]; exact ⟨rfl, q3.2⟩))

