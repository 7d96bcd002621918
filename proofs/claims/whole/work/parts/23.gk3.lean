abbrev rm_GK_dropPropertyN : Room := { frames := 8, cells := 3, slots := 16, locals := 123 }
set_option maxHeartbeats 4000000 in
set_option maxRecDepth 100000 in
theorem c_GK_dropPropertyN {l : Launch} {s0 : State} {D : va_G} {ca : Nat → ClassId} (C : hv_C l s0 D (hv_tys ca)) {w : hv_W} (N : hv_N s0) {L : Nat → Nat} {w0 : hv_W} {σ : gS} {P : cT} (hM : cK ca L w0 σ P w) (hR : cR ca L σ P w) {i a : Nat} {t : gT} (hi : i < 64) (ha : P.nN i = some a) (ht : σ.now i = some t) (hpl : t.ps.length ≤ 6) (y : Int32) (hb9 : σ.ec + σ.sc ≤ 249)  :
    hv_Met l y_GK_dropProperty [.code y_GK_dropProperty b_GK_dropProperty 4 (some .boolean)] rm_GK_dropPropertyN (hv_Pc s0 D w [.ref (L 0), .ref a, .int (nI i), .int y]) (hv_Q s0 D (fun v w' => (g_look t.ps y = none ∧ v = some (.int 0) ∧ w' = w) ∨ (∃ o, g_look t.ps y = some o ∧ ¬ 249 ≤ σ.ec + σ.sc ∧ v = some (.int 1) ∧ cP ca L w0 ((σ.sSc (σ.sc + 1)).sNow (va_up σ.now i (some (t.sPs (g_drop t.ps y))))) w')) (fun x w' => ∃ o, g_look t.ps y = some o ∧ 249 ≤ σ.ec + σ.sc ∧ cThr ca L w0 8 (σ.sErr 9) x w')) 3 16 (hv_A s0.heap.size) := by
  refine hv_enter C _ (by decide) (Nat.le_of_ble_eq_true rfl) ?_
  intro p e s m below meth c ls Q hQ hx hb hr hml hown hts hK hZ hlocks hname hout htr hP hl
  have hown : s.vm.findClass R_GK = some m.cls := hown
  have hS : va_S (hv_A s0.heap.size) s.heap s.heap [] := va_S.rf
  have hl : lv_has ls 4 [(0, .ref (L 0)), (1, .ref a), (2, .int (nI i)), (3, .int y)] := hl
  obtain ⟨hma, pa, lb, h0, hls, hps⟩ := cG_nodeAt hR.1 hi ha ht
  refine lv_aload_n hx hb d_GK_dropProperty_0 rfl (lv_at hl 1 rfl) ?_
  refine lv_iload_n hx hb d_GK_dropProperty_1 rfl (lv_at hl 3 rfl) ?_
  refine hv_call (hv_runV (As := [.int y]) (rest := []) (c_Th_propertyOfN C y h0 hps hpl) (hv_cw C hZ kc_Th_propertyOf kn_Th ⟨rfl, rfl, Nat.le_of_ble_eq_true rfl, Nat.le_of_ble_eq_true rfl⟩) hv_blind (hv_pre hZ hS hP) hx hml hb hown (hts _ k_GK_228) (hts _ ki_Th_propertyOf) (hts _ ksel_Nd_Th_propertyOf) hy_Th_propertyOf (hts _ kc_Th_propertyOf) (va_recv hK (hv_one hP h0) (ci := 5) (q0 := 0) rfl rfl) rfl hl.1 rfl (lv_room (Nat.le_of_ble_eq_true rfl)) d_GK_dropProperty_2 ⟨Nat.le_of_ble_eq_true rfl, Nat.le_of_ble_eq_true rfl⟩) hZ hS (fun v9 w1 H locs q2 hP hS => ?_) (fun x9 w1 H locs q2 hP hS => q2.elim)
  obtain ⟨⟨r, hv9, hlk⟩, hw9⟩ := q2
  subst hv9
  rw [hw9] at hP
  show W _ _ _ _ _ _ _ _ _ _ _ _ _ _ _ (F0 m 5 ls [va_rf r])
  cases h9o : r with
  | none =>
    show W _ _ _ _ _ _ _ _ _ _ _ _ _ _ _ (F0 m 5 ls [.null])
    have hlo := g_lookq_none hlk h9o
    refine lv_ifnonnullN hx hb d_GK_dropProperty_5 ?_
    refine lv_iconst (v := 0) hx hb d_GK_dropProperty_8 (by decide) ?_
    refine W.widen (k := 3) (n := 16) (by omega) (by omega) ?_
    exact hv_zret (v := 0) hQ hx hb hr (by decide) hZ hS hP hlocks d_GK_dropProperty_9 (Or.inl ⟨hlo, rfl, rfl⟩)
  | some qo =>
    show W _ _ _ _ _ _ _ _ _ _ _ _ _ _ _ (F0 m 5 ls [.ref qo])
    obtain ⟨po, hlo, hqo⟩ := g_lookq_some hlk h9o
    refine lv_ifnonnull (tgt := 10) hx hb d_GK_dropProperty_5 (by decide) ?_
    refine lv_aload_n hx hb d_GK_dropProperty_10 rfl (lv_at hl 0 rfl) ?_
    have h3 : w (L 0) = some (.inr (0, [.ref (L 1), .ref (L 2), .ref (L 3), .ref (L 4), .ref (L 5), .ref (L 6), .ref (L 7), .int (σ.err), .int (nI (σ.sc)), .int (nI (σ.ec)), .int (σ.ins), .int (σ.off)])) := hM.1.2 0 (by decide)
    refine hv_call (hv_runV (As := []) (rest := []) (c_GK_countChange C N hM.re hR hb9) (hv_cw C hZ kc_GK_countChange kn_GK ⟨rfl, rfl, Nat.le_of_ble_eq_true rfl, Nat.le_of_ble_eq_true rfl⟩) hv_blind (hv_pre hZ hS hP) hx hml hb hown (hts _ k_GK_54) (hts _ ki_GK_countChange) (hts _ ksel_GK_GK_countChange) hy_GK_countChange (hts _ kc_GK_countChange) (va_recv hK (hv_one hP h3) (ci := 0) (q0 := 0) rfl rfl) rfl hl.1 rfl (lv_room (Nat.le_of_ble_eq_true rfl)) d_GK_dropProperty_11 ⟨Nat.le_of_ble_eq_true rfl, Nat.le_of_ble_eq_true rfl⟩) hZ hS (fun v9 w4 H locs q5 hP hS => ?_) (fun x9 w4 H locs q5 hP hS => ?_)
    · obtain ⟨hno9, hv9, hM9, hR⟩ := q5
      subst hv9
      have hk9 : g_keep (cM L) w w4 := hM9.2
      have hM : cK ca L w0 (σ.sSc (σ.sc + 1)) P w4 := cK.tr hM.2 hM9
      show W _ _ _ _ _ _ _ _ _ _ _ _ _ _ _ (F0 m 14 ls [])
      obtain ⟨hma, pa, lb, h0, hls, hps⟩ := cG_nodeAt hR.1 hi ha ht
      refine lv_aload_n hx hb d_GK_dropProperty_14 rfl (lv_at hl 0 rfl) ?_
      have h6 : w4 (L 0) = some (.inr (0, [.ref (L 1), .ref (L 2), .ref (L 3), .ref (L 4), .ref (L 5), .ref (L 6), .ref (L 7), .int ((σ.sSc (σ.sc + 1)).err), .int (nI ((σ.sSc (σ.sc + 1)).sc)), .int (nI ((σ.sSc (σ.sc + 1)).ec)), .int ((σ.sSc (σ.sc + 1)).ins), .int ((σ.sSc (σ.sc + 1)).off)])) := hM.1.2 0 (by decide)
      refine va_get (D := D) (ci := 0) (v := .ref (L 1)) (C := R_GK) (T := F_GK) (N := 12) hx hb hts i_GK hown hK (hv_one hP h6) 0 rfl rfl 0 (by decide) (hts _ k_GK_10) (fun _ h9 => h9) rfl d_GK_dropProperty_15 ?_
      refine lv_aload_n hx hb d_GK_dropProperty_18 rfl (lv_at hl 1 rfl) ?_
      refine lv_iload_n hx hb d_GK_dropProperty_19 rfl (lv_at hl 2 rfl) ?_
      refine lv_aload_n hx hb d_GK_dropProperty_20 rfl (lv_at hl 1 rfl) ?_
      refine lv_iload_n hx hb d_GK_dropProperty_21 rfl (lv_at hl 3 rfl) ?_
      refine hv_call (hv_runV (As := [.int y]) (rest := [.int (nI i), .ref a, .ref (L 1)]) (c_Th_propertiesWithoutN C y hM.mu h0 hps hpl (g_look_some_pos hlo)) (hv_cw C hZ kc_Th_propertiesWithout kn_Th ⟨rfl, rfl, Nat.le_of_ble_eq_true rfl, Nat.le_of_ble_eq_true rfl⟩) hv_blind (hv_pre hZ hS hP) hx hml hb hown (hts _ k_GK_265) (hts _ ki_Th_propertiesWithout) (hts _ ksel_Nd_Th_propertiesWithout) hy_Th_propertiesWithout (hts _ kc_Th_propertiesWithout) (va_recv hK (hv_one hP h0) (ci := 5) (q0 := 0) rfl rfl) rfl hl.1 rfl (lv_room (Nat.le_of_ble_eq_true rfl)) d_GK_dropProperty_22 ⟨Nat.le_of_ble_eq_true rfl, Nat.le_of_ble_eq_true rfl⟩) hZ hS (fun v9 w7 H locs q8 hP hS => ?_) (fun x9 w7 H locs q8 hP hS => q8.elim)
      obtain ⟨rr, hv9, hrn, hrp, hg9⟩ := q8
      subst hv9
      have hM : cK ca L w0 (σ.sSc (σ.sc + 1)) P w7 := hM.grow hg9
      have hR : cR ca L (σ.sSc (σ.sc + 1)) P w7 := hR.k hg9.keep
      show W _ _ _ _ _ _ _ _ _ _ _ _ _ _ _ (F0 m 25 ls [.ref rr, .int (nI i), .ref a, .ref (L 1)])
      have hls := hls.k hg9.keep (Mu := cM L)
      have h9 : w7 (L 1) = some (.inr (1, [.ref (L 8), .ref (L 9)])) := hM.1.2 1 (by decide)
      have h10 : w7 (L 8) = some (.inl (ca 5, 64, .inr (.inr (.inr (.inr P.nN))))) := hM.1.2 8 (by decide)
      refine hv_call (hv_runV (As := [.ref a, .int (nI i), .ref rr]) (rest := []) (c_Gr_putAgainN C N hi (hg9 _ _ h0) h9 h10) (hv_cw C hZ kc_Gr_putAgain kn_Gr ⟨rfl, rfl, Nat.le_of_ble_eq_true rfl, Nat.le_of_ble_eq_true rfl⟩) hv_blind (hv_pre hZ hS hP) hx hml hb hown (hts _ k_GK_269) (hts _ ki_Gr_putAgain) (hts _ ksel_Gr_Gr_putAgain) hy_Gr_putAgain (hts _ kc_Gr_putAgain) (va_recv hK (hv_one hP h9) (ci := 1) (q0 := 0) rfl rfl) rfl hl.1 rfl (lv_room (Nat.le_of_ble_eq_true rfl)) d_GK_dropProperty_25 ⟨Nat.le_of_ble_eq_true rfl, Nat.le_of_ble_eq_true rfl⟩) hZ hS (fun v9 w11 H locs q12 hP hS => ?_) (fun x9 w11 H locs q12 hP hS => q12.elim)
      obtain ⟨hv9, qn, hqn, hqc, hqt, hqo9⟩ := q12
      subst hv9
      have hk9 : g_keep (cM L) w7 w11 := g_keep.putNew (k := 8) (by decide) hqn hqo9
      have hm9 := hM.fresh hqn
      have hM : cK ca L w0 ((σ.sSc (σ.sc + 1)).sNow (va_up σ.now i (some (t.sPs (g_drop t.ps y))))) (P.sNN (va_up P.nN i (some qn))) w11 := hM.putNew 8 (by decide) hqn hqt hqo9 rfl
      have hR9 := hR.k hk9
      have hR : cR ca L ((σ.sSc (σ.sc + 1)).sNow (va_up σ.now i (some (t.sPs (g_drop t.ps y))))) (P.sNN (va_up P.nN i (some qn))) w11 := ⟨cG_putN hR9.1 hi ⟨hm9, rr, lb, hqc, hls.k hk9, hrp.k hk9⟩, hR9.2⟩
      show W _ _ _ _ _ _ _ _ _ _ _ _ _ _ _ (F0 m 28 ls [])
      refine lv_iconst (v := 1) hx hb d_GK_dropProperty_28 (by decide) ?_
      exact hv_zret (v := 1) hQ hx hb hr (by decide) hZ hS hP hlocks d_GK_dropProperty_29 (Or.inr ⟨po, hlo, hno9, rfl, _, hM, hR⟩)
    · refine hv_Tw (k := 3) (n := 16) (by omega) (by omega) ?_
      exact hv_tleave hQ hZ hS hP hlocks (hout _) (⟨po, hlo, ⟨q5.1, cThr.tr hM q5.2⟩⟩)

abbrev rm_GK_dropPropertyL : Room := { frames := 8, cells := 3, slots := 16, locals := 123 }
set_option maxHeartbeats 4000000 in
set_option maxRecDepth 100000 in
theorem c_GK_dropPropertyL {l : Launch} {s0 : State} {D : va_G} {ca : Nat → ClassId} (C : hv_C l s0 D (hv_tys ca)) {w : hv_W} (N : hv_N s0) {L : Nat → Nat} {w0 : hv_W} {σ : gS} {P : cT} (hM : cK ca L w0 σ P w) (hR : cR ca L σ P w) {i a : Nat} {t : gT} (hi : i < 96) (ha : P.nL i = some a) (ht : σ.now (64 + i) = some t) (hpl : t.ps.length ≤ 6) (y : Int32) (hb9 : σ.ec + σ.sc ≤ 249)  :
    hv_Met l y_GK_dropProperty [.code y_GK_dropProperty b_GK_dropProperty 4 (some .boolean)] rm_GK_dropPropertyL (hv_Pc s0 D w [.ref (L 0), .ref a, .int (nI i), .int y]) (hv_Q s0 D (fun v w' => (g_look t.ps y = none ∧ v = some (.int 0) ∧ w' = w) ∨ (∃ o, g_look t.ps y = some o ∧ ¬ 249 ≤ σ.ec + σ.sc ∧ v = some (.int 1) ∧ cP ca L w0 ((σ.sSc (σ.sc + 1)).sNow (va_up σ.now (64 + i) (some (t.sPs (g_drop t.ps y))))) w')) (fun x w' => ∃ o, g_look t.ps y = some o ∧ 249 ≤ σ.ec + σ.sc ∧ cThr ca L w0 8 (σ.sErr 9) x w')) 3 16 (hv_A s0.heap.size) := by
  refine hv_enter C _ (by decide) (Nat.le_of_ble_eq_true rfl) ?_
  intro p e s m below meth c ls Q hQ hx hb hr hml hown hts hK hZ hlocks hname hout htr hP hl
  have hown : s.vm.findClass R_GK = some m.cls := hown
  have hS : va_S (hv_A s0.heap.size) s.heap s.heap [] := va_S.rf
  have hl : lv_has ls 4 [(0, .ref (L 0)), (1, .ref a), (2, .int (nI i)), (3, .int y)] := hl
  obtain ⟨hma, pa, h0, hps⟩ := cG_linkAt hR.1 hi ha ht
  refine lv_aload_n hx hb d_GK_dropProperty_0 rfl (lv_at hl 1 rfl) ?_
  refine lv_iload_n hx hb d_GK_dropProperty_1 rfl (lv_at hl 3 rfl) ?_
  refine hv_call (hv_runV (As := [.int y]) (rest := []) (c_Th_propertyOfL C y h0 hps hpl) (hv_cw C hZ kc_Th_propertyOf kn_Th ⟨rfl, rfl, Nat.le_of_ble_eq_true rfl, Nat.le_of_ble_eq_true rfl⟩) hv_blind (hv_pre hZ hS hP) hx hml hb hown (hts _ k_GK_228) (hts _ ki_Th_propertyOf) (hts _ ksel_Lk_Th_propertyOf) hy_Th_propertyOf (hts _ kc_Th_propertyOf) (va_recv hK (hv_one hP h0) (ci := 6) (q0 := 0) rfl rfl) rfl hl.1 rfl (lv_room (Nat.le_of_ble_eq_true rfl)) d_GK_dropProperty_2 ⟨Nat.le_of_ble_eq_true rfl, Nat.le_of_ble_eq_true rfl⟩) hZ hS (fun v9 w1 H locs q2 hP hS => ?_) (fun x9 w1 H locs q2 hP hS => q2.elim)
  obtain ⟨⟨r, hv9, hlk⟩, hw9⟩ := q2
  subst hv9
  rw [hw9] at hP
  show W _ _ _ _ _ _ _ _ _ _ _ _ _ _ _ (F0 m 5 ls [va_rf r])
  cases h9o : r with
  | none =>
    show W _ _ _ _ _ _ _ _ _ _ _ _ _ _ _ (F0 m 5 ls [.null])
    have hlo := g_lookq_none hlk h9o
    refine lv_ifnonnullN hx hb d_GK_dropProperty_5 ?_
    refine lv_iconst (v := 0) hx hb d_GK_dropProperty_8 (by decide) ?_
    refine W.widen (k := 3) (n := 16) (by omega) (by omega) ?_
    exact hv_zret (v := 0) hQ hx hb hr (by decide) hZ hS hP hlocks d_GK_dropProperty_9 (Or.inl ⟨hlo, rfl, rfl⟩)
  | some qo =>
    show W _ _ _ _ _ _ _ _ _ _ _ _ _ _ _ (F0 m 5 ls [.ref qo])
    obtain ⟨po, hlo, hqo⟩ := g_lookq_some hlk h9o
    refine lv_ifnonnull (tgt := 10) hx hb d_GK_dropProperty_5 (by decide) ?_
    refine lv_aload_n hx hb d_GK_dropProperty_10 rfl (lv_at hl 0 rfl) ?_
    have h3 : w (L 0) = some (.inr (0, [.ref (L 1), .ref (L 2), .ref (L 3), .ref (L 4), .ref (L 5), .ref (L 6), .ref (L 7), .int (σ.err), .int (nI (σ.sc)), .int (nI (σ.ec)), .int (σ.ins), .int (σ.off)])) := hM.1.2 0 (by decide)
    refine hv_call (hv_runV (As := []) (rest := []) (c_GK_countChange C N hM.re hR hb9) (hv_cw C hZ kc_GK_countChange kn_GK ⟨rfl, rfl, Nat.le_of_ble_eq_true rfl, Nat.le_of_ble_eq_true rfl⟩) hv_blind (hv_pre hZ hS hP) hx hml hb hown (hts _ k_GK_54) (hts _ ki_GK_countChange) (hts _ ksel_GK_GK_countChange) hy_GK_countChange (hts _ kc_GK_countChange) (va_recv hK (hv_one hP h3) (ci := 0) (q0 := 0) rfl rfl) rfl hl.1 rfl (lv_room (Nat.le_of_ble_eq_true rfl)) d_GK_dropProperty_11 ⟨Nat.le_of_ble_eq_true rfl, Nat.le_of_ble_eq_true rfl⟩) hZ hS (fun v9 w4 H locs q5 hP hS => ?_) (fun x9 w4 H locs q5 hP hS => ?_)
    · obtain ⟨hno9, hv9, hM9, hR⟩ := q5
      subst hv9
      have hk9 : g_keep (cM L) w w4 := hM9.2
      have hM : cK ca L w0 (σ.sSc (σ.sc + 1)) P w4 := cK.tr hM.2 hM9
      show W _ _ _ _ _ _ _ _ _ _ _ _ _ _ _ (F0 m 14 ls [])
      obtain ⟨hma, pa, h0, hps⟩ := cG_linkAt hR.1 hi ha ht
      refine lv_aload_n hx hb d_GK_dropProperty_14 rfl (lv_at hl 0 rfl) ?_
      have h6 : w4 (L 0) = some (.inr (0, [.ref (L 1), .ref (L 2), .ref (L 3), .ref (L 4), .ref (L 5), .ref (L 6), .ref (L 7), .int ((σ.sSc (σ.sc + 1)).err), .int (nI ((σ.sSc (σ.sc + 1)).sc)), .int (nI ((σ.sSc (σ.sc + 1)).ec)), .int ((σ.sSc (σ.sc + 1)).ins), .int ((σ.sSc (σ.sc + 1)).off)])) := hM.1.2 0 (by decide)
      refine va_get (D := D) (ci := 0) (v := .ref (L 1)) (C := R_GK) (T := F_GK) (N := 12) hx hb hts i_GK hown hK (hv_one hP h6) 0 rfl rfl 0 (by decide) (hts _ k_GK_10) (fun _ h9 => h9) rfl d_GK_dropProperty_15 ?_
      refine lv_aload_n hx hb d_GK_dropProperty_18 rfl (lv_at hl 1 rfl) ?_
      refine lv_iload_n hx hb d_GK_dropProperty_19 rfl (lv_at hl 2 rfl) ?_
      refine lv_aload_n hx hb d_GK_dropProperty_20 rfl (lv_at hl 1 rfl) ?_
      refine lv_iload_n hx hb d_GK_dropProperty_21 rfl (lv_at hl 3 rfl) ?_
      refine hv_call (hv_runV (As := [.int y]) (rest := [.int (nI i), .ref a, .ref (L 1)]) (c_Th_propertiesWithoutL C y hM.mu h0 hps hpl (g_look_some_pos hlo)) (hv_cw C hZ kc_Th_propertiesWithout kn_Th ⟨rfl, rfl, Nat.le_of_ble_eq_true rfl, Nat.le_of_ble_eq_true rfl⟩) hv_blind (hv_pre hZ hS hP) hx hml hb hown (hts _ k_GK_265) (hts _ ki_Th_propertiesWithout) (hts _ ksel_Lk_Th_propertiesWithout) hy_Th_propertiesWithout (hts _ kc_Th_propertiesWithout) (va_recv hK (hv_one hP h0) (ci := 6) (q0 := 0) rfl rfl) rfl hl.1 rfl (lv_room (Nat.le_of_ble_eq_true rfl)) d_GK_dropProperty_22 ⟨Nat.le_of_ble_eq_true rfl, Nat.le_of_ble_eq_true rfl⟩) hZ hS (fun v9 w7 H locs q8 hP hS => ?_) (fun x9 w7 H locs q8 hP hS => q8.elim)
      obtain ⟨rr, hv9, hrn, hrp, hg9⟩ := q8
      subst hv9
      have hM : cK ca L w0 (σ.sSc (σ.sc + 1)) P w7 := hM.grow hg9
      have hR : cR ca L (σ.sSc (σ.sc + 1)) P w7 := hR.k hg9.keep
      show W _ _ _ _ _ _ _ _ _ _ _ _ _ _ _ (F0 m 25 ls [.ref rr, .int (nI i), .ref a, .ref (L 1)])
      have h9 : w7 (L 1) = some (.inr (1, [.ref (L 8), .ref (L 9)])) := hM.1.2 1 (by decide)
      have h10 : w7 (L 9) = some (.inl (ca 6, 96, .inr (.inr (.inr (.inr P.nL))))) := hM.1.2 9 (by decide)
      refine hv_call (hv_runV (As := [.ref a, .int (nI i), .ref rr]) (rest := []) (c_Gr_putAgainL C N hi (hg9 _ _ h0) h9 h10) (hv_cw C hZ kc_Gr_putAgain kn_Gr ⟨rfl, rfl, Nat.le_of_ble_eq_true rfl, Nat.le_of_ble_eq_true rfl⟩) hv_blind (hv_pre hZ hS hP) hx hml hb hown (hts _ k_GK_269) (hts _ ki_Gr_putAgain) (hts _ ksel_Gr_Gr_putAgain) hy_Gr_putAgain (hts _ kc_Gr_putAgain) (va_recv hK (hv_one hP h9) (ci := 1) (q0 := 0) rfl rfl) rfl hl.1 rfl (lv_room (Nat.le_of_ble_eq_true rfl)) d_GK_dropProperty_25 ⟨Nat.le_of_ble_eq_true rfl, Nat.le_of_ble_eq_true rfl⟩) hZ hS (fun v9 w11 H locs q12 hP hS => ?_) (fun x9 w11 H locs q12 hP hS => q12.elim)
      obtain ⟨hv9, qn, hqn, hqc, hqt, hqo9⟩ := q12
      subst hv9
      have hk9 : g_keep (cM L) w7 w11 := g_keep.putNew (k := 9) (by decide) hqn hqo9
      have hm9 := hM.fresh hqn
      have hM : cK ca L w0 ((σ.sSc (σ.sc + 1)).sNow (va_up σ.now (64 + i) (some (t.sPs (g_drop t.ps y))))) (P.sNL (va_up P.nL i (some qn))) w11 := hM.putNew 9 (by decide) hqn hqt hqo9 rfl
      have hR9 := hR.k hk9
      have hR : cR ca L ((σ.sSc (σ.sc + 1)).sNow (va_up σ.now (64 + i) (some (t.sPs (g_drop t.ps y))))) (P.sNL (va_up P.nL i (some qn))) w11 := ⟨cG_putL hR9.1 hi ⟨hm9, rr, hqc, hrp.k hk9⟩, hR9.2⟩
      show W _ _ _ _ _ _ _ _ _ _ _ _ _ _ _ (F0 m 28 ls [])
      refine lv_iconst (v := 1) hx hb d_GK_dropProperty_28 (by decide) ?_
      exact hv_zret (v := 1) hQ hx hb hr (by decide) hZ hS hP hlocks d_GK_dropProperty_29 (Or.inr ⟨po, hlo, hno9, rfl, _, hM, hR⟩)
    · refine hv_Tw (k := 3) (n := 16) (by omega) (by omega) ?_
      exact hv_tleave hQ hZ hS hP hlocks (hout _) (⟨po, hlo, ⟨q5.1, cThr.tr hM q5.2⟩⟩)

abbrev rm_GK_putPropertyN : Room := { frames := 8, cells := 4, slots := 23, locals := 125 }
set_option maxHeartbeats 4000000 in
set_option maxRecDepth 100000 in
theorem c_GK_putPropertyN {l : Launch} {s0 : State} {D : va_G} {ca : Nat → ClassId} (C : hv_C l s0 D (hv_tys ca)) {w : hv_W} (N : hv_N s0) {L : Nat → Nat} {w0 : hv_W} {σ : gS} {P : cT} {q : Nat} {pp : gP} (hM : cK ca L w0 σ P w) (hR : cR ca L σ P w) {i a : Nat} {t : gT} (hi : i < 64) (ha : P.nN i = some a) (ht : σ.now i = some t) (hpl : t.ps.length ≤ 6) (hpp : g_prop ca (cM L) w q pp) (hpq : pp.2.2.2.length ≤ 24) (hpt : ∀ p, p ∈ t.ps → p.2.2.2.length ≤ 24) (hb9 : σ.ec + σ.sc ≤ 249)  :
    hv_Met l y_GK_putProperty [.code y_GK_putProperty b_GK_putProperty 5 (some .boolean)] rm_GK_putPropertyN (hv_Pc s0 D w [.ref (L 0), .ref a, .int (nI i), .ref q]) (hv_Q s0 D (fun v w' => (x_pk t.ps pp = 0 ∧ v = some (.int 0) ∧ w' = w) ∨ (x_pk t.ps pp = 2 ∧ ¬ 249 ≤ σ.ec + σ.sc ∧ v = some (.int 1) ∧ cP ca L w0 ((σ.sSc (σ.sc + 1)).sNow (va_up σ.now i (some (t.sPs (g_put t.ps pp))))) w')) (fun x w' => (x_pk t.ps pp = 1 ∧ cThr ca L w0 8 (σ.sErr 6) x w') ∨ (x_pk t.ps pp = 2 ∧ 249 ≤ σ.ec + σ.sc ∧ cThr ca L w0 8 (σ.sErr 9) x w'))) 4 23 (hv_A s0.heap.size) := by
  refine hv_enter C _ (by decide) (Nat.le_of_ble_eq_true rfl) ?_
  intro p e s m below meth c ls Q hQ hx hb hr hml hown hts hK hZ hlocks hname hout htr hP hl
  have hown : s.vm.findClass R_GK = some m.cls := hown
  have hS : va_S (hv_A s0.heap.size) s.heap s.heap [] := va_S.rf
  have hl : lv_has ls 5 [(0, .ref (L 0)), (1, .ref a), (2, .int (nI i)), (3, .ref q)] := hl
  obtain ⟨hma, pa, lb, h0, hls, hps⟩ := cG_nodeAt hR.1 hi ha ht
  obtain ⟨hqm, tq, hq2, htx⟩ := id hpp
  obtain ⟨hpm, pf, hp, hpe⟩ := id hps
  refine lv_aload_n hx hb d_GK_putProperty_0 rfl (lv_at hl 1 rfl) ?_
  refine lv_aload_n hx hb d_GK_putProperty_1 rfl (lv_at hl 3 rfl) ?_
  refine va_get (D := D) (ci := 4) (v := .int pp.1) (C := R_Pr) (T := F_Pr) (N := 4) hx hb hts i_Pr hown hK (hv_one hP hq2) 0 rfl rfl 0 (by decide) (hts _ k_GK_273) (fun _ h9 => h9) rfl d_GK_putProperty_2 ?_
  refine hv_call (hv_runV (As := [.int pp.1]) (rest := []) (c_Th_propertyOfN C pp.1 h0 hps hpl) (hv_cw C hZ kc_Th_propertyOf kn_Th ⟨rfl, rfl, Nat.le_of_ble_eq_true rfl, Nat.le_of_ble_eq_true rfl⟩) hv_blind (hv_pre hZ hS hP) hx hml hb hown (hts _ k_GK_228) (hts _ ki_Th_propertyOf) (hts _ ksel_Nd_Th_propertyOf) hy_Th_propertyOf (hts _ kc_Th_propertyOf) (va_recv hK (hv_one hP h0) (ci := 5) (q0 := 0) rfl rfl) rfl hl.1 rfl (lv_room (Nat.le_of_ble_eq_true rfl)) d_GK_putProperty_5 ⟨Nat.le_of_ble_eq_true rfl, Nat.le_of_ble_eq_true rfl⟩) hZ hS (fun v9 w1 H locs q2 hP hS => ?_) (fun x9 w1 H locs q2 hP hS => q2.elim)
  obtain ⟨⟨r, hv9, hlk⟩, hw9⟩ := q2
  subst hv9
  rw [hw9] at hP
  show W _ _ _ _ _ _ _ _ _ _ _ _ _ _ _ (F0 m 8 ls [va_rf r])
  cases h9o : r with
  | none =>
    show W _ _ _ _ _ _ _ _ _ _ _ _ _ _ _ (F0 m 8 ls [.null])
    have hlo := g_lookq_none hlk h9o
    refine lv_astoreN (lv' := [(4, .null), (0, .ref (L 0)), (1, .ref a), (2, .int (nI i)), (3, .ref q)]) hx hb d_GK_putProperty_8 hl (by decide) rfl (fun ls hl => ?_)
    refine lv_aloadN hx hb d_GK_putProperty_10 (lv_at hl 0 rfl) ?_
    refine lv_ifnonnullN hx hb d_GK_putProperty_12 ?_
    refine lv_aload_n hx hb d_GK_putProperty_15 rfl (lv_at hl 1 rfl) ?_
    refine lv_aload_n hx hb d_GK_putProperty_16 rfl (lv_at hl 2 rfl) ?_
    refine va_get (D := D) (ci := 5) (v := .ref pa) (C := R_Nd) (T := F_Nd) (N := 2) hx hb hts i_Nd hown hK (hv_one hP h0) 0 rfl rfl 0 (by decide) (hts _ k_GK_202) (fun _ h9 => h9) rfl d_GK_putProperty_17 ?_
    refine va_alen (v := nI t.ps.length) hx hb hK (hv_one hP hp) 0 4 rfl rfl rfl d_GK_putProperty_20 ?_
    refine lv_bipush (v := 6) hx hb d_GK_putProperty_21 (by decide) ?_
    have h3 : w (L 0) = some (.inr (0, [.ref (L 1), .ref (L 2), .ref (L 3), .ref (L 4), .ref (L 5), .ref (L 6), .ref (L 7), .int (σ.err), .int (nI (σ.sc)), .int (nI (σ.ec)), .int (σ.ins), .int (σ.off)])) := hM.1.2 0 (by decide)
    refine hv_call (hv_runV (As := [.int (nI t.ps.length), .int 6]) (rest := []) (c_GK_mustBeLess C N (nI t.ps.length) 6 hM hR) (hv_cw C hZ kc_GK_mustBeLess kn_GK ⟨rfl, rfl, Nat.le_of_ble_eq_true rfl, Nat.le_of_ble_eq_true rfl⟩) hv_blind (hv_pre hZ hS hP) hx hml hb hown (hts _ k_GK_80) (hts _ ki_GK_mustBeLess) (hts _ ksel_GK_GK_mustBeLess) hy_GK_mustBeLess (hts _ kc_GK_mustBeLess) (va_recv hK (hv_one hP h3) (ci := 0) (q0 := 0) rfl rfl) rfl hl.1 rfl (lv_room (Nat.le_of_ble_eq_true rfl)) d_GK_putProperty_23 ⟨Nat.le_of_ble_eq_true rfl, Nat.le_of_ble_eq_true rfl⟩) hZ hS (fun v9 w4 H locs q5 hP hS => ?_) (fun x9 w4 H locs q5 hP hS => ?_)
    · obtain ⟨hless, hv9, hw9⟩ := q5
      subst hv9
      rw [hw9] at hP
      show W _ _ _ _ _ _ _ _ _ _ _ _ _ _ _ (F0 m 26 ls [])
      have hx2 : x_pk t.ps pp = 2 := by rw [x_pk_n hlo, if_neg (Nat.not_le.mpr ((nI_ltI (b := 6) (by omega) (by decide)).mp hless))]
      refine lv_goto (tgt := 40) hx hb d_GK_putProperty_26 (by decide) ?_
      refine lv_aload_n hx hb d_GK_putProperty_40 rfl (lv_at hl 1 rfl) ?_
      refine hv_call (hv_runV (As := []) (rest := []) (c_GK_countChange C N hM.re hR hb9) (hv_cw C hZ kc_GK_countChange kn_GK ⟨rfl, rfl, Nat.le_of_ble_eq_true rfl, Nat.le_of_ble_eq_true rfl⟩) hv_blind (hv_pre hZ hS hP) hx hml hb hown (hts _ k_GK_54) (hts _ ki_GK_countChange) (hts _ ksel_GK_GK_countChange) hy_GK_countChange (hts _ kc_GK_countChange) (va_recv hK (hv_one hP h3) (ci := 0) (q0 := 0) rfl rfl) rfl hl.1 rfl (lv_room (Nat.le_of_ble_eq_true rfl)) d_GK_putProperty_41 ⟨Nat.le_of_ble_eq_true rfl, Nat.le_of_ble_eq_true rfl⟩) hZ hS (fun v9 w6 H locs q7 hP hS => ?_) (fun x9 w6 H locs q7 hP hS => ?_)
      · obtain ⟨hno9, hv9, hM9, hR⟩ := q7
        subst hv9
        have hk9 : g_keep (cM L) w w6 := hM9.2
        have hM : cK ca L w0 (σ.sSc (σ.sc + 1)) P w6 := cK.tr hM.2 hM9
        show W _ _ _ _ _ _ _ _ _ _ _ _ _ _ _ (F0 m 44 ls [])
        obtain ⟨hma, pa, lb, h0, hls, hps⟩ := cG_nodeAt hR.1 hi ha ht
        have hpp := hpp.k hk9
        obtain ⟨hqm, tq, hq2, htx⟩ := id hpp
        refine lv_aload_n hx hb d_GK_putProperty_44 rfl (lv_at hl 1 rfl) ?_
        have h8 : w6 (L 0) = some (.inr (0, [.ref (L 1), .ref (L 2), .ref (L 3), .ref (L 4), .ref (L 5), .ref (L 6), .ref (L 7), .int ((σ.sSc (σ.sc + 1)).err), .int (nI ((σ.sSc (σ.sc + 1)).sc)), .int (nI ((σ.sSc (σ.sc + 1)).ec)), .int ((σ.sSc (σ.sc + 1)).ins), .int ((σ.sSc (σ.sc + 1)).off)])) := hM.1.2 0 (by decide)
        refine va_get (D := D) (ci := 0) (v := .ref (L 1)) (C := R_GK) (T := F_GK) (N := 12) hx hb hts i_GK hown hK (hv_one hP h8) 0 rfl rfl 0 (by decide) (hts _ k_GK_10) (fun _ h9 => h9) rfl d_GK_putProperty_45 ?_
        refine lv_aload_n hx hb d_GK_putProperty_48 rfl (lv_at hl 2 rfl) ?_
        refine lv_iload_n hx hb d_GK_putProperty_49 rfl (lv_at hl 3 rfl) ?_
        refine lv_aload_n hx hb d_GK_putProperty_50 rfl (lv_at hl 2 rfl) ?_
        refine lv_aload_n hx hb d_GK_putProperty_51 rfl (lv_at hl 4 rfl) ?_
        refine hv_call (hv_runV (As := [.ref q]) (rest := [.int (nI i), .ref a, .ref (L 1)]) (c_Th_propertiesWithN C hM.mu h0 hps hpl hpp) (hv_cw C hZ kc_Th_propertiesWith kn_Th ⟨rfl, rfl, Nat.le_of_ble_eq_true rfl, Nat.le_of_ble_eq_true rfl⟩) hv_blind (hv_pre hZ hS hP) hx hml hb hown (hts _ k_GK_280) (hts _ ki_Th_propertiesWith) (hts _ ksel_Nd_Th_propertiesWith) hy_Th_propertiesWith (hts _ kc_Th_propertiesWith) (va_recv hK (hv_one hP h0) (ci := 5) (q0 := 0) rfl rfl) rfl hl.1 rfl (lv_room (Nat.le_of_ble_eq_true rfl)) d_GK_putProperty_52 ⟨Nat.le_of_ble_eq_true rfl, Nat.le_of_ble_eq_true rfl⟩) hZ hS (fun v9 w9 H locs q10 hP hS => ?_) (fun x9 w9 H locs q10 hP hS => q10.elim)
        obtain ⟨rr, hv9, hrn, hrp, hg9⟩ := q10
        subst hv9
        have hM : cK ca L w0 (σ.sSc (σ.sc + 1)) P w9 := hM.grow hg9
        have hR : cR ca L (σ.sSc (σ.sc + 1)) P w9 := hR.k hg9.keep
        show W _ _ _ _ _ _ _ _ _ _ _ _ _ _ _ (F0 m 55 ls [.ref rr, .int (nI i), .ref a, .ref (L 1)])
        have hls := hls.k hg9.keep (Mu := cM L)
        have h11 : w9 (L 1) = some (.inr (1, [.ref (L 8), .ref (L 9)])) := hM.1.2 1 (by decide)
        have h12 : w9 (L 8) = some (.inl (ca 5, 64, .inr (.inr (.inr (.inr P.nN))))) := hM.1.2 8 (by decide)
        refine hv_call (hv_runV (As := [.ref a, .int (nI i), .ref rr]) (rest := []) (c_Gr_putAgainN C N hi (hg9 _ _ h0) h11 h12) (hv_cw C hZ kc_Gr_putAgain kn_Gr ⟨rfl, rfl, Nat.le_of_ble_eq_true rfl, Nat.le_of_ble_eq_true rfl⟩) hv_blind (hv_pre hZ hS hP) hx hml hb hown (hts _ k_GK_269) (hts _ ki_Gr_putAgain) (hts _ ksel_Gr_Gr_putAgain) hy_Gr_putAgain (hts _ kc_Gr_putAgain) (va_recv hK (hv_one hP h11) (ci := 1) (q0 := 0) rfl rfl) rfl hl.1 rfl (lv_room (Nat.le_of_ble_eq_true rfl)) d_GK_putProperty_55 ⟨Nat.le_of_ble_eq_true rfl, Nat.le_of_ble_eq_true rfl⟩) hZ hS (fun v9 w13 H locs q14 hP hS => ?_) (fun x9 w13 H locs q14 hP hS => q14.elim)
        obtain ⟨hv9, qn, hqn, hqc, hqt, hqo9⟩ := q14
        subst hv9
        have hk9 : g_keep (cM L) w9 w13 := g_keep.putNew (k := 8) (by decide) hqn hqo9
        have hm9 := hM.fresh hqn
        have hM : cK ca L w0 ((σ.sSc (σ.sc + 1)).sNow (va_up σ.now i (some (t.sPs (g_put t.ps pp))))) (P.sNN (va_up P.nN i (some qn))) w13 := hM.putNew 8 (by decide) hqn hqt hqo9 rfl
        have hR9 := hR.k hk9
        have hR : cR ca L ((σ.sSc (σ.sc + 1)).sNow (va_up σ.now i (some (t.sPs (g_put t.ps pp))))) (P.sNN (va_up P.nN i (some qn))) w13 := ⟨cG_putN hR9.1 hi ⟨hm9, rr, lb, hqc, hls.k hk9, hrp.k hk9⟩, hR9.2⟩
        show W _ _ _ _ _ _ _ _ _ _ _ _ _ _ _ (F0 m 58 ls [])
        refine lv_iconst (v := 1) hx hb d_GK_putProperty_58 (by decide) ?_
        exact hv_zret (v := 1) hQ hx hb hr (by decide) hZ hS hP hlocks d_GK_putProperty_59 (Or.inr ⟨hx2, hno9, rfl, _, hM, hR⟩)
      · refine hv_Tw (k := 4) (n := 23) (by omega) (by omega) ?_
        exact hv_tleave hQ hZ hS hP hlocks (hout _) (Or.inr ⟨hx2, ⟨q7.1, cThr.tr hM q7.2⟩⟩)
    · refine hv_Tw (k := 4) (n := 23) (by omega) (by omega) ?_
      exact hv_tleave hQ hZ hS hP hlocks (hout _) (Or.inl ⟨by rw [x_pk_n hlo, if_pos (Nat.not_lt.mp fun z => q5.1 (nI_lt (b := 6) z (by decide)))], q5.2⟩)
  | some qo =>
    show W _ _ _ _ _ _ _ _ _ _ _ _ _ _ _ (F0 m 8 ls [.ref qo])
    obtain ⟨po, hlo, hqo⟩ := g_lookq_some hlk h9o
    have hpo := hqo.2.choose_spec.1
    refine lv_astore (lv' := [(4, .ref qo), (0, .ref (L 0)), (1, .ref a), (2, .int (nI i)), (3, .ref q)]) hx hb d_GK_putProperty_8 hl (by decide) rfl (fun ls hl => ?_)
    refine lv_aload hx hb d_GK_putProperty_10 (lv_at hl 0 rfl) ?_
    refine lv_ifnonnull (tgt := 29) hx hb d_GK_putProperty_12 (by decide) ?_
    refine lv_aload hx hb d_GK_putProperty_29 (lv_at hl 0 rfl) ?_
    refine lv_aload_n hx hb d_GK_putProperty_31 rfl (lv_at hl 4 rfl) ?_
    refine hv_call (hv_runV (As := [.ref q]) (rest := []) (c_Pr_isSameValue C hqo hpp (hpt _ (g_look_mem hlo)) hpq) (hv_cw C hZ kc_Pr_isSameValue kn_Pr ⟨rfl, rfl, Nat.le_of_ble_eq_true rfl, Nat.le_of_ble_eq_true rfl⟩) hv_blind (hv_pre hZ hS hP) hx hml hb hown (hts _ k_GK_276) (hts _ ki_Pr_isSameValue) (hts _ ksel_Pr_Pr_isSameValue) hy_Pr_isSameValue (hts _ kc_Pr_isSameValue) (va_recv hK (hv_one hP hpo) (ci := 4) (q0 := 0) rfl rfl) rfl hl.1 rfl (lv_room (Nat.le_of_ble_eq_true rfl)) d_GK_putProperty_32 ⟨Nat.le_of_ble_eq_true rfl, Nat.le_of_ble_eq_true rfl⟩) hZ hS (fun v9 w15 H locs q16 hP hS => ?_) (fun x9 w15 H locs q16 hP hS => q16.elim)
    obtain ⟨hv9, hw9⟩ := q16
    subst hv9
    rw [hw9] at hP
    show W _ _ _ _ _ _ _ _ _ _ _ _ _ _ _ (F0 m 35 ls [.int (if po.2 = pp.2 then 1 else 0)])
    refine lv_if_eq (tgt := 40) hx hb d_GK_putProperty_35 (by decide) (fun c35 => ?_) (fun c35 => ?_)
    · have hx2 : x_pk t.ps pp = 2 := by rw [x_pk_s hlo, if_neg (fun z => by rw [if_pos z] at c35; exact absurd c35 (by decide))]
      refine lv_aload_n hx hb d_GK_putProperty_40 rfl (lv_at hl 1 rfl) ?_
      have h17 : w (L 0) = some (.inr (0, [.ref (L 1), .ref (L 2), .ref (L 3), .ref (L 4), .ref (L 5), .ref (L 6), .ref (L 7), .int (σ.err), .int (nI (σ.sc)), .int (nI (σ.ec)), .int (σ.ins), .int (σ.off)])) := hM.1.2 0 (by decide)
      refine hv_call (hv_runV (As := []) (rest := []) (c_GK_countChange C N hM.re hR hb9) (hv_cw C hZ kc_GK_countChange kn_GK ⟨rfl, rfl, Nat.le_of_ble_eq_true rfl, Nat.le_of_ble_eq_true rfl⟩) hv_blind (hv_pre hZ hS hP) hx hml hb hown (hts _ k_GK_54) (hts _ ki_GK_countChange) (hts _ ksel_GK_GK_countChange) hy_GK_countChange (hts _ kc_GK_countChange) (va_recv hK (hv_one hP h17) (ci := 0) (q0 := 0) rfl rfl) rfl hl.1 rfl (lv_room (Nat.le_of_ble_eq_true rfl)) d_GK_putProperty_41 ⟨Nat.le_of_ble_eq_true rfl, Nat.le_of_ble_eq_true rfl⟩) hZ hS (fun v9 w18 H locs q19 hP hS => ?_) (fun x9 w18 H locs q19 hP hS => ?_)
      · obtain ⟨hno9, hv9, hM9, hR⟩ := q19
        subst hv9
        have hk9 : g_keep (cM L) w w18 := hM9.2
        have hM : cK ca L w0 (σ.sSc (σ.sc + 1)) P w18 := cK.tr hM.2 hM9
        show W _ _ _ _ _ _ _ _ _ _ _ _ _ _ _ (F0 m 44 ls [])
        obtain ⟨hma, pa, lb, h0, hls, hps⟩ := cG_nodeAt hR.1 hi ha ht
        have hpp := hpp.k hk9
        obtain ⟨hqm, tq, hq2, htx⟩ := id hpp
        refine lv_aload_n hx hb d_GK_putProperty_44 rfl (lv_at hl 1 rfl) ?_
        have h20 : w18 (L 0) = some (.inr (0, [.ref (L 1), .ref (L 2), .ref (L 3), .ref (L 4), .ref (L 5), .ref (L 6), .ref (L 7), .int ((σ.sSc (σ.sc + 1)).err), .int (nI ((σ.sSc (σ.sc + 1)).sc)), .int (nI ((σ.sSc (σ.sc + 1)).ec)), .int ((σ.sSc (σ.sc + 1)).ins), .int ((σ.sSc (σ.sc + 1)).off)])) := hM.1.2 0 (by decide)
        refine va_get (D := D) (ci := 0) (v := .ref (L 1)) (C := R_GK) (T := F_GK) (N := 12) hx hb hts i_GK hown hK (hv_one hP h20) 0 rfl rfl 0 (by decide) (hts _ k_GK_10) (fun _ h9 => h9) rfl d_GK_putProperty_45 ?_
        refine lv_aload_n hx hb d_GK_putProperty_48 rfl (lv_at hl 2 rfl) ?_
        refine lv_iload_n hx hb d_GK_putProperty_49 rfl (lv_at hl 3 rfl) ?_
        refine lv_aload_n hx hb d_GK_putProperty_50 rfl (lv_at hl 2 rfl) ?_
        refine lv_aload_n hx hb d_GK_putProperty_51 rfl (lv_at hl 4 rfl) ?_
        refine hv_call (hv_runV (As := [.ref q]) (rest := [.int (nI i), .ref a, .ref (L 1)]) (c_Th_propertiesWithN C hM.mu h0 hps hpl hpp) (hv_cw C hZ kc_Th_propertiesWith kn_Th ⟨rfl, rfl, Nat.le_of_ble_eq_true rfl, Nat.le_of_ble_eq_true rfl⟩) hv_blind (hv_pre hZ hS hP) hx hml hb hown (hts _ k_GK_280) (hts _ ki_Th_propertiesWith) (hts _ ksel_Nd_Th_propertiesWith) hy_Th_propertiesWith (hts _ kc_Th_propertiesWith) (va_recv hK (hv_one hP h0) (ci := 5) (q0 := 0) rfl rfl) rfl hl.1 rfl (lv_room (Nat.le_of_ble_eq_true rfl)) d_GK_putProperty_52 ⟨Nat.le_of_ble_eq_true rfl, Nat.le_of_ble_eq_true rfl⟩) hZ hS (fun v9 w21 H locs q22 hP hS => ?_) (fun x9 w21 H locs q22 hP hS => q22.elim)
        obtain ⟨rr, hv9, hrn, hrp, hg9⟩ := q22
        subst hv9
        have hM : cK ca L w0 (σ.sSc (σ.sc + 1)) P w21 := hM.grow hg9
        have hR : cR ca L (σ.sSc (σ.sc + 1)) P w21 := hR.k hg9.keep
        show W _ _ _ _ _ _ _ _ _ _ _ _ _ _ _ (F0 m 55 ls [.ref rr, .int (nI i), .ref a, .ref (L 1)])
        have hls := hls.k hg9.keep (Mu := cM L)
        have h23 : w21 (L 1) = some (.inr (1, [.ref (L 8), .ref (L 9)])) := hM.1.2 1 (by decide)
        have h24 : w21 (L 8) = some (.inl (ca 5, 64, .inr (.inr (.inr (.inr P.nN))))) := hM.1.2 8 (by decide)
        refine hv_call (hv_runV (As := [.ref a, .int (nI i), .ref rr]) (rest := []) (c_Gr_putAgainN C N hi (hg9 _ _ h0) h23 h24) (hv_cw C hZ kc_Gr_putAgain kn_Gr ⟨rfl, rfl, Nat.le_of_ble_eq_true rfl, Nat.le_of_ble_eq_true rfl⟩) hv_blind (hv_pre hZ hS hP) hx hml hb hown (hts _ k_GK_269) (hts _ ki_Gr_putAgain) (hts _ ksel_Gr_Gr_putAgain) hy_Gr_putAgain (hts _ kc_Gr_putAgain) (va_recv hK (hv_one hP h23) (ci := 1) (q0 := 0) rfl rfl) rfl hl.1 rfl (lv_room (Nat.le_of_ble_eq_true rfl)) d_GK_putProperty_55 ⟨Nat.le_of_ble_eq_true rfl, Nat.le_of_ble_eq_true rfl⟩) hZ hS (fun v9 w25 H locs q26 hP hS => ?_) (fun x9 w25 H locs q26 hP hS => q26.elim)
        obtain ⟨hv9, qn, hqn, hqc, hqt, hqo9⟩ := q26
        subst hv9
        have hk9 : g_keep (cM L) w21 w25 := g_keep.putNew (k := 8) (by decide) hqn hqo9
        have hm9 := hM.fresh hqn
        have hM : cK ca L w0 ((σ.sSc (σ.sc + 1)).sNow (va_up σ.now i (some (t.sPs (g_put t.ps pp))))) (P.sNN (va_up P.nN i (some qn))) w25 := hM.putNew 8 (by decide) hqn hqt hqo9 rfl
        have hR9 := hR.k hk9
        have hR : cR ca L ((σ.sSc (σ.sc + 1)).sNow (va_up σ.now i (some (t.sPs (g_put t.ps pp))))) (P.sNN (va_up P.nN i (some qn))) w25 := ⟨cG_putN hR9.1 hi ⟨hm9, rr, lb, hqc, hls.k hk9, hrp.k hk9⟩, hR9.2⟩
        show W _ _ _ _ _ _ _ _ _ _ _ _ _ _ _ (F0 m 58 ls [])
        refine lv_iconst (v := 1) hx hb d_GK_putProperty_58 (by decide) ?_
        refine W.widen (k := 4) (n := 23) (by omega) (by omega) ?_
        exact hv_zret (v := 1) hQ hx hb hr (by decide) hZ hS hP hlocks d_GK_putProperty_59 (Or.inr ⟨hx2, hno9, rfl, _, hM, hR⟩)
      · refine hv_Tw (k := 4) (n := 23) (by omega) (by omega) ?_
        exact hv_tleave hQ hZ hS hP hlocks (hout _) (Or.inr ⟨hx2, ⟨q19.1, cThr.tr hM q19.2⟩⟩)
    · have hx0 : x_pk t.ps pp = 0 := by rw [x_pk_s hlo, if_pos (Classical.byContradiction fun z => c35 (if_neg z))]
      refine lv_iconst (v := 0) hx hb d_GK_putProperty_38 (by decide) ?_
      refine W.widen (k := 4) (n := 23) (by omega) (by omega) ?_
      exact hv_zret (v := 0) hQ hx hb hr (by decide) hZ hS hP hlocks d_GK_putProperty_39 (Or.inl ⟨hx0, rfl, rfl⟩)

abbrev rm_GK_putPropertyL : Room := { frames := 8, cells := 4, slots := 23, locals := 125 }
set_option maxHeartbeats 4000000 in
set_option maxRecDepth 100000 in
theorem c_GK_putPropertyL {l : Launch} {s0 : State} {D : va_G} {ca : Nat → ClassId} (C : hv_C l s0 D (hv_tys ca)) {w : hv_W} (N : hv_N s0) {L : Nat → Nat} {w0 : hv_W} {σ : gS} {P : cT} {q : Nat} {pp : gP} (hM : cK ca L w0 σ P w) (hR : cR ca L σ P w) {i a : Nat} {t : gT} (hi : i < 96) (ha : P.nL i = some a) (ht : σ.now (64 + i) = some t) (hpl : t.ps.length ≤ 6) (hpp : g_prop ca (cM L) w q pp) (hpq : pp.2.2.2.length ≤ 24) (hpt : ∀ p, p ∈ t.ps → p.2.2.2.length ≤ 24) (hb9 : σ.ec + σ.sc ≤ 249)  :
    hv_Met l y_GK_putProperty [.code y_GK_putProperty b_GK_putProperty 5 (some .boolean)] rm_GK_putPropertyL (hv_Pc s0 D w [.ref (L 0), .ref a, .int (nI i), .ref q]) (hv_Q s0 D (fun v w' => (x_pk t.ps pp = 0 ∧ v = some (.int 0) ∧ w' = w) ∨ (x_pk t.ps pp = 2 ∧ ¬ 249 ≤ σ.ec + σ.sc ∧ v = some (.int 1) ∧ cP ca L w0 ((σ.sSc (σ.sc + 1)).sNow (va_up σ.now (64 + i) (some (t.sPs (g_put t.ps pp))))) w')) (fun x w' => (x_pk t.ps pp = 1 ∧ cThr ca L w0 8 (σ.sErr 6) x w') ∨ (x_pk t.ps pp = 2 ∧ 249 ≤ σ.ec + σ.sc ∧ cThr ca L w0 8 (σ.sErr 9) x w'))) 4 23 (hv_A s0.heap.size) := by
  refine hv_enter C _ (by decide) (Nat.le_of_ble_eq_true rfl) ?_
  intro p e s m below meth c ls Q hQ hx hb hr hml hown hts hK hZ hlocks hname hout htr hP hl
  have hown : s.vm.findClass R_GK = some m.cls := hown
  have hS : va_S (hv_A s0.heap.size) s.heap s.heap [] := va_S.rf
  have hl : lv_has ls 5 [(0, .ref (L 0)), (1, .ref a), (2, .int (nI i)), (3, .ref q)] := hl
  obtain ⟨hma, pa, h0, hps⟩ := cG_linkAt hR.1 hi ha ht
  obtain ⟨hqm, tq, hq2, htx⟩ := id hpp
  obtain ⟨hpm, pf, hp, hpe⟩ := id hps
  refine lv_aload_n hx hb d_GK_putProperty_0 rfl (lv_at hl 1 rfl) ?_
  refine lv_aload_n hx hb d_GK_putProperty_1 rfl (lv_at hl 3 rfl) ?_
  refine va_get (D := D) (ci := 4) (v := .int pp.1) (C := R_Pr) (T := F_Pr) (N := 4) hx hb hts i_Pr hown hK (hv_one hP hq2) 0 rfl rfl 0 (by decide) (hts _ k_GK_273) (fun _ h9 => h9) rfl d_GK_putProperty_2 ?_
  refine hv_call (hv_runV (As := [.int pp.1]) (rest := []) (c_Th_propertyOfL C pp.1 h0 hps hpl) (hv_cw C hZ kc_Th_propertyOf kn_Th ⟨rfl, rfl, Nat.le_of_ble_eq_true rfl, Nat.le_of_ble_eq_true rfl⟩) hv_blind (hv_pre hZ hS hP) hx hml hb hown (hts _ k_GK_228) (hts _ ki_Th_propertyOf) (hts _ ksel_Lk_Th_propertyOf) hy_Th_propertyOf (hts _ kc_Th_propertyOf) (va_recv hK (hv_one hP h0) (ci := 6) (q0 := 0) rfl rfl) rfl hl.1 rfl (lv_room (Nat.le_of_ble_eq_true rfl)) d_GK_putProperty_5 ⟨Nat.le_of_ble_eq_true rfl, Nat.le_of_ble_eq_true rfl⟩) hZ hS (fun v9 w1 H locs q2 hP hS => ?_) (fun x9 w1 H locs q2 hP hS => q2.elim)
  obtain ⟨⟨r, hv9, hlk⟩, hw9⟩ := q2
  subst hv9
  rw [hw9] at hP
  show W _ _ _ _ _ _ _ _ _ _ _ _ _ _ _ (F0 m 8 ls [va_rf r])
  cases h9o : r with
  | none =>
    show W _ _ _ _ _ _ _ _ _ _ _ _ _ _ _ (F0 m 8 ls [.null])
    have hlo := g_lookq_none hlk h9o
    refine lv_astoreN (lv' := [(4, .null), (0, .ref (L 0)), (1, .ref a), (2, .int (nI i)), (3, .ref q)]) hx hb d_GK_putProperty_8 hl (by decide) rfl (fun ls hl => ?_)
    refine lv_aloadN hx hb d_GK_putProperty_10 (lv_at hl 0 rfl) ?_
    refine lv_ifnonnullN hx hb d_GK_putProperty_12 ?_
    refine lv_aload_n hx hb d_GK_putProperty_15 rfl (lv_at hl 1 rfl) ?_
    refine lv_aload_n hx hb d_GK_putProperty_16 rfl (lv_at hl 2 rfl) ?_
    refine va_get (D := D) (ci := 6) (v := .ref pa) (C := R_Lk) (T := F_Lk) (N := 4) hx hb hts i_Lk hown hK (hv_one hP h0) 0 rfl rfl 0 (by decide) (hts _ k_GK_202) (fun _ h9 => h9) rfl d_GK_putProperty_17 ?_
    refine va_alen (v := nI t.ps.length) hx hb hK (hv_one hP hp) 0 4 rfl rfl rfl d_GK_putProperty_20 ?_
    refine lv_bipush (v := 6) hx hb d_GK_putProperty_21 (by decide) ?_
    have h3 : w (L 0) = some (.inr (0, [.ref (L 1), .ref (L 2), .ref (L 3), .ref (L 4), .ref (L 5), .ref (L 6), .ref (L 7), .int (σ.err), .int (nI (σ.sc)), .int (nI (σ.ec)), .int (σ.ins), .int (σ.off)])) := hM.1.2 0 (by decide)
    refine hv_call (hv_runV (As := [.int (nI t.ps.length), .int 6]) (rest := []) (c_GK_mustBeLess C N (nI t.ps.length) 6 hM hR) (hv_cw C hZ kc_GK_mustBeLess kn_GK ⟨rfl, rfl, Nat.le_of_ble_eq_true rfl, Nat.le_of_ble_eq_true rfl⟩) hv_blind (hv_pre hZ hS hP) hx hml hb hown (hts _ k_GK_80) (hts _ ki_GK_mustBeLess) (hts _ ksel_GK_GK_mustBeLess) hy_GK_mustBeLess (hts _ kc_GK_mustBeLess) (va_recv hK (hv_one hP h3) (ci := 0) (q0 := 0) rfl rfl) rfl hl.1 rfl (lv_room (Nat.le_of_ble_eq_true rfl)) d_GK_putProperty_23 ⟨Nat.le_of_ble_eq_true rfl, Nat.le_of_ble_eq_true rfl⟩) hZ hS (fun v9 w4 H locs q5 hP hS => ?_) (fun x9 w4 H locs q5 hP hS => ?_)
    · obtain ⟨hless, hv9, hw9⟩ := q5
      subst hv9
      rw [hw9] at hP
      show W _ _ _ _ _ _ _ _ _ _ _ _ _ _ _ (F0 m 26 ls [])
      have hx2 : x_pk t.ps pp = 2 := by rw [x_pk_n hlo, if_neg (Nat.not_le.mpr ((nI_ltI (b := 6) (by omega) (by decide)).mp hless))]
      refine lv_goto (tgt := 40) hx hb d_GK_putProperty_26 (by decide) ?_
      refine lv_aload_n hx hb d_GK_putProperty_40 rfl (lv_at hl 1 rfl) ?_
      refine hv_call (hv_runV (As := []) (rest := []) (c_GK_countChange C N hM.re hR hb9) (hv_cw C hZ kc_GK_countChange kn_GK ⟨rfl, rfl, Nat.le_of_ble_eq_true rfl, Nat.le_of_ble_eq_true rfl⟩) hv_blind (hv_pre hZ hS hP) hx hml hb hown (hts _ k_GK_54) (hts _ ki_GK_countChange) (hts _ ksel_GK_GK_countChange) hy_GK_countChange (hts _ kc_GK_countChange) (va_recv hK (hv_one hP h3) (ci := 0) (q0 := 0) rfl rfl) rfl hl.1 rfl (lv_room (Nat.le_of_ble_eq_true rfl)) d_GK_putProperty_41 ⟨Nat.le_of_ble_eq_true rfl, Nat.le_of_ble_eq_true rfl⟩) hZ hS (fun v9 w6 H locs q7 hP hS => ?_) (fun x9 w6 H locs q7 hP hS => ?_)
      · obtain ⟨hno9, hv9, hM9, hR⟩ := q7
        subst hv9
        have hk9 : g_keep (cM L) w w6 := hM9.2
        have hM : cK ca L w0 (σ.sSc (σ.sc + 1)) P w6 := cK.tr hM.2 hM9
        show W _ _ _ _ _ _ _ _ _ _ _ _ _ _ _ (F0 m 44 ls [])
        obtain ⟨hma, pa, h0, hps⟩ := cG_linkAt hR.1 hi ha ht
        have hpp := hpp.k hk9
        obtain ⟨hqm, tq, hq2, htx⟩ := id hpp
        refine lv_aload_n hx hb d_GK_putProperty_44 rfl (lv_at hl 1 rfl) ?_
        have h8 : w6 (L 0) = some (.inr (0, [.ref (L 1), .ref (L 2), .ref (L 3), .ref (L 4), .ref (L 5), .ref (L 6), .ref (L 7), .int ((σ.sSc (σ.sc + 1)).err), .int (nI ((σ.sSc (σ.sc + 1)).sc)), .int (nI ((σ.sSc (σ.sc + 1)).ec)), .int ((σ.sSc (σ.sc + 1)).ins), .int ((σ.sSc (σ.sc + 1)).off)])) := hM.1.2 0 (by decide)
        refine va_get (D := D) (ci := 0) (v := .ref (L 1)) (C := R_GK) (T := F_GK) (N := 12) hx hb hts i_GK hown hK (hv_one hP h8) 0 rfl rfl 0 (by decide) (hts _ k_GK_10) (fun _ h9 => h9) rfl d_GK_putProperty_45 ?_
        refine lv_aload_n hx hb d_GK_putProperty_48 rfl (lv_at hl 2 rfl) ?_
        refine lv_iload_n hx hb d_GK_putProperty_49 rfl (lv_at hl 3 rfl) ?_
        refine lv_aload_n hx hb d_GK_putProperty_50 rfl (lv_at hl 2 rfl) ?_
        refine lv_aload_n hx hb d_GK_putProperty_51 rfl (lv_at hl 4 rfl) ?_
        refine hv_call (hv_runV (As := [.ref q]) (rest := [.int (nI i), .ref a, .ref (L 1)]) (c_Th_propertiesWithL C hM.mu h0 hps hpl hpp) (hv_cw C hZ kc_Th_propertiesWith kn_Th ⟨rfl, rfl, Nat.le_of_ble_eq_true rfl, Nat.le_of_ble_eq_true rfl⟩) hv_blind (hv_pre hZ hS hP) hx hml hb hown (hts _ k_GK_280) (hts _ ki_Th_propertiesWith) (hts _ ksel_Lk_Th_propertiesWith) hy_Th_propertiesWith (hts _ kc_Th_propertiesWith) (va_recv hK (hv_one hP h0) (ci := 6) (q0 := 0) rfl rfl) rfl hl.1 rfl (lv_room (Nat.le_of_ble_eq_true rfl)) d_GK_putProperty_52 ⟨Nat.le_of_ble_eq_true rfl, Nat.le_of_ble_eq_true rfl⟩) hZ hS (fun v9 w9 H locs q10 hP hS => ?_) (fun x9 w9 H locs q10 hP hS => q10.elim)
        obtain ⟨rr, hv9, hrn, hrp, hg9⟩ := q10
        subst hv9
        have hM : cK ca L w0 (σ.sSc (σ.sc + 1)) P w9 := hM.grow hg9
        have hR : cR ca L (σ.sSc (σ.sc + 1)) P w9 := hR.k hg9.keep
        show W _ _ _ _ _ _ _ _ _ _ _ _ _ _ _ (F0 m 55 ls [.ref rr, .int (nI i), .ref a, .ref (L 1)])
        have h11 : w9 (L 1) = some (.inr (1, [.ref (L 8), .ref (L 9)])) := hM.1.2 1 (by decide)
        have h12 : w9 (L 9) = some (.inl (ca 6, 96, .inr (.inr (.inr (.inr P.nL))))) := hM.1.2 9 (by decide)
        refine hv_call (hv_runV (As := [.ref a, .int (nI i), .ref rr]) (rest := []) (c_Gr_putAgainL C N hi (hg9 _ _ h0) h11 h12) (hv_cw C hZ kc_Gr_putAgain kn_Gr ⟨rfl, rfl, Nat.le_of_ble_eq_true rfl, Nat.le_of_ble_eq_true rfl⟩) hv_blind (hv_pre hZ hS hP) hx hml hb hown (hts _ k_GK_269) (hts _ ki_Gr_putAgain) (hts _ ksel_Gr_Gr_putAgain) hy_Gr_putAgain (hts _ kc_Gr_putAgain) (va_recv hK (hv_one hP h11) (ci := 1) (q0 := 0) rfl rfl) rfl hl.1 rfl (lv_room (Nat.le_of_ble_eq_true rfl)) d_GK_putProperty_55 ⟨Nat.le_of_ble_eq_true rfl, Nat.le_of_ble_eq_true rfl⟩) hZ hS (fun v9 w13 H locs q14 hP hS => ?_) (fun x9 w13 H locs q14 hP hS => q14.elim)
        obtain ⟨hv9, qn, hqn, hqc, hqt, hqo9⟩ := q14
        subst hv9
        have hk9 : g_keep (cM L) w9 w13 := g_keep.putNew (k := 9) (by decide) hqn hqo9
        have hm9 := hM.fresh hqn
        have hM : cK ca L w0 ((σ.sSc (σ.sc + 1)).sNow (va_up σ.now (64 + i) (some (t.sPs (g_put t.ps pp))))) (P.sNL (va_up P.nL i (some qn))) w13 := hM.putNew 9 (by decide) hqn hqt hqo9 rfl
        have hR9 := hR.k hk9
        have hR : cR ca L ((σ.sSc (σ.sc + 1)).sNow (va_up σ.now (64 + i) (some (t.sPs (g_put t.ps pp))))) (P.sNL (va_up P.nL i (some qn))) w13 := ⟨cG_putL hR9.1 hi ⟨hm9, rr, hqc, hrp.k hk9⟩, hR9.2⟩
        show W _ _ _ _ _ _ _ _ _ _ _ _ _ _ _ (F0 m 58 ls [])
        refine lv_iconst (v := 1) hx hb d_GK_putProperty_58 (by decide) ?_
        exact hv_zret (v := 1) hQ hx hb hr (by decide) hZ hS hP hlocks d_GK_putProperty_59 (Or.inr ⟨hx2, hno9, rfl, _, hM, hR⟩)
      · refine hv_Tw (k := 4) (n := 23) (by omega) (by omega) ?_
        exact hv_tleave hQ hZ hS hP hlocks (hout _) (Or.inr ⟨hx2, ⟨q7.1, cThr.tr hM q7.2⟩⟩)
    · refine hv_Tw (k := 4) (n := 23) (by omega) (by omega) ?_
      exact hv_tleave hQ hZ hS hP hlocks (hout _) (Or.inl ⟨by rw [x_pk_n hlo, if_pos (Nat.not_lt.mp fun z => q5.1 (nI_lt (b := 6) z (by decide)))], q5.2⟩)
  | some qo =>
    show W _ _ _ _ _ _ _ _ _ _ _ _ _ _ _ (F0 m 8 ls [.ref qo])
    obtain ⟨po, hlo, hqo⟩ := g_lookq_some hlk h9o
    have hpo := hqo.2.choose_spec.1
    refine lv_astore (lv' := [(4, .ref qo), (0, .ref (L 0)), (1, .ref a), (2, .int (nI i)), (3, .ref q)]) hx hb d_GK_putProperty_8 hl (by decide) rfl (fun ls hl => ?_)
    refine lv_aload hx hb d_GK_putProperty_10 (lv_at hl 0 rfl) ?_
    refine lv_ifnonnull (tgt := 29) hx hb d_GK_putProperty_12 (by decide) ?_
    refine lv_aload hx hb d_GK_putProperty_29 (lv_at hl 0 rfl) ?_
    refine lv_aload_n hx hb d_GK_putProperty_31 rfl (lv_at hl 4 rfl) ?_
    refine hv_call (hv_runV (As := [.ref q]) (rest := []) (c_Pr_isSameValue C hqo hpp (hpt _ (g_look_mem hlo)) hpq) (hv_cw C hZ kc_Pr_isSameValue kn_Pr ⟨rfl, rfl, Nat.le_of_ble_eq_true rfl, Nat.le_of_ble_eq_true rfl⟩) hv_blind (hv_pre hZ hS hP) hx hml hb hown (hts _ k_GK_276) (hts _ ki_Pr_isSameValue) (hts _ ksel_Pr_Pr_isSameValue) hy_Pr_isSameValue (hts _ kc_Pr_isSameValue) (va_recv hK (hv_one hP hpo) (ci := 4) (q0 := 0) rfl rfl) rfl hl.1 rfl (lv_room (Nat.le_of_ble_eq_true rfl)) d_GK_putProperty_32 ⟨Nat.le_of_ble_eq_true rfl, Nat.le_of_ble_eq_true rfl⟩) hZ hS (fun v9 w15 H locs q16 hP hS => ?_) (fun x9 w15 H locs q16 hP hS => q16.elim)
    obtain ⟨hv9, hw9⟩ := q16
    subst hv9
    rw [hw9] at hP
    show W _ _ _ _ _ _ _ _ _ _ _ _ _ _ _ (F0 m 35 ls [.int (if po.2 = pp.2 then 1 else 0)])
    refine lv_if_eq (tgt := 40) hx hb d_GK_putProperty_35 (by decide) (fun c35 => ?_) (fun c35 => ?_)
    · have hx2 : x_pk t.ps pp = 2 := by rw [x_pk_s hlo, if_neg (fun z => by rw [if_pos z] at c35; exact absurd c35 (by decide))]
      refine lv_aload_n hx hb d_GK_putProperty_40 rfl (lv_at hl 1 rfl) ?_
      have h17 : w (L 0) = some (.inr (0, [.ref (L 1), .ref (L 2), .ref (L 3), .ref (L 4), .ref (L 5), .ref (L 6), .ref (L 7), .int (σ.err), .int (nI (σ.sc)), .int (nI (σ.ec)), .int (σ.ins), .int (σ.off)])) := hM.1.2 0 (by decide)
      refine hv_call (hv_runV (As := []) (rest := []) (c_GK_countChange C N hM.re hR hb9) (hv_cw C hZ kc_GK_countChange kn_GK ⟨rfl, rfl, Nat.le_of_ble_eq_true rfl, Nat.le_of_ble_eq_true rfl⟩) hv_blind (hv_pre hZ hS hP) hx hml hb hown (hts _ k_GK_54) (hts _ ki_GK_countChange) (hts _ ksel_GK_GK_countChange) hy_GK_countChange (hts _ kc_GK_countChange) (va_recv hK (hv_one hP h17) (ci := 0) (q0 := 0) rfl rfl) rfl hl.1 rfl (lv_room (Nat.le_of_ble_eq_true rfl)) d_GK_putProperty_41 ⟨Nat.le_of_ble_eq_true rfl, Nat.le_of_ble_eq_true rfl⟩) hZ hS (fun v9 w18 H locs q19 hP hS => ?_) (fun x9 w18 H locs q19 hP hS => ?_)
      · obtain ⟨hno9, hv9, hM9, hR⟩ := q19
        subst hv9
        have hk9 : g_keep (cM L) w w18 := hM9.2
        have hM : cK ca L w0 (σ.sSc (σ.sc + 1)) P w18 := cK.tr hM.2 hM9
        show W _ _ _ _ _ _ _ _ _ _ _ _ _ _ _ (F0 m 44 ls [])
        obtain ⟨hma, pa, h0, hps⟩ := cG_linkAt hR.1 hi ha ht
        have hpp := hpp.k hk9
        obtain ⟨hqm, tq, hq2, htx⟩ := id hpp
        refine lv_aload_n hx hb d_GK_putProperty_44 rfl (lv_at hl 1 rfl) ?_
        have h20 : w18 (L 0) = some (.inr (0, [.ref (L 1), .ref (L 2), .ref (L 3), .ref (L 4), .ref (L 5), .ref (L 6), .ref (L 7), .int ((σ.sSc (σ.sc + 1)).err), .int (nI ((σ.sSc (σ.sc + 1)).sc)), .int (nI ((σ.sSc (σ.sc + 1)).ec)), .int ((σ.sSc (σ.sc + 1)).ins), .int ((σ.sSc (σ.sc + 1)).off)])) := hM.1.2 0 (by decide)
        refine va_get (D := D) (ci := 0) (v := .ref (L 1)) (C := R_GK) (T := F_GK) (N := 12) hx hb hts i_GK hown hK (hv_one hP h20) 0 rfl rfl 0 (by decide) (hts _ k_GK_10) (fun _ h9 => h9) rfl d_GK_putProperty_45 ?_
        refine lv_aload_n hx hb d_GK_putProperty_48 rfl (lv_at hl 2 rfl) ?_
        refine lv_iload_n hx hb d_GK_putProperty_49 rfl (lv_at hl 3 rfl) ?_
        refine lv_aload_n hx hb d_GK_putProperty_50 rfl (lv_at hl 2 rfl) ?_
        refine lv_aload_n hx hb d_GK_putProperty_51 rfl (lv_at hl 4 rfl) ?_
        refine hv_call (hv_runV (As := [.ref q]) (rest := [.int (nI i), .ref a, .ref (L 1)]) (c_Th_propertiesWithL C hM.mu h0 hps hpl hpp) (hv_cw C hZ kc_Th_propertiesWith kn_Th ⟨rfl, rfl, Nat.le_of_ble_eq_true rfl, Nat.le_of_ble_eq_true rfl⟩) hv_blind (hv_pre hZ hS hP) hx hml hb hown (hts _ k_GK_280) (hts _ ki_Th_propertiesWith) (hts _ ksel_Lk_Th_propertiesWith) hy_Th_propertiesWith (hts _ kc_Th_propertiesWith) (va_recv hK (hv_one hP h0) (ci := 6) (q0 := 0) rfl rfl) rfl hl.1 rfl (lv_room (Nat.le_of_ble_eq_true rfl)) d_GK_putProperty_52 ⟨Nat.le_of_ble_eq_true rfl, Nat.le_of_ble_eq_true rfl⟩) hZ hS (fun v9 w21 H locs q22 hP hS => ?_) (fun x9 w21 H locs q22 hP hS => q22.elim)
        obtain ⟨rr, hv9, hrn, hrp, hg9⟩ := q22
        subst hv9
        have hM : cK ca L w0 (σ.sSc (σ.sc + 1)) P w21 := hM.grow hg9
        have hR : cR ca L (σ.sSc (σ.sc + 1)) P w21 := hR.k hg9.keep
        show W _ _ _ _ _ _ _ _ _ _ _ _ _ _ _ (F0 m 55 ls [.ref rr, .int (nI i), .ref a, .ref (L 1)])
        have h23 : w21 (L 1) = some (.inr (1, [.ref (L 8), .ref (L 9)])) := hM.1.2 1 (by decide)
        have h24 : w21 (L 9) = some (.inl (ca 6, 96, .inr (.inr (.inr (.inr P.nL))))) := hM.1.2 9 (by decide)
        refine hv_call (hv_runV (As := [.ref a, .int (nI i), .ref rr]) (rest := []) (c_Gr_putAgainL C N hi (hg9 _ _ h0) h23 h24) (hv_cw C hZ kc_Gr_putAgain kn_Gr ⟨rfl, rfl, Nat.le_of_ble_eq_true rfl, Nat.le_of_ble_eq_true rfl⟩) hv_blind (hv_pre hZ hS hP) hx hml hb hown (hts _ k_GK_269) (hts _ ki_Gr_putAgain) (hts _ ksel_Gr_Gr_putAgain) hy_Gr_putAgain (hts _ kc_Gr_putAgain) (va_recv hK (hv_one hP h23) (ci := 1) (q0 := 0) rfl rfl) rfl hl.1 rfl (lv_room (Nat.le_of_ble_eq_true rfl)) d_GK_putProperty_55 ⟨Nat.le_of_ble_eq_true rfl, Nat.le_of_ble_eq_true rfl⟩) hZ hS (fun v9 w25 H locs q26 hP hS => ?_) (fun x9 w25 H locs q26 hP hS => q26.elim)
        obtain ⟨hv9, qn, hqn, hqc, hqt, hqo9⟩ := q26
        subst hv9
        have hk9 : g_keep (cM L) w21 w25 := g_keep.putNew (k := 9) (by decide) hqn hqo9
        have hm9 := hM.fresh hqn
        have hM : cK ca L w0 ((σ.sSc (σ.sc + 1)).sNow (va_up σ.now (64 + i) (some (t.sPs (g_put t.ps pp))))) (P.sNL (va_up P.nL i (some qn))) w25 := hM.putNew 9 (by decide) hqn hqt hqo9 rfl
        have hR9 := hR.k hk9
        have hR : cR ca L ((σ.sSc (σ.sc + 1)).sNow (va_up σ.now (64 + i) (some (t.sPs (g_put t.ps pp))))) (P.sNL (va_up P.nL i (some qn))) w25 := ⟨cG_putL hR9.1 hi ⟨hm9, rr, hqc, hrp.k hk9⟩, hR9.2⟩
        show W _ _ _ _ _ _ _ _ _ _ _ _ _ _ _ (F0 m 58 ls [])
        refine lv_iconst (v := 1) hx hb d_GK_putProperty_58 (by decide) ?_
        refine W.widen (k := 4) (n := 23) (by omega) (by omega) ?_
        exact hv_zret (v := 1) hQ hx hb hr (by decide) hZ hS hP hlocks d_GK_putProperty_59 (Or.inr ⟨hx2, hno9, rfl, _, hM, hR⟩)
      · refine hv_Tw (k := 4) (n := 23) (by omega) (by omega) ?_
        exact hv_tleave hQ hZ hS hP hlocks (hout _) (Or.inr ⟨hx2, ⟨q19.1, cThr.tr hM q19.2⟩⟩)
    · have hx0 : x_pk t.ps pp = 0 := by rw [x_pk_s hlo, if_pos (Classical.byContradiction fun z => c35 (if_neg z))]
      refine lv_iconst (v := 0) hx hb d_GK_putProperty_38 (by decide) ?_
      refine W.widen (k := 4) (n := 23) (by omega) (by omega) ?_
      exact hv_zret (v := 0) hQ hx hb hr (by decide) hZ hS hP hlocks d_GK_putProperty_39 (Or.inl ⟨hx0, rfl, rfl⟩)

abbrev rm_GK_nodeFact : Room := { frames := 3, cells := 0, slots := 0, locals := 69 }
set_option maxHeartbeats 4000000 in
set_option maxRecDepth 100000 in
theorem c_GK_nodeFact {l : Launch} {s0 : State} {D : va_G} {ca : Nat → ClassId} (C : hv_C l s0 D (hv_tys ca)) {w : hv_W} (N : hv_N s0) {L : Nat → Nat} {w0 : hv_W} {σ : gS} {P : cT} (hM : cK ca L w0 σ P w) (hR : cR ca L σ P w) {i a : Nat} {t : gT} (hi : i < 64) (ha : P.nN i = some a) (ht : σ.now i = some t) (hpl : t.ps.length ≤ 6) (hla : t.lab.length ≤ 4) (wh : Int32)  :
    hv_Met l y_GK_nodeFact [.code y_GK_nodeFact b_GK_nodeFact 4 (some .int)] rm_GK_nodeFact (hv_Pc s0 D w [.ref (L 0), .ref a, .int (nI i), .int wh]) (hv_Q s0 D (fun v w' => v = some (.int (x_nf σ.now t (nI i) wh)) ∧ w' = w) (fun _ _ => False)) 0 0 (hv_A s0.heap.size) := by
  refine hv_enter C _ (by decide) (Nat.le_of_ble_eq_true rfl) ?_
  intro p e s m below meth c ls Q hQ hx hb hr hml hown hts hK hZ hlocks hname hout htr hP hl
  have hown : s.vm.findClass R_GK = some m.cls := hown
  have hS : va_S (hv_A s0.heap.size) s.heap s.heap [] := va_S.rf
  have hl : lv_has ls 4 [(0, .ref (L 0)), (1, .ref a), (2, .int (nI i)), (3, .int wh)] := hl
  obtain ⟨hma, pa, lb, h0, hls, hps⟩ := cG_nodeAt hR.1 hi ha ht
  obtain ⟨hlm, lf, hl0, hle⟩ := id hls
  refine lv_iload_n hx hb d_GK_nodeFact_0 rfl (lv_at hl 3 rfl) ?_
  by_cases s1_1 : wh = 1
  · refine lv_tableIn (tgt := 28) hx hb d_GK_nodeFact_1 (by rw [s1_1]; decide) (by rw [s1_1]; decide) (by rw [s1_1]; rfl) (by decide) ?_
    refine lv_aload_n hx hb d_GK_nodeFact_28 rfl (lv_at hl 1 rfl) ?_
    refine va_get (D := D) (ci := 5) (v := .ref lb) (C := R_Nd) (T := F_Nd) (N := 2) hx hb hts i_Nd hown hK (hv_one hP h0) 0 rfl rfl 1 (by decide) (hts _ k_GK_76) (fun _ h9 => h9) rfl d_GK_nodeFact_29 ?_
    refine va_alen (v := nI t.lab.length) hx hb hK (hv_one hP hl0) 0 0 rfl rfl rfl d_GK_nodeFact_32 ?_
    exact hv_iret (v := nI t.lab.length) hQ hx hb hr hZ hS hP hlocks d_GK_nodeFact_33 (⟨by rw [x_nf, if_pos s1_1], rfl⟩)
  by_cases s1_2 : wh = 2
  · refine lv_tableIn (tgt := 34) hx hb d_GK_nodeFact_1 (by rw [s1_2]; decide) (by rw [s1_2]; decide) (by rw [s1_2]; rfl) (by decide) ?_
    refine lv_aload_n hx hb d_GK_nodeFact_34 rfl (lv_at hl 0 rfl) ?_
    have h1 : w (L 0) = some (.inr (0, [.ref (L 1), .ref (L 2), .ref (L 3), .ref (L 4), .ref (L 5), .ref (L 6), .ref (L 7), .int (σ.err), .int (nI (σ.sc)), .int (nI (σ.ec)), .int (σ.ins), .int (σ.off)])) := hM.1.2 0 (by decide)
    refine va_get (D := D) (ci := 0) (v := .ref (L 1)) (C := R_GK) (T := F_GK) (N := 12) hx hb hts i_GK hown hK (hv_one hP h1) 0 rfl rfl 0 (by decide) (hts _ k_GK_10) (fun _ h9 => h9) rfl d_GK_nodeFact_35 ?_
    refine lv_iload_n hx hb d_GK_nodeFact_38 rfl (lv_at hl 2 rfl) ?_
    refine lv_iconst (v := 1) hx hb d_GK_nodeFact_39 (by decide) ?_
    have h2 : w (L 1) = some (.inr (1, [.ref (L 8), .ref (L 9)])) := hM.1.2 1 (by decide)
    have h3 : w (L 9) = some (.inl (ca 6, 96, .inr (.inr (.inr (.inr P.nL))))) := hM.1.2 9 (by decide)
    refine hv_call (hv_runV (As := [.int (nI i), .int 1]) (rest := []) (c_Gr_countChain C (nI i) 1 h2 h3 (g_lkf_ok hR.1)) (hv_cw C hZ kc_Gr_countChain kn_Gr ⟨rfl, rfl, Nat.le_of_ble_eq_true rfl, Nat.le_of_ble_eq_true rfl⟩) hv_blind (hv_pre hZ hS hP) hx hml hb hown (hts _ k_GK_284) (hts _ ki_Gr_countChain) (hts _ ksel_Gr_Gr_countChain) hy_Gr_countChain (hts _ kc_Gr_countChain) (va_recv hK (hv_one hP h2) (ci := 1) (q0 := 0) rfl rfl) rfl hl.1 rfl (lv_room (Nat.le_of_ble_eq_true rfl)) d_GK_nodeFact_40 ⟨Nat.le_of_ble_eq_true rfl, Nat.le_of_ble_eq_true rfl⟩) hZ hS (fun v9 w4 H locs q5 hP hS => ?_) (fun x9 w4 H locs q5 hP hS => q5.elim)
    rw [g_cch hR.1 (nI i) 1 96 (Nat.le_refl _)] at q5
    obtain ⟨hv9, hw9⟩ := q5
    subst hv9
    rw [hw9] at hP
    show W _ _ _ _ _ _ _ _ _ _ _ _ _ _ _ (F0 m 43 ls [.int (nI (x_cch σ.now (nI i) 1 96))])
    exact hv_iret (v := nI (x_cch σ.now (nI i) 1 96)) hQ hx hb hr hZ hS hP hlocks d_GK_nodeFact_43 (⟨by rw [x_nf, if_neg s1_1, if_pos s1_2], rfl⟩)
  by_cases s1_3 : wh = 3
  · refine lv_tableIn (tgt := 44) hx hb d_GK_nodeFact_1 (by rw [s1_3]; decide) (by rw [s1_3]; decide) (by rw [s1_3]; rfl) (by decide) ?_
    refine lv_aload_n hx hb d_GK_nodeFact_44 rfl (lv_at hl 0 rfl) ?_
    have h6 : w (L 0) = some (.inr (0, [.ref (L 1), .ref (L 2), .ref (L 3), .ref (L 4), .ref (L 5), .ref (L 6), .ref (L 7), .int (σ.err), .int (nI (σ.sc)), .int (nI (σ.ec)), .int (σ.ins), .int (σ.off)])) := hM.1.2 0 (by decide)
    refine va_get (D := D) (ci := 0) (v := .ref (L 1)) (C := R_GK) (T := F_GK) (N := 12) hx hb hts i_GK hown hK (hv_one hP h6) 0 rfl rfl 0 (by decide) (hts _ k_GK_10) (fun _ h9 => h9) rfl d_GK_nodeFact_45 ?_
    refine lv_iload_n hx hb d_GK_nodeFact_48 rfl (lv_at hl 2 rfl) ?_
    refine lv_iconst (v := 0) hx hb d_GK_nodeFact_49 (by decide) ?_
    have h7 : w (L 1) = some (.inr (1, [.ref (L 8), .ref (L 9)])) := hM.1.2 1 (by decide)
    have h8 : w (L 9) = some (.inl (ca 6, 96, .inr (.inr (.inr (.inr P.nL))))) := hM.1.2 9 (by decide)
    refine hv_call (hv_runV (As := [.int (nI i), .int 0]) (rest := []) (c_Gr_countChain C (nI i) 0 h7 h8 (g_lkf_ok hR.1)) (hv_cw C hZ kc_Gr_countChain kn_Gr ⟨rfl, rfl, Nat.le_of_ble_eq_true rfl, Nat.le_of_ble_eq_true rfl⟩) hv_blind (hv_pre hZ hS hP) hx hml hb hown (hts _ k_GK_284) (hts _ ki_Gr_countChain) (hts _ ksel_Gr_Gr_countChain) hy_Gr_countChain (hts _ kc_Gr_countChain) (va_recv hK (hv_one hP h7) (ci := 1) (q0 := 0) rfl rfl) rfl hl.1 rfl (lv_room (Nat.le_of_ble_eq_true rfl)) d_GK_nodeFact_50 ⟨Nat.le_of_ble_eq_true rfl, Nat.le_of_ble_eq_true rfl⟩) hZ hS (fun v9 w9 H locs q10 hP hS => ?_) (fun x9 w9 H locs q10 hP hS => q10.elim)
    rw [g_cch hR.1 (nI i) 0 96 (Nat.le_refl _)] at q10
    obtain ⟨hv9, hw9⟩ := q10
    subst hv9
    rw [hw9] at hP
    show W _ _ _ _ _ _ _ _ _ _ _ _ _ _ _ (F0 m 53 ls [.int (nI (x_cch σ.now (nI i) 0 96))])
    exact hv_iret (v := nI (x_cch σ.now (nI i) 0 96)) hQ hx hb hr hZ hS hP hlocks d_GK_nodeFact_53 (⟨by rw [x_nf, if_neg s1_1, if_neg s1_2, if_pos s1_3], rfl⟩)
  have t1_1 : (wh).toInt ≠ 1 := fun q => s1_1 (Int32.toInt_inj.mp (q.trans (by decide)))
  have t1_2 : (wh).toInt ≠ 2 := fun q => s1_2 (Int32.toInt_inj.mp (q.trans (by decide)))
  have t1_3 : (wh).toInt ≠ 3 := fun q => s1_3 (Int32.toInt_inj.mp (q.trans (by decide)))
  refine lv_tableOut (tgt := 54) hx hb d_GK_nodeFact_1 (by omega) (by decide) ?_
  refine lv_iconst (v := (-1)) hx hb d_GK_nodeFact_54 (by decide) ?_
  exact hv_iret (v := (-1)) hQ hx hb hr hZ hS hP hlocks d_GK_nodeFact_55 (⟨by rw [x_nf, if_neg s1_1, if_neg s1_2, if_neg s1_3], rfl⟩)

abbrev rm_GK_linkFact : Room := { frames := 0, cells := 0, slots := 0, locals := 0 }
set_option maxHeartbeats 4000000 in
set_option maxRecDepth 100000 in
theorem c_GK_linkFact {l : Launch} {s0 : State} {D : va_G} {ca : Nat → ClassId} (C : hv_C l s0 D (hv_tys ca)) {w : hv_W} {a pa : Nat} (t : gT) (wh : Int32) (h0 : w a = some (.inr (6, [.ref pa, .int t.st, .int t.en, .int t.ty])))  :
    hv_Met l y_GK_linkFact [.code y_GK_linkFact b_GK_linkFact 2 (some .int)] rm_GK_linkFact (hv_Pc s0 D w [.ref a, .int wh]) (hv_Q s0 D (fun v w' => v = some (.int (x_lf t wh)) ∧ w' = w) (fun _ _ => False)) 0 0 (hv_A s0.heap.size) := by
  refine hv_enter C _ (by decide) (Nat.le_of_ble_eq_true rfl) ?_
  intro p e s m below meth c ls Q hQ hx hb hr hml hown hts hK hZ hlocks hname hout htr hP hl
  have hown : s.vm.findClass R_GK = some m.cls := hown
  have hS : va_S (hv_A s0.heap.size) s.heap s.heap [] := va_S.rf
  have hl : lv_has ls 2 [(0, .ref a), (1, .int wh)] := hl
  refine lv_iload_n hx hb d_GK_linkFact_0 rfl (lv_at hl 1 rfl) ?_
  by_cases s1_1 : wh = 1
  · refine lv_tableIn (tgt := 28) hx hb d_GK_linkFact_1 (by rw [s1_1]; decide) (by rw [s1_1]; decide) (by rw [s1_1]; rfl) (by decide) ?_
    refine lv_aload_n hx hb d_GK_linkFact_28 rfl (lv_at hl 0 rfl) ?_
    refine va_get (D := D) (ci := 6) (v := .int t.st) (C := R_Lk) (T := F_Lk) (N := 4) hx hb hts i_Lk hown hK (hv_one hP h0) 0 rfl rfl 1 (by decide) (hts _ k_GK_307) (fun _ h9 => h9) rfl d_GK_linkFact_29 ?_
    exact hv_iret (v := t.st) hQ hx hb hr hZ hS hP hlocks d_GK_linkFact_32 (⟨by rw [x_lf, if_pos s1_1], rfl⟩)
  by_cases s1_2 : wh = 2
  · refine lv_tableIn (tgt := 33) hx hb d_GK_linkFact_1 (by rw [s1_2]; decide) (by rw [s1_2]; decide) (by rw [s1_2]; rfl) (by decide) ?_
    refine lv_aload_n hx hb d_GK_linkFact_33 rfl (lv_at hl 0 rfl) ?_
    refine va_get (D := D) (ci := 6) (v := .int t.en) (C := R_Lk) (T := F_Lk) (N := 4) hx hb hts i_Lk hown hK (hv_one hP h0) 0 rfl rfl 2 (by decide) (hts _ k_GK_310) (fun _ h9 => h9) rfl d_GK_linkFact_34 ?_
    exact hv_iret (v := t.en) hQ hx hb hr hZ hS hP hlocks d_GK_linkFact_37 (⟨by rw [x_lf, if_neg s1_1, if_pos s1_2], rfl⟩)
  by_cases s1_3 : wh = 3
  · refine lv_tableIn (tgt := 38) hx hb d_GK_linkFact_1 (by rw [s1_3]; decide) (by rw [s1_3]; decide) (by rw [s1_3]; rfl) (by decide) ?_
    refine lv_aload_n hx hb d_GK_linkFact_38 rfl (lv_at hl 0 rfl) ?_
    refine va_get (D := D) (ci := 6) (v := .int t.ty) (C := R_Lk) (T := F_Lk) (N := 4) hx hb hts i_Lk hown hK (hv_one hP h0) 0 rfl rfl 3 (by decide) (hts _ k_GK_313) (fun _ h9 => h9) rfl d_GK_linkFact_39 ?_
    exact hv_iret (v := t.ty) hQ hx hb hr hZ hS hP hlocks d_GK_linkFact_42 (⟨by rw [x_lf, if_neg s1_1, if_neg s1_2, if_pos s1_3], rfl⟩)
  have t1_1 : (wh).toInt ≠ 1 := fun q => s1_1 (Int32.toInt_inj.mp (q.trans (by decide)))
  have t1_2 : (wh).toInt ≠ 2 := fun q => s1_2 (Int32.toInt_inj.mp (q.trans (by decide)))
  have t1_3 : (wh).toInt ≠ 3 := fun q => s1_3 (Int32.toInt_inj.mp (q.trans (by decide)))
  refine lv_tableOut (tgt := 43) hx hb d_GK_linkFact_1 (by omega) (by decide) ?_
  refine lv_iconst (v := (-1)) hx hb d_GK_linkFact_43 (by decide) ?_
  exact hv_iret (v := (-1)) hQ hx hb hr hZ hS hP hlocks d_GK_linkFact_44 (⟨by rw [x_lf, if_neg s1_1, if_neg s1_2, if_neg s1_3], rfl⟩)

