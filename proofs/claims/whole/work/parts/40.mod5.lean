abbrev rm_Model_thrown : Room := { frames := 0, cells := 0, slots := 0, locals := 0 }
set_option maxHeartbeats 4000000 in
set_option maxRecDepth 100000 in
theorem c_Model_thrown {l : Launch} {s0 : State} {D : va_G} {ca : Nat → ClassId} (C : hv_C l s0 D (hv_tys ca)) {w : hv_W} {K : Nat → Nat} {w0 : hv_W} {A : mA} {B : mB} (hM : mK ca K w0 A B w)  :
    hv_Met l y_Model_thrown [.code y_Model_thrown b_Model_thrown 1 (some .int)] rm_Model_thrown (hv_Pc s0 D w [.ref (K 0)]) (hv_Q s0 D (fun v w' => v = some (.int A.thrown) ∧ w' = w) (fun _ _ => False)) 0 0 (hv_A s0.heap.size) := by
  refine hv_enter C _ (by decide) (Nat.le_of_ble_eq_true rfl) ?_
  intro p e s m below meth c ls Q hQ hx hb hr hml hown hts hK hZ hlocks hname hout htr hP hl
  have hown : s.vm.findClass R_Model = some m.cls := hown
  have hS : va_S (hv_A s0.heap.size) s.heap s.heap [] := va_S.rf
  have hl : lv_has ls 1 [(0, .ref (K 0))] := hl
  refine lv_aload_n hx hb d_Model_thrown_0 rfl (lv_at hl 0 rfl) ?_
  have h1 : w (K 0) = some (.inr (7, [.int A.thrown, .ref (K 1), .ref (K 2), .ref (K 3), .ref (K 4), .ref (K 5), .ref (K 6), .ref (K 7), .ref (K 8), .ref (K 9), .ref (K 10), .ref (K 11), .ref (K 12), .int (nI A.tapeSize), .ref (K 13), .int A.error, .int A.off, .int A.inside, .int (nI A.changes), .int (nI A.earlier), .int (nI A.logged), .int A.over, .int (nI A.loose), .int A.written, .int (nI A.due)])) := hM.1.2 0 (by decide)
  refine va_get (D := D) (ci := 7) (v := .int A.thrown) (C := R_Model) (T := F_Model) (N := 25) hx hb hts i_Model hown hK (hv_one hP h1) 0 rfl rfl 0 (by decide) (hts _ k_Model_51) (fun _ h9 => h9) rfl d_Model_thrown_1 ?_
  exact hv_iret (v := A.thrown) hQ hx hb hr hZ hS hP hlocks d_Model_thrown_4 (⟨rfl, rfl⟩)

abbrev rm_Model_error : Room := { frames := 0, cells := 0, slots := 0, locals := 0 }
set_option maxHeartbeats 4000000 in
set_option maxRecDepth 100000 in
theorem c_Model_error {l : Launch} {s0 : State} {D : va_G} {ca : Nat → ClassId} (C : hv_C l s0 D (hv_tys ca)) {w : hv_W} {K : Nat → Nat} {w0 : hv_W} {A : mA} {B : mB} {σ : gS} (hM : mK ca K w0 A B w) (hRel : mRel A B σ) (hW : gW σ)  :
    hv_Met l y_Model_error [.code y_Model_error b_Model_error 1 (some .int)] rm_Model_error (hv_Pc s0 D w [.ref (K 0)]) (hv_Q s0 D (fun v w' => v = some (.int σ.err) ∧ mS ca K w0 0 σ w') (fun _ _ => False)) 0 0 (hv_A s0.heap.size) := by
  refine hv_enter C _ (by decide) (Nat.le_of_ble_eq_true rfl) ?_
  intro p e s m below meth c ls Q hQ hx hb hr hml hown hts hK hZ hlocks hname hout htr hP hl
  have hown : s.vm.findClass R_Model = some m.cls := hown
  have hS : va_S (hv_A s0.heap.size) s.heap s.heap [] := va_S.rf
  have hl : lv_has ls 1 [(0, .ref (K 0))] := hl
  obtain ⟨t9, k9, p9, hA9⟩ := mAo_of hRel
  subst hA9
  have hb9 := hW.hb
  have htp9 := hW.tape
  have hdu9 : σ.due ≤ 2000 := hW.2.2.1.2.2.2
  have hen9 : σ.en ≤ 250 := hW.2.2.1.2.1
  have hlo9 : σ.lo ≤ 250 := hW.2.2.1.2.2.1
  refine lv_aload_n hx hb d_Model_error_0 rfl (lv_at hl 0 rfl) ?_
  refine lv_iconst (v := 0) hx hb d_Model_error_1 (by decide) ?_
  have h1 : w (K 0) = some (.inr (7, [.int t9, .ref (K 1), .ref (K 2), .ref (K 3), .ref (K 4), .ref (K 5), .ref (K 6), .ref (K 7), .ref (K 8), .ref (K 9), .ref (K 10), .ref (K 11), .ref (K 12), .int (nI (σ.tape.length)), .ref (K 13), .int (σ.err), .int (σ.off), .int (σ.ins), .int (nI (σ.sc)), .int (nI (σ.ec)), .int (nI (σ.en)), .int (σ.tr), .int (nI (σ.lo)), .int (σ.wr), .int (nI (σ.due))])) := hM.1.2 0 (by decide)
  refine hv_put (D := D) (ci := 7) (v := .int 0) (ty := .int) (C := R_Model) (T := F_Model) (N := 25) hx hb hts i_Model t_Model t_Model_ok n_Model hown hK hP hS h1 rfl 0 (by decide) (hts _ k_Model_51) (fun _ h9 => h9) rfl (by decide +kernel) rfl rfl (Nat.le_of_ble_eq_true rfl) d_Model_error_2 (fun H locs hP hS => ?_)
  obtain ⟨w2, ew2⟩ : ∃ z9 : hv_W, z9 = va_up w (K 0) (some (.inr (7, [.int 0, .ref (K 1), .ref (K 2), .ref (K 3), .ref (K 4), .ref (K 5), .ref (K 6), .ref (K 7), .ref (K 8), .ref (K 9), .ref (K 10), .ref (K 11), .ref (K 12), .int (nI (σ.tape.length)), .ref (K 13), .int (σ.err), .int (σ.off), .int (σ.ins), .int (nI (σ.sc)), .int (nI (σ.ec)), .int (nI (σ.en)), .int (σ.tr), .int (nI (σ.lo)), .int (σ.wr), .int (nI (σ.due))]))) := ⟨_, rfl⟩
  have hP : hv_P D classes s0.heap.size w2 H := by rw [ew2]; exact hP
  have hM : mK ca K w0 ((mAo t9 k9 p9 σ).sThrown 0) B w2 := by rw [ew2]; exact hM.put 0 (by decide) rfl
  have h3 : w2 (K 0) = some (.inr (7, [.int 0, .ref (K 1), .ref (K 2), .ref (K 3), .ref (K 4), .ref (K 5), .ref (K 6), .ref (K 7), .ref (K 8), .ref (K 9), .ref (K 10), .ref (K 11), .ref (K 12), .int (nI (σ.tape.length)), .ref (K 13), .int (σ.err), .int (σ.off), .int (σ.ins), .int (nI (σ.sc)), .int (nI (σ.ec)), .int (nI (σ.en)), .int (σ.tr), .int (nI (σ.lo)), .int (σ.wr), .int (nI (σ.due))])) := by rw [ew2]; exact hv_up_s
  refine lv_aload_n hx hb d_Model_error_5 rfl (lv_at hl 0 rfl) ?_
  refine va_get (D := D) (ci := 7) (v := .int (σ.err)) (C := R_Model) (T := F_Model) (N := 25) hx hb hts i_Model hown hK (hv_one hP h3) 0 rfl rfl 15 (by decide) (hts _ k_Model_69) (fun _ h9 => h9) rfl d_Model_error_6 ?_
  exact hv_iret (v := σ.err) hQ hx hb hr hZ hS hP hlocks d_Model_error_9 (⟨rfl, _, _, hM, hRel.thr 0, rfl⟩)

abbrev rm_Model_node : Room := { frames := 3, cells := 0, slots := 0, locals := 66 }
set_option maxHeartbeats 4000000 in
set_option maxRecDepth 100000 in
theorem c_Model_node {l : Launch} {s0 : State} {D : va_G} {ca : Nat → ClassId} (C : hv_C l s0 D (hv_tys ca)) {w : hv_W} {K : Nat → Nat} {w0 : hv_W} {A : mA} {B : mB} {σ : gS} (hM : mK ca K w0 A B w) (hRel : mRel A B σ) (hW : gW σ)  :
    hv_Met l y_Model_node [.code y_Model_node b_Model_node 2 (some .int)] rm_Model_node (hv_Pc s0 D w [.ref (K 0)]) (hv_Q s0 D (fun v w' => mRet ca K w0 (x_node σ) v w') (fun _ _ => False)) 0 0 (hv_A s0.heap.size) := by
  refine hv_enter C _ (by decide) (Nat.le_of_ble_eq_true rfl) ?_
  intro p e s m below meth c ls Q hQ hx hb hr hml hown hts hK hZ hlocks hname hout htr hP hl
  have hown : s.vm.findClass R_Model = some m.cls := hown
  have hS : va_S (hv_A s0.heap.size) s.heap s.heap [] := va_S.rf
  have hl : lv_has ls 2 [(0, .ref (K 0))] := hl
  obtain ⟨t9, k9, p9, hA9⟩ := mAo_of hRel
  subst hA9
  have hb9 := hW.hb
  have htp9 := hW.tape
  have hdu9 : σ.due ≤ 2000 := hW.2.2.1.2.2.2
  have hen9 : σ.en ≤ 250 := hW.2.2.1.2.1
  have hlo9 : σ.lo ≤ 250 := hW.2.2.1.2.2.1
  rcases Classical.em (σ.off = 0) with hoff | hoff
  · refine lv_aload_n hx hb d_Model_node_0 rfl (lv_at hl 0 rfl) ?_
    refine lv_iconst (v := 0) hx hb d_Model_node_1 (by decide) ?_
    refine lv_bipush (v := 64) hx hb d_Model_node_2 (by decide) ?_
    have h1 : w (K 0) = some (.inr (7, [.int t9, .ref (K 1), .ref (K 2), .ref (K 3), .ref (K 4), .ref (K 5), .ref (K 6), .ref (K 7), .ref (K 8), .ref (K 9), .ref (K 10), .ref (K 11), .ref (K 12), .int (nI (σ.tape.length)), .ref (K 13), .int (σ.err), .int (σ.off), .int (σ.ins), .int (nI (σ.sc)), .int (nI (σ.ec)), .int (nI (σ.en)), .int (σ.tr), .int (nI (σ.lo)), .int (σ.wr), .int (nI (σ.due))])) := hM.1.2 0 (by decide)
    refine hv_call (hv_runV (As := [.int 0, .int 64]) (rest := []) (c_Model_free C (lo := 0) (n := 64) hM (by decide) hRel.1.1 hRel.2.2.2.1) (hv_cw C hZ kc_Model_free kn_Model ⟨rfl, rfl, Nat.le_of_ble_eq_true rfl, Nat.le_of_ble_eq_true rfl⟩) hv_blind (hv_pre hZ hS hP) hx hml hb hown (hts _ k_Model_112) (hts _ ki_Model_free) (hts _ ksel_Model_Model_free) hy_Model_free (hts _ kc_Model_free) (va_recv hK (hv_one hP h1) (ci := 7) (q0 := 0) rfl rfl) rfl hl.1 rfl (lv_room (Nat.le_of_ble_eq_true rfl)) d_Model_node_4 ⟨Nat.le_of_ble_eq_true rfl, Nat.le_of_ble_eq_true rfl⟩) hZ hS (fun v9 w2 H locs q3 hP hS => ?_) (fun x9 w2 H locs q3 hP hS => q3.elim)
    obtain ⟨hv9, hw9⟩ := q3
    subst hv9
    rw [hw9] at hP
    show W _ _ _ _ _ _ _ _ _ _ _ _ _ _ _ (F0 m 7 ls [.int (m_fr σ.now σ.gone 0 64)])
    cases hfr : x_free σ.now σ.gone 0 64 with
    | none =>
      rw [m_fr_n hfr]
      show W _ _ _ _ _ _ _ _ _ _ _ _ _ _ _ (F0 m 7 ls [.int ((-1))])
      refine lv_istore_n (lv' := [(1, .int ((-1))), (0, .ref (K 0))]) hx hb d_Model_node_7 rfl hl (by decide) rfl (fun ls hl => ?_)
      refine lv_aload_n hx hb d_Model_node_8 rfl (lv_at hl 1 rfl) ?_
      refine lv_iconst (v := 0) hx hb d_Model_node_9 (by decide) ?_
      refine lv_iconst (v := 0) hx hb d_Model_node_10 (by decide) ?_
      refine lv_iconst (v := 0) hx hb d_Model_node_11 (by decide) ?_
      refine lv_iload_n hx hb d_Model_node_12 rfl (lv_at hl 0 rfl) ?_
      refine lv_if_ge (tgt := 20) hx hb d_Model_node_13 (by decide) (fun c13 => ?_) (fun c13 => ?_)
      · exact absurd c13 (by decide)
      · refine lv_iconst (v := 1) hx hb d_Model_node_16 (by decide) ?_
        refine lv_goto (tgt := 21) hx hb d_Model_node_17 (by decide) ?_
        refine lv_iconst (v := 1) hx hb d_Model_node_21 (by decide) ?_
        refine hv_call (hv_runV (As := [.int 0, .int 0, .int 0, .int 1, .int 1]) (rest := []) (c_Model_fails C 0 0 0 1 1 hM (by show σ.ec + σ.sc ≤ 249; omega)) (hv_cw C hZ kc_Model_fails kn_Model ⟨rfl, rfl, Nat.le_of_ble_eq_true rfl, Nat.le_of_ble_eq_true rfl⟩) hv_blind (hv_pre hZ hS hP) hx hml hb hown (hts _ k_Model_116) (hts _ ki_Model_fails) (hts _ ksel_Model_Model_fails) hy_Model_fails (hts _ kc_Model_fails) (va_recv hK (hv_one hP h1) (ci := 7) (q0 := 0) rfl rfl) rfl hl.1 rfl (lv_room (Nat.le_of_ble_eq_true rfl)) d_Model_node_22 ⟨Nat.le_of_ble_eq_true rfl, Nat.le_of_ble_eq_true rfl⟩) hZ hS (fun v9 w4 H locs q5 hP hS => ?_) (fun x9 w4 H locs q5 hP hS => q5.elim)
        rcases q5 with ⟨ho9, hv9, hM⟩ | ⟨ho9, he9, hv9, hM⟩ | ⟨ho9, he9, hv9, hM⟩
        · exact absurd hoff ho9
        · exact absurd ((show m_fe (mAo t9 k9 p9 σ).earlier (mAo t9 k9 p9 σ).changes 0 0 0 1 1 = 6 by rw [m_fe, if_neg (by decide), if_neg (by decide), if_neg (by decide), if_pos (by decide)]).symm.trans he9) (by decide)
        · rw [show m_fe (mAo t9 k9 p9 σ).earlier (mAo t9 k9 p9 σ).changes 0 0 0 1 1 = 6 by rw [m_fe, if_neg (by decide), if_neg (by decide), if_neg (by decide), if_pos (by decide)]] at hM
          subst hv9
          show W _ _ _ _ _ _ _ _ _ _ _ _ _ _ _ (F0 m 25 ls [.int 1])
          refine lv_if_eq (tgt := 30) hx hb d_Model_node_25 (by decide) (fun c25 => ?_) (fun c25 => ?_)
          · exact absurd c25 (by decide)
          · refine lv_iconst (v := 0) hx hb d_Model_node_28 (by decide) ?_
            exact hv_iret (v := 0) hQ hx hb hr hZ hS hP hlocks d_Model_node_29 (mRet.of (r' := ((σ.sErr 6), 1, 0)) (by rw [x_node, cif_pos hoff, hfr]) (fun z9 => absurd z9 (show ¬ (1 : Nat) = 0 by decide)) hM ((hRel.err 6).thr 1) rfl)
    | some i =>
      rw [show m_fr σ.now σ.gone 0 64 = nI i by rw [m_fr_s hfr, Nat.zero_add]]
      have hi : i < 64 := x_free_lt hfr
      show W _ _ _ _ _ _ _ _ _ _ _ _ _ _ _ (F0 m 7 ls [.int (nI i)])
      refine lv_istore_n (lv' := [(1, .int (nI i)), (0, .ref (K 0))]) hx hb d_Model_node_7 rfl hl (by decide) rfl (fun ls hl => ?_)
      refine lv_aload_n hx hb d_Model_node_8 rfl (lv_at hl 1 rfl) ?_
      refine lv_iconst (v := 0) hx hb d_Model_node_9 (by decide) ?_
      refine lv_iconst (v := 0) hx hb d_Model_node_10 (by decide) ?_
      refine lv_iconst (v := 0) hx hb d_Model_node_11 (by decide) ?_
      refine lv_iload_n hx hb d_Model_node_12 rfl (lv_at hl 0 rfl) ?_
      refine gk_if_ge (x := i) (tgt := 20) hx hb d_Model_node_13 (by decide) (by omega) ?_
      refine lv_iconst (v := 0) hx hb d_Model_node_20 (by decide) ?_
      refine lv_iconst (v := 1) hx hb d_Model_node_21 (by decide) ?_
      refine hv_call (hv_runV (As := [.int 0, .int 0, .int 0, .int 0, .int 1]) (rest := []) (c_Model_fails C 0 0 0 0 1 hM (by show σ.ec + σ.sc ≤ 249; omega)) (hv_cw C hZ kc_Model_fails kn_Model ⟨rfl, rfl, Nat.le_of_ble_eq_true rfl, Nat.le_of_ble_eq_true rfl⟩) hv_blind (hv_pre hZ hS hP) hx hml hb hown (hts _ k_Model_116) (hts _ ki_Model_fails) (hts _ ksel_Model_Model_fails) hy_Model_fails (hts _ kc_Model_fails) (va_recv hK (hv_one hP h1) (ci := 7) (q0 := 0) rfl rfl) rfl hl.1 rfl (lv_room (Nat.le_of_ble_eq_true rfl)) d_Model_node_22 ⟨Nat.le_of_ble_eq_true rfl, Nat.le_of_ble_eq_true rfl⟩) hZ hS (fun v9 w6 H locs q7 hP hS => ?_) (fun x9 w6 H locs q7 hP hS => q7.elim)
      rcases q7 with ⟨ho9, hv9, hM⟩ | ⟨ho9, he9, hv9, hM⟩ | ⟨ho9, he9, hv9, hM⟩
      · exact absurd hoff ho9
      · have h249 : ¬ 249 ≤ σ.ec + σ.sc := fun z9 => by rw [m_fe, if_neg (by decide), if_neg (by decide), if_neg (by decide), if_neg (by decide), if_pos ⟨by decide, show σ.ec + σ.sc = 249 by omega⟩] at he9; exact absurd he9 (by decide)
        subst hv9
        show W _ _ _ _ _ _ _ _ _ _ _ _ _ _ _ (F0 m 25 ls [.int 0])
        refine lv_if_eq (tgt := 30) hx hb d_Model_node_25 (by decide) (fun c25 => ?_) (fun c25 => ?_)
        · refine lv_aload_n hx hb d_Model_node_30 rfl (lv_at hl 1 rfl) ?_
          have h8 : w6 (K 0) = some (.inr (7, [.int 0, .ref (K 1), .ref (K 2), .ref (K 3), .ref (K 4), .ref (K 5), .ref (K 6), .ref (K 7), .ref (K 8), .ref (K 9), .ref (K 10), .ref (K 11), .ref (K 12), .int (nI (σ.tape.length)), .ref (K 13), .int (σ.err), .int (σ.off), .int (σ.ins), .int (nI (σ.sc)), .int (nI (σ.ec)), .int (nI (σ.en)), .int (σ.tr), .int (nI (σ.lo)), .int (σ.wr), .int (nI (σ.due))])) := hM.1.2 0 (by decide)
          refine hv_call (hv_runV (As := []) (rest := []) (c_Model_begins C hM (hRel.thr 0) hW hoff) (hv_cw C hZ kc_Model_begins kn_Model ⟨rfl, rfl, Nat.le_of_ble_eq_true rfl, Nat.le_of_ble_eq_true rfl⟩) hv_blind (hv_pre hZ hS hP) hx hml hb hown (hts _ k_Model_120) (hts _ ki_Model_begins) (hts _ ksel_Model_Model_begins) hy_Model_begins (hts _ kc_Model_begins) (va_recv hK (hv_one hP h8) (ci := 7) (q0 := 0) rfl rfl) rfl hl.1 rfl (lv_room (Nat.le_of_ble_eq_true rfl)) d_Model_node_31 ⟨Nat.le_of_ble_eq_true rfl, Nat.le_of_ble_eq_true rfl⟩) hZ hS (fun v9 w9 H locs q10 hP hS => ?_) (fun x9 w9 H locs q10 hP hS => q10.elim)
          obtain ⟨hv9, B2, hM, hRel2⟩ := q10
          subst hv9
          have hM : mK ca K w0 (((mAo t9 k9 p9 σ).sThrown 0).sChanges (σ.sc + 1)) B2 w9 := hM
          have hRel2 : mRel (((mAo t9 k9 p9 σ).sThrown 0).sChanges (σ.sc + 1)) B2 (σ.sSc (σ.sc + 1)) := hRel2
          show W _ _ _ _ _ _ _ _ _ _ _ _ _ _ _ (F0 m 34 ls [])
          refine lv_aload_n hx hb d_Model_node_34 rfl (lv_at hl 1 rfl) ?_
          have h11 : w9 (K 0) = some (.inr (7, [.int 0, .ref (K 1), .ref (K 2), .ref (K 3), .ref (K 4), .ref (K 5), .ref (K 6), .ref (K 7), .ref (K 8), .ref (K 9), .ref (K 10), .ref (K 11), .ref (K 12), .int (nI (σ.tape.length)), .ref (K 13), .int (σ.err), .int (σ.off), .int (σ.ins), .int (nI (σ.sc + 1)), .int (nI (σ.ec)), .int (nI (σ.en)), .int (σ.tr), .int (nI (σ.lo)), .int (σ.wr), .int (nI (σ.due))])) := hM.1.2 0 (by decide)
          refine va_get (D := D) (ci := 7) (v := .ref (K 1)) (C := R_Model) (T := F_Model) (N := 25) hx hb hts i_Model hown hK (hv_one hP h11) 0 rfl rfl 1 (by decide) (hts _ k_Model_7) (fun _ h9 => h9) rfl d_Model_node_35 ?_
          refine lv_iload_n hx hb d_Model_node_38 rfl (lv_at hl 0 rfl) ?_
          refine lv_iconst (v := 1) hx hb d_Model_node_39 (by decide) ?_
          have h12 : w9 (K 1) = some (.inl (ca 2, 640, .inl B2.there)) := hM.1.2 1 (by decide)
          refine hv_zast hx hb hK hP hS 2 h12 rfl (vp_in_nI (n := i) (by omega) (by omega)) d_Model_node_40 (fun H locs hP hS => ?_)
          rw [nI_clamp (n := i) (by omega)] at hP
          obtain ⟨w13, ew13⟩ : ∃ z9 : hv_W, z9 = va_up w9 (K 1) (some (.inl (ca 2, 640, .inl (upd B2.there i (vp_nar .boolean 1))))) := ⟨_, rfl⟩
          have hP : hv_P D classes s0.heap.size w13 H := by rw [ew13]; exact hP
          have hM : mK ca K w0 (((mAo t9 k9 p9 σ).sThrown 0).sChanges (σ.sc + 1)) (B2.sThere (upd B2.there i (vp_nar .boolean 1))) w13 := by rw [ew13]; exact hM.put 1 (by decide) rfl
          have h14 : w13 (K 1) = some (.inl (ca 2, 640, .inl (upd B2.there i (vp_nar .boolean 1)))) := by rw [ew13]; exact hv_up_s
          refine lv_aload_n hx hb d_Model_node_41 rfl (lv_at hl 1 rfl) ?_
          have h15 : w13 (K 0) = some (.inr (7, [.int 0, .ref (K 1), .ref (K 2), .ref (K 3), .ref (K 4), .ref (K 5), .ref (K 6), .ref (K 7), .ref (K 8), .ref (K 9), .ref (K 10), .ref (K 11), .ref (K 12), .int (nI (σ.tape.length)), .ref (K 13), .int (σ.err), .int (σ.off), .int (σ.ins), .int (nI (σ.sc + 1)), .int (nI (σ.ec)), .int (nI (σ.en)), .int (σ.tr), .int (nI (σ.lo)), .int (σ.wr), .int (nI (σ.due))])) := hM.1.2 0 (by decide)
          refine va_get (D := D) (ci := 7) (v := .ref (K 5)) (C := R_Model) (T := F_Model) (N := 25) hx hb hts i_Model hown hK (hv_one hP h15) 0 rfl rfl 5 (by decide) (hts _ k_Model_23) (fun _ h9 => h9) rfl d_Model_node_42 ?_
          refine lv_iload_n hx hb d_Model_node_45 rfl (lv_at hl 0 rfl) ?_
          refine lv_iconst (v := 0) hx hb d_Model_node_46 (by decide) ?_
          have h16 : w13 (K 5) = some (.inl (ca 0, 640, .inl B2.labelMany)) := hM.1.2 5 (by decide)
          refine hv_iast hx hb hK hP hS 0 h16 rfl (vp_in_nI (n := i) (by omega) (by omega)) d_Model_node_47 (fun H locs hP hS => ?_)
          rw [nI_clamp (n := i) (by omega)] at hP
          obtain ⟨w17, ew17⟩ : ∃ z9 : hv_W, z9 = va_up w13 (K 5) (some (.inl (ca 0, 640, .inl (upd B2.labelMany i 0)))) := ⟨_, rfl⟩
          have hP : hv_P D classes s0.heap.size w17 H := by rw [ew17]; exact hP
          have hM : mK ca K w0 (((mAo t9 k9 p9 σ).sThrown 0).sChanges (σ.sc + 1)) ((B2.sThere (upd B2.there i (vp_nar .boolean 1))).sLabelMany (upd B2.labelMany i 0)) w17 := by rw [ew17]; exact hM.put 5 (by decide) rfl
          have h18 : w17 (K 5) = some (.inl (ca 0, 640, .inl (upd B2.labelMany i 0))) := by rw [ew17]; exact hv_up_s
          refine lv_aload_n hx hb d_Model_node_48 rfl (lv_at hl 1 rfl) ?_
          have h19 : w17 (K 0) = some (.inr (7, [.int 0, .ref (K 1), .ref (K 2), .ref (K 3), .ref (K 4), .ref (K 5), .ref (K 6), .ref (K 7), .ref (K 8), .ref (K 9), .ref (K 10), .ref (K 11), .ref (K 12), .int (nI (σ.tape.length)), .ref (K 13), .int (σ.err), .int (σ.off), .int (σ.ins), .int (nI (σ.sc + 1)), .int (nI (σ.ec)), .int (nI (σ.en)), .int (σ.tr), .int (nI (σ.lo)), .int (σ.wr), .int (nI (σ.due))])) := hM.1.2 0 (by decide)
          refine va_get (D := D) (ci := 7) (v := .ref (K 7)) (C := R_Model) (T := F_Model) (N := 25) hx hb hts i_Model hown hK (hv_one hP h19) 0 rfl rfl 7 (by decide) (hts _ k_Model_29) (fun _ h9 => h9) rfl d_Model_node_49 ?_
          refine lv_iload_n hx hb d_Model_node_52 rfl (lv_at hl 0 rfl) ?_
          refine lv_iconst (v := 0) hx hb d_Model_node_53 (by decide) ?_
          have h20 : w17 (K 7) = some (.inl (ca 0, 640, .inl B2.propertyMany)) := hM.1.2 7 (by decide)
          refine hv_iast hx hb hK hP hS 0 h20 rfl (vp_in_nI (n := i) (by omega) (by omega)) d_Model_node_54 (fun H locs hP hS => ?_)
          rw [nI_clamp (n := i) (by omega)] at hP
          obtain ⟨w21, ew21⟩ : ∃ z9 : hv_W, z9 = va_up w17 (K 7) (some (.inl (ca 0, 640, .inl (upd B2.propertyMany i 0)))) := ⟨_, rfl⟩
          have hP : hv_P D classes s0.heap.size w21 H := by rw [ew21]; exact hP
          have hM : mK ca K w0 (((mAo t9 k9 p9 σ).sThrown 0).sChanges (σ.sc + 1)) (((B2.sThere (upd B2.there i (vp_nar .boolean 1))).sLabelMany (upd B2.labelMany i 0)).sPropertyMany (upd B2.propertyMany i 0)) w21 := by rw [ew21]; exact hM.put 7 (by decide) rfl
          have h22 : w21 (K 7) = some (.inl (ca 0, 640, .inl (upd B2.propertyMany i 0))) := by rw [ew21]; exact hv_up_s
          refine lv_iload_n hx hb d_Model_node_55 rfl (lv_at hl 0 rfl) ?_
          exact hv_iret (v := nI i) hQ hx hb hr hZ hS hP hlocks d_Model_node_56 (mRet.of (r' := ((x_one σ i (some e_T)), 0, (nI i))) (by rw [x_node, cif_pos hoff, hfr]; dsimp only; rw [cif_neg h249]) (fun _ => rfl) hM (hRel2.set hW.1 (by omega) (fun j hj => ⟨⟨pk_un hj, rfl, rfl, rfl, pk_un hj, pk_un hj⟩, fun _ _ => rfl, fun _ _ => ⟨rfl, rfl, rfl⟩, fun _ _ => rfl⟩) (mT_new (B := B2) (pk_us.trans g_bn1) pk_us rfl (fun _ => ⟨pk_us, rfl⟩) (fun z => absurd hi z)) (Or.inr (pk_us.trans g_bn1))) rfl)
        · exact absurd c25 (by decide)
      · have h249 : 249 ≤ σ.ec + σ.sc := Classical.byContradiction fun z9 => he9 (by rw [m_fe, if_neg (by decide), if_neg (by decide), if_neg (by decide), if_neg (by decide), if_neg (fun z8 => z9 (by have h8 : σ.ec + σ.sc = 249 := z8.2; omega))])
        rw [show m_fe (mAo t9 k9 p9 σ).earlier (mAo t9 k9 p9 σ).changes 0 0 0 0 1 = 9 by rw [m_fe, if_neg (by decide), if_neg (by decide), if_neg (by decide), if_neg (by decide), if_pos ⟨by decide, show σ.ec + σ.sc = 249 by omega⟩]] at hM
        subst hv9
        show W _ _ _ _ _ _ _ _ _ _ _ _ _ _ _ (F0 m 25 ls [.int 1])
        refine lv_if_eq (tgt := 30) hx hb d_Model_node_25 (by decide) (fun c25 => ?_) (fun c25 => ?_)
        · exact absurd c25 (by decide)
        · refine lv_iconst (v := 0) hx hb d_Model_node_28 (by decide) ?_
          exact hv_iret (v := 0) hQ hx hb hr hZ hS hP hlocks d_Model_node_29 (mRet.of (r' := ((σ.sErr 9), 1, 0)) (by rw [x_node, cif_pos hoff, hfr]; dsimp only; rw [cif_pos h249]) (fun z9 => absurd z9 (show ¬ (1 : Nat) = 0 by decide)) hM ((hRel.err 9).thr 1) rfl)
  · refine lv_aload_n hx hb d_Model_node_0 rfl (lv_at hl 0 rfl) ?_
    refine lv_iconst (v := 0) hx hb d_Model_node_1 (by decide) ?_
    refine lv_bipush (v := 64) hx hb d_Model_node_2 (by decide) ?_
    have h23 : w (K 0) = some (.inr (7, [.int t9, .ref (K 1), .ref (K 2), .ref (K 3), .ref (K 4), .ref (K 5), .ref (K 6), .ref (K 7), .ref (K 8), .ref (K 9), .ref (K 10), .ref (K 11), .ref (K 12), .int (nI (σ.tape.length)), .ref (K 13), .int (σ.err), .int (σ.off), .int (σ.ins), .int (nI (σ.sc)), .int (nI (σ.ec)), .int (nI (σ.en)), .int (σ.tr), .int (nI (σ.lo)), .int (σ.wr), .int (nI (σ.due))])) := hM.1.2 0 (by decide)
    refine hv_call (hv_runV (As := [.int 0, .int 64]) (rest := []) (c_Model_free C (lo := 0) (n := 64) hM (by decide) hRel.1.1 hRel.2.2.2.1) (hv_cw C hZ kc_Model_free kn_Model ⟨rfl, rfl, Nat.le_of_ble_eq_true rfl, Nat.le_of_ble_eq_true rfl⟩) hv_blind (hv_pre hZ hS hP) hx hml hb hown (hts _ k_Model_112) (hts _ ki_Model_free) (hts _ ksel_Model_Model_free) hy_Model_free (hts _ kc_Model_free) (va_recv hK (hv_one hP h23) (ci := 7) (q0 := 0) rfl rfl) rfl hl.1 rfl (lv_room (Nat.le_of_ble_eq_true rfl)) d_Model_node_4 ⟨Nat.le_of_ble_eq_true rfl, Nat.le_of_ble_eq_true rfl⟩) hZ hS (fun v9 w24 H locs q25 hP hS => ?_) (fun x9 w24 H locs q25 hP hS => q25.elim)
    obtain ⟨hv9, hw9⟩ := q25
    subst hv9
    rw [hw9] at hP
    show W _ _ _ _ _ _ _ _ _ _ _ _ _ _ _ (F0 m 7 ls [.int (m_fr σ.now σ.gone 0 64)])
    cases hfr : x_free σ.now σ.gone 0 64 with
    | none =>
      rw [m_fr_n hfr]
      show W _ _ _ _ _ _ _ _ _ _ _ _ _ _ _ (F0 m 7 ls [.int ((-1))])
      refine lv_istore_n (lv' := [(1, .int ((-1))), (0, .ref (K 0))]) hx hb d_Model_node_7 rfl hl (by decide) rfl (fun ls hl => ?_)
      refine lv_aload_n hx hb d_Model_node_8 rfl (lv_at hl 1 rfl) ?_
      refine lv_iconst (v := 0) hx hb d_Model_node_9 (by decide) ?_
      refine lv_iconst (v := 0) hx hb d_Model_node_10 (by decide) ?_
      refine lv_iconst (v := 0) hx hb d_Model_node_11 (by decide) ?_
      refine lv_iload_n hx hb d_Model_node_12 rfl (lv_at hl 0 rfl) ?_
      refine lv_if_ge (tgt := 20) hx hb d_Model_node_13 (by decide) (fun c13 => ?_) (fun c13 => ?_)
      · exact absurd c13 (by decide)
      · refine lv_iconst (v := 1) hx hb d_Model_node_16 (by decide) ?_
        refine lv_goto (tgt := 21) hx hb d_Model_node_17 (by decide) ?_
        refine lv_iconst (v := 1) hx hb d_Model_node_21 (by decide) ?_
        refine hv_call (hv_runV (As := [.int 0, .int 0, .int 0, .int 1, .int 1]) (rest := []) (c_Model_fails C 0 0 0 1 1 hM (by show σ.ec + σ.sc ≤ 249; omega)) (hv_cw C hZ kc_Model_fails kn_Model ⟨rfl, rfl, Nat.le_of_ble_eq_true rfl, Nat.le_of_ble_eq_true rfl⟩) hv_blind (hv_pre hZ hS hP) hx hml hb hown (hts _ k_Model_116) (hts _ ki_Model_fails) (hts _ ksel_Model_Model_fails) hy_Model_fails (hts _ kc_Model_fails) (va_recv hK (hv_one hP h23) (ci := 7) (q0 := 0) rfl rfl) rfl hl.1 rfl (lv_room (Nat.le_of_ble_eq_true rfl)) d_Model_node_22 ⟨Nat.le_of_ble_eq_true rfl, Nat.le_of_ble_eq_true rfl⟩) hZ hS (fun v9 w26 H locs q27 hP hS => ?_) (fun x9 w26 H locs q27 hP hS => q27.elim)
        rcases q27 with ⟨ho9, hv9, hM⟩ | ⟨ho9, he9, hv9, hM⟩ | ⟨ho9, he9, hv9, hM⟩
        · subst hv9
          show W _ _ _ _ _ _ _ _ _ _ _ _ _ _ _ (F0 m 25 ls [.int 1])
          refine lv_if_eq (tgt := 30) hx hb d_Model_node_25 (by decide) (fun c25 => ?_) (fun c25 => ?_)
          · exact absurd c25 (by decide)
          · refine lv_iconst (v := 0) hx hb d_Model_node_28 (by decide) ?_
            exact hv_iret (v := 0) hQ hx hb hr hZ hS hP hlocks d_Model_node_29 (mRet.of (r' := (σ, 2, 0)) (by rw [x_node, cif_neg hoff]) (fun z9 => absurd z9 (show ¬ (2 : Nat) = 0 by decide)) hM (hRel.thr 2) rfl)
        · exact absurd ho9 hoff
        · exact absurd ho9 hoff
    | some i =>
      rw [show m_fr σ.now σ.gone 0 64 = nI i by rw [m_fr_s hfr, Nat.zero_add]]
      have hi : i < 64 := x_free_lt hfr
      show W _ _ _ _ _ _ _ _ _ _ _ _ _ _ _ (F0 m 7 ls [.int (nI i)])
      refine lv_istore_n (lv' := [(1, .int (nI i)), (0, .ref (K 0))]) hx hb d_Model_node_7 rfl hl (by decide) rfl (fun ls hl => ?_)
      refine lv_aload_n hx hb d_Model_node_8 rfl (lv_at hl 1 rfl) ?_
      refine lv_iconst (v := 0) hx hb d_Model_node_9 (by decide) ?_
      refine lv_iconst (v := 0) hx hb d_Model_node_10 (by decide) ?_
      refine lv_iconst (v := 0) hx hb d_Model_node_11 (by decide) ?_
      refine lv_iload_n hx hb d_Model_node_12 rfl (lv_at hl 0 rfl) ?_
      refine gk_if_ge (x := i) (tgt := 20) hx hb d_Model_node_13 (by decide) (by omega) ?_
      refine lv_iconst (v := 0) hx hb d_Model_node_20 (by decide) ?_
      refine lv_iconst (v := 1) hx hb d_Model_node_21 (by decide) ?_
      refine hv_call (hv_runV (As := [.int 0, .int 0, .int 0, .int 0, .int 1]) (rest := []) (c_Model_fails C 0 0 0 0 1 hM (by show σ.ec + σ.sc ≤ 249; omega)) (hv_cw C hZ kc_Model_fails kn_Model ⟨rfl, rfl, Nat.le_of_ble_eq_true rfl, Nat.le_of_ble_eq_true rfl⟩) hv_blind (hv_pre hZ hS hP) hx hml hb hown (hts _ k_Model_116) (hts _ ki_Model_fails) (hts _ ksel_Model_Model_fails) hy_Model_fails (hts _ kc_Model_fails) (va_recv hK (hv_one hP h23) (ci := 7) (q0 := 0) rfl rfl) rfl hl.1 rfl (lv_room (Nat.le_of_ble_eq_true rfl)) d_Model_node_22 ⟨Nat.le_of_ble_eq_true rfl, Nat.le_of_ble_eq_true rfl⟩) hZ hS (fun v9 w28 H locs q29 hP hS => ?_) (fun x9 w28 H locs q29 hP hS => q29.elim)
      rcases q29 with ⟨ho9, hv9, hM⟩ | ⟨ho9, he9, hv9, hM⟩ | ⟨ho9, he9, hv9, hM⟩
      · subst hv9
        show W _ _ _ _ _ _ _ _ _ _ _ _ _ _ _ (F0 m 25 ls [.int 1])
        refine lv_if_eq (tgt := 30) hx hb d_Model_node_25 (by decide) (fun c25 => ?_) (fun c25 => ?_)
        · exact absurd c25 (by decide)
        · refine lv_iconst (v := 0) hx hb d_Model_node_28 (by decide) ?_
          exact hv_iret (v := 0) hQ hx hb hr hZ hS hP hlocks d_Model_node_29 (mRet.of (r' := (σ, 2, 0)) (by rw [x_node, cif_neg hoff]) (fun z9 => absurd z9 (show ¬ (2 : Nat) = 0 by decide)) hM (hRel.thr 2) rfl)
      · exact absurd ho9 hoff
      · exact absurd ho9 hoff

abbrev rm_Model_link : Room := { frames := 3, cells := 0, slots := 0, locals := 66 }
set_option maxHeartbeats 4000000 in
set_option maxRecDepth 100000 in
theorem c_Model_link {l : Launch} {s0 : State} {D : va_G} {ca : Nat → ClassId} (C : hv_C l s0 D (hv_tys ca)) {w : hv_W} {K : Nat → Nat} {w0 : hv_W} {A : mA} {B : mB} {σ : gS} (a b ty : Int32) (hM : mK ca K w0 A B w) (hRel : mRel A B σ) (hW : gW σ)  :
    hv_Met l y_Model_link [.code y_Model_link b_Model_link 7 (some .int)] rm_Model_link (hv_Pc s0 D w [.ref (K 0), .int a, .int b, .int ty]) (hv_Q s0 D (fun v w' => mRet ca K w0 (x_link σ a b ty) v w') (fun _ _ => False)) 0 0 (hv_A s0.heap.size) := by
  refine hv_enter C _ (by decide) (Nat.le_of_ble_eq_true rfl) ?_
  intro p e s m below meth c ls Q hQ hx hb hr hml hown hts hK hZ hlocks hname hout htr hP hl
  have hown : s.vm.findClass R_Model = some m.cls := hown
  have hS : va_S (hv_A s0.heap.size) s.heap s.heap [] := va_S.rf
  have hl : lv_has ls 7 [(0, .ref (K 0)), (1, .int a), (2, .int b), (3, .int ty)] := hl
  obtain ⟨t9, k9, p9, hA9⟩ := mAo_of hRel
  subst hA9
  have hb9 := hW.hb
  have htp9 := hW.tape
  have hdu9 : σ.due ≤ 2000 := hW.2.2.1.2.2.2
  have hen9 : σ.en ≤ 250 := hW.2.2.1.2.1
  have hlo9 : σ.lo ≤ 250 := hW.2.2.1.2.2.1
  refine lv_aload_n hx hb d_Model_link_0 rfl (lv_at hl 0 rfl) ?_
  have h1 : w (K 0) = some (.inr (7, [.int t9, .ref (K 1), .ref (K 2), .ref (K 3), .ref (K 4), .ref (K 5), .ref (K 6), .ref (K 7), .ref (K 8), .ref (K 9), .ref (K 10), .ref (K 11), .ref (K 12), .int (nI (σ.tape.length)), .ref (K 13), .int (σ.err), .int (σ.off), .int (σ.ins), .int (nI (σ.sc)), .int (nI (σ.ec)), .int (nI (σ.en)), .int (σ.tr), .int (nI (σ.lo)), .int (σ.wr), .int (nI (σ.due))])) := hM.1.2 0 (by decide)
  refine va_get (D := D) (ci := 7) (v := .int (σ.off)) (C := R_Model) (T := F_Model) (N := 25) hx hb hts i_Model hown hK (hv_one hP h1) 0 rfl rfl 16 (by decide) (hts _ k_Model_62) (fun _ h9 => h9) rfl d_Model_link_1 ?_
  refine lv_if_eq (tgt := 11) hx hb d_Model_link_4 (by decide) (fun c4 => ?_) (fun c4 => ?_)
  · refine lv_aload_n hx hb d_Model_link_11 rfl (lv_at hl 0 rfl) ?_
    refine lv_iconst (v := 4) hx hb d_Model_link_12 (by decide) ?_
    refine lv_iload_n hx hb d_Model_link_13 rfl (lv_at hl 1 rfl) ?_
    refine hv_call (hv_runV (As := [.int 4, .int a]) (rest := []) (c_Model_find C 4 a hM) (hv_cw C hZ kc_Model_find kn_Model ⟨rfl, rfl, Nat.le_of_ble_eq_true rfl, Nat.le_of_ble_eq_true rfl⟩) hv_blind (hv_pre hZ hS hP) hx hml hb hown (hts _ k_Model_123) (hts _ ki_Model_find) (hts _ ksel_Model_Model_find) hy_Model_find (hts _ kc_Model_find) (va_recv hK (hv_one hP h1) (ci := 7) (q0 := 0) rfl rfl) rfl hl.1 rfl (lv_room (Nat.le_of_ble_eq_true rfl)) d_Model_link_14 ⟨Nat.le_of_ble_eq_true rfl, Nat.le_of_ble_eq_true rfl⟩) hZ hS (fun v9 w2 H locs q3 hP hS => ?_) (fun x9 w2 H locs q3 hP hS => q3.elim)
    obtain ⟨hv9, hw9⟩ := q3
    subst hv9
    rw [hw9] at hP
    show W _ _ _ _ _ _ _ _ _ _ _ _ _ _ _ (F0 m 17 ls [.int (m_find B 4 a)])
    rw [m_find_eq hRel.1.1]
    cases hfa : x_find σ.now 4 a with
    | none =>
      rw [m_find2_n hfa]
      show W _ _ _ _ _ _ _ _ _ _ _ _ _ _ _ (F0 m 17 ls [.int ((-1))])
      refine lv_istore (lv' := [(4, .int ((-1))), (0, .ref (K 0)), (1, .int a), (2, .int b), (3, .int ty)]) hx hb d_Model_link_17 hl (by decide) rfl (fun ls hl => ?_)
      refine lv_aload_n hx hb d_Model_link_19 rfl (lv_at hl 1 rfl) ?_
      refine va_get (D := D) (ci := 7) (v := .int (σ.off)) (C := R_Model) (T := F_Model) (N := 25) hx hb hts i_Model hown hK (hv_one hP h1) 0 rfl rfl 16 (by decide) (hts _ k_Model_62) (fun _ h9 => h9) rfl d_Model_link_20 ?_
      refine lv_if_eq (tgt := 30) hx hb d_Model_link_23 (by decide) (fun c23 => ?_) (fun c23 => ?_)
      · refine lv_aload_n hx hb d_Model_link_30 rfl (lv_at hl 1 rfl) ?_
        refine lv_iconst (v := 4) hx hb d_Model_link_31 (by decide) ?_
        refine lv_iload_n hx hb d_Model_link_32 rfl (lv_at hl 3 rfl) ?_
        refine hv_call (hv_runV (As := [.int 4, .int b]) (rest := []) (c_Model_find C 4 b hM) (hv_cw C hZ kc_Model_find kn_Model ⟨rfl, rfl, Nat.le_of_ble_eq_true rfl, Nat.le_of_ble_eq_true rfl⟩) hv_blind (hv_pre hZ hS hP) hx hml hb hown (hts _ k_Model_123) (hts _ ki_Model_find) (hts _ ksel_Model_Model_find) hy_Model_find (hts _ kc_Model_find) (va_recv hK (hv_one hP h1) (ci := 7) (q0 := 0) rfl rfl) rfl hl.1 rfl (lv_room (Nat.le_of_ble_eq_true rfl)) d_Model_link_33 ⟨Nat.le_of_ble_eq_true rfl, Nat.le_of_ble_eq_true rfl⟩) hZ hS (fun v9 w4 H locs q5 hP hS => ?_) (fun x9 w4 H locs q5 hP hS => q5.elim)
        obtain ⟨hv9, hw9⟩ := q5
        subst hv9
        rw [hw9] at hP
        show W _ _ _ _ _ _ _ _ _ _ _ _ _ _ _ (F0 m 36 ls [.int (m_find B 4 b)])
        rw [m_find_eq hRel.1.1]
        cases hfb : x_find σ.now 4 b with
        | none =>
          rw [m_find2_n hfb]
          show W _ _ _ _ _ _ _ _ _ _ _ _ _ _ _ (F0 m 36 ls [.int ((-1))])
          refine lv_istore (lv' := [(5, .int ((-1))), (4, .int ((-1))), (0, .ref (K 0)), (1, .int a), (2, .int b), (3, .int ty)]) hx hb d_Model_link_36 hl (by decide) rfl (fun ls hl => ?_)
          refine lv_aload_n hx hb d_Model_link_38 rfl (lv_at hl 2 rfl) ?_
          refine lv_bipush (v := 64) hx hb d_Model_link_39 (by decide) ?_
          refine lv_sipush (v := 160) hx hb d_Model_link_41 (by decide) ?_
          refine hv_call (hv_runV (As := [.int 64, .int 160]) (rest := []) (c_Model_free C (lo := 64) (n := 96) hM (by decide) hRel.1.1 hRel.2.2.2.1) (hv_cw C hZ kc_Model_free kn_Model ⟨rfl, rfl, Nat.le_of_ble_eq_true rfl, Nat.le_of_ble_eq_true rfl⟩) hv_blind (hv_pre hZ hS hP) hx hml hb hown (hts _ k_Model_112) (hts _ ki_Model_free) (hts _ ksel_Model_Model_free) hy_Model_free (hts _ kc_Model_free) (va_recv hK (hv_one hP h1) (ci := 7) (q0 := 0) rfl rfl) rfl hl.1 rfl (lv_room (Nat.le_of_ble_eq_true rfl)) d_Model_link_44 ⟨Nat.le_of_ble_eq_true rfl, Nat.le_of_ble_eq_true rfl⟩) hZ hS (fun v9 w6 H locs q7 hP hS => ?_) (fun x9 w6 H locs q7 hP hS => q7.elim)
          obtain ⟨hv9, hw9⟩ := q7
          subst hv9
          rw [hw9] at hP
          show W _ _ _ _ _ _ _ _ _ _ _ _ _ _ _ (F0 m 47 ls [.int (m_fr σ.now σ.gone 64 96)])
          cases hfr : x_free σ.now σ.gone 64 96 with
          | none =>
            rw [m_fr_n hfr]
            show W _ _ _ _ _ _ _ _ _ _ _ _ _ _ _ (F0 m 47 ls [.int ((-1))])
            refine lv_istore (lv' := [(6, .int ((-1))), (5, .int ((-1))), (4, .int ((-1))), (0, .ref (K 0)), (1, .int a), (2, .int b), (3, .int ty)]) hx hb d_Model_link_47 hl (by decide) rfl (fun ls hl => ?_)
            refine lv_aload_n hx hb d_Model_link_49 rfl (lv_at hl 3 rfl) ?_
            refine lv_iload hx hb d_Model_link_50 (lv_at hl 2 rfl) ?_
            refine lv_if_lt (tgt := 60) hx hb d_Model_link_52 (by decide) (fun c52 => ?_) (fun c52 => ?_)
            · refine lv_iconst (v := 1) hx hb d_Model_link_60 (by decide) ?_
              refine lv_goto (tgt := 65) hx hb d_Model_link_61 (by decide) ?_
              refine lv_iconst (v := 0) hx hb d_Model_link_65 (by decide) ?_
              refine lv_iconst (v := 0) hx hb d_Model_link_66 (by decide) ?_
              refine lv_iload hx hb d_Model_link_67 (lv_at hl 0 rfl) ?_
              refine lv_if_ge (tgt := 76) hx hb d_Model_link_69 (by decide) (fun c69 => ?_) (fun c69 => ?_)
              · exact absurd c69 (by decide)
              · refine lv_iconst (v := 1) hx hb d_Model_link_72 (by decide) ?_
                refine lv_goto (tgt := 77) hx hb d_Model_link_73 (by decide) ?_
                refine lv_iconst (v := 1) hx hb d_Model_link_77 (by decide) ?_
                refine hv_call (hv_runV (As := [.int 1, .int 0, .int 0, .int 1, .int 1]) (rest := []) (c_Model_fails C 1 0 0 1 1 hM (by show σ.ec + σ.sc ≤ 249; omega)) (hv_cw C hZ kc_Model_fails kn_Model ⟨rfl, rfl, Nat.le_of_ble_eq_true rfl, Nat.le_of_ble_eq_true rfl⟩) hv_blind (hv_pre hZ hS hP) hx hml hb hown (hts _ k_Model_116) (hts _ ki_Model_fails) (hts _ ksel_Model_Model_fails) hy_Model_fails (hts _ kc_Model_fails) (va_recv hK (hv_one hP h1) (ci := 7) (q0 := 0) rfl rfl) rfl hl.1 rfl (lv_room (Nat.le_of_ble_eq_true rfl)) d_Model_link_78 ⟨Nat.le_of_ble_eq_true rfl, Nat.le_of_ble_eq_true rfl⟩) hZ hS (fun v9 w8 H locs q9 hP hS => ?_) (fun x9 w8 H locs q9 hP hS => q9.elim)
                rcases q9 with ⟨ho9, hv9, hM⟩ | ⟨ho9, he9, hv9, hM⟩ | ⟨ho9, he9, hv9, hM⟩
                · exact absurd c4 ho9
                · exact absurd ((show m_fe (mAo t9 k9 p9 σ).earlier (mAo t9 k9 p9 σ).changes 1 0 0 1 1 = 8 by rw [m_fe, if_pos (by decide)]).symm.trans he9) (by decide)
                · rw [show m_fe (mAo t9 k9 p9 σ).earlier (mAo t9 k9 p9 σ).changes 1 0 0 1 1 = 8 by rw [m_fe, if_pos (by decide)]] at hM
                  subst hv9
                  show W _ _ _ _ _ _ _ _ _ _ _ _ _ _ _ (F0 m 81 ls [.int 1])
                  refine lv_if_eq (tgt := 86) hx hb d_Model_link_81 (by decide) (fun c81 => ?_) (fun c81 => ?_)
                  · exact absurd c81 (by decide)
                  · refine lv_iconst (v := 0) hx hb d_Model_link_84 (by decide) ?_
                    exact hv_iret (v := 0) hQ hx hb hr hZ hS hP hlocks d_Model_link_85 (mRet.of (r' := ((σ.sErr 8), 1, 0)) (by rw [x_link, cif_pos c4, cif_pos (Or.inl hfa)]) (fun z9 => absurd z9 (show ¬ (1 : Nat) = 0 by decide)) hM ((hRel.err 8).thr 1) rfl)
            · exact absurd c52 (by decide)
          | some i =>
            rw [show m_fr σ.now σ.gone 64 96 = nI (64 + i) by rw [m_fr_s hfr]]
            have hi : i < 96 := x_free_lt hfr
            show W _ _ _ _ _ _ _ _ _ _ _ _ _ _ _ (F0 m 47 ls [.int (nI (64 + i))])
            refine lv_istore (lv' := [(6, .int (nI (64 + i))), (5, .int ((-1))), (4, .int ((-1))), (0, .ref (K 0)), (1, .int a), (2, .int b), (3, .int ty)]) hx hb d_Model_link_47 hl (by decide) rfl (fun ls hl => ?_)
            refine lv_aload_n hx hb d_Model_link_49 rfl (lv_at hl 3 rfl) ?_
            refine lv_iload hx hb d_Model_link_50 (lv_at hl 2 rfl) ?_
            refine lv_if_lt (tgt := 60) hx hb d_Model_link_52 (by decide) (fun c52 => ?_) (fun c52 => ?_)
            · refine lv_iconst (v := 1) hx hb d_Model_link_60 (by decide) ?_
              refine lv_goto (tgt := 65) hx hb d_Model_link_61 (by decide) ?_
              refine lv_iconst (v := 0) hx hb d_Model_link_65 (by decide) ?_
              refine lv_iconst (v := 0) hx hb d_Model_link_66 (by decide) ?_
              refine lv_iload hx hb d_Model_link_67 (lv_at hl 0 rfl) ?_
              refine gk_if_ge (x := 64 + i) (tgt := 76) hx hb d_Model_link_69 (by decide) (by omega) ?_
              refine lv_iconst (v := 0) hx hb d_Model_link_76 (by decide) ?_
              refine lv_iconst (v := 1) hx hb d_Model_link_77 (by decide) ?_
              refine hv_call (hv_runV (As := [.int 1, .int 0, .int 0, .int 0, .int 1]) (rest := []) (c_Model_fails C 1 0 0 0 1 hM (by show σ.ec + σ.sc ≤ 249; omega)) (hv_cw C hZ kc_Model_fails kn_Model ⟨rfl, rfl, Nat.le_of_ble_eq_true rfl, Nat.le_of_ble_eq_true rfl⟩) hv_blind (hv_pre hZ hS hP) hx hml hb hown (hts _ k_Model_116) (hts _ ki_Model_fails) (hts _ ksel_Model_Model_fails) hy_Model_fails (hts _ kc_Model_fails) (va_recv hK (hv_one hP h1) (ci := 7) (q0 := 0) rfl rfl) rfl hl.1 rfl (lv_room (Nat.le_of_ble_eq_true rfl)) d_Model_link_78 ⟨Nat.le_of_ble_eq_true rfl, Nat.le_of_ble_eq_true rfl⟩) hZ hS (fun v9 w10 H locs q11 hP hS => ?_) (fun x9 w10 H locs q11 hP hS => q11.elim)
              rcases q11 with ⟨ho9, hv9, hM⟩ | ⟨ho9, he9, hv9, hM⟩ | ⟨ho9, he9, hv9, hM⟩
              · exact absurd c4 ho9
              · exact absurd ((show m_fe (mAo t9 k9 p9 σ).earlier (mAo t9 k9 p9 σ).changes 1 0 0 0 1 = 8 by rw [m_fe, if_pos (by decide)]).symm.trans he9) (by decide)
              · rw [show m_fe (mAo t9 k9 p9 σ).earlier (mAo t9 k9 p9 σ).changes 1 0 0 0 1 = 8 by rw [m_fe, if_pos (by decide)]] at hM
                subst hv9
                show W _ _ _ _ _ _ _ _ _ _ _ _ _ _ _ (F0 m 81 ls [.int 1])
                refine lv_if_eq (tgt := 86) hx hb d_Model_link_81 (by decide) (fun c81 => ?_) (fun c81 => ?_)
                · exact absurd c81 (by decide)
                · refine lv_iconst (v := 0) hx hb d_Model_link_84 (by decide) ?_
                  exact hv_iret (v := 0) hQ hx hb hr hZ hS hP hlocks d_Model_link_85 (mRet.of (r' := ((σ.sErr 8), 1, 0)) (by rw [x_link, cif_pos c4, cif_pos (Or.inl hfa)]) (fun z9 => absurd z9 (show ¬ (1 : Nat) = 0 by decide)) hM ((hRel.err 8).thr 1) rfl)
            · exact absurd c52 (by decide)
        | some itb =>
          obtain ⟨ib, tb⟩ := itb
          rw [m_find2_s hfb]
          have hib : ib < 160 := x_find_lt hfb
          have htb : σ.now ib = some tb := (x_find_some hfb).1
          have hwb := hW.t hib htb
          show W _ _ _ _ _ _ _ _ _ _ _ _ _ _ _ (F0 m 36 ls [.int (nI ib)])
          refine lv_istore (lv' := [(5, .int (nI ib)), (4, .int ((-1))), (0, .ref (K 0)), (1, .int a), (2, .int b), (3, .int ty)]) hx hb d_Model_link_36 hl (by decide) rfl (fun ls hl => ?_)
          refine lv_aload_n hx hb d_Model_link_38 rfl (lv_at hl 2 rfl) ?_
          refine lv_bipush (v := 64) hx hb d_Model_link_39 (by decide) ?_
          refine lv_sipush (v := 160) hx hb d_Model_link_41 (by decide) ?_
          refine hv_call (hv_runV (As := [.int 64, .int 160]) (rest := []) (c_Model_free C (lo := 64) (n := 96) hM (by decide) hRel.1.1 hRel.2.2.2.1) (hv_cw C hZ kc_Model_free kn_Model ⟨rfl, rfl, Nat.le_of_ble_eq_true rfl, Nat.le_of_ble_eq_true rfl⟩) hv_blind (hv_pre hZ hS hP) hx hml hb hown (hts _ k_Model_112) (hts _ ki_Model_free) (hts _ ksel_Model_Model_free) hy_Model_free (hts _ kc_Model_free) (va_recv hK (hv_one hP h1) (ci := 7) (q0 := 0) rfl rfl) rfl hl.1 rfl (lv_room (Nat.le_of_ble_eq_true rfl)) d_Model_link_44 ⟨Nat.le_of_ble_eq_true rfl, Nat.le_of_ble_eq_true rfl⟩) hZ hS (fun v9 w12 H locs q13 hP hS => ?_) (fun x9 w12 H locs q13 hP hS => q13.elim)
          obtain ⟨hv9, hw9⟩ := q13
          subst hv9
          rw [hw9] at hP
          show W _ _ _ _ _ _ _ _ _ _ _ _ _ _ _ (F0 m 47 ls [.int (m_fr σ.now σ.gone 64 96)])
          cases hfr : x_free σ.now σ.gone 64 96 with
          | none =>
            rw [m_fr_n hfr]
            show W _ _ _ _ _ _ _ _ _ _ _ _ _ _ _ (F0 m 47 ls [.int ((-1))])
            refine lv_istore (lv' := [(6, .int ((-1))), (5, .int (nI ib)), (4, .int ((-1))), (0, .ref (K 0)), (1, .int a), (2, .int b), (3, .int ty)]) hx hb d_Model_link_47 hl (by decide) rfl (fun ls hl => ?_)
            refine lv_aload_n hx hb d_Model_link_49 rfl (lv_at hl 3 rfl) ?_
            refine lv_iload hx hb d_Model_link_50 (lv_at hl 2 rfl) ?_
            refine lv_if_lt (tgt := 60) hx hb d_Model_link_52 (by decide) (fun c52 => ?_) (fun c52 => ?_)
            · refine lv_iconst (v := 1) hx hb d_Model_link_60 (by decide) ?_
              refine lv_goto (tgt := 65) hx hb d_Model_link_61 (by decide) ?_
              refine lv_iconst (v := 0) hx hb d_Model_link_65 (by decide) ?_
              refine lv_iconst (v := 0) hx hb d_Model_link_66 (by decide) ?_
              refine lv_iload hx hb d_Model_link_67 (lv_at hl 0 rfl) ?_
              refine lv_if_ge (tgt := 76) hx hb d_Model_link_69 (by decide) (fun c69 => ?_) (fun c69 => ?_)
              · exact absurd c69 (by decide)
              · refine lv_iconst (v := 1) hx hb d_Model_link_72 (by decide) ?_
                refine lv_goto (tgt := 77) hx hb d_Model_link_73 (by decide) ?_
                refine lv_iconst (v := 1) hx hb d_Model_link_77 (by decide) ?_
                refine hv_call (hv_runV (As := [.int 1, .int 0, .int 0, .int 1, .int 1]) (rest := []) (c_Model_fails C 1 0 0 1 1 hM (by show σ.ec + σ.sc ≤ 249; omega)) (hv_cw C hZ kc_Model_fails kn_Model ⟨rfl, rfl, Nat.le_of_ble_eq_true rfl, Nat.le_of_ble_eq_true rfl⟩) hv_blind (hv_pre hZ hS hP) hx hml hb hown (hts _ k_Model_116) (hts _ ki_Model_fails) (hts _ ksel_Model_Model_fails) hy_Model_fails (hts _ kc_Model_fails) (va_recv hK (hv_one hP h1) (ci := 7) (q0 := 0) rfl rfl) rfl hl.1 rfl (lv_room (Nat.le_of_ble_eq_true rfl)) d_Model_link_78 ⟨Nat.le_of_ble_eq_true rfl, Nat.le_of_ble_eq_true rfl⟩) hZ hS (fun v9 w14 H locs q15 hP hS => ?_) (fun x9 w14 H locs q15 hP hS => q15.elim)
                rcases q15 with ⟨ho9, hv9, hM⟩ | ⟨ho9, he9, hv9, hM⟩ | ⟨ho9, he9, hv9, hM⟩
                · exact absurd c4 ho9
                · exact absurd ((show m_fe (mAo t9 k9 p9 σ).earlier (mAo t9 k9 p9 σ).changes 1 0 0 1 1 = 8 by rw [m_fe, if_pos (by decide)]).symm.trans he9) (by decide)
                · rw [show m_fe (mAo t9 k9 p9 σ).earlier (mAo t9 k9 p9 σ).changes 1 0 0 1 1 = 8 by rw [m_fe, if_pos (by decide)]] at hM
                  subst hv9
                  show W _ _ _ _ _ _ _ _ _ _ _ _ _ _ _ (F0 m 81 ls [.int 1])
                  refine lv_if_eq (tgt := 86) hx hb d_Model_link_81 (by decide) (fun c81 => ?_) (fun c81 => ?_)
                  · exact absurd c81 (by decide)
                  · refine lv_iconst (v := 0) hx hb d_Model_link_84 (by decide) ?_
                    exact hv_iret (v := 0) hQ hx hb hr hZ hS hP hlocks d_Model_link_85 (mRet.of (r' := ((σ.sErr 8), 1, 0)) (by rw [x_link, cif_pos c4, cif_pos (Or.inl hfa)]) (fun z9 => absurd z9 (show ¬ (1 : Nat) = 0 by decide)) hM ((hRel.err 8).thr 1) rfl)
            · exact absurd c52 (by decide)
          | some i =>
            rw [show m_fr σ.now σ.gone 64 96 = nI (64 + i) by rw [m_fr_s hfr]]
            have hi : i < 96 := x_free_lt hfr
            show W _ _ _ _ _ _ _ _ _ _ _ _ _ _ _ (F0 m 47 ls [.int (nI (64 + i))])
            refine lv_istore (lv' := [(6, .int (nI (64 + i))), (5, .int (nI ib)), (4, .int ((-1))), (0, .ref (K 0)), (1, .int a), (2, .int b), (3, .int ty)]) hx hb d_Model_link_47 hl (by decide) rfl (fun ls hl => ?_)
            refine lv_aload_n hx hb d_Model_link_49 rfl (lv_at hl 3 rfl) ?_
            refine lv_iload hx hb d_Model_link_50 (lv_at hl 2 rfl) ?_
            refine lv_if_lt (tgt := 60) hx hb d_Model_link_52 (by decide) (fun c52 => ?_) (fun c52 => ?_)
            · refine lv_iconst (v := 1) hx hb d_Model_link_60 (by decide) ?_
              refine lv_goto (tgt := 65) hx hb d_Model_link_61 (by decide) ?_
              refine lv_iconst (v := 0) hx hb d_Model_link_65 (by decide) ?_
              refine lv_iconst (v := 0) hx hb d_Model_link_66 (by decide) ?_
              refine lv_iload hx hb d_Model_link_67 (lv_at hl 0 rfl) ?_
              refine gk_if_ge (x := 64 + i) (tgt := 76) hx hb d_Model_link_69 (by decide) (by omega) ?_
              refine lv_iconst (v := 0) hx hb d_Model_link_76 (by decide) ?_
              refine lv_iconst (v := 1) hx hb d_Model_link_77 (by decide) ?_
              refine hv_call (hv_runV (As := [.int 1, .int 0, .int 0, .int 0, .int 1]) (rest := []) (c_Model_fails C 1 0 0 0 1 hM (by show σ.ec + σ.sc ≤ 249; omega)) (hv_cw C hZ kc_Model_fails kn_Model ⟨rfl, rfl, Nat.le_of_ble_eq_true rfl, Nat.le_of_ble_eq_true rfl⟩) hv_blind (hv_pre hZ hS hP) hx hml hb hown (hts _ k_Model_116) (hts _ ki_Model_fails) (hts _ ksel_Model_Model_fails) hy_Model_fails (hts _ kc_Model_fails) (va_recv hK (hv_one hP h1) (ci := 7) (q0 := 0) rfl rfl) rfl hl.1 rfl (lv_room (Nat.le_of_ble_eq_true rfl)) d_Model_link_78 ⟨Nat.le_of_ble_eq_true rfl, Nat.le_of_ble_eq_true rfl⟩) hZ hS (fun v9 w16 H locs q17 hP hS => ?_) (fun x9 w16 H locs q17 hP hS => q17.elim)
              rcases q17 with ⟨ho9, hv9, hM⟩ | ⟨ho9, he9, hv9, hM⟩ | ⟨ho9, he9, hv9, hM⟩
              · exact absurd c4 ho9
              · exact absurd ((show m_fe (mAo t9 k9 p9 σ).earlier (mAo t9 k9 p9 σ).changes 1 0 0 0 1 = 8 by rw [m_fe, if_pos (by decide)]).symm.trans he9) (by decide)
              · rw [show m_fe (mAo t9 k9 p9 σ).earlier (mAo t9 k9 p9 σ).changes 1 0 0 0 1 = 8 by rw [m_fe, if_pos (by decide)]] at hM
                subst hv9
                show W _ _ _ _ _ _ _ _ _ _ _ _ _ _ _ (F0 m 81 ls [.int 1])
                refine lv_if_eq (tgt := 86) hx hb d_Model_link_81 (by decide) (fun c81 => ?_) (fun c81 => ?_)
                · exact absurd c81 (by decide)
                · refine lv_iconst (v := 0) hx hb d_Model_link_84 (by decide) ?_
                  exact hv_iret (v := 0) hQ hx hb hr hZ hS hP hlocks d_Model_link_85 (mRet.of (r' := ((σ.sErr 8), 1, 0)) (by rw [x_link, cif_pos c4, cif_pos (Or.inl hfa)]) (fun z9 => absurd z9 (show ¬ (1 : Nat) = 0 by decide)) hM ((hRel.err 8).thr 1) rfl)
            · exact absurd c52 (by decide)
      · exact absurd c4 c23
    | some ita =>
      obtain ⟨ia, ta⟩ := ita
      rw [m_find2_s hfa]
      have hia : ia < 160 := x_find_lt hfa
      have hta : σ.now ia = some ta := (x_find_some hfa).1
      have hwa := hW.t hia hta
      show W _ _ _ _ _ _ _ _ _ _ _ _ _ _ _ (F0 m 17 ls [.int (nI ia)])
      refine lv_istore (lv' := [(4, .int (nI ia)), (0, .ref (K 0)), (1, .int a), (2, .int b), (3, .int ty)]) hx hb d_Model_link_17 hl (by decide) rfl (fun ls hl => ?_)
      refine lv_aload_n hx hb d_Model_link_19 rfl (lv_at hl 1 rfl) ?_
      refine va_get (D := D) (ci := 7) (v := .int (σ.off)) (C := R_Model) (T := F_Model) (N := 25) hx hb hts i_Model hown hK (hv_one hP h1) 0 rfl rfl 16 (by decide) (hts _ k_Model_62) (fun _ h9 => h9) rfl d_Model_link_20 ?_
      refine lv_if_eq (tgt := 30) hx hb d_Model_link_23 (by decide) (fun c23 => ?_) (fun c23 => ?_)
      · refine lv_aload_n hx hb d_Model_link_30 rfl (lv_at hl 1 rfl) ?_
        refine lv_iconst (v := 4) hx hb d_Model_link_31 (by decide) ?_
        refine lv_iload_n hx hb d_Model_link_32 rfl (lv_at hl 3 rfl) ?_
        refine hv_call (hv_runV (As := [.int 4, .int b]) (rest := []) (c_Model_find C 4 b hM) (hv_cw C hZ kc_Model_find kn_Model ⟨rfl, rfl, Nat.le_of_ble_eq_true rfl, Nat.le_of_ble_eq_true rfl⟩) hv_blind (hv_pre hZ hS hP) hx hml hb hown (hts _ k_Model_123) (hts _ ki_Model_find) (hts _ ksel_Model_Model_find) hy_Model_find (hts _ kc_Model_find) (va_recv hK (hv_one hP h1) (ci := 7) (q0 := 0) rfl rfl) rfl hl.1 rfl (lv_room (Nat.le_of_ble_eq_true rfl)) d_Model_link_33 ⟨Nat.le_of_ble_eq_true rfl, Nat.le_of_ble_eq_true rfl⟩) hZ hS (fun v9 w18 H locs q19 hP hS => ?_) (fun x9 w18 H locs q19 hP hS => q19.elim)
        obtain ⟨hv9, hw9⟩ := q19
        subst hv9
        rw [hw9] at hP
        show W _ _ _ _ _ _ _ _ _ _ _ _ _ _ _ (F0 m 36 ls [.int (m_find B 4 b)])
        rw [m_find_eq hRel.1.1]
        cases hfb : x_find σ.now 4 b with
        | none =>
          rw [m_find2_n hfb]
          show W _ _ _ _ _ _ _ _ _ _ _ _ _ _ _ (F0 m 36 ls [.int ((-1))])
          refine lv_istore (lv' := [(5, .int ((-1))), (4, .int (nI ia)), (0, .ref (K 0)), (1, .int a), (2, .int b), (3, .int ty)]) hx hb d_Model_link_36 hl (by decide) rfl (fun ls hl => ?_)
          refine lv_aload_n hx hb d_Model_link_38 rfl (lv_at hl 2 rfl) ?_
          refine lv_bipush (v := 64) hx hb d_Model_link_39 (by decide) ?_
          refine lv_sipush (v := 160) hx hb d_Model_link_41 (by decide) ?_
          refine hv_call (hv_runV (As := [.int 64, .int 160]) (rest := []) (c_Model_free C (lo := 64) (n := 96) hM (by decide) hRel.1.1 hRel.2.2.2.1) (hv_cw C hZ kc_Model_free kn_Model ⟨rfl, rfl, Nat.le_of_ble_eq_true rfl, Nat.le_of_ble_eq_true rfl⟩) hv_blind (hv_pre hZ hS hP) hx hml hb hown (hts _ k_Model_112) (hts _ ki_Model_free) (hts _ ksel_Model_Model_free) hy_Model_free (hts _ kc_Model_free) (va_recv hK (hv_one hP h1) (ci := 7) (q0 := 0) rfl rfl) rfl hl.1 rfl (lv_room (Nat.le_of_ble_eq_true rfl)) d_Model_link_44 ⟨Nat.le_of_ble_eq_true rfl, Nat.le_of_ble_eq_true rfl⟩) hZ hS (fun v9 w20 H locs q21 hP hS => ?_) (fun x9 w20 H locs q21 hP hS => q21.elim)
          obtain ⟨hv9, hw9⟩ := q21
          subst hv9
          rw [hw9] at hP
          show W _ _ _ _ _ _ _ _ _ _ _ _ _ _ _ (F0 m 47 ls [.int (m_fr σ.now σ.gone 64 96)])
          cases hfr : x_free σ.now σ.gone 64 96 with
          | none =>
            rw [m_fr_n hfr]
            show W _ _ _ _ _ _ _ _ _ _ _ _ _ _ _ (F0 m 47 ls [.int ((-1))])
            refine lv_istore (lv' := [(6, .int ((-1))), (5, .int ((-1))), (4, .int (nI ia)), (0, .ref (K 0)), (1, .int a), (2, .int b), (3, .int ty)]) hx hb d_Model_link_47 hl (by decide) rfl (fun ls hl => ?_)
            refine lv_aload_n hx hb d_Model_link_49 rfl (lv_at hl 3 rfl) ?_
            refine lv_iload hx hb d_Model_link_50 (lv_at hl 2 rfl) ?_
            refine gk_if_lt (x := ia) (tgt := 60) hx hb d_Model_link_52 (by decide) (by omega) ?_
            refine lv_iload hx hb d_Model_link_55 (lv_at hl 1 rfl) ?_
            refine lv_if_ge (tgt := 64) hx hb d_Model_link_57 (by decide) (fun c57 => ?_) (fun c57 => ?_)
            · exact absurd c57 (by decide)
            · refine lv_iconst (v := 1) hx hb d_Model_link_60 (by decide) ?_
              refine lv_goto (tgt := 65) hx hb d_Model_link_61 (by decide) ?_
              refine lv_iconst (v := 0) hx hb d_Model_link_65 (by decide) ?_
              refine lv_iconst (v := 0) hx hb d_Model_link_66 (by decide) ?_
              refine lv_iload hx hb d_Model_link_67 (lv_at hl 0 rfl) ?_
              refine lv_if_ge (tgt := 76) hx hb d_Model_link_69 (by decide) (fun c69 => ?_) (fun c69 => ?_)
              · exact absurd c69 (by decide)
              · refine lv_iconst (v := 1) hx hb d_Model_link_72 (by decide) ?_
                refine lv_goto (tgt := 77) hx hb d_Model_link_73 (by decide) ?_
                refine lv_iconst (v := 1) hx hb d_Model_link_77 (by decide) ?_
                refine hv_call (hv_runV (As := [.int 1, .int 0, .int 0, .int 1, .int 1]) (rest := []) (c_Model_fails C 1 0 0 1 1 hM (by show σ.ec + σ.sc ≤ 249; omega)) (hv_cw C hZ kc_Model_fails kn_Model ⟨rfl, rfl, Nat.le_of_ble_eq_true rfl, Nat.le_of_ble_eq_true rfl⟩) hv_blind (hv_pre hZ hS hP) hx hml hb hown (hts _ k_Model_116) (hts _ ki_Model_fails) (hts _ ksel_Model_Model_fails) hy_Model_fails (hts _ kc_Model_fails) (va_recv hK (hv_one hP h1) (ci := 7) (q0 := 0) rfl rfl) rfl hl.1 rfl (lv_room (Nat.le_of_ble_eq_true rfl)) d_Model_link_78 ⟨Nat.le_of_ble_eq_true rfl, Nat.le_of_ble_eq_true rfl⟩) hZ hS (fun v9 w22 H locs q23 hP hS => ?_) (fun x9 w22 H locs q23 hP hS => q23.elim)
                rcases q23 with ⟨ho9, hv9, hM⟩ | ⟨ho9, he9, hv9, hM⟩ | ⟨ho9, he9, hv9, hM⟩
                · exact absurd c4 ho9
                · exact absurd ((show m_fe (mAo t9 k9 p9 σ).earlier (mAo t9 k9 p9 σ).changes 1 0 0 1 1 = 8 by rw [m_fe, if_pos (by decide)]).symm.trans he9) (by decide)
                · rw [show m_fe (mAo t9 k9 p9 σ).earlier (mAo t9 k9 p9 σ).changes 1 0 0 1 1 = 8 by rw [m_fe, if_pos (by decide)]] at hM
                  subst hv9
                  show W _ _ _ _ _ _ _ _ _ _ _ _ _ _ _ (F0 m 81 ls [.int 1])
                  refine lv_if_eq (tgt := 86) hx hb d_Model_link_81 (by decide) (fun c81 => ?_) (fun c81 => ?_)
                  · exact absurd c81 (by decide)
                  · refine lv_iconst (v := 0) hx hb d_Model_link_84 (by decide) ?_
                    exact hv_iret (v := 0) hQ hx hb hr hZ hS hP hlocks d_Model_link_85 (mRet.of (r' := ((σ.sErr 8), 1, 0)) (by rw [x_link, cif_pos c4, cif_pos (Or.inr hfb)]) (fun z9 => absurd z9 (show ¬ (1 : Nat) = 0 by decide)) hM ((hRel.err 8).thr 1) rfl)
          | some i =>
            rw [show m_fr σ.now σ.gone 64 96 = nI (64 + i) by rw [m_fr_s hfr]]
            have hi : i < 96 := x_free_lt hfr
            show W _ _ _ _ _ _ _ _ _ _ _ _ _ _ _ (F0 m 47 ls [.int (nI (64 + i))])
            refine lv_istore (lv' := [(6, .int (nI (64 + i))), (5, .int ((-1))), (4, .int (nI ia)), (0, .ref (K 0)), (1, .int a), (2, .int b), (3, .int ty)]) hx hb d_Model_link_47 hl (by decide) rfl (fun ls hl => ?_)
            refine lv_aload_n hx hb d_Model_link_49 rfl (lv_at hl 3 rfl) ?_
            refine lv_iload hx hb d_Model_link_50 (lv_at hl 2 rfl) ?_
            refine gk_if_lt (x := ia) (tgt := 60) hx hb d_Model_link_52 (by decide) (by omega) ?_
            refine lv_iload hx hb d_Model_link_55 (lv_at hl 1 rfl) ?_
            refine lv_if_ge (tgt := 64) hx hb d_Model_link_57 (by decide) (fun c57 => ?_) (fun c57 => ?_)
            · exact absurd c57 (by decide)
            · refine lv_iconst (v := 1) hx hb d_Model_link_60 (by decide) ?_
              refine lv_goto (tgt := 65) hx hb d_Model_link_61 (by decide) ?_
              refine lv_iconst (v := 0) hx hb d_Model_link_65 (by decide) ?_
              refine lv_iconst (v := 0) hx hb d_Model_link_66 (by decide) ?_
              refine lv_iload hx hb d_Model_link_67 (lv_at hl 0 rfl) ?_
              refine gk_if_ge (x := 64 + i) (tgt := 76) hx hb d_Model_link_69 (by decide) (by omega) ?_
              refine lv_iconst (v := 0) hx hb d_Model_link_76 (by decide) ?_
              refine lv_iconst (v := 1) hx hb d_Model_link_77 (by decide) ?_
              refine hv_call (hv_runV (As := [.int 1, .int 0, .int 0, .int 0, .int 1]) (rest := []) (c_Model_fails C 1 0 0 0 1 hM (by show σ.ec + σ.sc ≤ 249; omega)) (hv_cw C hZ kc_Model_fails kn_Model ⟨rfl, rfl, Nat.le_of_ble_eq_true rfl, Nat.le_of_ble_eq_true rfl⟩) hv_blind (hv_pre hZ hS hP) hx hml hb hown (hts _ k_Model_116) (hts _ ki_Model_fails) (hts _ ksel_Model_Model_fails) hy_Model_fails (hts _ kc_Model_fails) (va_recv hK (hv_one hP h1) (ci := 7) (q0 := 0) rfl rfl) rfl hl.1 rfl (lv_room (Nat.le_of_ble_eq_true rfl)) d_Model_link_78 ⟨Nat.le_of_ble_eq_true rfl, Nat.le_of_ble_eq_true rfl⟩) hZ hS (fun v9 w24 H locs q25 hP hS => ?_) (fun x9 w24 H locs q25 hP hS => q25.elim)
              rcases q25 with ⟨ho9, hv9, hM⟩ | ⟨ho9, he9, hv9, hM⟩ | ⟨ho9, he9, hv9, hM⟩
              · exact absurd c4 ho9
              · exact absurd ((show m_fe (mAo t9 k9 p9 σ).earlier (mAo t9 k9 p9 σ).changes 1 0 0 0 1 = 8 by rw [m_fe, if_pos (by decide)]).symm.trans he9) (by decide)
              · rw [show m_fe (mAo t9 k9 p9 σ).earlier (mAo t9 k9 p9 σ).changes 1 0 0 0 1 = 8 by rw [m_fe, if_pos (by decide)]] at hM
                subst hv9
                show W _ _ _ _ _ _ _ _ _ _ _ _ _ _ _ (F0 m 81 ls [.int 1])
                refine lv_if_eq (tgt := 86) hx hb d_Model_link_81 (by decide) (fun c81 => ?_) (fun c81 => ?_)
                · exact absurd c81 (by decide)
                · refine lv_iconst (v := 0) hx hb d_Model_link_84 (by decide) ?_
                  exact hv_iret (v := 0) hQ hx hb hr hZ hS hP hlocks d_Model_link_85 (mRet.of (r' := ((σ.sErr 8), 1, 0)) (by rw [x_link, cif_pos c4, cif_pos (Or.inr hfb)]) (fun z9 => absurd z9 (show ¬ (1 : Nat) = 0 by decide)) hM ((hRel.err 8).thr 1) rfl)
        | some itb =>
          obtain ⟨ib, tb⟩ := itb
          rw [m_find2_s hfb]
          have hib : ib < 160 := x_find_lt hfb
          have htb : σ.now ib = some tb := (x_find_some hfb).1
          have hwb := hW.t hib htb
          show W _ _ _ _ _ _ _ _ _ _ _ _ _ _ _ (F0 m 36 ls [.int (nI ib)])
          refine lv_istore (lv' := [(5, .int (nI ib)), (4, .int (nI ia)), (0, .ref (K 0)), (1, .int a), (2, .int b), (3, .int ty)]) hx hb d_Model_link_36 hl (by decide) rfl (fun ls hl => ?_)
          refine lv_aload_n hx hb d_Model_link_38 rfl (lv_at hl 2 rfl) ?_
          refine lv_bipush (v := 64) hx hb d_Model_link_39 (by decide) ?_
          refine lv_sipush (v := 160) hx hb d_Model_link_41 (by decide) ?_
          refine hv_call (hv_runV (As := [.int 64, .int 160]) (rest := []) (c_Model_free C (lo := 64) (n := 96) hM (by decide) hRel.1.1 hRel.2.2.2.1) (hv_cw C hZ kc_Model_free kn_Model ⟨rfl, rfl, Nat.le_of_ble_eq_true rfl, Nat.le_of_ble_eq_true rfl⟩) hv_blind (hv_pre hZ hS hP) hx hml hb hown (hts _ k_Model_112) (hts _ ki_Model_free) (hts _ ksel_Model_Model_free) hy_Model_free (hts _ kc_Model_free) (va_recv hK (hv_one hP h1) (ci := 7) (q0 := 0) rfl rfl) rfl hl.1 rfl (lv_room (Nat.le_of_ble_eq_true rfl)) d_Model_link_44 ⟨Nat.le_of_ble_eq_true rfl, Nat.le_of_ble_eq_true rfl⟩) hZ hS (fun v9 w26 H locs q27 hP hS => ?_) (fun x9 w26 H locs q27 hP hS => q27.elim)
          obtain ⟨hv9, hw9⟩ := q27
          subst hv9
          rw [hw9] at hP
          show W _ _ _ _ _ _ _ _ _ _ _ _ _ _ _ (F0 m 47 ls [.int (m_fr σ.now σ.gone 64 96)])
          cases hfr : x_free σ.now σ.gone 64 96 with
          | none =>
            rw [m_fr_n hfr]
            show W _ _ _ _ _ _ _ _ _ _ _ _ _ _ _ (F0 m 47 ls [.int ((-1))])
            refine lv_istore (lv' := [(6, .int ((-1))), (5, .int (nI ib)), (4, .int (nI ia)), (0, .ref (K 0)), (1, .int a), (2, .int b), (3, .int ty)]) hx hb d_Model_link_47 hl (by decide) rfl (fun ls hl => ?_)
            refine lv_aload_n hx hb d_Model_link_49 rfl (lv_at hl 3 rfl) ?_
            refine lv_iload hx hb d_Model_link_50 (lv_at hl 2 rfl) ?_
            refine gk_if_lt (x := ia) (tgt := 60) hx hb d_Model_link_52 (by decide) (by omega) ?_
            refine lv_iload hx hb d_Model_link_55 (lv_at hl 1 rfl) ?_
            refine gk_if_ge (x := ib) (tgt := 64) hx hb d_Model_link_57 (by decide) (by omega) ?_
            refine lv_iconst (v := 0) hx hb d_Model_link_64 (by decide) ?_
            refine lv_iconst (v := 0) hx hb d_Model_link_65 (by decide) ?_
            refine lv_iconst (v := 0) hx hb d_Model_link_66 (by decide) ?_
            refine lv_iload hx hb d_Model_link_67 (lv_at hl 0 rfl) ?_
            refine lv_if_ge (tgt := 76) hx hb d_Model_link_69 (by decide) (fun c69 => ?_) (fun c69 => ?_)
            · exact absurd c69 (by decide)
            · refine lv_iconst (v := 1) hx hb d_Model_link_72 (by decide) ?_
              refine lv_goto (tgt := 77) hx hb d_Model_link_73 (by decide) ?_
              refine lv_iconst (v := 1) hx hb d_Model_link_77 (by decide) ?_
              refine hv_call (hv_runV (As := [.int 0, .int 0, .int 0, .int 1, .int 1]) (rest := []) (c_Model_fails C 0 0 0 1 1 hM (by show σ.ec + σ.sc ≤ 249; omega)) (hv_cw C hZ kc_Model_fails kn_Model ⟨rfl, rfl, Nat.le_of_ble_eq_true rfl, Nat.le_of_ble_eq_true rfl⟩) hv_blind (hv_pre hZ hS hP) hx hml hb hown (hts _ k_Model_116) (hts _ ki_Model_fails) (hts _ ksel_Model_Model_fails) hy_Model_fails (hts _ kc_Model_fails) (va_recv hK (hv_one hP h1) (ci := 7) (q0 := 0) rfl rfl) rfl hl.1 rfl (lv_room (Nat.le_of_ble_eq_true rfl)) d_Model_link_78 ⟨Nat.le_of_ble_eq_true rfl, Nat.le_of_ble_eq_true rfl⟩) hZ hS (fun v9 w28 H locs q29 hP hS => ?_) (fun x9 w28 H locs q29 hP hS => q29.elim)
              rcases q29 with ⟨ho9, hv9, hM⟩ | ⟨ho9, he9, hv9, hM⟩ | ⟨ho9, he9, hv9, hM⟩
              · exact absurd c4 ho9
              · exact absurd ((show m_fe (mAo t9 k9 p9 σ).earlier (mAo t9 k9 p9 σ).changes 0 0 0 1 1 = 6 by rw [m_fe, if_neg (by decide), if_neg (by decide), if_neg (by decide), if_pos (by decide)]).symm.trans he9) (by decide)
              · rw [show m_fe (mAo t9 k9 p9 σ).earlier (mAo t9 k9 p9 σ).changes 0 0 0 1 1 = 6 by rw [m_fe, if_neg (by decide), if_neg (by decide), if_neg (by decide), if_pos (by decide)]] at hM
                subst hv9
                show W _ _ _ _ _ _ _ _ _ _ _ _ _ _ _ (F0 m 81 ls [.int 1])
                refine lv_if_eq (tgt := 86) hx hb d_Model_link_81 (by decide) (fun c81 => ?_) (fun c81 => ?_)
                · exact absurd c81 (by decide)
                · refine lv_iconst (v := 0) hx hb d_Model_link_84 (by decide) ?_
                  exact hv_iret (v := 0) hQ hx hb hr hZ hS hP hlocks d_Model_link_85 (mRet.of (r' := ((σ.sErr 6), 1, 0)) (by rw [x_link, cif_pos c4, cif_neg (fun q => q.elim (fun z => by rw [hfa] at z; cases z) (fun z => by rw [hfb] at z; cases z)), hfr]) (fun z9 => absurd z9 (show ¬ (1 : Nat) = 0 by decide)) hM ((hRel.err 6).thr 1) rfl)
          | some i =>
            rw [show m_fr σ.now σ.gone 64 96 = nI (64 + i) by rw [m_fr_s hfr]]
            have hi : i < 96 := x_free_lt hfr
            show W _ _ _ _ _ _ _ _ _ _ _ _ _ _ _ (F0 m 47 ls [.int (nI (64 + i))])
            refine lv_istore (lv' := [(6, .int (nI (64 + i))), (5, .int (nI ib)), (4, .int (nI ia)), (0, .ref (K 0)), (1, .int a), (2, .int b), (3, .int ty)]) hx hb d_Model_link_47 hl (by decide) rfl (fun ls hl => ?_)
            refine lv_aload_n hx hb d_Model_link_49 rfl (lv_at hl 3 rfl) ?_
            refine lv_iload hx hb d_Model_link_50 (lv_at hl 2 rfl) ?_
            refine gk_if_lt (x := ia) (tgt := 60) hx hb d_Model_link_52 (by decide) (by omega) ?_
            refine lv_iload hx hb d_Model_link_55 (lv_at hl 1 rfl) ?_
            refine gk_if_ge (x := ib) (tgt := 64) hx hb d_Model_link_57 (by decide) (by omega) ?_
            refine lv_iconst (v := 0) hx hb d_Model_link_64 (by decide) ?_
            refine lv_iconst (v := 0) hx hb d_Model_link_65 (by decide) ?_
            refine lv_iconst (v := 0) hx hb d_Model_link_66 (by decide) ?_
            refine lv_iload hx hb d_Model_link_67 (lv_at hl 0 rfl) ?_
            refine gk_if_ge (x := 64 + i) (tgt := 76) hx hb d_Model_link_69 (by decide) (by omega) ?_
            refine lv_iconst (v := 0) hx hb d_Model_link_76 (by decide) ?_
            refine lv_iconst (v := 1) hx hb d_Model_link_77 (by decide) ?_
            refine hv_call (hv_runV (As := [.int 0, .int 0, .int 0, .int 0, .int 1]) (rest := []) (c_Model_fails C 0 0 0 0 1 hM (by show σ.ec + σ.sc ≤ 249; omega)) (hv_cw C hZ kc_Model_fails kn_Model ⟨rfl, rfl, Nat.le_of_ble_eq_true rfl, Nat.le_of_ble_eq_true rfl⟩) hv_blind (hv_pre hZ hS hP) hx hml hb hown (hts _ k_Model_116) (hts _ ki_Model_fails) (hts _ ksel_Model_Model_fails) hy_Model_fails (hts _ kc_Model_fails) (va_recv hK (hv_one hP h1) (ci := 7) (q0 := 0) rfl rfl) rfl hl.1 rfl (lv_room (Nat.le_of_ble_eq_true rfl)) d_Model_link_78 ⟨Nat.le_of_ble_eq_true rfl, Nat.le_of_ble_eq_true rfl⟩) hZ hS (fun v9 w30 H locs q31 hP hS => ?_) (fun x9 w30 H locs q31 hP hS => q31.elim)
            rcases q31 with ⟨ho9, hv9, hM⟩ | ⟨ho9, he9, hv9, hM⟩ | ⟨ho9, he9, hv9, hM⟩
            · exact absurd c4 ho9
            · have h249 : ¬ 249 ≤ σ.ec + σ.sc := fun z9 => by rw [m_fe, if_neg (by decide), if_neg (by decide), if_neg (by decide), if_neg (by decide), if_pos ⟨by decide, show σ.ec + σ.sc = 249 by omega⟩] at he9; exact absurd he9 (by decide)
              subst hv9
              show W _ _ _ _ _ _ _ _ _ _ _ _ _ _ _ (F0 m 81 ls [.int 0])
              refine lv_if_eq (tgt := 86) hx hb d_Model_link_81 (by decide) (fun c81 => ?_) (fun c81 => ?_)
              · refine lv_aload_n hx hb d_Model_link_86 rfl (lv_at hl 3 rfl) ?_
                have h32 : w30 (K 0) = some (.inr (7, [.int 0, .ref (K 1), .ref (K 2), .ref (K 3), .ref (K 4), .ref (K 5), .ref (K 6), .ref (K 7), .ref (K 8), .ref (K 9), .ref (K 10), .ref (K 11), .ref (K 12), .int (nI (σ.tape.length)), .ref (K 13), .int (σ.err), .int (σ.off), .int (σ.ins), .int (nI (σ.sc)), .int (nI (σ.ec)), .int (nI (σ.en)), .int (σ.tr), .int (nI (σ.lo)), .int (σ.wr), .int (nI (σ.due))])) := hM.1.2 0 (by decide)
                refine hv_call (hv_runV (As := []) (rest := []) (c_Model_begins C hM (hRel.thr 0) hW c4) (hv_cw C hZ kc_Model_begins kn_Model ⟨rfl, rfl, Nat.le_of_ble_eq_true rfl, Nat.le_of_ble_eq_true rfl⟩) hv_blind (hv_pre hZ hS hP) hx hml hb hown (hts _ k_Model_120) (hts _ ki_Model_begins) (hts _ ksel_Model_Model_begins) hy_Model_begins (hts _ kc_Model_begins) (va_recv hK (hv_one hP h32) (ci := 7) (q0 := 0) rfl rfl) rfl hl.1 rfl (lv_room (Nat.le_of_ble_eq_true rfl)) d_Model_link_87 ⟨Nat.le_of_ble_eq_true rfl, Nat.le_of_ble_eq_true rfl⟩) hZ hS (fun v9 w33 H locs q34 hP hS => ?_) (fun x9 w33 H locs q34 hP hS => q34.elim)
                obtain ⟨hv9, B2, hM, hRel2⟩ := q34
                subst hv9
                have hM : mK ca K w0 (((mAo t9 k9 p9 σ).sThrown 0).sChanges (σ.sc + 1)) B2 w33 := hM
                have hRel2 : mRel (((mAo t9 k9 p9 σ).sThrown 0).sChanges (σ.sc + 1)) B2 (σ.sSc (σ.sc + 1)) := hRel2
                show W _ _ _ _ _ _ _ _ _ _ _ _ _ _ _ (F0 m 90 ls [])
                refine lv_aload_n hx hb d_Model_link_90 rfl (lv_at hl 3 rfl) ?_
                have h35 : w33 (K 0) = some (.inr (7, [.int 0, .ref (K 1), .ref (K 2), .ref (K 3), .ref (K 4), .ref (K 5), .ref (K 6), .ref (K 7), .ref (K 8), .ref (K 9), .ref (K 10), .ref (K 11), .ref (K 12), .int (nI (σ.tape.length)), .ref (K 13), .int (σ.err), .int (σ.off), .int (σ.ins), .int (nI (σ.sc + 1)), .int (nI (σ.ec)), .int (nI (σ.en)), .int (σ.tr), .int (nI (σ.lo)), .int (σ.wr), .int (nI (σ.due))])) := hM.1.2 0 (by decide)
                refine va_get (D := D) (ci := 7) (v := .ref (K 1)) (C := R_Model) (T := F_Model) (N := 25) hx hb hts i_Model hown hK (hv_one hP h35) 0 rfl rfl 1 (by decide) (hts _ k_Model_7) (fun _ h9 => h9) rfl d_Model_link_91 ?_
                refine lv_iload hx hb d_Model_link_94 (lv_at hl 0 rfl) ?_
                refine lv_iconst (v := 1) hx hb d_Model_link_96 (by decide) ?_
                have h36 : w33 (K 1) = some (.inl (ca 2, 640, .inl B2.there)) := hM.1.2 1 (by decide)
                refine hv_zast hx hb hK hP hS 2 h36 rfl (vp_in_nI (n := 64 + i) (by omega) (by omega)) d_Model_link_97 (fun H locs hP hS => ?_)
                rw [nI_clamp (n := 64 + i) (by omega)] at hP
                obtain ⟨w37, ew37⟩ : ∃ z9 : hv_W, z9 = va_up w33 (K 1) (some (.inl (ca 2, 640, .inl (upd B2.there (64 + i) (vp_nar .boolean 1))))) := ⟨_, rfl⟩
                have hP : hv_P D classes s0.heap.size w37 H := by rw [ew37]; exact hP
                have hM : mK ca K w0 (((mAo t9 k9 p9 σ).sThrown 0).sChanges (σ.sc + 1)) (B2.sThere (upd B2.there (64 + i) (vp_nar .boolean 1))) w37 := by rw [ew37]; exact hM.put 1 (by decide) rfl
                have h38 : w37 (K 1) = some (.inl (ca 2, 640, .inl (upd B2.there (64 + i) (vp_nar .boolean 1)))) := by rw [ew37]; exact hv_up_s
                refine lv_aload_n hx hb d_Model_link_98 rfl (lv_at hl 3 rfl) ?_
                have h39 : w37 (K 0) = some (.inr (7, [.int 0, .ref (K 1), .ref (K 2), .ref (K 3), .ref (K 4), .ref (K 5), .ref (K 6), .ref (K 7), .ref (K 8), .ref (K 9), .ref (K 10), .ref (K 11), .ref (K 12), .int (nI (σ.tape.length)), .ref (K 13), .int (σ.err), .int (σ.off), .int (σ.ins), .int (nI (σ.sc + 1)), .int (nI (σ.ec)), .int (nI (σ.en)), .int (σ.tr), .int (nI (σ.lo)), .int (σ.wr), .int (nI (σ.due))])) := hM.1.2 0 (by decide)
                refine va_get (D := D) (ci := 7) (v := .ref (K 2)) (C := R_Model) (T := F_Model) (N := 25) hx hb hts i_Model hown hK (hv_one hP h39) 0 rfl rfl 2 (by decide) (hts _ k_Model_13) (fun _ h9 => h9) rfl d_Model_link_99 ?_
                refine lv_iload hx hb d_Model_link_102 (lv_at hl 0 rfl) ?_
                refine lv_iload_n hx hb d_Model_link_104 rfl (lv_at hl 4 rfl) ?_
                have h40 : w37 (K 2) = some (.inl (ca 0, 640, .inl B2.starts)) := hM.1.2 2 (by decide)
                refine hv_iast hx hb hK hP hS 0 h40 rfl (vp_in_nI (n := 64 + i) (by omega) (by omega)) d_Model_link_105 (fun H locs hP hS => ?_)
                rw [nI_clamp (n := 64 + i) (by omega)] at hP
                obtain ⟨w41, ew41⟩ : ∃ z9 : hv_W, z9 = va_up w37 (K 2) (some (.inl (ca 0, 640, .inl (upd B2.starts (64 + i) a)))) := ⟨_, rfl⟩
                have hP : hv_P D classes s0.heap.size w41 H := by rw [ew41]; exact hP
                have hM : mK ca K w0 (((mAo t9 k9 p9 σ).sThrown 0).sChanges (σ.sc + 1)) ((B2.sThere (upd B2.there (64 + i) (vp_nar .boolean 1))).sStarts (upd B2.starts (64 + i) a)) w41 := by rw [ew41]; exact hM.put 2 (by decide) rfl
                have h42 : w41 (K 2) = some (.inl (ca 0, 640, .inl (upd B2.starts (64 + i) a))) := by rw [ew41]; exact hv_up_s
                refine lv_aload_n hx hb d_Model_link_106 rfl (lv_at hl 3 rfl) ?_
                have h43 : w41 (K 0) = some (.inr (7, [.int 0, .ref (K 1), .ref (K 2), .ref (K 3), .ref (K 4), .ref (K 5), .ref (K 6), .ref (K 7), .ref (K 8), .ref (K 9), .ref (K 10), .ref (K 11), .ref (K 12), .int (nI (σ.tape.length)), .ref (K 13), .int (σ.err), .int (σ.off), .int (σ.ins), .int (nI (σ.sc + 1)), .int (nI (σ.ec)), .int (nI (σ.en)), .int (σ.tr), .int (nI (σ.lo)), .int (σ.wr), .int (nI (σ.due))])) := hM.1.2 0 (by decide)
                refine va_get (D := D) (ci := 7) (v := .ref (K 3)) (C := R_Model) (T := F_Model) (N := 25) hx hb hts i_Model hown hK (hv_one hP h43) 0 rfl rfl 3 (by decide) (hts _ k_Model_17) (fun _ h9 => h9) rfl d_Model_link_107 ?_
                refine lv_iload hx hb d_Model_link_110 (lv_at hl 0 rfl) ?_
                refine lv_iload_n hx hb d_Model_link_112 rfl (lv_at hl 5 rfl) ?_
                have h44 : w41 (K 3) = some (.inl (ca 0, 640, .inl B2.ends)) := hM.1.2 3 (by decide)
                refine hv_iast hx hb hK hP hS 0 h44 rfl (vp_in_nI (n := 64 + i) (by omega) (by omega)) d_Model_link_113 (fun H locs hP hS => ?_)
                rw [nI_clamp (n := 64 + i) (by omega)] at hP
                obtain ⟨w45, ew45⟩ : ∃ z9 : hv_W, z9 = va_up w41 (K 3) (some (.inl (ca 0, 640, .inl (upd B2.ends (64 + i) b)))) := ⟨_, rfl⟩
                have hP : hv_P D classes s0.heap.size w45 H := by rw [ew45]; exact hP
                have hM : mK ca K w0 (((mAo t9 k9 p9 σ).sThrown 0).sChanges (σ.sc + 1)) (((B2.sThere (upd B2.there (64 + i) (vp_nar .boolean 1))).sStarts (upd B2.starts (64 + i) a)).sEnds (upd B2.ends (64 + i) b)) w45 := by rw [ew45]; exact hM.put 3 (by decide) rfl
                have h46 : w45 (K 3) = some (.inl (ca 0, 640, .inl (upd B2.ends (64 + i) b))) := by rw [ew45]; exact hv_up_s
                refine lv_aload_n hx hb d_Model_link_114 rfl (lv_at hl 3 rfl) ?_
                have h47 : w45 (K 0) = some (.inr (7, [.int 0, .ref (K 1), .ref (K 2), .ref (K 3), .ref (K 4), .ref (K 5), .ref (K 6), .ref (K 7), .ref (K 8), .ref (K 9), .ref (K 10), .ref (K 11), .ref (K 12), .int (nI (σ.tape.length)), .ref (K 13), .int (σ.err), .int (σ.off), .int (σ.ins), .int (nI (σ.sc + 1)), .int (nI (σ.ec)), .int (nI (σ.en)), .int (σ.tr), .int (nI (σ.lo)), .int (σ.wr), .int (nI (σ.due))])) := hM.1.2 0 (by decide)
                refine va_get (D := D) (ci := 7) (v := .ref (K 4)) (C := R_Model) (T := F_Model) (N := 25) hx hb hts i_Model hown hK (hv_one hP h47) 0 rfl rfl 4 (by decide) (hts _ k_Model_20) (fun _ h9 => h9) rfl d_Model_link_115 ?_
                refine lv_iload hx hb d_Model_link_118 (lv_at hl 0 rfl) ?_
                refine lv_iload_n hx hb d_Model_link_120 rfl (lv_at hl 6 rfl) ?_
                have h48 : w45 (K 4) = some (.inl (ca 0, 640, .inl B2.types)) := hM.1.2 4 (by decide)
                refine hv_iast hx hb hK hP hS 0 h48 rfl (vp_in_nI (n := 64 + i) (by omega) (by omega)) d_Model_link_121 (fun H locs hP hS => ?_)
                rw [nI_clamp (n := 64 + i) (by omega)] at hP
                obtain ⟨w49, ew49⟩ : ∃ z9 : hv_W, z9 = va_up w45 (K 4) (some (.inl (ca 0, 640, .inl (upd B2.types (64 + i) ty)))) := ⟨_, rfl⟩
                have hP : hv_P D classes s0.heap.size w49 H := by rw [ew49]; exact hP
                have hM : mK ca K w0 (((mAo t9 k9 p9 σ).sThrown 0).sChanges (σ.sc + 1)) ((((B2.sThere (upd B2.there (64 + i) (vp_nar .boolean 1))).sStarts (upd B2.starts (64 + i) a)).sEnds (upd B2.ends (64 + i) b)).sTypes (upd B2.types (64 + i) ty)) w49 := by rw [ew49]; exact hM.put 4 (by decide) rfl
                have h50 : w49 (K 4) = some (.inl (ca 0, 640, .inl (upd B2.types (64 + i) ty))) := by rw [ew49]; exact hv_up_s
                refine lv_aload_n hx hb d_Model_link_122 rfl (lv_at hl 3 rfl) ?_
                have h51 : w49 (K 0) = some (.inr (7, [.int 0, .ref (K 1), .ref (K 2), .ref (K 3), .ref (K 4), .ref (K 5), .ref (K 6), .ref (K 7), .ref (K 8), .ref (K 9), .ref (K 10), .ref (K 11), .ref (K 12), .int (nI (σ.tape.length)), .ref (K 13), .int (σ.err), .int (σ.off), .int (σ.ins), .int (nI (σ.sc + 1)), .int (nI (σ.ec)), .int (nI (σ.en)), .int (σ.tr), .int (nI (σ.lo)), .int (σ.wr), .int (nI (σ.due))])) := hM.1.2 0 (by decide)
                refine va_get (D := D) (ci := 7) (v := .ref (K 5)) (C := R_Model) (T := F_Model) (N := 25) hx hb hts i_Model hown hK (hv_one hP h51) 0 rfl rfl 5 (by decide) (hts _ k_Model_23) (fun _ h9 => h9) rfl d_Model_link_123 ?_
                refine lv_iload hx hb d_Model_link_126 (lv_at hl 0 rfl) ?_
                refine lv_iconst (v := 0) hx hb d_Model_link_128 (by decide) ?_
                have h52 : w49 (K 5) = some (.inl (ca 0, 640, .inl B2.labelMany)) := hM.1.2 5 (by decide)
                refine hv_iast hx hb hK hP hS 0 h52 rfl (vp_in_nI (n := 64 + i) (by omega) (by omega)) d_Model_link_129 (fun H locs hP hS => ?_)
                rw [nI_clamp (n := 64 + i) (by omega)] at hP
                obtain ⟨w53, ew53⟩ : ∃ z9 : hv_W, z9 = va_up w49 (K 5) (some (.inl (ca 0, 640, .inl (upd B2.labelMany (64 + i) 0)))) := ⟨_, rfl⟩
                have hP : hv_P D classes s0.heap.size w53 H := by rw [ew53]; exact hP
                have hM : mK ca K w0 (((mAo t9 k9 p9 σ).sThrown 0).sChanges (σ.sc + 1)) (((((B2.sThere (upd B2.there (64 + i) (vp_nar .boolean 1))).sStarts (upd B2.starts (64 + i) a)).sEnds (upd B2.ends (64 + i) b)).sTypes (upd B2.types (64 + i) ty)).sLabelMany (upd B2.labelMany (64 + i) 0)) w53 := by rw [ew53]; exact hM.put 5 (by decide) rfl
                have h54 : w53 (K 5) = some (.inl (ca 0, 640, .inl (upd B2.labelMany (64 + i) 0))) := by rw [ew53]; exact hv_up_s
                refine lv_aload_n hx hb d_Model_link_130 rfl (lv_at hl 3 rfl) ?_
                have h55 : w53 (K 0) = some (.inr (7, [.int 0, .ref (K 1), .ref (K 2), .ref (K 3), .ref (K 4), .ref (K 5), .ref (K 6), .ref (K 7), .ref (K 8), .ref (K 9), .ref (K 10), .ref (K 11), .ref (K 12), .int (nI (σ.tape.length)), .ref (K 13), .int (σ.err), .int (σ.off), .int (σ.ins), .int (nI (σ.sc + 1)), .int (nI (σ.ec)), .int (nI (σ.en)), .int (σ.tr), .int (nI (σ.lo)), .int (σ.wr), .int (nI (σ.due))])) := hM.1.2 0 (by decide)
                refine va_get (D := D) (ci := 7) (v := .ref (K 7)) (C := R_Model) (T := F_Model) (N := 25) hx hb hts i_Model hown hK (hv_one hP h55) 0 rfl rfl 7 (by decide) (hts _ k_Model_29) (fun _ h9 => h9) rfl d_Model_link_131 ?_
                refine lv_iload hx hb d_Model_link_134 (lv_at hl 0 rfl) ?_
                refine lv_iconst (v := 0) hx hb d_Model_link_136 (by decide) ?_
                have h56 : w53 (K 7) = some (.inl (ca 0, 640, .inl B2.propertyMany)) := hM.1.2 7 (by decide)
                refine hv_iast hx hb hK hP hS 0 h56 rfl (vp_in_nI (n := 64 + i) (by omega) (by omega)) d_Model_link_137 (fun H locs hP hS => ?_)
                rw [nI_clamp (n := 64 + i) (by omega)] at hP
                obtain ⟨w57, ew57⟩ : ∃ z9 : hv_W, z9 = va_up w53 (K 7) (some (.inl (ca 0, 640, .inl (upd B2.propertyMany (64 + i) 0)))) := ⟨_, rfl⟩
                have hP : hv_P D classes s0.heap.size w57 H := by rw [ew57]; exact hP
                have hM : mK ca K w0 (((mAo t9 k9 p9 σ).sThrown 0).sChanges (σ.sc + 1)) ((((((B2.sThere (upd B2.there (64 + i) (vp_nar .boolean 1))).sStarts (upd B2.starts (64 + i) a)).sEnds (upd B2.ends (64 + i) b)).sTypes (upd B2.types (64 + i) ty)).sLabelMany (upd B2.labelMany (64 + i) 0)).sPropertyMany (upd B2.propertyMany (64 + i) 0)) w57 := by rw [ew57]; exact hM.put 7 (by decide) rfl
                have h58 : w57 (K 7) = some (.inl (ca 0, 640, .inl (upd B2.propertyMany (64 + i) 0))) := by rw [ew57]; exact hv_up_s
                refine lv_iload hx hb d_Model_link_138 (lv_at hl 0 rfl) ?_
                refine lv_bipush (v := 64) hx hb d_Model_link_140 (by decide) ?_
                refine gk_isub (x := 64 + i) (y := 64) hx hb d_Model_link_142 (by omega) ?_
                refine lv_topi (fun v9 e9 => ?_)
                have e9 : v9 = nI i := e9.trans (by rw [show 64 + i - 64 = i by omega])
                subst e9
                show W _ _ _ _ _ _ _ _ _ _ _ _ _ _ _ (F0 m 143 ls [.int (nI i)])
                exact hv_iret (v := nI i) hQ hx hb hr hZ hS hP hlocks d_Model_link_143 (mRet.of (r' := ((x_one σ (64 + i) (some ([], a, b, ty, []))), 0, (nI i))) (by rw [x_link, cif_pos c4, cif_neg (fun q => q.elim (fun z => by rw [hfa] at z; cases z) (fun z => by rw [hfb] at z; cases z)), hfr]; dsimp only; rw [cif_neg h249]) (fun _ => rfl) hM (hRel2.set hW.1 (by omega) (fun j hj => ⟨⟨pk_un hj, pk_un hj, pk_un hj, pk_un hj, pk_un hj, pk_un hj⟩, fun _ _ => rfl, fun _ _ => ⟨rfl, rfl, rfl⟩, fun _ _ => rfl⟩) (mT_new (B := B2) (pk_us.trans g_bn1) pk_us rfl (fun z => absurd z (by omega)) (fun _ => ⟨pk_us, pk_us, pk_us⟩)) (Or.inr (pk_us.trans g_bn1))) rfl)
              · exact absurd c81 (by decide)
            · have h249 : 249 ≤ σ.ec + σ.sc := Classical.byContradiction fun z9 => he9 (by rw [m_fe, if_neg (by decide), if_neg (by decide), if_neg (by decide), if_neg (by decide), if_neg (fun z8 => z9 (by have h8 : σ.ec + σ.sc = 249 := z8.2; omega))])
              rw [show m_fe (mAo t9 k9 p9 σ).earlier (mAo t9 k9 p9 σ).changes 0 0 0 0 1 = 9 by rw [m_fe, if_neg (by decide), if_neg (by decide), if_neg (by decide), if_neg (by decide), if_pos ⟨by decide, show σ.ec + σ.sc = 249 by omega⟩]] at hM
              subst hv9
              show W _ _ _ _ _ _ _ _ _ _ _ _ _ _ _ (F0 m 81 ls [.int 1])
              refine lv_if_eq (tgt := 86) hx hb d_Model_link_81 (by decide) (fun c81 => ?_) (fun c81 => ?_)
              · exact absurd c81 (by decide)
              · refine lv_iconst (v := 0) hx hb d_Model_link_84 (by decide) ?_
                exact hv_iret (v := 0) hQ hx hb hr hZ hS hP hlocks d_Model_link_85 (mRet.of (r' := ((σ.sErr 9), 1, 0)) (by rw [x_link, cif_pos c4, cif_neg (fun q => q.elim (fun z => by rw [hfa] at z; cases z) (fun z => by rw [hfb] at z; cases z)), hfr]; dsimp only; rw [cif_pos h249]) (fun z9 => absurd z9 (show ¬ (1 : Nat) = 0 by decide)) hM ((hRel.err 9).thr 1) rfl)
      · exact absurd c4 c23
  · refine lv_iconst (v := (-1)) hx hb d_Model_link_7 (by decide) ?_
    refine lv_goto (tgt := 17) hx hb d_Model_link_8 (by decide) ?_
    refine lv_istore (lv' := [(4, .int ((-1))), (0, .ref (K 0)), (1, .int a), (2, .int b), (3, .int ty)]) hx hb d_Model_link_17 hl (by decide) rfl (fun ls hl => ?_)
    refine lv_aload_n hx hb d_Model_link_19 rfl (lv_at hl 1 rfl) ?_
    refine va_get (D := D) (ci := 7) (v := .int (σ.off)) (C := R_Model) (T := F_Model) (N := 25) hx hb hts i_Model hown hK (hv_one hP h1) 0 rfl rfl 16 (by decide) (hts _ k_Model_62) (fun _ h9 => h9) rfl d_Model_link_20 ?_
    refine lv_if_eq (tgt := 30) hx hb d_Model_link_23 (by decide) (fun c23 => ?_) (fun c23 => ?_)
    · exact absurd c23 c4
    · refine lv_iconst (v := (-1)) hx hb d_Model_link_26 (by decide) ?_
      refine lv_goto (tgt := 36) hx hb d_Model_link_27 (by decide) ?_
      refine lv_istore (lv' := [(5, .int ((-1))), (4, .int ((-1))), (0, .ref (K 0)), (1, .int a), (2, .int b), (3, .int ty)]) hx hb d_Model_link_36 hl (by decide) rfl (fun ls hl => ?_)
      refine lv_aload_n hx hb d_Model_link_38 rfl (lv_at hl 2 rfl) ?_
      refine lv_bipush (v := 64) hx hb d_Model_link_39 (by decide) ?_
      refine lv_sipush (v := 160) hx hb d_Model_link_41 (by decide) ?_
      refine hv_call (hv_runV (As := [.int 64, .int 160]) (rest := []) (c_Model_free C (lo := 64) (n := 96) hM (by decide) hRel.1.1 hRel.2.2.2.1) (hv_cw C hZ kc_Model_free kn_Model ⟨rfl, rfl, Nat.le_of_ble_eq_true rfl, Nat.le_of_ble_eq_true rfl⟩) hv_blind (hv_pre hZ hS hP) hx hml hb hown (hts _ k_Model_112) (hts _ ki_Model_free) (hts _ ksel_Model_Model_free) hy_Model_free (hts _ kc_Model_free) (va_recv hK (hv_one hP h1) (ci := 7) (q0 := 0) rfl rfl) rfl hl.1 rfl (lv_room (Nat.le_of_ble_eq_true rfl)) d_Model_link_44 ⟨Nat.le_of_ble_eq_true rfl, Nat.le_of_ble_eq_true rfl⟩) hZ hS (fun v9 w59 H locs q60 hP hS => ?_) (fun x9 w59 H locs q60 hP hS => q60.elim)
      obtain ⟨hv9, hw9⟩ := q60
      subst hv9
      rw [hw9] at hP
      show W _ _ _ _ _ _ _ _ _ _ _ _ _ _ _ (F0 m 47 ls [.int (m_fr σ.now σ.gone 64 96)])
      cases hfr : x_free σ.now σ.gone 64 96 with
      | none =>
        rw [m_fr_n hfr]
        show W _ _ _ _ _ _ _ _ _ _ _ _ _ _ _ (F0 m 47 ls [.int ((-1))])
        refine lv_istore (lv' := [(6, .int ((-1))), (5, .int ((-1))), (4, .int ((-1))), (0, .ref (K 0)), (1, .int a), (2, .int b), (3, .int ty)]) hx hb d_Model_link_47 hl (by decide) rfl (fun ls hl => ?_)
        refine lv_aload_n hx hb d_Model_link_49 rfl (lv_at hl 3 rfl) ?_
        refine lv_iload hx hb d_Model_link_50 (lv_at hl 2 rfl) ?_
        refine lv_if_lt (tgt := 60) hx hb d_Model_link_52 (by decide) (fun c52 => ?_) (fun c52 => ?_)
        · refine lv_iconst (v := 1) hx hb d_Model_link_60 (by decide) ?_
          refine lv_goto (tgt := 65) hx hb d_Model_link_61 (by decide) ?_
          refine lv_iconst (v := 0) hx hb d_Model_link_65 (by decide) ?_
          refine lv_iconst (v := 0) hx hb d_Model_link_66 (by decide) ?_
          refine lv_iload hx hb d_Model_link_67 (lv_at hl 0 rfl) ?_
          refine lv_if_ge (tgt := 76) hx hb d_Model_link_69 (by decide) (fun c69 => ?_) (fun c69 => ?_)
          · exact absurd c69 (by decide)
          · refine lv_iconst (v := 1) hx hb d_Model_link_72 (by decide) ?_
            refine lv_goto (tgt := 77) hx hb d_Model_link_73 (by decide) ?_
            refine lv_iconst (v := 1) hx hb d_Model_link_77 (by decide) ?_
            refine hv_call (hv_runV (As := [.int 1, .int 0, .int 0, .int 1, .int 1]) (rest := []) (c_Model_fails C 1 0 0 1 1 hM (by show σ.ec + σ.sc ≤ 249; omega)) (hv_cw C hZ kc_Model_fails kn_Model ⟨rfl, rfl, Nat.le_of_ble_eq_true rfl, Nat.le_of_ble_eq_true rfl⟩) hv_blind (hv_pre hZ hS hP) hx hml hb hown (hts _ k_Model_116) (hts _ ki_Model_fails) (hts _ ksel_Model_Model_fails) hy_Model_fails (hts _ kc_Model_fails) (va_recv hK (hv_one hP h1) (ci := 7) (q0 := 0) rfl rfl) rfl hl.1 rfl (lv_room (Nat.le_of_ble_eq_true rfl)) d_Model_link_78 ⟨Nat.le_of_ble_eq_true rfl, Nat.le_of_ble_eq_true rfl⟩) hZ hS (fun v9 w61 H locs q62 hP hS => ?_) (fun x9 w61 H locs q62 hP hS => q62.elim)
            rcases q62 with ⟨ho9, hv9, hM⟩ | ⟨ho9, he9, hv9, hM⟩ | ⟨ho9, he9, hv9, hM⟩
            · subst hv9
              show W _ _ _ _ _ _ _ _ _ _ _ _ _ _ _ (F0 m 81 ls [.int 1])
              refine lv_if_eq (tgt := 86) hx hb d_Model_link_81 (by decide) (fun c81 => ?_) (fun c81 => ?_)
              · exact absurd c81 (by decide)
              · refine lv_iconst (v := 0) hx hb d_Model_link_84 (by decide) ?_
                exact hv_iret (v := 0) hQ hx hb hr hZ hS hP hlocks d_Model_link_85 (mRet.of (r' := (σ, 2, 0)) (by rw [x_link, cif_neg c4]) (fun z9 => absurd z9 (show ¬ (2 : Nat) = 0 by decide)) hM (hRel.thr 2) rfl)
            · exact absurd ho9 c4
            · exact absurd ho9 c4
        · exact absurd c52 (by decide)
      | some i =>
        rw [show m_fr σ.now σ.gone 64 96 = nI (64 + i) by rw [m_fr_s hfr]]
        have hi : i < 96 := x_free_lt hfr
        show W _ _ _ _ _ _ _ _ _ _ _ _ _ _ _ (F0 m 47 ls [.int (nI (64 + i))])
        refine lv_istore (lv' := [(6, .int (nI (64 + i))), (5, .int ((-1))), (4, .int ((-1))), (0, .ref (K 0)), (1, .int a), (2, .int b), (3, .int ty)]) hx hb d_Model_link_47 hl (by decide) rfl (fun ls hl => ?_)
        refine lv_aload_n hx hb d_Model_link_49 rfl (lv_at hl 3 rfl) ?_
        refine lv_iload hx hb d_Model_link_50 (lv_at hl 2 rfl) ?_
        refine lv_if_lt (tgt := 60) hx hb d_Model_link_52 (by decide) (fun c52 => ?_) (fun c52 => ?_)
        · refine lv_iconst (v := 1) hx hb d_Model_link_60 (by decide) ?_
          refine lv_goto (tgt := 65) hx hb d_Model_link_61 (by decide) ?_
          refine lv_iconst (v := 0) hx hb d_Model_link_65 (by decide) ?_
          refine lv_iconst (v := 0) hx hb d_Model_link_66 (by decide) ?_
          refine lv_iload hx hb d_Model_link_67 (lv_at hl 0 rfl) ?_
          refine gk_if_ge (x := 64 + i) (tgt := 76) hx hb d_Model_link_69 (by decide) (by omega) ?_
          refine lv_iconst (v := 0) hx hb d_Model_link_76 (by decide) ?_
          refine lv_iconst (v := 1) hx hb d_Model_link_77 (by decide) ?_
          refine hv_call (hv_runV (As := [.int 1, .int 0, .int 0, .int 0, .int 1]) (rest := []) (c_Model_fails C 1 0 0 0 1 hM (by show σ.ec + σ.sc ≤ 249; omega)) (hv_cw C hZ kc_Model_fails kn_Model ⟨rfl, rfl, Nat.le_of_ble_eq_true rfl, Nat.le_of_ble_eq_true rfl⟩) hv_blind (hv_pre hZ hS hP) hx hml hb hown (hts _ k_Model_116) (hts _ ki_Model_fails) (hts _ ksel_Model_Model_fails) hy_Model_fails (hts _ kc_Model_fails) (va_recv hK (hv_one hP h1) (ci := 7) (q0 := 0) rfl rfl) rfl hl.1 rfl (lv_room (Nat.le_of_ble_eq_true rfl)) d_Model_link_78 ⟨Nat.le_of_ble_eq_true rfl, Nat.le_of_ble_eq_true rfl⟩) hZ hS (fun v9 w63 H locs q64 hP hS => ?_) (fun x9 w63 H locs q64 hP hS => q64.elim)
          rcases q64 with ⟨ho9, hv9, hM⟩ | ⟨ho9, he9, hv9, hM⟩ | ⟨ho9, he9, hv9, hM⟩
          · subst hv9
            show W _ _ _ _ _ _ _ _ _ _ _ _ _ _ _ (F0 m 81 ls [.int 1])
            refine lv_if_eq (tgt := 86) hx hb d_Model_link_81 (by decide) (fun c81 => ?_) (fun c81 => ?_)
            · exact absurd c81 (by decide)
            · refine lv_iconst (v := 0) hx hb d_Model_link_84 (by decide) ?_
              exact hv_iret (v := 0) hQ hx hb hr hZ hS hP hlocks d_Model_link_85 (mRet.of (r' := (σ, 2, 0)) (by rw [x_link, cif_neg c4]) (fun z9 => absurd z9 (show ¬ (2 : Nat) = 0 by decide)) hM (hRel.thr 2) rfl)
          · exact absurd ho9 c4
          · exact absurd ho9 c4
        · exact absurd c52 (by decide)

abbrev rm_Model_take : Room := { frames := 3, cells := 0, slots := 0, locals := 66 }
set_option maxHeartbeats 4000000 in
set_option maxRecDepth 100000 in
theorem c_Model_take {l : Launch} {s0 : State} {D : va_G} {ca : Nat → ClassId} (C : hv_C l s0 D (hv_tys ca)) {w : hv_W} {K : Nat → Nat} {w0 : hv_W} {A : mA} {B : mB} {σ : gS} (k n : Int32) (hM : mK ca K w0 A B w) (hRel : mRel A B σ) (hW : gW σ)  :
    hv_Met l y_Model_take [.code y_Model_take b_Model_take 5 none] rm_Model_take (hv_Pc s0 D w [.ref (K 0), .int k, .int n]) (hv_Q s0 D (fun v w' => v = none ∧ mS ca K w0 (nI (x_take σ k n).2.1) (x_take σ k n).1 w') (fun _ _ => False)) 0 0 (hv_A s0.heap.size) := by
  refine hv_enter C _ (by decide) (Nat.le_of_ble_eq_true rfl) ?_
  intro p e s m below meth c ls Q hQ hx hb hr hml hown hts hK hZ hlocks hname hout htr hP hl
  have hown : s.vm.findClass R_Model = some m.cls := hown
  have hS : va_S (hv_A s0.heap.size) s.heap s.heap [] := va_S.rf
  have hl : lv_has ls 5 [(0, .ref (K 0)), (1, .int k), (2, .int n)] := hl
  obtain ⟨t9, k9, p9, hA9⟩ := mAo_of hRel
  subst hA9
  have hb9 := hW.hb
  have htp9 := hW.tape
  have hdu9 : σ.due ≤ 2000 := hW.2.2.1.2.2.2
  have hen9 : σ.en ≤ 250 := hW.2.2.1.2.1
  have hlo9 : σ.lo ≤ 250 := hW.2.2.1.2.2.1
  refine lv_aload_n hx hb d_Model_take_0 rfl (lv_at hl 0 rfl) ?_
  have h1 : w (K 0) = some (.inr (7, [.int t9, .ref (K 1), .ref (K 2), .ref (K 3), .ref (K 4), .ref (K 5), .ref (K 6), .ref (K 7), .ref (K 8), .ref (K 9), .ref (K 10), .ref (K 11), .ref (K 12), .int (nI (σ.tape.length)), .ref (K 13), .int (σ.err), .int (σ.off), .int (σ.ins), .int (nI (σ.sc)), .int (nI (σ.ec)), .int (nI (σ.en)), .int (σ.tr), .int (nI (σ.lo)), .int (σ.wr), .int (nI (σ.due))])) := hM.1.2 0 (by decide)
  refine va_get (D := D) (ci := 7) (v := .int (σ.off)) (C := R_Model) (T := F_Model) (N := 25) hx hb hts i_Model hown hK (hv_one hP h1) 0 rfl rfl 16 (by decide) (hts _ k_Model_62) (fun _ h9 => h9) rfl d_Model_take_1 ?_
  refine lv_if_eq (tgt := 11) hx hb d_Model_take_4 (by decide) (fun c4 => ?_) (fun c4 => ?_)
  · refine lv_aload_n hx hb d_Model_take_11 rfl (lv_at hl 0 rfl) ?_
    refine lv_iload_n hx hb d_Model_take_12 rfl (lv_at hl 1 rfl) ?_
    refine lv_iload_n hx hb d_Model_take_13 rfl (lv_at hl 2 rfl) ?_
    refine hv_call (hv_runV (As := [.int k, .int n]) (rest := []) (c_Model_find C k n hM) (hv_cw C hZ kc_Model_find kn_Model ⟨rfl, rfl, Nat.le_of_ble_eq_true rfl, Nat.le_of_ble_eq_true rfl⟩) hv_blind (hv_pre hZ hS hP) hx hml hb hown (hts _ k_Model_123) (hts _ ki_Model_find) (hts _ ksel_Model_Model_find) hy_Model_find (hts _ kc_Model_find) (va_recv hK (hv_one hP h1) (ci := 7) (q0 := 0) rfl rfl) rfl hl.1 rfl (lv_room (Nat.le_of_ble_eq_true rfl)) d_Model_take_14 ⟨Nat.le_of_ble_eq_true rfl, Nat.le_of_ble_eq_true rfl⟩) hZ hS (fun v9 w2 H locs q3 hP hS => ?_) (fun x9 w2 H locs q3 hP hS => q3.elim)
    obtain ⟨hv9, hw9⟩ := q3
    subst hv9
    rw [hw9] at hP
    show W _ _ _ _ _ _ _ _ _ _ _ _ _ _ _ (F0 m 17 ls [.int (m_find B k n)])
    rw [m_find_eq hRel.1.1]
    cases hf : x_find σ.now k n with
    | none =>
      rw [m_find2_n hf]
      show W _ _ _ _ _ _ _ _ _ _ _ _ _ _ _ (F0 m 17 ls [.int ((-1))])
      refine lv_istore_n (lv' := [(3, .int ((-1))), (0, .ref (K 0)), (1, .int k), (2, .int n)]) hx hb d_Model_take_17 rfl hl (by decide) rfl (fun ls hl => ?_)
      refine lv_iload_n hx hb d_Model_take_18 rfl (lv_at hl 0 rfl) ?_
      refine lv_if_lt (tgt := 47) hx hb d_Model_take_19 (by decide) (fun c19 => ?_) (fun c19 => ?_)
      · refine lv_iconst (v := 0) hx hb d_Model_take_47 (by decide) ?_
        refine lv_istore (lv' := [(4, .int 0), (3, .int ((-1))), (0, .ref (K 0)), (1, .int k), (2, .int n)]) hx hb d_Model_take_48 hl (by decide) rfl (fun ls hl => ?_)
        refine lv_aload_n hx hb d_Model_take_50 rfl (lv_at hl 2 rfl) ?_
        refine lv_iload_n hx hb d_Model_take_51 rfl (lv_at hl 1 rfl) ?_
        refine lv_if_ge (tgt := 59) hx hb d_Model_take_52 (by decide) (fun c52 => ?_) (fun c52 => ?_)
        · exact absurd c52 (by decide)
        · refine lv_iconst (v := 1) hx hb d_Model_take_55 (by decide) ?_
          refine lv_goto (tgt := 60) hx hb d_Model_take_56 (by decide) ?_
          refine lv_iconst (v := 0) hx hb d_Model_take_60 (by decide) ?_
          refine lv_iload hx hb d_Model_take_61 (lv_at hl 0 rfl) ?_
          refine lv_iconst (v := 0) hx hb d_Model_take_63 (by decide) ?_
          refine lv_iconst (v := 1) hx hb d_Model_take_64 (by decide) ?_
          refine hv_call (hv_runV (As := [.int 1, .int 0, .int 0, .int 0, .int 1]) (rest := []) (c_Model_fails C 1 0 0 0 1 hM (by show σ.ec + σ.sc ≤ 249; omega)) (hv_cw C hZ kc_Model_fails kn_Model ⟨rfl, rfl, Nat.le_of_ble_eq_true rfl, Nat.le_of_ble_eq_true rfl⟩) hv_blind (hv_pre hZ hS hP) hx hml hb hown (hts _ k_Model_116) (hts _ ki_Model_fails) (hts _ ksel_Model_Model_fails) hy_Model_fails (hts _ kc_Model_fails) (va_recv hK (hv_one hP h1) (ci := 7) (q0 := 0) rfl rfl) rfl hl.1 rfl (lv_room (Nat.le_of_ble_eq_true rfl)) d_Model_take_65 ⟨Nat.le_of_ble_eq_true rfl, Nat.le_of_ble_eq_true rfl⟩) hZ hS (fun v9 w4 H locs q5 hP hS => ?_) (fun x9 w4 H locs q5 hP hS => q5.elim)
          rcases q5 with ⟨ho9, hv9, hM⟩ | ⟨ho9, he9, hv9, hM⟩ | ⟨ho9, he9, hv9, hM⟩
          · exact absurd c4 ho9
          · exact absurd ((show m_fe (mAo t9 k9 p9 σ).earlier (mAo t9 k9 p9 σ).changes 1 0 0 0 1 = 8 by rw [m_fe, if_pos (by decide)]).symm.trans he9) (by decide)
          · rw [show m_fe (mAo t9 k9 p9 σ).earlier (mAo t9 k9 p9 σ).changes 1 0 0 0 1 = 8 by rw [m_fe, if_pos (by decide)]] at hM
            subst hv9
            show W _ _ _ _ _ _ _ _ _ _ _ _ _ _ _ (F0 m 68 ls [.int 1])
            refine lv_if_ne (tgt := 89) hx hb d_Model_take_68 (by decide) (fun c68 => ?_) (fun c68 => ?_)
            · exact hv_vret hQ hx hb hr hZ hS hP hlocks d_Model_take_89 (⟨rfl, mS_of (r' := ((σ.sErr 8), 1, 0)) (by rw [x_take, cif_pos c4, hf]) hM ((hRel.err 8).thr 1) rfl⟩)
            · exact absurd c68 (by decide)
      · exact absurd c19 (by decide)
    | some it =>
      obtain ⟨i, t⟩ := it
      rw [m_find2_s hf]
      have hi : i < 160 := x_find_lt hf
      have ht : σ.now i = some t := (x_find_some hf).1
      have hw := hW.t hi ht
      show W _ _ _ _ _ _ _ _ _ _ _ _ _ _ _ (F0 m 17 ls [.int (nI i)])
      refine lv_istore_n (lv' := [(3, .int (nI i)), (0, .ref (K 0)), (1, .int k), (2, .int n)]) hx hb d_Model_take_17 rfl hl (by decide) rfl (fun ls hl => ?_)
      refine lv_iload_n hx hb d_Model_take_18 rfl (lv_at hl 0 rfl) ?_
      refine gk_if_lt (x := i) (tgt := 47) hx hb d_Model_take_19 (by decide) (by omega) ?_
      refine lv_iload_n hx hb d_Model_take_22 rfl (lv_at hl 2 rfl) ?_
      refine lv_iconst (v := 4) hx hb d_Model_take_23 (by decide) ?_
      refine lv_icmp_ne (tgt := 47) hx hb d_Model_take_24 (by decide) (fun c24 => ?_) (fun c24 => ?_)
      · refine lv_iconst (v := 0) hx hb d_Model_take_47 (by decide) ?_
        refine lv_istore (lv' := [(4, .int 0), (3, .int (nI i)), (0, .ref (K 0)), (1, .int k), (2, .int n)]) hx hb d_Model_take_48 hl (by decide) rfl (fun ls hl => ?_)
        refine lv_aload_n hx hb d_Model_take_50 rfl (lv_at hl 2 rfl) ?_
        refine lv_iload_n hx hb d_Model_take_51 rfl (lv_at hl 1 rfl) ?_
        refine gk_if_ge (x := i) (tgt := 59) hx hb d_Model_take_52 (by decide) (by omega) ?_
        refine lv_iconst (v := 0) hx hb d_Model_take_59 (by decide) ?_
        refine lv_iconst (v := 0) hx hb d_Model_take_60 (by decide) ?_
        refine lv_iload hx hb d_Model_take_61 (lv_at hl 0 rfl) ?_
        refine lv_iconst (v := 0) hx hb d_Model_take_63 (by decide) ?_
        refine lv_iconst (v := 1) hx hb d_Model_take_64 (by decide) ?_
        refine hv_call (hv_runV (As := [.int 0, .int 0, .int 0, .int 0, .int 1]) (rest := []) (c_Model_fails C 0 0 0 0 1 hM (by show σ.ec + σ.sc ≤ 249; omega)) (hv_cw C hZ kc_Model_fails kn_Model ⟨rfl, rfl, Nat.le_of_ble_eq_true rfl, Nat.le_of_ble_eq_true rfl⟩) hv_blind (hv_pre hZ hS hP) hx hml hb hown (hts _ k_Model_116) (hts _ ki_Model_fails) (hts _ ksel_Model_Model_fails) hy_Model_fails (hts _ kc_Model_fails) (va_recv hK (hv_one hP h1) (ci := 7) (q0 := 0) rfl rfl) rfl hl.1 rfl (lv_room (Nat.le_of_ble_eq_true rfl)) d_Model_take_65 ⟨Nat.le_of_ble_eq_true rfl, Nat.le_of_ble_eq_true rfl⟩) hZ hS (fun v9 w6 H locs q7 hP hS => ?_) (fun x9 w6 H locs q7 hP hS => q7.elim)
        rcases q7 with ⟨ho9, hv9, hM⟩ | ⟨ho9, he9, hv9, hM⟩ | ⟨ho9, he9, hv9, hM⟩
        · exact absurd c4 ho9
        · have h249 : ¬ 249 ≤ σ.ec + σ.sc := fun z9 => by rw [m_fe, if_neg (by decide), if_neg (by decide), if_neg (by decide), if_neg (by decide), if_pos ⟨by decide, show σ.ec + σ.sc = 249 by omega⟩] at he9; exact absurd he9 (by decide)
          subst hv9
          show W _ _ _ _ _ _ _ _ _ _ _ _ _ _ _ (F0 m 68 ls [.int 0])
          refine lv_if_ne (tgt := 89) hx hb d_Model_take_68 (by decide) (fun c68 => ?_) (fun c68 => ?_)
          · exact absurd c68 (by decide)
          · refine lv_aload_n hx hb d_Model_take_71 rfl (lv_at hl 2 rfl) ?_
            have h8 : w6 (K 0) = some (.inr (7, [.int 0, .ref (K 1), .ref (K 2), .ref (K 3), .ref (K 4), .ref (K 5), .ref (K 6), .ref (K 7), .ref (K 8), .ref (K 9), .ref (K 10), .ref (K 11), .ref (K 12), .int (nI (σ.tape.length)), .ref (K 13), .int (σ.err), .int (σ.off), .int (σ.ins), .int (nI (σ.sc)), .int (nI (σ.ec)), .int (nI (σ.en)), .int (σ.tr), .int (nI (σ.lo)), .int (σ.wr), .int (nI (σ.due))])) := hM.1.2 0 (by decide)
            refine hv_call (hv_runV (As := []) (rest := []) (c_Model_begins C hM (hRel.thr 0) hW c4) (hv_cw C hZ kc_Model_begins kn_Model ⟨rfl, rfl, Nat.le_of_ble_eq_true rfl, Nat.le_of_ble_eq_true rfl⟩) hv_blind (hv_pre hZ hS hP) hx hml hb hown (hts _ k_Model_120) (hts _ ki_Model_begins) (hts _ ksel_Model_Model_begins) hy_Model_begins (hts _ kc_Model_begins) (va_recv hK (hv_one hP h8) (ci := 7) (q0 := 0) rfl rfl) rfl hl.1 rfl (lv_room (Nat.le_of_ble_eq_true rfl)) d_Model_take_72 ⟨Nat.le_of_ble_eq_true rfl, Nat.le_of_ble_eq_true rfl⟩) hZ hS (fun v9 w9 H locs q10 hP hS => ?_) (fun x9 w9 H locs q10 hP hS => q10.elim)
            obtain ⟨hv9, B2, hM, hRel2⟩ := q10
            subst hv9
            have hM : mK ca K w0 (((mAo t9 k9 p9 σ).sThrown 0).sChanges (σ.sc + 1)) B2 w9 := hM
            have hRel2 : mRel (((mAo t9 k9 p9 σ).sThrown 0).sChanges (σ.sc + 1)) B2 (σ.sSc (σ.sc + 1)) := hRel2
            show W _ _ _ _ _ _ _ _ _ _ _ _ _ _ _ (F0 m 75 ls [])
            refine lv_aload_n hx hb d_Model_take_75 rfl (lv_at hl 2 rfl) ?_
            have h11 : w9 (K 0) = some (.inr (7, [.int 0, .ref (K 1), .ref (K 2), .ref (K 3), .ref (K 4), .ref (K 5), .ref (K 6), .ref (K 7), .ref (K 8), .ref (K 9), .ref (K 10), .ref (K 11), .ref (K 12), .int (nI (σ.tape.length)), .ref (K 13), .int (σ.err), .int (σ.off), .int (σ.ins), .int (nI (σ.sc + 1)), .int (nI (σ.ec)), .int (nI (σ.en)), .int (σ.tr), .int (nI (σ.lo)), .int (σ.wr), .int (nI (σ.due))])) := hM.1.2 0 (by decide)
            refine va_get (D := D) (ci := 7) (v := .ref (K 1)) (C := R_Model) (T := F_Model) (N := 25) hx hb hts i_Model hown hK (hv_one hP h11) 0 rfl rfl 1 (by decide) (hts _ k_Model_7) (fun _ h9 => h9) rfl d_Model_take_76 ?_
            refine lv_iload_n hx hb d_Model_take_79 rfl (lv_at hl 1 rfl) ?_
            refine lv_iconst (v := 0) hx hb d_Model_take_80 (by decide) ?_
            have h12 : w9 (K 1) = some (.inl (ca 2, 640, .inl B2.there)) := hM.1.2 1 (by decide)
            refine hv_zast hx hb hK hP hS 2 h12 rfl (vp_in_nI (n := i) (by omega) (by omega)) d_Model_take_81 (fun H locs hP hS => ?_)
            rw [nI_clamp (n := i) (by omega)] at hP
            obtain ⟨w13, ew13⟩ : ∃ z9 : hv_W, z9 = va_up w9 (K 1) (some (.inl (ca 2, 640, .inl (upd B2.there i (vp_nar .boolean 0))))) := ⟨_, rfl⟩
            have hP : hv_P D classes s0.heap.size w13 H := by rw [ew13]; exact hP
            have hM : mK ca K w0 (((mAo t9 k9 p9 σ).sThrown 0).sChanges (σ.sc + 1)) (B2.sThere (upd B2.there i (vp_nar .boolean 0))) w13 := by rw [ew13]; exact hM.put 1 (by decide) rfl
            have h14 : w13 (K 1) = some (.inl (ca 2, 640, .inl (upd B2.there i (vp_nar .boolean 0)))) := by rw [ew13]; exact hv_up_s
            refine lv_aload_n hx hb d_Model_take_82 rfl (lv_at hl 2 rfl) ?_
            have h15 : w13 (K 0) = some (.inr (7, [.int 0, .ref (K 1), .ref (K 2), .ref (K 3), .ref (K 4), .ref (K 5), .ref (K 6), .ref (K 7), .ref (K 8), .ref (K 9), .ref (K 10), .ref (K 11), .ref (K 12), .int (nI (σ.tape.length)), .ref (K 13), .int (σ.err), .int (σ.off), .int (σ.ins), .int (nI (σ.sc + 1)), .int (nI (σ.ec)), .int (nI (σ.en)), .int (σ.tr), .int (nI (σ.lo)), .int (σ.wr), .int (nI (σ.due))])) := hM.1.2 0 (by decide)
            refine va_get (D := D) (ci := 7) (v := .ref (K 12)) (C := R_Model) (T := F_Model) (N := 25) hx hb hts i_Model hown hK (hv_one hP h15) 0 rfl rfl 12 (by decide) (hts _ k_Model_45) (fun _ h9 => h9) rfl d_Model_take_83 ?_
            refine lv_iload_n hx hb d_Model_take_86 rfl (lv_at hl 1 rfl) ?_
            refine lv_iconst (v := 1) hx hb d_Model_take_87 (by decide) ?_
            have h16 : w13 (K 12) = some (.inl (ca 2, 160, .inl k9)) := hM.1.2 12 (by decide)
            refine hv_zast hx hb hK hP hS 2 h16 rfl (vp_in_nI (n := i) (by omega) (by omega)) d_Model_take_88 (fun H locs hP hS => ?_)
            rw [nI_clamp (n := i) (by omega)] at hP
            obtain ⟨w17, ew17⟩ : ∃ z9 : hv_W, z9 = va_up w13 (K 12) (some (.inl (ca 2, 160, .inl (upd k9 i (vp_nar .boolean 1))))) := ⟨_, rfl⟩
            have hP : hv_P D classes s0.heap.size w17 H := by rw [ew17]; exact hP
            have hM : mK ca K w0 ((((mAo t9 k9 p9 σ).sThrown 0).sChanges (σ.sc + 1)).sTaken (upd k9 i (vp_nar .boolean 1))) (B2.sThere (upd B2.there i (vp_nar .boolean 0))) w17 := by rw [ew17]; exact hM.put 12 (by decide) rfl
            have h18 : w17 (K 12) = some (.inl (ca 2, 160, .inl (upd k9 i (vp_nar .boolean 1)))) := by rw [ew17]; exact hv_up_s
            exact hv_vret hQ hx hb hr hZ hS hP hlocks d_Model_take_89 (⟨rfl, mS_of (r' := (((x_one σ i none).sGone (upd σ.gone i 1)), 0, 0)) (by rw [x_take, cif_pos c4, hf]; dsimp only; rw [cif_neg (fun z => c24 z.1), cif_neg h249]) hM ((hRel2.set hW.1 hi (o := none) (fun j hj => mEq_there (pk_un hj)) (pk_us.trans g_bn0) (Or.inl (pk_us.trans g_bn0))).gone (fun j hj => by rw [g_bn1]; exact g_mark (hRel.2.2.2.1 j hj))) rfl⟩)
        · have h249 : 249 ≤ σ.ec + σ.sc := Classical.byContradiction fun z9 => he9 (by rw [m_fe, if_neg (by decide), if_neg (by decide), if_neg (by decide), if_neg (by decide), if_neg (fun z8 => z9 (by have h8 : σ.ec + σ.sc = 249 := z8.2; omega))])
          rw [show m_fe (mAo t9 k9 p9 σ).earlier (mAo t9 k9 p9 σ).changes 0 0 0 0 1 = 9 by rw [m_fe, if_neg (by decide), if_neg (by decide), if_neg (by decide), if_neg (by decide), if_pos ⟨by decide, show σ.ec + σ.sc = 249 by omega⟩]] at hM
          subst hv9
          show W _ _ _ _ _ _ _ _ _ _ _ _ _ _ _ (F0 m 68 ls [.int 1])
          refine lv_if_ne (tgt := 89) hx hb d_Model_take_68 (by decide) (fun c68 => ?_) (fun c68 => ?_)
          · exact hv_vret hQ hx hb hr hZ hS hP hlocks d_Model_take_89 (⟨rfl, mS_of (r' := ((σ.sErr 9), 1, 0)) (by rw [x_take, cif_pos c4, hf]; dsimp only; rw [cif_neg (fun z => c24 z.1), cif_pos h249]) hM ((hRel.err 9).thr 1) rfl⟩)
          · exact absurd c68 (by decide)
      · refine lv_aload_n hx hb d_Model_take_27 rfl (lv_at hl 1 rfl) ?_
        refine lv_iload_n hx hb d_Model_take_28 rfl (lv_at hl 3 rfl) ?_
        refine lv_iconst (v := 1) hx hb d_Model_take_29 (by decide) ?_
        refine hv_call (hv_runV (As := [.int n, .int 1]) (rest := []) (c_Model_links C n 1 hM hRel.1.1) (hv_cw C hZ kc_Model_links kn_Model ⟨rfl, rfl, Nat.le_of_ble_eq_true rfl, Nat.le_of_ble_eq_true rfl⟩) hv_blind (hv_pre hZ hS hP) hx hml hb hown (hts _ k_Model_144) (hts _ ki_Model_links) (hts _ ksel_Model_Model_links) hy_Model_links (hts _ kc_Model_links) (va_recv hK (hv_one hP h1) (ci := 7) (q0 := 0) rfl rfl) rfl hl.1 rfl (lv_room (Nat.le_of_ble_eq_true rfl)) d_Model_take_30 ⟨Nat.le_of_ble_eq_true rfl, Nat.le_of_ble_eq_true rfl⟩) hZ hS (fun v9 w19 H locs q20 hP hS => ?_) (fun x9 w19 H locs q20 hP hS => q20.elim)
        obtain ⟨hv9, hw9⟩ := q20
        subst hv9
        rw [hw9] at hP
        show W _ _ _ _ _ _ _ _ _ _ _ _ _ _ _ (F0 m 33 ls [.int (nI (x_cch σ.now n 1 96))])
        have hle1 := x_cch_le σ.now n 1 96
        refine lv_aload_n hx hb d_Model_take_33 rfl (lv_at hl 1 rfl) ?_
        refine lv_iload_n hx hb d_Model_take_34 rfl (lv_at hl 3 rfl) ?_
        refine lv_iconst (v := 0) hx hb d_Model_take_35 (by decide) ?_
        refine hv_call (hv_runV (As := [.int n, .int 0]) (rest := [.int (nI (x_cch σ.now n 1 96))]) (c_Model_links C n 0 hM hRel.1.1) (hv_cw C hZ kc_Model_links kn_Model ⟨rfl, rfl, Nat.le_of_ble_eq_true rfl, Nat.le_of_ble_eq_true rfl⟩) hv_blind (hv_pre hZ hS hP) hx hml hb hown (hts _ k_Model_144) (hts _ ki_Model_links) (hts _ ksel_Model_Model_links) hy_Model_links (hts _ kc_Model_links) (va_recv hK (hv_one hP h1) (ci := 7) (q0 := 0) rfl rfl) rfl hl.1 rfl (lv_room (Nat.le_of_ble_eq_true rfl)) d_Model_take_36 ⟨Nat.le_of_ble_eq_true rfl, Nat.le_of_ble_eq_true rfl⟩) hZ hS (fun v9 w21 H locs q22 hP hS => ?_) (fun x9 w21 H locs q22 hP hS => q22.elim)
        obtain ⟨hv9, hw9⟩ := q22
        subst hv9
        rw [hw9] at hP
        show W _ _ _ _ _ _ _ _ _ _ _ _ _ _ _ (F0 m 39 ls [.int (nI (x_cch σ.now n 0 96)), .int (nI (x_cch σ.now n 1 96))])
        have hle0 := x_cch_le σ.now n 0 96
        refine gk_iadd (x := x_cch σ.now n 1 96) (y := x_cch σ.now n 0 96) hx hb d_Model_take_39 ?_
        refine gk_if_le (x := (x_cch σ.now n 1 96) + (x_cch σ.now n 0 96)) (tgt := 47) hx hb d_Model_take_40 (by decide) (by omega) (fun c40 => ?_) (fun c40 => ?_)
        · refine lv_iconst (v := 0) hx hb d_Model_take_47 (by decide) ?_
          refine lv_istore (lv' := [(4, .int 0), (3, .int (nI i)), (0, .ref (K 0)), (1, .int k), (2, .int n)]) hx hb d_Model_take_48 hl (by decide) rfl (fun ls hl => ?_)
          refine lv_aload_n hx hb d_Model_take_50 rfl (lv_at hl 2 rfl) ?_
          refine lv_iload_n hx hb d_Model_take_51 rfl (lv_at hl 1 rfl) ?_
          refine gk_if_ge (x := i) (tgt := 59) hx hb d_Model_take_52 (by decide) (by omega) ?_
          refine lv_iconst (v := 0) hx hb d_Model_take_59 (by decide) ?_
          refine lv_iconst (v := 0) hx hb d_Model_take_60 (by decide) ?_
          refine lv_iload hx hb d_Model_take_61 (lv_at hl 0 rfl) ?_
          refine lv_iconst (v := 0) hx hb d_Model_take_63 (by decide) ?_
          refine lv_iconst (v := 1) hx hb d_Model_take_64 (by decide) ?_
          refine hv_call (hv_runV (As := [.int 0, .int 0, .int 0, .int 0, .int 1]) (rest := []) (c_Model_fails C 0 0 0 0 1 hM (by show σ.ec + σ.sc ≤ 249; omega)) (hv_cw C hZ kc_Model_fails kn_Model ⟨rfl, rfl, Nat.le_of_ble_eq_true rfl, Nat.le_of_ble_eq_true rfl⟩) hv_blind (hv_pre hZ hS hP) hx hml hb hown (hts _ k_Model_116) (hts _ ki_Model_fails) (hts _ ksel_Model_Model_fails) hy_Model_fails (hts _ kc_Model_fails) (va_recv hK (hv_one hP h1) (ci := 7) (q0 := 0) rfl rfl) rfl hl.1 rfl (lv_room (Nat.le_of_ble_eq_true rfl)) d_Model_take_65 ⟨Nat.le_of_ble_eq_true rfl, Nat.le_of_ble_eq_true rfl⟩) hZ hS (fun v9 w23 H locs q24 hP hS => ?_) (fun x9 w23 H locs q24 hP hS => q24.elim)
          rcases q24 with ⟨ho9, hv9, hM⟩ | ⟨ho9, he9, hv9, hM⟩ | ⟨ho9, he9, hv9, hM⟩
          · exact absurd c4 ho9
          · have h249 : ¬ 249 ≤ σ.ec + σ.sc := fun z9 => by rw [m_fe, if_neg (by decide), if_neg (by decide), if_neg (by decide), if_neg (by decide), if_pos ⟨by decide, show σ.ec + σ.sc = 249 by omega⟩] at he9; exact absurd he9 (by decide)
            subst hv9
            show W _ _ _ _ _ _ _ _ _ _ _ _ _ _ _ (F0 m 68 ls [.int 0])
            refine lv_if_ne (tgt := 89) hx hb d_Model_take_68 (by decide) (fun c68 => ?_) (fun c68 => ?_)
            · exact absurd c68 (by decide)
            · refine lv_aload_n hx hb d_Model_take_71 rfl (lv_at hl 2 rfl) ?_
              have h25 : w23 (K 0) = some (.inr (7, [.int 0, .ref (K 1), .ref (K 2), .ref (K 3), .ref (K 4), .ref (K 5), .ref (K 6), .ref (K 7), .ref (K 8), .ref (K 9), .ref (K 10), .ref (K 11), .ref (K 12), .int (nI (σ.tape.length)), .ref (K 13), .int (σ.err), .int (σ.off), .int (σ.ins), .int (nI (σ.sc)), .int (nI (σ.ec)), .int (nI (σ.en)), .int (σ.tr), .int (nI (σ.lo)), .int (σ.wr), .int (nI (σ.due))])) := hM.1.2 0 (by decide)
              refine hv_call (hv_runV (As := []) (rest := []) (c_Model_begins C hM (hRel.thr 0) hW c4) (hv_cw C hZ kc_Model_begins kn_Model ⟨rfl, rfl, Nat.le_of_ble_eq_true rfl, Nat.le_of_ble_eq_true rfl⟩) hv_blind (hv_pre hZ hS hP) hx hml hb hown (hts _ k_Model_120) (hts _ ki_Model_begins) (hts _ ksel_Model_Model_begins) hy_Model_begins (hts _ kc_Model_begins) (va_recv hK (hv_one hP h25) (ci := 7) (q0 := 0) rfl rfl) rfl hl.1 rfl (lv_room (Nat.le_of_ble_eq_true rfl)) d_Model_take_72 ⟨Nat.le_of_ble_eq_true rfl, Nat.le_of_ble_eq_true rfl⟩) hZ hS (fun v9 w26 H locs q27 hP hS => ?_) (fun x9 w26 H locs q27 hP hS => q27.elim)
              obtain ⟨hv9, B2, hM, hRel2⟩ := q27
              subst hv9
              have hM : mK ca K w0 (((mAo t9 k9 p9 σ).sThrown 0).sChanges (σ.sc + 1)) B2 w26 := hM
              have hRel2 : mRel (((mAo t9 k9 p9 σ).sThrown 0).sChanges (σ.sc + 1)) B2 (σ.sSc (σ.sc + 1)) := hRel2
              show W _ _ _ _ _ _ _ _ _ _ _ _ _ _ _ (F0 m 75 ls [])
              refine lv_aload_n hx hb d_Model_take_75 rfl (lv_at hl 2 rfl) ?_
              have h28 : w26 (K 0) = some (.inr (7, [.int 0, .ref (K 1), .ref (K 2), .ref (K 3), .ref (K 4), .ref (K 5), .ref (K 6), .ref (K 7), .ref (K 8), .ref (K 9), .ref (K 10), .ref (K 11), .ref (K 12), .int (nI (σ.tape.length)), .ref (K 13), .int (σ.err), .int (σ.off), .int (σ.ins), .int (nI (σ.sc + 1)), .int (nI (σ.ec)), .int (nI (σ.en)), .int (σ.tr), .int (nI (σ.lo)), .int (σ.wr), .int (nI (σ.due))])) := hM.1.2 0 (by decide)
              refine va_get (D := D) (ci := 7) (v := .ref (K 1)) (C := R_Model) (T := F_Model) (N := 25) hx hb hts i_Model hown hK (hv_one hP h28) 0 rfl rfl 1 (by decide) (hts _ k_Model_7) (fun _ h9 => h9) rfl d_Model_take_76 ?_
              refine lv_iload_n hx hb d_Model_take_79 rfl (lv_at hl 1 rfl) ?_
              refine lv_iconst (v := 0) hx hb d_Model_take_80 (by decide) ?_
              have h29 : w26 (K 1) = some (.inl (ca 2, 640, .inl B2.there)) := hM.1.2 1 (by decide)
              refine hv_zast hx hb hK hP hS 2 h29 rfl (vp_in_nI (n := i) (by omega) (by omega)) d_Model_take_81 (fun H locs hP hS => ?_)
              rw [nI_clamp (n := i) (by omega)] at hP
              obtain ⟨w30, ew30⟩ : ∃ z9 : hv_W, z9 = va_up w26 (K 1) (some (.inl (ca 2, 640, .inl (upd B2.there i (vp_nar .boolean 0))))) := ⟨_, rfl⟩
              have hP : hv_P D classes s0.heap.size w30 H := by rw [ew30]; exact hP
              have hM : mK ca K w0 (((mAo t9 k9 p9 σ).sThrown 0).sChanges (σ.sc + 1)) (B2.sThere (upd B2.there i (vp_nar .boolean 0))) w30 := by rw [ew30]; exact hM.put 1 (by decide) rfl
              have h31 : w30 (K 1) = some (.inl (ca 2, 640, .inl (upd B2.there i (vp_nar .boolean 0)))) := by rw [ew30]; exact hv_up_s
              refine lv_aload_n hx hb d_Model_take_82 rfl (lv_at hl 2 rfl) ?_
              have h32 : w30 (K 0) = some (.inr (7, [.int 0, .ref (K 1), .ref (K 2), .ref (K 3), .ref (K 4), .ref (K 5), .ref (K 6), .ref (K 7), .ref (K 8), .ref (K 9), .ref (K 10), .ref (K 11), .ref (K 12), .int (nI (σ.tape.length)), .ref (K 13), .int (σ.err), .int (σ.off), .int (σ.ins), .int (nI (σ.sc + 1)), .int (nI (σ.ec)), .int (nI (σ.en)), .int (σ.tr), .int (nI (σ.lo)), .int (σ.wr), .int (nI (σ.due))])) := hM.1.2 0 (by decide)
              refine va_get (D := D) (ci := 7) (v := .ref (K 12)) (C := R_Model) (T := F_Model) (N := 25) hx hb hts i_Model hown hK (hv_one hP h32) 0 rfl rfl 12 (by decide) (hts _ k_Model_45) (fun _ h9 => h9) rfl d_Model_take_83 ?_
              refine lv_iload_n hx hb d_Model_take_86 rfl (lv_at hl 1 rfl) ?_
              refine lv_iconst (v := 1) hx hb d_Model_take_87 (by decide) ?_
              have h33 : w30 (K 12) = some (.inl (ca 2, 160, .inl k9)) := hM.1.2 12 (by decide)
              refine hv_zast hx hb hK hP hS 2 h33 rfl (vp_in_nI (n := i) (by omega) (by omega)) d_Model_take_88 (fun H locs hP hS => ?_)
              rw [nI_clamp (n := i) (by omega)] at hP
              obtain ⟨w34, ew34⟩ : ∃ z9 : hv_W, z9 = va_up w30 (K 12) (some (.inl (ca 2, 160, .inl (upd k9 i (vp_nar .boolean 1))))) := ⟨_, rfl⟩
              have hP : hv_P D classes s0.heap.size w34 H := by rw [ew34]; exact hP
              have hM : mK ca K w0 ((((mAo t9 k9 p9 σ).sThrown 0).sChanges (σ.sc + 1)).sTaken (upd k9 i (vp_nar .boolean 1))) (B2.sThere (upd B2.there i (vp_nar .boolean 0))) w34 := by rw [ew34]; exact hM.put 12 (by decide) rfl
              have h35 : w34 (K 12) = some (.inl (ca 2, 160, .inl (upd k9 i (vp_nar .boolean 1)))) := by rw [ew34]; exact hv_up_s
              exact hv_vret hQ hx hb hr hZ hS hP hlocks d_Model_take_89 (⟨rfl, mS_of (r' := (((x_one σ i none).sGone (upd σ.gone i 1)), 0, 0)) (by rw [x_take, cif_pos c4, hf]; dsimp only; rw [cif_neg (fun z => z.2 c40), cif_neg h249]) hM ((hRel2.set hW.1 hi (o := none) (fun j hj => mEq_there (pk_un hj)) (pk_us.trans g_bn0) (Or.inl (pk_us.trans g_bn0))).gone (fun j hj => by rw [g_bn1]; exact g_mark (hRel.2.2.2.1 j hj))) rfl⟩)
          · have h249 : 249 ≤ σ.ec + σ.sc := Classical.byContradiction fun z9 => he9 (by rw [m_fe, if_neg (by decide), if_neg (by decide), if_neg (by decide), if_neg (by decide), if_neg (fun z8 => z9 (by have h8 : σ.ec + σ.sc = 249 := z8.2; omega))])
            rw [show m_fe (mAo t9 k9 p9 σ).earlier (mAo t9 k9 p9 σ).changes 0 0 0 0 1 = 9 by rw [m_fe, if_neg (by decide), if_neg (by decide), if_neg (by decide), if_neg (by decide), if_pos ⟨by decide, show σ.ec + σ.sc = 249 by omega⟩]] at hM
            subst hv9
            show W _ _ _ _ _ _ _ _ _ _ _ _ _ _ _ (F0 m 68 ls [.int 1])
            refine lv_if_ne (tgt := 89) hx hb d_Model_take_68 (by decide) (fun c68 => ?_) (fun c68 => ?_)
            · exact hv_vret hQ hx hb hr hZ hS hP hlocks d_Model_take_89 (⟨rfl, mS_of (r' := ((σ.sErr 9), 1, 0)) (by rw [x_take, cif_pos c4, hf]; dsimp only; rw [cif_neg (fun z => z.2 c40), cif_pos h249]) hM ((hRel.err 9).thr 1) rfl⟩)
            · exact absurd c68 (by decide)
        · refine lv_iconst (v := 1) hx hb d_Model_take_43 (by decide) ?_
          refine lv_goto (tgt := 48) hx hb d_Model_take_44 (by decide) ?_
          refine lv_istore (lv' := [(4, .int 1), (3, .int (nI i)), (0, .ref (K 0)), (1, .int k), (2, .int n)]) hx hb d_Model_take_48 hl (by decide) rfl (fun ls hl => ?_)
          refine lv_aload_n hx hb d_Model_take_50 rfl (lv_at hl 2 rfl) ?_
          refine lv_iload_n hx hb d_Model_take_51 rfl (lv_at hl 1 rfl) ?_
          refine gk_if_ge (x := i) (tgt := 59) hx hb d_Model_take_52 (by decide) (by omega) ?_
          refine lv_iconst (v := 0) hx hb d_Model_take_59 (by decide) ?_
          refine lv_iconst (v := 0) hx hb d_Model_take_60 (by decide) ?_
          refine lv_iload hx hb d_Model_take_61 (lv_at hl 0 rfl) ?_
          refine lv_iconst (v := 0) hx hb d_Model_take_63 (by decide) ?_
          refine lv_iconst (v := 1) hx hb d_Model_take_64 (by decide) ?_
          refine hv_call (hv_runV (As := [.int 0, .int 0, .int 1, .int 0, .int 1]) (rest := []) (c_Model_fails C 0 0 1 0 1 hM (by show σ.ec + σ.sc ≤ 249; omega)) (hv_cw C hZ kc_Model_fails kn_Model ⟨rfl, rfl, Nat.le_of_ble_eq_true rfl, Nat.le_of_ble_eq_true rfl⟩) hv_blind (hv_pre hZ hS hP) hx hml hb hown (hts _ k_Model_116) (hts _ ki_Model_fails) (hts _ ksel_Model_Model_fails) hy_Model_fails (hts _ kc_Model_fails) (va_recv hK (hv_one hP h1) (ci := 7) (q0 := 0) rfl rfl) rfl hl.1 rfl (lv_room (Nat.le_of_ble_eq_true rfl)) d_Model_take_65 ⟨Nat.le_of_ble_eq_true rfl, Nat.le_of_ble_eq_true rfl⟩) hZ hS (fun v9 w36 H locs q37 hP hS => ?_) (fun x9 w36 H locs q37 hP hS => q37.elim)
          rcases q37 with ⟨ho9, hv9, hM⟩ | ⟨ho9, he9, hv9, hM⟩ | ⟨ho9, he9, hv9, hM⟩
          · exact absurd c4 ho9
          · exact absurd ((show m_fe (mAo t9 k9 p9 σ).earlier (mAo t9 k9 p9 σ).changes 0 0 1 0 1 = 7 by rw [m_fe, if_neg (by decide), if_neg (by decide), if_pos (by decide)]).symm.trans he9) (by decide)
          · rw [show m_fe (mAo t9 k9 p9 σ).earlier (mAo t9 k9 p9 σ).changes 0 0 1 0 1 = 7 by rw [m_fe, if_neg (by decide), if_neg (by decide), if_pos (by decide)]] at hM
            subst hv9
            show W _ _ _ _ _ _ _ _ _ _ _ _ _ _ _ (F0 m 68 ls [.int 1])
            refine lv_if_ne (tgt := 89) hx hb d_Model_take_68 (by decide) (fun c68 => ?_) (fun c68 => ?_)
            · exact hv_vret hQ hx hb hr hZ hS hP hlocks d_Model_take_89 (⟨rfl, mS_of (r' := ((σ.sErr 7), 1, 0)) (by rw [x_take, cif_pos c4, hf]; dsimp only; rw [cif_pos ⟨c24, c40⟩]) hM ((hRel.err 7).thr 1) rfl⟩)
            · exact absurd c68 (by decide)
  · refine lv_iconst (v := (-1)) hx hb d_Model_take_7 (by decide) ?_
    refine lv_goto (tgt := 17) hx hb d_Model_take_8 (by decide) ?_
    refine lv_istore_n (lv' := [(3, .int ((-1))), (0, .ref (K 0)), (1, .int k), (2, .int n)]) hx hb d_Model_take_17 rfl hl (by decide) rfl (fun ls hl => ?_)
    refine lv_iload_n hx hb d_Model_take_18 rfl (lv_at hl 0 rfl) ?_
    refine lv_if_lt (tgt := 47) hx hb d_Model_take_19 (by decide) (fun c19 => ?_) (fun c19 => ?_)
    · refine lv_iconst (v := 0) hx hb d_Model_take_47 (by decide) ?_
      refine lv_istore (lv' := [(4, .int 0), (3, .int ((-1))), (0, .ref (K 0)), (1, .int k), (2, .int n)]) hx hb d_Model_take_48 hl (by decide) rfl (fun ls hl => ?_)
      refine lv_aload_n hx hb d_Model_take_50 rfl (lv_at hl 2 rfl) ?_
      refine lv_iload_n hx hb d_Model_take_51 rfl (lv_at hl 1 rfl) ?_
      refine lv_if_ge (tgt := 59) hx hb d_Model_take_52 (by decide) (fun c52 => ?_) (fun c52 => ?_)
      · exact absurd c52 (by decide)
      · refine lv_iconst (v := 1) hx hb d_Model_take_55 (by decide) ?_
        refine lv_goto (tgt := 60) hx hb d_Model_take_56 (by decide) ?_
        refine lv_iconst (v := 0) hx hb d_Model_take_60 (by decide) ?_
        refine lv_iload hx hb d_Model_take_61 (lv_at hl 0 rfl) ?_
        refine lv_iconst (v := 0) hx hb d_Model_take_63 (by decide) ?_
        refine lv_iconst (v := 1) hx hb d_Model_take_64 (by decide) ?_
        refine hv_call (hv_runV (As := [.int 1, .int 0, .int 0, .int 0, .int 1]) (rest := []) (c_Model_fails C 1 0 0 0 1 hM (by show σ.ec + σ.sc ≤ 249; omega)) (hv_cw C hZ kc_Model_fails kn_Model ⟨rfl, rfl, Nat.le_of_ble_eq_true rfl, Nat.le_of_ble_eq_true rfl⟩) hv_blind (hv_pre hZ hS hP) hx hml hb hown (hts _ k_Model_116) (hts _ ki_Model_fails) (hts _ ksel_Model_Model_fails) hy_Model_fails (hts _ kc_Model_fails) (va_recv hK (hv_one hP h1) (ci := 7) (q0 := 0) rfl rfl) rfl hl.1 rfl (lv_room (Nat.le_of_ble_eq_true rfl)) d_Model_take_65 ⟨Nat.le_of_ble_eq_true rfl, Nat.le_of_ble_eq_true rfl⟩) hZ hS (fun v9 w38 H locs q39 hP hS => ?_) (fun x9 w38 H locs q39 hP hS => q39.elim)
        rcases q39 with ⟨ho9, hv9, hM⟩ | ⟨ho9, he9, hv9, hM⟩ | ⟨ho9, he9, hv9, hM⟩
        · subst hv9
          show W _ _ _ _ _ _ _ _ _ _ _ _ _ _ _ (F0 m 68 ls [.int 1])
          refine lv_if_ne (tgt := 89) hx hb d_Model_take_68 (by decide) (fun c68 => ?_) (fun c68 => ?_)
          · exact hv_vret hQ hx hb hr hZ hS hP hlocks d_Model_take_89 (⟨rfl, mS_of (r' := (σ, 2, 0)) (by rw [x_take, cif_neg c4]) hM (hRel.thr 2) rfl⟩)
          · exact absurd c68 (by decide)
        · exact absurd ho9 c4
        · exact absurd ho9 c4
    · exact absurd c19 (by decide)

