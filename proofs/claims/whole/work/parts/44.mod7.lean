abbrev rm_Model_undo : Room := { frames := 3, cells := 0, slots := 0, locals := 66 }
set_option maxHeartbeats 4000000 in
set_option maxRecDepth 100000 in
theorem c_Model_undo {l : Launch} {s0 : State} {D : va_G} {ca : Nat → ClassId} (C : hv_C l s0 D (hv_tys ca)) {w : hv_W} {K : Nat → Nat} {w0 : hv_W} {A : mA} {B : mB} {σ : gS} (hM : mK ca K w0 A B w) (hRel : mRel A B σ) (hW : gW σ)  :
    hv_Met l y_Model_undo [.code y_Model_undo b_Model_undo 2 (some .int)] rm_Model_undo (hv_Pc s0 D w [.ref (K 0)]) (hv_Q s0 D (fun v w' => mRet ca K w0 (x_undo σ) v w') (fun _ _ => False)) 0 0 (hv_A s0.heap.size) := by
  refine hv_enter C _ (by decide) (Nat.le_of_ble_eq_true rfl) ?_
  intro p e s m below meth c ls Q hQ hx hb hr hml hown hts hK hZ hlocks hname hout htr hP hl
  have hown : s.vm.findClass R_Model = some m.cls := hown
  have hS : va_S (hv_A s0.heap.size) s.heap s.heap [] := va_S.rf
  have hl : lv_has ls 2 [(0, .ref (K 0))] := hl
  obtain ⟨t9, k9, p9, hA9⟩ := mAo_of hRel
  subst hA9
  have hb9 := hW.hb
  have htp9 := hW.tape
  have hdu9 : σ.due ≤ 2000 := hW.2.2.1.2.2.2
  have hen9 : σ.en ≤ 250 := hW.2.2.1.2.1
  have hlo9 : σ.lo ≤ 250 := hW.2.2.1.2.2.1
  refine lv_aload_n hx hb d_Model_undo_0 rfl (lv_at hl 0 rfl) ?_
  refine lv_iconst (v := 0) hx hb d_Model_undo_1 (by decide) ?_
  have h1 : w (K 0) = some (.inr (7, [.int t9, .ref (K 1), .ref (K 2), .ref (K 3), .ref (K 4), .ref (K 5), .ref (K 6), .ref (K 7), .ref (K 8), .ref (K 9), .ref (K 10), .ref (K 11), .ref (K 12), .int (nI (σ.tape.length)), .ref (K 13), .int (σ.err), .int (σ.off), .int (σ.ins), .int (nI (σ.sc)), .int (nI (σ.ec)), .int (nI (σ.en)), .int (σ.tr), .int (nI (σ.lo)), .int (σ.wr), .int (nI (σ.due))])) := hM.1.2 0 (by decide)
  refine hv_put (D := D) (ci := 7) (v := .int 0) (ty := .int) (C := R_Model) (T := F_Model) (N := 25) hx hb hts i_Model t_Model t_Model_ok n_Model hown hK hP hS h1 rfl 0 (by decide) (hts _ k_Model_51) (fun _ h9 => h9) rfl (by decide +kernel) rfl rfl (Nat.le_of_ble_eq_true rfl) d_Model_undo_2 (fun H locs hP hS => ?_)
  obtain ⟨w2, ew2⟩ : ∃ z9 : hv_W, z9 = va_up w (K 0) (some (.inr (7, [.int 0, .ref (K 1), .ref (K 2), .ref (K 3), .ref (K 4), .ref (K 5), .ref (K 6), .ref (K 7), .ref (K 8), .ref (K 9), .ref (K 10), .ref (K 11), .ref (K 12), .int (nI (σ.tape.length)), .ref (K 13), .int (σ.err), .int (σ.off), .int (σ.ins), .int (nI (σ.sc)), .int (nI (σ.ec)), .int (nI (σ.en)), .int (σ.tr), .int (nI (σ.lo)), .int (σ.wr), .int (nI (σ.due))]))) := ⟨_, rfl⟩
  have hP : hv_P D classes s0.heap.size w2 H := by rw [ew2]; exact hP
  have hM : mK ca K w0 ((mAo t9 k9 p9 σ).sThrown 0) B w2 := by rw [ew2]; exact hM.put 0 (by decide) rfl
  have h3 : w2 (K 0) = some (.inr (7, [.int 0, .ref (K 1), .ref (K 2), .ref (K 3), .ref (K 4), .ref (K 5), .ref (K 6), .ref (K 7), .ref (K 8), .ref (K 9), .ref (K 10), .ref (K 11), .ref (K 12), .int (nI (σ.tape.length)), .ref (K 13), .int (σ.err), .int (σ.off), .int (σ.ins), .int (nI (σ.sc)), .int (nI (σ.ec)), .int (nI (σ.en)), .int (σ.tr), .int (nI (σ.lo)), .int (σ.wr), .int (nI (σ.due))])) := by rw [ew2]; exact hv_up_s
  refine lv_aload_n hx hb d_Model_undo_5 rfl (lv_at hl 0 rfl) ?_
  refine va_get (D := D) (ci := 7) (v := .int (nI (σ.sc))) (C := R_Model) (T := F_Model) (N := 25) hx hb hts i_Model hown hK (hv_one hP h3) 0 rfl rfl 18 (by decide) (hts _ k_Model_59) (fun _ h9 => h9) rfl d_Model_undo_6 ?_
  refine lv_istore_n (lv' := [(1, .int (nI (σ.sc))), (0, .ref (K 0))]) hx hb d_Model_undo_9 rfl hl (by decide) rfl (fun ls hl => ?_)
  refine lv_aload_n hx hb d_Model_undo_10 rfl (lv_at hl 1 rfl) ?_
  refine va_get (D := D) (ci := 7) (v := .int (σ.off)) (C := R_Model) (T := F_Model) (N := 25) hx hb hts i_Model hown hK (hv_one hP h3) 0 rfl rfl 16 (by decide) (hts _ k_Model_62) (fun _ h9 => h9) rfl d_Model_undo_11 ?_
  refine lv_if_ne (tgt := 21) hx hb d_Model_undo_14 (by decide) (fun c14 => ?_) (fun c14 => ?_)
  · refine lv_iload_n hx hb d_Model_undo_21 rfl (lv_at hl 0 rfl) ?_
    exact hv_iret (v := nI (σ.sc)) hQ hx hb hr hZ hS hP hlocks d_Model_undo_22 (mRet.of (r' := (s_start σ, 0, nI σ.sc)) (by rw [x_undo, s_undo, if_pos (hW.offs c14).1]) (fun _ => rfl) hM ((hRel.thr 0).start0 (hW.offs c14).1 (hW.offs c14).2.2.2.2) rfl)
  · refine lv_aload_n hx hb d_Model_undo_17 rfl (lv_at hl 1 rfl) ?_
    refine hv_call (hv_runV (As := []) (rest := []) (c_Model_back C hM (hRel.thr 0) hW) (hv_cw C hZ kc_Model_back kn_Model ⟨rfl, rfl, Nat.le_of_ble_eq_true rfl, Nat.le_of_ble_eq_true rfl⟩) hv_blind (hv_pre hZ hS hP) hx hml hb hown (hts _ k_Model_152) (hts _ ki_Model_back) (hts _ ksel_Model_Model_back) hy_Model_back (hts _ kc_Model_back) (va_recv hK (hv_one hP h3) (ci := 7) (q0 := 0) rfl rfl) rfl hl.1 rfl (lv_room (Nat.le_of_ble_eq_true rfl)) d_Model_undo_18 ⟨Nat.le_of_ble_eq_true rfl, Nat.le_of_ble_eq_true rfl⟩) hZ hS (fun v9 w4 H locs q5 hP hS => ?_) (fun x9 w4 H locs q5 hP hS => q5.elim)
    obtain ⟨hv9, A2, B2, hM, hR2, ht2⟩ := q5
    subst hv9
    show W _ _ _ _ _ _ _ _ _ _ _ _ _ _ _ (F0 m 21 ls [])
    refine lv_iload_n hx hb d_Model_undo_21 rfl (lv_at hl 0 rfl) ?_
    exact hv_iret (v := nI (σ.sc)) hQ hx hb hr hZ hS hP hlocks d_Model_undo_22 (mRet.of (r' := (s_undo σ, 0, nI σ.sc)) rfl (fun _ => rfl) hM hR2 ht2)

abbrev rm_Model_begin : Room := { frames := 3, cells := 0, slots := 0, locals := 66 }
set_option maxHeartbeats 4000000 in
set_option maxRecDepth 100000 in
theorem c_Model_begin {l : Launch} {s0 : State} {D : va_G} {ca : Nat → ClassId} (C : hv_C l s0 D (hv_tys ca)) {w : hv_W} {K : Nat → Nat} {w0 : hv_W} {A : mA} {B : mB} {σ : gS} (hM : mK ca K w0 A B w) (hRel : mRel A B σ) (hW : gW σ)  :
    hv_Met l y_Model_begin [.code y_Model_begin b_Model_begin 1 (some .boolean)] rm_Model_begin (hv_Pc s0 D w [.ref (K 0)]) (hv_Q s0 D (fun v w' => mRet ca K w0 (x_begin σ) v w') (fun _ _ => False)) 0 0 (hv_A s0.heap.size) := by
  refine hv_enter C _ (by decide) (Nat.le_of_ble_eq_true rfl) ?_
  intro p e s m below meth c ls Q hQ hx hb hr hml hown hts hK hZ hlocks hname hout htr hP hl
  have hown : s.vm.findClass R_Model = some m.cls := hown
  have hS : va_S (hv_A s0.heap.size) s.heap s.heap [] := va_S.rf
  have hl : lv_has ls 1 [(0, .ref (K 0))] := hl
  obtain ⟨t9, k9, p9, hA9⟩ := mAo_of hRel
  subst hA9
  have hb9 := hW.hb
  have htp9 := hW.tape
  have hdu9 : σ.due ≤ 2000 := hW.2.2.1.2.2.2
  have hen9 : σ.en ≤ 250 := hW.2.2.1.2.1
  have hlo9 : σ.lo ≤ 250 := hW.2.2.1.2.2.1
  refine lv_aload_n hx hb d_Model_begin_0 rfl (lv_at hl 0 rfl) ?_
  refine lv_iconst (v := 0) hx hb d_Model_begin_1 (by decide) ?_
  have h1 : w (K 0) = some (.inr (7, [.int t9, .ref (K 1), .ref (K 2), .ref (K 3), .ref (K 4), .ref (K 5), .ref (K 6), .ref (K 7), .ref (K 8), .ref (K 9), .ref (K 10), .ref (K 11), .ref (K 12), .int (nI (σ.tape.length)), .ref (K 13), .int (σ.err), .int (σ.off), .int (σ.ins), .int (nI (σ.sc)), .int (nI (σ.ec)), .int (nI (σ.en)), .int (σ.tr), .int (nI (σ.lo)), .int (σ.wr), .int (nI (σ.due))])) := hM.1.2 0 (by decide)
  refine hv_put (D := D) (ci := 7) (v := .int 0) (ty := .int) (C := R_Model) (T := F_Model) (N := 25) hx hb hts i_Model t_Model t_Model_ok n_Model hown hK hP hS h1 rfl 0 (by decide) (hts _ k_Model_51) (fun _ h9 => h9) rfl (by decide +kernel) rfl rfl (Nat.le_of_ble_eq_true rfl) d_Model_begin_2 (fun H locs hP hS => ?_)
  obtain ⟨w2, ew2⟩ : ∃ z9 : hv_W, z9 = va_up w (K 0) (some (.inr (7, [.int 0, .ref (K 1), .ref (K 2), .ref (K 3), .ref (K 4), .ref (K 5), .ref (K 6), .ref (K 7), .ref (K 8), .ref (K 9), .ref (K 10), .ref (K 11), .ref (K 12), .int (nI (σ.tape.length)), .ref (K 13), .int (σ.err), .int (σ.off), .int (σ.ins), .int (nI (σ.sc)), .int (nI (σ.ec)), .int (nI (σ.en)), .int (σ.tr), .int (nI (σ.lo)), .int (σ.wr), .int (nI (σ.due))]))) := ⟨_, rfl⟩
  have hP : hv_P D classes s0.heap.size w2 H := by rw [ew2]; exact hP
  have hM : mK ca K w0 ((mAo t9 k9 p9 σ).sThrown 0) B w2 := by rw [ew2]; exact hM.put 0 (by decide) rfl
  have h3 : w2 (K 0) = some (.inr (7, [.int 0, .ref (K 1), .ref (K 2), .ref (K 3), .ref (K 4), .ref (K 5), .ref (K 6), .ref (K 7), .ref (K 8), .ref (K 9), .ref (K 10), .ref (K 11), .ref (K 12), .int (nI (σ.tape.length)), .ref (K 13), .int (σ.err), .int (σ.off), .int (σ.ins), .int (nI (σ.sc)), .int (nI (σ.ec)), .int (nI (σ.en)), .int (σ.tr), .int (nI (σ.lo)), .int (σ.wr), .int (nI (σ.due))])) := by rw [ew2]; exact hv_up_s
  refine lv_aload_n hx hb d_Model_begin_5 rfl (lv_at hl 0 rfl) ?_
  refine va_get (D := D) (ci := 7) (v := .int (σ.off)) (C := R_Model) (T := F_Model) (N := 25) hx hb hts i_Model hown hK (hv_one hP h3) 0 rfl rfl 16 (by decide) (hts _ k_Model_62) (fun _ h9 => h9) rfl d_Model_begin_6 ?_
  refine lv_if_ne (tgt := 19) hx hb d_Model_begin_9 (by decide) (fun c9 => ?_) (fun c9 => ?_)
  · refine lv_iconst (v := 0) hx hb d_Model_begin_19 (by decide) ?_
    exact hv_zret (v := 0) hQ hx hb hr (by decide) hZ hS hP hlocks d_Model_begin_20 (mRet.of (r' := (σ, 0, 0)) (by rw [x_begin, cif_neg (fun z => c9 z.1)]) (fun _ => rfl) hM (hRel.thr 0) rfl)
  · refine lv_aload_n hx hb d_Model_begin_12 rfl (lv_at hl 0 rfl) ?_
    refine va_get (D := D) (ci := 7) (v := .int (σ.ins)) (C := R_Model) (T := F_Model) (N := 25) hx hb hts i_Model hown hK (hv_one hP h3) 0 rfl rfl 17 (by decide) (hts _ k_Model_81) (fun _ h9 => h9) rfl d_Model_begin_13 ?_
    refine lv_if_eq (tgt := 21) hx hb d_Model_begin_16 (by decide) (fun c16 => ?_) (fun c16 => ?_)
    · refine lv_aload_n hx hb d_Model_begin_21 rfl (lv_at hl 0 rfl) ?_
      refine hv_call (hv_runV (As := []) (rest := []) (c_Model_back C hM (hRel.thr 0) hW) (hv_cw C hZ kc_Model_back kn_Model ⟨rfl, rfl, Nat.le_of_ble_eq_true rfl, Nat.le_of_ble_eq_true rfl⟩) hv_blind (hv_pre hZ hS hP) hx hml hb hown (hts _ k_Model_152) (hts _ ki_Model_back) (hts _ ksel_Model_Model_back) hy_Model_back (hts _ kc_Model_back) (va_recv hK (hv_one hP h3) (ci := 7) (q0 := 0) rfl rfl) rfl hl.1 rfl (lv_room (Nat.le_of_ble_eq_true rfl)) d_Model_begin_22 ⟨Nat.le_of_ble_eq_true rfl, Nat.le_of_ble_eq_true rfl⟩) hZ hS (fun v9 w4 H locs q5 hP hS => ?_) (fun x9 w4 H locs q5 hP hS => q5.elim)
      obtain ⟨hv9, A2, B2, hM, hR2, ht2⟩ := q5
      subst hv9
      show W _ _ _ _ _ _ _ _ _ _ _ _ _ _ _ (F0 m 25 ls [])
      refine lv_aload_n hx hb d_Model_begin_25 rfl (lv_at hl 0 rfl) ?_
      refine lv_iconst (v := 1) hx hb d_Model_begin_26 (by decide) ?_
      have h6 : w4 (K 0) = some (.inr (7, [.int A2.thrown, .ref (K 1), .ref (K 2), .ref (K 3), .ref (K 4), .ref (K 5), .ref (K 6), .ref (K 7), .ref (K 8), .ref (K 9), .ref (K 10), .ref (K 11), .ref (K 12), .int (nI A2.tapeSize), .ref (K 13), .int A2.error, .int A2.off, .int A2.inside, .int (nI A2.changes), .int (nI A2.earlier), .int (nI A2.logged), .int A2.over, .int (nI A2.loose), .int A2.written, .int (nI A2.due)])) := hM.1.2 0 (by decide)
      refine hv_put (D := D) (ci := 7) (v := .int 1) (ty := .boolean) (C := R_Model) (T := F_Model) (N := 25) hx hb hts i_Model t_Model t_Model_ok n_Model hown hK hP hS h6 rfl 17 (by decide) (hts _ k_Model_81) (fun _ h9 => h9) rfl (by decide +kernel) (by decide +kernel) (by decide +kernel) (Nat.le_of_ble_eq_true rfl) d_Model_begin_27 (fun H locs hP hS => ?_)
      obtain ⟨w7, ew7⟩ : ∃ z9 : hv_W, z9 = va_up w4 (K 0) (some (.inr (7, [.int A2.thrown, .ref (K 1), .ref (K 2), .ref (K 3), .ref (K 4), .ref (K 5), .ref (K 6), .ref (K 7), .ref (K 8), .ref (K 9), .ref (K 10), .ref (K 11), .ref (K 12), .int (nI A2.tapeSize), .ref (K 13), .int A2.error, .int A2.off, .int 1, .int (nI A2.changes), .int (nI A2.earlier), .int (nI A2.logged), .int A2.over, .int (nI A2.loose), .int A2.written, .int (nI A2.due)]))) := ⟨_, rfl⟩
      have hP : hv_P D classes s0.heap.size w7 H := by rw [ew7]; exact hP
      have hM : mK ca K w0 (A2.sInside 1) B2 w7 := by rw [ew7]; exact hM.put 0 (by decide) rfl
      have h8 : w7 (K 0) = some (.inr (7, [.int A2.thrown, .ref (K 1), .ref (K 2), .ref (K 3), .ref (K 4), .ref (K 5), .ref (K 6), .ref (K 7), .ref (K 8), .ref (K 9), .ref (K 10), .ref (K 11), .ref (K 12), .int (nI A2.tapeSize), .ref (K 13), .int A2.error, .int A2.off, .int 1, .int (nI A2.changes), .int (nI A2.earlier), .int (nI A2.logged), .int A2.over, .int (nI A2.loose), .int A2.written, .int (nI A2.due)])) := by rw [ew7]; exact hv_up_s
      refine lv_aload_n hx hb d_Model_begin_30 rfl (lv_at hl 0 rfl) ?_
      refine lv_iconst (v := 0) hx hb d_Model_begin_31 (by decide) ?_
      refine hv_put (D := D) (ci := 7) (v := .int 0) (ty := .int) (C := R_Model) (T := F_Model) (N := 25) hx hb hts i_Model t_Model t_Model_ok n_Model hown hK hP hS h8 rfl 19 (by decide) (hts _ k_Model_66) (fun _ h9 => h9) rfl (by decide +kernel) rfl rfl (Nat.le_of_ble_eq_true rfl) d_Model_begin_32 (fun H locs hP hS => ?_)
      obtain ⟨w9, ew9⟩ : ∃ z9 : hv_W, z9 = va_up w7 (K 0) (some (.inr (7, [.int A2.thrown, .ref (K 1), .ref (K 2), .ref (K 3), .ref (K 4), .ref (K 5), .ref (K 6), .ref (K 7), .ref (K 8), .ref (K 9), .ref (K 10), .ref (K 11), .ref (K 12), .int (nI A2.tapeSize), .ref (K 13), .int A2.error, .int A2.off, .int 1, .int (nI A2.changes), .int 0, .int (nI A2.logged), .int A2.over, .int (nI A2.loose), .int A2.written, .int (nI A2.due)]))) := ⟨_, rfl⟩
      have hP : hv_P D classes s0.heap.size w9 H := by rw [ew9]; exact hP
      have hM : mK ca K w0 ((A2.sInside 1).sEarlier 0) B2 w9 := by rw [ew9]; exact hM.put 0 (by decide) rfl
      have h10 : w9 (K 0) = some (.inr (7, [.int A2.thrown, .ref (K 1), .ref (K 2), .ref (K 3), .ref (K 4), .ref (K 5), .ref (K 6), .ref (K 7), .ref (K 8), .ref (K 9), .ref (K 10), .ref (K 11), .ref (K 12), .int (nI A2.tapeSize), .ref (K 13), .int A2.error, .int A2.off, .int 1, .int (nI A2.changes), .int 0, .int (nI A2.logged), .int A2.over, .int (nI A2.loose), .int A2.written, .int (nI A2.due)])) := by rw [ew9]; exact hv_up_s
      refine lv_aload_n hx hb d_Model_begin_35 rfl (lv_at hl 0 rfl) ?_
      refine lv_iconst (v := 0) hx hb d_Model_begin_36 (by decide) ?_
      refine lv_iconst (v := 2) hx hb d_Model_begin_37 (by decide) ?_
      refine hv_call (hv_runV (As := [.int 0, .int 2]) (rest := []) (c_Model_copy C (f := 0) (t := 2) (by decide) (by decide) (by decide) hM hR2.1.2.2.2.2) (hv_cw C hZ kc_Model_copy kn_Model ⟨rfl, rfl, Nat.le_of_ble_eq_true rfl, Nat.le_of_ble_eq_true rfl⟩) hv_blind (hv_pre hZ hS hP) hx hml hb hown (hts _ k_Model_72) (hts _ ki_Model_copy) (hts _ ksel_Model_Model_copy) hy_Model_copy (hts _ kc_Model_copy) (va_recv hK (hv_one hP h10) (ci := 7) (q0 := 0) rfl rfl) rfl hl.1 rfl (lv_room (Nat.le_of_ble_eq_true rfl)) d_Model_begin_38 ⟨Nat.le_of_ble_eq_true rfl, Nat.le_of_ble_eq_true rfl⟩) hZ hS (fun v9 w11 H locs q12 hP hS => ?_) (fun x9 w11 H locs q12 hP hS => q12.elim)
      obtain ⟨hv9, B3, hM, hcp⟩ := q12
      subst hv9
      have hcp : mCopy B2 B3 0 2 := hcp
      show W _ _ _ _ _ _ _ _ _ _ _ _ _ _ _ (F0 m 41 ls [])
      refine lv_iconst (v := 1) hx hb d_Model_begin_41 (by decide) ?_
      have hkn := s_undo_now hW c9 c16
      obtain ⟨y1, y2, y3, y4, -⟩ := s_undo_rest (σ := σ)
      have hR3 := hR2.cp2 (y2.trans c16) hcp ⟨by rw [hkn]; exact hW.1.2.2, by rw [y4]; exact hW.1.2.1, by rw [y3]; exact hW.1.2.2⟩
      have hg3 : mG B3 2 (s_undo σ).kept := by rw [y3, ← hkn]; exact hcp.to hR2.1.1 (by rw [hkn]; exact hW.1.2.2)
      exact hv_zret (v := 1) hQ hx hb hr (by decide) hZ hS hP hlocks d_Model_begin_42 (mRet.of (r' := ((s_undo σ).sIns 1, 0, 1)) (by rw [x_begin, cif_pos ⟨c9, c16⟩]) (fun _ => rfl) hM ((hR3.ins1 (v := 1) hg3).ec0 (y1.trans (hW.2.2.2.2.2.2 c16))) ht2)
    · refine lv_iconst (v := 0) hx hb d_Model_begin_19 (by decide) ?_
      exact hv_zret (v := 0) hQ hx hb hr (by decide) hZ hS hP hlocks d_Model_begin_20 (mRet.of (r' := (σ, 0, 0)) (by rw [x_begin, cif_neg (fun z => c16 z.2)]) (fun _ => rfl) hM (hRel.thr 0) rfl)

abbrev rm_Model_done : Room := { frames := 3, cells := 0, slots := 0, locals := 68 }
set_option maxHeartbeats 4000000 in
set_option maxRecDepth 100000 in
theorem c_Model_done {l : Launch} {s0 : State} {D : va_G} {ca : Nat → ClassId} (C : hv_C l s0 D (hv_tys ca)) {w : hv_W} {K : Nat → Nat} {w0 : hv_W} {A : mA} {B : mB} {σ : gS} (hM : mK ca K w0 A B w) (hRel : mRel A B σ) (hW : gW σ)  :
    hv_Met l y_Model_done [.code y_Model_done b_Model_done 2 (some .int)] rm_Model_done (hv_Pc s0 D w [.ref (K 0)]) (hv_Q s0 D (fun v w' => mRet ca K w0 (x_done σ) v w') (fun _ _ => False)) 0 0 (hv_A s0.heap.size) := by
  refine hv_enter C _ (by decide) (Nat.le_of_ble_eq_true rfl) ?_
  intro p e s m below meth c ls Q hQ hx hb hr hml hown hts hK hZ hlocks hname hout htr hP hl
  have hown : s.vm.findClass R_Model = some m.cls := hown
  have hS : va_S (hv_A s0.heap.size) s.heap s.heap [] := va_S.rf
  have hl : lv_has ls 2 [(0, .ref (K 0))] := hl
  obtain ⟨t9, k9, p9, hA9⟩ := mAo_of hRel
  subst hA9
  have hb9 := hW.hb
  have htp9 := hW.tape
  have hdu9 : σ.due ≤ 2000 := hW.2.2.1.2.2.2
  have hen9 : σ.en ≤ 250 := hW.2.2.1.2.1
  have hlo9 : σ.lo ≤ 250 := hW.2.2.1.2.2.1
  refine lv_aload_n hx hb d_Model_done_0 rfl (lv_at hl 0 rfl) ?_
  refine lv_aload_n hx hb d_Model_done_1 rfl (lv_at hl 0 rfl) ?_
  have h1 : w (K 0) = some (.inr (7, [.int t9, .ref (K 1), .ref (K 2), .ref (K 3), .ref (K 4), .ref (K 5), .ref (K 6), .ref (K 7), .ref (K 8), .ref (K 9), .ref (K 10), .ref (K 11), .ref (K 12), .int (nI (σ.tape.length)), .ref (K 13), .int (σ.err), .int (σ.off), .int (σ.ins), .int (nI (σ.sc)), .int (nI (σ.ec)), .int (nI (σ.en)), .int (σ.tr), .int (nI (σ.lo)), .int (σ.wr), .int (nI (σ.due))])) := hM.1.2 0 (by decide)
  refine va_get (D := D) (ci := 7) (v := .int (σ.off)) (C := R_Model) (T := F_Model) (N := 25) hx hb hts i_Model hown hK (hv_one hP h1) 0 rfl rfl 16 (by decide) (hts _ k_Model_62) (fun _ h9 => h9) rfl d_Model_done_2 ?_
  refine lv_if_eq (tgt := 12) hx hb d_Model_done_5 (by decide) (fun c5 => ?_) (fun c5 => ?_)
  · refine lv_iconst (v := 0) hx hb d_Model_done_12 (by decide) ?_
    refine hv_put (D := D) (ci := 7) (v := .int 0) (ty := .int) (C := R_Model) (T := F_Model) (N := 25) hx hb hts i_Model t_Model t_Model_ok n_Model hown hK hP hS h1 rfl 0 (by decide) (hts _ k_Model_51) (fun _ h9 => h9) rfl (by decide +kernel) rfl rfl (Nat.le_of_ble_eq_true rfl) d_Model_done_13 (fun H locs hP hS => ?_)
    obtain ⟨w2, ew2⟩ : ∃ z9 : hv_W, z9 = va_up w (K 0) (some (.inr (7, [.int 0, .ref (K 1), .ref (K 2), .ref (K 3), .ref (K 4), .ref (K 5), .ref (K 6), .ref (K 7), .ref (K 8), .ref (K 9), .ref (K 10), .ref (K 11), .ref (K 12), .int (nI (σ.tape.length)), .ref (K 13), .int (σ.err), .int (σ.off), .int (σ.ins), .int (nI (σ.sc)), .int (nI (σ.ec)), .int (nI (σ.en)), .int (σ.tr), .int (nI (σ.lo)), .int (σ.wr), .int (nI (σ.due))]))) := ⟨_, rfl⟩
    have hP : hv_P D classes s0.heap.size w2 H := by rw [ew2]; exact hP
    have hM : mK ca K w0 ((mAo t9 k9 p9 σ).sThrown 0) B w2 := by rw [ew2]; exact hM.put 0 (by decide) rfl
    have h3 : w2 (K 0) = some (.inr (7, [.int 0, .ref (K 1), .ref (K 2), .ref (K 3), .ref (K 4), .ref (K 5), .ref (K 6), .ref (K 7), .ref (K 8), .ref (K 9), .ref (K 10), .ref (K 11), .ref (K 12), .int (nI (σ.tape.length)), .ref (K 13), .int (σ.err), .int (σ.off), .int (σ.ins), .int (nI (σ.sc)), .int (nI (σ.ec)), .int (nI (σ.en)), .int (σ.tr), .int (nI (σ.lo)), .int (σ.wr), .int (nI (σ.due))])) := by rw [ew2]; exact hv_up_s
    refine lv_aload_n hx hb d_Model_done_16 rfl (lv_at hl 0 rfl) ?_
    refine va_get (D := D) (ci := 7) (v := .int (σ.off)) (C := R_Model) (T := F_Model) (N := 25) hx hb hts i_Model hown hK (hv_one hP h3) 0 rfl rfl 16 (by decide) (hts _ k_Model_62) (fun _ h9 => h9) rfl d_Model_done_17 ?_
    refine lv_if_eq (tgt := 25) hx hb d_Model_done_20 (by decide) (fun c20 => ?_) (fun c20 => ?_)
    · refine lv_aload_n hx hb d_Model_done_25 rfl (lv_at hl 0 rfl) ?_
      refine va_get (D := D) (ci := 7) (v := .int (nI (σ.sc))) (C := R_Model) (T := F_Model) (N := 25) hx hb hts i_Model hown hK (hv_one hP h3) 0 rfl rfl 18 (by decide) (hts _ k_Model_59) (fun _ h9 => h9) rfl d_Model_done_26 ?_
      refine lv_istore_n (lv' := [(1, .int (nI (σ.sc))), (0, .ref (K 0))]) hx hb d_Model_done_29 rfl hl (by decide) rfl (fun ls hl => ?_)
      refine lv_aload_n hx hb d_Model_done_30 rfl (lv_at hl 1 rfl) ?_
      refine va_get (D := D) (ci := 7) (v := .int (σ.ins)) (C := R_Model) (T := F_Model) (N := 25) hx hb hts i_Model hown hK (hv_one hP h3) 0 rfl rfl 17 (by decide) (hts _ k_Model_81) (fun _ h9 => h9) rfl d_Model_done_31 ?_
      refine lv_if_eq (tgt := 53) hx hb d_Model_done_34 (by decide) (fun c34 => ?_) (fun c34 => ?_)
      · refine lv_iload_n hx hb d_Model_done_53 rfl (lv_at hl 0 rfl) ?_
        refine gk_if_ne (x := σ.sc) (tgt := 63) hx hb d_Model_done_54 (by decide) (by omega) (fun c54 => ?_) (fun c54 => ?_)
        · refine lv_aload_n hx hb d_Model_done_63 rfl (lv_at hl 1 rfl) ?_
          refine lv_iload_n hx hb d_Model_done_64 rfl (lv_at hl 0 rfl) ?_
          refine hv_call (hv_runV (As := [.int (nI (σ.sc))]) (rest := []) (c_Model_fits C (k := σ.sc) hM (by omega) hen9) (hv_cw C hZ kc_Model_fits kn_Model ⟨rfl, rfl, Nat.le_of_ble_eq_true rfl, Nat.le_of_ble_eq_true rfl⟩) hv_blind (hv_pre hZ hS hP) hx hml hb hown (hts _ k_Model_148) (hts _ ki_Model_fits) (hts _ ksel_Model_Model_fits) hy_Model_fits (hts _ kc_Model_fits) (va_recv hK (hv_one hP h3) (ci := 7) (q0 := 0) rfl rfl) rfl hl.1 rfl (lv_room (Nat.le_of_ble_eq_true rfl)) d_Model_done_65 ⟨Nat.le_of_ble_eq_true rfl, Nat.le_of_ble_eq_true rfl⟩) hZ hS (fun v9 w4 H locs q5 hP hS => ?_) (fun x9 w4 H locs q5 hP hS => q5.elim)
          obtain ⟨hv9, hw9⟩ := q5
          subst hv9
          rw [hw9] at hP
          show W _ _ _ _ _ _ _ _ _ _ _ _ _ _ _ (F0 m 68 ls [.int (if σ.en + σ.sc + 1 ≤ 250 then 1 else 0)])
          refine lv_if_ne (tgt := 88) hx hb d_Model_done_68 (by decide) (fun c68 => ?_) (fun c68 => ?_)
          · have hrm : x_room σ σ.sc := by have z9 : σ.en + σ.sc + 1 ≤ 250 := Classical.byContradiction fun z => c68 (if_neg z); unfold x_room x_wf; rw [if_neg c54]; omega
            refine lv_aload_n hx hb d_Model_done_88 rfl (lv_at hl 1 rfl) ?_
            refine lv_iload_n hx hb d_Model_done_89 rfl (lv_at hl 0 rfl) ?_
            refine hv_call (hv_runV (As := [.int (nI (σ.sc))]) (rest := []) (c_Model_log C (k := σ.sc) hM (hRel.thr 0) hW (hW.2.2.2.2.1 c5).1 (by omega)) (hv_cw C hZ kc_Model_log kn_Model ⟨rfl, rfl, Nat.le_of_ble_eq_true rfl, Nat.le_of_ble_eq_true rfl⟩) hv_blind (hv_pre hZ hS hP) hx hml hb hown (hts _ k_Model_155) (hts _ ki_Model_log) (hts _ ksel_Model_Model_log) hy_Model_log (hts _ kc_Model_log) (va_recv hK (hv_one hP h3) (ci := 7) (q0 := 0) rfl rfl) rfl hl.1 rfl (lv_room (Nat.le_of_ble_eq_true rfl)) d_Model_done_90 ⟨Nat.le_of_ble_eq_true rfl, Nat.le_of_ble_eq_true rfl⟩) hZ hS (fun v9 w6 H locs q7 hP hS => ?_) (fun x9 w6 H locs q7 hP hS => q7.elim)
            rcases q7 with ⟨hcut, hv9, hS9⟩ | ⟨hcut, hv9, A2, B2, hM, hR2, ht2, hin9⟩
            · obtain ⟨A2, B2, hM, hR2, ht2⟩ := hS9
              subst hv9
              show W _ _ _ _ _ _ _ _ _ _ _ _ _ _ _ (F0 m 93 ls [.int 0])
              refine lv_if_ne (tgt := 103) hx hb d_Model_done_93 (by decide) (fun c93 => ?_) (fun c93 => ?_)
              · exact absurd c93 (by decide)
              · refine lv_aload_n hx hb d_Model_done_96 rfl (lv_at hl 1 rfl) ?_
                refine lv_iconst (v := 2) hx hb d_Model_done_97 (by decide) ?_
                have h8 : w6 (K 0) = some (.inr (7, [.int A2.thrown, .ref (K 1), .ref (K 2), .ref (K 3), .ref (K 4), .ref (K 5), .ref (K 6), .ref (K 7), .ref (K 8), .ref (K 9), .ref (K 10), .ref (K 11), .ref (K 12), .int (nI A2.tapeSize), .ref (K 13), .int A2.error, .int A2.off, .int A2.inside, .int (nI A2.changes), .int (nI A2.earlier), .int (nI A2.logged), .int A2.over, .int (nI A2.loose), .int A2.written, .int (nI A2.due)])) := hM.1.2 0 (by decide)
                refine hv_put (D := D) (ci := 7) (v := .int 2) (ty := .int) (C := R_Model) (T := F_Model) (N := 25) hx hb hts i_Model t_Model t_Model_ok n_Model hown hK hP hS h8 rfl 0 (by decide) (hts _ k_Model_51) (fun _ h9 => h9) rfl (by decide +kernel) rfl rfl (Nat.le_of_ble_eq_true rfl) d_Model_done_98 (fun H locs hP hS => ?_)
                obtain ⟨w9, ew9⟩ : ∃ z9 : hv_W, z9 = va_up w6 (K 0) (some (.inr (7, [.int 2, .ref (K 1), .ref (K 2), .ref (K 3), .ref (K 4), .ref (K 5), .ref (K 6), .ref (K 7), .ref (K 8), .ref (K 9), .ref (K 10), .ref (K 11), .ref (K 12), .int (nI A2.tapeSize), .ref (K 13), .int A2.error, .int A2.off, .int A2.inside, .int (nI A2.changes), .int (nI A2.earlier), .int (nI A2.logged), .int A2.over, .int (nI A2.loose), .int A2.written, .int (nI A2.due)]))) := ⟨_, rfl⟩
                have hP : hv_P D classes s0.heap.size w9 H := by rw [ew9]; exact hP
                have hM : mK ca K w0 (A2.sThrown 2) B2 w9 := by rw [ew9]; exact hM.put 0 (by decide) rfl
                have h10 : w9 (K 0) = some (.inr (7, [.int 2, .ref (K 1), .ref (K 2), .ref (K 3), .ref (K 4), .ref (K 5), .ref (K 6), .ref (K 7), .ref (K 8), .ref (K 9), .ref (K 10), .ref (K 11), .ref (K 12), .int (nI A2.tapeSize), .ref (K 13), .int A2.error, .int A2.off, .int A2.inside, .int (nI A2.changes), .int (nI A2.earlier), .int (nI A2.logged), .int A2.over, .int (nI A2.loose), .int A2.written, .int (nI A2.due)])) := by rw [ew9]; exact hv_up_s
                refine lv_iconst (v := 0) hx hb d_Model_done_101 (by decide) ?_
                exact hv_iret (v := 0) hQ hx hb hr hZ hS hP hlocks d_Model_done_102 (mRet.of (r' := ((s_keepF σ), 2, 0)) (by rw [x_done, cif_pos c5, cif_neg (fun z => z.2 hrm), cif_pos ⟨c34, by omega, hcut⟩]) (fun z9 => absurd z9 (show ¬ (2 : Nat) = 0 by decide)) hM (hR2.thr 2) rfl)
            · subst hv9
              have hi2 : A2.inside = 0 := hin9.trans c34
              show W _ _ _ _ _ _ _ _ _ _ _ _ _ _ _ (F0 m 93 ls [.int 1])
              refine lv_if_ne (tgt := 103) hx hb d_Model_done_93 (by decide) (fun c93 => ?_) (fun c93 => ?_)
              · refine lv_aload_n hx hb d_Model_done_103 rfl (lv_at hl 1 rfl) ?_
                have h11 : w6 (K 0) = some (.inr (7, [.int A2.thrown, .ref (K 1), .ref (K 2), .ref (K 3), .ref (K 4), .ref (K 5), .ref (K 6), .ref (K 7), .ref (K 8), .ref (K 9), .ref (K 10), .ref (K 11), .ref (K 12), .int (nI A2.tapeSize), .ref (K 13), .int A2.error, .int A2.off, .int A2.inside, .int (nI A2.changes), .int (nI A2.earlier), .int (nI A2.logged), .int A2.over, .int (nI A2.loose), .int A2.written, .int (nI A2.due)])) := hM.1.2 0 (by decide)
                refine hv_call (hv_runV (As := []) (rest := []) (c_Model_settle C hM) (hv_cw C hZ kc_Model_settle kn_Model ⟨rfl, rfl, Nat.le_of_ble_eq_true rfl, Nat.le_of_ble_eq_true rfl⟩) hv_blind (hv_pre hZ hS hP) hx hml hb hown (hts _ k_Model_75) (hts _ ki_Model_settle) (hts _ ksel_Model_Model_settle) hy_Model_settle (hts _ kc_Model_settle) (va_recv hK (hv_one hP h11) (ci := 7) (q0 := 0) rfl rfl) rfl hl.1 rfl (lv_room (Nat.le_of_ble_eq_true rfl)) d_Model_done_104 ⟨Nat.le_of_ble_eq_true rfl, Nat.le_of_ble_eq_true rfl⟩) hZ hS (fun v9 w12 H locs q13 hP hS => ?_) (fun x9 w12 H locs q13 hP hS => q13.elim)
                obtain ⟨hv9, g9, hM, hz9⟩ := q13
                subst hv9
                show W _ _ _ _ _ _ _ _ _ _ _ _ _ _ _ (F0 m 107 ls [])
                refine lv_iload_n hx hb d_Model_done_107 rfl (lv_at hl 0 rfl) ?_
                exact hv_iret (v := nI (σ.sc)) hQ hx hb hr hZ hS hP hlocks d_Model_done_108 (mRet.of (r' := (s_close (s_keepO σ σ.sc), 0, nI σ.sc)) (by rw [x_done, cif_pos c5, cif_neg (fun z => z.2 hrm), cif_neg (fun z => hcut z.2.2), cif_pos ⟨c34, by omega⟩]) (fun _ => rfl) hM ((mRel.un0 hR2 hi2 (show (s_keepO σ σ.sc).ins = 0 from c34)).closeO (show (s_keepO σ σ.sc).ins = 0 from c34) hz9) ht2)
              · exact absurd c93 (by decide)
          · have hrm : ¬ x_room σ σ.sc := by have z9 : ¬ σ.en + σ.sc + 1 ≤ 250 := (fun z => by rw [if_pos z] at c68; exact absurd c68 (by decide)); unfold x_room x_wf; rw [if_neg c54]; omega
            refine lv_aload_n hx hb d_Model_done_71 rfl (lv_at hl 1 rfl) ?_
            refine hv_call (hv_runV (As := []) (rest := []) (c_Model_back C hM (hRel.thr 0) hW) (hv_cw C hZ kc_Model_back kn_Model ⟨rfl, rfl, Nat.le_of_ble_eq_true rfl, Nat.le_of_ble_eq_true rfl⟩) hv_blind (hv_pre hZ hS hP) hx hml hb hown (hts _ k_Model_152) (hts _ ki_Model_back) (hts _ ksel_Model_Model_back) hy_Model_back (hts _ kc_Model_back) (va_recv hK (hv_one hP h3) (ci := 7) (q0 := 0) rfl rfl) rfl hl.1 rfl (lv_room (Nat.le_of_ble_eq_true rfl)) d_Model_done_72 ⟨Nat.le_of_ble_eq_true rfl, Nat.le_of_ble_eq_true rfl⟩) hZ hS (fun v9 w14 H locs q15 hP hS => ?_) (fun x9 w14 H locs q15 hP hS => q15.elim)
            obtain ⟨hv9, A2, B2, hM, hR2, ht2⟩ := q15
            subst hv9
            show W _ _ _ _ _ _ _ _ _ _ _ _ _ _ _ (F0 m 75 ls [])
            refine lv_aload_n hx hb d_Model_done_75 rfl (lv_at hl 1 rfl) ?_
            refine lv_bipush (v := 9) hx hb d_Model_done_76 (by decide) ?_
            have h16 : w14 (K 0) = some (.inr (7, [.int A2.thrown, .ref (K 1), .ref (K 2), .ref (K 3), .ref (K 4), .ref (K 5), .ref (K 6), .ref (K 7), .ref (K 8), .ref (K 9), .ref (K 10), .ref (K 11), .ref (K 12), .int (nI A2.tapeSize), .ref (K 13), .int A2.error, .int A2.off, .int A2.inside, .int (nI A2.changes), .int (nI A2.earlier), .int (nI A2.logged), .int A2.over, .int (nI A2.loose), .int A2.written, .int (nI A2.due)])) := hM.1.2 0 (by decide)
            refine hv_put (D := D) (ci := 7) (v := .int 9) (ty := .int) (C := R_Model) (T := F_Model) (N := 25) hx hb hts i_Model t_Model t_Model_ok n_Model hown hK hP hS h16 rfl 15 (by decide) (hts _ k_Model_69) (fun _ h9 => h9) rfl (by decide +kernel) rfl rfl (Nat.le_of_ble_eq_true rfl) d_Model_done_78 (fun H locs hP hS => ?_)
            obtain ⟨w17, ew17⟩ : ∃ z9 : hv_W, z9 = va_up w14 (K 0) (some (.inr (7, [.int A2.thrown, .ref (K 1), .ref (K 2), .ref (K 3), .ref (K 4), .ref (K 5), .ref (K 6), .ref (K 7), .ref (K 8), .ref (K 9), .ref (K 10), .ref (K 11), .ref (K 12), .int (nI A2.tapeSize), .ref (K 13), .int 9, .int A2.off, .int A2.inside, .int (nI A2.changes), .int (nI A2.earlier), .int (nI A2.logged), .int A2.over, .int (nI A2.loose), .int A2.written, .int (nI A2.due)]))) := ⟨_, rfl⟩
            have hP : hv_P D classes s0.heap.size w17 H := by rw [ew17]; exact hP
            have hM : mK ca K w0 (A2.sError 9) B2 w17 := by rw [ew17]; exact hM.put 0 (by decide) rfl
            have h18 : w17 (K 0) = some (.inr (7, [.int A2.thrown, .ref (K 1), .ref (K 2), .ref (K 3), .ref (K 4), .ref (K 5), .ref (K 6), .ref (K 7), .ref (K 8), .ref (K 9), .ref (K 10), .ref (K 11), .ref (K 12), .int (nI A2.tapeSize), .ref (K 13), .int 9, .int A2.off, .int A2.inside, .int (nI A2.changes), .int (nI A2.earlier), .int (nI A2.logged), .int A2.over, .int (nI A2.loose), .int A2.written, .int (nI A2.due)])) := by rw [ew17]; exact hv_up_s
            refine lv_aload_n hx hb d_Model_done_81 rfl (lv_at hl 1 rfl) ?_
            refine lv_iconst (v := 1) hx hb d_Model_done_82 (by decide) ?_
            refine hv_put (D := D) (ci := 7) (v := .int 1) (ty := .int) (C := R_Model) (T := F_Model) (N := 25) hx hb hts i_Model t_Model t_Model_ok n_Model hown hK hP hS h18 rfl 0 (by decide) (hts _ k_Model_51) (fun _ h9 => h9) rfl (by decide +kernel) rfl rfl (Nat.le_of_ble_eq_true rfl) d_Model_done_83 (fun H locs hP hS => ?_)
            obtain ⟨w19, ew19⟩ : ∃ z9 : hv_W, z9 = va_up w17 (K 0) (some (.inr (7, [.int 1, .ref (K 1), .ref (K 2), .ref (K 3), .ref (K 4), .ref (K 5), .ref (K 6), .ref (K 7), .ref (K 8), .ref (K 9), .ref (K 10), .ref (K 11), .ref (K 12), .int (nI A2.tapeSize), .ref (K 13), .int 9, .int A2.off, .int A2.inside, .int (nI A2.changes), .int (nI A2.earlier), .int (nI A2.logged), .int A2.over, .int (nI A2.loose), .int A2.written, .int (nI A2.due)]))) := ⟨_, rfl⟩
            have hP : hv_P D classes s0.heap.size w19 H := by rw [ew19]; exact hP
            have hM : mK ca K w0 ((A2.sThrown 1).sError 9) B2 w19 := by rw [ew19]; exact hM.put 0 (by decide) rfl
            have h20 : w19 (K 0) = some (.inr (7, [.int 1, .ref (K 1), .ref (K 2), .ref (K 3), .ref (K 4), .ref (K 5), .ref (K 6), .ref (K 7), .ref (K 8), .ref (K 9), .ref (K 10), .ref (K 11), .ref (K 12), .int (nI A2.tapeSize), .ref (K 13), .int 9, .int A2.off, .int A2.inside, .int (nI A2.changes), .int (nI A2.earlier), .int (nI A2.logged), .int A2.over, .int (nI A2.loose), .int A2.written, .int (nI A2.due)])) := by rw [ew19]; exact hv_up_s
            refine lv_iconst (v := 0) hx hb d_Model_done_86 (by decide) ?_
            exact hv_iret (v := 0) hQ hx hb hr hZ hS hP hlocks d_Model_done_87 (mRet.of (r' := (((s_undo σ).sErr 9), 1, 0)) (by rw [x_done, cif_pos c5, cif_pos ⟨c34, hrm⟩]) (fun z9 => absurd z9 (show ¬ (1 : Nat) = 0 by decide)) hM ((hR2.err 9).thr 1) rfl)
        · refine lv_aload_n hx hb d_Model_done_57 rfl (lv_at hl 1 rfl) ?_
          refine hv_call (hv_runV (As := []) (rest := []) (c_Model_settle C hM) (hv_cw C hZ kc_Model_settle kn_Model ⟨rfl, rfl, Nat.le_of_ble_eq_true rfl, Nat.le_of_ble_eq_true rfl⟩) hv_blind (hv_pre hZ hS hP) hx hml hb hown (hts _ k_Model_75) (hts _ ki_Model_settle) (hts _ ksel_Model_Model_settle) hy_Model_settle (hts _ kc_Model_settle) (va_recv hK (hv_one hP h3) (ci := 7) (q0 := 0) rfl rfl) rfl hl.1 rfl (lv_room (Nat.le_of_ble_eq_true rfl)) d_Model_done_58 ⟨Nat.le_of_ble_eq_true rfl, Nat.le_of_ble_eq_true rfl⟩) hZ hS (fun v9 w21 H locs q22 hP hS => ?_) (fun x9 w21 H locs q22 hP hS => q22.elim)
          obtain ⟨hv9, g9, hM, hz9⟩ := q22
          subst hv9
          show W _ _ _ _ _ _ _ _ _ _ _ _ _ _ _ (F0 m 61 ls [])
          refine lv_iconst (v := 0) hx hb d_Model_done_61 (by decide) ?_
          exact hv_iret (v := 0) hQ hx hb hr hZ hS hP hlocks d_Model_done_62 (mRet.of (r' := ((s_close σ), 0, (nI σ.sc))) (by rw [x_done, cif_pos c5, cif_neg (fun z => z.2 (by unfold x_room x_wf; rw [if_pos c54]; omega)), cif_neg (fun z => absurd z.2.1 (by omega)), cif_neg (fun z => absurd z.2 (by omega))]) (fun _ => by rw [c54]; rfl) hM ((hRel.thr 0).closeO c34 hz9) rfl)
      · refine lv_aload_n hx hb d_Model_done_37 rfl (lv_at hl 1 rfl) ?_
        refine lv_dup hx hb d_Model_done_38 rfl ?_
        refine va_get (D := D) (ci := 7) (v := .int (nI (σ.ec))) (C := R_Model) (T := F_Model) (N := 25) hx hb hts i_Model hown hK (hv_one hP h3) 0 rfl rfl 19 (by decide) (hts _ k_Model_66) (fun _ h9 => h9) rfl d_Model_done_39 ?_
        refine lv_iload_n hx hb d_Model_done_42 rfl (lv_at hl 0 rfl) ?_
        refine gk_iadd (x := σ.ec) (y := σ.sc) hx hb d_Model_done_43 ?_
        refine hv_put (D := D) (ci := 7) (v := .int (nI ((σ.ec) + (σ.sc)))) (ty := .int) (C := R_Model) (T := F_Model) (N := 25) hx hb hts i_Model t_Model t_Model_ok n_Model hown hK hP hS h3 rfl 19 (by decide) (hts _ k_Model_66) (fun _ h9 => h9) rfl (by decide +kernel) rfl rfl (Nat.le_of_ble_eq_true rfl) d_Model_done_44 (fun H locs hP hS => ?_)
        obtain ⟨w23, ew23⟩ : ∃ z9 : hv_W, z9 = va_up w2 (K 0) (some (.inr (7, [.int 0, .ref (K 1), .ref (K 2), .ref (K 3), .ref (K 4), .ref (K 5), .ref (K 6), .ref (K 7), .ref (K 8), .ref (K 9), .ref (K 10), .ref (K 11), .ref (K 12), .int (nI (σ.tape.length)), .ref (K 13), .int (σ.err), .int (σ.off), .int (σ.ins), .int (nI (σ.sc)), .int (nI ((σ.ec) + (σ.sc))), .int (nI (σ.en)), .int (σ.tr), .int (nI (σ.lo)), .int (σ.wr), .int (nI (σ.due))]))) := ⟨_, rfl⟩
        have hP : hv_P D classes s0.heap.size w23 H := by rw [ew23]; exact hP
        have hM : mK ca K w0 (((mAo t9 k9 p9 σ).sThrown 0).sEarlier ((σ.ec) + (σ.sc))) B w23 := by rw [ew23]; exact hM.put 0 (by decide) rfl
        have h24 : w23 (K 0) = some (.inr (7, [.int 0, .ref (K 1), .ref (K 2), .ref (K 3), .ref (K 4), .ref (K 5), .ref (K 6), .ref (K 7), .ref (K 8), .ref (K 9), .ref (K 10), .ref (K 11), .ref (K 12), .int (nI (σ.tape.length)), .ref (K 13), .int (σ.err), .int (σ.off), .int (σ.ins), .int (nI (σ.sc)), .int (nI ((σ.ec) + (σ.sc))), .int (nI (σ.en)), .int (σ.tr), .int (nI (σ.lo)), .int (σ.wr), .int (nI (σ.due))])) := by rw [ew23]; exact hv_up_s
        refine lv_aload_n hx hb d_Model_done_47 rfl (lv_at hl 1 rfl) ?_
        refine hv_call (hv_runV (As := []) (rest := []) (c_Model_settle C hM) (hv_cw C hZ kc_Model_settle kn_Model ⟨rfl, rfl, Nat.le_of_ble_eq_true rfl, Nat.le_of_ble_eq_true rfl⟩) hv_blind (hv_pre hZ hS hP) hx hml hb hown (hts _ k_Model_75) (hts _ ki_Model_settle) (hts _ ksel_Model_Model_settle) hy_Model_settle (hts _ kc_Model_settle) (va_recv hK (hv_one hP h24) (ci := 7) (q0 := 0) rfl rfl) rfl hl.1 rfl (lv_room (Nat.le_of_ble_eq_true rfl)) d_Model_done_48 ⟨Nat.le_of_ble_eq_true rfl, Nat.le_of_ble_eq_true rfl⟩) hZ hS (fun v9 w25 H locs q26 hP hS => ?_) (fun x9 w25 H locs q26 hP hS => q26.elim)
        obtain ⟨hv9, g9, hM, hz9⟩ := q26
        subst hv9
        show W _ _ _ _ _ _ _ _ _ _ _ _ _ _ _ (F0 m 51 ls [])
        refine lv_iload_n hx hb d_Model_done_51 rfl (lv_at hl 0 rfl) ?_
        exact hv_iret (v := nI (σ.sc)) hQ hx hb hr hZ hS hP hlocks d_Model_done_52 (mRet.of (r' := ((s_close σ), 0, (nI σ.sc))) (by rw [x_done, cif_pos c5, cif_neg (fun z => c34 z.1), cif_neg (fun z => c34 z.1), cif_neg (fun z => c34 z.1)]) (fun _ => rfl) hM ((hRel.thr 0).closeI c34 hz9) rfl)
    · exact absurd c5 c20
  · refine lv_iconst (v := 2) hx hb d_Model_done_8 (by decide) ?_
    refine lv_goto (tgt := 13) hx hb d_Model_done_9 (by decide) ?_
    refine hv_put (D := D) (ci := 7) (v := .int 2) (ty := .int) (C := R_Model) (T := F_Model) (N := 25) hx hb hts i_Model t_Model t_Model_ok n_Model hown hK hP hS h1 rfl 0 (by decide) (hts _ k_Model_51) (fun _ h9 => h9) rfl (by decide +kernel) rfl rfl (Nat.le_of_ble_eq_true rfl) d_Model_done_13 (fun H locs hP hS => ?_)
    obtain ⟨w27, ew27⟩ : ∃ z9 : hv_W, z9 = va_up w (K 0) (some (.inr (7, [.int 2, .ref (K 1), .ref (K 2), .ref (K 3), .ref (K 4), .ref (K 5), .ref (K 6), .ref (K 7), .ref (K 8), .ref (K 9), .ref (K 10), .ref (K 11), .ref (K 12), .int (nI (σ.tape.length)), .ref (K 13), .int (σ.err), .int (σ.off), .int (σ.ins), .int (nI (σ.sc)), .int (nI (σ.ec)), .int (nI (σ.en)), .int (σ.tr), .int (nI (σ.lo)), .int (σ.wr), .int (nI (σ.due))]))) := ⟨_, rfl⟩
    have hP : hv_P D classes s0.heap.size w27 H := by rw [ew27]; exact hP
    have hM : mK ca K w0 ((mAo t9 k9 p9 σ).sThrown 2) B w27 := by rw [ew27]; exact hM.put 0 (by decide) rfl
    have h28 : w27 (K 0) = some (.inr (7, [.int 2, .ref (K 1), .ref (K 2), .ref (K 3), .ref (K 4), .ref (K 5), .ref (K 6), .ref (K 7), .ref (K 8), .ref (K 9), .ref (K 10), .ref (K 11), .ref (K 12), .int (nI (σ.tape.length)), .ref (K 13), .int (σ.err), .int (σ.off), .int (σ.ins), .int (nI (σ.sc)), .int (nI (σ.ec)), .int (nI (σ.en)), .int (σ.tr), .int (nI (σ.lo)), .int (σ.wr), .int (nI (σ.due))])) := by rw [ew27]; exact hv_up_s
    refine lv_aload_n hx hb d_Model_done_16 rfl (lv_at hl 0 rfl) ?_
    refine va_get (D := D) (ci := 7) (v := .int (σ.off)) (C := R_Model) (T := F_Model) (N := 25) hx hb hts i_Model hown hK (hv_one hP h28) 0 rfl rfl 16 (by decide) (hts _ k_Model_62) (fun _ h9 => h9) rfl d_Model_done_17 ?_
    refine lv_if_eq (tgt := 25) hx hb d_Model_done_20 (by decide) (fun c20 => ?_) (fun c20 => ?_)
    · exact absurd c20 c5
    · refine lv_iconst (v := 0) hx hb d_Model_done_23 (by decide) ?_
      exact hv_iret (v := 0) hQ hx hb hr hZ hS hP hlocks d_Model_done_24 (mRet.of (r' := (σ, 2, 0)) (by rw [x_done, cif_neg c5]) (fun z9 => absurd z9 (show ¬ (2 : Nat) = 0 by decide)) hM (hRel.thr 2) rfl)

abbrev rm_Model_rollback : Room := { frames := 2, cells := 0, slots := 0, locals := 46 }
set_option maxHeartbeats 4000000 in
set_option maxRecDepth 100000 in
theorem c_Model_rollback {l : Launch} {s0 : State} {D : va_G} {ca : Nat → ClassId} (C : hv_C l s0 D (hv_tys ca)) {w : hv_W} {K : Nat → Nat} {w0 : hv_W} {A : mA} {B : mB} {σ : gS} (hM : mK ca K w0 A B w) (hRel : mRel A B σ) (hW : gW σ)  :
    hv_Met l y_Model_rollback [.code y_Model_rollback b_Model_rollback 1 (some .boolean)] rm_Model_rollback (hv_Pc s0 D w [.ref (K 0)]) (hv_Q s0 D (fun v w' => mRet ca K w0 (x_rollback σ) v w') (fun _ _ => False)) 0 0 (hv_A s0.heap.size) := by
  refine hv_enter C _ (by decide) (Nat.le_of_ble_eq_true rfl) ?_
  intro p e s m below meth c ls Q hQ hx hb hr hml hown hts hK hZ hlocks hname hout htr hP hl
  have hown : s.vm.findClass R_Model = some m.cls := hown
  have hS : va_S (hv_A s0.heap.size) s.heap s.heap [] := va_S.rf
  have hl : lv_has ls 1 [(0, .ref (K 0))] := hl
  obtain ⟨t9, k9, p9, hA9⟩ := mAo_of hRel
  subst hA9
  have hb9 := hW.hb
  have htp9 := hW.tape
  have hdu9 : σ.due ≤ 2000 := hW.2.2.1.2.2.2
  have hen9 : σ.en ≤ 250 := hW.2.2.1.2.1
  have hlo9 : σ.lo ≤ 250 := hW.2.2.1.2.2.1
  refine lv_aload_n hx hb d_Model_rollback_0 rfl (lv_at hl 0 rfl) ?_
  refine lv_iconst (v := 0) hx hb d_Model_rollback_1 (by decide) ?_
  have h1 : w (K 0) = some (.inr (7, [.int t9, .ref (K 1), .ref (K 2), .ref (K 3), .ref (K 4), .ref (K 5), .ref (K 6), .ref (K 7), .ref (K 8), .ref (K 9), .ref (K 10), .ref (K 11), .ref (K 12), .int (nI (σ.tape.length)), .ref (K 13), .int (σ.err), .int (σ.off), .int (σ.ins), .int (nI (σ.sc)), .int (nI (σ.ec)), .int (nI (σ.en)), .int (σ.tr), .int (nI (σ.lo)), .int (σ.wr), .int (nI (σ.due))])) := hM.1.2 0 (by decide)
  refine hv_put (D := D) (ci := 7) (v := .int 0) (ty := .int) (C := R_Model) (T := F_Model) (N := 25) hx hb hts i_Model t_Model t_Model_ok n_Model hown hK hP hS h1 rfl 0 (by decide) (hts _ k_Model_51) (fun _ h9 => h9) rfl (by decide +kernel) rfl rfl (Nat.le_of_ble_eq_true rfl) d_Model_rollback_2 (fun H locs hP hS => ?_)
  obtain ⟨w2, ew2⟩ : ∃ z9 : hv_W, z9 = va_up w (K 0) (some (.inr (7, [.int 0, .ref (K 1), .ref (K 2), .ref (K 3), .ref (K 4), .ref (K 5), .ref (K 6), .ref (K 7), .ref (K 8), .ref (K 9), .ref (K 10), .ref (K 11), .ref (K 12), .int (nI (σ.tape.length)), .ref (K 13), .int (σ.err), .int (σ.off), .int (σ.ins), .int (nI (σ.sc)), .int (nI (σ.ec)), .int (nI (σ.en)), .int (σ.tr), .int (nI (σ.lo)), .int (σ.wr), .int (nI (σ.due))]))) := ⟨_, rfl⟩
  have hP : hv_P D classes s0.heap.size w2 H := by rw [ew2]; exact hP
  have hM : mK ca K w0 ((mAo t9 k9 p9 σ).sThrown 0) B w2 := by rw [ew2]; exact hM.put 0 (by decide) rfl
  have h3 : w2 (K 0) = some (.inr (7, [.int 0, .ref (K 1), .ref (K 2), .ref (K 3), .ref (K 4), .ref (K 5), .ref (K 6), .ref (K 7), .ref (K 8), .ref (K 9), .ref (K 10), .ref (K 11), .ref (K 12), .int (nI (σ.tape.length)), .ref (K 13), .int (σ.err), .int (σ.off), .int (σ.ins), .int (nI (σ.sc)), .int (nI (σ.ec)), .int (nI (σ.en)), .int (σ.tr), .int (nI (σ.lo)), .int (σ.wr), .int (nI (σ.due))])) := by rw [ew2]; exact hv_up_s
  refine lv_aload_n hx hb d_Model_rollback_5 rfl (lv_at hl 0 rfl) ?_
  refine va_get (D := D) (ci := 7) (v := .int (σ.ins)) (C := R_Model) (T := F_Model) (N := 25) hx hb hts i_Model hown hK (hv_one hP h3) 0 rfl rfl 17 (by decide) (hts _ k_Model_81) (fun _ h9 => h9) rfl d_Model_rollback_6 ?_
  refine lv_if_ne (tgt := 14) hx hb d_Model_rollback_9 (by decide) (fun c9 => ?_) (fun c9 => ?_)
  · refine lv_aload_n hx hb d_Model_rollback_14 rfl (lv_at hl 0 rfl) ?_
    refine lv_iconst (v := 2) hx hb d_Model_rollback_15 (by decide) ?_
    refine lv_iconst (v := 0) hx hb d_Model_rollback_16 (by decide) ?_
    refine hv_call (hv_runV (As := [.int 2, .int 0]) (rest := []) (c_Model_copy C (f := 2) (t := 0) (by decide) (by decide) (by decide) hM hRel.1.2.2.2.2) (hv_cw C hZ kc_Model_copy kn_Model ⟨rfl, rfl, Nat.le_of_ble_eq_true rfl, Nat.le_of_ble_eq_true rfl⟩) hv_blind (hv_pre hZ hS hP) hx hml hb hown (hts _ k_Model_72) (hts _ ki_Model_copy) (hts _ ksel_Model_Model_copy) hy_Model_copy (hts _ kc_Model_copy) (va_recv hK (hv_one hP h3) (ci := 7) (q0 := 0) rfl rfl) rfl hl.1 rfl (lv_room (Nat.le_of_ble_eq_true rfl)) d_Model_rollback_17 ⟨Nat.le_of_ble_eq_true rfl, Nat.le_of_ble_eq_true rfl⟩) hZ hS (fun v9 w4 H locs q5 hP hS => ?_) (fun x9 w4 H locs q5 hP hS => q5.elim)
    obtain ⟨hv9, B2, hM, hcp⟩ := q5
    subst hv9
    have hcp : mCopy B B2 2 0 := hcp
    show W _ _ _ _ _ _ _ _ _ _ _ _ _ _ _ (F0 m 20 ls [])
    refine lv_aload_n hx hb d_Model_rollback_20 rfl (lv_at hl 0 rfl) ?_
    have h6 : w4 (K 0) = some (.inr (7, [.int 0, .ref (K 1), .ref (K 2), .ref (K 3), .ref (K 4), .ref (K 5), .ref (K 6), .ref (K 7), .ref (K 8), .ref (K 9), .ref (K 10), .ref (K 11), .ref (K 12), .int (nI (σ.tape.length)), .ref (K 13), .int (σ.err), .int (σ.off), .int (σ.ins), .int (nI (σ.sc)), .int (nI (σ.ec)), .int (nI (σ.en)), .int (σ.tr), .int (nI (σ.lo)), .int (σ.wr), .int (nI (σ.due))])) := hM.1.2 0 (by decide)
    refine hv_call (hv_runV (As := []) (rest := []) (c_Model_settle C hM) (hv_cw C hZ kc_Model_settle kn_Model ⟨rfl, rfl, Nat.le_of_ble_eq_true rfl, Nat.le_of_ble_eq_true rfl⟩) hv_blind (hv_pre hZ hS hP) hx hml hb hown (hts _ k_Model_75) (hts _ ki_Model_settle) (hts _ ksel_Model_Model_settle) hy_Model_settle (hts _ kc_Model_settle) (va_recv hK (hv_one hP h6) (ci := 7) (q0 := 0) rfl rfl) rfl hl.1 rfl (lv_room (Nat.le_of_ble_eq_true rfl)) d_Model_rollback_21 ⟨Nat.le_of_ble_eq_true rfl, Nat.le_of_ble_eq_true rfl⟩) hZ hS (fun v9 w7 H locs q8 hP hS => ?_) (fun x9 w7 H locs q8 hP hS => q8.elim)
    obtain ⟨hv9, g9, hM, hz9⟩ := q8
    subst hv9
    show W _ _ _ _ _ _ _ _ _ _ _ _ _ _ _ (F0 m 24 ls [])
    refine lv_aload_n hx hb d_Model_rollback_24 rfl (lv_at hl 0 rfl) ?_
    refine lv_iconst (v := 0) hx hb d_Model_rollback_25 (by decide) ?_
    have h9 : w7 (K 0) = some (.inr (7, [.int 0, .ref (K 1), .ref (K 2), .ref (K 3), .ref (K 4), .ref (K 5), .ref (K 6), .ref (K 7), .ref (K 8), .ref (K 9), .ref (K 10), .ref (K 11), .ref (K 12), .int (nI (σ.tape.length)), .ref (K 13), .int (σ.err), .int (σ.off), .int (σ.ins), .int (nI 0), .int (nI (σ.ec)), .int (nI (σ.en)), .int (σ.tr), .int (nI (σ.lo)), .int (σ.wr), .int (nI (σ.due))])) := hM.1.2 0 (by decide)
    refine hv_put (D := D) (ci := 7) (v := .int 0) (ty := .boolean) (C := R_Model) (T := F_Model) (N := 25) hx hb hts i_Model t_Model t_Model_ok n_Model hown hK hP hS h9 rfl 17 (by decide) (hts _ k_Model_81) (fun _ h9 => h9) rfl (by decide +kernel) (by decide +kernel) (by decide +kernel) (Nat.le_of_ble_eq_true rfl) d_Model_rollback_26 (fun H locs hP hS => ?_)
    obtain ⟨w10, ew10⟩ : ∃ z9 : hv_W, z9 = va_up w7 (K 0) (some (.inr (7, [.int 0, .ref (K 1), .ref (K 2), .ref (K 3), .ref (K 4), .ref (K 5), .ref (K 6), .ref (K 7), .ref (K 8), .ref (K 9), .ref (K 10), .ref (K 11), .ref (K 12), .int (nI (σ.tape.length)), .ref (K 13), .int (σ.err), .int (σ.off), .int 0, .int (nI 0), .int (nI (σ.ec)), .int (nI (σ.en)), .int (σ.tr), .int (nI (σ.lo)), .int (σ.wr), .int (nI (σ.due))]))) := ⟨_, rfl⟩
    have hP : hv_P D classes s0.heap.size w10 H := by rw [ew10]; exact hP
    have hM : mK ca K w0 (((((mAo t9 k9 p9 σ).sTaken g9).sThrown 0).sInside 0).sChanges 0) B2 w10 := by rw [ew10]; exact hM.put 0 (by decide) rfl
    have h11 : w10 (K 0) = some (.inr (7, [.int 0, .ref (K 1), .ref (K 2), .ref (K 3), .ref (K 4), .ref (K 5), .ref (K 6), .ref (K 7), .ref (K 8), .ref (K 9), .ref (K 10), .ref (K 11), .ref (K 12), .int (nI (σ.tape.length)), .ref (K 13), .int (σ.err), .int (σ.off), .int 0, .int (nI 0), .int (nI (σ.ec)), .int (nI (σ.en)), .int (σ.tr), .int (nI (σ.lo)), .int (σ.wr), .int (nI (σ.due))])) := by rw [ew10]; exact hv_up_s
    refine lv_aload_n hx hb d_Model_rollback_29 rfl (lv_at hl 0 rfl) ?_
    refine lv_iconst (v := 0) hx hb d_Model_rollback_30 (by decide) ?_
    refine hv_put (D := D) (ci := 7) (v := .int 0) (ty := .int) (C := R_Model) (T := F_Model) (N := 25) hx hb hts i_Model t_Model t_Model_ok n_Model hown hK hP hS h11 rfl 19 (by decide) (hts _ k_Model_66) (fun _ h9 => h9) rfl (by decide +kernel) rfl rfl (Nat.le_of_ble_eq_true rfl) d_Model_rollback_31 (fun H locs hP hS => ?_)
    obtain ⟨w12, ew12⟩ : ∃ z9 : hv_W, z9 = va_up w10 (K 0) (some (.inr (7, [.int 0, .ref (K 1), .ref (K 2), .ref (K 3), .ref (K 4), .ref (K 5), .ref (K 6), .ref (K 7), .ref (K 8), .ref (K 9), .ref (K 10), .ref (K 11), .ref (K 12), .int (nI (σ.tape.length)), .ref (K 13), .int (σ.err), .int (σ.off), .int 0, .int (nI 0), .int 0, .int (nI (σ.en)), .int (σ.tr), .int (nI (σ.lo)), .int (σ.wr), .int (nI (σ.due))]))) := ⟨_, rfl⟩
    have hP : hv_P D classes s0.heap.size w12 H := by rw [ew12]; exact hP
    have hM : mK ca K w0 ((((((mAo t9 k9 p9 σ).sTaken g9).sThrown 0).sInside 0).sChanges 0).sEarlier 0) B2 w12 := by rw [ew12]; exact hM.put 0 (by decide) rfl
    have h13 : w12 (K 0) = some (.inr (7, [.int 0, .ref (K 1), .ref (K 2), .ref (K 3), .ref (K 4), .ref (K 5), .ref (K 6), .ref (K 7), .ref (K 8), .ref (K 9), .ref (K 10), .ref (K 11), .ref (K 12), .int (nI (σ.tape.length)), .ref (K 13), .int (σ.err), .int (σ.off), .int 0, .int (nI 0), .int 0, .int (nI (σ.en)), .int (σ.tr), .int (nI (σ.lo)), .int (σ.wr), .int (nI (σ.due))])) := by rw [ew12]; exact hv_up_s
    refine lv_iconst (v := 1) hx hb d_Model_rollback_34 (by decide) ?_
    exact hv_zret (v := 1) hQ hx hb hr (by decide) hZ hS hP hlocks d_Model_rollback_35 (mRet.of (r' := ((s_restore σ), 0, 1)) (by rw [x_rollback, cif_neg c9]) (fun _ => rfl) hM (by unfold mRel; simp only [s_restore, s_forget, s_start, mA.pThrown, mA.pTaken, mA.pTapeSize, mA.pTape, mA.pError, mA.pOff, mA.pInside, mA.pChanges, mA.pEarlier, mA.pLogged, mA.pOver, mA.pLoose, mA.pWritten, mA.pDue, gS.pNow, gS.pStm, gS.pKept, gS.pGone, gS.pTape, gS.pErr, gS.pSc, gS.pEc, gS.pIns, gS.pOff, gS.pWr, gS.pEn, gS.pLo, gS.pTr, gS.pDue]; exact ⟨⟨hcp.to (hRel.1.2.2.1 c9) hW.1.2.2, fun z => absurd trivial z, fun z => absurd trivial z, hcp.other hRel.1.2.2.2.1 hW.1.2.2 (by decide), hcp.bo hRel.1.2.2.2.2 (by decide)⟩, ⟨(by first | trivial | rfl), (by first | trivial | rfl), (by first | trivial | rfl), (by first | trivial | rfl), (by first | trivial | rfl)⟩, ⟨(by first | trivial | rfl), (by first | trivial | rfl), (by first | trivial | rfl), (by first | trivial | rfl), (by first | trivial | rfl)⟩, hz9, (by first | trivial | rfl), hRel.2.2.2.2.2⟩) rfl)
  · refine lv_iconst (v := 0) hx hb d_Model_rollback_12 (by decide) ?_
    exact hv_zret (v := 0) hQ hx hb hr (by decide) hZ hS hP hlocks d_Model_rollback_13 (mRet.of (r' := (σ, 0, 0)) (by rw [x_rollback, cif_pos c9]) (fun _ => rfl) hM (hRel.thr 0) rfl)

abbrev rm_Model_recover : Room := { frames := 2, cells := 0, slots := 0, locals := 46 }
set_option maxHeartbeats 4000000 in
set_option maxRecDepth 100000 in
theorem c_Model_recover {l : Launch} {s0 : State} {D : va_G} {ca : Nat → ClassId} (C : hv_C l s0 D (hv_tys ca)) {w : hv_W} {K : Nat → Nat} {w0 : hv_W} {A : mA} {B : mB} {σ : gS} (hM : mK ca K w0 A B w) (hRel : mRel A B σ) (hW : gW σ)  :
    hv_Met l y_Model_recover [.code y_Model_recover b_Model_recover 1 (some .int)] rm_Model_recover (hv_Pc s0 D w [.ref (K 0)]) (hv_Q s0 D (fun v w' => mRet ca K w0 (x_recover σ) v w') (fun _ _ => False)) 0 0 (hv_A s0.heap.size) := by
  refine hv_enter C _ (by decide) (Nat.le_of_ble_eq_true rfl) ?_
  intro p e s m below meth c ls Q hQ hx hb hr hml hown hts hK hZ hlocks hname hout htr hP hl
  have hown : s.vm.findClass R_Model = some m.cls := hown
  have hS : va_S (hv_A s0.heap.size) s.heap s.heap [] := va_S.rf
  have hl : lv_has ls 1 [(0, .ref (K 0))] := hl
  obtain ⟨t9, k9, p9, hA9⟩ := mAo_of hRel
  subst hA9
  have hb9 := hW.hb
  have htp9 := hW.tape
  have hdu9 : σ.due ≤ 2000 := hW.2.2.1.2.2.2
  have hen9 : σ.en ≤ 250 := hW.2.2.1.2.1
  have hlo9 : σ.lo ≤ 250 := hW.2.2.1.2.2.1
  refine lv_aload_n hx hb d_Model_recover_0 rfl (lv_at hl 0 rfl) ?_
  refine lv_iconst (v := 0) hx hb d_Model_recover_1 (by decide) ?_
  have h1 : w (K 0) = some (.inr (7, [.int t9, .ref (K 1), .ref (K 2), .ref (K 3), .ref (K 4), .ref (K 5), .ref (K 6), .ref (K 7), .ref (K 8), .ref (K 9), .ref (K 10), .ref (K 11), .ref (K 12), .int (nI (σ.tape.length)), .ref (K 13), .int (σ.err), .int (σ.off), .int (σ.ins), .int (nI (σ.sc)), .int (nI (σ.ec)), .int (nI (σ.en)), .int (σ.tr), .int (nI (σ.lo)), .int (σ.wr), .int (nI (σ.due))])) := hM.1.2 0 (by decide)
  refine hv_put (D := D) (ci := 7) (v := .int 0) (ty := .int) (C := R_Model) (T := F_Model) (N := 25) hx hb hts i_Model t_Model t_Model_ok n_Model hown hK hP hS h1 rfl 0 (by decide) (hts _ k_Model_51) (fun _ h9 => h9) rfl (by decide +kernel) rfl rfl (Nat.le_of_ble_eq_true rfl) d_Model_recover_2 (fun H locs hP hS => ?_)
  obtain ⟨w2, ew2⟩ : ∃ z9 : hv_W, z9 = va_up w (K 0) (some (.inr (7, [.int 0, .ref (K 1), .ref (K 2), .ref (K 3), .ref (K 4), .ref (K 5), .ref (K 6), .ref (K 7), .ref (K 8), .ref (K 9), .ref (K 10), .ref (K 11), .ref (K 12), .int (nI (σ.tape.length)), .ref (K 13), .int (σ.err), .int (σ.off), .int (σ.ins), .int (nI (σ.sc)), .int (nI (σ.ec)), .int (nI (σ.en)), .int (σ.tr), .int (nI (σ.lo)), .int (σ.wr), .int (nI (σ.due))]))) := ⟨_, rfl⟩
  have hP : hv_P D classes s0.heap.size w2 H := by rw [ew2]; exact hP
  have hM : mK ca K w0 ((mAo t9 k9 p9 σ).sThrown 0) B w2 := by rw [ew2]; exact hM.put 0 (by decide) rfl
  have h3 : w2 (K 0) = some (.inr (7, [.int 0, .ref (K 1), .ref (K 2), .ref (K 3), .ref (K 4), .ref (K 5), .ref (K 6), .ref (K 7), .ref (K 8), .ref (K 9), .ref (K 10), .ref (K 11), .ref (K 12), .int (nI (σ.tape.length)), .ref (K 13), .int (σ.err), .int (σ.off), .int (σ.ins), .int (nI (σ.sc)), .int (nI (σ.ec)), .int (nI (σ.en)), .int (σ.tr), .int (nI (σ.lo)), .int (σ.wr), .int (nI (σ.due))])) := by rw [ew2]; exact hv_up_s
  refine lv_aload_n hx hb d_Model_recover_5 rfl (lv_at hl 0 rfl) ?_
  refine lv_iconst (v := 3) hx hb d_Model_recover_6 (by decide) ?_
  refine lv_iconst (v := 0) hx hb d_Model_recover_7 (by decide) ?_
  refine hv_call (hv_runV (As := [.int 3, .int 0]) (rest := []) (c_Model_copy C (f := 3) (t := 0) (by decide) (by decide) (by decide) hM hRel.1.2.2.2.2) (hv_cw C hZ kc_Model_copy kn_Model ⟨rfl, rfl, Nat.le_of_ble_eq_true rfl, Nat.le_of_ble_eq_true rfl⟩) hv_blind (hv_pre hZ hS hP) hx hml hb hown (hts _ k_Model_72) (hts _ ki_Model_copy) (hts _ ksel_Model_Model_copy) hy_Model_copy (hts _ kc_Model_copy) (va_recv hK (hv_one hP h3) (ci := 7) (q0 := 0) rfl rfl) rfl hl.1 rfl (lv_room (Nat.le_of_ble_eq_true rfl)) d_Model_recover_8 ⟨Nat.le_of_ble_eq_true rfl, Nat.le_of_ble_eq_true rfl⟩) hZ hS (fun v9 w4 H locs q5 hP hS => ?_) (fun x9 w4 H locs q5 hP hS => q5.elim)
  obtain ⟨hv9, B2, hM, hcp⟩ := q5
  subst hv9
  have hcp : mCopy B B2 3 0 := hcp
  show W _ _ _ _ _ _ _ _ _ _ _ _ _ _ _ (F0 m 11 ls [])
  refine lv_aload_n hx hb d_Model_recover_11 rfl (lv_at hl 0 rfl) ?_
  have h6 : w4 (K 0) = some (.inr (7, [.int 0, .ref (K 1), .ref (K 2), .ref (K 3), .ref (K 4), .ref (K 5), .ref (K 6), .ref (K 7), .ref (K 8), .ref (K 9), .ref (K 10), .ref (K 11), .ref (K 12), .int (nI (σ.tape.length)), .ref (K 13), .int (σ.err), .int (σ.off), .int (σ.ins), .int (nI (σ.sc)), .int (nI (σ.ec)), .int (nI (σ.en)), .int (σ.tr), .int (nI (σ.lo)), .int (σ.wr), .int (nI (σ.due))])) := hM.1.2 0 (by decide)
  refine hv_call (hv_runV (As := []) (rest := []) (c_Model_settle C hM) (hv_cw C hZ kc_Model_settle kn_Model ⟨rfl, rfl, Nat.le_of_ble_eq_true rfl, Nat.le_of_ble_eq_true rfl⟩) hv_blind (hv_pre hZ hS hP) hx hml hb hown (hts _ k_Model_75) (hts _ ki_Model_settle) (hts _ ksel_Model_Model_settle) hy_Model_settle (hts _ kc_Model_settle) (va_recv hK (hv_one hP h6) (ci := 7) (q0 := 0) rfl rfl) rfl hl.1 rfl (lv_room (Nat.le_of_ble_eq_true rfl)) d_Model_recover_12 ⟨Nat.le_of_ble_eq_true rfl, Nat.le_of_ble_eq_true rfl⟩) hZ hS (fun v9 w7 H locs q8 hP hS => ?_) (fun x9 w7 H locs q8 hP hS => q8.elim)
  obtain ⟨hv9, g9, hM, hz9⟩ := q8
  subst hv9
  show W _ _ _ _ _ _ _ _ _ _ _ _ _ _ _ (F0 m 15 ls [])
  refine lv_aload_n hx hb d_Model_recover_15 rfl (lv_at hl 0 rfl) ?_
  refine lv_iconst (v := 0) hx hb d_Model_recover_16 (by decide) ?_
  have h9 : w7 (K 0) = some (.inr (7, [.int 0, .ref (K 1), .ref (K 2), .ref (K 3), .ref (K 4), .ref (K 5), .ref (K 6), .ref (K 7), .ref (K 8), .ref (K 9), .ref (K 10), .ref (K 11), .ref (K 12), .int (nI (σ.tape.length)), .ref (K 13), .int (σ.err), .int (σ.off), .int (σ.ins), .int (nI 0), .int (nI (σ.ec)), .int (nI (σ.en)), .int (σ.tr), .int (nI (σ.lo)), .int (σ.wr), .int (nI (σ.due))])) := hM.1.2 0 (by decide)
  refine hv_put (D := D) (ci := 7) (v := .int 0) (ty := .boolean) (C := R_Model) (T := F_Model) (N := 25) hx hb hts i_Model t_Model t_Model_ok n_Model hown hK hP hS h9 rfl 17 (by decide) (hts _ k_Model_81) (fun _ h9 => h9) rfl (by decide +kernel) (by decide +kernel) (by decide +kernel) (Nat.le_of_ble_eq_true rfl) d_Model_recover_17 (fun H locs hP hS => ?_)
  obtain ⟨w10, ew10⟩ : ∃ z9 : hv_W, z9 = va_up w7 (K 0) (some (.inr (7, [.int 0, .ref (K 1), .ref (K 2), .ref (K 3), .ref (K 4), .ref (K 5), .ref (K 6), .ref (K 7), .ref (K 8), .ref (K 9), .ref (K 10), .ref (K 11), .ref (K 12), .int (nI (σ.tape.length)), .ref (K 13), .int (σ.err), .int (σ.off), .int 0, .int (nI 0), .int (nI (σ.ec)), .int (nI (σ.en)), .int (σ.tr), .int (nI (σ.lo)), .int (σ.wr), .int (nI (σ.due))]))) := ⟨_, rfl⟩
  have hP : hv_P D classes s0.heap.size w10 H := by rw [ew10]; exact hP
  have hM : mK ca K w0 (((((mAo t9 k9 p9 σ).sTaken g9).sThrown 0).sInside 0).sChanges 0) B2 w10 := by rw [ew10]; exact hM.put 0 (by decide) rfl
  have h11 : w10 (K 0) = some (.inr (7, [.int 0, .ref (K 1), .ref (K 2), .ref (K 3), .ref (K 4), .ref (K 5), .ref (K 6), .ref (K 7), .ref (K 8), .ref (K 9), .ref (K 10), .ref (K 11), .ref (K 12), .int (nI (σ.tape.length)), .ref (K 13), .int (σ.err), .int (σ.off), .int 0, .int (nI 0), .int (nI (σ.ec)), .int (nI (σ.en)), .int (σ.tr), .int (nI (σ.lo)), .int (σ.wr), .int (nI (σ.due))])) := by rw [ew10]; exact hv_up_s
  refine lv_aload_n hx hb d_Model_recover_20 rfl (lv_at hl 0 rfl) ?_
  refine lv_iconst (v := 0) hx hb d_Model_recover_21 (by decide) ?_
  refine hv_put (D := D) (ci := 7) (v := .int 0) (ty := .int) (C := R_Model) (T := F_Model) (N := 25) hx hb hts i_Model t_Model t_Model_ok n_Model hown hK hP hS h11 rfl 19 (by decide) (hts _ k_Model_66) (fun _ h9 => h9) rfl (by decide +kernel) rfl rfl (Nat.le_of_ble_eq_true rfl) d_Model_recover_22 (fun H locs hP hS => ?_)
  obtain ⟨w12, ew12⟩ : ∃ z9 : hv_W, z9 = va_up w10 (K 0) (some (.inr (7, [.int 0, .ref (K 1), .ref (K 2), .ref (K 3), .ref (K 4), .ref (K 5), .ref (K 6), .ref (K 7), .ref (K 8), .ref (K 9), .ref (K 10), .ref (K 11), .ref (K 12), .int (nI (σ.tape.length)), .ref (K 13), .int (σ.err), .int (σ.off), .int 0, .int (nI 0), .int 0, .int (nI (σ.en)), .int (σ.tr), .int (nI (σ.lo)), .int (σ.wr), .int (nI (σ.due))]))) := ⟨_, rfl⟩
  have hP : hv_P D classes s0.heap.size w12 H := by rw [ew12]; exact hP
  have hM : mK ca K w0 ((((((mAo t9 k9 p9 σ).sTaken g9).sThrown 0).sInside 0).sChanges 0).sEarlier 0) B2 w12 := by rw [ew12]; exact hM.put 0 (by decide) rfl
  have h13 : w12 (K 0) = some (.inr (7, [.int 0, .ref (K 1), .ref (K 2), .ref (K 3), .ref (K 4), .ref (K 5), .ref (K 6), .ref (K 7), .ref (K 8), .ref (K 9), .ref (K 10), .ref (K 11), .ref (K 12), .int (nI (σ.tape.length)), .ref (K 13), .int (σ.err), .int (σ.off), .int 0, .int (nI 0), .int 0, .int (nI (σ.en)), .int (σ.tr), .int (nI (σ.lo)), .int (σ.wr), .int (nI (σ.due))])) := by rw [ew12]; exact hv_up_s
  refine lv_aload_n hx hb d_Model_recover_25 rfl (lv_at hl 0 rfl) ?_
  refine lv_iconst (v := 0) hx hb d_Model_recover_26 (by decide) ?_
  refine hv_put (D := D) (ci := 7) (v := .int 0) (ty := .int) (C := R_Model) (T := F_Model) (N := 25) hx hb hts i_Model t_Model t_Model_ok n_Model hown hK hP hS h13 rfl 22 (by decide) (hts _ k_Model_94) (fun _ h9 => h9) rfl (by decide +kernel) rfl rfl (Nat.le_of_ble_eq_true rfl) d_Model_recover_27 (fun H locs hP hS => ?_)
  obtain ⟨w14, ew14⟩ : ∃ z9 : hv_W, z9 = va_up w12 (K 0) (some (.inr (7, [.int 0, .ref (K 1), .ref (K 2), .ref (K 3), .ref (K 4), .ref (K 5), .ref (K 6), .ref (K 7), .ref (K 8), .ref (K 9), .ref (K 10), .ref (K 11), .ref (K 12), .int (nI (σ.tape.length)), .ref (K 13), .int (σ.err), .int (σ.off), .int 0, .int (nI 0), .int 0, .int (nI (σ.en)), .int (σ.tr), .int 0, .int (σ.wr), .int (nI (σ.due))]))) := ⟨_, rfl⟩
  have hP : hv_P D classes s0.heap.size w14 H := by rw [ew14]; exact hP
  have hM : mK ca K w0 (((((((mAo t9 k9 p9 σ).sTaken g9).sThrown 0).sInside 0).sChanges 0).sEarlier 0).sLoose 0) B2 w14 := by rw [ew14]; exact hM.put 0 (by decide) rfl
  have h15 : w14 (K 0) = some (.inr (7, [.int 0, .ref (K 1), .ref (K 2), .ref (K 3), .ref (K 4), .ref (K 5), .ref (K 6), .ref (K 7), .ref (K 8), .ref (K 9), .ref (K 10), .ref (K 11), .ref (K 12), .int (nI (σ.tape.length)), .ref (K 13), .int (σ.err), .int (σ.off), .int 0, .int (nI 0), .int 0, .int (nI (σ.en)), .int (σ.tr), .int 0, .int (σ.wr), .int (nI (σ.due))])) := by rw [ew14]; exact hv_up_s
  refine lv_aload_n hx hb d_Model_recover_30 rfl (lv_at hl 0 rfl) ?_
  refine lv_iconst (v := 0) hx hb d_Model_recover_31 (by decide) ?_
  refine hv_put (D := D) (ci := 7) (v := .int 0) (ty := .boolean) (C := R_Model) (T := F_Model) (N := 25) hx hb hts i_Model t_Model t_Model_ok n_Model hown hK hP hS h15 rfl 16 (by decide) (hts _ k_Model_62) (fun _ h9 => h9) rfl (by decide +kernel) (by decide +kernel) (by decide +kernel) (Nat.le_of_ble_eq_true rfl) d_Model_recover_32 (fun H locs hP hS => ?_)
  obtain ⟨w16, ew16⟩ : ∃ z9 : hv_W, z9 = va_up w14 (K 0) (some (.inr (7, [.int 0, .ref (K 1), .ref (K 2), .ref (K 3), .ref (K 4), .ref (K 5), .ref (K 6), .ref (K 7), .ref (K 8), .ref (K 9), .ref (K 10), .ref (K 11), .ref (K 12), .int (nI (σ.tape.length)), .ref (K 13), .int (σ.err), .int 0, .int 0, .int (nI 0), .int 0, .int (nI (σ.en)), .int (σ.tr), .int 0, .int (σ.wr), .int (nI (σ.due))]))) := ⟨_, rfl⟩
  have hP : hv_P D classes s0.heap.size w16 H := by rw [ew16]; exact hP
  have hM : mK ca K w0 ((((((((mAo t9 k9 p9 σ).sTaken g9).sThrown 0).sOff 0).sInside 0).sChanges 0).sEarlier 0).sLoose 0) B2 w16 := by rw [ew16]; exact hM.put 0 (by decide) rfl
  have h17 : w16 (K 0) = some (.inr (7, [.int 0, .ref (K 1), .ref (K 2), .ref (K 3), .ref (K 4), .ref (K 5), .ref (K 6), .ref (K 7), .ref (K 8), .ref (K 9), .ref (K 10), .ref (K 11), .ref (K 12), .int (nI (σ.tape.length)), .ref (K 13), .int (σ.err), .int 0, .int 0, .int (nI 0), .int 0, .int (nI (σ.en)), .int (σ.tr), .int 0, .int (σ.wr), .int (nI (σ.due))])) := by rw [ew16]; exact hv_up_s
  refine lv_aload_n hx hb d_Model_recover_35 rfl (lv_at hl 0 rfl) ?_
  refine lv_iconst (v := 0) hx hb d_Model_recover_36 (by decide) ?_
  refine hv_put (D := D) (ci := 7) (v := .int 0) (ty := .int) (C := R_Model) (T := F_Model) (N := 25) hx hb hts i_Model t_Model t_Model_ok n_Model hown hK hP hS h17 rfl 24 (by decide) (hts _ k_Model_78) (fun _ h9 => h9) rfl (by decide +kernel) rfl rfl (Nat.le_of_ble_eq_true rfl) d_Model_recover_37 (fun H locs hP hS => ?_)
  obtain ⟨w18, ew18⟩ : ∃ z9 : hv_W, z9 = va_up w16 (K 0) (some (.inr (7, [.int 0, .ref (K 1), .ref (K 2), .ref (K 3), .ref (K 4), .ref (K 5), .ref (K 6), .ref (K 7), .ref (K 8), .ref (K 9), .ref (K 10), .ref (K 11), .ref (K 12), .int (nI (σ.tape.length)), .ref (K 13), .int (σ.err), .int 0, .int 0, .int (nI 0), .int 0, .int (nI (σ.en)), .int (σ.tr), .int 0, .int (σ.wr), .int 0]))) := ⟨_, rfl⟩
  have hP : hv_P D classes s0.heap.size w18 H := by rw [ew18]; exact hP
  have hM : mK ca K w0 (((((((((mAo t9 k9 p9 σ).sTaken g9).sThrown 0).sOff 0).sInside 0).sChanges 0).sEarlier 0).sLoose 0).sDue 0) B2 w18 := by rw [ew18]; exact hM.put 0 (by decide) rfl
  have h19 : w18 (K 0) = some (.inr (7, [.int 0, .ref (K 1), .ref (K 2), .ref (K 3), .ref (K 4), .ref (K 5), .ref (K 6), .ref (K 7), .ref (K 8), .ref (K 9), .ref (K 10), .ref (K 11), .ref (K 12), .int (nI (σ.tape.length)), .ref (K 13), .int (σ.err), .int 0, .int 0, .int (nI 0), .int 0, .int (nI (σ.en)), .int (σ.tr), .int 0, .int (σ.wr), .int 0])) := by rw [ew18]; exact hv_up_s
  refine lv_aload_n hx hb d_Model_recover_40 rfl (lv_at hl 0 rfl) ?_
  refine va_get (D := D) (ci := 7) (v := .int (σ.tr)) (C := R_Model) (T := F_Model) (N := 25) hx hb hts i_Model hown hK (hv_one hP h19) 0 rfl rfl 21 (by decide) (hts _ k_Model_100) (fun _ h9 => h9) rfl d_Model_recover_41 ?_
  exact hv_iret (v := σ.tr) hQ hx hb hr hZ hS hP hlocks d_Model_recover_44 (mRet.of (r' := ((((s_restore (σ.sOff 0)).sLo 0).sDue 0), 0, σ.tr)) (by rfl) (fun _ => rfl) hM (by unfold mRel; simp only [s_restore, s_forget, s_start, mA.pThrown, mA.pTaken, mA.pTapeSize, mA.pTape, mA.pError, mA.pOff, mA.pInside, mA.pChanges, mA.pEarlier, mA.pLogged, mA.pOver, mA.pLoose, mA.pWritten, mA.pDue, gS.pNow, gS.pStm, gS.pKept, gS.pGone, gS.pTape, gS.pErr, gS.pSc, gS.pEc, gS.pIns, gS.pOff, gS.pWr, gS.pEn, gS.pLo, gS.pTr, gS.pDue]; exact ⟨⟨hcp.to hRel.1.2.2.2.1 hW.1.2.2, fun z => absurd trivial z, fun z => absurd trivial z, hcp.other hRel.1.2.2.2.1 hW.1.2.2 (by decide), hcp.bo hRel.1.2.2.2.2 (by decide)⟩, ⟨(by first | trivial | rfl), (by first | trivial | rfl), (by first | trivial | rfl), (by first | trivial | rfl), (by first | trivial | rfl)⟩, ⟨(by first | trivial | rfl), (by first | trivial | rfl), (by first | trivial | rfl), (by first | trivial | rfl), (by first | trivial | rfl)⟩, hz9, (by first | trivial | rfl), hRel.2.2.2.2.2⟩) rfl)

abbrev rm_Model_cut : Room := { frames := 0, cells := 0, slots := 0, locals := 0 }
set_option maxHeartbeats 4000000 in
set_option maxRecDepth 100000 in
theorem c_Model_cut {l : Launch} {s0 : State} {D : va_G} {ca : Nat → ClassId} (C : hv_C l s0 D (hv_tys ca)) {w : hv_W} {K : Nat → Nat} {w0 : hv_W} {A : mA} {B : mB} {σ : gS} (n : Int32) (hM : mK ca K w0 A B w) (hRel : mRel A B σ) (hW : gW σ)  :
    hv_Met l y_Model_cut [.code y_Model_cut b_Model_cut 2 (some .boolean)] rm_Model_cut (hv_Pc s0 D w [.ref (K 0), .int n]) (hv_Q s0 D (fun v w' => mRet ca K w0 (x_cut σ n) v w') (fun _ _ => False)) 0 0 (hv_A s0.heap.size) := by
  refine hv_enter C _ (by decide) (Nat.le_of_ble_eq_true rfl) ?_
  intro p e s m below meth c ls Q hQ hx hb hr hml hown hts hK hZ hlocks hname hout htr hP hl
  have hown : s.vm.findClass R_Model = some m.cls := hown
  have hS : va_S (hv_A s0.heap.size) s.heap s.heap [] := va_S.rf
  have hl : lv_has ls 2 [(0, .ref (K 0)), (1, .int n)] := hl
  obtain ⟨t9, k9, p9, hA9⟩ := mAo_of hRel
  subst hA9
  have hb9 := hW.hb
  have htp9 := hW.tape
  have hdu9 : σ.due ≤ 2000 := hW.2.2.1.2.2.2
  have hen9 : σ.en ≤ 250 := hW.2.2.1.2.1
  have hlo9 : σ.lo ≤ 250 := hW.2.2.1.2.2.1
  refine lv_aload_n hx hb d_Model_cut_0 rfl (lv_at hl 0 rfl) ?_
  refine lv_iconst (v := 0) hx hb d_Model_cut_1 (by decide) ?_
  have h1 : w (K 0) = some (.inr (7, [.int t9, .ref (K 1), .ref (K 2), .ref (K 3), .ref (K 4), .ref (K 5), .ref (K 6), .ref (K 7), .ref (K 8), .ref (K 9), .ref (K 10), .ref (K 11), .ref (K 12), .int (nI (σ.tape.length)), .ref (K 13), .int (σ.err), .int (σ.off), .int (σ.ins), .int (nI (σ.sc)), .int (nI (σ.ec)), .int (nI (σ.en)), .int (σ.tr), .int (nI (σ.lo)), .int (σ.wr), .int (nI (σ.due))])) := hM.1.2 0 (by decide)
  refine hv_put (D := D) (ci := 7) (v := .int 0) (ty := .int) (C := R_Model) (T := F_Model) (N := 25) hx hb hts i_Model t_Model t_Model_ok n_Model hown hK hP hS h1 rfl 0 (by decide) (hts _ k_Model_51) (fun _ h9 => h9) rfl (by decide +kernel) rfl rfl (Nat.le_of_ble_eq_true rfl) d_Model_cut_2 (fun H locs hP hS => ?_)
  obtain ⟨w2, ew2⟩ : ∃ z9 : hv_W, z9 = va_up w (K 0) (some (.inr (7, [.int 0, .ref (K 1), .ref (K 2), .ref (K 3), .ref (K 4), .ref (K 5), .ref (K 6), .ref (K 7), .ref (K 8), .ref (K 9), .ref (K 10), .ref (K 11), .ref (K 12), .int (nI (σ.tape.length)), .ref (K 13), .int (σ.err), .int (σ.off), .int (σ.ins), .int (nI (σ.sc)), .int (nI (σ.ec)), .int (nI (σ.en)), .int (σ.tr), .int (nI (σ.lo)), .int (σ.wr), .int (nI (σ.due))]))) := ⟨_, rfl⟩
  have hP : hv_P D classes s0.heap.size w2 H := by rw [ew2]; exact hP
  have hM : mK ca K w0 ((mAo t9 k9 p9 σ).sThrown 0) B w2 := by rw [ew2]; exact hM.put 0 (by decide) rfl
  have h3 : w2 (K 0) = some (.inr (7, [.int 0, .ref (K 1), .ref (K 2), .ref (K 3), .ref (K 4), .ref (K 5), .ref (K 6), .ref (K 7), .ref (K 8), .ref (K 9), .ref (K 10), .ref (K 11), .ref (K 12), .int (nI (σ.tape.length)), .ref (K 13), .int (σ.err), .int (σ.off), .int (σ.ins), .int (nI (σ.sc)), .int (nI (σ.ec)), .int (nI (σ.en)), .int (σ.tr), .int (nI (σ.lo)), .int (σ.wr), .int (nI (σ.due))])) := by rw [ew2]; exact hv_up_s
  refine lv_aload_n hx hb d_Model_cut_5 rfl (lv_at hl 0 rfl) ?_
  refine va_get (D := D) (ci := 7) (v := .int (σ.off)) (C := R_Model) (T := F_Model) (N := 25) hx hb hts i_Model hown hK (hv_one hP h3) 0 rfl rfl 16 (by decide) (hts _ k_Model_62) (fun _ h9 => h9) rfl d_Model_cut_6 ?_
  refine lv_if_ne (tgt := 23) hx hb d_Model_cut_9 (by decide) (fun c9 => ?_) (fun c9 => ?_)
  · refine lv_iconst (v := 0) hx hb d_Model_cut_23 (by decide) ?_
    exact hv_zret (v := 0) hQ hx hb hr (by decide) hZ hS hP hlocks d_Model_cut_24 (mRet.of (r' := (σ, 0, 0)) (by rw [x_cut, cif_neg (fun z => c9 z.1)]) (fun _ => rfl) hM (hRel.thr 0) rfl)
  · refine lv_iload_n hx hb d_Model_cut_12 rfl (lv_at hl 1 rfl) ?_
    refine lv_if_lt (tgt := 23) hx hb d_Model_cut_13 (by decide) (fun c13 => ?_) (fun c13 => ?_)
    · refine lv_iconst (v := 0) hx hb d_Model_cut_23 (by decide) ?_
      exact hv_zret (v := 0) hQ hx hb hr (by decide) hZ hS hP hlocks d_Model_cut_24 (mRet.of (r' := (σ, 0, 0)) (by rw [x_cut, cif_neg (fun z => z.2.1 c13)]) (fun _ => rfl) hM (hRel.thr 0) rfl)
    · refine lv_iload_n hx hb d_Model_cut_16 rfl (lv_at hl 1 rfl) ?_
      refine lv_sipush (v := 2000) hx hb d_Model_cut_17 (by decide) ?_
      refine lv_icmp_le (tgt := 25) hx hb d_Model_cut_20 (by decide) (fun c20 => ?_) (fun c20 => ?_)
      · obtain ⟨d9, hd9, he9⟩ := nI_of2 (x := n) (M := 2000) (n := 2000) (by decide) c13 c20
        subst he9
        refine lv_aload_n hx hb d_Model_cut_25 rfl (lv_at hl 0 rfl) ?_
        refine lv_iload_n hx hb d_Model_cut_26 rfl (lv_at hl 1 rfl) ?_
        refine hv_put (D := D) (ci := 7) (v := .int (nI d9)) (ty := .int) (C := R_Model) (T := F_Model) (N := 25) hx hb hts i_Model t_Model t_Model_ok n_Model hown hK hP hS h3 rfl 24 (by decide) (hts _ k_Model_78) (fun _ h9 => h9) rfl (by decide +kernel) rfl rfl (Nat.le_of_ble_eq_true rfl) d_Model_cut_27 (fun H locs hP hS => ?_)
        obtain ⟨w4, ew4⟩ : ∃ z9 : hv_W, z9 = va_up w2 (K 0) (some (.inr (7, [.int 0, .ref (K 1), .ref (K 2), .ref (K 3), .ref (K 4), .ref (K 5), .ref (K 6), .ref (K 7), .ref (K 8), .ref (K 9), .ref (K 10), .ref (K 11), .ref (K 12), .int (nI (σ.tape.length)), .ref (K 13), .int (σ.err), .int (σ.off), .int (σ.ins), .int (nI (σ.sc)), .int (nI (σ.ec)), .int (nI (σ.en)), .int (σ.tr), .int (nI (σ.lo)), .int (σ.wr), .int (nI d9)]))) := ⟨_, rfl⟩
        have hP : hv_P D classes s0.heap.size w4 H := by rw [ew4]; exact hP
        have hM : mK ca K w0 (((mAo t9 k9 p9 σ).sThrown 0).sDue d9) B w4 := by rw [ew4]; exact hM.put 0 (by decide) rfl
        have h5 : w4 (K 0) = some (.inr (7, [.int 0, .ref (K 1), .ref (K 2), .ref (K 3), .ref (K 4), .ref (K 5), .ref (K 6), .ref (K 7), .ref (K 8), .ref (K 9), .ref (K 10), .ref (K 11), .ref (K 12), .int (nI (σ.tape.length)), .ref (K 13), .int (σ.err), .int (σ.off), .int (σ.ins), .int (nI (σ.sc)), .int (nI (σ.ec)), .int (nI (σ.en)), .int (σ.tr), .int (nI (σ.lo)), .int (σ.wr), .int (nI d9)])) := by rw [ew4]; exact hv_up_s
        refine lv_iconst (v := 1) hx hb d_Model_cut_30 (by decide) ?_
        exact hv_zret (v := 1) hQ hx hb hr (by decide) hZ hS hP hlocks d_Model_cut_31 (mRet.of (r' := ((σ.sDue d9), 0, 1)) (by rw [x_cut, cif_pos ⟨c9, c13, c20⟩, nI_clamp (by omega)]) (fun _ => rfl) hM ((hRel.thr 0).du d9) rfl)
      · refine lv_iconst (v := 0) hx hb d_Model_cut_23 (by decide) ?_
        exact hv_zret (v := 0) hQ hx hb hr (by decide) hZ hS hP hlocks d_Model_cut_24 (mRet.of (r' := (σ, 0, 0)) (by rw [x_cut, cif_neg (fun z => c20 z.2.2)]) (fun _ => rfl) hM (hRel.thr 0) rfl)

abbrev rm_Model_has : Room := { frames := 1, cells := 0, slots := 0, locals := 24 }
set_option maxHeartbeats 4000000 in
set_option maxRecDepth 100000 in
theorem c_Model_has {l : Launch} {s0 : State} {D : va_G} {ca : Nat → ClassId} (C : hv_C l s0 D (hv_tys ca)) {w : hv_W} {K : Nat → Nat} {w0 : hv_W} {A : mA} {B : mB} {σ : gS} (n y : Int32) (hM : mK ca K w0 A B w) (hRel : mRel A B σ) (hW : gW σ)  :
    hv_Met l y_Model_has [.code y_Model_has b_Model_has 4 (some .boolean)] rm_Model_has (hv_Pc s0 D w [.ref (K 0), .int n, .int y]) (hv_Q s0 D (fun v w' => v = some (.int (x_has σ n y)) ∧ mS ca K w0 0 σ w') (fun _ _ => False)) 0 0 (hv_A s0.heap.size) := by
  refine hv_enter C _ (by decide) (Nat.le_of_ble_eq_true rfl) ?_
  intro p e s m below meth c ls Q hQ hx hb hr hml hown hts hK hZ hlocks hname hout htr hP hl
  have hown : s.vm.findClass R_Model = some m.cls := hown
  have hS : va_S (hv_A s0.heap.size) s.heap s.heap [] := va_S.rf
  have hl : lv_has ls 4 [(0, .ref (K 0)), (1, .int n), (2, .int y)] := hl
  obtain ⟨t9, k9, p9, hA9⟩ := mAo_of hRel
  subst hA9
  have hb9 := hW.hb
  have htp9 := hW.tape
  have hdu9 : σ.due ≤ 2000 := hW.2.2.1.2.2.2
  have hen9 : σ.en ≤ 250 := hW.2.2.1.2.1
  have hlo9 : σ.lo ≤ 250 := hW.2.2.1.2.2.1
  refine lv_aload_n hx hb d_Model_has_0 rfl (lv_at hl 0 rfl) ?_
  refine lv_iconst (v := 0) hx hb d_Model_has_1 (by decide) ?_
  have h1 : w (K 0) = some (.inr (7, [.int t9, .ref (K 1), .ref (K 2), .ref (K 3), .ref (K 4), .ref (K 5), .ref (K 6), .ref (K 7), .ref (K 8), .ref (K 9), .ref (K 10), .ref (K 11), .ref (K 12), .int (nI (σ.tape.length)), .ref (K 13), .int (σ.err), .int (σ.off), .int (σ.ins), .int (nI (σ.sc)), .int (nI (σ.ec)), .int (nI (σ.en)), .int (σ.tr), .int (nI (σ.lo)), .int (σ.wr), .int (nI (σ.due))])) := hM.1.2 0 (by decide)
  refine hv_put (D := D) (ci := 7) (v := .int 0) (ty := .int) (C := R_Model) (T := F_Model) (N := 25) hx hb hts i_Model t_Model t_Model_ok n_Model hown hK hP hS h1 rfl 0 (by decide) (hts _ k_Model_51) (fun _ h9 => h9) rfl (by decide +kernel) rfl rfl (Nat.le_of_ble_eq_true rfl) d_Model_has_2 (fun H locs hP hS => ?_)
  obtain ⟨w2, ew2⟩ : ∃ z9 : hv_W, z9 = va_up w (K 0) (some (.inr (7, [.int 0, .ref (K 1), .ref (K 2), .ref (K 3), .ref (K 4), .ref (K 5), .ref (K 6), .ref (K 7), .ref (K 8), .ref (K 9), .ref (K 10), .ref (K 11), .ref (K 12), .int (nI (σ.tape.length)), .ref (K 13), .int (σ.err), .int (σ.off), .int (σ.ins), .int (nI (σ.sc)), .int (nI (σ.ec)), .int (nI (σ.en)), .int (σ.tr), .int (nI (σ.lo)), .int (σ.wr), .int (nI (σ.due))]))) := ⟨_, rfl⟩
  have hP : hv_P D classes s0.heap.size w2 H := by rw [ew2]; exact hP
  have hM : mK ca K w0 ((mAo t9 k9 p9 σ).sThrown 0) B w2 := by rw [ew2]; exact hM.put 0 (by decide) rfl
  have h3 : w2 (K 0) = some (.inr (7, [.int 0, .ref (K 1), .ref (K 2), .ref (K 3), .ref (K 4), .ref (K 5), .ref (K 6), .ref (K 7), .ref (K 8), .ref (K 9), .ref (K 10), .ref (K 11), .ref (K 12), .int (nI (σ.tape.length)), .ref (K 13), .int (σ.err), .int (σ.off), .int (σ.ins), .int (nI (σ.sc)), .int (nI (σ.ec)), .int (nI (σ.en)), .int (σ.tr), .int (nI (σ.lo)), .int (σ.wr), .int (nI (σ.due))])) := by rw [ew2]; exact hv_up_s
  refine lv_aload_n hx hb d_Model_has_5 rfl (lv_at hl 0 rfl) ?_
  refine lv_iconst (v := 4) hx hb d_Model_has_6 (by decide) ?_
  refine lv_iload_n hx hb d_Model_has_7 rfl (lv_at hl 1 rfl) ?_
  refine hv_call (hv_runV (As := [.int 4, .int n]) (rest := []) (c_Model_find C 4 n hM) (hv_cw C hZ kc_Model_find kn_Model ⟨rfl, rfl, Nat.le_of_ble_eq_true rfl, Nat.le_of_ble_eq_true rfl⟩) hv_blind (hv_pre hZ hS hP) hx hml hb hown (hts _ k_Model_123) (hts _ ki_Model_find) (hts _ ksel_Model_Model_find) hy_Model_find (hts _ kc_Model_find) (va_recv hK (hv_one hP h3) (ci := 7) (q0 := 0) rfl rfl) rfl hl.1 rfl (lv_room (Nat.le_of_ble_eq_true rfl)) d_Model_has_8 ⟨Nat.le_of_ble_eq_true rfl, Nat.le_of_ble_eq_true rfl⟩) hZ hS (fun v9 w4 H locs q5 hP hS => ?_) (fun x9 w4 H locs q5 hP hS => q5.elim)
  obtain ⟨hv9, hw9⟩ := q5
  subst hv9
  rw [hw9] at hP
  show W _ _ _ _ _ _ _ _ _ _ _ _ _ _ _ (F0 m 11 ls [.int (m_find B 4 n)])
  rw [m_find_eq hRel.1.1]
  cases hf : x_find σ.now 4 n with
  | none =>
    rw [m_find2_n hf]
    show W _ _ _ _ _ _ _ _ _ _ _ _ _ _ _ (F0 m 11 ls [.int ((-1))])
    refine lv_istore_n (lv' := [(3, .int ((-1))), (0, .ref (K 0)), (1, .int n), (2, .int y)]) hx hb d_Model_has_11 rfl hl (by decide) rfl (fun ls hl => ?_)
    refine lv_iload_n hx hb d_Model_has_12 rfl (lv_at hl 0 rfl) ?_
    refine lv_if_lt (tgt := 29) hx hb d_Model_has_13 (by decide) (fun c13 => ?_) (fun c13 => ?_)
    · refine lv_iconst (v := 0) hx hb d_Model_has_29 (by decide) ?_
      exact hv_zret (v := 0) hQ hx hb hr (by decide) hZ hS hP hlocks d_Model_has_30 (⟨by rw [x_has, hf], _, _, hM, hRel.thr 0, rfl⟩)
    · exact absurd c13 (by decide)
  | some it =>
    obtain ⟨i, t⟩ := it
    rw [m_find2_s hf]
    have hi : i < 160 := x_find_lt hf
    have ht : σ.now i = some t := (x_find_some hf).1
    have hw := hW.t hi ht
    show W _ _ _ _ _ _ _ _ _ _ _ _ _ _ _ (F0 m 11 ls [.int (nI i)])
    have hi64 : i < 64 := (x_find_some hf).2.elim (fun z => z.2.1) (fun z => absurd z.1 (by decide))
    have hls : mLs B i t.lab := (hRel.at hi ht).2.2.1 hi64
    refine lv_istore_n (lv' := [(3, .int (nI i)), (0, .ref (K 0)), (1, .int n), (2, .int y)]) hx hb d_Model_has_11 rfl hl (by decide) rfl (fun ls hl => ?_)
    refine lv_iload_n hx hb d_Model_has_12 rfl (lv_at hl 0 rfl) ?_
    refine gk_if_lt (x := i) (tgt := 29) hx hb d_Model_has_13 (by decide) (by omega) ?_
    refine lv_aload_n hx hb d_Model_has_16 rfl (lv_at hl 1 rfl) ?_
    refine lv_iload_n hx hb d_Model_has_17 rfl (lv_at hl 0 rfl) ?_
    refine lv_iload_n hx hb d_Model_has_18 rfl (lv_at hl 3 rfl) ?_
    refine hv_call (hv_runV (As := [.int (nI i), .int y]) (rest := []) (c_Model_isLabeled C y (by omega) hM hls hw.1) (hv_cw C hZ kc_Model_isLabeled kn_Model ⟨rfl, rfl, Nat.le_of_ble_eq_true rfl, Nat.le_of_ble_eq_true rfl⟩) hv_blind (hv_pre hZ hS hP) hx hml hb hown (hts _ k_Model_126) (hts _ ki_Model_isLabeled) (hts _ ksel_Model_Model_isLabeled) hy_Model_isLabeled (hts _ kc_Model_isLabeled) (va_recv hK (hv_one hP h3) (ci := 7) (q0 := 0) rfl rfl) rfl hl.1 rfl (lv_room (Nat.le_of_ble_eq_true rfl)) d_Model_has_19 ⟨Nat.le_of_ble_eq_true rfl, Nat.le_of_ble_eq_true rfl⟩) hZ hS (fun v9 w6 H locs q7 hP hS => ?_) (fun x9 w6 H locs q7 hP hS => q7.elim)
    obtain ⟨hv9, hw9⟩ := q7
    subst hv9
    rw [hw9] at hP
    show W _ _ _ _ _ _ _ _ _ _ _ _ _ _ _ (F0 m 22 ls [.int (if y ∈ t.lab then 1 else 0)])
    refine lv_if_eq (tgt := 29) hx hb d_Model_has_22 (by decide) (fun c22 => ?_) (fun c22 => ?_)
    · refine lv_iconst (v := 0) hx hb d_Model_has_29 (by decide) ?_
      exact hv_zret (v := 0) hQ hx hb hr (by decide) hZ hS hP hlocks d_Model_has_30 (⟨by rw [x_has, hf]; dsimp only; rw [c22], _, _, hM, hRel.thr 0, rfl⟩)
    · refine lv_iconst (v := 1) hx hb d_Model_has_25 (by decide) ?_
      refine lv_goto (tgt := 30) hx hb d_Model_has_26 (by decide) ?_
      exact hv_zret (v := 1) hQ hx hb hr (by decide) hZ hS hP hlocks d_Model_has_30 (⟨by rw [x_has, hf]; dsimp only; rw [if_pos (Classical.byContradiction fun z => c22 (if_neg z))], _, _, hM, hRel.thr 0, rfl⟩)

abbrev rm_Model_state : Room := { frames := 1, cells := 0, slots := 0, locals := 24 }
set_option maxHeartbeats 4000000 in
set_option maxRecDepth 100000 in
theorem c_Model_state {l : Launch} {s0 : State} {D : va_G} {ca : Nat → ClassId} (C : hv_C l s0 D (hv_tys ca)) {w : hv_W} {K : Nat → Nat} {w0 : hv_W} {A : mA} {B : mB} {σ : gS} (wh : Int32) (hM : mK ca K w0 A B w) (hRel : mRel A B σ) (hW : gW σ)  :
    hv_Met l y_Model_state [.code y_Model_state b_Model_state 2 (some .int)] rm_Model_state (hv_Pc s0 D w [.ref (K 0), .int wh]) (hv_Q s0 D (fun v w' => v = some (.int (x_state σ wh)) ∧ mS ca K w0 0 σ w') (fun _ _ => False)) 0 0 (hv_A s0.heap.size) := by
  refine hv_enter C _ (by decide) (Nat.le_of_ble_eq_true rfl) ?_
  intro p e s m below meth c ls Q hQ hx hb hr hml hown hts hK hZ hlocks hname hout htr hP hl
  have hown : s.vm.findClass R_Model = some m.cls := hown
  have hS : va_S (hv_A s0.heap.size) s.heap s.heap [] := va_S.rf
  have hl : lv_has ls 2 [(0, .ref (K 0)), (1, .int wh)] := hl
  obtain ⟨t9, k9, p9, hA9⟩ := mAo_of hRel
  subst hA9
  have hb9 := hW.hb
  have htp9 := hW.tape
  have hdu9 : σ.due ≤ 2000 := hW.2.2.1.2.2.2
  have hen9 : σ.en ≤ 250 := hW.2.2.1.2.1
  have hlo9 : σ.lo ≤ 250 := hW.2.2.1.2.2.1
  refine lv_aload_n hx hb d_Model_state_0 rfl (lv_at hl 0 rfl) ?_
  refine lv_iconst (v := 0) hx hb d_Model_state_1 (by decide) ?_
  have h1 : w (K 0) = some (.inr (7, [.int t9, .ref (K 1), .ref (K 2), .ref (K 3), .ref (K 4), .ref (K 5), .ref (K 6), .ref (K 7), .ref (K 8), .ref (K 9), .ref (K 10), .ref (K 11), .ref (K 12), .int (nI (σ.tape.length)), .ref (K 13), .int (σ.err), .int (σ.off), .int (σ.ins), .int (nI (σ.sc)), .int (nI (σ.ec)), .int (nI (σ.en)), .int (σ.tr), .int (nI (σ.lo)), .int (σ.wr), .int (nI (σ.due))])) := hM.1.2 0 (by decide)
  refine hv_put (D := D) (ci := 7) (v := .int 0) (ty := .int) (C := R_Model) (T := F_Model) (N := 25) hx hb hts i_Model t_Model t_Model_ok n_Model hown hK hP hS h1 rfl 0 (by decide) (hts _ k_Model_51) (fun _ h9 => h9) rfl (by decide +kernel) rfl rfl (Nat.le_of_ble_eq_true rfl) d_Model_state_2 (fun H locs hP hS => ?_)
  obtain ⟨w2, ew2⟩ : ∃ z9 : hv_W, z9 = va_up w (K 0) (some (.inr (7, [.int 0, .ref (K 1), .ref (K 2), .ref (K 3), .ref (K 4), .ref (K 5), .ref (K 6), .ref (K 7), .ref (K 8), .ref (K 9), .ref (K 10), .ref (K 11), .ref (K 12), .int (nI (σ.tape.length)), .ref (K 13), .int (σ.err), .int (σ.off), .int (σ.ins), .int (nI (σ.sc)), .int (nI (σ.ec)), .int (nI (σ.en)), .int (σ.tr), .int (nI (σ.lo)), .int (σ.wr), .int (nI (σ.due))]))) := ⟨_, rfl⟩
  have hP : hv_P D classes s0.heap.size w2 H := by rw [ew2]; exact hP
  have hM : mK ca K w0 ((mAo t9 k9 p9 σ).sThrown 0) B w2 := by rw [ew2]; exact hM.put 0 (by decide) rfl
  have h3 : w2 (K 0) = some (.inr (7, [.int 0, .ref (K 1), .ref (K 2), .ref (K 3), .ref (K 4), .ref (K 5), .ref (K 6), .ref (K 7), .ref (K 8), .ref (K 9), .ref (K 10), .ref (K 11), .ref (K 12), .int (nI (σ.tape.length)), .ref (K 13), .int (σ.err), .int (σ.off), .int (σ.ins), .int (nI (σ.sc)), .int (nI (σ.ec)), .int (nI (σ.en)), .int (σ.tr), .int (nI (σ.lo)), .int (σ.wr), .int (nI (σ.due))])) := by rw [ew2]; exact hv_up_s
  refine lv_iload_n hx hb d_Model_state_5 rfl (lv_at hl 1 rfl) ?_
  by_cases s6_0 : wh = 0
  · refine lv_tableIn (tgt := 48) hx hb d_Model_state_6 (by rw [s6_0]; decide) (by rw [s6_0]; decide) (by rw [s6_0]; rfl) (by decide) ?_
    refine lv_aload_n hx hb d_Model_state_48 rfl (lv_at hl 0 rfl) ?_
    refine lv_iconst (v := 0) hx hb d_Model_state_49 (by decide) ?_
    refine lv_bipush (v := 64) hx hb d_Model_state_50 (by decide) ?_
    refine hv_call (hv_runV (As := [.int 0, .int 64]) (rest := []) (c_Model_count C (lo := 0) (n := 64) hM (by decide) hRel.1.1) (hv_cw C hZ kc_Model_count kn_Model ⟨rfl, rfl, Nat.le_of_ble_eq_true rfl, Nat.le_of_ble_eq_true rfl⟩) hv_blind (hv_pre hZ hS hP) hx hml hb hown (hts _ k_Model_158) (hts _ ki_Model_count) (hts _ ksel_Model_Model_count) hy_Model_count (hts _ kc_Model_count) (va_recv hK (hv_one hP h3) (ci := 7) (q0 := 0) rfl rfl) rfl hl.1 rfl (lv_room (Nat.le_of_ble_eq_true rfl)) d_Model_state_52 ⟨Nat.le_of_ble_eq_true rfl, Nat.le_of_ble_eq_true rfl⟩) hZ hS (fun v9 w4 H locs q5 hP hS => ?_) (fun x9 w4 H locs q5 hP hS => q5.elim)
    obtain ⟨hv9, hw9⟩ := q5
    subst hv9
    rw [hw9] at hP
    show W _ _ _ _ _ _ _ _ _ _ _ _ _ _ _ (F0 m 55 ls [.int (nI (x_cnt σ.now 0 64))])
    exact hv_iret (v := nI (x_cnt σ.now 0 64)) hQ hx hb hr hZ hS hP hlocks d_Model_state_55 (⟨by rw [x_state, if_pos s6_0], _, _, hM, hRel.thr 0, rfl⟩)
  by_cases s6_1 : wh = 1
  · refine lv_tableIn (tgt := 56) hx hb d_Model_state_6 (by rw [s6_1]; decide) (by rw [s6_1]; decide) (by rw [s6_1]; rfl) (by decide) ?_
    refine lv_aload_n hx hb d_Model_state_56 rfl (lv_at hl 0 rfl) ?_
    refine lv_bipush (v := 64) hx hb d_Model_state_57 (by decide) ?_
    refine lv_sipush (v := 160) hx hb d_Model_state_59 (by decide) ?_
    refine hv_call (hv_runV (As := [.int 64, .int 160]) (rest := []) (c_Model_count C (lo := 64) (n := 96) hM (by decide) hRel.1.1) (hv_cw C hZ kc_Model_count kn_Model ⟨rfl, rfl, Nat.le_of_ble_eq_true rfl, Nat.le_of_ble_eq_true rfl⟩) hv_blind (hv_pre hZ hS hP) hx hml hb hown (hts _ k_Model_158) (hts _ ki_Model_count) (hts _ ksel_Model_Model_count) hy_Model_count (hts _ kc_Model_count) (va_recv hK (hv_one hP h3) (ci := 7) (q0 := 0) rfl rfl) rfl hl.1 rfl (lv_room (Nat.le_of_ble_eq_true rfl)) d_Model_state_62 ⟨Nat.le_of_ble_eq_true rfl, Nat.le_of_ble_eq_true rfl⟩) hZ hS (fun v9 w6 H locs q7 hP hS => ?_) (fun x9 w6 H locs q7 hP hS => q7.elim)
    obtain ⟨hv9, hw9⟩ := q7
    subst hv9
    rw [hw9] at hP
    show W _ _ _ _ _ _ _ _ _ _ _ _ _ _ _ (F0 m 65 ls [.int (nI (x_cnt σ.now 64 96))])
    exact hv_iret (v := nI (x_cnt σ.now 64 96)) hQ hx hb hr hZ hS hP hlocks d_Model_state_65 (⟨by rw [x_state, if_neg s6_0, if_pos s6_1], _, _, hM, hRel.thr 0, rfl⟩)
  by_cases s6_2 : wh = 2
  · refine lv_tableIn (tgt := 66) hx hb d_Model_state_6 (by rw [s6_2]; decide) (by rw [s6_2]; decide) (by rw [s6_2]; rfl) (by decide) ?_
    refine lv_aload_n hx hb d_Model_state_66 rfl (lv_at hl 0 rfl) ?_
    refine va_get (D := D) (ci := 7) (v := .int (σ.wr)) (C := R_Model) (T := F_Model) (N := 25) hx hb hts i_Model hown hK (hv_one hP h3) 0 rfl rfl 23 (by decide) (hts _ k_Model_87) (fun _ h9 => h9) rfl d_Model_state_67 ?_
    exact hv_iret (v := σ.wr) hQ hx hb hr hZ hS hP hlocks d_Model_state_70 (⟨by rw [x_state, if_neg s6_0, if_neg s6_1, if_pos s6_2], _, _, hM, hRel.thr 0, rfl⟩)
  by_cases s6_3 : wh = 3
  · refine lv_tableIn (tgt := 71) hx hb d_Model_state_6 (by rw [s6_3]; decide) (by rw [s6_3]; decide) (by rw [s6_3]; rfl) (by decide) ?_
    refine lv_aload_n hx hb d_Model_state_71 rfl (lv_at hl 0 rfl) ?_
    refine va_get (D := D) (ci := 7) (v := .int (nI (σ.en))) (C := R_Model) (T := F_Model) (N := 25) hx hb hts i_Model hown hK (hv_one hP h3) 0 rfl rfl 20 (by decide) (hts _ k_Model_97) (fun _ h9 => h9) rfl d_Model_state_72 ?_
    refine lv_aload_n hx hb d_Model_state_75 rfl (lv_at hl 0 rfl) ?_
    refine va_get (D := D) (ci := 7) (v := .int (nI (σ.lo))) (C := R_Model) (T := F_Model) (N := 25) hx hb hts i_Model hown hK (hv_one hP h3) 0 rfl rfl 22 (by decide) (hts _ k_Model_94) (fun _ h9 => h9) rfl d_Model_state_76 ?_
    refine gk_iadd (x := σ.en) (y := σ.lo) hx hb d_Model_state_79 ?_
    exact hv_iret (v := nI ((σ.en) + (σ.lo))) hQ hx hb hr hZ hS hP hlocks d_Model_state_80 (⟨by rw [x_state, if_neg s6_0, if_neg s6_1, if_neg s6_2, if_pos s6_3], _, _, hM, hRel.thr 0, rfl⟩)
  by_cases s6_4 : wh = 4
  · refine lv_tableIn (tgt := 81) hx hb d_Model_state_6 (by rw [s6_4]; decide) (by rw [s6_4]; decide) (by rw [s6_4]; rfl) (by decide) ?_
    refine lv_aload_n hx hb d_Model_state_81 rfl (lv_at hl 0 rfl) ?_
    refine va_get (D := D) (ci := 7) (v := .int (σ.off)) (C := R_Model) (T := F_Model) (N := 25) hx hb hts i_Model hown hK (hv_one hP h3) 0 rfl rfl 16 (by decide) (hts _ k_Model_62) (fun _ h9 => h9) rfl d_Model_state_82 ?_
    refine lv_if_eq (tgt := 92) hx hb d_Model_state_85 (by decide) (fun c85 => ?_) (fun c85 => ?_)
    · refine lv_iconst (v := 0) hx hb d_Model_state_92 (by decide) ?_
      exact hv_iret (v := 0) hQ hx hb hr hZ hS hP hlocks d_Model_state_93 (⟨by rw [x_state, if_neg s6_0, if_neg s6_1, if_neg s6_2, if_neg s6_3, if_pos s6_4, if_pos c85], _, _, hM, hRel.thr 0, rfl⟩)
    · refine lv_iconst (v := 1) hx hb d_Model_state_88 (by decide) ?_
      refine lv_goto (tgt := 93) hx hb d_Model_state_89 (by decide) ?_
      exact hv_iret (v := 1) hQ hx hb hr hZ hS hP hlocks d_Model_state_93 (⟨by rw [x_state, if_neg s6_0, if_neg s6_1, if_neg s6_2, if_neg s6_3, if_pos s6_4, if_neg c85], _, _, hM, hRel.thr 0, rfl⟩)
  by_cases s6_5 : wh = 5
  · refine lv_tableIn (tgt := 94) hx hb d_Model_state_6 (by rw [s6_5]; decide) (by rw [s6_5]; decide) (by rw [s6_5]; rfl) (by decide) ?_
    refine lv_aload_n hx hb d_Model_state_94 rfl (lv_at hl 0 rfl) ?_
    refine va_get (D := D) (ci := 7) (v := .int (σ.ins)) (C := R_Model) (T := F_Model) (N := 25) hx hb hts i_Model hown hK (hv_one hP h3) 0 rfl rfl 17 (by decide) (hts _ k_Model_81) (fun _ h9 => h9) rfl d_Model_state_95 ?_
    refine lv_if_eq (tgt := 105) hx hb d_Model_state_98 (by decide) (fun c98 => ?_) (fun c98 => ?_)
    · refine lv_iconst (v := 0) hx hb d_Model_state_105 (by decide) ?_
      exact hv_iret (v := 0) hQ hx hb hr hZ hS hP hlocks d_Model_state_106 (⟨by rw [x_state, if_neg s6_0, if_neg s6_1, if_neg s6_2, if_neg s6_3, if_neg s6_4, if_pos s6_5, if_pos c98], _, _, hM, hRel.thr 0, rfl⟩)
    · refine lv_iconst (v := 1) hx hb d_Model_state_101 (by decide) ?_
      refine lv_goto (tgt := 106) hx hb d_Model_state_102 (by decide) ?_
      exact hv_iret (v := 1) hQ hx hb hr hZ hS hP hlocks d_Model_state_106 (⟨by rw [x_state, if_neg s6_0, if_neg s6_1, if_neg s6_2, if_neg s6_3, if_neg s6_4, if_pos s6_5, if_neg c98], _, _, hM, hRel.thr 0, rfl⟩)
  by_cases s6_6 : wh = 6
  · refine lv_tableIn (tgt := 107) hx hb d_Model_state_6 (by rw [s6_6]; decide) (by rw [s6_6]; decide) (by rw [s6_6]; rfl) (by decide) ?_
    refine lv_aload_n hx hb d_Model_state_107 rfl (lv_at hl 0 rfl) ?_
    refine va_get (D := D) (ci := 7) (v := .int (nI (σ.ec))) (C := R_Model) (T := F_Model) (N := 25) hx hb hts i_Model hown hK (hv_one hP h3) 0 rfl rfl 19 (by decide) (hts _ k_Model_66) (fun _ h9 => h9) rfl d_Model_state_108 ?_
    refine lv_aload_n hx hb d_Model_state_111 rfl (lv_at hl 0 rfl) ?_
    refine va_get (D := D) (ci := 7) (v := .int (nI (σ.sc))) (C := R_Model) (T := F_Model) (N := 25) hx hb hts i_Model hown hK (hv_one hP h3) 0 rfl rfl 18 (by decide) (hts _ k_Model_59) (fun _ h9 => h9) rfl d_Model_state_112 ?_
    refine gk_iadd (x := σ.ec) (y := σ.sc) hx hb d_Model_state_115 ?_
    exact hv_iret (v := nI ((σ.ec) + (σ.sc))) hQ hx hb hr hZ hS hP hlocks d_Model_state_116 (⟨by rw [x_state, if_neg s6_0, if_neg s6_1, if_neg s6_2, if_neg s6_3, if_neg s6_4, if_neg s6_5, if_pos s6_6], _, _, hM, hRel.thr 0, rfl⟩)
  have t6_0 : (wh).toInt ≠ 0 := fun q => s6_0 (Int32.toInt_inj.mp (q.trans (by decide)))
  have t6_1 : (wh).toInt ≠ 1 := fun q => s6_1 (Int32.toInt_inj.mp (q.trans (by decide)))
  have t6_2 : (wh).toInt ≠ 2 := fun q => s6_2 (Int32.toInt_inj.mp (q.trans (by decide)))
  have t6_3 : (wh).toInt ≠ 3 := fun q => s6_3 (Int32.toInt_inj.mp (q.trans (by decide)))
  have t6_4 : (wh).toInt ≠ 4 := fun q => s6_4 (Int32.toInt_inj.mp (q.trans (by decide)))
  have t6_5 : (wh).toInt ≠ 5 := fun q => s6_5 (Int32.toInt_inj.mp (q.trans (by decide)))
  have t6_6 : (wh).toInt ≠ 6 := fun q => s6_6 (Int32.toInt_inj.mp (q.trans (by decide)))
  refine lv_tableOut (tgt := 117) hx hb d_Model_state_6 (by omega) (by decide) ?_
  refine lv_iconst (v := (-1)) hx hb d_Model_state_117 (by decide) ?_
  exact hv_iret (v := (-1)) hQ hx hb hr hZ hS hP hlocks d_Model_state_118 (⟨by rw [x_state, if_neg s6_0, if_neg s6_1, if_neg s6_2, if_neg s6_3, if_neg s6_4, if_neg s6_5, if_neg s6_6], _, _, hM, hRel.thr 0, rfl⟩)

abbrev rm_Model_commit : Room := { frames := 3, cells := 0, slots := 0, locals := 68 }
set_option maxHeartbeats 4000000 in
set_option maxRecDepth 100000 in
theorem c_Model_commit {l : Launch} {s0 : State} {D : va_G} {ca : Nat → ClassId} (C : hv_C l s0 D (hv_tys ca)) {w : hv_W} {K : Nat → Nat} {w0 : hv_W} {A : mA} {B : mB} {σ : gS} (hM : mK ca K w0 A B w) (hRel : mRel A B σ) (hW : gW σ)  :
    hv_Met l y_Model_commit [.code y_Model_commit b_Model_commit 2 (some .int)] rm_Model_commit (hv_Pc s0 D w [.ref (K 0)]) (hv_Q s0 D (fun v w' => mRet ca K w0 (x_commit σ) v w') (fun _ _ => False)) 0 0 (hv_A s0.heap.size) := by
  refine hv_enter C _ (by decide) (Nat.le_of_ble_eq_true rfl) ?_
  intro p e s m below meth c ls Q hQ hx hb hr hml hown hts hK hZ hlocks hname hout htr hP hl
  have hown : s.vm.findClass R_Model = some m.cls := hown
  have hS : va_S (hv_A s0.heap.size) s.heap s.heap [] := va_S.rf
  have hl : lv_has ls 2 [(0, .ref (K 0))] := hl
  obtain ⟨t9, k9, p9, hA9⟩ := mAo_of hRel
  subst hA9
  have hb9 := hW.hb
  have htp9 := hW.tape
  have hdu9 : σ.due ≤ 2000 := hW.2.2.1.2.2.2
  have hen9 : σ.en ≤ 250 := hW.2.2.1.2.1
  have hlo9 : σ.lo ≤ 250 := hW.2.2.1.2.2.1
  refine lv_aload_n hx hb d_Model_commit_0 rfl (lv_at hl 0 rfl) ?_
  refine lv_aload_n hx hb d_Model_commit_1 rfl (lv_at hl 0 rfl) ?_
  have h1 : w (K 0) = some (.inr (7, [.int t9, .ref (K 1), .ref (K 2), .ref (K 3), .ref (K 4), .ref (K 5), .ref (K 6), .ref (K 7), .ref (K 8), .ref (K 9), .ref (K 10), .ref (K 11), .ref (K 12), .int (nI (σ.tape.length)), .ref (K 13), .int (σ.err), .int (σ.off), .int (σ.ins), .int (nI (σ.sc)), .int (nI (σ.ec)), .int (nI (σ.en)), .int (σ.tr), .int (nI (σ.lo)), .int (σ.wr), .int (nI (σ.due))])) := hM.1.2 0 (by decide)
  refine va_get (D := D) (ci := 7) (v := .int (σ.off)) (C := R_Model) (T := F_Model) (N := 25) hx hb hts i_Model hown hK (hv_one hP h1) 0 rfl rfl 16 (by decide) (hts _ k_Model_62) (fun _ h9 => h9) rfl d_Model_commit_2 ?_
  refine lv_if_eq (tgt := 12) hx hb d_Model_commit_5 (by decide) (fun c5 => ?_) (fun c5 => ?_)
  · refine lv_iconst (v := 0) hx hb d_Model_commit_12 (by decide) ?_
    refine hv_put (D := D) (ci := 7) (v := .int 0) (ty := .int) (C := R_Model) (T := F_Model) (N := 25) hx hb hts i_Model t_Model t_Model_ok n_Model hown hK hP hS h1 rfl 0 (by decide) (hts _ k_Model_51) (fun _ h9 => h9) rfl (by decide +kernel) rfl rfl (Nat.le_of_ble_eq_true rfl) d_Model_commit_13 (fun H locs hP hS => ?_)
    obtain ⟨w2, ew2⟩ : ∃ z9 : hv_W, z9 = va_up w (K 0) (some (.inr (7, [.int 0, .ref (K 1), .ref (K 2), .ref (K 3), .ref (K 4), .ref (K 5), .ref (K 6), .ref (K 7), .ref (K 8), .ref (K 9), .ref (K 10), .ref (K 11), .ref (K 12), .int (nI (σ.tape.length)), .ref (K 13), .int (σ.err), .int (σ.off), .int (σ.ins), .int (nI (σ.sc)), .int (nI (σ.ec)), .int (nI (σ.en)), .int (σ.tr), .int (nI (σ.lo)), .int (σ.wr), .int (nI (σ.due))]))) := ⟨_, rfl⟩
    have hP : hv_P D classes s0.heap.size w2 H := by rw [ew2]; exact hP
    have hM : mK ca K w0 ((mAo t9 k9 p9 σ).sThrown 0) B w2 := by rw [ew2]; exact hM.put 0 (by decide) rfl
    have h3 : w2 (K 0) = some (.inr (7, [.int 0, .ref (K 1), .ref (K 2), .ref (K 3), .ref (K 4), .ref (K 5), .ref (K 6), .ref (K 7), .ref (K 8), .ref (K 9), .ref (K 10), .ref (K 11), .ref (K 12), .int (nI (σ.tape.length)), .ref (K 13), .int (σ.err), .int (σ.off), .int (σ.ins), .int (nI (σ.sc)), .int (nI (σ.ec)), .int (nI (σ.en)), .int (σ.tr), .int (nI (σ.lo)), .int (σ.wr), .int (nI (σ.due))])) := by rw [ew2]; exact hv_up_s
    refine lv_aload_n hx hb d_Model_commit_16 rfl (lv_at hl 0 rfl) ?_
    refine va_get (D := D) (ci := 7) (v := .int (σ.off)) (C := R_Model) (T := F_Model) (N := 25) hx hb hts i_Model hown hK (hv_one hP h3) 0 rfl rfl 16 (by decide) (hts _ k_Model_62) (fun _ h9 => h9) rfl d_Model_commit_17 ?_
    refine lv_if_ne (tgt := 30) hx hb d_Model_commit_20 (by decide) (fun c20 => ?_) (fun c20 => ?_)
    · exact absurd c5 c20
    · refine lv_aload_n hx hb d_Model_commit_23 rfl (lv_at hl 0 rfl) ?_
      refine va_get (D := D) (ci := 7) (v := .int (σ.ins)) (C := R_Model) (T := F_Model) (N := 25) hx hb hts i_Model hown hK (hv_one hP h3) 0 rfl rfl 17 (by decide) (hts _ k_Model_81) (fun _ h9 => h9) rfl d_Model_commit_24 ?_
      refine lv_if_ne (tgt := 43) hx hb d_Model_commit_27 (by decide) (fun c27 => ?_) (fun c27 => ?_)
      · refine lv_aload_n hx hb d_Model_commit_43 rfl (lv_at hl 0 rfl) ?_
        refine lv_dup hx hb d_Model_commit_44 rfl ?_
        refine va_get (D := D) (ci := 7) (v := .int (nI (σ.ec))) (C := R_Model) (T := F_Model) (N := 25) hx hb hts i_Model hown hK (hv_one hP h3) 0 rfl rfl 19 (by decide) (hts _ k_Model_66) (fun _ h9 => h9) rfl d_Model_commit_45 ?_
        refine lv_aload_n hx hb d_Model_commit_48 rfl (lv_at hl 0 rfl) ?_
        refine va_get (D := D) (ci := 7) (v := .int (nI (σ.sc))) (C := R_Model) (T := F_Model) (N := 25) hx hb hts i_Model hown hK (hv_one hP h3) 0 rfl rfl 18 (by decide) (hts _ k_Model_59) (fun _ h9 => h9) rfl d_Model_commit_49 ?_
        refine gk_iadd (x := σ.ec) (y := σ.sc) hx hb d_Model_commit_52 ?_
        refine hv_put (D := D) (ci := 7) (v := .int (nI ((σ.ec) + (σ.sc)))) (ty := .int) (C := R_Model) (T := F_Model) (N := 25) hx hb hts i_Model t_Model t_Model_ok n_Model hown hK hP hS h3 rfl 19 (by decide) (hts _ k_Model_66) (fun _ h9 => h9) rfl (by decide +kernel) rfl rfl (Nat.le_of_ble_eq_true rfl) d_Model_commit_53 (fun H locs hP hS => ?_)
        obtain ⟨w4, ew4⟩ : ∃ z9 : hv_W, z9 = va_up w2 (K 0) (some (.inr (7, [.int 0, .ref (K 1), .ref (K 2), .ref (K 3), .ref (K 4), .ref (K 5), .ref (K 6), .ref (K 7), .ref (K 8), .ref (K 9), .ref (K 10), .ref (K 11), .ref (K 12), .int (nI (σ.tape.length)), .ref (K 13), .int (σ.err), .int (σ.off), .int (σ.ins), .int (nI (σ.sc)), .int (nI ((σ.ec) + (σ.sc))), .int (nI (σ.en)), .int (σ.tr), .int (nI (σ.lo)), .int (σ.wr), .int (nI (σ.due))]))) := ⟨_, rfl⟩
        have hP : hv_P D classes s0.heap.size w4 H := by rw [ew4]; exact hP
        have hM : mK ca K w0 (((mAo t9 k9 p9 σ).sThrown 0).sEarlier ((σ.ec) + (σ.sc))) B w4 := by rw [ew4]; exact hM.put 0 (by decide) rfl
        have h5 : w4 (K 0) = some (.inr (7, [.int 0, .ref (K 1), .ref (K 2), .ref (K 3), .ref (K 4), .ref (K 5), .ref (K 6), .ref (K 7), .ref (K 8), .ref (K 9), .ref (K 10), .ref (K 11), .ref (K 12), .int (nI (σ.tape.length)), .ref (K 13), .int (σ.err), .int (σ.off), .int (σ.ins), .int (nI (σ.sc)), .int (nI ((σ.ec) + (σ.sc))), .int (nI (σ.en)), .int (σ.tr), .int (nI (σ.lo)), .int (σ.wr), .int (nI (σ.due))])) := by rw [ew4]; exact hv_up_s
        refine lv_aload_n hx hb d_Model_commit_56 rfl (lv_at hl 0 rfl) ?_
        refine hv_call (hv_runV (As := []) (rest := []) (c_Model_settle C hM) (hv_cw C hZ kc_Model_settle kn_Model ⟨rfl, rfl, Nat.le_of_ble_eq_true rfl, Nat.le_of_ble_eq_true rfl⟩) hv_blind (hv_pre hZ hS hP) hx hml hb hown (hts _ k_Model_75) (hts _ ki_Model_settle) (hts _ ksel_Model_Model_settle) hy_Model_settle (hts _ kc_Model_settle) (va_recv hK (hv_one hP h5) (ci := 7) (q0 := 0) rfl rfl) rfl hl.1 rfl (lv_room (Nat.le_of_ble_eq_true rfl)) d_Model_commit_57 ⟨Nat.le_of_ble_eq_true rfl, Nat.le_of_ble_eq_true rfl⟩) hZ hS (fun v9 w6 H locs q7 hP hS => ?_) (fun x9 w6 H locs q7 hP hS => q7.elim)
        obtain ⟨hv9, g9, hM, hz9⟩ := q7
        subst hv9
        show W _ _ _ _ _ _ _ _ _ _ _ _ _ _ _ (F0 m 60 ls [])
        have hR1 := (hRel.thr 0).closeI c27 hz9
        obtain ⟨y1, y2, y3, y4, y5, y6, y7, y8, y9, y10, y11, y12⟩ := s_close_I (σ := σ) c27
        refine lv_aload_n hx hb d_Model_commit_60 rfl (lv_at hl 0 rfl) ?_
        have h8 : w6 (K 0) = some (.inr (7, [.int 0, .ref (K 1), .ref (K 2), .ref (K 3), .ref (K 4), .ref (K 5), .ref (K 6), .ref (K 7), .ref (K 8), .ref (K 9), .ref (K 10), .ref (K 11), .ref (K 12), .int (nI (σ.tape.length)), .ref (K 13), .int (σ.err), .int (σ.off), .int (σ.ins), .int (nI 0), .int (nI ((σ.ec) + (σ.sc))), .int (nI (σ.en)), .int (σ.tr), .int (nI (σ.lo)), .int (σ.wr), .int (nI (σ.due))])) := hM.1.2 0 (by decide)
        refine va_get (D := D) (ci := 7) (v := .int (nI ((σ.ec) + (σ.sc)))) (C := R_Model) (T := F_Model) (N := 25) hx hb hts i_Model hown hK (hv_one hP h8) 0 rfl rfl 19 (by decide) (hts _ k_Model_66) (fun _ h9 => h9) rfl d_Model_commit_61 ?_
        refine lv_istore_n (lv' := [(1, .int (nI ((σ.ec) + (σ.sc)))), (0, .ref (K 0))]) hx hb d_Model_commit_64 rfl hl (by decide) rfl (fun ls hl => ?_)
        refine lv_iload_n hx hb d_Model_commit_65 rfl (lv_at hl 0 rfl) ?_
        refine gk_if_le (x := (σ.ec) + (σ.sc)) (tgt := 80) hx hb d_Model_commit_66 (by decide) (by omega) (fun c66 => ?_) (fun c66 => ?_)
        · refine lv_iload_n hx hb d_Model_commit_80 rfl (lv_at hl 0 rfl) ?_
          refine gk_if_le (x := (σ.ec) + (σ.sc)) (tgt := 99) hx hb d_Model_commit_81 (by decide) (by omega) (fun c81 => ?_) (fun c81 => ?_)
          · refine lv_aload_n hx hb d_Model_commit_99 rfl (lv_at hl 1 rfl) ?_
            refine lv_iconst (v := 0) hx hb d_Model_commit_100 (by decide) ?_
            refine hv_put (D := D) (ci := 7) (v := .int 0) (ty := .boolean) (C := R_Model) (T := F_Model) (N := 25) hx hb hts i_Model t_Model t_Model_ok n_Model hown hK hP hS h8 rfl 17 (by decide) (hts _ k_Model_81) (fun _ h9 => h9) rfl (by decide +kernel) (by decide +kernel) (by decide +kernel) (Nat.le_of_ble_eq_true rfl) d_Model_commit_101 (fun H locs hP hS => ?_)
            obtain ⟨w9, ew9⟩ : ∃ z9 : hv_W, z9 = va_up w6 (K 0) (some (.inr (7, [.int 0, .ref (K 1), .ref (K 2), .ref (K 3), .ref (K 4), .ref (K 5), .ref (K 6), .ref (K 7), .ref (K 8), .ref (K 9), .ref (K 10), .ref (K 11), .ref (K 12), .int (nI (σ.tape.length)), .ref (K 13), .int (σ.err), .int (σ.off), .int 0, .int (nI 0), .int (nI ((σ.ec) + (σ.sc))), .int (nI (σ.en)), .int (σ.tr), .int (nI (σ.lo)), .int (σ.wr), .int (nI (σ.due))]))) := ⟨_, rfl⟩
            have hP : hv_P D classes s0.heap.size w9 H := by rw [ew9]; exact hP
            have hM : mK ca K w0 ((((((mAo t9 k9 p9 σ).sTaken g9).sThrown 0).sInside 0).sChanges 0).sEarlier ((σ.ec) + (σ.sc))) B w9 := by rw [ew9]; exact hM.put 0 (by decide) rfl
            have h10 : w9 (K 0) = some (.inr (7, [.int 0, .ref (K 1), .ref (K 2), .ref (K 3), .ref (K 4), .ref (K 5), .ref (K 6), .ref (K 7), .ref (K 8), .ref (K 9), .ref (K 10), .ref (K 11), .ref (K 12), .int (nI (σ.tape.length)), .ref (K 13), .int (σ.err), .int (σ.off), .int 0, .int (nI 0), .int (nI ((σ.ec) + (σ.sc))), .int (nI (σ.en)), .int (σ.tr), .int (nI (σ.lo)), .int (σ.wr), .int (nI (σ.due))])) := by rw [ew9]; exact hv_up_s
            refine lv_aload_n hx hb d_Model_commit_104 rfl (lv_at hl 1 rfl) ?_
            refine lv_iconst (v := 0) hx hb d_Model_commit_105 (by decide) ?_
            refine hv_put (D := D) (ci := 7) (v := .int 0) (ty := .int) (C := R_Model) (T := F_Model) (N := 25) hx hb hts i_Model t_Model t_Model_ok n_Model hown hK hP hS h10 rfl 19 (by decide) (hts _ k_Model_66) (fun _ h9 => h9) rfl (by decide +kernel) rfl rfl (Nat.le_of_ble_eq_true rfl) d_Model_commit_106 (fun H locs hP hS => ?_)
            obtain ⟨w11, ew11⟩ : ∃ z9 : hv_W, z9 = va_up w9 (K 0) (some (.inr (7, [.int 0, .ref (K 1), .ref (K 2), .ref (K 3), .ref (K 4), .ref (K 5), .ref (K 6), .ref (K 7), .ref (K 8), .ref (K 9), .ref (K 10), .ref (K 11), .ref (K 12), .int (nI (σ.tape.length)), .ref (K 13), .int (σ.err), .int (σ.off), .int 0, .int (nI 0), .int 0, .int (nI (σ.en)), .int (σ.tr), .int (nI (σ.lo)), .int (σ.wr), .int (nI (σ.due))]))) := ⟨_, rfl⟩
            have hP : hv_P D classes s0.heap.size w11 H := by rw [ew11]; exact hP
            have hM : mK ca K w0 ((((((mAo t9 k9 p9 σ).sTaken g9).sThrown 0).sInside 0).sChanges 0).sEarlier 0) B w11 := by rw [ew11]; exact hM.put 0 (by decide) rfl
            have h12 : w11 (K 0) = some (.inr (7, [.int 0, .ref (K 1), .ref (K 2), .ref (K 3), .ref (K 4), .ref (K 5), .ref (K 6), .ref (K 7), .ref (K 8), .ref (K 9), .ref (K 10), .ref (K 11), .ref (K 12), .int (nI (σ.tape.length)), .ref (K 13), .int (σ.err), .int (σ.off), .int 0, .int (nI 0), .int 0, .int (nI (σ.en)), .int (σ.tr), .int (nI (σ.lo)), .int (σ.wr), .int (nI (σ.due))])) := by rw [ew11]; exact hv_up_s
            refine lv_iload_n hx hb d_Model_commit_109 rfl (lv_at hl 0 rfl) ?_
            refine gk_if_le (x := (σ.ec) + (σ.sc)) (tgt := 119) hx hb d_Model_commit_110 (by decide) (by omega) (fun c110 => ?_) (fun c110 => ?_)
            · refine lv_iconst (v := 0) hx hb d_Model_commit_119 (by decide) ?_
              have hz : (s_close σ).ec = 0 := y1.trans c66
              have hrm : x_room (s_close σ) (s_close σ).ec := by unfold x_room x_wf; rw [hz, y7, if_pos rfl]; omega
              exact hv_iret (v := 0) hQ hx hb hr hZ hS hP hlocks d_Model_commit_120 (mRet.of (r' := (s_forget (s_close σ), 0, 0)) (by rw [x_commit, cif_pos c5, cif_neg c27, x_com1, cif_pos hrm, cif_neg (fun z => absurd z.1 (by omega)), cif_neg (by omega), hz]; rfl) (fun _ => rfl) hM (mRel.forget hR1 y2 y3 (by simp only [mAo, mA.sTaken, mA.sThrown, mA.sInside, mA.sChanges, mA.sEarlier])) rfl)
            · exact absurd c66 c110
          · exact absurd c66 c81
        · refine lv_aload_n hx hb d_Model_commit_69 rfl (lv_at hl 1 rfl) ?_
          refine lv_iload_n hx hb d_Model_commit_70 rfl (lv_at hl 0 rfl) ?_
          refine hv_call (hv_runV (As := [.int (nI ((σ.ec) + (σ.sc)))]) (rest := []) (c_Model_fits C (k := σ.ec + σ.sc) hM (by omega) hen9) (hv_cw C hZ kc_Model_fits kn_Model ⟨rfl, rfl, Nat.le_of_ble_eq_true rfl, Nat.le_of_ble_eq_true rfl⟩) hv_blind (hv_pre hZ hS hP) hx hml hb hown (hts _ k_Model_148) (hts _ ki_Model_fits) (hts _ ksel_Model_Model_fits) hy_Model_fits (hts _ kc_Model_fits) (va_recv hK (hv_one hP h8) (ci := 7) (q0 := 0) rfl rfl) rfl hl.1 rfl (lv_room (Nat.le_of_ble_eq_true rfl)) d_Model_commit_71 ⟨Nat.le_of_ble_eq_true rfl, Nat.le_of_ble_eq_true rfl⟩) hZ hS (fun v9 w13 H locs q14 hP hS => ?_) (fun x9 w13 H locs q14 hP hS => q14.elim)
          obtain ⟨hv9, hw9⟩ := q14
          subst hv9
          rw [hw9] at hP
          show W _ _ _ _ _ _ _ _ _ _ _ _ _ _ _ (F0 m 74 ls [.int (if σ.en + (σ.ec + σ.sc) + 1 ≤ 250 then 1 else 0)])
          refine lv_if_ne (tgt := 80) hx hb d_Model_commit_74 (by decide) (fun c74 => ?_) (fun c74 => ?_)
          · have hrm : x_room (s_close σ) (s_close σ).ec := by have z9 : σ.en + (σ.ec + σ.sc) + 1 ≤ 250 := Classical.byContradiction fun z => c74 (if_neg z); unfold x_room x_wf; rw [y1, y7, if_neg c66]; omega
            refine lv_iload_n hx hb d_Model_commit_80 rfl (lv_at hl 0 rfl) ?_
            refine gk_if_le (x := (σ.ec) + (σ.sc)) (tgt := 99) hx hb d_Model_commit_81 (by decide) (by omega) (fun c81 => ?_) (fun c81 => ?_)
            · exact absurd c81 c66
            · refine lv_aload_n hx hb d_Model_commit_84 rfl (lv_at hl 1 rfl) ?_
              refine lv_iload_n hx hb d_Model_commit_85 rfl (lv_at hl 0 rfl) ?_
              refine hv_call (hv_runV (As := [.int (nI ((σ.ec) + (σ.sc)))]) (rest := []) (c_Model_log C (k := σ.ec + σ.sc) hM hR1 (gW_close hW c27 c5) (y6.trans (hW.2.2.2.2.1 c5).1) (by omega)) (hv_cw C hZ kc_Model_log kn_Model ⟨rfl, rfl, Nat.le_of_ble_eq_true rfl, Nat.le_of_ble_eq_true rfl⟩) hv_blind (hv_pre hZ hS hP) hx hml hb hown (hts _ k_Model_155) (hts _ ki_Model_log) (hts _ ksel_Model_Model_log) hy_Model_log (hts _ kc_Model_log) (va_recv hK (hv_one hP h8) (ci := 7) (q0 := 0) rfl rfl) rfl hl.1 rfl (lv_room (Nat.le_of_ble_eq_true rfl)) d_Model_commit_86 ⟨Nat.le_of_ble_eq_true rfl, Nat.le_of_ble_eq_true rfl⟩) hZ hS (fun v9 w15 H locs q16 hP hS => ?_) (fun x9 w15 H locs q16 hP hS => q16.elim)
              rw [show σ.ec + σ.sc = (s_close σ).ec from y1.symm] at q16
              rcases q16 with ⟨hcut, hv9, hS9⟩ | ⟨hcut, hv9, A2, B2, hM, hR2, ht2, hin9⟩
              · obtain ⟨A2, B2, hM, hR2, ht2⟩ := hS9
                subst hv9
                show W _ _ _ _ _ _ _ _ _ _ _ _ _ _ _ (F0 m 89 ls [.int 0])
                refine lv_if_ne (tgt := 99) hx hb d_Model_commit_89 (by decide) (fun c89 => ?_) (fun c89 => ?_)
                · exact absurd c89 (by decide)
                · refine lv_aload_n hx hb d_Model_commit_92 rfl (lv_at hl 1 rfl) ?_
                  refine lv_iconst (v := 1) hx hb d_Model_commit_93 (by decide) ?_
                  have h17 : w15 (K 0) = some (.inr (7, [.int A2.thrown, .ref (K 1), .ref (K 2), .ref (K 3), .ref (K 4), .ref (K 5), .ref (K 6), .ref (K 7), .ref (K 8), .ref (K 9), .ref (K 10), .ref (K 11), .ref (K 12), .int (nI A2.tapeSize), .ref (K 13), .int A2.error, .int A2.off, .int A2.inside, .int (nI A2.changes), .int (nI A2.earlier), .int (nI A2.logged), .int A2.over, .int (nI A2.loose), .int A2.written, .int (nI A2.due)])) := hM.1.2 0 (by decide)
                  refine hv_put (D := D) (ci := 7) (v := .int 1) (ty := .int) (C := R_Model) (T := F_Model) (N := 25) hx hb hts i_Model t_Model t_Model_ok n_Model hown hK hP hS h17 rfl 0 (by decide) (hts _ k_Model_51) (fun _ h9 => h9) rfl (by decide +kernel) rfl rfl (Nat.le_of_ble_eq_true rfl) d_Model_commit_94 (fun H locs hP hS => ?_)
                  obtain ⟨w18, ew18⟩ : ∃ z9 : hv_W, z9 = va_up w15 (K 0) (some (.inr (7, [.int 1, .ref (K 1), .ref (K 2), .ref (K 3), .ref (K 4), .ref (K 5), .ref (K 6), .ref (K 7), .ref (K 8), .ref (K 9), .ref (K 10), .ref (K 11), .ref (K 12), .int (nI A2.tapeSize), .ref (K 13), .int A2.error, .int A2.off, .int A2.inside, .int (nI A2.changes), .int (nI A2.earlier), .int (nI A2.logged), .int A2.over, .int (nI A2.loose), .int A2.written, .int (nI A2.due)]))) := ⟨_, rfl⟩
                  have hP : hv_P D classes s0.heap.size w18 H := by rw [ew18]; exact hP
                  have hM : mK ca K w0 (A2.sThrown 1) B2 w18 := by rw [ew18]; exact hM.put 0 (by decide) rfl
                  have h19 : w18 (K 0) = some (.inr (7, [.int 1, .ref (K 1), .ref (K 2), .ref (K 3), .ref (K 4), .ref (K 5), .ref (K 6), .ref (K 7), .ref (K 8), .ref (K 9), .ref (K 10), .ref (K 11), .ref (K 12), .int (nI A2.tapeSize), .ref (K 13), .int A2.error, .int A2.off, .int A2.inside, .int (nI A2.changes), .int (nI A2.earlier), .int (nI A2.logged), .int A2.over, .int (nI A2.loose), .int A2.written, .int (nI A2.due)])) := by rw [ew18]; exact hv_up_s
                  refine lv_iconst (v := 0) hx hb d_Model_commit_97 (by decide) ?_
                  exact hv_iret (v := 0) hQ hx hb hr hZ hS hP hlocks d_Model_commit_98 (mRet.of (r' := (s_keepF (s_close σ), 1, 0)) (by rw [x_commit, cif_pos c5, cif_neg c27, x_com1, cif_pos hrm, cif_pos ⟨by omega, hcut⟩]) (fun z9 => absurd z9 (show ¬ (1 : Nat) = 0 by decide)) hM (hR2.thr 1) rfl)
              · subst hv9
                show W _ _ _ _ _ _ _ _ _ _ _ _ _ _ _ (F0 m 89 ls [.int 1])
                refine lv_if_ne (tgt := 99) hx hb d_Model_commit_89 (by decide) (fun c89 => ?_) (fun c89 => ?_)
                · refine lv_aload_n hx hb d_Model_commit_99 rfl (lv_at hl 1 rfl) ?_
                  refine lv_iconst (v := 0) hx hb d_Model_commit_100 (by decide) ?_
                  have h20 : w15 (K 0) = some (.inr (7, [.int A2.thrown, .ref (K 1), .ref (K 2), .ref (K 3), .ref (K 4), .ref (K 5), .ref (K 6), .ref (K 7), .ref (K 8), .ref (K 9), .ref (K 10), .ref (K 11), .ref (K 12), .int (nI A2.tapeSize), .ref (K 13), .int A2.error, .int A2.off, .int A2.inside, .int (nI A2.changes), .int (nI A2.earlier), .int (nI A2.logged), .int A2.over, .int (nI A2.loose), .int A2.written, .int (nI A2.due)])) := hM.1.2 0 (by decide)
                  refine hv_put (D := D) (ci := 7) (v := .int 0) (ty := .boolean) (C := R_Model) (T := F_Model) (N := 25) hx hb hts i_Model t_Model t_Model_ok n_Model hown hK hP hS h20 rfl 17 (by decide) (hts _ k_Model_81) (fun _ h9 => h9) rfl (by decide +kernel) (by decide +kernel) (by decide +kernel) (Nat.le_of_ble_eq_true rfl) d_Model_commit_101 (fun H locs hP hS => ?_)
                  obtain ⟨w21, ew21⟩ : ∃ z9 : hv_W, z9 = va_up w15 (K 0) (some (.inr (7, [.int A2.thrown, .ref (K 1), .ref (K 2), .ref (K 3), .ref (K 4), .ref (K 5), .ref (K 6), .ref (K 7), .ref (K 8), .ref (K 9), .ref (K 10), .ref (K 11), .ref (K 12), .int (nI A2.tapeSize), .ref (K 13), .int A2.error, .int A2.off, .int 0, .int (nI A2.changes), .int (nI A2.earlier), .int (nI A2.logged), .int A2.over, .int (nI A2.loose), .int A2.written, .int (nI A2.due)]))) := ⟨_, rfl⟩
                  have hP : hv_P D classes s0.heap.size w21 H := by rw [ew21]; exact hP
                  have hM : mK ca K w0 (A2.sInside 0) B2 w21 := by rw [ew21]; exact hM.put 0 (by decide) rfl
                  have h22 : w21 (K 0) = some (.inr (7, [.int A2.thrown, .ref (K 1), .ref (K 2), .ref (K 3), .ref (K 4), .ref (K 5), .ref (K 6), .ref (K 7), .ref (K 8), .ref (K 9), .ref (K 10), .ref (K 11), .ref (K 12), .int (nI A2.tapeSize), .ref (K 13), .int A2.error, .int A2.off, .int 0, .int (nI A2.changes), .int (nI A2.earlier), .int (nI A2.logged), .int A2.over, .int (nI A2.loose), .int A2.written, .int (nI A2.due)])) := by rw [ew21]; exact hv_up_s
                  refine lv_aload_n hx hb d_Model_commit_104 rfl (lv_at hl 1 rfl) ?_
                  refine lv_iconst (v := 0) hx hb d_Model_commit_105 (by decide) ?_
                  refine hv_put (D := D) (ci := 7) (v := .int 0) (ty := .int) (C := R_Model) (T := F_Model) (N := 25) hx hb hts i_Model t_Model t_Model_ok n_Model hown hK hP hS h22 rfl 19 (by decide) (hts _ k_Model_66) (fun _ h9 => h9) rfl (by decide +kernel) rfl rfl (Nat.le_of_ble_eq_true rfl) d_Model_commit_106 (fun H locs hP hS => ?_)
                  obtain ⟨w23, ew23⟩ : ∃ z9 : hv_W, z9 = va_up w21 (K 0) (some (.inr (7, [.int A2.thrown, .ref (K 1), .ref (K 2), .ref (K 3), .ref (K 4), .ref (K 5), .ref (K 6), .ref (K 7), .ref (K 8), .ref (K 9), .ref (K 10), .ref (K 11), .ref (K 12), .int (nI A2.tapeSize), .ref (K 13), .int A2.error, .int A2.off, .int 0, .int (nI A2.changes), .int 0, .int (nI A2.logged), .int A2.over, .int (nI A2.loose), .int A2.written, .int (nI A2.due)]))) := ⟨_, rfl⟩
                  have hP : hv_P D classes s0.heap.size w23 H := by rw [ew23]; exact hP
                  have hM : mK ca K w0 ((A2.sInside 0).sEarlier 0) B2 w23 := by rw [ew23]; exact hM.put 0 (by decide) rfl
                  have h24 : w23 (K 0) = some (.inr (7, [.int A2.thrown, .ref (K 1), .ref (K 2), .ref (K 3), .ref (K 4), .ref (K 5), .ref (K 6), .ref (K 7), .ref (K 8), .ref (K 9), .ref (K 10), .ref (K 11), .ref (K 12), .int (nI A2.tapeSize), .ref (K 13), .int A2.error, .int A2.off, .int 0, .int (nI A2.changes), .int 0, .int (nI A2.logged), .int A2.over, .int (nI A2.loose), .int A2.written, .int (nI A2.due)])) := by rw [ew23]; exact hv_up_s
                  refine lv_iload_n hx hb d_Model_commit_109 rfl (lv_at hl 0 rfl) ?_
                  refine gk_if_le (x := (σ.ec) + (σ.sc)) (tgt := 119) hx hb d_Model_commit_110 (by decide) (by omega) (fun c110 => ?_) (fun c110 => ?_)
                  · exact absurd c110 c66
                  · refine lv_iload_n hx hb d_Model_commit_113 rfl (lv_at hl 0 rfl) ?_
                    refine lv_iconst (v := 1) hx hb d_Model_commit_114 (by decide) ?_
                    refine gk_iadd (x := (σ.ec) + (σ.sc)) (y := 1) hx hb d_Model_commit_115 ?_
                    refine lv_goto (tgt := 120) hx hb d_Model_commit_116 (by decide) ?_
                    exact hv_iret (v := nI (((σ.ec) + (σ.sc)) + 1)) hQ hx hb hr hZ hS hP hlocks d_Model_commit_120 (mRet.of (r' := (s_forget (s_keepO (s_close σ) (s_close σ).ec), 0, nI (σ.ec + σ.sc + 1))) (by rw [x_commit, cif_pos c5, cif_neg c27, x_com1, cif_pos hrm, cif_neg (fun z => hcut z.2), cif_pos (by omega), x_wf, if_neg (by omega), y1]) (fun _ => rfl) hM (mRel.forget2 hR2 y2 y3) ht2)
                · exact absurd c89 (by decide)
          · have hrm : ¬ x_room (s_close σ) (s_close σ).ec := by have z9 : ¬ σ.en + (σ.ec + σ.sc) + 1 ≤ 250 := (fun z => by rw [if_pos z] at c74; exact absurd c74 (by decide)); unfold x_room x_wf; rw [y1, y7, if_neg c66]; omega
            refine lv_bipush (v := (-2)) hx hb d_Model_commit_77 (by decide) ?_
            exact hv_iret (v := (-2)) hQ hx hb hr hZ hS hP hlocks d_Model_commit_79 (mRet.of (r' := (s_close σ, 0, -2)) (by rw [x_commit, cif_pos c5, cif_neg c27, x_com1, cif_neg hrm]) (fun _ => rfl) hM hR1 rfl)
      · refine lv_aload_n hx hb d_Model_commit_30 rfl (lv_at hl 0 rfl) ?_
        refine va_get (D := D) (ci := 7) (v := .int (σ.off)) (C := R_Model) (T := F_Model) (N := 25) hx hb hts i_Model hown hK (hv_one hP h3) 0 rfl rfl 16 (by decide) (hts _ k_Model_62) (fun _ h9 => h9) rfl d_Model_commit_31 ?_
        refine lv_if_eq (tgt := 41) hx hb d_Model_commit_34 (by decide) (fun c34 => ?_) (fun c34 => ?_)
        · refine lv_iconst (v := (-1)) hx hb d_Model_commit_41 (by decide) ?_
          exact hv_iret (v := (-1)) hQ hx hb hr hZ hS hP hlocks d_Model_commit_42 (mRet.of (r' := (σ, 0, (-1))) (by rw [x_commit, cif_pos c5, cif_pos c27]) (fun _ => rfl) hM (hRel.thr 0) rfl)
        · exact absurd c5 c34
  · refine lv_iconst (v := 1) hx hb d_Model_commit_8 (by decide) ?_
    refine lv_goto (tgt := 13) hx hb d_Model_commit_9 (by decide) ?_
    refine hv_put (D := D) (ci := 7) (v := .int 1) (ty := .int) (C := R_Model) (T := F_Model) (N := 25) hx hb hts i_Model t_Model t_Model_ok n_Model hown hK hP hS h1 rfl 0 (by decide) (hts _ k_Model_51) (fun _ h9 => h9) rfl (by decide +kernel) rfl rfl (Nat.le_of_ble_eq_true rfl) d_Model_commit_13 (fun H locs hP hS => ?_)
    obtain ⟨w25, ew25⟩ : ∃ z9 : hv_W, z9 = va_up w (K 0) (some (.inr (7, [.int 1, .ref (K 1), .ref (K 2), .ref (K 3), .ref (K 4), .ref (K 5), .ref (K 6), .ref (K 7), .ref (K 8), .ref (K 9), .ref (K 10), .ref (K 11), .ref (K 12), .int (nI (σ.tape.length)), .ref (K 13), .int (σ.err), .int (σ.off), .int (σ.ins), .int (nI (σ.sc)), .int (nI (σ.ec)), .int (nI (σ.en)), .int (σ.tr), .int (nI (σ.lo)), .int (σ.wr), .int (nI (σ.due))]))) := ⟨_, rfl⟩
    have hP : hv_P D classes s0.heap.size w25 H := by rw [ew25]; exact hP
    have hM : mK ca K w0 ((mAo t9 k9 p9 σ).sThrown 1) B w25 := by rw [ew25]; exact hM.put 0 (by decide) rfl
    have h26 : w25 (K 0) = some (.inr (7, [.int 1, .ref (K 1), .ref (K 2), .ref (K 3), .ref (K 4), .ref (K 5), .ref (K 6), .ref (K 7), .ref (K 8), .ref (K 9), .ref (K 10), .ref (K 11), .ref (K 12), .int (nI (σ.tape.length)), .ref (K 13), .int (σ.err), .int (σ.off), .int (σ.ins), .int (nI (σ.sc)), .int (nI (σ.ec)), .int (nI (σ.en)), .int (σ.tr), .int (nI (σ.lo)), .int (σ.wr), .int (nI (σ.due))])) := by rw [ew25]; exact hv_up_s
    refine lv_aload_n hx hb d_Model_commit_16 rfl (lv_at hl 0 rfl) ?_
    refine va_get (D := D) (ci := 7) (v := .int (σ.off)) (C := R_Model) (T := F_Model) (N := 25) hx hb hts i_Model hown hK (hv_one hP h26) 0 rfl rfl 16 (by decide) (hts _ k_Model_62) (fun _ h9 => h9) rfl d_Model_commit_17 ?_
    refine lv_if_ne (tgt := 30) hx hb d_Model_commit_20 (by decide) (fun c20 => ?_) (fun c20 => ?_)
    · refine lv_aload_n hx hb d_Model_commit_30 rfl (lv_at hl 0 rfl) ?_
      refine va_get (D := D) (ci := 7) (v := .int (σ.off)) (C := R_Model) (T := F_Model) (N := 25) hx hb hts i_Model hown hK (hv_one hP h26) 0 rfl rfl 16 (by decide) (hts _ k_Model_62) (fun _ h9 => h9) rfl d_Model_commit_31 ?_
      refine lv_if_eq (tgt := 41) hx hb d_Model_commit_34 (by decide) (fun c34 => ?_) (fun c34 => ?_)
      · exact absurd c34 c5
      · refine lv_iconst (v := 0) hx hb d_Model_commit_37 (by decide) ?_
        refine lv_goto (tgt := 42) hx hb d_Model_commit_38 (by decide) ?_
        exact hv_iret (v := 0) hQ hx hb hr hZ hS hP hlocks d_Model_commit_42 (mRet.of (r' := (σ, 1, 0)) (by rw [x_commit, cif_neg c5]) (fun z9 => absurd z9 (show ¬ (1 : Nat) = 0 by decide)) hM (hRel.thr 1) rfl)
    · exact absurd c20 c5

