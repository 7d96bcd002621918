abbrev rm_Model_begins : Room := { frames := 2, cells := 0, slots := 0, locals := 46 }
set_option maxHeartbeats 4000000 in
set_option maxRecDepth 100000 in
theorem c_Model_begins {l : Launch} {s0 : State} {D : va_G} {ca : Nat → ClassId} (C : hv_C l s0 D (hv_tys ca)) {w : hv_W} {K : Nat → Nat} {w0 : hv_W} {A : mA} {B : mB} (hM : mK ca K w0 A B w) {σ : gS} (hRel : mRel A B σ) (hW : gW σ) (hoff : σ.off = 0)  :
    hv_Met l y_Model_begins [.code y_Model_begins b_Model_begins 1 none] rm_Model_begins (hv_Pc s0 D w [.ref (K 0)]) (hv_Q s0 D (fun v w' => v = none ∧ ∃ B', mK ca K w0 (A.sChanges (A.changes + 1)) B' w' ∧ mRel (A.sChanges (A.changes + 1)) B' (σ.sSc (σ.sc + 1))) (fun _ _ => False)) 0 0 (hv_A s0.heap.size) := by
  refine hv_enter C _ (by decide) (Nat.le_of_ble_eq_true rfl) ?_
  intro p e s m below meth c ls Q hQ hx hb hr hml hown hts hK hZ hlocks hname hout htr hP hl
  have hown : s.vm.findClass R_Model = some m.cls := hown
  have hS : va_S (hv_A s0.heap.size) s.heap s.heap [] := va_S.rf
  have hl : lv_has ls 1 [(0, .ref (K 0))] := hl
  obtain ⟨⟨r1, r2, r3, r4, r5⟩, ⟨x1, x2, x3, x4, x5⟩, r6⟩ := hRel
  have hsc9 : A.changes ≤ 249 := by rw [x4]; have := hW.hb; omega
  refine lv_aload_n hx hb d_Model_begins_0 rfl (lv_at hl 0 rfl) ?_
  have h1 : w (K 0) = some (.inr (7, [.int A.thrown, .ref (K 1), .ref (K 2), .ref (K 3), .ref (K 4), .ref (K 5), .ref (K 6), .ref (K 7), .ref (K 8), .ref (K 9), .ref (K 10), .ref (K 11), .ref (K 12), .int (nI A.tapeSize), .ref (K 13), .int A.error, .int A.off, .int A.inside, .int (nI A.changes), .int (nI A.earlier), .int (nI A.logged), .int A.over, .int (nI A.loose), .int A.written, .int (nI A.due)])) := hM.1.2 0 (by decide)
  refine va_get (D := D) (ci := 7) (v := .int (nI A.changes)) (C := R_Model) (T := F_Model) (N := 25) hx hb hts i_Model hown hK (hv_one hP h1) 0 rfl rfl 18 (by decide) (hts _ k_Model_59) (fun _ h9 => h9) rfl d_Model_begins_1 ?_
  refine gk_if_ne (x := A.changes) (tgt := 13) hx hb d_Model_begins_4 (by decide) (by omega) (fun c4 => ?_) (fun c4 => ?_)
  · refine lv_aload_n hx hb d_Model_begins_13 rfl (lv_at hl 0 rfl) ?_
    refine lv_dup hx hb d_Model_begins_14 rfl ?_
    refine va_get (D := D) (ci := 7) (v := .int (nI A.changes)) (C := R_Model) (T := F_Model) (N := 25) hx hb hts i_Model hown hK (hv_one hP h1) 0 rfl rfl 18 (by decide) (hts _ k_Model_59) (fun _ h9 => h9) rfl d_Model_begins_15 ?_
    refine lv_iconst (v := 1) hx hb d_Model_begins_18 (by decide) ?_
    refine gk_iadd (x := A.changes) (y := 1) hx hb d_Model_begins_19 ?_
    refine hv_put (D := D) (ci := 7) (v := .int (nI (A.changes + 1))) (ty := .int) (C := R_Model) (T := F_Model) (N := 25) hx hb hts i_Model t_Model t_Model_ok n_Model hown hK hP hS h1 rfl 18 (by decide) (hts _ k_Model_59) (fun _ h9 => h9) rfl (by decide +kernel) rfl rfl (Nat.le_of_ble_eq_true rfl) d_Model_begins_20 (fun H locs hP hS => ?_)
    obtain ⟨w2, ew2⟩ : ∃ z9 : hv_W, z9 = va_up w (K 0) (some (.inr (7, [.int A.thrown, .ref (K 1), .ref (K 2), .ref (K 3), .ref (K 4), .ref (K 5), .ref (K 6), .ref (K 7), .ref (K 8), .ref (K 9), .ref (K 10), .ref (K 11), .ref (K 12), .int (nI A.tapeSize), .ref (K 13), .int A.error, .int A.off, .int A.inside, .int (nI (A.changes + 1)), .int (nI A.earlier), .int (nI A.logged), .int A.over, .int (nI A.loose), .int A.written, .int (nI A.due)]))) := ⟨_, rfl⟩
    have hP : hv_P D classes s0.heap.size w2 H := by rw [ew2]; exact hP
    have hM : mK ca K w0 (A.sChanges (A.changes + 1)) B w2 := by rw [ew2]; exact hM.put 0 (by decide) rfl
    have h3 : w2 (K 0) = some (.inr (7, [.int A.thrown, .ref (K 1), .ref (K 2), .ref (K 3), .ref (K 4), .ref (K 5), .ref (K 6), .ref (K 7), .ref (K 8), .ref (K 9), .ref (K 10), .ref (K 11), .ref (K 12), .int (nI A.tapeSize), .ref (K 13), .int A.error, .int A.off, .int A.inside, .int (nI (A.changes + 1)), .int (nI A.earlier), .int (nI A.logged), .int A.over, .int (nI A.loose), .int A.written, .int (nI A.due)])) := by rw [ew2]; exact hv_up_s
    exact hv_vret hQ hx hb hr hZ hS hP hlocks d_Model_begins_23 (⟨rfl, B, hM, ⟨⟨r1, fun _ => r2 (fun z => c4 (x4.trans z)), r3, r4, r5⟩, ⟨x1, x2, x3, by show A.changes + 1 = σ.sc + 1; rw [x4], x5⟩, r6⟩⟩)
  · refine lv_aload_n hx hb d_Model_begins_7 rfl (lv_at hl 0 rfl) ?_
    refine lv_iconst (v := 0) hx hb d_Model_begins_8 (by decide) ?_
    refine lv_iconst (v := 1) hx hb d_Model_begins_9 (by decide) ?_
    refine hv_call (hv_runV (As := [.int 0, .int 1]) (rest := []) (c_Model_copy C (f := 0) (t := 1) (by decide) (by decide) (by decide) hM r5) (hv_cw C hZ kc_Model_copy kn_Model ⟨rfl, rfl, Nat.le_of_ble_eq_true rfl, Nat.le_of_ble_eq_true rfl⟩) hv_blind (hv_pre hZ hS hP) hx hml hb hown (hts _ k_Model_72) (hts _ ki_Model_copy) (hts _ ksel_Model_Model_copy) hy_Model_copy (hts _ kc_Model_copy) (va_recv hK (hv_one hP h1) (ci := 7) (q0 := 0) rfl rfl) rfl hl.1 rfl (lv_room (Nat.le_of_ble_eq_true rfl)) d_Model_begins_10 ⟨Nat.le_of_ble_eq_true rfl, Nat.le_of_ble_eq_true rfl⟩) hZ hS (fun v9 w4 H locs q5 hP hS => ?_) (fun x9 w4 H locs q5 hP hS => q5.elim)
    obtain ⟨hv9, B2, hM, hcp⟩ := q5
    subst hv9
    have hcp : mCopy B B2 0 1 := hcp
    show W _ _ _ _ _ _ _ _ _ _ _ _ _ _ _ (F0 m 13 ls [])
    refine lv_aload_n hx hb d_Model_begins_13 rfl (lv_at hl 0 rfl) ?_
    refine lv_dup hx hb d_Model_begins_14 rfl ?_
    have h6 : w4 (K 0) = some (.inr (7, [.int A.thrown, .ref (K 1), .ref (K 2), .ref (K 3), .ref (K 4), .ref (K 5), .ref (K 6), .ref (K 7), .ref (K 8), .ref (K 9), .ref (K 10), .ref (K 11), .ref (K 12), .int (nI A.tapeSize), .ref (K 13), .int A.error, .int A.off, .int A.inside, .int (nI A.changes), .int (nI A.earlier), .int (nI A.logged), .int A.over, .int (nI A.loose), .int A.written, .int (nI A.due)])) := hM.1.2 0 (by decide)
    refine va_get (D := D) (ci := 7) (v := .int (nI A.changes)) (C := R_Model) (T := F_Model) (N := 25) hx hb hts i_Model hown hK (hv_one hP h6) 0 rfl rfl 18 (by decide) (hts _ k_Model_59) (fun _ h9 => h9) rfl d_Model_begins_15 ?_
    refine lv_iconst (v := 1) hx hb d_Model_begins_18 (by decide) ?_
    refine gk_iadd (x := A.changes) (y := 1) hx hb d_Model_begins_19 ?_
    refine hv_put (D := D) (ci := 7) (v := .int (nI (A.changes + 1))) (ty := .int) (C := R_Model) (T := F_Model) (N := 25) hx hb hts i_Model t_Model t_Model_ok n_Model hown hK hP hS h6 rfl 18 (by decide) (hts _ k_Model_59) (fun _ h9 => h9) rfl (by decide +kernel) rfl rfl (Nat.le_of_ble_eq_true rfl) d_Model_begins_20 (fun H locs hP hS => ?_)
    obtain ⟨w7, ew7⟩ : ∃ z9 : hv_W, z9 = va_up w4 (K 0) (some (.inr (7, [.int A.thrown, .ref (K 1), .ref (K 2), .ref (K 3), .ref (K 4), .ref (K 5), .ref (K 6), .ref (K 7), .ref (K 8), .ref (K 9), .ref (K 10), .ref (K 11), .ref (K 12), .int (nI A.tapeSize), .ref (K 13), .int A.error, .int A.off, .int A.inside, .int (nI (A.changes + 1)), .int (nI A.earlier), .int (nI A.logged), .int A.over, .int (nI A.loose), .int A.written, .int (nI A.due)]))) := ⟨_, rfl⟩
    have hP : hv_P D classes s0.heap.size w7 H := by rw [ew7]; exact hP
    have hM : mK ca K w0 (A.sChanges (A.changes + 1)) B2 w7 := by rw [ew7]; exact hM.put 0 (by decide) rfl
    have h8 : w7 (K 0) = some (.inr (7, [.int A.thrown, .ref (K 1), .ref (K 2), .ref (K 3), .ref (K 4), .ref (K 5), .ref (K 6), .ref (K 7), .ref (K 8), .ref (K 9), .ref (K 10), .ref (K 11), .ref (K 12), .int (nI A.tapeSize), .ref (K 13), .int A.error, .int A.off, .int A.inside, .int (nI (A.changes + 1)), .int (nI A.earlier), .int (nI A.logged), .int A.over, .int (nI A.loose), .int A.written, .int (nI A.due)])) := by rw [ew7]; exact hv_up_s
    exact hv_vret hQ hx hb hr hZ hS hP hlocks d_Model_begins_23 (⟨rfl, B2, hM, ⟨⟨hcp.other r1 hW.1.1 (by decide), fun _ => by show mG B2 1 σ.stm; rw [(hW.2.2.2.2.1 hoff).2.1 (x4.symm.trans c4)]; exact hcp.to r1 hW.1.1, fun z => hcp.other (r3 z) hW.1.2.2 (by decide), hcp.other r4 hW.1.2.2 (by decide), hcp.bo r5 (by decide)⟩, ⟨x1, x2, x3, by show A.changes + 1 = σ.sc + 1; rw [x4], x5⟩, r6⟩⟩)

abbrev rm_Model_back : Room := { frames := 2, cells := 0, slots := 0, locals := 46 }
set_option maxHeartbeats 4000000 in
set_option maxRecDepth 100000 in
theorem c_Model_back {l : Launch} {s0 : State} {D : va_G} {ca : Nat → ClassId} (C : hv_C l s0 D (hv_tys ca)) {w : hv_W} {K : Nat → Nat} {w0 : hv_W} {A : mA} {B : mB} (hM : mK ca K w0 A B w) {σ : gS} (hRel : mRel A B σ) (hW : gW σ)  :
    hv_Met l y_Model_back [.code y_Model_back b_Model_back 1 none] rm_Model_back (hv_Pc s0 D w [.ref (K 0)]) (hv_Q s0 D (fun v w' => v = none ∧ mS ca K w0 A.thrown (s_undo σ) w') (fun _ _ => False)) 0 0 (hv_A s0.heap.size) := by
  refine hv_enter C _ (by decide) (Nat.le_of_ble_eq_true rfl) ?_
  intro p e s m below meth c ls Q hQ hx hb hr hml hown hts hK hZ hlocks hname hout htr hP hl
  have hown : s.vm.findClass R_Model = some m.cls := hown
  have hS : va_S (hv_A s0.heap.size) s.heap s.heap [] := va_S.rf
  have hl : lv_has ls 1 [(0, .ref (K 0))] := hl
  obtain ⟨⟨r1, r2, r3, r4, r5⟩, ⟨x1, x2, x3, x4, x5⟩, r6⟩ := id hRel
  have hsc9 : A.changes ≤ 249 := by rw [x4]; have := hW.hb; omega
  refine lv_aload_n hx hb d_Model_back_0 rfl (lv_at hl 0 rfl) ?_
  have h1 : w (K 0) = some (.inr (7, [.int A.thrown, .ref (K 1), .ref (K 2), .ref (K 3), .ref (K 4), .ref (K 5), .ref (K 6), .ref (K 7), .ref (K 8), .ref (K 9), .ref (K 10), .ref (K 11), .ref (K 12), .int (nI A.tapeSize), .ref (K 13), .int A.error, .int A.off, .int A.inside, .int (nI A.changes), .int (nI A.earlier), .int (nI A.logged), .int A.over, .int (nI A.loose), .int A.written, .int (nI A.due)])) := hM.1.2 0 (by decide)
  refine va_get (D := D) (ci := 7) (v := .int (nI A.changes)) (C := R_Model) (T := F_Model) (N := 25) hx hb hts i_Model hown hK (hv_one hP h1) 0 rfl rfl 18 (by decide) (hts _ k_Model_59) (fun _ h9 => h9) rfl d_Model_back_1 ?_
  refine gk_if_le (x := A.changes) (tgt := 13) hx hb d_Model_back_4 (by decide) (by omega) (fun c4 => ?_) (fun c4 => ?_)
  · refine lv_aload_n hx hb d_Model_back_13 rfl (lv_at hl 0 rfl) ?_
    refine hv_call (hv_runV (As := []) (rest := []) (c_Model_settle C hM) (hv_cw C hZ kc_Model_settle kn_Model ⟨rfl, rfl, Nat.le_of_ble_eq_true rfl, Nat.le_of_ble_eq_true rfl⟩) hv_blind (hv_pre hZ hS hP) hx hml hb hown (hts _ k_Model_75) (hts _ ki_Model_settle) (hts _ ksel_Model_Model_settle) hy_Model_settle (hts _ kc_Model_settle) (va_recv hK (hv_one hP h1) (ci := 7) (q0 := 0) rfl rfl) rfl hl.1 rfl (lv_room (Nat.le_of_ble_eq_true rfl)) d_Model_back_14 ⟨Nat.le_of_ble_eq_true rfl, Nat.le_of_ble_eq_true rfl⟩) hZ hS (fun v9 w2 H locs q3 hP hS => ?_) (fun x9 w2 H locs q3 hP hS => q3.elim)
    obtain ⟨hv9, g9, hM, hz9⟩ := q3
    subst hv9
    show W _ _ _ _ _ _ _ _ _ _ _ _ _ _ _ (F0 m 17 ls [])
    exact hv_vret hQ hx hb hr hZ hS hP hlocks d_Model_back_17 (⟨rfl, _, _, hM, by rw [s_undo, if_pos (x4.symm.trans c4)]; exact hRel.settle hz9, rfl⟩)
  · refine lv_aload_n hx hb d_Model_back_7 rfl (lv_at hl 0 rfl) ?_
    refine lv_iconst (v := 1) hx hb d_Model_back_8 (by decide) ?_
    refine lv_iconst (v := 0) hx hb d_Model_back_9 (by decide) ?_
    refine hv_call (hv_runV (As := [.int 1, .int 0]) (rest := []) (c_Model_copy C (f := 1) (t := 0) (by decide) (by decide) (by decide) hM r5) (hv_cw C hZ kc_Model_copy kn_Model ⟨rfl, rfl, Nat.le_of_ble_eq_true rfl, Nat.le_of_ble_eq_true rfl⟩) hv_blind (hv_pre hZ hS hP) hx hml hb hown (hts _ k_Model_72) (hts _ ki_Model_copy) (hts _ ksel_Model_Model_copy) hy_Model_copy (hts _ kc_Model_copy) (va_recv hK (hv_one hP h1) (ci := 7) (q0 := 0) rfl rfl) rfl hl.1 rfl (lv_room (Nat.le_of_ble_eq_true rfl)) d_Model_back_10 ⟨Nat.le_of_ble_eq_true rfl, Nat.le_of_ble_eq_true rfl⟩) hZ hS (fun v9 w4 H locs q5 hP hS => ?_) (fun x9 w4 H locs q5 hP hS => q5.elim)
    obtain ⟨hv9, B2, hM, hcp⟩ := q5
    subst hv9
    have hcp : mCopy B B2 1 0 := hcp
    show W _ _ _ _ _ _ _ _ _ _ _ _ _ _ _ (F0 m 13 ls [])
    have hRel : mRel A B2 (σ.sNow σ.stm) := ⟨⟨hcp.to (r2 (fun z => c4 (x4.trans z))) hW.1.2.1, fun z => hcp.other (r2 z) hW.1.2.1 (by decide), fun z => hcp.other (r3 z) hW.1.2.2 (by decide), hcp.other r4 hW.1.2.2 (by decide), hcp.bo r5 (by decide)⟩, ⟨x1, x2, x3, x4, x5⟩, r6⟩
    refine lv_aload_n hx hb d_Model_back_13 rfl (lv_at hl 0 rfl) ?_
    have h6 : w4 (K 0) = some (.inr (7, [.int A.thrown, .ref (K 1), .ref (K 2), .ref (K 3), .ref (K 4), .ref (K 5), .ref (K 6), .ref (K 7), .ref (K 8), .ref (K 9), .ref (K 10), .ref (K 11), .ref (K 12), .int (nI A.tapeSize), .ref (K 13), .int A.error, .int A.off, .int A.inside, .int (nI A.changes), .int (nI A.earlier), .int (nI A.logged), .int A.over, .int (nI A.loose), .int A.written, .int (nI A.due)])) := hM.1.2 0 (by decide)
    refine hv_call (hv_runV (As := []) (rest := []) (c_Model_settle C hM) (hv_cw C hZ kc_Model_settle kn_Model ⟨rfl, rfl, Nat.le_of_ble_eq_true rfl, Nat.le_of_ble_eq_true rfl⟩) hv_blind (hv_pre hZ hS hP) hx hml hb hown (hts _ k_Model_75) (hts _ ki_Model_settle) (hts _ ksel_Model_Model_settle) hy_Model_settle (hts _ kc_Model_settle) (va_recv hK (hv_one hP h6) (ci := 7) (q0 := 0) rfl rfl) rfl hl.1 rfl (lv_room (Nat.le_of_ble_eq_true rfl)) d_Model_back_14 ⟨Nat.le_of_ble_eq_true rfl, Nat.le_of_ble_eq_true rfl⟩) hZ hS (fun v9 w7 H locs q8 hP hS => ?_) (fun x9 w7 H locs q8 hP hS => q8.elim)
    obtain ⟨hv9, g9, hM, hz9⟩ := q8
    subst hv9
    show W _ _ _ _ _ _ _ _ _ _ _ _ _ _ _ (F0 m 17 ls [])
    exact hv_vret hQ hx hb hr hZ hS hP hlocks d_Model_back_17 (⟨rfl, _, _, hM, by rw [s_undo, if_neg (fun z => c4 (x4.trans z))]; exact hRel.settle hz9, rfl⟩)

abbrev rm_Model_write : Room := { frames := 1, cells := 0, slots := 0, locals := 21 }
set_option maxHeartbeats 4000000 in
set_option maxRecDepth 100000 in
theorem c_Model_write {l : Launch} {s0 : State} {D : va_G} {ca : Nat → ClassId} (C : hv_C l s0 D (hv_tys ca)) {w : hv_W} {K : Nat → Nat} {w0 : hv_W} {A : mA} {B : mB} (hM : mK ca K w0 A B w) {σ : gS} (hRel : mRel A B σ) (hW : gW σ)  :
    hv_Met l y_Model_write [.code y_Model_write b_Model_write 1 (some .boolean)] rm_Model_write (hv_Pc s0 D w [.ref (K 0)]) (hv_Q s0 D (fun v w' => (σ.due = 1 ∧ v = some (.int 0) ∧ mS ca K w0 A.thrown (s_off (σ.sDue 0)) w') ∨ (¬ σ.due = 1 ∧ v = some (.int 1) ∧ ∃ A', mK ca K w0 A' B w' ∧ mRel A' B ((σ.sDue (σ.due - 1)).sWr (σ.wr + 1)) ∧ A'.thrown = A.thrown)) (fun _ _ => False)) 0 0 (hv_A s0.heap.size) := by
  refine hv_enter C _ (by decide) (Nat.le_of_ble_eq_true rfl) ?_
  intro p e s m below meth c ls Q hQ hx hb hr hml hown hts hK hZ hlocks hname hout htr hP hl
  have hown : s.vm.findClass R_Model = some m.cls := hown
  have hS : va_S (hv_A s0.heap.size) s.heap s.heap [] := va_S.rf
  have hl : lv_has ls 1 [(0, .ref (K 0))] := hl
  have hdu : A.due = σ.due := hRel.2.2.1.2.2.2.2
  have hdl : A.due ≤ 2000 := by rw [hdu]; exact hW.2.2.1.2.2.2
  refine lv_aload_n hx hb d_Model_write_0 rfl (lv_at hl 0 rfl) ?_
  have h1 : w (K 0) = some (.inr (7, [.int A.thrown, .ref (K 1), .ref (K 2), .ref (K 3), .ref (K 4), .ref (K 5), .ref (K 6), .ref (K 7), .ref (K 8), .ref (K 9), .ref (K 10), .ref (K 11), .ref (K 12), .int (nI A.tapeSize), .ref (K 13), .int A.error, .int A.off, .int A.inside, .int (nI A.changes), .int (nI A.earlier), .int (nI A.logged), .int A.over, .int (nI A.loose), .int A.written, .int (nI A.due)])) := hM.1.2 0 (by decide)
  refine va_get (D := D) (ci := 7) (v := .int (nI A.due)) (C := R_Model) (T := F_Model) (N := 25) hx hb hts i_Model hown hK (hv_one hP h1) 0 rfl rfl 24 (by decide) (hts _ k_Model_78) (fun _ h9 => h9) rfl d_Model_write_1 ?_
  refine lv_iconst (v := 1) hx hb d_Model_write_4 (by decide) ?_
  refine gk_icmp_ne (x := A.due) (y := 1) (tgt := 38) hx hb d_Model_write_5 (by decide) (by omega) (by omega) (fun c5 => ?_) (fun c5 => ?_)
  · refine lv_aload_n hx hb d_Model_write_38 rfl (lv_at hl 0 rfl) ?_
    refine lv_dup hx hb d_Model_write_39 rfl ?_
    refine va_get (D := D) (ci := 7) (v := .int (nI A.due)) (C := R_Model) (T := F_Model) (N := 25) hx hb hts i_Model hown hK (hv_one hP h1) 0 rfl rfl 24 (by decide) (hts _ k_Model_78) (fun _ h9 => h9) rfl d_Model_write_40 ?_
    refine lv_aload_n hx hb d_Model_write_43 rfl (lv_at hl 0 rfl) ?_
    refine va_get (D := D) (ci := 7) (v := .int (nI A.due)) (C := R_Model) (T := F_Model) (N := 25) hx hb hts i_Model hown hK (hv_one hP h1) 0 rfl rfl 24 (by decide) (hts _ k_Model_78) (fun _ h9 => h9) rfl d_Model_write_44 ?_
    refine gk_if_le (x := A.due) (tgt := 54) hx hb d_Model_write_47 (by decide) (by omega) (fun c47 => ?_) (fun c47 => ?_)
    · refine lv_iconst (v := 0) hx hb d_Model_write_54 (by decide) ?_
      refine gk_isub (x := A.due) (y := 0) hx hb d_Model_write_55 (by omega) ?_
      refine hv_put (D := D) (ci := 7) (v := .int (nI (A.due - 0))) (ty := .int) (C := R_Model) (T := F_Model) (N := 25) hx hb hts i_Model t_Model t_Model_ok n_Model hown hK hP hS h1 rfl 24 (by decide) (hts _ k_Model_78) (fun _ h9 => h9) rfl (by decide +kernel) rfl rfl (Nat.le_of_ble_eq_true rfl) d_Model_write_56 (fun H locs hP hS => ?_)
      obtain ⟨w2, ew2⟩ : ∃ z9 : hv_W, z9 = va_up w (K 0) (some (.inr (7, [.int A.thrown, .ref (K 1), .ref (K 2), .ref (K 3), .ref (K 4), .ref (K 5), .ref (K 6), .ref (K 7), .ref (K 8), .ref (K 9), .ref (K 10), .ref (K 11), .ref (K 12), .int (nI A.tapeSize), .ref (K 13), .int A.error, .int A.off, .int A.inside, .int (nI A.changes), .int (nI A.earlier), .int (nI A.logged), .int A.over, .int (nI A.loose), .int A.written, .int (nI (A.due - 0))]))) := ⟨_, rfl⟩
      have hP : hv_P D classes s0.heap.size w2 H := by rw [ew2]; exact hP
      have hM : mK ca K w0 (A.sDue (A.due - 0)) B w2 := by rw [ew2]; exact hM.put 0 (by decide) rfl
      have h3 : w2 (K 0) = some (.inr (7, [.int A.thrown, .ref (K 1), .ref (K 2), .ref (K 3), .ref (K 4), .ref (K 5), .ref (K 6), .ref (K 7), .ref (K 8), .ref (K 9), .ref (K 10), .ref (K 11), .ref (K 12), .int (nI A.tapeSize), .ref (K 13), .int A.error, .int A.off, .int A.inside, .int (nI A.changes), .int (nI A.earlier), .int (nI A.logged), .int A.over, .int (nI A.loose), .int A.written, .int (nI (A.due - 0))])) := by rw [ew2]; exact hv_up_s
      refine lv_aload_n hx hb d_Model_write_59 rfl (lv_at hl 0 rfl) ?_
      refine lv_dup hx hb d_Model_write_60 rfl ?_
      refine va_get (D := D) (ci := 7) (v := .int A.written) (C := R_Model) (T := F_Model) (N := 25) hx hb hts i_Model hown hK (hv_one hP h3) 0 rfl rfl 23 (by decide) (hts _ k_Model_87) (fun _ h9 => h9) rfl d_Model_write_61 ?_
      refine lv_iconst (v := 1) hx hb d_Model_write_64 (by decide) ?_
      refine lv_iadd hx hb d_Model_write_65 ?_
      refine hv_put (D := D) (ci := 7) (v := .int (A.written + 1)) (ty := .int) (C := R_Model) (T := F_Model) (N := 25) hx hb hts i_Model t_Model t_Model_ok n_Model hown hK hP hS h3 rfl 23 (by decide) (hts _ k_Model_87) (fun _ h9 => h9) rfl (by decide +kernel) rfl rfl (Nat.le_of_ble_eq_true rfl) d_Model_write_66 (fun H locs hP hS => ?_)
      obtain ⟨w4, ew4⟩ : ∃ z9 : hv_W, z9 = va_up w2 (K 0) (some (.inr (7, [.int A.thrown, .ref (K 1), .ref (K 2), .ref (K 3), .ref (K 4), .ref (K 5), .ref (K 6), .ref (K 7), .ref (K 8), .ref (K 9), .ref (K 10), .ref (K 11), .ref (K 12), .int (nI A.tapeSize), .ref (K 13), .int A.error, .int A.off, .int A.inside, .int (nI A.changes), .int (nI A.earlier), .int (nI A.logged), .int A.over, .int (nI A.loose), .int (A.written + 1), .int (nI (A.due - 0))]))) := ⟨_, rfl⟩
      have hP : hv_P D classes s0.heap.size w4 H := by rw [ew4]; exact hP
      have hM : mK ca K w0 ((A.sWritten (A.written + 1)).sDue (A.due - 0)) B w4 := by rw [ew4]; exact hM.put 0 (by decide) rfl
      have h5 : w4 (K 0) = some (.inr (7, [.int A.thrown, .ref (K 1), .ref (K 2), .ref (K 3), .ref (K 4), .ref (K 5), .ref (K 6), .ref (K 7), .ref (K 8), .ref (K 9), .ref (K 10), .ref (K 11), .ref (K 12), .int (nI A.tapeSize), .ref (K 13), .int A.error, .int A.off, .int A.inside, .int (nI A.changes), .int (nI A.earlier), .int (nI A.logged), .int A.over, .int (nI A.loose), .int (A.written + 1), .int (nI (A.due - 0))])) := by rw [ew4]; exact hv_up_s
      refine lv_iconst (v := 1) hx hb d_Model_write_69 (by decide) ?_
      exact hv_zret (v := 1) hQ hx hb hr (by decide) hZ hS hP hlocks d_Model_write_70 (Or.inr ⟨fun z => c5 (hdu.trans z), rfl, _, hM, ⟨hRel.1, hRel.2.1, ⟨hRel.2.2.1.1, hRel.2.2.1.2.1, hRel.2.2.1.2.2.1, by show A.written + 1 = σ.wr + 1; rw [hRel.2.2.1.2.2.2.1], by show A.due - 0 = σ.due - 1; omega⟩, hRel.2.2.2⟩, rfl⟩)
    · refine lv_iconst (v := 1) hx hb d_Model_write_50 (by decide) ?_
      refine lv_goto (tgt := 55) hx hb d_Model_write_51 (by decide) ?_
      refine gk_isub (x := A.due) (y := 1) hx hb d_Model_write_55 (by omega) ?_
      refine hv_put (D := D) (ci := 7) (v := .int (nI (A.due - 1))) (ty := .int) (C := R_Model) (T := F_Model) (N := 25) hx hb hts i_Model t_Model t_Model_ok n_Model hown hK hP hS h1 rfl 24 (by decide) (hts _ k_Model_78) (fun _ h9 => h9) rfl (by decide +kernel) rfl rfl (Nat.le_of_ble_eq_true rfl) d_Model_write_56 (fun H locs hP hS => ?_)
      obtain ⟨w6, ew6⟩ : ∃ z9 : hv_W, z9 = va_up w (K 0) (some (.inr (7, [.int A.thrown, .ref (K 1), .ref (K 2), .ref (K 3), .ref (K 4), .ref (K 5), .ref (K 6), .ref (K 7), .ref (K 8), .ref (K 9), .ref (K 10), .ref (K 11), .ref (K 12), .int (nI A.tapeSize), .ref (K 13), .int A.error, .int A.off, .int A.inside, .int (nI A.changes), .int (nI A.earlier), .int (nI A.logged), .int A.over, .int (nI A.loose), .int A.written, .int (nI (A.due - 1))]))) := ⟨_, rfl⟩
      have hP : hv_P D classes s0.heap.size w6 H := by rw [ew6]; exact hP
      have hM : mK ca K w0 (A.sDue (A.due - 1)) B w6 := by rw [ew6]; exact hM.put 0 (by decide) rfl
      have h7 : w6 (K 0) = some (.inr (7, [.int A.thrown, .ref (K 1), .ref (K 2), .ref (K 3), .ref (K 4), .ref (K 5), .ref (K 6), .ref (K 7), .ref (K 8), .ref (K 9), .ref (K 10), .ref (K 11), .ref (K 12), .int (nI A.tapeSize), .ref (K 13), .int A.error, .int A.off, .int A.inside, .int (nI A.changes), .int (nI A.earlier), .int (nI A.logged), .int A.over, .int (nI A.loose), .int A.written, .int (nI (A.due - 1))])) := by rw [ew6]; exact hv_up_s
      refine lv_aload_n hx hb d_Model_write_59 rfl (lv_at hl 0 rfl) ?_
      refine lv_dup hx hb d_Model_write_60 rfl ?_
      refine va_get (D := D) (ci := 7) (v := .int A.written) (C := R_Model) (T := F_Model) (N := 25) hx hb hts i_Model hown hK (hv_one hP h7) 0 rfl rfl 23 (by decide) (hts _ k_Model_87) (fun _ h9 => h9) rfl d_Model_write_61 ?_
      refine lv_iconst (v := 1) hx hb d_Model_write_64 (by decide) ?_
      refine lv_iadd hx hb d_Model_write_65 ?_
      refine hv_put (D := D) (ci := 7) (v := .int (A.written + 1)) (ty := .int) (C := R_Model) (T := F_Model) (N := 25) hx hb hts i_Model t_Model t_Model_ok n_Model hown hK hP hS h7 rfl 23 (by decide) (hts _ k_Model_87) (fun _ h9 => h9) rfl (by decide +kernel) rfl rfl (Nat.le_of_ble_eq_true rfl) d_Model_write_66 (fun H locs hP hS => ?_)
      obtain ⟨w8, ew8⟩ : ∃ z9 : hv_W, z9 = va_up w6 (K 0) (some (.inr (7, [.int A.thrown, .ref (K 1), .ref (K 2), .ref (K 3), .ref (K 4), .ref (K 5), .ref (K 6), .ref (K 7), .ref (K 8), .ref (K 9), .ref (K 10), .ref (K 11), .ref (K 12), .int (nI A.tapeSize), .ref (K 13), .int A.error, .int A.off, .int A.inside, .int (nI A.changes), .int (nI A.earlier), .int (nI A.logged), .int A.over, .int (nI A.loose), .int (A.written + 1), .int (nI (A.due - 1))]))) := ⟨_, rfl⟩
      have hP : hv_P D classes s0.heap.size w8 H := by rw [ew8]; exact hP
      have hM : mK ca K w0 ((A.sWritten (A.written + 1)).sDue (A.due - 1)) B w8 := by rw [ew8]; exact hM.put 0 (by decide) rfl
      have h9 : w8 (K 0) = some (.inr (7, [.int A.thrown, .ref (K 1), .ref (K 2), .ref (K 3), .ref (K 4), .ref (K 5), .ref (K 6), .ref (K 7), .ref (K 8), .ref (K 9), .ref (K 10), .ref (K 11), .ref (K 12), .int (nI A.tapeSize), .ref (K 13), .int A.error, .int A.off, .int A.inside, .int (nI A.changes), .int (nI A.earlier), .int (nI A.logged), .int A.over, .int (nI A.loose), .int (A.written + 1), .int (nI (A.due - 1))])) := by rw [ew8]; exact hv_up_s
      refine lv_iconst (v := 1) hx hb d_Model_write_69 (by decide) ?_
      exact hv_zret (v := 1) hQ hx hb hr (by decide) hZ hS hP hlocks d_Model_write_70 (Or.inr ⟨fun z => c5 (hdu.trans z), rfl, _, hM, ⟨hRel.1, hRel.2.1, ⟨hRel.2.2.1.1, hRel.2.2.1.2.1, hRel.2.2.1.2.2.1, by show A.written + 1 = σ.wr + 1; rw [hRel.2.2.1.2.2.2.1], by show A.due - 1 = σ.due - 1; omega⟩, hRel.2.2.2⟩, rfl⟩)
  · refine lv_aload_n hx hb d_Model_write_8 rfl (lv_at hl 0 rfl) ?_
    refine lv_iconst (v := 1) hx hb d_Model_write_9 (by decide) ?_
    refine hv_put (D := D) (ci := 7) (v := .int 1) (ty := .boolean) (C := R_Model) (T := F_Model) (N := 25) hx hb hts i_Model t_Model t_Model_ok n_Model hown hK hP hS h1 rfl 16 (by decide) (hts _ k_Model_62) (fun _ h9 => h9) rfl (by decide +kernel) (by decide +kernel) (by decide +kernel) (Nat.le_of_ble_eq_true rfl) d_Model_write_10 (fun H locs hP hS => ?_)
    obtain ⟨w10, ew10⟩ : ∃ z9 : hv_W, z9 = va_up w (K 0) (some (.inr (7, [.int A.thrown, .ref (K 1), .ref (K 2), .ref (K 3), .ref (K 4), .ref (K 5), .ref (K 6), .ref (K 7), .ref (K 8), .ref (K 9), .ref (K 10), .ref (K 11), .ref (K 12), .int (nI A.tapeSize), .ref (K 13), .int A.error, .int 1, .int A.inside, .int (nI A.changes), .int (nI A.earlier), .int (nI A.logged), .int A.over, .int (nI A.loose), .int A.written, .int (nI A.due)]))) := ⟨_, rfl⟩
    have hP : hv_P D classes s0.heap.size w10 H := by rw [ew10]; exact hP
    have hM : mK ca K w0 (A.sOff 1) B w10 := by rw [ew10]; exact hM.put 0 (by decide) rfl
    have h11 : w10 (K 0) = some (.inr (7, [.int A.thrown, .ref (K 1), .ref (K 2), .ref (K 3), .ref (K 4), .ref (K 5), .ref (K 6), .ref (K 7), .ref (K 8), .ref (K 9), .ref (K 10), .ref (K 11), .ref (K 12), .int (nI A.tapeSize), .ref (K 13), .int A.error, .int 1, .int A.inside, .int (nI A.changes), .int (nI A.earlier), .int (nI A.logged), .int A.over, .int (nI A.loose), .int A.written, .int (nI A.due)])) := by rw [ew10]; exact hv_up_s
    refine lv_aload_n hx hb d_Model_write_13 rfl (lv_at hl 0 rfl) ?_
    refine lv_iconst (v := 0) hx hb d_Model_write_14 (by decide) ?_
    refine hv_put (D := D) (ci := 7) (v := .int 0) (ty := .int) (C := R_Model) (T := F_Model) (N := 25) hx hb hts i_Model t_Model t_Model_ok n_Model hown hK hP hS h11 rfl 24 (by decide) (hts _ k_Model_78) (fun _ h9 => h9) rfl (by decide +kernel) rfl rfl (Nat.le_of_ble_eq_true rfl) d_Model_write_15 (fun H locs hP hS => ?_)
    obtain ⟨w12, ew12⟩ : ∃ z9 : hv_W, z9 = va_up w10 (K 0) (some (.inr (7, [.int A.thrown, .ref (K 1), .ref (K 2), .ref (K 3), .ref (K 4), .ref (K 5), .ref (K 6), .ref (K 7), .ref (K 8), .ref (K 9), .ref (K 10), .ref (K 11), .ref (K 12), .int (nI A.tapeSize), .ref (K 13), .int A.error, .int 1, .int A.inside, .int (nI A.changes), .int (nI A.earlier), .int (nI A.logged), .int A.over, .int (nI A.loose), .int A.written, .int 0]))) := ⟨_, rfl⟩
    have hP : hv_P D classes s0.heap.size w12 H := by rw [ew12]; exact hP
    have hM : mK ca K w0 ((A.sOff 1).sDue 0) B w12 := by rw [ew12]; exact hM.put 0 (by decide) rfl
    have h13 : w12 (K 0) = some (.inr (7, [.int A.thrown, .ref (K 1), .ref (K 2), .ref (K 3), .ref (K 4), .ref (K 5), .ref (K 6), .ref (K 7), .ref (K 8), .ref (K 9), .ref (K 10), .ref (K 11), .ref (K 12), .int (nI A.tapeSize), .ref (K 13), .int A.error, .int 1, .int A.inside, .int (nI A.changes), .int (nI A.earlier), .int (nI A.logged), .int A.over, .int (nI A.loose), .int A.written, .int 0])) := by rw [ew12]; exact hv_up_s
    refine lv_aload_n hx hb d_Model_write_18 rfl (lv_at hl 0 rfl) ?_
    refine lv_iconst (v := 0) hx hb d_Model_write_19 (by decide) ?_
    refine hv_put (D := D) (ci := 7) (v := .int 0) (ty := .boolean) (C := R_Model) (T := F_Model) (N := 25) hx hb hts i_Model t_Model t_Model_ok n_Model hown hK hP hS h13 rfl 17 (by decide) (hts _ k_Model_81) (fun _ h9 => h9) rfl (by decide +kernel) (by decide +kernel) (by decide +kernel) (Nat.le_of_ble_eq_true rfl) d_Model_write_20 (fun H locs hP hS => ?_)
    obtain ⟨w14, ew14⟩ : ∃ z9 : hv_W, z9 = va_up w12 (K 0) (some (.inr (7, [.int A.thrown, .ref (K 1), .ref (K 2), .ref (K 3), .ref (K 4), .ref (K 5), .ref (K 6), .ref (K 7), .ref (K 8), .ref (K 9), .ref (K 10), .ref (K 11), .ref (K 12), .int (nI A.tapeSize), .ref (K 13), .int A.error, .int 1, .int 0, .int (nI A.changes), .int (nI A.earlier), .int (nI A.logged), .int A.over, .int (nI A.loose), .int A.written, .int 0]))) := ⟨_, rfl⟩
    have hP : hv_P D classes s0.heap.size w14 H := by rw [ew14]; exact hP
    have hM : mK ca K w0 (((A.sOff 1).sInside 0).sDue 0) B w14 := by rw [ew14]; exact hM.put 0 (by decide) rfl
    have h15 : w14 (K 0) = some (.inr (7, [.int A.thrown, .ref (K 1), .ref (K 2), .ref (K 3), .ref (K 4), .ref (K 5), .ref (K 6), .ref (K 7), .ref (K 8), .ref (K 9), .ref (K 10), .ref (K 11), .ref (K 12), .int (nI A.tapeSize), .ref (K 13), .int A.error, .int 1, .int 0, .int (nI A.changes), .int (nI A.earlier), .int (nI A.logged), .int A.over, .int (nI A.loose), .int A.written, .int 0])) := by rw [ew14]; exact hv_up_s
    refine lv_aload_n hx hb d_Model_write_23 rfl (lv_at hl 0 rfl) ?_
    refine lv_iconst (v := 0) hx hb d_Model_write_24 (by decide) ?_
    refine hv_put (D := D) (ci := 7) (v := .int 0) (ty := .int) (C := R_Model) (T := F_Model) (N := 25) hx hb hts i_Model t_Model t_Model_ok n_Model hown hK hP hS h15 rfl 19 (by decide) (hts _ k_Model_66) (fun _ h9 => h9) rfl (by decide +kernel) rfl rfl (Nat.le_of_ble_eq_true rfl) d_Model_write_25 (fun H locs hP hS => ?_)
    obtain ⟨w16, ew16⟩ : ∃ z9 : hv_W, z9 = va_up w14 (K 0) (some (.inr (7, [.int A.thrown, .ref (K 1), .ref (K 2), .ref (K 3), .ref (K 4), .ref (K 5), .ref (K 6), .ref (K 7), .ref (K 8), .ref (K 9), .ref (K 10), .ref (K 11), .ref (K 12), .int (nI A.tapeSize), .ref (K 13), .int A.error, .int 1, .int 0, .int (nI A.changes), .int 0, .int (nI A.logged), .int A.over, .int (nI A.loose), .int A.written, .int 0]))) := ⟨_, rfl⟩
    have hP : hv_P D classes s0.heap.size w16 H := by rw [ew16]; exact hP
    have hM : mK ca K w0 ((((A.sOff 1).sInside 0).sEarlier 0).sDue 0) B w16 := by rw [ew16]; exact hM.put 0 (by decide) rfl
    have h17 : w16 (K 0) = some (.inr (7, [.int A.thrown, .ref (K 1), .ref (K 2), .ref (K 3), .ref (K 4), .ref (K 5), .ref (K 6), .ref (K 7), .ref (K 8), .ref (K 9), .ref (K 10), .ref (K 11), .ref (K 12), .int (nI A.tapeSize), .ref (K 13), .int A.error, .int 1, .int 0, .int (nI A.changes), .int 0, .int (nI A.logged), .int A.over, .int (nI A.loose), .int A.written, .int 0])) := by rw [ew16]; exact hv_up_s
    refine lv_aload_n hx hb d_Model_write_28 rfl (lv_at hl 0 rfl) ?_
    refine hv_call (hv_runV (As := []) (rest := []) (c_Model_settle C hM) (hv_cw C hZ kc_Model_settle kn_Model ⟨rfl, rfl, Nat.le_of_ble_eq_true rfl, Nat.le_of_ble_eq_true rfl⟩) hv_blind (hv_pre hZ hS hP) hx hml hb hown (hts _ k_Model_75) (hts _ ki_Model_settle) (hts _ ksel_Model_Model_settle) hy_Model_settle (hts _ kc_Model_settle) (va_recv hK (hv_one hP h17) (ci := 7) (q0 := 0) rfl rfl) rfl hl.1 rfl (lv_room (Nat.le_of_ble_eq_true rfl)) d_Model_write_29 ⟨Nat.le_of_ble_eq_true rfl, Nat.le_of_ble_eq_true rfl⟩) hZ hS (fun v9 w18 H locs q19 hP hS => ?_) (fun x9 w18 H locs q19 hP hS => q19.elim)
    obtain ⟨hv9, g9, hM, hz9⟩ := q19
    subst hv9
    show W _ _ _ _ _ _ _ _ _ _ _ _ _ _ _ (F0 m 32 ls [])
    refine lv_aload_n hx hb d_Model_write_32 rfl (lv_at hl 0 rfl) ?_
    have h20 : w18 (K 0) = some (.inr (7, [.int A.thrown, .ref (K 1), .ref (K 2), .ref (K 3), .ref (K 4), .ref (K 5), .ref (K 6), .ref (K 7), .ref (K 8), .ref (K 9), .ref (K 10), .ref (K 11), .ref (K 12), .int (nI A.tapeSize), .ref (K 13), .int A.error, .int 1, .int 0, .int (nI 0), .int (nI 0), .int (nI A.logged), .int A.over, .int (nI A.loose), .int A.written, .int (nI 0)])) := hM.1.2 0 (by decide)
    refine hv_call (hv_runV (As := []) (rest := []) (c_Model_erase C hM) (hv_cw C hZ kc_Model_erase kn_Model ⟨rfl, rfl, Nat.le_of_ble_eq_true rfl, Nat.le_of_ble_eq_true rfl⟩) hv_blind (hv_pre hZ hS hP) hx hml hb hown (hts _ k_Model_84) (hts _ ki_Model_erase) (hts _ ksel_Model_Model_erase) hy_Model_erase (hts _ kc_Model_erase) (va_recv hK (hv_one hP h20) (ci := 7) (q0 := 0) rfl rfl) rfl hl.1 rfl (lv_room (Nat.le_of_ble_eq_true rfl)) d_Model_write_33 ⟨Nat.le_of_ble_eq_true rfl, Nat.le_of_ble_eq_true rfl⟩) hZ hS (fun v9 w21 H locs q22 hP hS => ?_) (fun x9 w21 H locs q22 hP hS => q22.elim)
    obtain ⟨hv9, g8, hM, hz8, ho8⟩ := q22
    subst hv9
    show W _ _ _ _ _ _ _ _ _ _ _ _ _ _ _ (F0 m 36 ls [])
    refine lv_iconst (v := 0) hx hb d_Model_write_36 (by decide) ?_
    exact hv_zret (v := 0) hQ hx hb hr (by decide) hZ hS hP hlocks d_Model_write_37 (Or.inl ⟨hdu.symm.trans c5, rfl, _, _, hM, hRel.erase hW hz8 hz9 ho8, rfl⟩)

abbrev rm_Model_fits : Room := { frames := 0, cells := 0, slots := 0, locals := 0 }
set_option maxHeartbeats 4000000 in
set_option maxRecDepth 100000 in
theorem c_Model_fits {l : Launch} {s0 : State} {D : va_G} {ca : Nat → ClassId} (C : hv_C l s0 D (hv_tys ca)) {w : hv_W} {K : Nat → Nat} {w0 : hv_W} {A : mA} {B : mB} {k : Nat} (hM : mK ca K w0 A B w) (hk : k ≤ 249) (hen : A.logged ≤ 250)  :
    hv_Met l y_Model_fits [.code y_Model_fits b_Model_fits 2 (some .boolean)] rm_Model_fits (hv_Pc s0 D w [.ref (K 0), .int (nI k)]) (hv_Q s0 D (fun v w' => v = some (.int (if A.logged + k + 1 ≤ 250 then 1 else 0)) ∧ w' = w) (fun _ _ => False)) 0 0 (hv_A s0.heap.size) := by
  refine hv_enter C _ (by decide) (Nat.le_of_ble_eq_true rfl) ?_
  intro p e s m below meth c ls Q hQ hx hb hr hml hown hts hK hZ hlocks hname hout htr hP hl
  have hown : s.vm.findClass R_Model = some m.cls := hown
  have hS : va_S (hv_A s0.heap.size) s.heap s.heap [] := va_S.rf
  have hl : lv_has ls 2 [(0, .ref (K 0)), (1, .int (nI k))] := hl
  refine lv_aload_n hx hb d_Model_fits_0 rfl (lv_at hl 0 rfl) ?_
  have h1 : w (K 0) = some (.inr (7, [.int A.thrown, .ref (K 1), .ref (K 2), .ref (K 3), .ref (K 4), .ref (K 5), .ref (K 6), .ref (K 7), .ref (K 8), .ref (K 9), .ref (K 10), .ref (K 11), .ref (K 12), .int (nI A.tapeSize), .ref (K 13), .int A.error, .int A.off, .int A.inside, .int (nI A.changes), .int (nI A.earlier), .int (nI A.logged), .int A.over, .int (nI A.loose), .int A.written, .int (nI A.due)])) := hM.1.2 0 (by decide)
  refine va_get (D := D) (ci := 7) (v := .int (nI A.logged)) (C := R_Model) (T := F_Model) (N := 25) hx hb hts i_Model hown hK (hv_one hP h1) 0 rfl rfl 20 (by decide) (hts _ k_Model_97) (fun _ h9 => h9) rfl d_Model_fits_1 ?_
  refine lv_iload_n hx hb d_Model_fits_4 rfl (lv_at hl 1 rfl) ?_
  refine gk_iadd (x := A.logged) (y := k) hx hb d_Model_fits_5 ?_
  refine lv_iconst (v := 1) hx hb d_Model_fits_6 (by decide) ?_
  refine gk_iadd (x := A.logged + k) (y := 1) hx hb d_Model_fits_7 ?_
  refine lv_sipush (v := 250) hx hb d_Model_fits_8 (by decide) ?_
  refine gk_icmp_gt (x := (A.logged + k) + 1) (y := 250) (tgt := 18) hx hb d_Model_fits_11 (by decide) (by omega) (by omega) (fun c11 => ?_) (fun c11 => ?_)
  · refine lv_iconst (v := 0) hx hb d_Model_fits_18 (by decide) ?_
    exact hv_zret (v := 0) hQ hx hb hr (by decide) hZ hS hP hlocks d_Model_fits_19 (⟨by rw [if_neg (by omega)], rfl⟩)
  · refine lv_iconst (v := 1) hx hb d_Model_fits_14 (by decide) ?_
    refine lv_goto (tgt := 19) hx hb d_Model_fits_15 (by decide) ?_
    exact hv_zret (v := 1) hQ hx hb hr (by decide) hZ hS hP hlocks d_Model_fits_19 (⟨by rw [if_pos c11], rfl⟩)

